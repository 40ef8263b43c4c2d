/-! rows on bits, shifts and unsigned numbers, to paste: each family out of a closed proof of our own, whole with what it rests on; each by itself clean at Lean in its own claim (generation 39, form 5). Take a family whole -/
/-! ===== Int32 by its bits: bt x i ===== -/
def bt (x : Int32) (i : Nat) : Bool := x.toBitVec.getLsbD i
theorem b_ext {x y : Int32} (h : ∀ i, i < 32 → bt x i = bt y i) : x = y := Int32.toBitVec_inj.mp (BitVec.eq_of_getLsbD_eq (fun i hi => h i hi))
theorem b_or (x y : Int32) (i : Nat) : bt (x ||| y) i = (bt x i || bt y i) := by unfold bt; rw [Int32.toBitVec_or, BitVec.getLsbD_or]
theorem b_and (x y : Int32) (i : Nat) : bt (x &&& y) i = (bt x i && bt y i) := by unfold bt; rw [Int32.toBitVec_and, BitVec.getLsbD_and]
theorem b_xor (x y : Int32) (i : Nat) : bt (x ^^^ y) i = (bt x i ^^ bt y i) := by unfold bt; rw [Int32.toBitVec_xor, BitVec.getLsbD_xor]
theorem b_big {x : Int32} {i : Nat} (h : 32 ≤ i) : bt x i = false := BitVec.getLsbD_of_ge _ _ h
theorem b_255 (i : Nat) : bt 255 i = decide (i < 8) := by
  rcases Nat.lt_or_ge i 32 with h | h
  · exact (by decide +kernel : ∀ i, i < 32 → bt 255 i = decide (i < 8)) i h
  · rw [b_big h, decide_eq_false (by omega)]
theorem b_65535 (i : Nat) : bt 65535 i = decide (i < 16) := by
  rcases Nat.lt_or_ge i 32 with h | h
  · exact (by decide +kernel : ∀ i, i < 32 → bt 65535 i = decide (i < 16)) i h
  · rw [b_big h, decide_eq_false (by omega)]
theorem b_m1 : ∀ i, i < 32 → bt (-1) i = true := by decide +kernel
theorem b_0 (i : Nat) : bt 0 i = false := BitVec.getLsbD_zero
theorem s_l : ∀ n, n < 32 → ((nI n &&& 31).toBitVec.smod 32).toNat = n := by decide +kernel
theorem s_u : ∀ n, n < 32 → (((nI n).toUInt32 &&& Int32.toUInt32 31).toBitVec % 32).toNat = n := by decide +kernel
theorem b_shl (n : Nat) (hn : n < 32) (x : Int32) {i : Nat} (hi : i < 32) : bt (x <<< (nI n &&& 31)) i = (decide (n ≤ i) && bt x (i - n)) := by
  unfold bt
  rw [Int32.toBitVec_shiftLeft]
  show (x.toBitVec <<< ((nI n &&& 31).toBitVec.smod 32).toNat).getLsbD i = _
  rw [s_l n hn, BitVec.getLsbD_shiftLeft]
  rcases Nat.lt_or_ge i n with h | h
  · simp [h, Nat.not_le.mpr h]
  · simp [hi, h, Nat.not_lt.mpr h]
theorem b_ushr (n : Nat) (hn : n < 32) (x : Int32) (i : Nat) : bt ((x.toUInt32 >>> ((nI n).toUInt32 &&& Int32.toUInt32 31)).toInt32) i = bt x (n + i) := by
  show (x.toUInt32 >>> ((nI n).toUInt32 &&& Int32.toUInt32 31)).toBitVec.getLsbD i = x.toUInt32.toBitVec.getLsbD (n + i)
  rw [UInt32.toBitVec_shiftRight]
  show (x.toUInt32.toBitVec >>> (((nI n).toUInt32 &&& Int32.toUInt32 31).toBitVec % 32).toNat).getLsbD i = _
  rw [s_u n hn, BitVec.getLsbD_ushiftRight]
theorem b_sshr (n : Nat) (hn : n < 32) (x : Int32) {i : Nat} (hi : i < 32) : bt (x >>> (nI n &&& 31)) i = if n + i < 32 then bt x (n + i) else bt x 31 := by
  unfold bt
  rw [Int32.toBitVec_shiftRight]
  show (x.toBitVec.sshiftRight ((nI n &&& 31).toBitVec.smod 32).toNat).getLsbD i = _
  rw [s_l n hn, BitVec.getLsbD_sshiftRight, BitVec.msb_eq_getLsbD_last]
  simp [hi]
theorem b_shl8 (x : Int32) {i : Nat} (hi : i < 32) : bt (x <<< ((8 : Int32) &&& 31)) i = (decide (8 ≤ i) && bt x (i - 8)) := b_shl 8 (by omega) x hi
theorem b_shl16 (x : Int32) {i : Nat} (hi : i < 32) : bt (x <<< ((16 : Int32) &&& 31)) i = (decide (16 ≤ i) && bt x (i - 16)) := b_shl 16 (by omega) x hi
theorem b_shl24 (x : Int32) {i : Nat} (hi : i < 32) : bt (x <<< ((24 : Int32) &&& 31)) i = (decide (24 ≤ i) && bt x (i - 24)) := b_shl 24 (by omega) x hi
theorem b_sshr8 (x : Int32) {i : Nat} (hi : i < 32) : bt (x >>> ((8 : Int32) &&& 31)) i = if 8 + i < 32 then bt x (8 + i) else bt x 31 := b_sshr 8 (by omega) x hi
/-! text() ON FRESH OBJECTS -/
/-- a byte of an int -/
def tx_b (v : Int32) (j : Nat) : Int32 := (v >>> (nI j &&& 31)) &&& 255
def tx_g (b : Int32) : Bool := decide (b = 0) || (decide (31 < b) && decide (b < 127))
def tx_4 (v : Int32) : Bool := tx_g (tx_b v 24) && (tx_g (tx_b v 16) && (tx_g (tx_b v 8) && tx_g (tx_b v 0)))
def tx_i (b : Bool) : Int32 := if b = true then 1 else 0
theorem tx_u {n : Nat} (hn : n ≤ 24) (v : Int32) : ((v.toUInt32 >>> ((nI n).toUInt32 &&& Int32.toUInt32 31)).toInt32) &&& 255 = tx_b v n := by
  unfold tx_b
  refine b_ext (fun i hi => ?_)
  rw [b_and, b_and, b_ushr n (by omega), b_sshr n (by omega) v hi, b_255]
  by_cases h : i < 8
  · rw [if_pos (by omega)]
  · simp [h]
theorem tx_lt31 {b : Int32} : ¬ b < 32 ↔ 31 < b := by
  rw [Int32.lt_iff_toInt_lt, Int32.lt_iff_toInt_lt]
  have h1 : (32 : Int32).toInt = 32 := by decide
  have h2 : (31 : Int32).toInt = 31 := by decide
  omega
theorem tx_lt127 {b : Int32} : ¬ 126 < b ↔ b < 127 := by
  rw [Int32.lt_iff_toInt_lt, Int32.lt_iff_toInt_lt]
  have h1 : (126 : Int32).toInt = 126 := by decide
  have h2 : (127 : Int32).toInt = 127 := by decide
  omega
theorem xp_fuel {P : Option (Outcome × xi_H) → Prop} (hP : ¬ P none) {Ms : List xi_M} {n k y fr lo pc : Nat} {lv : xi_L} {st : List Value} {A : xi_H} (h : xg_P P (xi_go Ms n y fr lo pc lv st A)) : xg_P P (xi_go Ms (n + k) y fr lo pc lv st A) := by
  cases hr : xi_go Ms n y fr lo pc lv st A with
  | none => rw [hr] at h; exact absurd h hP
  | some r => rw [hr] at h; rw [xi_fuel hr]; exact h
/-- the text that was typed: k characters -/
def tx_T (A : xi_H) (k : Nat) : Prop := k ≤ 100 ∧ A[1]? = some (.inr (1, e_l1.set 1 (.int (nI k)))) ∧ ∃ f, A[2]? = some (.inl (2, 600, .inl f))
/-- cells 1 and 2 alone have changed -/
def tx_F (A A2 : xi_H) : Prop := (∀ j : Nat, j ≠ 1 → j ≠ 2 → A2[j]? = A[j]?) ∧ A2.length = A.length ∧ xi_ns A2 = xi_ns A
theorem tx_F.rf (A : xi_H) : tx_F A A := ⟨fun _ _ _ => rfl, rfl, rfl⟩
theorem tx_F.tr {A B C : xi_H} (h : tx_F A B) (k : tx_F B C) : tx_F A C := ⟨fun j h1 h2 => (k.1 j h1 h2).trans (h.1 j h1 h2), k.2.1.trans h.2.1, k.2.2.trans h.2.2⟩
theorem et_code {A : xi_H} {k n fr lo : Nat} (code : Int32) (hT : tx_T A k) (hk : k < 100) : ∃ (A2 : xi_H) (k2 : Nat), xi_go xi_ms (n + 40) 21 fr lo 0 (lv_args 0 [.ref 1, .int code]) [] A = some (.returned (some (.int (tx_i (decide (31 < code) && decide (code < 127))))), A2) ∧ tx_T A2 k2 ∧ k2 ≤ k + 1 ∧ tx_F A A2 := by
  obtain ⟨hk0, h1, f, h2⟩ := hT
  by_cases ha : code < 32
  · refine ⟨A, k, ?_, ⟨hk0, h1, f, h2⟩, by omega, tx_F.rf A⟩
    have e1 : (decide (31 < code) && decide (code < 127)) = false := by simp [← tx_lt31, ha]
    rw [e1]
    show xg_P (fun r => r = some (.returned (some (.int (tx_i false))), A)) _
    refine xp_s rfl rfl rfl rfl rfl ?_
    refine xp_s rfl rfl rfl rfl rfl ?_
    refine xp_s (pc2 := 22) rfl rfl rfl rfl (if_pos ha) ?_
    refine xp_s rfl rfl rfl rfl rfl ?_
    refine xp_e rfl rfl rfl ?_
    rfl
  · by_cases hb : 126 < code
    · refine ⟨A, k, ?_, ⟨hk0, h1, f, h2⟩, by omega, tx_F.rf A⟩
      have e1 : (decide (31 < code) && decide (code < 127)) = false := by simp [← tx_lt127, hb]
      rw [e1]
      show xg_P (fun r => r = some (.returned (some (.int (tx_i false))), A)) _
      refine xp_s rfl rfl rfl rfl rfl ?_
      refine xp_s rfl rfl rfl rfl rfl ?_
      refine xp_s (pc2 := 6) rfl rfl rfl rfl (if_neg ha) ?_
      refine xp_s rfl rfl rfl rfl rfl ?_
      refine xp_s rfl rfl rfl rfl rfl ?_
      refine xp_s (pc2 := 22) rfl rfl rfl rfl (if_pos hb) ?_
      refine xp_s rfl rfl rfl rfl rfl ?_
      refine xp_e rfl rfl rfl ?_
      rfl
    · have e1 : (decide (31 < code) && decide (code < 127)) = true := by simp [← tx_lt127, ← tx_lt31, ha, hb]
      rw [e1]
      show xg_P (fun r => ∃ (A2 : xi_H) (k2 : Nat), r = some (.returned (some (.int (tx_i true))), A2) ∧ tx_T A2 k2 ∧ k2 ≤ k + 1 ∧ tx_F A A2) _
      refine xp_s rfl rfl rfl rfl rfl ?_
      refine xp_s rfl rfl rfl rfl rfl ?_
      refine xp_s (pc2 := 6) rfl rfl rfl rfl (if_neg ha) ?_
      refine xp_s rfl rfl rfl rfl rfl ?_
      refine xp_s rfl rfl rfl rfl rfl ?_
      refine xp_s (pc2 := 12) rfl rfl rfl rfl (if_neg hb) ?_
      refine xp_s rfl rfl rfl rfl rfl ?_
      refine xp_get rfl rfl h1 rfl ?_
      refine xp_s rfl rfl rfl rfl rfl ?_
      refine xp_s (pc2 := 24) rfl rfl rfl rfl (if_pos (nI_lt (a := k) (b := 600) (by omega) (by omega))) ?_
      refine xp_s rfl rfl rfl rfl rfl ?_
      refine xp_get rfl rfl h1 rfl ?_
      refine xp_s rfl rfl rfl rfl rfl ?_
      refine xp_get rfl rfl h1 rfl ?_
      refine xp_s rfl rfl rfl rfl rfl ?_
      refine xp_s rfl rfl rfl rfl rfl ?_
      refine xp_cast rfl rfl h2 (nI_in (c := k) (N := 600) (by omega) (by omega)) (fun B1 hq1 hs1 hL1 hN1 => ?_)
      have hz1_1 := (hs1 1 (by decide)).trans h1
      refine xp_s rfl rfl rfl rfl rfl ?_
      refine xp_s rfl rfl rfl rfl rfl ?_
      refine xp_get rfl rfl hz1_1 rfl ?_
      refine xp_s rfl rfl rfl rfl rfl ?_
      refine xp_s rfl rfl rfl rfl rfl ?_
      refine xp_put rfl rfl hz1_1 (by first | decide | exact Nat.le_of_ble_eq_true rfl) (by first | rfl | decide) (by first | rfl | decide) (fun B2 hq2 hs2 hL2 hN2 => ?_)
      have hz2_2 := (hs2 2 (by decide)).trans hq1
      refine xp_s rfl rfl rfl rfl rfl ?_
      refine xp_e rfl rfl rfl ?_
      refine ⟨_, k + 1, rfl, ⟨by omega, ?_, _, hz2_2⟩, Nat.le_refl _, fun j h3 h4 => (hs2 j h3).trans (hs1 j h4), by omega, by omega⟩
      rw [hq2, List.set_set, nI_succ]
      rfl
theorem et_iterF {P : Option (Outcome × xi_H) → Prop} (hP : ¬ P none) {A : xi_H} {k n j : Nat} {v : Int32} (hj : j ≤ 24) (hT : tx_T A k) (hk : k < 100)
    (hno : tx_g (tx_b v j) = false → ∀ (A2 : xi_H) (k2 : Nat), tx_T A2 k2 → k2 ≤ k + 1 → tx_F A A2 → P (some (.returned (some (.int 0)), A2)))
    (hyes : tx_g (tx_b v j) = true → ∀ (A2 : xi_H) (k2 : Nat), tx_T A2 k2 → k2 ≤ k + 1 → tx_F A A2 → xg_P P (xi_go xi_ms n 20 14 537 3 ((2, .int (nI j + Int32.ofInt (-8))) :: (3, .int (tx_b v j)) :: lv_args 0 [.ref 1, .int v]) [] A2)) :
    xg_P P (xi_go xi_ms (n + 80) 20 14 537 3 ((2, .int (nI j)) :: lv_args 0 [.ref 1, .int v]) [] A) := by
  refine xp_s rfl rfl rfl rfl rfl ?_
  refine xp_s (pc2 := 7) rfl rfl rfl rfl (if_neg (nI_pos (by omega))) ?_
  refine xp_s rfl rfl rfl rfl rfl ?_
  refine xp_s rfl rfl rfl rfl rfl ?_
  refine xp_s rfl rfl rfl rfl rfl ?_
  refine xp_s rfl rfl rfl rfl rfl ?_
  refine xp_s (st' := [.int (tx_b v j)]) rfl rfl rfl (congrArg (fun b => some (14, ((2, .int (nI j)) :: lv_args 0 [.ref 1, .int v] : xi_L), [Value.int b], A)) (tx_u hj v)) rfl ?_
  refine xp_s rfl rfl rfl rfl rfl ?_
  refine xp_s rfl rfl rfl rfl rfl ?_
  by_cases hb : tx_b v j = 0
  · refine xp_s (pc2 := 29) rfl rfl rfl rfl (if_pos hb) ?_
    refine xp_s rfl rfl rfl rfl rfl ?_
    refine xp_s rfl rfl rfl rfl rfl ?_
    exact xp_fuel hP (k := 68) (hyes (by simp [tx_g, hb]) A k hT (by omega) (tx_F.rf A))
  · refine xp_s (pc2 := 19) rfl rfl rfl rfl (if_neg hb) ?_
    refine xp_s rfl rfl rfl rfl rfl ?_
    refine xp_s rfl rfl rfl rfl rfl ?_
    obtain ⟨A2, k2, hr, hT2, hk2, hF2⟩ := et_code (n := n + 27) (fr := 13) (lo := 516) (tx_b v j) hT hk
    refine xp_V (As := [_]) (rest := []) rfl rfl rfl rfl rfl hT.2.1 ⟨⟨by decide, Nat.le_of_ble_eq_true rfl, by decide⟩, by decide, Nat.le_of_ble_eq_true rfl, rfl⟩ ?_
    refine xp_of hr ⟨_, _, rfl, ?_⟩
    cases hg : (decide (31 < tx_b v j) && decide (tx_b v j < 127)) with
    | true =>
      refine xp_s (pc2 := 29) rfl rfl rfl rfl (if_pos (by decide)) ?_
      refine xp_s rfl rfl rfl rfl rfl ?_
      refine xp_s rfl rfl rfl rfl rfl ?_
      exact xp_fuel hP (k := 64) (hyes (by simp only [tx_g, hg, Bool.or_true]) A2 k2 hT2 hk2 hF2)
    | false =>
      refine xp_s (pc2 := 27) rfl rfl rfl rfl (if_neg (by decide)) ?_
      refine xp_s rfl rfl rfl rfl rfl ?_
      refine xp_e rfl rfl rfl ?_
      exact hno (by simp only [tx_g, hg, Bool.or_false]; exact decide_eq_false hb) A2 k2 hT2 hk2 hF2
theorem et_iterN {P : Option (Outcome × xi_H) → Prop} (hP : ¬ P none) {A : xi_H} {k n j : Nat} {v c : Int32} (hj : j ≤ 24) (hT : tx_T A k) (hk : k < 100)
    (hno : tx_g (tx_b v j) = false → ∀ (A2 : xi_H) (k2 : Nat), tx_T A2 k2 → k2 ≤ k + 1 → tx_F A A2 → P (some (.returned (some (.int 0)), A2)))
    (hyes : tx_g (tx_b v j) = true → ∀ (A2 : xi_H) (k2 : Nat), tx_T A2 k2 → k2 ≤ k + 1 → tx_F A A2 → xg_P P (xi_go xi_ms n 20 14 537 3 ((2, .int (nI j + Int32.ofInt (-8))) :: (3, .int (tx_b v j)) :: lv_args 0 [.ref 1, .int v]) [] A2)) :
    xg_P P (xi_go xi_ms (n + 80) 20 14 537 3 ((2, .int (nI j)) :: (3, .int c) :: lv_args 0 [.ref 1, .int v]) [] A) := by
  refine xp_s rfl rfl rfl rfl rfl ?_
  refine xp_s (pc2 := 7) rfl rfl rfl rfl (if_neg (nI_pos (by omega))) ?_
  refine xp_s rfl rfl rfl rfl rfl ?_
  refine xp_s rfl rfl rfl rfl rfl ?_
  refine xp_s rfl rfl rfl rfl rfl ?_
  refine xp_s rfl rfl rfl rfl rfl ?_
  refine xp_s (st' := [.int (tx_b v j)]) rfl rfl rfl (congrArg (fun b => some (14, ((2, .int (nI j)) :: (3, .int c) :: lv_args 0 [.ref 1, .int v] : xi_L), [Value.int b], A)) (tx_u hj v)) rfl ?_
  refine xp_s rfl rfl rfl rfl rfl ?_
  refine xp_s rfl rfl rfl rfl rfl ?_
  by_cases hb : tx_b v j = 0
  · refine xp_s (pc2 := 29) rfl rfl rfl rfl (if_pos hb) ?_
    refine xp_s rfl rfl rfl rfl rfl ?_
    refine xp_s rfl rfl rfl rfl rfl ?_
    exact xp_fuel hP (k := 68) (hyes (by simp [tx_g, hb]) A k hT (by omega) (tx_F.rf A))
  · refine xp_s (pc2 := 19) rfl rfl rfl rfl (if_neg hb) ?_
    refine xp_s rfl rfl rfl rfl rfl ?_
    refine xp_s rfl rfl rfl rfl rfl ?_
    obtain ⟨A2, k2, hr, hT2, hk2, hF2⟩ := et_code (n := n + 27) (fr := 13) (lo := 516) (tx_b v j) hT hk
    refine xp_V (As := [_]) (rest := []) rfl rfl rfl rfl rfl hT.2.1 ⟨⟨by decide, Nat.le_of_ble_eq_true rfl, by decide⟩, by decide, Nat.le_of_ble_eq_true rfl, rfl⟩ ?_
    refine xp_of hr ⟨_, _, rfl, ?_⟩
    cases hg : (decide (31 < tx_b v j) && decide (tx_b v j < 127)) with
    | true =>
      refine xp_s (pc2 := 29) rfl rfl rfl rfl (if_pos (by decide)) ?_
      refine xp_s rfl rfl rfl rfl rfl ?_
      refine xp_s rfl rfl rfl rfl rfl ?_
      exact xp_fuel hP (k := 64) (hyes (by simp only [tx_g, hg, Bool.or_true]) A2 k2 hT2 hk2 hF2)
    | false =>
      refine xp_s (pc2 := 27) rfl rfl rfl rfl (if_neg (by decide)) ?_
      refine xp_s rfl rfl rfl rfl rfl ?_
      refine xp_e rfl rfl rfl ?_
      exact hno (by simp only [tx_g, hg, Bool.or_false]; exact decide_eq_false hb) A2 k2 hT2 hk2 hF2
theorem et_take {A : xi_H} {k : Nat} (v : Int32) (hT : tx_T A k) (hk : k + 4 ≤ 100) : ∃ (A2 : xi_H) (k2 : Nat), (∀ n, xi_go xi_ms (n + 330) 20 14 537 0 (lv_args 0 [.ref 1, .int v]) [] A = some (.returned (some (.int (tx_i (tx_4 v)))), A2)) ∧ tx_T A2 k2 ∧ k2 ≤ k + 4 ∧ tx_F A A2 := by
  have key : xg_P (fun r => ∃ (A2 : xi_H) (k2 : Nat), r = some (.returned (some (.int (tx_i (tx_4 v)))), A2) ∧ tx_T A2 k2 ∧ k2 ≤ k + 4 ∧ tx_F A A2) (xi_go xi_ms 330 20 14 537 0 (lv_args 0 [.ref 1, .int v]) [] A) := by
    have hP : ¬ (∃ (A2 : xi_H) (k2 : Nat), (none : Option (Outcome × xi_H)) = some (.returned (some (.int (tx_i (tx_4 v)))), A2) ∧ tx_T A2 k2 ∧ k2 ≤ k + 4 ∧ tx_F A A2) := by
      rintro ⟨_, _, h, _⟩
      cases h
    refine xp_s rfl rfl rfl rfl rfl ?_
    refine xp_s rfl rfl rfl rfl rfl ?_
    refine et_iterF hP (n := 248) (j := 24) (by omega) hT (by omega) (fun hg B k2 hT2 hk2 hF2 => ⟨B, k2, by rw [show tx_4 v = false by simp [tx_4, hg]]; rfl, hT2, by omega, hF2⟩) (fun hg1 B1 k1 hT1 hk1 hF1 => ?_)
    rw [show nI 24 + Int32.ofInt (-8) = nI 16 by decide]
    refine et_iterN hP (n := 168) (j := 16) (by omega) hT1 (by omega) (fun hg B k2 hT2 hk2 hF2 => ⟨B, k2, by rw [show tx_4 v = false by simp [tx_4, hg]]; rfl, hT2, by omega, hF1.tr hF2⟩) (fun hg2 B2 k2 hT2 hk2 hF2 => ?_)
    rw [show nI 16 + Int32.ofInt (-8) = nI 8 by decide]
    refine et_iterN hP (n := 88) (j := 8) (by omega) hT2 (by omega) (fun hg B k3 hT3 hk3 hF3 => ⟨B, k3, by rw [show tx_4 v = false by simp [tx_4, hg]]; rfl, hT3, by omega, (hF1.tr hF2).tr hF3⟩) (fun hg3 B3 k3 hT3 hk3 hF3 => ?_)
    rw [show nI 8 + Int32.ofInt (-8) = nI 0 by decide]
    refine et_iterN hP (n := 8) (j := 0) (by omega) hT3 (by omega) (fun hg B k4 hT4 hk4 hF4 => ⟨B, k4, by rw [show tx_4 v = false by simp [tx_4, hg]]; rfl, hT4, by omega, ((hF1.tr hF2).tr hF3).tr hF4⟩) (fun hg4 B4 k4 hT4 hk4 hF4 => ?_)
    refine xp_s rfl rfl rfl rfl rfl ?_
    refine xp_s (pc2 := 35) rfl rfl rfl rfl (if_pos (by decide)) ?_
    refine xp_s rfl rfl rfl rfl rfl ?_
    refine xp_e rfl rfl rfl ?_
    exact ⟨B4, k4, by rw [show tx_4 v = true by simp [tx_4, hg1, hg2, hg3, hg4]]; rfl, hT4, by omega, ((hF1.tr hF2).tr hF3).tr hF4⟩
  obtain ⟨A2, k2, h1, h2⟩ := key
  exact ⟨A2, k2, fun n => by rw [Nat.add_comm]; exact xi_fuel h1, h2⟩
theorem et_fail {P : Option (Outcome × xi_H) → Prop} {A : xi_H} {k n : Nat} {z p q r s t : Int32} (hT : tx_T A k) (h0 : A[0]? = some (.inr (0, e_l0))) (hk : ∀ A2 : xi_H, tx_F A A2 → P (some (.returned (some (.int 0)), A2))) : xg_P P (xi_go xi_ms (n + 20) 1 15 560 70 ((6, .int z) :: lv_args 0 [.ref 0, .int p, .int q, .int r, .int s, .int t]) [] A) := by
  refine xp_s rfl rfl rfl rfl rfl ?_
  refine xp_s rfl rfl rfl rfl rfl ?_
  refine xp_s rfl rfl rfl rfl rfl ?_
  refine xp_s (pc2 := 78) rfl rfl rfl rfl (if_neg (by decide)) ?_
  refine xp_s rfl rfl rfl rfl rfl ?_
  refine xp_get rfl rfl h0 rfl ?_
  refine xp_s rfl rfl rfl rfl rfl ?_
  refine xp_V (As := [_]) (rest := []) rfl rfl rfl rfl rfl hT.2.1 ⟨⟨by decide, Nat.le_of_ble_eq_true rfl, by decide⟩, by decide, Nat.le_of_ble_eq_true rfl, rfl⟩ ?_
  refine xp_s rfl rfl rfl rfl rfl ?_
  refine xp_s rfl rfl rfl rfl rfl ?_
  refine xp_put rfl rfl hT.2.1 (by first | decide | exact Nat.le_of_ble_eq_true rfl) (by first | rfl | decide) (by first | rfl | decide) (fun B hq hs hL hN => ?_)
  refine xp_e rfl rfl rfl ⟨_, _, rfl, ?_⟩
  refine xp_s rfl rfl rfl rfl rfl ?_
  refine xp_e rfl rfl rfl ?_
  exact hk B ⟨fun j h1 h2 => hs j h1, hL, hN⟩
theorem er_text {A : xi_H} (h0 : A[0]? = some (.inr (0, e_l0))) (hT : tx_T A 0) (p q r s t : Int32) : ∃ A2 : xi_H, xi_go xi_ms 800 1 15 560 0 (lv_args 0 [.ref 0, .int p, .int q, .int r, .int s, .int t]) [] A = some (.returned (some (.int (tx_i (tx_4 p && (tx_4 q && (tx_4 r && (tx_4 s && tx_4 t))))))), A2) ∧ tx_F A A2 := by
  show xg_P (fun x => ∃ A2 : xi_H, x = some (.returned (some (.int (tx_i (tx_4 p && (tx_4 q && (tx_4 r && (tx_4 s && tx_4 t))))))), A2) ∧ tx_F A A2) _
  refine xp_s rfl rfl rfl rfl rfl ?_
  refine xp_get rfl rfl h0 rfl ?_
  refine xp_V (As := []) (rest := []) rfl rfl rfl rfl rfl hT.2.1 ⟨⟨by decide, Nat.le_of_ble_eq_true rfl, by decide⟩, by decide, Nat.le_of_ble_eq_true rfl, rfl⟩ ?_
  refine xp_s rfl rfl rfl rfl rfl ?_
  refine xp_get rfl rfl hT.2.1 rfl ?_
  refine xp_e rfl rfl rfl ⟨_, _, rfl, ?_⟩
  refine xp_s rfl rfl rfl rfl rfl ?_
  refine xp_s rfl rfl rfl rfl rfl ?_
  refine xp_get rfl rfl h0 rfl ?_
  refine xp_s rfl rfl rfl rfl rfl ?_
  obtain ⟨B0, k0, hr0, hT0, hk0, hF0⟩ := et_take p hT (by omega)
  refine xp_V (As := [_]) (rest := []) rfl rfl rfl rfl rfl hT.2.1 ⟨⟨by decide, Nat.le_of_ble_eq_true rfl, by decide⟩, by decide, Nat.le_of_ble_eq_true rfl, rfl⟩ ?_
  refine xp_of (hr0 462) ⟨_, _, rfl, ?_⟩
  have z0 := (hF0.1 0 (by decide) (by decide)).trans h0
  cases hg0 : tx_4 p with
  | false =>
    refine xp_s (pc2 := 70) rfl rfl rfl rfl (if_pos (by decide)) ?_
    refine et_fail (n := 771) hT0 z0 (fun B hB => ⟨B, by simp [hg0]; rfl, hF0.tr hB⟩)
  | true =>
  refine xp_s (pc2 := 20) rfl rfl rfl rfl (if_neg (by decide)) ?_
  refine xp_s rfl rfl rfl rfl rfl ?_
  refine xp_get rfl rfl z0 rfl ?_
  refine xp_s rfl rfl rfl rfl rfl ?_
  obtain ⟨B1, k1, hr1, hT1, hk1, hF1⟩ := et_take q hT0 (by omega)
  refine xp_V (As := [_]) (rest := []) rfl rfl rfl rfl rfl hT0.2.1 ⟨⟨by decide, Nat.le_of_ble_eq_true rfl, by decide⟩, by decide, Nat.le_of_ble_eq_true rfl, rfl⟩ ?_
  refine xp_of (hr1 457) ⟨_, _, rfl, ?_⟩
  have z1 := (hF1.1 0 (by decide) (by decide)).trans z0
  cases hg1 : tx_4 q with
  | false =>
    refine xp_s (pc2 := 70) rfl rfl rfl rfl (if_pos (by decide)) ?_
    refine et_fail (n := 766) hT1 z1 (fun B hB => ⟨B, by simp [hg1]; rfl, (hF0.tr hF1).tr hB⟩)
  | true =>
  refine xp_s (pc2 := 31) rfl rfl rfl rfl (if_neg (by decide)) ?_
  refine xp_s rfl rfl rfl rfl rfl ?_
  refine xp_get rfl rfl z1 rfl ?_
  refine xp_s rfl rfl rfl rfl rfl ?_
  obtain ⟨B2, k2, hr2, hT2, hk2, hF2⟩ := et_take r hT1 (by omega)
  refine xp_V (As := [_]) (rest := []) rfl rfl rfl rfl rfl hT1.2.1 ⟨⟨by decide, Nat.le_of_ble_eq_true rfl, by decide⟩, by decide, Nat.le_of_ble_eq_true rfl, rfl⟩ ?_
  refine xp_of (hr2 452) ⟨_, _, rfl, ?_⟩
  have z2 := (hF2.1 0 (by decide) (by decide)).trans z1
  cases hg2 : tx_4 r with
  | false =>
    refine xp_s (pc2 := 70) rfl rfl rfl rfl (if_pos (by decide)) ?_
    refine et_fail (n := 761) hT2 z2 (fun B hB => ⟨B, by simp [hg2]; rfl, ((hF0.tr hF1).tr hF2).tr hB⟩)
  | true =>
  refine xp_s (pc2 := 42) rfl rfl rfl rfl (if_neg (by decide)) ?_
  refine xp_s rfl rfl rfl rfl rfl ?_
  refine xp_get rfl rfl z2 rfl ?_
  refine xp_s rfl rfl rfl rfl rfl ?_
  obtain ⟨B3, k3, hr3, hT3, hk3, hF3⟩ := et_take s hT2 (by omega)
  refine xp_V (As := [_]) (rest := []) rfl rfl rfl rfl rfl hT2.2.1 ⟨⟨by decide, Nat.le_of_ble_eq_true rfl, by decide⟩, by decide, Nat.le_of_ble_eq_true rfl, rfl⟩ ?_
  refine xp_of (hr3 447) ⟨_, _, rfl, ?_⟩
  have z3 := (hF3.1 0 (by decide) (by decide)).trans z2
  cases hg3 : tx_4 s with
  | false =>
    refine xp_s (pc2 := 70) rfl rfl rfl rfl (if_pos (by decide)) ?_
    refine et_fail (n := 756) hT3 z3 (fun B hB => ⟨B, by simp [hg3]; rfl, (((hF0.tr hF1).tr hF2).tr hF3).tr hB⟩)
  | true =>
  refine xp_s (pc2 := 54) rfl rfl rfl rfl (if_neg (by decide)) ?_
  refine xp_s rfl rfl rfl rfl rfl ?_
  refine xp_get rfl rfl z3 rfl ?_
  refine xp_s rfl rfl rfl rfl rfl ?_
  obtain ⟨B4, k4, hr4, hT4, hk4, hF4⟩ := et_take t hT3 (by omega)
  refine xp_V (As := [_]) (rest := []) rfl rfl rfl rfl rfl hT3.2.1 ⟨⟨by decide, Nat.le_of_ble_eq_true rfl, by decide⟩, by decide, Nat.le_of_ble_eq_true rfl, rfl⟩ ?_
  refine xp_of (hr4 442) ⟨_, _, rfl, ?_⟩
  have z4 := (hF4.1 0 (by decide) (by decide)).trans z3
  cases hg4 : tx_4 t with
  | false =>
    refine xp_s (pc2 := 70) rfl rfl rfl rfl (if_pos (by decide)) ?_
    refine et_fail (n := 751) hT4 z4 (fun B hB => ⟨B, by simp [hg4]; rfl, ((((hF0.tr hF1).tr hF2).tr hF3).tr hF4).tr hB⟩)
  | true =>
  refine xp_s (pc2 := 66) rfl rfl rfl rfl (if_neg (by decide)) ?_
  refine xp_s rfl rfl rfl rfl rfl ?_
  refine xp_s rfl rfl rfl rfl rfl ?_
  refine xp_s rfl rfl rfl rfl rfl ?_
  refine xp_s rfl rfl rfl rfl rfl ?_
  refine xp_s (pc2 := 87) rfl rfl rfl rfl (if_pos (by decide)) ?_
  refine xp_s rfl rfl rfl rfl rfl ?_
  refine xp_e rfl rfl rfl ?_
  exact ⟨_, by simp [hg0, hg1, hg2, hg3, hg4]; rfl, ((((hF0.tr hF1).tr hF2).tr hF3).tr hF4)⟩

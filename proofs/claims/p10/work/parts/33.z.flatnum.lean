/-! NUMBERS -/
theorem fl_any (x : Int32) : ∃ z : Int, x = Int32.ofInt z ∧ fl_i z := by
  refine ⟨x.toInt, (Int32.ofInt_toInt x).symm, ?_, ?_⟩
  · have h := Int32.le_toInt x
    omega
  · have h := Int32.toInt_lt x
    omega
def fl_j (a : Int) : Prop := -9223372036854775808 ≤ a ∧ a < 9223372036854775808
theorem fl_anyL (x : Int64) : ∃ z : Int, x = Int64.ofInt z ∧ fl_j z := by
  refine ⟨x.toInt, (Int64.ofInt_toInt x).symm, ?_, ?_⟩
  · have h := Int64.le_toInt x
    omega
  · have h := Int64.toInt_lt x
    omega
theorem fl_toIntL {a : Int} (h : fl_j a) : (Int64.ofInt a).toInt = a := by
  rw [Int64.toInt_ofInt_of_le]
  · exact h.1
  · exact h.2
theorem fl_addL (a b : Int) : Int64.ofInt a + Int64.ofInt b = Int64.ofInt (a + b) := by rw [Int64.ofInt_add]
theorem fl_mulL (a b : Int) : Int64.ofInt a * Int64.ofInt b = Int64.ofInt (a * b) := by rw [Int64.ofInt_mul]
theorem fl_i2l {a : Int} (h : fl_i a) : (Int32.ofInt a).toInt64 = Int64.ofInt a := by
  rw [← Int64.toInt_inj, Int32.toInt_toInt64, fl_toInt h, fl_toIntL ⟨by have := h.1; omega, by have := h.2; omega⟩]
theorem fl_div {a b : Int} (ha : 0 ≤ a) (hb : 0 < b) (ha2 : a < 2147483648) (hb2 : b < 2147483648) : Int32.ofInt a / Int32.ofInt b = Int32.ofInt (a / b) := by
  have h1 : a / b ≤ a := Int.ediv_le_self b ha
  have h2 : 0 ≤ a / b := Int.ediv_nonneg ha (by omega)
  rw [← Int32.toInt_inj, fl_toInt (a := a / b) ⟨by omega, by omega⟩, Int32.toInt_div, fl_toInt (a := a) ⟨by omega, by omega⟩, fl_toInt (a := b) ⟨by omega, by omega⟩, Int.tdiv_eq_ediv_of_nonneg ha, Int.bmod_eq_of_le (by omega) (by omega)]
theorem fl_rem {a b : Int} (ha : 0 ≤ a) (hb : 0 < b) (ha2 : a < 2147483648) (hb2 : b < 2147483648) : Int32.ofInt a - Int32.ofInt a / Int32.ofInt b * Int32.ofInt b = Int32.ofInt (a % b) := by
  rw [fl_div ha hb ha2 hb2, fl_mul, fl_sub]
  congr 1
  rw [Int.emod_def, Int.mul_comm]
theorem fl_bn (x : Int32) : x = Int32.ofInt (x.toBitVec.toNat : Int) := by
  rw [Int32.ofInt_eq_ofNat, ← Int32.toBitVec_inj, Int32.toBitVec_ofNat', BitVec.ofNat_toNat, BitVec.setWidth_eq]
/-- any int under 2^k - 1 -/
theorem fl_and {x : Int32} {m : Nat} (hm : m < 2147483648) : ∃ z : Int, x &&& Int32.ofInt (m : Int) = Int32.ofInt z ∧ 0 ≤ z ∧ z ≤ (m : Int) := by
  refine ⟨((x &&& Int32.ofInt (m : Int)).toBitVec.toNat : Int), ?_, by omega, ?_⟩
  · exact fl_bn _
  · have h : (x &&& Int32.ofInt (m : Int)).toBitVec = x.toBitVec &&& BitVec.ofNat 32 m := by
      rw [Int32.toBitVec_and, Int32.ofInt_eq_ofNat, Int32.toBitVec_ofNat']
    rw [h, BitVec.toNat_and, BitVec.toNat_ofNat, Nat.mod_eq_of_lt (by omega)]
    exact Int.ofNat_le.mpr Nat.and_le_right

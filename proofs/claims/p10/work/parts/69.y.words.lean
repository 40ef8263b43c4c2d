/-! exact words -/
def lopf (t : Nat) (a b : Int) : Int := match t with
  | 0 => (Int64.ofInt a &&& Int64.ofInt b).toInt
  | 1 => (Int64.ofInt a ||| Int64.ofInt b).toInt
  | 2 => (Int64.ofInt a ^^^ Int64.ofInt b).toInt
  | 3 => (Int64.ofInt a * Int64.ofInt b).toInt
  | 4 => (((Int64.ofInt a).toUInt64 >>> ((Int32.ofInt b).toInt64.toUInt64 &&& Int64.toUInt64 63)).toInt64).toInt
  | 5 => (Int32.ofInt a + Int32.ofInt b).toInt
  | _ => (Int32.ofInt a &&& Int32.ofInt b).toInt
theorem lop_ex : ∃ g : Nat → Int → Int → Int, ∀ t a b, g t a b = lopf t a b := ⟨lopf, fun _ _ _ => rfl⟩
noncomputable def lop : Nat → Int → Int → Int := Classical.choose lop_ex
theorem lop_e (t : Nat) (a b : Int) : lop t a b = lopf t a b := Classical.choose_spec lop_ex t a b
noncomputable abbrev lan (a b : Int) : Int := lop 0 a b
noncomputable abbrev lorr (a b : Int) : Int := lop 1 a b
noncomputable abbrev lxo (a b : Int) : Int := lop 2 a b
noncomputable abbrev lmu (a b : Int) : Int := lop 3 a b
noncomputable abbrev lus (a b : Int) : Int := lop 4 a b
noncomputable abbrev iwa (a b : Int) : Int := lop 5 a b
noncomputable abbrev iam (a b : Int) : Int := lop 6 a b
theorem iam_511 (a : Int) : 0 ≤ iam a 511 ∧ iam a 511 ≤ 511 := by
  obtain ⟨z, hz, h0, h1⟩ := fl_and (x := Int32.ofInt a) (m := 511) (by decide)
  have e : iam a 511 = z := by
    show lop 6 a 511 = z
    rw [lop_e]
    show (Int32.ofInt a &&& Int32.ofInt ((511 : Nat) : Int)).toInt = z
    rw [hz]
    exact fl_toInt ⟨by omega, by omega⟩
  rw [e]
  exact ⟨h0, h1⟩
theorem iam_nx {k : Int} (h0 : 0 ≤ k) (h1 : k ≤ 511) : iam (k + 1) 511 = (k + 1) % 512 := by
  have h : ∀ n : Nat, n < 512 → (Int32.ofInt ((n : Int) + 1) &&& Int32.ofInt 511).toInt = ((n : Int) + 1) % 512 := by decide +kernel
  have h2 := h k.toNat (by omega)
  rw [show ((k.toNat : Nat) : Int) = k by omega] at h2
  show lop 6 (k + 1) 511 = _
  rw [lop_e]
  exact h2
section LX
variable {Ms : List xi_M} {y fr lo pc : Nat} {M : xi_M} {lv : xi_L} {st r : List Value} {A : xi_H} {nx : Nat} {aux : List Nat} {Q : Outcome → xi_H → Prop}
theorem ga_lx {I : Instr} {w : Int64} {z : Int} (hM : Ms[y]? = some M) (hrow : xi_row M.2.2.2.2.1 pc = some (I, nx, aux)) (hx : xi_x Ms M I aux fr lo st A = some (.inr (.inr none))) (hs : xi_s M.2.2.1 I nx aux lv st A = some (nx, lv, .long w :: r, A)) (hz : z = w.toInt) (hk : fl_j z → fl_R Ms y fr lo nx lv (.long (Int64.ofInt z) :: r) A Q) : fl_R Ms y fr lo pc lv st A Q := by
  subst hz
  have h := hk ⟨by have h := Int64.le_toInt w; omega, by have h := Int64.toInt_lt w; omega⟩
  rw [Int64.ofInt_toInt] at h
  exact fl_s hM hrow hx hs rfl h
theorem ga_ix {I : Instr} {w : Int32} {z : Int} (hM : Ms[y]? = some M) (hrow : xi_row M.2.2.2.2.1 pc = some (I, nx, aux)) (hx : xi_x Ms M I aux fr lo st A = some (.inr (.inr none))) (hs : xi_s M.2.2.1 I nx aux lv st A = some (nx, lv, .int w :: r, A)) (hz : z = w.toInt) (hk : fl_i z → fl_R Ms y fr lo nx lv (.int (Int32.ofInt z) :: r) A Q) : fl_R Ms y fr lo pc lv st A Q := by
  subst hz
  have h := hk ⟨by have h := Int32.le_toInt w; omega, by have h := Int32.toInt_lt w; omega⟩
  rw [Int32.ofInt_toInt] at h
  exact fl_s hM hrow hx hs rfl h
theorem ga_lmulx {a b : Int} (hM : Ms[y]? = some M) (hrow : xi_row M.2.2.2.2.1 pc = some (.lmul, nx, aux)) (hk : fl_j (lop 3 a b) → fl_R Ms y fr lo nx lv (.long (Int64.ofInt (lop 3 a b)) :: r) A Q) : fl_R Ms y fr lo pc lv (.long (Int64.ofInt b) :: .long (Int64.ofInt a) :: r) A Q := ga_lx (z := lop 3 a b) hM hrow rfl rfl (lop_e 3 a b) hk
end LX
/-! 1L << n, exactly -/
def lslf (a b : Int) : Int := (Int64.ofInt a <<< ((Int32.ofInt b).toInt64 &&& 63)).toInt
theorem lsl_ex : ∃ g : Int → Int → Int, ∀ a b, g a b = lslf a b := ⟨lslf, fun _ _ => rfl⟩
noncomputable def lsl : Int → Int → Int := Classical.choose lsl_ex
theorem lsl_e (a b : Int) : lsl a b = lslf a b := Classical.choose_spec lsl_ex a b

/-! THE FLAT HEAP: shapes are fixed, contents are numbers. A shape: (0, t, [n]) n places of the array type t; (1, t, rs) references (what lies there is g, which says rs); (2, ci, ks) an object of the class ci, a field's kind 0 int, 1 long, 2 a reference that changes, r + 3 the reference r -/
abbrev fl_T : Type := Nat × Nat × List Nat
abbrev fl_N : Type := Nat → Nat → Int
def fl_f (f : Nat → Int) (j k : Nat) : Value := match k with
  | 0 => .int (Int32.ofInt (f j))
  | 1 => .long (Int64.ofInt (f j))
  | 2 => .ref (f j).toNat
  | k + 3 => .ref k
def fl_c (s : fl_T) (g : Nat → Option Nat) (f : Nat → Int) : xi_E := match s with
  | (0, 1, ns) => .inl (1, ns.headD 0, .inr (.inl (fun j => Int64.ofInt (f j))))
  | (0, t, ns) => .inl (t, ns.headD 0, .inl (fun j => Int32.ofInt (f j)))
  | (1, t, rs) => .inl (t, rs.length, .inr (.inr (.inr (.inr g))))
  | (_, ci, ks) => .inr (ci, ks.mapIdx (fun j k => fl_f f j k))
def fl_H (T : List fl_T) (G : Nat → Nat → Option Nat) (F : fl_N) : xi_H := T.mapIdx (fun r s => fl_c s (G r) (F r))
def fl_u (F : fl_N) (r k : Nat) (z : Int) : fl_N := fun r' k' => if r' = r ∧ k' = k then z else F r' k'
section FLH
variable {T : List fl_T} {G : Nat → Nat → Option Nat} {F : fl_N} {X : xi_H} {r k r' k' : Nat} {z : Int} {s : fl_T} {c : xi_E}
theorem fl_u_eq : fl_u F r k z r k = z := by simp [fl_u]
theorem fl_u_ne (h : ¬ (r' = r ∧ k' = k)) : fl_u F r k z r' k' = F r' k' := if_neg h
theorem fl_u_r (h : r' ≠ r) : fl_u F r k z r' = F r' := by funext j; exact if_neg (fun q => h q.1)
theorem fl_len : (fl_H T G F).length = T.length := by simp [fl_H]
theorem fl_at (h : T[r]? = some s) : (fl_H T G F ++ X)[r]? = some (fl_c s (G r) (F r)) := by
  have hr := (List.getElem?_eq_some_iff.mp h).1
  rw [List.getElem?_append_left (by rw [fl_len]; exact hr)]
  simp [fl_H, h]
theorem fl_set (h : T[r]? = some s) (hc : c = fl_c s (G r) (fl_u F r k z r)) : (fl_H T G F ++ X).set r c = fl_H T G (fl_u F r k z) ++ X := by
  have hr := (List.getElem?_eq_some_iff.mp h).1
  subst hc
  apply List.ext_getElem?
  intro i
  by_cases hi : r = i
  · subst hi
    rw [List.getElem?_set_self (by rw [List.length_append, fl_len]; omega), fl_at h]
  · rw [List.getElem?_set_ne hi]
    by_cases hl : i < T.length
    · have hs' : T[i]? = some T[i] := List.getElem?_eq_getElem hl
      rw [fl_at hs', fl_at hs', fl_u_r (fun q => hi q.symm)]
    · rw [List.getElem?_append_right (by rw [fl_len]; omega), List.getElem?_append_right (by rw [fl_len]; omega), fl_len, fl_len]
theorem fl_pos (h : T[r]? = some s) : 0 < (fl_H T G F ++ X).length := by
  have hr := (List.getElem?_eq_some_iff.mp h).1
  rw [List.length_append, fl_len]
  omega
end FLH
/-! ints -/
theorem fl_add (a b : Int) : Int32.ofInt a + Int32.ofInt b = Int32.ofInt (a + b) := by rw [Int32.ofInt_add]
theorem fl_sub (a b : Int) : Int32.ofInt a - Int32.ofInt b = Int32.ofInt (a - b) := by rw [Int32.ofInt_sub]
theorem fl_mul (a b : Int) : Int32.ofInt a * Int32.ofInt b = Int32.ofInt (a * b) := by rw [Int32.ofInt_mul]
def fl_i (a : Int) : Prop := -2147483648 ≤ a ∧ a < 2147483648
theorem fl_toInt {a : Int} (h : fl_i a) : (Int32.ofInt a).toInt = a := by
  rw [Int32.toInt_ofInt_of_le]
  · exact h.1
  · exact h.2
theorem fl_lt {a b : Int} (ha : fl_i a) (hb : fl_i b) : Int32.ofInt a < Int32.ofInt b ↔ a < b := by
  rw [Int32.lt_iff_toInt_lt, fl_toInt ha, fl_toInt hb]
theorem fl_le {a b : Int} (ha : fl_i a) (hb : fl_i b) : Int32.ofInt a ≤ Int32.ofInt b ↔ a ≤ b := by
  rw [Int32.le_iff_toInt_le, fl_toInt ha, fl_toInt hb]
theorem fl_eq {a b : Int} (ha : fl_i a) (hb : fl_i b) : Int32.ofInt a = Int32.ofInt b ↔ a = b := by
  rw [← Int32.toInt_inj, fl_toInt ha, fl_toInt hb]
theorem fl_nat {a : Int} (ha : fl_i a) : (Int32.ofInt a).toNatClampNeg = a.toNat := by
  unfold Int32.toNatClampNeg
  rw [fl_toInt ha]
theorem fl_in {a : Int} {n : Nat} (ha : 0 ≤ a) (hb : a < (n : Int)) (hn : n < 2147483648) : vp_in (Int32.ofInt a) n := by
  have hi : fl_i a := ⟨by omega, by omega⟩
  intro h
  rcases h with h | h
  · have := (fl_lt hi (show fl_i 0 from ⟨by omega, by omega⟩)).mp h
    omega
  · rw [fl_nat hi] at h
    omega
/-! RUNS, with fuel enough -/
def fl_R (Ms : List xi_M) (y fr lo pc : Nat) (lv : xi_L) (st : List Value) (A : xi_H) (Q : Outcome → xi_H → Prop) : Prop := ∃ (n : Nat) (o : Outcome) (A' : xi_H), xi_go Ms n y fr lo pc lv st A = some (o, A') ∧ Q o A'
section FLR
variable {Ms : List xi_M} {y fr lo pc : Nat} {M : xi_M} {lv lv' : xi_L} {st st' r : List Value} {A A' A1 : xi_H} {I : Instr} {nx pc' pc2 : Nat} {aux : List Nat} {Q Q1 : Outcome → xi_H → Prop}
theorem fl_s (hM : Ms[y]? = some M) (hrow : xi_row M.2.2.2.2.1 pc = some (I, nx, aux)) (hx : xi_x Ms M I aux fr lo st A = some (.inr (.inr none))) (hs : xi_s M.2.2.1 I nx aux lv st A = some (pc', lv', st', A')) (hpc : pc' = pc2) (hk : fl_R Ms y fr lo pc2 lv' st' A' Q) : fl_R Ms y fr lo pc lv st A Q := by
  obtain ⟨n, o, A2, h, hq⟩ := hk
  exact ⟨n + 1, o, A2, xg_s hM hrow hx hs hpc h, hq⟩
theorem fl_e {o : Outcome} (hM : Ms[y]? = some M) (hrow : xi_row M.2.2.2.2.1 pc = some (I, nx, aux)) (hx : xi_x Ms M I aux fr lo st A = some (.inl (o, A'))) (hk : Q o A') : fl_R Ms y fr lo pc lv st A Q :=
  ⟨1, o, A', xg_e hM hrow hx, hk⟩
theorem fl_mono (h : fl_R Ms y fr lo pc lv st A Q) (hq : ∀ o A', Q o A' → Q1 o A') : fl_R Ms y fr lo pc lv st A Q1 := by
  obtain ⟨n, o, A2, h, h2⟩ := h
  exact ⟨n, o, A2, h, hq _ _ h2⟩
end FLR

/-! MORE OF THE FRESH OBJECTS -/
def xi_arL (A : xi_H) (k t n : Nat) : Bool := match A[k]? with
  | some (.inl (t', n', .inr (.inl _))) => decide (t' = t ∧ n' = n)
  | _ => false
theorem xi_arL_eq {A : xi_H} {k t n : Nat} (h : xi_arL A k t n = true) : ∃ f, A[k]? = some (.inl (t, n, .inr (.inl f))) := by
  unfold xi_arL at h
  split at h
  · rename_i t' n' f h1
    obtain ⟨rfl, rfl⟩ := of_decide_eq_true h
    exact ⟨f, h1⟩
  · cases h
noncomputable def e_chk2 : Bool := ((decide (xi_obj e_A2 118 = some (6, [.ref 1, .ref 7, .ref 104, .ref 119])) && decide (xi_obj e_A2 7 = some (2, [.long 0, .ref 8, .ref 11, .ref 14, .ref 15, .ref 18, .ref 19, .ref 20]))) && (decide (xi_obj e_A2 8 = some (3, [.ref 9, .ref 10, .int 0])) && (decide (xi_obj e_A2 11 = some (3, [.ref 12, .ref 13, .int 0])) && decide (xi_obj e_A2 15 = some (3, [.ref 16, .ref 17, .int 0]))))) && (((xi_arI e_A2 3 0 601 && xi_arI e_A2 4 0 601) && (xi_arI e_A2 5 0 601 && xi_arI e_A2 335 0 201)) && ((xi_arI e_A2 338 0 512 && xi_arI e_A2 347 0 602) && (xi_arI e_A2 348 0 602 && xi_arL e_A2 6 1 601)))
theorem e_chk2_ok : e_chk2 = true := by decide +kernel

/-! THE FRESH OBJECTS -/
def xi_hp (r : Option (Outcome × xi_H)) : xi_H := match r with
  | some (_, A) => A
  | none => []
def xi_isv (r : Option (Outcome × xi_H)) : Bool := match r with
  | some (.returned none, _) => true
  | _ => false
def xi_isi (r : Option (Outcome × xi_H)) (v : Int32) : Bool := match r with
  | some (.returned (some (.int w)), _) => decide (w = v)
  | _ => false
theorem xi_isv_eq {r : Option (Outcome × xi_H)} (h : xi_isv r = true) : r = some (.returned none, xi_hp r) := by
  match r, h with
  | some (.returned none, A), _ => rfl
theorem xi_isi_eq {r : Option (Outcome × xi_H)} {v : Int32} (h : xi_isi r v = true) : r = some (.returned (some (.int v)), xi_hp r) := by
  match r, h with
  | some (.returned (some (.int w)), A), h => have : w = v := of_decide_eq_true h; subst this; rfl
def xi_obj (A : xi_H) (k : Nat) : Option (Nat × List Value) := match A[k]? with
  | some (.inr o) => some o
  | _ => none
def xi_arI (A : xi_H) (k t n : Nat) : Bool := match A[k]? with
  | some (.inl (t', n', .inl _)) => decide (t' = t ∧ n' = n)
  | _ => false
theorem xi_obj_eq {A : xi_H} {k : Nat} {o : Nat × List Value} (h : xi_obj A k = some o) : A[k]? = some (.inr o) := by
  unfold xi_obj at h
  split at h
  · rename_i h1; cases h; exact h1
  · cases h
theorem xi_arI_eq {A : xi_H} {k t n : Nat} (h : xi_arI A k t n = true) : ∃ f, A[k]? = some (.inl (t, n, .inl f)) := by
  unfold xi_arI at h
  split at h
  · rename_i t' n' f h1
    obtain ⟨rfl, rfl⟩ := of_decide_eq_true h
    exact ⟨f, h1⟩
  · cases h
noncomputable def e_1 : Option (Outcome × xi_H) := xi_go xi_ms 2000 0 14 500 0 (lv_args 0 [.ref 0]) [] [.inr (0, xi_df 0)]
noncomputable def e_A1 : xi_H := xi_hp e_1
noncomputable def e_2 : Option (Outcome × xi_H) := xi_go xi_ms 2000 44 14 500 0 (lv_args 0 [.ref 344]) [] (e_A1 ++ [.inr (13, xi_df 13)])
noncomputable def e_A2 : xi_H := xi_hp e_2
noncomputable def e_chk : Bool := ((xi_isv e_1 && xi_isv e_2) && ((decide (e_A1.length = 344) && decide (e_A2.length = 386)) && (decide (xi_ns e_A1 = 12797) && decide (xi_ns e_A2 = 17826)))) && (((decide (xi_obj e_A2 0 = some (0, e_l0)) && decide (xi_obj e_A2 1 = some (1, e_l1))) && (decide (xi_obj e_A2 331 = some (11, e_lS)) && decide (xi_obj e_A2 344 = some (13, e_lM)))) && (xi_arI e_A2 2 2 600 && xi_arI e_A2 345 0 600))
theorem e_chk_ok : e_chk = true := by decide +kernel

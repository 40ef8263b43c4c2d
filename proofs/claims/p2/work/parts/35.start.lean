/-! BOTH CONSTRUCTORS, by the kernel: the heap behind them is a flat one -/
def xi_hp (r : Option (Outcome × xi_H)) : xi_H := match r with
  | some (_, A) => A
  | none => []
def xi_isv (r : Option (Outcome × xi_H)) : Bool := match r with
  | some (.returned none, _) => true
  | _ => false
def xi_isi (r : Option (Outcome × xi_H)) (v : Int32) : Bool := match r with
  | some (.returned (some (.int w)), _) => decide (w = v)
  | _ => false
theorem xi_isv_eq {r : Option (Outcome × xi_H)} (h : xi_isv r = true) : r = some (.returned none, xi_hp r) := by
  match r, h with
  | some (.returned none, A), _ => rfl
theorem xi_isi_eq {r : Option (Outcome × xi_H)} {v : Int32} (h : xi_isi r v = true) : r = some (.returned (some (.int v)), xi_hp r) := by
  match r, h with
  | some (.returned (some (.int w)), A), h => have : w = v := of_decide_eq_true h; subst this; rfl
def xi_obj (A : xi_H) (k : Nat) : Option (Nat × List Value) := match A[k]? with
  | some (.inr o) => some o
  | _ => none
def xi_arI (A : xi_H) (k t n : Nat) : Bool := match A[k]? with
  | some (.inl (t', n', .inl _)) => decide (t' = t ∧ n' = n)
  | _ => false
theorem xi_obj_eq {A : xi_H} {k : Nat} {o : Nat × List Value} (h : xi_obj A k = some o) : A[k]? = some (.inr o) := by
  unfold xi_obj at h
  split at h
  · rename_i h1; cases h; exact h1
  · cases h
theorem xi_arI_eq {A : xi_H} {k t n : Nat} (h : xi_arI A k t n = true) : ∃ f, A[k]? = some (.inl (t, n, .inl f)) := by
  unfold xi_arI at h
  split at h
  · rename_i t' n' f h1
    obtain ⟨rfl, rfl⟩ := of_decide_eq_true h
    exact ⟨f, h1⟩
  · cases h
noncomputable def e_1 : Option (Outcome × xi_H) := xi_go xi_ms 2000 0 14 500 0 (lv_args 0 [.ref 0]) [] [.inr (0, xi_df 0)]
noncomputable def e_A1 : xi_H := xi_hp e_1
noncomputable def e_2 : Option (Outcome × xi_H) := xi_go xi_ms 2000 44 14 500 0 (lv_args 0 [.ref 344]) [] (e_A1 ++ [.inr (13, xi_df 13)])
noncomputable def e_A2 : xi_H := xi_hp e_2
def fl_kz : List fl_T → xi_H → Bool
  | [], [] => true
  | s :: T, c :: A => fl_k s c && fl_kz T A
  | _, _ => false
theorem fl_kz_at : ∀ (T : List fl_T) (A : xi_H), fl_kz T A = true → A.length = T.length ∧ ∀ (r : Nat) (s : fl_T) (c : xi_E), T[r]? = some s → A[r]? = some c → fl_k s c = true := by
  intro T
  induction T with
  | nil =>
    intro A h
    cases A with
    | nil => exact ⟨rfl, fun r s c h1 => by simp at h1⟩
    | cons c A => cases h
  | cons s T ih =>
    intro A h
    cases A with
    | nil => cases h
    | cons c A =>
      simp only [fl_kz, Bool.and_eq_true] at h
      obtain ⟨i1, i2⟩ := ih A h.2
      refine ⟨by simp [i1], fun r s' c' h1 h2 => ?_⟩
      cases r with
      | zero =>
        simp only [List.getElem?_cons_zero, Option.some.injEq] at h1 h2
        rw [← h1, ← h2]
        exact h.1
      | succ r =>
        simp only [List.getElem?_cons_succ] at h1 h2
        exact i2 r s' c' h1 h2
theorem fl_kz_ks {T : List fl_T} {A : xi_H} (h : fl_kz T A = true) : fl_ks T A = true := by
  obtain ⟨i1, i2⟩ := fl_kz_at T A h
  simp only [fl_ks, Bool.and_eq_true, decide_eq_true_eq, List.all_eq_true, List.mem_range]
  refine ⟨i1, fun r hr => ?_⟩
  have hs : T[r]? = some T[r] := List.getElem?_eq_getElem hr
  have hc : A[r]? = some A[r] := List.getElem?_eq_getElem (by omega)
  rw [hs, hc]
  exact i2 r _ _ hs hc
noncomputable def e_chk : Bool := (xi_isv e_1 && xi_isv e_2) && ((decide (e_A1.length = 344) && decide (e_A2.length = 386)) && (decide (xi_ns e_A1 = 12797) && decide (xi_ns e_A2 = 17826)))
theorem e_chk_ok : e_chk = true := by decide +kernel
theorem e_shp : fl_kz sh_T (e_A2 ++ [.inl (1, 1, .inr (.inl (fun _ => 0)))]) = true := by decide +kernel
/-- what the fresh heap holds: sh_Z, and 0 elsewhere -/
def sh_at (r k : Nat) : Int := match sh_Z.find? (fun q => q.1 == r && q.2.1 == k) with
  | some q => q.2.2
  | none => 0

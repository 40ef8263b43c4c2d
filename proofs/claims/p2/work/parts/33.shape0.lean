/-! A HEAP OF THE RIGHT SHAPES IS A FLAT ONE -/
def fl_kf (k : Option Nat) (v : Option Value) : Bool := match k, v with
  | some 0, some (.int _) => true
  | some 1, some (.long _) => true
  | some 2, some (.ref _) => true
  | some (k + 3), some (.ref r) => decide (r = k)
  | _, _ => false
def fl_k (s : fl_T) (c : xi_E) : Bool := match s, c with
  | (0, 1, ns), .inl (t, n, .inr (.inl _)) => decide (t = 1) && decide (n = ns.headD 0)
  | (0, t0, ns), .inl (t, n, .inl _) => decide (t0 ≠ 1) && (decide (t = t0) && decide (n = ns.headD 0))
  | (1, t0, rs), .inl (t, n, .inr (.inr (.inr (.inr f)))) => (decide (t = t0) && decide (n = rs.length)) && (List.range rs.length).all (fun j => decide (f j = rs[j]?))
  | (2, ci, ks), .inr (cj, fs) => (decide (cj = ci) && decide (fs.length = ks.length)) && (List.range ks.length).all (fun j => fl_kf ks[j]? fs[j]?)
  | _, _ => false
def fl_n (v : Option Value) : Int := match v with
  | some (.int v) => v.toInt
  | some (.long v) => v.toInt
  | some (.ref r) => (r : Int)
  | _ => 0
theorem fl_k_eq {s : fl_T} {c : xi_E} (h : fl_k s c = true) : ∃ (g : Nat → Option Nat) (f : Nat → Int), c = fl_c s g f ∧ ∀ t rs, s = (1, t, rs) → ∀ j, j < rs.length → g j = rs[j]? := by
  unfold fl_k at h
  split at h
  · rename_i ns t n f
    simp only [Bool.and_eq_true, decide_eq_true_eq] at h
    obtain ⟨rfl, rfl⟩ := h
    refine ⟨fun _ => none, fun j => (f j).toInt, ?_, fun t rs e => by simp at e⟩
    simp [fl_c, Int64.ofInt_toInt]
  · rename_i t0 ns t n f hne
    simp only [Bool.and_eq_true, decide_eq_true_eq] at h
    obtain ⟨h1, rfl, rfl⟩ := h
    refine ⟨fun _ => none, fun j => (f j).toInt, ?_, fun t rs e => by simp at e⟩
    unfold fl_c
    split
    · rename_i e1
      simp only [Prod.mk.injEq] at e1
      exact absurd e1.2.1 h1
    · rename_i e1
      simp only [Prod.mk.injEq, true_and] at e1
      obtain ⟨rfl, rfl⟩ := e1
      simp [Int32.ofInt_toInt]
    · rename_i e1
      simp at e1
    · rename_i e1 e2 e3 e4
      exact absurd rfl (e2 _ _)
  · rename_i t0 rs t n f
    simp only [Bool.and_eq_true, decide_eq_true_eq, List.all_eq_true, List.mem_range] at h
    obtain ⟨⟨rfl, rfl⟩, h3⟩ := h
    refine ⟨f, fun _ => 0, rfl, fun t rs' e => ?_⟩
    simp only [Prod.mk.injEq, true_and] at e
    obtain ⟨rfl, rfl⟩ := e
    exact h3
  · rename_i ci ks cj fs
    simp only [Bool.and_eq_true, decide_eq_true_eq, List.all_eq_true, List.mem_range] at h
    obtain ⟨⟨rfl, h2⟩, h3⟩ := h
    refine ⟨fun _ => none, fun j => fl_n fs[j]?, ?_, fun t rs e => by simp at e⟩
    show (.inr (cj, fs) : xi_E) = .inr (cj, ks.mapIdx (fun j k => fl_f (fun j => fl_n fs[j]?) j k))
    congr 2
    apply List.ext_getElem?
    intro j
    rw [List.getElem?_mapIdx]
    by_cases hj : j < ks.length
    · have h4 := h3 j hj
      unfold fl_kf at h4
      split at h4
      · rename_i v e1 e2
        rw [e1, e2]
        simp [fl_f, e2, fl_n, Int32.ofInt_toInt]
      · rename_i v e1 e2
        rw [e1, e2]
        simp [fl_f, e2, fl_n, Int64.ofInt_toInt]
      · rename_i v e1 e2
        rw [e1, e2]
        simp [fl_f, e2, fl_n]
      · rename_i k v e1 e2
        rw [e1, e2]
        simp only [decide_eq_true_eq] at h4
        subst h4
        simp [fl_f]
      · cases h4
    · rw [List.getElem?_eq_none (by omega), List.getElem?_eq_none (by omega)]
      rfl
  · cases h
def fl_ks (T : List fl_T) (A : xi_H) : Bool := decide (A.length = T.length) && (List.range T.length).all (fun r => match T[r]?, A[r]? with
  | some s, some c => fl_k s c
  | _, _ => false)
theorem fl_ks_eq {T : List fl_T} {A : xi_H} (h : fl_ks T A = true) : ∃ (G : Nat → Nat → Option Nat) (F : fl_N), A = fl_H T G F ∧ ∀ r t rs, T[r]? = some (1, t, rs) → ∀ j, j < rs.length → G r j = rs[j]? := by
  simp only [fl_ks, Bool.and_eq_true, decide_eq_true_eq, List.all_eq_true, List.mem_range] at h
  obtain ⟨hl, h⟩ := h
  have h1 : ∀ r : Nat, ∃ q : (Nat → Option Nat) × (Nat → Int), ∀ s c, T[r]? = some s → A[r]? = some c → c = fl_c s q.1 q.2 ∧ ∀ t rs, s = (1, t, rs) → ∀ j, j < rs.length → q.1 j = rs[j]? := by
    intro r
    by_cases hr : r < T.length
    · have h2 := h r hr
      rw [List.getElem?_eq_getElem hr, List.getElem?_eq_getElem (by omega)] at h2
      obtain ⟨g, f, e1, e2⟩ := fl_k_eq h2
      refine ⟨(g, f), fun s c hs hc => ?_⟩
      rw [List.getElem?_eq_getElem hr] at hs
      rw [List.getElem?_eq_getElem (by omega)] at hc
      cases hs
      cases hc
      exact ⟨e1, e2⟩
    · refine ⟨(fun _ => none, fun _ => 0), fun s c hs => ?_⟩
      rw [List.getElem?_eq_none (by omega)] at hs
      cases hs
  obtain ⟨q, hq⟩ := Classical.axiomOfChoice h1
  refine ⟨fun r => (q r).1, fun r => (q r).2, ?_, fun r t rs hT j hj => ?_⟩
  · apply List.ext_getElem?
    intro r
    by_cases hr : r < T.length
    · have hs : T[r]? = some T[r] := List.getElem?_eq_getElem hr
      have hc : A[r]? = some A[r] := List.getElem?_eq_getElem (by omega)
      rw [hc]
      have e1 := fl_at (T := T) (G := fun r => (q r).1) (F := fun r => (q r).2) (X := []) hs
      rw [List.append_nil] at e1
      rw [e1, ← (hq r _ _ hs hc).1]
    · rw [List.getElem?_eq_none (by omega), List.getElem?_eq_none (by rw [fl_len]; omega)]
  · have hr := (List.getElem?_eq_some_iff.mp hT).1
    have hc : A[r]? = some A[r] := List.getElem?_eq_getElem (by omega)
    exact (hq r _ _ hT hc).2 t rs rfl j hj

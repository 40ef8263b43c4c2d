/-! A HEAP OF THE RIGHT SHAPES IS A FLAT ONE -/
def fl_kf (k : Option Nat) (v : Option Value) : Bool := match k, v with
  | some 0, some (.int _) => true
  | some 1, some (.long _) => true
  | some 2, some (.ref _) => true
  | some (k + 3), some (.ref r) => decide (r = k)
  | _, _ => false
def fl_k (s : fl_T) (c : xi_E) : Bool := match s, c with
  | (0, 1, ns), .inl (t, n, .inr (.inl _)) => decide (t = 1) && decide (n = ns.headD 0)
  | (0, t0, ns), .inl (t, n, .inl _) => decide (t0 ≠ 1) && (decide (t = t0) && decide (n = ns.headD 0))
  | (1, t0, rs), .inl (t, n, .inr (.inr (.inr (.inr f)))) => (decide (t = t0) && decide (n = rs.length)) && (List.range rs.length).all (fun j => decide (f j = rs[j]?))
  | (2, ci, ks), .inr (cj, fs) => (decide (cj = ci) && decide (fs.length = ks.length)) && (List.range ks.length).all (fun j => fl_kf ks[j]? fs[j]?)
  | _, _ => false
def fl_n (v : Option Value) : Int := match v with
  | some (.int v) => v.toInt
  | some (.long v) => v.toInt
  | some (.ref r) => (r : Int)
  | _ => 0
def fl_g (c : xi_E) : Nat → Option Nat := match c with
  | .inl (_, _, .inr (.inr (.inr (.inr f)))) => f
  | _ => fun _ => none
def fl_h (c : xi_E) : Nat → Int := match c with
  | .inl (_, _, .inl f) => fun j => (f j).toInt
  | .inl (_, _, .inr (.inl f)) => fun j => (f j).toInt
  | .inr (_, fs) => fun j => fl_n fs[j]?
  | _ => fun _ => 0
theorem fl_k_eq {s : fl_T} {c : xi_E} (h : fl_k s c = true) : c = fl_c s (fl_g c) (fl_h c) ∧ ∀ t rs, s = (1, t, rs) → ∀ j, j < rs.length → fl_g c j = rs[j]? := by
  unfold fl_k at h
  split at h
  · rename_i ns t n f
    simp only [Bool.and_eq_true, decide_eq_true_eq] at h
    obtain ⟨rfl, rfl⟩ := h
    refine ⟨?_, fun t rs e => by simp at e⟩
    simp [fl_c, fl_h, Int64.ofInt_toInt]
  · rename_i t0 ns t n f
    simp only [Bool.and_eq_true, decide_eq_true_eq] at h
    obtain ⟨h1, rfl, rfl⟩ := h
    refine ⟨?_, fun t rs e => by simp at e⟩
    match t, h1 with
    | 0, _ => simp [fl_c, fl_h, Int32.ofInt_toInt]
    | 1, h1 => exact absurd rfl h1
    | k + 2, _ => simp [fl_c, fl_h, Int32.ofInt_toInt]
  · rename_i t0 rs t n f
    simp only [Bool.and_eq_true, decide_eq_true_eq, List.all_eq_true, List.mem_range] at h
    obtain ⟨⟨rfl, rfl⟩, h3⟩ := h
    refine ⟨rfl, fun t rs' e => ?_⟩
    simp only [Prod.mk.injEq, true_and] at e
    obtain ⟨rfl, rfl⟩ := e
    exact h3
  · rename_i ci ks cj fs
    simp only [Bool.and_eq_true, decide_eq_true_eq, List.all_eq_true, List.mem_range] at h
    obtain ⟨⟨rfl, h2⟩, h3⟩ := h
    refine ⟨?_, fun t rs e => by simp at e⟩
    show (.inr (cj, fs) : xi_E) = .inr (cj, ks.mapIdx (fun j k => fl_f (fun j => fl_n fs[j]?) j k))
    congr 2
    apply List.ext_getElem?
    intro j
    rw [List.getElem?_mapIdx]
    by_cases hj : j < ks.length
    · have h4 := h3 j hj
      unfold fl_kf at h4
      split at h4
      · rename_i v e1 e2
        rw [e1, e2]
        simp [fl_f, e2, fl_n, Int32.ofInt_toInt]
      · rename_i v e1 e2
        rw [e1, e2]
        simp [fl_f, e2, fl_n, Int64.ofInt_toInt]
      · rename_i v e1 e2
        rw [e1, e2]
        simp [fl_f, e2, fl_n]
      · rename_i k v e1 e2
        rw [e1, e2]
        simp only [decide_eq_true_eq] at h4
        subst h4
        simp [fl_f]
      · cases h4
    · rw [List.getElem?_eq_none (by omega), List.getElem?_eq_none (by omega)]
      rfl
  · cases h
def fl_ks (T : List fl_T) (A : xi_H) : Bool := decide (A.length = T.length) && (List.range T.length).all (fun r => match T[r]?, A[r]? with
  | some s, some c => fl_k s c
  | _, _ => false)
def fl_F (A : xi_H) : fl_N := fun r => match A[r]? with
  | some c => fl_h c
  | none => fun _ => 0
def fl_G (A : xi_H) : Nat → Nat → Option Nat := fun r => match A[r]? with
  | some c => fl_g c
  | none => fun _ => none
theorem fl_ks_eq {T : List fl_T} {A : xi_H} (h : fl_ks T A = true) : A = fl_H T (fl_G A) (fl_F A) ∧ ∀ r t rs, T[r]? = some (1, t, rs) → ∀ j, j < rs.length → fl_G A r j = rs[j]? := by
  simp only [fl_ks, Bool.and_eq_true, decide_eq_true_eq, List.all_eq_true, List.mem_range] at h
  obtain ⟨hl, h⟩ := h
  have h1 : ∀ (r : Nat) (s : fl_T), T[r]? = some s → ∃ c, A[r]? = some c ∧ fl_k s c = true := by
    intro r s hs
    have hr := (List.getElem?_eq_some_iff.mp hs).1
    have h2 := h r hr
    have hc : A[r]? = some A[r] := List.getElem?_eq_getElem (by omega)
    rw [hs, hc] at h2
    exact ⟨_, hc, h2⟩
  refine ⟨?_, fun r t rs hT j hj => ?_⟩
  · apply List.ext_getElem?
    intro r
    by_cases hr : r < T.length
    · have hs : T[r]? = some T[r] := List.getElem?_eq_getElem hr
      obtain ⟨c, hc, hk⟩ := h1 r _ hs
      have e1 := fl_at (T := T) (G := fl_G A) (F := fl_F A) (X := []) hs
      rw [List.append_nil] at e1
      have e2 : fl_G A r = fl_g c := by simp only [fl_G, hc]
      have e3 : fl_F A r = fl_h c := by simp only [fl_F, hc]
      rw [e1, hc, e2, e3, ← (fl_k_eq hk).1]
    · rw [List.getElem?_eq_none (by omega), List.getElem?_eq_none (by rw [fl_len]; omega)]
  · obtain ⟨c, hc, hk⟩ := h1 r _ hT
    have e2 : fl_G A r = fl_g c := by simp only [fl_G, hc]
    rw [e2]
    exact (fl_k_eq hk).2 t rs rfl j hj

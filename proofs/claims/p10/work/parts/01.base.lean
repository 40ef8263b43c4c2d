/-! THE ABSTRACT MACHINE: cells by number, references as numbers of cells (.ref k: the k-th new cell), .retAddr j: the j-th text constant -/
abbrev xi_E : Type := (Nat × vp_A) ⊕ (Nat × List Value)
abbrev xi_H : Type := List xi_E
abbrev xi_L : Type := List (Nat × Value)
/-- a row of a method's table: instruction, length, next place, numbers of its own -/
abbrev xi_I : Type := Instr × Nat × Nat × List Nat
/-- a value, made real -/
def xi_v (b0 : Nat) (aS : Nat → Nat) : Value → Value
  | .ref k => .ref (b0 + k)
  | .retAddr j => .ref (aS j)
  | v => v
def xi_q (b0 : Nat) (x : vp_A) : vp_A := match x with
  | (n, .inr (.inr (.inr (.inr f)))) => (n, .inr (.inr (.inr (.inr (fun j => (f j).map (fun k => b0 + k))))))
  | x => x
def xi_e (b0 : Nat) (aS : Nat → Nat) (dA : Nat → ClassId) : xi_E → va_E
  | .inl (t, x) => .inl (dA t, xi_q b0 x)
  | .inr (ci, fs) => .inr (ci, fs.map (xi_v b0 aS))
def xi_w (b0 : Nat) (aS : Nat → Nat) (dA : Nat → ClassId) (A : xi_H) : va_W := A.mapIdx (fun k x => (b0 + k, xi_e b0 aS dA x))
def xi_l (b0 : Nat) (aS : Nat → Nat) (lv : xi_L) : xi_L := lv.map (fun q => (q.1, xi_v b0 aS q.2))
/-- slots of a heap -/
def xi_n : xi_E → Nat
  | .inl (_, x) => x.1
  | .inr (_, fs) => fs.length
def xi_ns (A : xi_H) : Nat := (A.map xi_n).sum
theorem xi_v_cat (b0 : Nat) (aS : Nat → Nat) (v : Value) : (xi_v b0 aS v).category = v.category := by cases v <;> rfl
theorem xi_w_get {b0 : Nat} {aS : Nat → Nat} {dA : Nat → ClassId} {A : xi_H} {k : Nat} {x : xi_E} (h : A[k]? = some x) : (xi_w b0 aS dA A)[k]? = some (b0 + k, xi_e b0 aS dA x) := by
  simp [xi_w, h]
theorem xi_w_len (b0 : Nat) (aS : Nat → Nat) (dA : Nat → ClassId) (A : xi_H) : (xi_w b0 aS dA A).length = A.length := by simp [xi_w]
theorem xi_w_set {b0 : Nat} {aS : Nat → Nat} {dA : Nat → ClassId} {A : xi_H} {k : Nat} {x : xi_E} : (xi_w b0 aS dA A).set k (b0 + k, xi_e b0 aS dA x) = xi_w b0 aS dA (A.set k x) := by
  apply List.ext_getElem?
  intro i
  by_cases h : k = i
  · subst h
    by_cases hk : k < A.length
    · simp [xi_w, List.getElem?_set, hk]
    · simp [xi_w, List.getElem?_set, hk]
  · simp [xi_w, List.getElem?_set, h]
theorem xi_w_push {b0 : Nat} {aS : Nat → Nat} {dA : Nat → ClassId} {A : xi_H} {x : xi_E} : xi_w b0 aS dA A ++ [(b0 + A.length, xi_e b0 aS dA x)] = xi_w b0 aS dA (A ++ [x]) := by
  simp [xi_w, List.mapIdx_append]
theorem xi_w_D {b0 : Nat} {aS : Nat → Nat} {dA : Nat → ClassId} (A : xi_H) : va_D (fun q => b0 ≤ q) (xi_w b0 aS dA A) := by
  refine ⟨fun i j p q hi hj h => ?_, fun k q hk => ?_⟩
  · simp only [xi_w, List.getElem?_mapIdx, Option.map_eq_some_iff] at hi hj
    obtain ⟨x, -, rfl⟩ := hi
    obtain ⟨y, -, rfl⟩ := hj
    simp only at h
    omega
  · simp only [xi_w, List.getElem?_mapIdx, Option.map_eq_some_iff] at hk
    obtain ⟨x, -, rfl⟩ := hk
    exact Nat.le_add_right _ _
theorem xi_ns_set {A : xi_H} {k : Nat} {x y : xi_E} (h : A[k]? = some x) (hn : xi_n x = xi_n y) : xi_ns (A.set k y) = xi_ns A := by
  unfold xi_ns
  congr 1
  apply List.ext_getElem?
  intro i
  by_cases hi : k = i
  · subst hi
    obtain ⟨hk, he⟩ := List.getElem?_eq_some_iff.mp h
    simp [List.getElem?_set, hk, he, hn]
  · simp [List.getElem?_set, hi]
theorem xi_ns_push (A : xi_H) (x : xi_E) : xi_ns (A ++ [x]) = xi_ns A + xi_n x := by simp [xi_ns]
def xi_isr : Value → Bool
  | .ref _ => true
  | .retAddr _ => true
  | .null => true
  | _ => false
/-! LOCALS -/
def xi_get (lv : xi_L) (i : Nat) : Option Value := (lv.find? (fun q => q.1 == i)).map (·.2)
def xi_put1 (lv : xi_L) (i : Nat) (v : Value) : xi_L := (i, v) :: lv.filter (fun q => !(q.1 == i) && !(q.1 + 1 == i && q.2.category == 2))
def xi_put2 (lv : xi_L) (i : Nat) (v : Value) : xi_L := (i, v) :: lv.filter (fun q => !(q.1 == i) && (!(q.1 == i + 1) && !(q.1 + 1 == i && q.2.category == 2)))
theorem xi_get_mem {lv : xi_L} {i : Nat} {v : Value} (h : xi_get lv i = some v) : (i, v) ∈ lv := by
  simp only [xi_get, Option.map_eq_some_iff] at h
  obtain ⟨q, h1, rfl⟩ := h
  have h2 := List.find?_some h1
  have h3 := List.mem_of_find?_eq_some h1
  simp only [beq_iff_eq] at h2
  rw [← h2]
  exact h3
theorem xi_get_at {b0 : Nat} {aS : Nat → Nat} {ls : Array Slot} {nL : Nat} {lv : xi_L} {i : Nat} {v : Value} (hl : lv_has ls nL (xi_l b0 aS lv)) (h : xi_get lv i = some v) : ls[i]? = some (.val (xi_v b0 aS v)) :=
  hl.2.2 (i, xi_v b0 aS v) (List.mem_map.mpr ⟨(i, v), xi_get_mem h, rfl⟩)
theorem xi_get_ix {b0 : Nat} {aS : Nat → Nat} {lv : xi_L} {i : Nat} {v : Value} (h : xi_get lv i = some v) : ∃ k : Nat, (xi_l b0 aS lv)[k]? = some (i, xi_v b0 aS v) :=
  List.getElem?_of_mem (List.mem_map.mpr ⟨(i, v), xi_get_mem h, rfl⟩)
theorem xi_put1_l (b0 : Nat) (aS : Nat → Nat) (lv : xi_L) (i : Nat) (v : Value) : (i, xi_v b0 aS v) :: (xi_l b0 aS lv).filter (fun q => !(q.1 == i) && !(q.1 + 1 == i && q.2.category == 2)) = xi_l b0 aS (xi_put1 lv i v) := by
  simp only [xi_l, xi_put1, List.map_cons, List.filter_map, Function.comp_def, xi_v_cat]
theorem xi_put2_l (b0 : Nat) (aS : Nat → Nat) (lv : xi_L) (i : Nat) (v : Value) : (i, xi_v b0 aS v) :: (xi_l b0 aS lv).filter (fun q => !(q.1 == i) && (!(q.1 == i + 1) && !(q.1 + 1 == i && q.2.category == 2))) = xi_l b0 aS (xi_put2 lv i v) := by
  simp only [xi_l, xi_put2, List.map_cons, List.filter_map, Function.comp_def, xi_v_cat]

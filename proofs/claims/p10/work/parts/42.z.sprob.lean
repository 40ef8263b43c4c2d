/-! THE PLAIN READER OF PROBLEMS (draft, not yet compiled) -/
def sp_dnm (K : fl_N) : Int := match sp_open K [100, 111, 109, 97, 105, 110] 0 with
  | .inr p => K 6 p.toNat
  | .inl _ => 0
def sp_part (K : fl_N) (w : List Int) (p : Int) : PR Int := pb (sp_kind K 0 p) fun p => sp_word K w p
def sp_dname (K : fl_N) (nm p : Int) : PR Int := pb (sp_part K [58, 100, 111, 109, 97, 105, 110] p) fun p => if K 3 p.toNat = 2 ∧ K 6 p.toNat ≠ nm then pf K p 3 else pb (sp_kind K 2 p) fun p => sp_kind K 1 p
def sp_objs (K : fl_N) (ts : List Int) : Nat → List Int → List Int → Int → PR (Int × List Int × List Int)
  | 0, l, tl, p => .inr (p, l, tl)
  | m + 1, l, tl, p => if l ≠ [] ∧ K 3 p.toNat = 1 then .inr (p, l, tl) else pb (sp_typed K ts 2 l tl p) (fun q => sp_objs K ts m q.2.1 q.2.2 q.1)
def sp_robjs (K : fl_N) (ts : List Int) (p : Int) : PR (Int × List Int × List Int) := pb (sp_part K [58, 111, 98, 106, 101, 99, 116, 115] p) fun p => pb (sp_objs K ts 6 [] [] p) fun q => pb (sp_kind K 1 q.1) fun p => .inr (p, q.2)
def sp_atoms (K : fl_N) (k : Int) (l tl pl : List Int) (ps : List (List Int)) : Nat → Int → PR Int
  | 0, p => .inr p
  | m + 1, p => if K 3 p.toNat = 0 then pb (sp_atom K k l tl pl ps (sk K p)) (fun p => sp_atoms K k l tl pl ps m p) else .inr p
/-- what a problem is, behind a domain of that name, of these types and predicates: its objects, their types -/
def sp_prb (K : fl_N) (nm : Int) (ts pl : List Int) (ps : List (List Int)) : PR (List Int × List Int) := pb (sp_open K [112, 114, 111, 98, 108, 101, 109] 0) fun p => pb (sp_kind K 2 p) fun p => pb (sp_kind K 1 p) fun p => pb (sp_dname K nm p) fun p => pb (sp_robjs K ts p) fun r =>
  pb (sp_part K [58, 105, 110, 105, 116] r.1) fun p => pb (sp_atoms K 2 r.2.1 r.2.2 pl ps 12 p) fun p => pb (sp_kind K 1 p) fun p => pb (sp_part K [58, 103, 111, 97, 108] p) fun p => pb (sp_clause K false 2 r.2.1 r.2.2 pl ps p) fun s => pb (sp_kind K 1 s.1) fun p => pb (sp_close K p) fun _ => .inr r.2
theorem spo_step {K : fl_N} {ts l tl : List Int} {i p : Int} (h : i < 6) (hl : (l.length : Int) = i) (hk : i = 0 ∨ ¬ K 3 p.toNat = 1) : sp_objs K ts (6 - i).toNat l tl p = pb (sp_typed K ts 2 l tl p) (fun q => sp_objs K ts (6 - (i + 1)).toNat q.2.1 q.2.2 q.1) := by
  rw [show (6 - i).toNat = (6 - (i + 1)).toNat + 1 by omega]
  conv => lhs; unfold sp_objs
  rw [if_neg]
  rintro ⟨h1, h2⟩
  rcases hk with hk | hk
  · exact h1 (List.eq_nil_of_length_eq_zero (by omega))
  · exact hk h2
theorem spo_z {K : fl_N} {ts l tl : List Int} {i p : Int} (h : 6 ≤ i) : sp_objs K ts (6 - i).toNat l tl p = .inr (p, l, tl) := by
  rw [show (6 - i).toNat = 0 by omega]
  rfl
theorem spo_e {K : fl_N} {ts l tl : List Int} {m : Nat} {i p : Int} (hl : (l.length : Int) = i) (h : ¬ i = 0) (hk : K 3 p.toNat = 1) : sp_objs K ts m l tl p = .inr (p, l, tl) := by
  cases m with
  | zero => rfl
  | succ m =>
    unfold sp_objs
    rw [if_pos ⟨fun e => by rw [e] at hl; simp at hl; omega, hk⟩]
theorem spz_step {K : fl_N} {k : Int} {l tl pl : List Int} {ps : List (List Int)} {i p : Int} (h : i < 12) (hk : K 3 p.toNat = 0) : sp_atoms K k l tl pl ps (12 - i).toNat p = pb (sp_atom K k l tl pl ps (sk K p)) (fun p => sp_atoms K k l tl pl ps (12 - (i + 1)).toNat p) := by
  rw [show (12 - i).toNat = (12 - (i + 1)).toNat + 1 by omega]
  conv => lhs; unfold sp_atoms
  rw [if_pos hk]
theorem spz_z {K : fl_N} {k : Int} {l tl pl : List Int} {ps : List (List Int)} {i p : Int} (h : 12 ≤ i) : sp_atoms K k l tl pl ps (12 - i).toNat p = .inr p := by
  rw [show (12 - i).toNat = 0 by omega]
  rfl
theorem spz_e {K : fl_N} {k : Int} {l tl pl : List Int} {ps : List (List Int)} {m : Nat} {p : Int} (hk : ¬ K 3 p.toNat = 0) : sp_atoms K k l tl pl ps m p = .inr p := by
  cases m with
  | zero => rfl
  | succ m =>
    unfold sp_atoms
    rw [if_neg hk]
theorem kd_ok {K : fl_N} {k p q : Int} (h : sp_kind K k p = .inr q) : K 3 p.toNat = k ∧ q = sk K p := by
  unfold sp_kind at h
  split at h
  · rename_i h1
    exact ⟨h1, (Sum.inr.inj h).symm⟩
  · cases h

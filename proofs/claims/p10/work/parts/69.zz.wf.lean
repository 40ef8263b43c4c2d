/-! literals that fit their predicates; the reference's values -/
def lwf (ps : List (List Int)) (x : lt_T) : Prop := ¬ x.1 = -1 → (0 ≤ x.1 ∧ x.1 < (ps.length : Int)) ∧ (((ps.getD x.1.toNat []).length < 1 ∧ x.2.2.1 = -1) ∨ (1 ≤ (ps.getD x.1.toNat []).length ∧ 0 ≤ x.2.2.1)) ∧ (((ps.getD x.1.toNat []).length < 2 ∧ x.2.2.2 = -1) ∨ (2 ≤ (ps.getD x.1.toNat []).length ∧ 0 ≤ x.2.2.2))
def obr (F : fl_N) (a : Int) (j : Nat) : Int := if a = 5 then (j : Int) else F 384 j
theorem val_ref {F : fl_N} {a z f t : Int} (h : z = (if a = 5 then t else F 384 t.toNat)) (ht : t = f) (hf : 0 ≤ f) : z = obr F a f.toNat := by
  unfold obr
  rw [h, ht]
  by_cases e : a = 5
  · rw [if_pos e, if_pos e]
    omega
  · rw [if_neg e, if_neg e]
theorem pl_ref {F : fl_N} {ps : List (List Int)} {x : lt_T} {a A B P : Int} (hP : P = x.1) (hz : F 351 P.toNat = ((ps.getD x.1.toNat []).length : Int)) (hw : (0 ≤ x.1 ∧ x.1 < (ps.length : Int)) ∧ (((ps.getD x.1.toNat []).length < 1 ∧ x.2.2.1 = -1) ∨ (1 ≤ (ps.getD x.1.toNat []).length ∧ 0 ≤ x.2.2.1)) ∧ (((ps.getD x.1.toNat []).length < 2 ∧ x.2.2.2 = -1) ∨ (2 ≤ (ps.getD x.1.toNat []).length ∧ 0 ≤ x.2.2.2))) (hA : 1 ≤ (ps.getD x.1.toNat []).length → A = obr F a x.2.2.1.toNat) (hB : 2 ≤ (ps.getD x.1.toNat []).length → B = obr F a x.2.2.2.toNat) : (36 * P + (if 0 < F 351 P.toNat then 6 * A else 0) + (if 1 < F 351 P.toNat then B else 0)).toNat = plq x (obr F a) := by
  unfold plq
  rw [hz, hP]
  obtain ⟨h0, h1, h2⟩ := hw
  rcases h1 with ⟨a1, a2⟩ | ⟨a1, a2⟩
  · rcases h2 with ⟨b1, b2⟩ | ⟨b1, b2⟩
    · rw [if_neg (by omega), if_neg (by omega), if_pos a2, if_pos b2]
      omega
    · exact absurd b1 (by omega)
  · rw [if_pos (by omega), if_neg (show ¬ x.2.2.1 = -1 by omega), hA a1]
    rcases h2 with ⟨b1, b2⟩ | ⟨b1, b2⟩
    · rw [if_neg (by omega), if_pos b2]
    · rw [if_pos (by omega), if_neg (show ¬ x.2.2.2 = -1 by omega), hB b1]
/-- the objects in use do not matter beyond the terms -/
theorem plq_cg {x : lt_T} {ob ob' : Nat → Int} {m : Nat} (h1 : x.2.2.1 < (m : Int)) (h2 : x.2.2.2 < (m : Int)) (h3 : -1 ≤ x.2.2.1) (h4 : -1 ≤ x.2.2.2) (ho : ∀ j, j < m → ob j = ob' j) : plq x ob = plq x ob' := by
  unfold plq
  by_cases e1 : x.2.2.1 = -1
  · by_cases e2 : x.2.2.2 = -1
    · rw [if_pos e1, if_pos e2, if_pos e1, if_pos e2]
    · rw [if_pos e1, if_neg e2, if_pos e1, if_neg e2, ho _ (by omega)]
  · by_cases e2 : x.2.2.2 = -1
    · rw [if_neg e1, if_pos e2, if_neg e1, if_pos e2, ho _ (by omega)]
    · rw [if_neg e1, if_neg e2, if_neg e1, if_neg e2, ho _ (by omega), ho _ (by omega)]
theorem rcl_get {F : fl_N} {at_ k : Nat} {L : List lt_T} (h : rcl F at_ L) (hk : k < L.length) : ∃ x, L[k]? = some x ∧ rlt F (at_ + k) x := by
  obtain ⟨x, hx⟩ := gtk hk
  exact ⟨x, hx, h k x hx⟩
/-! the reference tries 216 ways -/
def vfk (tl tys : List Int) (x k : Nat) : Bool := (List.range k).all (fun i => if i < tys.length then decide (gvn x i < tl.length) && fit tl ((gvn x i : Nat) : Int) (tys.getD i 0) else decide (gvn x i = 0))
theorem vfk_s {tl tys : List Int} {x k : Nat} : vfk tl tys x (k + 1) = (vfk tl tys x k && (if k < tys.length then decide (gvn x k < tl.length) && fit tl ((gvn x k : Nat) : Int) (tys.getD k 0) else decide (gvn x k = 0))) := by
  unfold vfk
  rw [List.range_succ, List.all_append]
  simp
theorem all_and {p q : Nat → Bool} {n : Nat} : ((List.range n).all p && (List.range n).all q) = (List.range n).all (fun i => p i && q i) := by
  induction n with
  | zero => rfl
  | succ n ih =>
    rw [List.range_succ, List.all_append, List.all_append, List.all_append, ← ih]
    simp only [List.all_cons, List.all_nil, Bool.and_true]
    cases (List.range n).all p <;> cases (List.range n).all q <;> cases p n <;> cases q n <;> rfl
theorem fts_3 {tl tys : List Int} {x : Nat} (h : tys.length ≤ 3) : fts tl tys x = (List.range 3).all (fun i => if i < tys.length then fit tl ((gvn x i : Nat) : Int) (tys.getD i 0) else true) := by
  unfold fts
  rw [Bool.eq_iff_iff, List.all_eq_true, List.all_eq_true]
  constructor
  · intro h1 i hi
    by_cases e : i < tys.length
    · rw [if_pos e]
      exact h1 i (List.mem_range.mpr e)
    · rw [if_neg e]
  · intro h1 i hi
    have e := List.mem_range.mp hi
    have h2 := h1 i (List.mem_range.mpr (by omega))
    rw [if_pos e] at h2
    exact h2
theorem vf_3 {tl tys : List Int} {x : Nat} (h : tys.length ≤ 3) : vfk tl tys x 3 = (vld tl.length tys.length x && fts tl tys x) := by
  rw [fts_3 h]
  unfold vld vfk
  rw [all_and]
  congr 1
  funext i
  by_cases e : i < tys.length
  · rw [if_pos e, if_pos e, if_pos e]
  · rw [if_neg e, if_neg e, if_neg e, Bool.and_true]
/-- one more parameter -/
theorem vfk_1 {tl tys : List Int} {x k : Nat} {g0 : Int} (hg : g0 = if vfk tl tys x k = true then 1 else 0) (h0 : ¬ g0 = 0) (h : (k < tys.length ∧ gvn x k < tl.length ∧ (tys.getD k 0 = -1 ∨ tl.getD (gvn x k) 0 = tys.getD k 0)) ∨ (tys.length ≤ k ∧ gvn x k = 0)) : (1 : Int) = if vfk tl tys x (k + 1) = true then 1 else 0 := by
  rw [vfk_s, (eq01 hg).2 h0, Bool.true_and]
  rcases h with ⟨a1, a2, a3⟩ | ⟨a1, a2⟩
  · have e : fit tl ((gvn x k : Nat) : Int) (tys.getD k 0) = true := by
      simp only [fit, Int.toNat_natCast, Bool.or_eq_true, decide_eq_true_eq]
      exact a3
    rw [if_pos a1, decide_eq_true a2, e]
    rfl
  · rw [if_neg (show ¬ k < tys.length by omega), decide_eq_true a2]
    rfl
theorem vfk_0 {tl tys : List Int} {x k : Nat} {g0 : Int} (hg : g0 = if vfk tl tys x k = true then 1 else 0) (h : g0 = 0 ∨ (k < tys.length ∧ (tl.length ≤ gvn x k ∨ (¬ tys.getD k 0 = -1 ∧ ¬ tl.getD (gvn x k) 0 = tys.getD k 0))) ∨ (tys.length ≤ k ∧ ¬ gvn x k = 0)) : (0 : Int) = if vfk tl tys x (k + 1) = true then 1 else 0 := by
  have e : vfk tl tys x (k + 1) = false := by
    rw [vfk_s]
    rcases h with h | ⟨a1, a2 | ⟨a2, a3⟩⟩ | ⟨a1, a2⟩
    · rw [(eq01 hg).1 h, Bool.false_and]
    · rw [if_pos a1, decide_eq_false (by omega), Bool.false_and, Bool.and_false]
    · have e : fit tl ((gvn x k : Nat) : Int) (tys.getD k 0) = false := by
        unfold fit
        rw [Int.toNat_natCast, decide_eq_false a2, decide_eq_false a3]
        rfl
      rw [if_pos a1, e, Bool.and_false, Bool.and_false]
    · rw [if_neg (by omega), decide_eq_false a2, Bool.and_false]
  rw [e]
  rfl
def stR (tl : List Int) (D : List ad_T) (a m : Nat) : List (Nat × Nat) := ((List.range m).filter (fun x => vld tl.length (dat D a).1.length x && oks tl (dat D a) x)).map (fun x => (a, x))
theorem stR_y {tl : List Int} {D : List ad_T} {a m : Nat} (h : (vld tl.length (dat D a).1.length m && oks tl (dat D a) m) = true) : stR tl D a (m + 1) = stR tl D a m ++ [(a, m)] := by
  unfold stR
  rw [List.range_succ, List.filter_append, List.map_append]
  simp [h]
theorem stR_n {tl : List Int} {D : List ad_T} {a m : Nat} (h : (vld tl.length (dat D a).1.length m && oks tl (dat D a) m) = false) : stR tl D a (m + 1) = stR tl D a m := by
  unfold stR
  rw [List.range_succ, List.filter_append, List.map_append]
  simp [h]
theorem stR_end {tl : List Int} {D : List ad_T} {a : Nat} : stR tl D a 216 = stE tl D a := rfl
theorem stR_le {tl : List Int} {D : List ad_T} {a m n : Nat} (h : m ≤ n) : (stR tl D a m).length ≤ (stR tl D a n).length := by
  induction n with
  | zero => rw [show m = 0 by omega]; exact Nat.le_refl _
  | succ n ih =>
    by_cases e : m = n + 1
    · rw [e]; exact Nat.le_refl _
    · refine Nat.le_trans (ih (by omega)) ?_
      cases h9 : (vld tl.length (dat D a).1.length n && oks tl (dat D a) n) with
      | true => rw [stR_y h9, List.length_append]; omega
      | false => rw [stR_n h9]; exact Nat.le_refl _
def gvo (x : Nat) (j : Nat) : Int := ((gvn x j : Nat) : Int)
theorem gvo_of {F : fl_N} {x : Int} (h0 : F 384 0 = x / 36) (h1 : F 384 1 = x / 6 % 6) (h2 : F 384 2 = x % 6) (hx : 0 ≤ x) : ∀ j : Nat, j < 3 → F 384 j = ((gvn x.toNat j : Nat) : Int) := by
  intro j hj
  have e : j = 0 ∨ j = 1 ∨ j = 2 := by omega
  rcases e with e | e | e
  · subst e
    rw [h0]
    show x / 36 = ((x.toNat / 36 : Nat) : Int)
    omega
  · subst e
    rw [h1]
    show x / 6 % 6 = ((x.toNat / 6 % 6 : Nat) : Int)
    omega
  · subst e
    rw [h2]
    show x % 6 = ((x.toNat % 6 : Nat) : Int)
    omega
/-- the terms of an action's literals are parameters -/
def lt3 (x : lt_T) : Prop := (-1 ≤ x.2.2.1 ∧ x.2.2.1 < 3) ∧ (-1 ≤ x.2.2.2 ∧ x.2.2.2 < 3) ∧ (x.1 = -1 → 0 ≤ x.2.2.1 ∧ 0 ≤ x.2.2.2)
theorem msk_cg {fn fn' ob ob' : Nat → Int} {nt : Int} {L : List lt_T} (h : ∀ x ∈ L, ¬ x.1 = -1 → fn (plq x ob) = fn' (plq x ob')) : msk fn ob nt L = msk fn' ob' nt L := by
  unfold msk
  suffices hs : ∀ acc, L.foldl (mk1 fn ob nt) acc = L.foldl (mk1 fn' ob' nt) acc from hs 0
  induction L with
  | nil => intro acc; rfl
  | cons x L ih =>
    intro acc
    rw [List.foldl_cons, List.foldl_cons, ih (fun y hy => h y (List.mem_cons_of_mem _ hy))]
    congr 1
    unfold mk1
    by_cases e : x.1 = -1 ∨ ¬ x.2.1 = nt
    · rw [if_pos e, if_pos e]
    · rw [if_neg e, if_neg e, h x List.mem_cons_self (fun h9 => e (Or.inl h9))]
theorem msk_3 {fn ob ob' : Nat → Int} {nt : Int} {L : List lt_T} (h : ∀ x ∈ L, lt3 x) (ho : ∀ j, j < 3 → ob j = ob' j) : msk fn ob nt L = msk fn ob' nt L := msk_cg (fun x hx _ => by
  have h9 := h x hx
  rw [plq_cg (m := 3) h9.1.2 h9.2.1.2 h9.1.1 h9.2.1.1 ho])
def rstc (F : fl_N) (i : Nat) (D : List ad_T) (s : Nat × Nat) : Prop := F 367 i = (s.1 : Int) ∧ (∀ j, j < 3 → F 368 (3 * i + j) = if j < (dat D s.1).1.length then ((gvn s.2 j : Nat) : Int) else -1) ∧ (F 369 i = msk (F 366) (gvo s.2) 0 (dat D s.1).2.1 ∧ F 370 i = msk (F 366) (gvo s.2) 1 (dat D s.1).2.1) ∧ F 371 i = msk (F 366) (gvo s.2) 0 (dat D s.1).2.2.1 ∧ F 372 i = msk (F 366) (gvo s.2) 1 (dat D s.1).2.2.1
def rsts (F : fl_N) (D : List ad_T) (L : List (Nat × Nat)) : Prop := ∀ (i : Nat) (s : Nat × Nat), L[i]? = some s → rstc F i D s
theorem rsts_nil {F : fl_N} {D : List ad_T} : rsts F D [] := fun i s h => by simp at h
theorem rsts_cg {F F' : fl_N} {D : List ad_T} {L : List (Nat × Nat)} (h : rsts F D L) (h6 : ∀ j, F' 366 j = F 366 j) (h8 : ∀ j, j < 3 * L.length → F' 368 j = F 368 j) (hr : ∀ r j, (r = 367 ∨ (369 ≤ r ∧ r ≤ 372)) → j < L.length → F' r j = F r j) : rsts F' D L := fun i s hs => by
  have hl := (List.getElem?_eq_some_iff.mp hs).1
  have e6 : F' 366 = F 366 := funext h6
  obtain ⟨a1, a2, ⟨a3, a4⟩, a5, a6⟩ := h i s hs
  refine ⟨by rw [hr 367 i (by omega) hl]; exact a1, fun j hj => by rw [h8 _ (by omega)]; exact a2 j hj, ⟨?_, ?_⟩, ?_, ?_⟩
  · rw [hr 369 i (by omega) hl, e6]; exact a3
  · rw [hr 370 i (by omega) hl, e6]; exact a4
  · rw [hr 371 i (by omega) hl, e6]; exact a5
  · rw [hr 372 i (by omega) hl, e6]; exact a6
theorem rsts_add {F : fl_N} {D : List ad_T} {L : List (Nat × Nat)} {s : Nat × Nat} {i : Nat} (h : rsts F D L) (hi : i = L.length) (hs : rstc F i D s) : rsts F D (L ++ [s]) := by
  intro j t ht
  by_cases e : j < L.length
  · rw [List.getElem?_append_left e] at ht
    exact h j t ht
  · have hl := (List.getElem?_eq_some_iff.mp ht).1
    rw [List.length_append, List.length_singleton] at hl
    have e2 : j = L.length := by omega
    subst e2
    rw [List.getElem?_append_right (Nat.le_refl _)] at ht
    simp only [Nat.sub_self, List.getElem?_cons_zero, Option.some.injEq] at ht
    subst ht
    rw [← hi]
    exact hs
theorem ok_n1 {tl : List Int} {d : ad_T} {x : Nat} (hk : d.1.length ≤ 3) (h : vfk tl d.1 x 3 = false) : (vld tl.length d.1.length x && oks tl d x) = false := by
  rw [vf_3 hk] at h
  unfold oks
  rw [← Bool.and_assoc, h, Bool.false_and]
theorem ok_e {tl : List Int} {d : ad_T} {x : Nat} {b : Bool} {ob : Nat → Int} (hk : d.1.length ≤ 3) (h : vfk tl d.1 x 3 = true) (hw : ∀ y ∈ d.2.1, lt3 y) (ho : ∀ j, j < 3 → ob j = ((gvn x j : Nat) : Int)) (he : eqh d.2.1 ob = b) : (vld tl.length d.1.length x && oks tl d x) = b := by
  rw [vf_3 hk] at h
  unfold oks
  rw [← Bool.and_assoc, h, Bool.true_and, ← he]
  exact (eqh_ob (m := 3) (fun y hy h1 => by have h9 := hw y hy; have h8 := h9.2.2 h1; have h7 := h9.1; have h6 := h9.2.1; omega) ho).symm
theorem so_3 {F : fl_N} {f : Nat → Int} {I : Nat} {k v P : Int} (h : ∀ j : Nat, (j : Int) < k → F 368 (3 * I + j) = f j) (hP : P.toNat = 3 * I + k.toNat) (h0 : 0 ≤ k) (hv : v = f k.toNat) : ∀ j : Nat, (j : Int) < k + 1 → fl_u F 368 P.toNat v 368 (3 * I + j) = f j := by
  intro j hj
  by_cases e : j = k.toNat
  · subst e
    rw [hP, fl_u_eq]
    exact hv
  · rw [fl_u_ne (by omega)]
    exact h j (by omega)
theorem msk_a {fn ob : Nat → Int} {nt : Int} {L : List lt_T} {x : lt_T} : msk fn ob nt (L ++ [x]) = mk1 fn ob nt (msk fn ob nt L) x := by
  unfold msk
  rw [List.foldl_append]
  rfl
theorem obr5 {F : fl_N} : obr F 5 = fun j : Nat => (j : Int) := funext (fun j => if_pos rfl)

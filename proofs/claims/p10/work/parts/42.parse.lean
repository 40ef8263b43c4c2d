/-! THE READER, plainly. K: the tokens' tables as cut() leaves them (2 letters, 3 kinds, 4 starts, 5 ends, 6 codes; 1 6 their count). A result: a fault (number, place), or what was read -/
abbrev PR (α : Type) : Type := Sum (Int × Int) α
def pf {α : Type} (K : fl_N) (p e : Int) : PR α := .inl (e, K 4 p.toNat)
def pb {α β : Type} (x : PR α) (f : α → PR β) : PR β := match x with
  | .inl e => .inl e
  | .inr a => f a
def sk (K : fl_N) (p : Int) : Int := if p < K 1 6 - 1 then p + 1 else p
def isw (K : fl_N) (p : Int) (w : List Int) : Bool := decide (K 5 p.toNat - K 4 p.toNat = (w.length : Int)) && (List.range w.length).all (fun i => decide (K 2 ((K 4 p.toNat).toNat + i) = w.getD i 0))
/-- first place of a name, or -1 -/
def idx : List Int → Int → Int
  | [], _ => -1
  | x :: l, c => if x = c then 0 else if idx l c < 0 then -1 else idx l c + 1
def sp_kind (K : fl_N) (k p : Int) : PR Int := if K 3 p.toNat = k then .inr (sk K p) else pf K p 1
def sp_word (K : fl_N) (w : List Int) (p : Int) : PR Int := if isw K p w = true then .inr (sk K p) else pf K p 1
def sp_new (K : fl_N) (k : Int) (l : List Int) (p : Int) : PR (Int × List Int) := if K 3 p.toNat = k then (if idx l (K 6 p.toNat) < 0 then .inr (sk K p, l ++ [K 6 p.toNat]) else pf K p 2) else pf K p 1
def sp_type (K : fl_N) (ts : List Int) (p : Int) : PR (Int × Int) := if K 3 p.toNat = 2 then (if idx ts (K 6 p.toNat) < 0 then pf K p 3 else .inr (sk K p, idx ts (K 6 p.toNat))) else pf K p 1
def sp_typed (K : fl_N) (ts : List Int) (k : Int) (l tl : List Int) (p : Int) : PR (Int × List Int × List Int) := pb (sp_new K k l p) fun q => if isw K q.1 [45] = true then pb (sp_type K ts (sk K q.1)) (fun r => .inr (r.1, q.2, tl ++ [r.2])) else .inr (q.1, q.2, tl ++ [-1])
def sp_params (K : fl_N) (ts : List Int) : Nat → List Int → List Int → Int → PR (Int × List Int × List Int)
  | 0, l, tl, p => .inr (p, l, tl)
  | m + 1, l, tl, p => if K 3 p.toNat = 1 then .inr (p, l, tl) else pb (sp_typed K ts 3 l tl p) (fun q => sp_params K ts m q.2.1 q.2.2 q.1)
def sp_types (K : fl_N) : Nat → List Int → Int → PR (Int × List Int)
  | 0, l, p => .inr (p, l)
  | m + 1, l, p => if l ≠ [] ∧ K 3 p.toNat = 1 then .inr (p, l) else pb (sp_new K 2 l p) (fun q => sp_types K m q.2 q.1)
def sp_preds (K : fl_N) (ts : List Int) : Nat → List Int → List (List Int) → Int → PR (Int × List Int × List (List Int))
  | 0, l, ps, p => .inr (p, l, ps)
  | m + 1, l, ps, p => if l ≠ [] ∧ K 3 p.toNat ≠ 0 then .inr (p, l, ps) else pb (sp_kind K 0 p) fun p => pb (sp_new K 2 l p) fun q => pb (sp_params K ts 2 [] [] q.1) fun r => pb (sp_kind K 1 r.1) fun p => sp_preds K ts m q.2 (ps ++ [r.2.2]) p
def sp_term (K : fl_N) (k : Int) (l tl : List Int) (w p : Int) : PR Int := if K 3 p.toNat = k then (if idx l (K 6 p.toNat) < 0 then pf K p 3 else if w = -1 ∨ tl.getD (idx l (K 6 p.toNat)).toNat 0 = w then .inr (sk K p) else pf K p 4) else pf K p 1
def sp_atom (K : fl_N) (k : Int) (l tl pl : List Int) (ps : List (List Int)) (p : Int) : PR Int := if K 3 p.toNat = 2 then (if idx pl (K 6 p.toNat) < 0 then pf K p 3 else
    let t := ps.getD (idx pl (K 6 p.toNat)).toNat []
    pb (if 0 < t.length then sp_term K k l tl (t.getD 0 0) (sk K p) else .inr (sk K p)) fun p => pb (if 1 < t.length then sp_term K k l tl (t.getD 1 0) p else .inr p) fun p => sp_kind K 1 p) else pf K p 1
def sp_eq (K : fl_N) (k : Int) (l tl : List Int) (p : Int) : PR Int := pb (sp_term K k l tl (-1) (sk K p)) fun p => pb (sp_term K k l tl (-1) p) fun p => sp_kind K 1 p
def dgo (f : Nat → Int) : Nat → Nat → Int → Int
  | _, 0, v => v
  | i, k + 1, v => if 48 ≤ f i ∧ f i ≤ 57 then dgo f (i + 1) k (v * 10 + (f i - 48)) else 0
def sp_num (K : fl_N) (p : Int) : Int := if 3 < K 5 p.toNat - K 4 p.toNat then 0 else dgo (K 2) (K 4 p.toNat).toNat (K 5 p.toNat - K 4 p.toNat).toNat 0
def sp_inc (K : fl_N) (c p : Int) : PR (Int × Int) := if c = 0 then (pb (sp_kind K 0 (sk K p)) fun p => pb (sp_word K [116, 111, 116, 97, 108, 45, 99, 111, 115, 116] p) fun p => pb (sp_kind K 1 p) fun p => if sp_num K p = 0 then pf K p 1 else pb (sp_kind K 1 (sk K p)) fun r => .inr (r, sp_num K p)) else pf K p 5
/-- a member behind its parenthesis: e for an effect; c the cost so far -/
def sp_mem (K : fl_N) (e : Bool) (k : Int) (l tl pl : List Int) (ps : List (List Int)) (c p : Int) : PR (Int × Int) := if e = true ∧ isw K p [105, 110, 99, 114, 101, 97, 115, 101] = true then sp_inc K c p else
  if isw K p [110, 111, 116] = true then pb (sp_kind K 0 (sk K p)) fun p => pb (if e = false ∧ isw K p [61] = true then sp_eq K k l tl p else sp_atom K k l tl pl ps p) fun p => pb (sp_kind K 1 p) fun p => .inr (p, c)
  else pb (if e = false ∧ isw K p [61] = true then sp_eq K k l tl p else sp_atom K k l tl pl ps p) fun p => .inr (p, c)
def sp_mems (K : fl_N) (e : Bool) (k : Int) (l tl pl : List Int) (ps : List (List Int)) : Nat → Bool → Int → Int → PR (Int × Int)
  | 0, _, c, p => .inr (p, c)
  | m + 1, b, c, p => if b = false ∧ K 3 p.toNat ≠ 0 then .inr (p, c) else pb (sp_kind K 0 p) fun p => pb (sp_mem K e k l tl pl ps c p) fun q => sp_mems K e k l tl pl ps m false q.2 q.1
def sp_clause (K : fl_N) (e : Bool) (k : Int) (l tl pl : List Int) (ps : List (List Int)) (p : Int) : PR (Int × Int) := pb (sp_kind K 0 p) fun p => if isw K p [97, 110, 100] = true then pb (sp_mems K e k l tl pl ps 4 true 0 (sk K p)) (fun q => pb (sp_kind K 1 q.1) (fun p => .inr (p, q.2))) else sp_mem K e k l tl pl ps 0 p
/-- one action: its parameters are forgotten behind it -/
def sp_action (K : fl_N) (ts pl : List Int) (ps : List (List Int)) (al : List Int) (p : Int) : PR (Int × List Int) := pb (sp_kind K 0 p) fun p => pb (sp_word K [58, 97, 99, 116, 105, 111, 110] p) fun p => pb (sp_new K 2 al p) fun q => pb (sp_word K [58, 112, 97, 114, 97, 109, 101, 116, 101, 114, 115] q.1) fun p => pb (sp_kind K 0 p) fun p => pb (sp_params K ts 3 [] [] p) fun r => pb (sp_kind K 1 r.1) fun p =>
  pb (if isw K p [58, 112, 114, 101, 99, 111, 110, 100, 105, 116, 105, 111, 110] = true then sp_clause K false 3 r.2.1 r.2.2 pl ps (sk K p) else .inr (p, 0)) fun s => pb (sp_word K [58, 101, 102, 102, 101, 99, 116] s.1) fun p => pb (sp_clause K true 3 r.2.1 r.2.2 pl ps p) fun s => pb (sp_kind K 1 s.1) fun p => .inr (p, q.2)
def sp_actions (K : fl_N) (ts pl : List Int) (ps : List (List Int)) : Nat → List Int → Int → PR (Int × List Int)
  | 0, al, p => .inr (p, al)
  | m + 1, al, p => if al ≠ [] ∧ K 3 p.toNat ≠ 0 then .inr (p, al) else pb (sp_action K ts pl ps al p) (fun q => sp_actions K ts pl ps m q.2 q.1)
def sp_open (K : fl_N) (w : List Int) (p : Int) : PR Int := pb (sp_kind K 0 p) fun p => pb (sp_word K [100, 101, 102, 105, 110, 101] p) fun p => pb (sp_kind K 0 p) fun p => sp_word K w p
def sp_close (K : fl_N) (p : Int) : PR Int := pb (sp_kind K 1 p) fun p => sp_kind K 5 p
def sp_rtypes (K : fl_N) (p : Int) : PR (Int × List Int) := pb (sp_word K [58, 116, 121, 112, 101, 115] p) fun p => pb (sp_types K 4 [] p) fun q => pb (sp_kind K 1 q.1) fun p => .inr (p, q.2)
def sp_rpreds (K : fl_N) (ts : List Int) (p : Int) : PR (Int × List Int × List (List Int)) := pb (sp_word K [58, 112, 114, 101, 100, 105, 99, 97, 116, 101, 115] p) fun p => pb (sp_preds K ts 6 [] [] p) fun q => pb (sp_kind K 1 q.1) fun p => .inr (p, q.2)
/-- what a domain is: its types, predicates, their parameters' types, its actions -/
def sp_dom (K : fl_N) : PR (List Int × List Int × List (List Int) × List Int) := pb (sp_open K [100, 111, 109, 97, 105, 110] 0) fun p => pb (sp_kind K 2 p) fun p => pb (sp_kind K 1 p) fun p => pb (sp_kind K 0 p) fun p =>
  pb (if isw K p [58, 116, 121, 112, 101, 115] = true then pb (sp_rtypes K p) (fun q => pb (sp_kind K 0 q.1) fun p => .inr (p, q.2)) else .inr (p, [])) fun t =>
  pb (sp_rpreds K t.2 t.1) fun q => pb (sp_actions K t.2 q.2.1 q.2.2 5 [] q.1) fun a => pb (sp_close K a.1) fun _ => .inr (t.2, q.2.1, q.2.2, a.2)
/-! a table of numbers holds a list -/
def rep (g : Nat → Int) (n : Int) (l : List Int) : Prop := n = (l.length : Int) ∧ ∀ (j : Nat) (x : Int), l[j]? = some x → g j = x
theorem rep_nil {g : Nat → Int} : rep g 0 [] := ⟨rfl, fun j x h => by simp at h⟩
theorem rep_snoc {g g' : Nat → Int} {n c : Int} {l : List Int} (h : rep g n l) (hg : ∀ j, g' j = if j = n.toNat then c else g j) : rep g' (n + 1) (l ++ [c]) := by
  have e1 : n.toNat = l.length := by have := h.1; omega
  refine ⟨by rw [h.1]; simp, fun j x hx => ?_⟩
  rw [hg j, e1]
  by_cases hj : j = l.length
  · subst hj
    rw [List.getElem?_append_right (Nat.le_refl _)] at hx
    simp only [Nat.sub_self, List.getElem?_cons_zero, Option.some.injEq] at hx
    rw [if_pos rfl, hx]
  · have hl : j < l.length := by
      have h9 := (List.getElem?_eq_some_iff.mp hx).1
      rw [List.length_append, List.length_singleton] at h9
      omega
    rw [List.getElem?_append_left hl] at hx
    rw [if_neg hj]
    exact h.2 j x hx
theorem rep_get {g : Nat → Int} {n : Int} {l : List Int} (h : rep g n l) {j : Nat} (hj : (j : Int) < n) : g j = l.getD j 0 := by
  have h1 : j < l.length := by have := h.1; omega
  rw [h.2 j l[j] (List.getElem?_eq_getElem h1)]
  simp [h1]
theorem idx_bd (l : List Int) (c : Int) : -1 ≤ idx l c ∧ idx l c < (l.length : Int) := by
  induction l with
  | nil => simp [idx]
  | cons x l ih =>
    unfold idx
    rw [List.length_cons]
    split
    · omega
    · split <;> omega
theorem idx_no {l : List Int} {c : Int} (h : ∀ j : Nat, j < l.length → l.getD j 0 ≠ c) : idx l c = -1 := by
  induction l with
  | nil => rfl
  | cons x l ih =>
    unfold idx
    have h0 := h 0 (by simp)
    simp only [List.getD_cons_zero] at h0
    rw [if_neg h0, ih (fun j hj => by have := h (j + 1) (by simp; omega); simpa using this)]
    rfl
theorem idx_at {l : List Int} {c : Int} : ∀ {j : Nat}, j < l.length → l.getD j 0 = c → (∀ i : Nat, i < j → l.getD i 0 ≠ c) → idx l c = (j : Int) := by
  induction l with
  | nil => intro j h; simp at h
  | cons x l ih =>
    intro j hj he hn
    unfold idx
    cases j with
    | zero =>
      simp only [List.getD_cons_zero] at he
      rw [if_pos he]
      rfl
    | succ j =>
      have h0 := hn 0 (by omega)
      simp only [List.getD_cons_zero] at h0
      rw [if_neg h0, ih (j := j) (by simp at hj; omega) (by simpa using he) (fun i hi => by have := hn (i + 1) (by omega); simpa using this), if_neg (by omega)]
      omega
/-- what find() answers -/
theorem idx_find {g : Nat → Int} {n z c : Int} {l : List Int} (h : rep g n l) (h1 : -1 ≤ z ∧ z < n) (h2 : z = -1 → ∀ j : Nat, (j : Int) < n → g j ≠ c) (h3 : 0 ≤ z → g z.toNat = c ∧ ∀ j : Nat, (j : Int) < z → g j ≠ c) : z = idx l c := by
  have hn := h.1
  by_cases hz : z = -1
  · rw [hz, idx_no (fun j hj => by rw [← rep_get h (by omega)]; exact h2 hz j (by omega))]
  · obtain ⟨h4, h5⟩ := h3 (by omega)
    rw [idx_at (l := l) (c := c) (j := z.toNat) (by omega) (by rw [← rep_get h (by omega)]; exact h4) (fun i hi => by rw [← rep_get h (by omega)]; exact h5 i (by omega))]
    omega
/-- the tokens' tables stand -/
def tkh (K F : fl_N) : Prop := (∀ r k, 2 ≤ r ∧ r ≤ 6 → F r k = K r k) ∧ F 1 6 = K 1 6
/-- .. and are tables of tokens -/
def tko (K : fl_N) : Prop := 1 ≤ K 1 6 ∧ K 3 (K 1 6 - 1).toNat = 5 ∧ ∀ p : Int, 0 ≤ p → p < K 1 6 - 1 → K 3 p.toNat ≠ 5 ∧ K 4 p.toNat < K 5 p.toNat
theorem tkh_fs {K F F' : fl_N} {S : List (Nat × Nat × Nat × Nat)} (h : tkh K F) (hf : fs S F F') (h1 : ∀ r k, 2 ≤ r ∧ r ≤ 6 → fs_in S r k = false) (h2 : fs_in S 1 6 = false) : tkh K F' := ⟨fun r k hr => by rw [hf r k (h1 r k hr)]; exact h.1 r k hr, by rw [hf 1 6 h2]; exact h.2⟩
theorem sk_bd {K : fl_N} {p : Int} (h : 0 ≤ p ∧ p ≤ K 1 6 - 1) : 0 ≤ sk K p ∧ sk K p ≤ K 1 6 - 1 := by
  unfold sk
  split <;> omega
theorem rep_fs {F F' : fl_N} {S : List (Nat × Nat × Nat × Nat)} {a b k : Nat} {l : List Int} (h : rep (F a) (F b k) l) (hf : fs S F F') (h1 : ∀ j, fs_in S a j = false) (h2 : fs_in S b k = false) : rep (F' a) (F' b k) l := by
  have e : F' a = F a := funext (fun j => hf a j (h1 j))
  rw [e, hf b k h2]
  exact h
theorem isw_t {K : fl_N} {p : Int} {w : List Int} (h1 : K 5 p.toNat - K 4 p.toNat = (w.length : Int)) (h2 : ∀ i : Nat, i < w.length → K 2 ((K 4 p.toNat).toNat + i) = w.getD i 0) : isw K p w = true := by
  simp only [isw, Bool.and_eq_true, decide_eq_true_eq, List.all_eq_true, List.mem_range]
  exact ⟨h1, h2⟩
theorem isw_l {K : fl_N} {p : Int} {w : List Int} (h1 : ¬ K 5 p.toNat - K 4 p.toNat = (w.length : Int)) : isw K p w = false := by
  simp [isw, h1]
theorem isw_f {K : fl_N} {p : Int} {w : List Int} {i : Nat} (h : i < w.length) (h1 : ¬ K 2 ((K 4 p.toNat).toNat + i) = w.getD i 0) : isw K p w = false := by
  cases e : isw K p w with
  | false => rfl
  | true =>
    simp only [isw, Bool.and_eq_true, decide_eq_true_eq, List.all_eq_true, List.mem_range] at e
    exact absurd (e.2 i h) h1
theorem tkh_u {K F : fl_N} {a k : Nat} {z : Int} (h : tkh K F) (h1 : ¬ (2 ≤ a ∧ a ≤ 6)) (h2 : ¬ (a = 1 ∧ k = 6)) : tkh K (fl_u F a k z) := ⟨fun r j hr => by rw [fl_u_ne (by omega)]; exact h.1 r j hr, by rw [fl_u_ne (by omega)]; exact h.2⟩
theorem spt_step {K : fl_N} {l : List Int} {i p : Int} (h : i < 4) (hl : (l.length : Int) = i) (hk : i = 0 ∨ ¬ K 3 p.toNat = 1) : sp_types K (4 - i).toNat l p = pb (sp_new K 2 l p) (fun q => sp_types K (4 - (i + 1)).toNat q.2 q.1) := by
  rw [show (4 - i).toNat = (4 - (i + 1)).toNat + 1 by omega]
  conv => lhs; unfold sp_types
  rw [if_neg]
  rintro ⟨h1, h2⟩
  rcases hk with hk | hk
  · exact h1 (List.eq_nil_of_length_eq_zero (by omega))
  · exact hk h2
theorem spt_z {K : fl_N} {l : List Int} {i p : Int} (h : 4 ≤ i) : sp_types K (4 - i).toNat l p = .inr (p, l) := by
  rw [show (4 - i).toNat = 0 by omega]
  rfl
theorem spt_e {K : fl_N} {l : List Int} {m : Nat} {i p : Int} (hl : (l.length : Int) = i) (h : ¬ i = 0) (hk : K 3 p.toNat = 1) : sp_types K m l p = .inr (p, l) := by
  cases m with
  | zero => rfl
  | succ m =>
    unfold sp_types
    rw [if_pos ⟨fun e => by rw [e] at hl; simp at hl; omega, hk⟩]
theorem spq_step {K : fl_N} {ts l : List Int} {ps : List (List Int)} {i p : Int} (h : i < 6) (hl : (l.length : Int) = i) (hk : i = 0 ∨ K 3 p.toNat = 0) : sp_preds K ts (6 - i).toNat l ps p = pb (sp_kind K 0 p) fun p => pb (sp_new K 2 l p) fun q => pb (sp_params K ts 2 [] [] q.1) fun r => pb (sp_kind K 1 r.1) fun p => sp_preds K ts (6 - (i + 1)).toNat q.2 (ps ++ [r.2.2]) p := by
  rw [show (6 - i).toNat = (6 - (i + 1)).toNat + 1 by omega]
  conv => lhs; unfold sp_preds
  rw [if_neg]
  rintro ⟨h1, h2⟩
  rcases hk with hk | hk
  · exact h1 (List.eq_nil_of_length_eq_zero (by omega))
  · exact h2 hk
theorem spq_z {K : fl_N} {ts l : List Int} {ps : List (List Int)} {i p : Int} (h : 6 ≤ i) : sp_preds K ts (6 - i).toNat l ps p = .inr (p, l, ps) := by
  rw [show (6 - i).toNat = 0 by omega]
  rfl
theorem spq_e {K : fl_N} {ts l : List Int} {ps : List (List Int)} {m : Nat} {i p : Int} (hl : (l.length : Int) = i) (h : ¬ i = 0) (hk : ¬ K 3 p.toNat = 0) : sp_preds K ts m l ps p = .inr (p, l, ps) := by
  cases m with
  | zero => rfl
  | succ m =>
    unfold sp_preds
    rw [if_pos ⟨fun e => by rw [e] at hl; simp at hl; omega, hk⟩]
/-- the predicates' parameters -/
def prd (F : fl_N) (ps : List (List Int)) : Prop := ∀ i : Nat, i < ps.length → rep (F (21 + 3 * i + 2)) (F (21 + 3 * i) 2) (ps.getD i [])
theorem prd_fs {F F' : fl_N} {S : List (Nat × Nat × Nat × Nat)} {ps : List (List Int)} (h : prd F ps) (hf : fs S F F') (hS : ∀ r k, 21 ≤ r ∧ r < 21 + 3 * ps.length → fs_in S r k = false) : prd F' ps := fun i hi => rep_fs (h i hi) hf (fun j => hS _ _ (by omega)) (hS _ _ (by omega))
theorem prd_u {F : fl_N} {ps : List (List Int)} {a k : Nat} {z : Int} (h : prd F ps) (ha : a < 21 ∨ 21 + 3 * ps.length ≤ a) : prd (fl_u F a k z) ps := fun i hi => by
  have h9 := h i hi
  rw [fl_u_r (by omega), fl_u_r (by omega)]
  exact h9
theorem prd_add {F : fl_N} {ps : List (List Int)} {t : List Int} {a : Nat} (h : prd F ps) (ht : rep (F (a + 2)) (F a 2) t) (ha : a = 21 + 3 * ps.length) : prd F (ps ++ [t]) := by
  intro i hi
  rw [List.length_append, List.length_singleton] at hi
  by_cases e : i < ps.length
  · have h9 := h i e
    have e3 : (ps ++ [t]).getD i [] = ps.getD i [] := by
      rw [List.getD_eq_getElem?_getD, List.getD_eq_getElem?_getD, List.getElem?_append_left e]
    rw [e3]
    exact h9
  · have e2 : i = ps.length := by omega
    subst e2
    subst ha
    simpa [List.getD] using ht
/-- a clause's terms stand for parameters -/
def cw (F : fl_N) (b : Nat) (m : Int) : Prop := ∀ j : Nat, (j : Int) < F b 4 → (-1 ≤ F (b + 3) j ∧ F (b + 3) j < m) ∧ (-1 ≤ F (b + 4) j ∧ F (b + 4) j < m) ∧ (F (b + 1) j = -1 → 0 ≤ F (b + 3) j ∧ 0 ≤ F (b + 4) j)
theorem cw_nil {F : fl_N} {b : Nat} {m : Int} (h : F b 4 = 0) : cw F b m := fun j hj => absurd hj (by omega)
theorem cw_fs {F F' : fl_N} {S : List (Nat × Nat × Nat × Nat)} {b : Nat} {m : Int} (h : cw F b m) (hf : fs S F F') (h1 : ∀ r k, b ≤ r ∧ r ≤ b + 4 ∧ ¬ (r = b ∧ k = 5) → fs_in S r k = false) : cw F' b m := by
  intro j hj
  rw [hf b 4 (h1 b 4 (by omega))] at hj
  rw [hf (b + 3) j (h1 _ _ (by omega)), hf (b + 4) j (h1 _ _ (by omega)), hf (b + 1) j (h1 _ _ (by omega))]
  exact h j hj
theorem cw_u {F : fl_N} {b a k : Nat} {m z : Int} (h : cw F b m) (ha : a < b ∨ b + 4 < a ∨ a = b ∧ k = 5) : cw (fl_u F a k z) b m := by
  intro j hj
  rw [fl_u_ne (by omega)] at hj
  rw [fl_u_ne (by omega), fl_u_ne (by omega), fl_u_ne (by omega)]
  exact h j hj
theorem cw_add {F : fl_N} {b : Nat} {m pr nt f1 s1 : Int} (h : cw F b m) (hf : -1 ≤ f1 ∧ f1 < m) (hs : -1 ≤ s1 ∧ s1 < m) (he : pr = -1 → 0 ≤ f1 ∧ 0 ≤ s1) : cw (fl_u (fl_u (fl_u (fl_u (fl_u F (b + 1) (F b 4).toNat pr) (b + 2) (F b 4).toNat nt) (b + 3) (F b 4).toNat f1) (b + 4) (F b 4).toNat s1) b 4 (F b 4 + 1)) b m := by
  intro j hj
  rw [fl_u_eq] at hj
  by_cases e : j = (F b 4).toNat
  · subst e
    rw [fl_u_ne (by omega), fl_u_ne (by omega), fl_u_eq, fl_u_ne (by omega), fl_u_eq, fl_u_ne (by omega), fl_u_ne (by omega), fl_u_ne (by omega), fl_u_ne (by omega), fl_u_eq]
    exact ⟨hf, hs, he⟩
  · have h9 := h j (by omega)
    rw [fl_u_ne (by omega), fl_u_ne (by omega), fl_u_ne (by omega), fl_u_ne (by omega), fl_u_ne (by omega), fl_u_ne (by omega), fl_u_ne (by omega), fl_u_ne (by omega), fl_u_ne (by omega), fl_u_ne (by omega), fl_u_ne (by omega), fl_u_ne (by omega), fl_u_ne (by omega), fl_u_ne (by omega), fl_u_ne (by omega)]
    exact h9

/-! THE REFERENCE's READER: its state is a result -/
def rst (F : fl_N) : PR Int := if F 344 9 = 0 then .inr (F 344 5) else .inl (F 344 9, F 344 10)
theorem rst_ok {F : fl_N} (h : F 344 9 = 0) : rst F = .inr (F 344 5) := if_pos h
theorem rst_bad {F : fl_N} (h : ¬ F 344 9 = 0) : rst F = .inl (F 344 9, F 344 10) := if_neg h
theorem rst_inv {F : fl_N} {p : Int} (h : rst F = .inr p) : F 344 9 = 0 ∧ F 344 5 = p := by
  unfold rst at h
  split at h
  · rename_i h1
    exact ⟨h1, Sum.inr.inj h⟩
  · cases h
theorem rst_inl {F : fl_N} {e : Int × Int} (h : rst F = .inl e) : ¬ F 344 9 = 0 := by
  unfold rst at h
  split at h
  · cases h
  · rename_i h1
    exact h1
theorem rst_eq {F F' : fl_N} (h1 : F' 344 9 = F 344 9) (h2 : F' 344 10 = F 344 10) (h3 : F 344 9 = 0 → F' 344 5 = F 344 5) : rst F' = rst F := by
  unfold rst
  rw [h1, h2]
  split
  · rename_i h
    rw [h3 h]
  · rfl
theorem pb_r {α β : Type} {a : α} {f : α → PR β} : pb (.inr a) f = f a := rfl
theorem pb_l {α β : Type} {e : Int × Int} {f : α → PR β} : pb (.inl e : PR α) f = .inl e := rfl
theorem pb_as {α β γ : Type} (x : PR α) (f : α → PR β) (g : β → PR γ) : pb (pb x f) g = pb x (fun a => pb (f a) g) := by cases x <;> rfl
theorem pb_id {α : Type} (x : PR α) : pb x (fun a => .inr a) = x := by cases x <;> rfl
theorem pb_ok {α β : Type} {x : PR α} {f : α → PR β} {b : β} (h : pb x f = .inr b) : ∃ a, x = .inr a ∧ f a = .inr b := by
  cases x with
  | inl e => cases h
  | inr a => exact ⟨a, rfl, h⟩
/-- what the fresh heap holds: sh_Z, and 0 elsewhere -/
def ra_at (r k : Nat) : Int := match sh_Z.find? (fun q => q.1 == r && q.2.1 == k) with
  | some q => q.2.2
  | none => 0
/-- the reference's tables of tokens and letters -/
def rk (K F : fl_N) : Prop := (∀ p : Int, 0 ≤ p → p ≤ K 1 6 - 1 → F 347 p.toNat = K 4 p.toNat ∧ F 348 p.toNat = K 5 p.toNat) ∧ F 344 4 = K 1 6 - 1 ∧ (∀ j : Int, 0 ≤ j → j < K 4 (K 1 6 - 1).toNat → F 345 j.toNat = K 2 j.toNat) ∧ ∀ j : Nat, j < 76 → F 346 j = ra_at 346 j
theorem rk_fs {K F F' : fl_N} {S : List (Nat × Nat × Nat × Nat)} (h : rk K F) (hf : fs S F F') (h1 : ∀ r k, 345 ≤ r ∧ r ≤ 348 → fs_in S r k = false) (h2 : fs_in S 344 4 = false) : rk K F' := by
  obtain ⟨a, b, c, d⟩ := h
  refine ⟨fun p q1 q2 => ?_, ?_, fun j q1 q2 => ?_, fun j q1 => ?_⟩
  · rw [hf 347 _ (h1 _ _ (by omega)), hf 348 _ (h1 _ _ (by omega))]
    exact a p q1 q2
  · rw [hf 344 4 h2]
    exact b
  · rw [hf 345 _ (h1 _ _ (by omega))]
    exact c j q1 q2
  · rw [hf 346 _ (h1 _ _ (by omega))]
    exact d j q1
theorem rk_u {K F : fl_N} {a k : Nat} {z : Int} (h : rk K F) (h1 : ¬ (345 ≤ a ∧ a ≤ 348)) (h2 : ¬ (a = 344 ∧ k = 4)) : rk K (fl_u F a k z) := by
  obtain ⟨a1, b, c, d⟩ := h
  refine ⟨fun p q1 q2 => ?_, ?_, fun j q1 q2 => ?_, fun j q1 => ?_⟩
  · rw [fl_u_ne (by omega), fl_u_ne (by omega)]
    exact a1 p q1 q2
  · rw [fl_u_ne (by omega)]
    exact b
  · rw [fl_u_ne (by omega)]
    exact c j q1 q2
  · rw [fl_u_ne (by omega)]
    exact d j q1
/-- a place among the tokens -/
def rkt (K : fl_N) : Prop := tko K ∧ tkw K (K 2) (K 4 (K 1 6 - 1).toNat) ∧ K 5 (K 1 6 - 1).toNat = K 4 (K 1 6 - 1).toNat ∧ ∀ j : Int, 0 ≤ j → j < K 4 (K 1 6 - 1).toNat → 32 ≤ K 2 j.toNat
theorem rkt_p {K : fl_N} (h : rkt K) {p : Int} (h0 : 0 ≤ p) (h1 : p ≤ K 1 6 - 1) (hg : gi K) : (0 ≤ K 4 p.toNat ∧ K 4 p.toNat ≤ K 5 p.toNat ∧ K 5 p.toNat ≤ K 4 (K 1 6 - 1).toNat ∧ K 4 (K 1 6 - 1).toNat ≤ 600) ∧ (p < K 1 6 - 1 → K 4 p.toNat < K 5 p.toNat) ∧ (p = K 1 6 - 1 → K 5 p.toNat = K 4 p.toNat ∧ K 3 p.toNat = 5) := by
  obtain ⟨a, b, c, -⟩ := h
  have g1 : 0 ≤ K 4 (K 1 6 - 1).toNat ∧ K 4 (K 1 6 - 1).toNat ≤ 600 := gi_g hg rfl
  by_cases e : p = K 1 6 - 1
  · subst e
    exact ⟨⟨by omega, by omega, by omega, by omega⟩, fun h => absurd h (by omega), fun _ => ⟨c, a.2.1⟩⟩
  · have h9 := b p h0 (by omega)
    exact ⟨⟨by omega, by omega, by omega, by omega⟩, fun _ => by omega, fun h => absurd h e⟩
theorem rkt_lt {K : fl_N} (h : rkt K) {p : Int} (h1 : p ≤ K 1 6 - 1) (hk : ¬ K 3 p.toNat = 5) : p < K 1 6 - 1 := by
  by_cases e : p = K 1 6 - 1
  · subst e
    exact absurd h.1.2.1 hk
  · omega
theorem tkk_0 {f : Nat → Int} {s e : Nat} : tkk f s e = 0 ↔ f s = 40 := by
  unfold tkk
  constructor
  · intro h
    repeat' split at h
    all_goals first | assumption | omega
  · intro h
    rw [if_pos h]
theorem tkk_1 {f : Nat → Int} {s e : Nat} : tkk f s e = 1 ↔ f s = 41 := by
  unfold tkk
  constructor
  · intro h
    repeat' split at h
    all_goals first | assumption | omega
  · intro h
    rw [if_neg (by omega), if_pos h]
/-- a parenthesis -/
theorem sg_iff {K : fl_N} (h : rkt K) {p c : Int} (h0 : 0 ≤ p) (h1 : p ≤ K 1 6 - 1) (hc : c = 40 ∨ c = 41) : (K 3 p.toNat = c - 40 ↔ K 5 p.toNat - K 4 p.toNat = 1 ∧ K 2 (K 4 p.toNat).toNat = c) := by
  obtain ⟨a, b, d, -⟩ := h
  by_cases e : p = K 1 6 - 1
  · subst e
    have h5 := a.2.1
    constructor
    · intro h9; omega
    · intro h9; omega
  · obtain ⟨⟨h2, h3, h4⟩, h5⟩ := b p h0 (by omega)
    rw [h3]
    rcases hc with rfl | rfl
    · rw [show (40 : Int) - 40 = 0 by omega, tkk_0]
      constructor
      · intro h9; exact ⟨by have := h5 (Or.inl h9); omega, h9⟩
      · intro h9; exact h9.2
    · rw [show (41 : Int) - 40 = 1 by omega, tkk_1]
      constructor
      · intro h9; exact ⟨by have := h5 (Or.inr h9); omega, h9⟩
      · intro h9; exact h9.2
/-! NAMES, both ways -/
def dg37 (c : Int) : Int := if c < 97 then c - 21 else c - 96
def nro (f : Nat → Int) : Nat → Nat → Int → Int
  | _, 0, v => v
  | i, k + 1, v => if isnc (f i) then nro f (i + 1) k (37 * v + dg37 (f i)) else 0
def nmr (f : Nat → Int) (s e : Int) : Int := if e - s < 1 ∨ 6 < e - s then 0 else nro f s.toNat (e - s).toNat 0
/-- letters, last first -/
def h256 : List Int → Int
  | [] => 0
  | c :: w => h256 w * 256 + c
def h37 : List Int → Int
  | [] => 0
  | c :: w => 37 * h37 w + dg37 c
def okw (w : List Int) : Prop := ∀ c ∈ w, isnc c
theorem dg37_bd {c : Int} (h : isnc c) : 1 ≤ dg37 c ∧ dg37 c ≤ 36 := by
  unfold dg37
  unfold isnc at h
  split <;> omega
theorem dg37_inj {c d : Int} (hc : isnc c) (hd : isnc d) (h : dg37 c = dg37 d) : c = d := by
  unfold dg37 at h
  unfold isnc at hc hd
  split at h <;> split at h <;> omega
theorem h256_nn {w : List Int} (h : okw w) : 0 ≤ h256 w := by
  induction w with
  | nil => decide
  | cons c w ih =>
    have h1 := ih (fun x hx => h x (List.mem_cons_of_mem _ hx))
    have h2 : isnc c := h c List.mem_cons_self
    unfold isnc at h2
    unfold h256
    omega
theorem h37_nn {w : List Int} (h : okw w) : 0 ≤ h37 w := by
  induction w with
  | nil => decide
  | cons c w ih =>
    have h1 := ih (fun x hx => h x (List.mem_cons_of_mem _ hx))
    have h2 := dg37_bd (h c List.mem_cons_self)
    unfold h37
    omega
theorem h256_inj : ∀ {w v : List Int}, okw w → okw v → h256 w = h256 v → w = v := by
  intro w
  induction w with
  | nil =>
    intro v hw hv h
    cases v with
    | nil => rfl
    | cons c v =>
      have h1 := h256_nn (fun x hx => hv x (List.mem_cons_of_mem _ hx))
      have h2 : isnc c := hv c List.mem_cons_self
      unfold isnc at h2
      unfold h256 at h
      omega
  | cons c w ih =>
    intro v hw hv h
    have hw2 : okw w := fun x hx => hw x (List.mem_cons_of_mem _ hx)
    have h0 := h256_nn hw2
    have h2 : isnc c := hw c List.mem_cons_self
    cases v with
    | nil =>
      unfold isnc at h2
      simp only [h256] at h
      omega
    | cons d v =>
      have hv2 : okw v := fun x hx => hv x (List.mem_cons_of_mem _ hx)
      have h1 := h256_nn hv2
      have h3 : isnc d := hv d List.mem_cons_self
      simp only [h256] at h
      unfold isnc at h2 h3
      rw [ih hw2 hv2 (by omega), show c = d by omega]
theorem h37_inj : ∀ {w v : List Int}, okw w → okw v → h37 w = h37 v → w = v := by
  intro w
  induction w with
  | nil =>
    intro v hw hv h
    cases v with
    | nil => rfl
    | cons c v =>
      have h1 := h37_nn (fun x hx => hv x (List.mem_cons_of_mem _ hx))
      have h2 := dg37_bd (hv c List.mem_cons_self)
      simp only [h37] at h
      omega
  | cons c w ih =>
    intro v hw hv h
    have hw2 : okw w := fun x hx => hw x (List.mem_cons_of_mem _ hx)
    have h0 := h37_nn hw2
    have h2 := dg37_bd (hw c List.mem_cons_self)
    cases v with
    | nil =>
      simp only [h37] at h
      omega
    | cons d v =>
      have hv2 : okw v := fun x hx => hv x (List.mem_cons_of_mem _ hx)
      have h1 := h37_nn hv2
      have h3 := dg37_bd (hv d List.mem_cons_self)
      simp only [h37] at h
      have e1 : dg37 c = dg37 d := by omega
      rw [ih hw2 hv2 (by omega), dg37_inj (hw c List.mem_cons_self) (hv d List.mem_cons_self) e1]
/-- a name as the class keeps it and as the reference does -/
def nrel (x r : Int) : Prop := ∃ w : List Int, okw w ∧ w ≠ [] ∧ x = h256 w ∧ r = h37 w
theorem nrel_inj {x r x2 r2 : Int} (h : nrel x r) (h2 : nrel x2 r2) : x = x2 ↔ r = r2 := by
  obtain ⟨w, a, -, rfl, rfl⟩ := h
  obtain ⟨v, b, -, rfl, rfl⟩ := h2
  constructor
  · intro e; rw [h256_inj a b e]
  · intro e; rw [h37_inj a b e]
theorem nrel_pos {x r : Int} (h : nrel x r) : 0 < x ∧ 0 < r := by
  obtain ⟨w, a, b, rfl, rfl⟩ := h
  cases w with
  | nil => exact absurd rfl b
  | cons c w =>
    have h0 := h256_nn (fun x hx => a x (List.mem_cons_of_mem _ hx))
    have h1 := h37_nn (fun x hx => a x (List.mem_cons_of_mem _ hx))
    have h2 : isnc c := a c List.mem_cons_self
    have h3 := dg37_bd h2
    unfold isnc at h2
    simp only [h256, h37]
    omega
theorem no_rel (f : Nat → Int) : ∀ (k i : Nat) (w : List Int), okw w → (0 < k ∨ w ≠ []) → (nco f i k (h256 w) = 0 ∧ nro f i k (h37 w) = 0) ∨ nrel (nco f i k (h256 w)) (nro f i k (h37 w)) := by
  intro k
  induction k with
  | zero =>
    intro i w hw hk
    exact Or.inr ⟨w, hw, by rcases hk with h | h; omega; exact h, rfl, rfl⟩
  | succ k ih =>
    intro i w hw _
    unfold nco nro
    by_cases hc : isnc (f i)
    · rw [if_pos hc, if_pos hc]
      have e1 : h256 w * 256 + f i = h256 (f i :: w) := rfl
      have e2 : 37 * h37 w + dg37 (f i) = h37 (f i :: w) := rfl
      rw [e1, e2]
      refine ih (i + 1) (f i :: w) (fun x hx => ?_) (Or.inr (by simp))
      rcases List.mem_cons.mp hx with h | h
      · rw [h]; exact hc
      · exact hw x h
    · rw [if_neg hc, if_neg hc]
      exact Or.inl ⟨rfl, rfl⟩
theorem nm_rel (f : Nat → Int) {s e : Int} (h0 : 0 ≤ s) (h1 : s < e) : (nmc f s.toNat e.toNat = 0 ∧ nmr f s e = 0) ∨ nrel (nmc f s.toNat e.toNat) (nmr f s e) := by
  unfold nmc nmr
  by_cases h : 6 < e - s
  · rw [if_pos (by omega), if_pos (by omega)]
    exact Or.inl ⟨rfl, rfl⟩
  · rw [if_neg (by omega), if_neg (by omega), show e.toNat - s.toNat = (e - s).toNat by omega]
    exact no_rel f (e - s).toNat s.toNat [] (fun x hx => by simp at hx) (Or.inl (by omega))
/-- a table of names holds a list -/
def rpn (g : Nat → Int) (n : Int) (l : List Int) : Prop := n = (l.length : Int) ∧ ∀ (j : Nat) (x : Int), l[j]? = some x → nrel x (g j)
theorem rpn_snoc {g g' : Nat → Int} {n c v : Int} {l : List Int} (h : rpn g n l) (hg : ∀ j : Nat, (j : Int) < n → g' j = g j) (hv : g' n.toNat = v) (hr : nrel c v) : rpn g' (n + 1) (l ++ [c]) := by
  have e1 : n.toNat = l.length := by have := h.1; omega
  refine ⟨by rw [h.1]; simp, fun j x hx => ?_⟩
  by_cases hj : j = l.length
  · subst hj
    rw [List.getElem?_append_right (Nat.le_refl _)] at hx
    simp only [Nat.sub_self, List.getElem?_cons_zero, Option.some.injEq] at hx
    rw [← e1, hv, ← hx]
    exact hr
  · have hl : j < l.length := by
      have h9 := (List.getElem?_eq_some_iff.mp hx).1
      rw [List.length_append, List.length_singleton] at h9
      omega
    rw [List.getElem?_append_left hl] at hx
    rw [hg j (by have := h.1; omega)]
    exact h.2 j x hx
theorem rpn_find {g : Nat → Int} {n z c v : Int} {l : List Int} (h : rpn g n l) (hr : nrel c v) (h1 : -1 ≤ z ∧ z < n) (h2 : z = -1 → ∀ j : Nat, (j : Int) < n → g j ≠ v) (h3 : 0 ≤ z → g z.toNat = v ∧ ∀ j : Nat, (j : Int) < z → g j ≠ v) : idx l c = z := by
  have hn := h.1
  have key : ∀ j : Nat, j < l.length → (l.getD j 0 = c ↔ g j = v) := by
    intro j hj
    have h9 := h.2 j l[j] (List.getElem?_eq_getElem hj)
    rw [List.getD_eq_getElem?_getD, List.getElem?_eq_getElem hj]
    exact nrel_inj h9 hr
  by_cases hz : z = -1
  · rw [hz, idx_no (fun j hj h8 => h2 hz j (by omega) ((key j hj).mp h8))]
  · obtain ⟨h4, h5⟩ := h3 (by omega)
    rw [idx_at (l := l) (c := c) (j := z.toNat) (by omega) ((key _ (by omega)).mpr h4) (fun i hi h8 => h5 i (by omega) ((key i (by omega)).mp h8))]
    omega
/-- a byte of a number -/
def bt8 (v s : Int) : Int := ((Int32.ofInt v >>> (Int32.ofInt s &&& 31)) &&& 255).toInt
theorem bt8_bd (v s : Int) : 0 ≤ bt8 v s ∧ bt8 v s ≤ 255 := by
  obtain ⟨z, hz, h0, h1⟩ := fl_and (x := Int32.ofInt v >>> (Int32.ofInt s &&& 31)) (m := 255) (by omega)
  have e : (Int32.ofInt v >>> (Int32.ofInt s &&& 31)) &&& 255 = Int32.ofInt z := hz
  unfold bt8
  rw [e, fl_toInt ⟨by omega, by omega⟩]
  omega
theorem ga_bt8 {Ms : List xi_M} {y fr lo pc nx nx2 nx3 : Nat} {M : xi_M} {lv : xi_L} {r : List Value} {A : xi_H} {aux aux2 aux3 : List Nat} {Q : Outcome → xi_H → Prop} {v s : Int} (hM : Ms[y]? = some M) (hrow : xi_row M.2.2.2.2.1 pc = some (.ishr, nx, aux)) (hrow2 : xi_row M.2.2.2.2.1 nx = some (.sipush 255, nx2, aux2)) (hrow3 : xi_row M.2.2.2.2.1 nx2 = some (.iand, nx3, aux3)) (hk : fl_R Ms y fr lo nx3 lv (.int (Int32.ofInt (bt8 v s)) :: r) A Q) : fl_R Ms y fr lo pc lv (.int (Int32.ofInt s) :: .int (Int32.ofInt v) :: r) A Q := by
  have e : Int32.ofInt (bt8 v s) = (Int32.ofInt v >>> (Int32.ofInt s &&& 31)) &&& Int32.ofInt 255 := by
    unfold bt8
    rw [Int32.ofInt_toInt]
    rfl
  rw [e] at hk
  refine fl_s hM hrow rfl rfl rfl ?_
  refine fl_sipush hM hrow2 rfl ?_
  exact fl_s hM hrow3 rfl rfl rfl hk
/-- a letter of a token, 0 behind it -/
def wlet (K : fl_N) (p q : Int) : Int := if K 4 p.toNat + q < K 5 p.toNat then K 2 (K 4 p.toNat + q).toNat else 0
theorem kw_iff {K : fl_N} {p : Int} {w : List Int} (h : rkt K) (hg : gi K) (h0 : 0 ≤ p) (h1 : p ≤ K 1 6 - 1) (hw : 1 ≤ w.length ∧ w.length ≤ 16) (hn : ∀ q : Nat, q < w.length → w.getD q 0 ≠ 0) : isw K p w = true ↔ (1 ≤ K 5 p.toNat - K 4 p.toNat ∧ K 5 p.toNat - K 4 p.toNat ≤ 16) ∧ ∀ q : Nat, q < 16 → wlet K p q = w.getD q 0 := by
  have hP := rkt_p h h0 h1 hg
  have hL := h.2.2.2
  constructor
  · intro e
    simp only [isw, Bool.and_eq_true, decide_eq_true_eq, List.all_eq_true, List.mem_range] at e
    refine ⟨by omega, fun q hq => ?_⟩
    unfold wlet
    by_cases hq2 : q < w.length
    · rw [if_pos (by omega), show (K 4 p.toNat + (q : Int)).toNat = (K 4 p.toNat).toNat + q by omega]
      exact e.2 q hq2
    · rw [if_neg (by omega)]
      simp [show w.length ≤ q by omega]
  · rintro ⟨e1, e2⟩
    have hlen : K 5 p.toNat - K 4 p.toNat = (w.length : Int) := by
      by_cases c : K 5 p.toNat - K 4 p.toNat = (w.length : Int)
      · exact c
      · exfalso
        by_cases c2 : K 5 p.toNat - K 4 p.toNat < (w.length : Int)
        · have h9 := e2 (K 5 p.toNat - K 4 p.toNat).toNat (by omega)
          unfold wlet at h9
          rw [if_neg (by omega)] at h9
          exact hn _ (by omega) h9.symm
        · have h9 := e2 w.length (by omega)
          unfold wlet at h9
          rw [if_pos (by omega)] at h9
          have h8 := hL (K 4 p.toNat + (w.length : Int)) (by omega) (by omega)
          rw [h9] at h8
          simp at h8
    refine isw_t hlen (fun i hi => ?_)
    have h9 := e2 i (by omega)
    unfold wlet at h9
    rw [if_pos (by omega), show (K 4 p.toNat + (i : Int)).toNat = (K 4 p.toNat).toNat + i by omega] at h9
    exact h9

/-! GROUNDING, plainly: the facts are numbered by their places (predicate, first, second: base 6), the steps by action and objects (base 6) -/
def fit (tl : List Int) (o w : Int) : Bool := decide (w = -1) || decide (tl.getD o.toNat 0 = w)
def gdf (ps : List (List Int)) (tl : List Int) (q : Nat) : Bool := decide (q / 36 < ps.length) && (if 0 < (ps.getD (q / 36) []).length then decide (q / 6 % 6 < tl.length) && fit tl ((q / 6 % 6 : Nat) : Int) ((ps.getD (q / 36) []).getD 0 0) else decide (q / 6 % 6 = 0)) && (if 1 < (ps.getD (q / 36) []).length then decide (q % 6 < tl.length) && fit tl ((q % 6 : Nat) : Int) ((ps.getD (q / 36) []).getD 1 0) else decide (q % 6 = 0))
def nfc (ps : List (List Int)) (tl : List Int) : Nat → Nat
  | 0 => 0
  | q + 1 => nfc ps tl q + (if gdf ps tl q = true then 1 else 0)
/-- the k-th digit of x -/
def gvn (x k : Nat) : Nat := if k = 0 then x / 36 else if k = 1 then x / 6 % 6 else x % 6
def vld (n k x : Nat) : Bool := (List.range 3).all (fun i => if i < k then decide (gvn x i < n) else decide (gvn x i = 0))
def bx (n k w : Nat) : Nat := if k = 0 then 0 else if k = 1 then 36 * (w % n) else if k = 2 then 36 * (w / n % n) + 6 * (w % n) else 36 * (w / n / n % n) + 6 * (w / n % n) + w % n
theorem bx_all : ∀ n : Nat, n < 7 → 0 < n → ∀ k : Nat, k < 4 → (List.range (n ^ k)).map (bx n k) = (List.range 216).filter (vld n k) := by decide +kernel
def eqh (L : List lt_T) (ob : Nat → Int) : Bool := L.all (fun x => !decide (x.1 = -1) || (decide (ob x.2.2.1.toNat = ob x.2.2.2.toNat) != decide (x.2.1 = 1)))
def fts (tl tys : List Int) (x : Nat) : Bool := (List.range tys.length).all (fun i => fit tl ((gvn x i : Nat) : Int) (tys.getD i 0))
def oks (tl : List Int) (d : ad_T) (x : Nat) : Bool := fts tl d.1 x && eqh d.2.1 (fun i => ((gvn x i : Nat) : Int))
def stA (tl : List Int) (d : ad_T) : List Nat := (List.range 216).filter (fun x => vld tl.length d.1.length x && oks tl d x)
theorem nfc_le (ps : List (List Int)) (tl : List Int) {m n : Nat} (h : m ≤ n) : nfc ps tl m ≤ nfc ps tl n := by
  induction n with
  | zero => rw [show m = 0 by omega]; exact Nat.le_refl _
  | succ n ih =>
    by_cases e : m = n + 1
    · rw [e]; exact Nat.le_refl _
    · exact Nat.le_trans (ih (by omega)) (by show _ ≤ nfc ps tl n + _; omega)
theorem nfc_y {ps : List (List Int)} {tl : List Int} {q : Nat} (h : gdf ps tl q = true) : nfc ps tl (q + 1) = nfc ps tl q + 1 := by
  show nfc ps tl q + _ = _
  rw [if_pos h]
theorem nfc_n {ps : List (List Int)} {tl : List Int} {q : Nat} (h : gdf ps tl q = false) : nfc ps tl (q + 1) = nfc ps tl q := by
  show nfc ps tl q + _ = _
  rw [if_neg (by rw [h]; decide)]
  rfl
theorem nfc_sk {ps : List (List Int)} {tl : List Int} {m n : Nat} (hmn : m ≤ n) (h : ∀ q, m ≤ q → q < n → gdf ps tl q = false) : nfc ps tl n = nfc ps tl m := by
  induction n with
  | zero => rw [show m = 0 by omega]
  | succ n ih =>
    by_cases e : m = n + 1
    · rw [e]
    · rw [nfc_n (h n (by omega) (by omega)), ih (by omega) (fun q h1 h2 => h q h1 (by omega))]
theorem gdf_at {ps : List (List Int)} {tl : List Int} {p a b : Nat} (ha : a < 6) (hb : b < 6) : gdf ps tl (36 * p + 6 * a + b) = (decide (p < ps.length) && (if 0 < (ps.getD p []).length then decide (a < tl.length) && fit tl (a : Int) ((ps.getD p []).getD 0 0) else decide (a = 0)) && (if 1 < (ps.getD p []).length then decide (b < tl.length) && fit tl (b : Int) ((ps.getD p []).getD 1 0) else decide (b = 0))) := by
  unfold gdf
  rw [show (36 * p + 6 * a + b) / 36 = p by omega, show (36 * p + 6 * a + b) / 6 % 6 = a by omega, show (36 * p + 6 * a + b) % 6 = b by omega]
/-- what one place's test says: s the number of parameters, t0, t1 their types, o the objects' types -/
theorem gf_y {ps : List (List Int)} {tl t : List Int} {p : Nat} {f1 f2 : Int} (hp : p < ps.length) (ht : ps.getD p [] = t) (h1 : 0 ≤ f1 ∧ f1 < 6) (h2 : 0 ≤ f2 ∧ f2 < 6) (c1 : (t.length < 1 ∧ f1 = 0) ∨ (1 ≤ t.length ∧ f1 < (tl.length : Int) ∧ (t.getD 0 0 = -1 ∨ tl.getD f1.toNat 0 = t.getD 0 0))) (c2 : (t.length < 2 ∧ f2 = 0) ∨ (2 ≤ t.length ∧ f2 < (tl.length : Int) ∧ (t.getD 1 0 = -1 ∨ tl.getD f2.toNat 0 = t.getD 1 0))) : gdf ps tl (36 * p + 6 * f1.toNat + f2.toNat) = true := by
  rw [gdf_at (by omega) (by omega), ht, Bool.and_eq_true, Bool.and_eq_true]
  refine ⟨⟨decide_eq_true hp, ?_⟩, ?_⟩
  · rcases c1 with ⟨a1, a2⟩ | ⟨a1, a2, a3⟩
    · rw [if_neg (by omega)]
      exact decide_eq_true (by omega)
    · rw [if_pos (by omega), Bool.and_eq_true]
      refine ⟨decide_eq_true (by omega), ?_⟩
      unfold fit
      rw [Bool.or_eq_true, decide_eq_true_eq, decide_eq_true_eq, Int.toNat_natCast]
      exact a3
  · rcases c2 with ⟨a1, a2⟩ | ⟨a1, a2, a3⟩
    · rw [if_neg (by omega)]
      exact decide_eq_true (by omega)
    · rw [if_pos (by omega), Bool.and_eq_true]
      refine ⟨decide_eq_true (by omega), ?_⟩
      unfold fit
      rw [Bool.or_eq_true, decide_eq_true_eq, decide_eq_true_eq, Int.toNat_natCast]
      exact a3
theorem gf_n {ps : List (List Int)} {tl t : List Int} {p : Nat} {f1 f2 : Int} (ht : ps.getD p [] = t) (h1 : 0 ≤ f1 ∧ f1 < 6) (h2 : 0 ≤ f2 ∧ f2 < 6) (c : (1 ≤ t.length ∧ ¬ t.getD 0 0 = -1 ∧ ¬ tl.getD f1.toNat 0 = t.getD 0 0) ∨ (2 ≤ t.length ∧ ¬ t.getD 1 0 = -1 ∧ ¬ tl.getD f2.toNat 0 = t.getD 1 0)) : gdf ps tl (36 * p + 6 * f1.toNat + f2.toNat) = false := by
  rw [gdf_at (by omega) (by omega), ht]
  rcases c with ⟨a1, a2, a3⟩ | ⟨a1, a2, a3⟩
  · rw [if_pos (show 0 < t.length by omega)]
    have e : fit tl ((f1.toNat : Nat) : Int) (t.getD 0 0) = false := by
      unfold fit
      rw [Int.toNat_natCast, decide_eq_false a2, decide_eq_false a3]
      rfl
    rw [e, Bool.and_false, Bool.and_false, Bool.false_and]
  · rw [if_pos (show 1 < t.length by omega)]
    have e : fit tl ((f2.toNat : Nat) : Int) (t.getD 1 0) = false := by
      unfold fit
      rw [Int.toNat_natCast, decide_eq_false a2, decide_eq_false a3]
      rfl
    rw [e, Bool.and_false, Bool.and_false]
/-- beyond the last second, beyond the last first -/
theorem gf_r2 {ps : List (List Int)} {tl t : List Int} {p : Nat} {f1 m : Int} (ht : ps.getD p [] = t) (h1 : 0 ≤ f1 ∧ f1 < 6) (hm : 0 ≤ m ∧ m ≤ 6) (c : (t.length < 2 ∧ m = 1) ∨ (2 ≤ t.length ∧ m = (tl.length : Int))) : nfc ps tl (36 * p + 6 * (f1 + 1).toNat) = nfc ps tl (36 * p + 6 * f1.toNat + m.toNat) := by
  refine nfc_sk (by omega) (fun q q1 q2 => ?_)
  obtain ⟨b, hb, rfl⟩ : ∃ b, b < 6 ∧ q = 36 * p + 6 * f1.toNat + b := ⟨q - (36 * p + 6 * f1.toNat), by omega, by omega⟩
  rw [gdf_at (by omega) hb, ht]
  rcases c with ⟨a1, a2⟩ | ⟨a1, a2⟩
  · rw [if_neg (show ¬ 1 < t.length by omega), decide_eq_false (show ¬ b = 0 by omega), Bool.and_false]
  · rw [if_pos (show 1 < t.length by omega), decide_eq_false (show ¬ b < tl.length by omega), Bool.false_and, Bool.and_false]
theorem gf_r1 {ps : List (List Int)} {tl t : List Int} {p : Nat} {m : Int} (ht : ps.getD p [] = t) (hm : 0 ≤ m ∧ m ≤ 6) (c : (t.length < 1 ∧ m = 1) ∨ (1 ≤ t.length ∧ m = (tl.length : Int))) : nfc ps tl (36 * p + 36) = nfc ps tl (36 * p + 6 * m.toNat) := by
  refine nfc_sk (by omega) (fun q q1 q2 => ?_)
  obtain ⟨a, b, ha, hb, rfl⟩ : ∃ a b, a < 6 ∧ b < 6 ∧ q = 36 * p + 6 * a + b := ⟨(q - 36 * p) / 6, (q - 36 * p) % 6, by omega, by omega, by omega⟩
  rw [gdf_at ha hb, ht]
  rcases c with ⟨a1, a2⟩ | ⟨a1, a2⟩
  · rw [if_neg (show ¬ 0 < t.length by omega), decide_eq_false (show ¬ a = 0 by omega), Bool.and_false, Bool.false_and]
  · rw [if_pos (show 0 < t.length by omega), decide_eq_false (show ¬ a < tl.length by omega), Bool.false_and, Bool.and_false, Bool.false_and]
theorem gf_end {ps : List (List Int)} {tl : List Int} {m : Nat} (h : ps.length ≤ m) (hm : m ≤ 6) : nfc ps tl 216 = nfc ps tl (36 * m) := by
  refine nfc_sk (by omega) (fun q q1 q2 => ?_)
  unfold gdf
  rw [decide_eq_false (show ¬ q / 36 < ps.length by omega), Bool.false_and, Bool.false_and]
theorem nfc_no {ps : List (List Int)} {tl : List Int} {m n q : Nat} (h : nfc ps tl n = nfc ps tl m) (h1 : m ≤ q) (h2 : q < n) : gdf ps tl q = false := by
  cases e : gdf ps tl q with
  | false => rfl
  | true =>
    have a1 := nfc_y e
    have a2 := nfc_le ps tl h1
    have a3 := nfc_le ps tl (show q + 1 ≤ n by omega)
    omega
/-- a table holds the numbers of the facts below m -/
def fnr (F : fl_N) (c : Nat) (ps : List (List Int)) (tl : List Int) (m : Nat) : Prop := ∀ q, q < m → gdf ps tl q = true → F c q = (nfc ps tl q : Int)
theorem fnr_0 {F : fl_N} {c : Nat} {ps : List (List Int)} {tl : List Int} : fnr F c ps tl 0 := fun q h _ => absurd h (by omega)
theorem fnr_y {F F' : fl_N} {c q : Nat} {ps : List (List Int)} {tl : List Int} (h : fnr F c ps tl q) (hv : gdf ps tl q = true → F' c q = (nfc ps tl q : Int)) (hk : ∀ j, j < q → F' c j = F c j) : fnr F' c ps tl (q + 1) := fun j hj hg => by
  by_cases e : j = q
  · subst e
    exact hv hg
  · rw [hk j (by omega)]
    exact h j (by omega) hg
theorem fnr_sk {F : fl_N} {c m n : Nat} {ps : List (List Int)} {tl : List Int} (h : fnr F c ps tl m) (hn : nfc ps tl n = nfc ps tl m) : fnr F c ps tl n := fun j hj hg => by
  by_cases e : j < m
  · exact h j e hg
  · rw [nfc_no hn (by omega) hj] at hg
    cases hg
theorem fnr_cg {F F' : fl_N} {c m : Nat} {ps : List (List Int)} {tl : List Int} (h : fnr F c ps tl m) (hk : ∀ j, F' c j = F c j) : fnr F' c ps tl m := fun j hj hg => by
  rw [hk j]
  exact h j hj hg
/-! ways and steps -/
theorem gv_bx {n k w j : Nat} (hn : n ≤ 6) (h0 : 0 < n) (hk : k ≤ 3) (hj : j < k) : gvn (bx n k w) j = w / n ^ (k - 1 - j) % n := by
  have m1 := Nat.mod_lt w h0
  have m2 := Nat.mod_lt (w / n) h0
  have m3 := Nat.mod_lt (w / n / n) h0
  have g0 : ∀ x, gvn x 0 = x / 36 := fun _ => rfl
  have g1 : ∀ x, gvn x 1 = x / 6 % 6 := fun _ => rfl
  have g2 : ∀ x, gvn x 2 = x % 6 := fun _ => rfl
  have b1 : bx n 1 w = 36 * (w % n) := rfl
  have b2 : bx n 2 w = 36 * (w / n % n) + 6 * (w % n) := rfl
  have b3 : bx n 3 w = 36 * (w / n / n % n) + 6 * (w / n % n) + w % n := rfl
  have e : k = 1 ∨ k = 2 ∨ k = 3 := by omega
  have p0 : w / n ^ 0 = w := by rw [Nat.pow_zero, Nat.div_one]
  have p1 : w / n ^ 1 = w / n := by rw [Nat.pow_one]
  have p2 : w / n ^ 2 = w / n / n := by rw [Nat.pow_two, Nat.div_div_eq_div_mul]
  rcases e with e | e | e
  · subst e
    have : j = 0 := by omega
    subst this
    rw [g0, b1, show 1 - 1 - 0 = 0 by rfl, p0]
    omega
  · subst e
    have : j = 0 ∨ j = 1 := by omega
    rcases this with e | e
    · subst e
      rw [g0, b2, show 2 - 1 - 0 = 1 by rfl, p1]
      omega
    · subst e
      rw [g1, b2, show 2 - 1 - 1 = 0 by rfl, p0]
      omega
  · subst e
    have : j = 0 ∨ j = 1 ∨ j = 2 := by omega
    rcases this with e | e | e
    · subst e
      rw [g0, b3, show 3 - 1 - 0 = 2 by rfl, p2]
      omega
    · subst e
      rw [g1, b3, show 3 - 1 - 1 = 1 by rfl, p1]
      omega
    · subst e
      rw [g2, b3, show 3 - 1 - 2 = 0 by rfl, p0]
      omega
theorem dv_step {w n e : Nat} {rs : Int} (h : rs = ((w / n ^ e : Nat) : Int)) : rs / (n : Int) = ((w / n ^ (e + 1) : Nat) : Int) := by
  rw [h, Nat.pow_succ, ← Nat.div_div_eq_div_mul]
  exact (Int.natCast_ediv _ _).symm
theorem md_dg {w n e : Nat} {rs : Int} (h : rs = ((w / n ^ e : Nat) : Int)) : rs % (n : Int) = ((w / n ^ e % n : Nat) : Int) := by
  rw [h]
  exact (Int.natCast_emod _ _).symm
theorem pw_step {n : Nat} {k wy c : Int} (h : wy = ((n ^ k.toNat : Nat) : Int)) (hc : c = (n : Int)) (h0 : 0 ≤ k) : wy * c = ((n ^ (k + 1).toNat : Nat) : Int) := by
  rw [h, hc, show (k + 1).toNat = k.toNat + 1 by omega, Nat.pow_succ, Int.natCast_mul]
theorem pw_le {n k : Nat} (hn : n ≤ 6) (hk : k ≤ 3) : n ^ k ≤ 216 := by
  have h1 : n ^ k ≤ 6 ^ k := Nat.pow_le_pow_left hn k
  have h2 : 6 ^ k ≤ 6 ^ 3 := Nat.pow_le_pow_right (by decide) hk
  have h3 : (6 : Nat) ^ 3 = 216 := by decide
  omega
theorem fi_step {F : fl_N} {a : Nat} {i v : Int} (h : ∀ j : Nat, (j : Int) < i → F a j = v) (h0 : 0 ≤ i) : ∀ j : Nat, (j : Int) < i + 1 → fl_u F a i.toNat v a j = v := by
  intro j hj
  by_cases e : j = i.toNat
  · subst e
    rw [fl_u_eq]
  · rw [fl_u_ne (by omega)]
    exact h j (by omega)
theorem dg_st {F : fl_N} {a w n : Nat} {k pc v : Int} (h : ∀ j : Nat, k < (j : Int) → (j : Int) < pc → F a j = ((w / n ^ (pc - 1 - (j : Int)).toNat % n : Nat) : Int)) (h0 : 0 ≤ k) (hv : v = ((w / n ^ (pc - 1 - k).toNat % n : Nat) : Int)) : ∀ j : Nat, k - 1 < (j : Int) → (j : Int) < pc → fl_u F a k.toNat v a j = ((w / n ^ (pc - 1 - (j : Int)).toNat % n : Nat) : Int) := by
  intro j h1 h2
  by_cases e : j = k.toNat
  · subst e
    rw [fl_u_eq, hv, show ((k.toNat : Nat) : Int) = k by omega]
  · rw [fl_u_ne (by omega)]
    exact h j (by omega) h2
/-- the objects of a step: the digits of x, -1 beyond the parameters -/
def obd (F : fl_N) (c k x : Nat) : Prop := (∀ j, j < k → F c j = ((gvn x j : Nat) : Int)) ∧ ∀ j, k ≤ j → j < 3 → F c j = -1
theorem obd_of {F : fl_N} {c n w : Nat} {pc : Int} (hn : n ≤ 6) (h0 : 0 < n) (hp : 0 ≤ pc ∧ pc ≤ 3) (h : ∀ j : Nat, -1 < (j : Int) → (j : Int) < pc → F c j = ((w / n ^ (pc - 1 - (j : Int)).toNat % n : Nat) : Int)) (hm : ∀ j : Nat, pc ≤ (j : Int) → j < 3 → F c j = -1) : obd F c pc.toNat (bx n pc.toNat w) := by
  refine ⟨fun j hj => ?_, fun j h1 h2 => hm j (by omega) h2⟩
  rw [h j (by omega) (by omega), gv_bx hn h0 (by omega) hj, show (pc - 1 - (j : Int)).toNat = pc.toNat - 1 - j by omega]
/-- fits(): the parameters one by one -/
def ftk (tl tys : List Int) (x k : Nat) : Bool := (List.range k).all (fun i => fit tl ((gvn x i : Nat) : Int) (tys.getD i 0))
theorem ftk_y {tl tys : List Int} {x k : Nat} (h : ftk tl tys x k = true) (hf : tys.getD k 0 = -1 ∨ tl.getD (gvn x k) 0 = tys.getD k 0) : ftk tl tys x (k + 1) = true := by
  unfold ftk at *
  rw [List.range_succ, List.all_append, h]
  simp only [List.all_cons, List.all_nil, Bool.and_true, Bool.true_and, fit, Int.toNat_natCast, Bool.or_eq_true, decide_eq_true_eq]
  exact hf
theorem ftk_n {tl tys : List Int} {x k : Nat} (hk : k < tys.length) (hf : ¬ tys.getD k 0 = -1 ∧ ¬ tl.getD (gvn x k) 0 = tys.getD k 0) : fts tl tys x = false := by
  unfold fts
  rw [List.all_eq_false]
  refine ⟨k, List.mem_range.mpr hk, ?_⟩
  simp only [fit, Int.toNat_natCast, Bool.or_eq_true, decide_eq_true_eq]
  intro h
  rcases h with h | h
  · exact hf.1 h
  · exact hf.2 h
/-! a literal's place, a clause's sets, its equalities; ob: the objects of the terms -/
def plq (x : lt_T) (ob : Nat → Int) : Nat := (36 * x.1 + 6 * (if x.2.2.1 = -1 then 0 else ob x.2.2.1.toNat) + (if x.2.2.2 = -1 then 0 else ob x.2.2.2.toNat)).toNat
noncomputable def mk1 (fn : Nat → Int) (ob : Nat → Int) (nt acc : Int) (x : lt_T) : Int := if x.1 = -1 ∨ ¬ x.2.1 = nt then acc else lorr acc (lsl 1 (fn (plq x ob)))
noncomputable def msk (fn : Nat → Int) (ob : Nat → Int) (nt : Int) (L : List lt_T) : Int := L.foldl (mk1 fn ob nt) 0
theorem tk_s {α : Type} {L : List α} {k : Nat} {x : α} (h : L[k]? = some x) : L.take (k + 1) = L.take k ++ [x] := by
  rw [List.take_succ, h]
  rfl
theorem msk_s {fn ob : Nat → Int} {nt : Int} {L : List lt_T} {k : Nat} {x : lt_T} (h : L[k]? = some x) : msk fn ob nt (L.take (k + 1)) = mk1 fn ob nt (msk fn ob nt (L.take k)) x := by
  unfold msk
  rw [tk_s h, List.foldl_append]
  rfl
theorem mk1_n {fn ob : Nat → Int} {nt acc : Int} {x : lt_T} (h : x.1 = -1 ∨ ¬ x.2.1 = nt) : mk1 fn ob nt acc x = acc := by
  unfold mk1
  rw [if_pos h]
theorem mk1_y {fn ob : Nat → Int} {nt acc : Int} {x : lt_T} (h1 : ¬ x.1 = -1) (h2 : x.2.1 = nt) : mk1 fn ob nt acc x = lorr acc (lsl 1 (fn (plq x ob))) := by
  unfold mk1
  rw [if_neg]
  rintro (h | h)
  · exact h1 h
  · exact h h2
theorem eqh_s {ob : Nat → Int} {L : List lt_T} {k : Nat} {x : lt_T} (h : L[k]? = some x) : eqh (L.take (k + 1)) ob = (eqh (L.take k) ob && (!decide (x.1 = -1) || (decide (ob x.2.2.1.toNat = ob x.2.2.2.toNat) != decide (x.2.1 = 1)))) := by
  unfold eqh
  rw [tk_s h, List.all_append]
  simp
theorem eqh_a {ob : Nat → Int} {L : List lt_T} {k : Nat} {x : lt_T} (h : L[k]? = some x) (h1 : ¬ x.1 = -1) : eqh (L.take (k + 1)) ob = eqh (L.take k) ob := by
  rw [eqh_s h, decide_eq_false h1]
  simp
theorem gtk {L : List lt_T} {k : Nat} (h : k < L.length) : ∃ x, L[k]? = some x := ⟨L[k], List.getElem?_eq_getElem h⟩
theorem eqn_1 {ob : Nat → Int} {L : List lt_T} {k : Nat} {x : lt_T} {e0 : Int} (h : L[k]? = some x) (hE : e0 = if eqh (L.take k) ob = true then 1 else 0) (h0 : ¬ e0 = 0) (hq : x.1 = -1) (hd : (ob x.2.2.1.toNat = ob x.2.2.2.toNat ∧ ¬ x.2.1 = 1) ∨ (¬ ob x.2.2.1.toNat = ob x.2.2.2.toNat ∧ x.2.1 = 1)) : (1 : Int) = if eqh (L.take (k + 1)) ob = true then 1 else 0 := by
  rw [eqh_s h, decide_eq_true hq]
  have e1 : eqh (L.take k) ob = true := by
    cases e : eqh (L.take k) ob with
    | true => rfl
    | false => rw [e] at hE; exact absurd hE h0
  rw [e1]
  rcases hd with ⟨a, b⟩ | ⟨a, b⟩
  · rw [decide_eq_true a, decide_eq_false b]
    rfl
  · rw [decide_eq_false a, decide_eq_true b]
    rfl
theorem eqn_0 {ob : Nat → Int} {L : List lt_T} {k : Nat} {x : lt_T} {e0 : Int} (h : L[k]? = some x) (hE : e0 = if eqh (L.take k) ob = true then 1 else 0) (hq : x.1 = -1) (hd : e0 = 0 ∨ (ob x.2.2.1.toNat = ob x.2.2.2.toNat ∧ x.2.1 = 1) ∨ (¬ ob x.2.2.1.toNat = ob x.2.2.2.toNat ∧ ¬ x.2.1 = 1)) : (0 : Int) = if eqh (L.take (k + 1)) ob = true then 1 else 0 := by
  rw [eqh_s h, decide_eq_true hq]
  rcases hd with a | ⟨a, b⟩ | ⟨a, b⟩
  · have e1 : eqh (L.take k) ob = false := by
      cases e : eqh (L.take k) ob with
      | false => rfl
      | true => rw [e, if_pos rfl] at hE; omega
    rw [e1]
    rfl
  · rw [decide_eq_true a, decide_eq_true b]
    simp
  · rw [decide_eq_false a, decide_eq_false b]
    simp
/-! the steps of an action, way by way -/
def dat (D : List ad_T) (a : Nat) : ad_T := D.getD a ([], [], [], 0)
def stK (tl : List Int) (d : ad_T) (m : Nat) : List Nat := ((List.range m).map (bx tl.length d.1.length)).filter (oks tl d)
theorem stK_y {tl : List Int} {d : ad_T} {m : Nat} (h : oks tl d (bx tl.length d.1.length m) = true) : stK tl d (m + 1) = stK tl d m ++ [bx tl.length d.1.length m] := by
  unfold stK
  rw [List.range_succ, List.map_append, List.filter_append]
  simp [h]
theorem stK_n {tl : List Int} {d : ad_T} {m : Nat} (h : oks tl d (bx tl.length d.1.length m) = false) : stK tl d (m + 1) = stK tl d m := by
  unfold stK
  rw [List.range_succ, List.map_append, List.filter_append]
  simp [h]
theorem stK_end {tl : List Int} {d : ad_T} (hn : tl.length ≤ 6) (h0 : 0 < tl.length) (hk : d.1.length ≤ 3) : stK tl d (tl.length ^ d.1.length) = stA tl d := by
  unfold stK stA
  rw [bx_all _ (by omega) h0 _ (by omega), List.filter_filter]
  congr 1
  funext x
  exact Bool.and_comm _ _
theorem stK_le {tl : List Int} {d : ad_T} {m n : Nat} (h : m ≤ n) : (stK tl d m).length ≤ (stK tl d n).length := by
  induction n with
  | zero => rw [show m = 0 by omega]; exact Nat.le_refl _
  | succ n ih =>
    by_cases e : m = n + 1
    · rw [e]; exact Nat.le_refl _
    · refine Nat.le_trans (ih (by omega)) ?_
      cases h9 : oks tl d (bx tl.length d.1.length n) with
      | true => rw [stK_y h9, List.length_append]; omega
      | false => rw [stK_n h9]; exact Nat.le_refl _
def stL (tl : List Int) (D : List ad_T) (a m : Nat) : List (Nat × Nat) := (stK tl (dat D a) m).map (fun x => (a, x))
def stE (tl : List Int) (D : List ad_T) (a : Nat) : List (Nat × Nat) := (stA tl (dat D a)).map (fun x => (a, x))
theorem eqh_ob {L : List lt_T} {ob ob' : Nat → Int} {m : Nat} (hw : ∀ x ∈ L, x.1 = -1 → (0 ≤ x.2.2.1 ∧ x.2.2.1 < (m : Int)) ∧ (0 ≤ x.2.2.2 ∧ x.2.2.2 < (m : Int))) (ho : ∀ j, j < m → ob j = ob' j) : eqh L ob = eqh L ob' := by
  unfold eqh
  induction L with
  | nil => rfl
  | cons x L ih =>
    rw [List.all_cons, List.all_cons, ih (fun y hy => hw y (List.mem_cons_of_mem _ hy))]
    congr 1
    by_cases e : x.1 = -1
    · have h9 := hw x List.mem_cons_self e
      rw [ho _ (show x.2.2.1.toNat < m by omega), ho _ (show x.2.2.2.toNat < m by omega)]
    · rw [decide_eq_false e]
      rfl
/-- a step's cells hold a step -/
def stc (F : fl_N) (A : Nat) (D : List ad_T) (s : Nat × Nat) : Prop := F A 0 = (s.1 : Int) ∧ obd F (A + 1) (dat D s.1).1.length s.2 ∧ F A 2 = (if (dat D s.1).2.2.2 = 0 then 1 else (dat D s.1).2.2.2) ∧ (F (A + 2) 0 = msk (F 121) (F (A + 1)) 0 (dat D s.1).2.1 ∧ F (A + 2) 1 = msk (F 121) (F (A + 1)) 1 (dat D s.1).2.1 ∧ F (A + 2) 2 = 1) ∧ F A 4 = msk (F 121) (F (A + 1)) 1 (dat D s.1).2.2.1 ∧ F A 5 = msk (F 121) (F (A + 1)) 0 (dat D s.1).2.2.1
theorem stc_cg {F F' : fl_N} {A : Nat} {D : List ad_T} {s : Nat × Nat} (h : stc F A D s) (hf : ∀ r k, A ≤ r ∧ r ≤ A + 4 → F' r k = F r k) (h1 : ∀ k, F' 121 k = F 121 k) : stc F' A D s := by
  have e1 : F' (A + 1) = F (A + 1) := funext (fun k => hf _ k (by omega))
  have e2 : F' 121 = F 121 := funext h1
  unfold stc obd
  rw [e1, e2, hf A 0 (by omega), hf A 2 (by omega), hf A 4 (by omega), hf A 5 (by omega), hf (A + 2) 0 (by omega), hf (A + 2) 1 (by omega), hf (A + 2) 2 (by omega)]
  exact h
def sts (F : fl_N) (D : List ad_T) (L : List (Nat × Nat)) : Prop := ∀ (i : Nat) (s : Nat × Nat), L[i]? = some s → stc F (126 + 5 * i) D s
theorem sts_nil {F : fl_N} {D : List ad_T} : sts F D [] := fun i s h => by simp at h
theorem sts_cg {F F' : fl_N} {D : List ad_T} {L : List (Nat × Nat)} (h : sts F D L) (hf : ∀ r k, 126 ≤ r ∧ r < 126 + 5 * L.length → F' r k = F r k) (h1 : ∀ k, F' 121 k = F 121 k) : sts F' D L := fun i s hs => by
  have hl := (List.getElem?_eq_some_iff.mp hs).1
  exact stc_cg (h i s hs) (fun r k hr => hf r k (by omega)) h1
theorem sts_add {F : fl_N} {D : List ad_T} {L : List (Nat × Nat)} {s : Nat × Nat} {A : Nat} (h : sts F D L) (hA : A = 126 + 5 * L.length) (hs : stc F A D s) : sts F D (L ++ [s]) := by
  intro i t ht
  by_cases e : i < L.length
  · rw [List.getElem?_append_left e] at ht
    exact h i t ht
  · have hl := (List.getElem?_eq_some_iff.mp ht).1
    rw [List.length_append, List.length_singleton] at hl
    have e2 : i = L.length := by omega
    subst e2
    rw [List.getElem?_append_right (Nat.le_refl _)] at ht
    simp only [Nat.sub_self, List.getElem?_cons_zero, Option.some.injEq] at ht
    subst ht
    rw [← hA]
    exact hs
theorem dat_get {D : List ad_T} {a : Nat} (h : a < D.length) : D[a]? = some (dat D a) := by
  unfold dat
  rw [List.getD_eq_getElem?_getD, List.getElem?_eq_getElem h]
  rfl
theorem gv_lt {n k w j : Nat} (hn : n ≤ 6) (h0 : 0 < n) (hk : k ≤ 3) (hj : j < k) : gvn (bx n k w) j < n := by
  rw [gv_bx hn h0 hk hj]
  exact Nat.mod_lt _ h0
theorem cw_lit {F : fl_N} {b : Nat} {m : Int} {M : Nat} {L : List lt_T} (hw : cw F b m) (hc : clr F b L) (hm : m = (M : Int)) : ∀ x ∈ L, x.1 = -1 → (0 ≤ x.2.2.1 ∧ x.2.2.1 < (M : Int)) ∧ (0 ≤ x.2.2.2 ∧ x.2.2.2 < (M : Int)) := by
  intro x hx h1
  obtain ⟨j, hj, e⟩ := List.getElem_of_mem hx
  have e2 : L[j]? = some x := by rw [List.getElem?_eq_getElem hj, e]
  obtain ⟨a1, a2, a3, a4⟩ := hc.2 j x e2
  have h9 := hw j (by have := hc.1; omega)
  rw [a3, a4, a1] at h9
  have h8 := h9.2.2 h1
  omega
theorem stc_mk {F2 F3 : fl_N} {A a x : Nat} {D : List ad_T} {d : ad_T} (hd : dat D a = d) (h0 : F3 A 0 = (a : Int)) (ho : obd F2 (A + 1) d.1.length x) (e1 : ∀ j, F3 (A + 1) j = F2 (A + 1) j) (e2 : ∀ j, F3 121 j = F2 121 j) (c2 : F3 A 2 = (if d.2.2.2 = 0 then 1 else d.2.2.2)) (n0 : F3 (A + 2) 0 = msk (F2 121) (F2 (A + 1)) 0 d.2.1) (n1 : F3 (A + 2) 1 = msk (F2 121) (F2 (A + 1)) 1 d.2.1) (n2 : F3 (A + 2) 2 = 1) (g4 : F3 A 4 = msk (F2 121) (F2 (A + 1)) 1 d.2.2.1) (g5 : F3 A 5 = msk (F2 121) (F2 (A + 1)) 0 d.2.2.1) : stc F3 A D (a, x) := by
  have f1 : F3 (A + 1) = F2 (A + 1) := funext e1
  have f2 : F3 121 = F2 121 := funext e2
  unfold stc obd
  simp only [hd, f1, f2]
  exact ⟨h0, ho, c2, ⟨n0, n1, n2⟩, g4, g5⟩
theorem oks_e {tl : List Int} {d : ad_T} {x : Nat} {ob : Nat → Int} {b : Bool} (hf : fts tl d.1 x = true) (hw : ∀ y ∈ d.2.1, y.1 = -1 → (0 ≤ y.2.2.1 ∧ y.2.2.1 < (d.1.length : Int)) ∧ (0 ≤ y.2.2.2 ∧ y.2.2.2 < (d.1.length : Int))) (ho : ∀ j, j < d.1.length → ob j = ((gvn x j : Nat) : Int)) (he : eqh d.2.1 ob = b) : oks tl d x = b := by
  unfold oks
  rw [hf, Bool.true_and, ← he]
  exact eqh_ob hw (fun j hj => (ho j hj).symm)
theorem oks_f {tl : List Int} {d : ad_T} {x : Nat} (hf : fts tl d.1 x = false) : oks tl d x = false := by
  unfold oks
  rw [hf, Bool.false_and]
theorem eq01 {b : Bool} {z : Int} (h : z = if b = true then 1 else 0) : (z = 0 → b = false) ∧ (¬ z = 0 → b = true) := by
  cases b with
  | true => exact ⟨fun h0 => by rw [if_pos rfl] at h; omega, fun _ => rfl⟩
  | false => exact ⟨fun _ => rfl, fun h0 => absurd (h.trans (if_neg (by decide))) h0⟩
theorem stL_y {tl : List Int} {D : List ad_T} {a m : Nat} {d : ad_T} (hd : dat D a = d) (h : oks tl d (bx tl.length d.1.length m) = true) : stL tl D a (m + 1) = stL tl D a m ++ [(a, bx tl.length d.1.length m)] := by
  unfold stL
  rw [hd, stK_y h, List.map_append]
  rfl
theorem stL_n {tl : List Int} {D : List ad_T} {a m : Nat} {d : ad_T} (hd : dat D a = d) (h : oks tl d (bx tl.length d.1.length m) = false) : stL tl D a (m + 1) = stL tl D a m := by
  unfold stL
  rw [hd, stK_n h]
theorem stL_end {tl : List Int} {D : List ad_T} {a m : Nat} {d : ad_T} (hd : dat D a = d) (hn : tl.length ≤ 6) (h0 : 0 < tl.length) (hk : d.1.length ≤ 3) (hm : m = tl.length ^ d.1.length) : stL tl D a m = stE tl D a := by
  unfold stL stE
  rw [hd, hm, stK_end hn h0 hk]
theorem stL_le {tl : List Int} {D : List ad_T} {a m : Nat} {d : ad_T} (hd : dat D a = d) (hn : tl.length ≤ 6) (h0 : 0 < tl.length) (hk : d.1.length ≤ 3) (hm : m ≤ tl.length ^ d.1.length) : (stL tl D a m).length ≤ (stE tl D a).length := by
  unfold stL stE
  rw [hd, List.length_map, List.length_map, ← stK_end hn h0 hk]
  exact stK_le hm
theorem acr_u {F : fl_N} {A a k : Nat} {z : Int} {x : ad_T} (h : acr F A x) (ha : a < A ∨ A + 13 ≤ a) : acr (fl_u F a k z) A x := by
  refine ⟨?_, clr_u h.2.1 (by omega), clr_u h.2.2.1 (by omega), by rw [fl_u_ne (by omega)]; exact h.2.2.2⟩
  have h8 := h.1
  rw [fl_u_r (by omega), fl_u_r (by omega)]
  exact h8
/-- the steps of the first k actions -/
def stP (tl : List Int) (D : List ad_T) (k : Nat) : List (Nat × Nat) := (List.range k).flatMap (stE tl D)
theorem stP_s {tl : List Int} {D : List ad_T} {k : Nat} : stP tl D (k + 1) = stP tl D k ++ stE tl D k := by
  unfold stP
  rw [List.range_succ, List.flatMap_append]
  simp
theorem stP_le {tl : List Int} {D : List ad_T} {m n : Nat} (h : m ≤ n) : (stP tl D m).length ≤ (stP tl D n).length := by
  induction n with
  | zero => rw [show m = 0 by omega]; exact Nat.le_refl _
  | succ n ih =>
    by_cases e : m = n + 1
    · rw [e]; exact Nat.le_refl _
    · refine Nat.le_trans (ih (by omega)) ?_
      rw [stP_s, List.length_append]
      omega
theorem nfc_q (ps : List (List Int)) (tl : List Int) (q : Nat) : nfc ps tl q ≤ q := by
  induction q with
  | zero => exact Nat.le_refl _
  | succ q ih =>
    show nfc ps tl q + _ ≤ _
    split <;> omega

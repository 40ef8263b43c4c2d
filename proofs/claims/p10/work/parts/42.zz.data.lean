/-! WHAT WAS READ, beyond names: literals (predicate, not, first, second; predicate -1: =), clauses, actions -/
abbrev lt_T : Type := Int × Int × Int × Int
def at_d (K : fl_N) (l pl : List Int) (ps : List (List Int)) (nt p : Int) : lt_T := (idx pl (K 6 p.toNat), nt, (if 0 < (ps.getD (idx pl (K 6 p.toNat)).toNat []).length then idx l (K 6 (sk K p).toNat) else -1), (if 1 < (ps.getD (idx pl (K 6 p.toNat)).toNat []).length then idx l (K 6 (sk K (sk K p)).toNat) else -1))
def eq_d (K : fl_N) (l : List Int) (nt p : Int) : lt_T := (-1, nt, idx l (K 6 (sk K p).toNat), idx l (K 6 (sk K (sk K p)).toNat))
def mb_d (K : fl_N) (e : Bool) (l pl : List Int) (ps : List (List Int)) (nt p : Int) : lt_T := if e = false ∧ isw K p [61] = true then eq_d K l nt p else at_d K l pl ps nt p
def mem_d (K : fl_N) (e : Bool) (l pl : List Int) (ps : List (List Int)) (p : Int) : List lt_T := if e = true ∧ isw K p [105, 110, 99, 114, 101, 97, 115, 101] = true then [] else if isw K p [110, 111, 116] = true then [mb_d K e l pl ps 1 (sk K (sk K p))] else [mb_d K e l pl ps 0 p]
def mems_d (K : fl_N) (e : Bool) (k : Int) (l tl pl : List Int) (ps : List (List Int)) : Nat → Bool → Int → Int → List lt_T
  | 0, _, _, _ => []
  | m + 1, b, c, p => if b = false ∧ K 3 p.toNat ≠ 0 then [] else match sp_mem K e k l tl pl ps c (sk K p) with
    | .inr q => mem_d K e l pl ps (sk K p) ++ mems_d K e k l tl pl ps m false q.2 q.1
    | .inl _ => []
def clause_d (K : fl_N) (e : Bool) (k : Int) (l tl pl : List Int) (ps : List (List Int)) (p : Int) : List lt_T := if isw K (sk K p) [97, 110, 100] = true then mems_d K e k l tl pl ps 4 true 0 (sk K (sk K p)) else mem_d K e l pl ps (sk K p)
theorem md_step {K : fl_N} {e : Bool} {k : Int} {l tl pl : List Int} {ps : List (List Int)} {i c p p1 p2 c2 : Int} (h : 0 ≤ i ∧ i < 4) (h1 : sp_kind K 0 p = .inr p1) (h2 : sp_mem K e k l tl pl ps c p1 = .inr (p2, c2)) : mems_d K e k l tl pl ps (4 - i).toNat (decide (i = 0)) c p = mem_d K e l pl ps p1 ++ mems_d K e k l tl pl ps (4 - (i + 1)).toNat (decide (i + 1 = 0)) c2 p2 := by
  have e1 : sk K p = p1 := by
    unfold sp_kind at h1
    split at h1
    · exact Sum.inr.inj h1
    · cases h1
  have hk2 : K 3 p.toNat = 0 := by
    unfold sp_kind at h1
    split at h1
    · assumption
    · cases h1
  rw [show (4 - i).toNat = (4 - (i + 1)).toNat + 1 by omega]
  conv => lhs; unfold mems_d
  rw [if_neg (fun h9 => h9.2 hk2), e1, h2, decide_eq_false (show ¬ i + 1 = 0 by omega)]
theorem md_z {K : fl_N} {e : Bool} {k : Int} {l tl pl : List Int} {ps : List (List Int)} {b : Bool} {i c p : Int} (h : 4 ≤ i) : mems_d K e k l tl pl ps (4 - i).toNat b c p = [] := by
  rw [show (4 - i).toNat = 0 by omega]
  rfl
theorem md_e {K : fl_N} {e : Bool} {k : Int} {l tl pl : List Int} {ps : List (List Int)} {m : Nat} {i c p : Int} (h : ¬ i = 0) (hk : ¬ K 3 p.toNat = 0) : mems_d K e k l tl pl ps m (decide (i = 0)) c p = [] := by
  rw [decide_eq_false h]
  cases m with
  | zero => rfl
  | succ m =>
    unfold mems_d
    rw [if_pos ⟨rfl, hk⟩]
theorem mem_dl {K : fl_N} {e : Bool} {l pl : List Int} {ps : List (List Int)} {p : Int} : (mem_d K e l pl ps p).length ≤ 1 := by
  unfold mem_d
  split
  · simp
  · split <;> simp
/-! a clause of the class holds literals -/
def clr (F : fl_N) (b : Nat) (L : List lt_T) : Prop := F b 4 = (L.length : Int) ∧ ∀ (j : Nat) (x : lt_T), L[j]? = some x → F (b + 1) j = x.1 ∧ F (b + 2) j = x.2.1 ∧ F (b + 3) j = x.2.2.1 ∧ F (b + 4) j = x.2.2.2
theorem clr_nil {F : fl_N} {b : Nat} (h : F b 4 = 0) : clr F b [] := ⟨h, fun j x hx => by simp at hx⟩
theorem clr_fs {F F' : fl_N} {S : List (Nat × Nat × Nat × Nat)} {b : Nat} {L : List lt_T} (h : clr F b L) (hf : fs S F F') (h1 : ∀ r k, b ≤ r ∧ r ≤ b + 4 ∧ ¬ (r = b ∧ k = 5) → fs_in S r k = false) : clr F' b L := by
  refine ⟨by rw [hf b 4 (h1 b 4 (by omega))]; exact h.1, fun j x hx => ?_⟩
  rw [hf (b + 1) j (h1 _ _ (by omega)), hf (b + 2) j (h1 _ _ (by omega)), hf (b + 3) j (h1 _ _ (by omega)), hf (b + 4) j (h1 _ _ (by omega))]
  exact h.2 j x hx
theorem clr_u {F : fl_N} {b a k : Nat} {z : Int} {L : List lt_T} (h : clr F b L) (ha : a < b ∨ b + 4 < a ∨ a = b ∧ k = 5) : clr (fl_u F a k z) b L := by
  refine ⟨by rw [fl_u_ne (by omega)]; exact h.1, fun j x hx => ?_⟩
  rw [fl_u_ne (by omega), fl_u_ne (by omega), fl_u_ne (by omega), fl_u_ne (by omega)]
  exact h.2 j x hx
theorem clr_add {F : fl_N} {b : Nat} {pr nt f1 s1 : Int} {L : List lt_T} (h : clr F b L) : clr (fl_u (fl_u (fl_u (fl_u (fl_u F (b + 1) (F b 4).toNat pr) (b + 2) (F b 4).toNat nt) (b + 3) (F b 4).toNat f1) (b + 4) (F b 4).toNat s1) b 4 (F b 4 + 1)) b (L ++ [(pr, nt, f1, s1)]) := by
  have e1 : (F b 4).toNat = L.length := by have := h.1; omega
  refine ⟨by rw [fl_u_eq, h.1, List.length_append, List.length_singleton]; rfl, fun j x hx => ?_⟩
  by_cases e : j = L.length
  · subst e
    rw [List.getElem?_append_right (Nat.le_refl _)] at hx
    simp only [Nat.sub_self, List.getElem?_cons_zero, Option.some.injEq] at hx
    subst hx
    rw [e1]
    refine ⟨?_, ?_, ?_, ?_⟩
    · rw [fl_u_ne (by omega), fl_u_ne (by omega), fl_u_ne (by omega), fl_u_ne (by omega), fl_u_eq]
    · rw [fl_u_ne (by omega), fl_u_ne (by omega), fl_u_ne (by omega), fl_u_eq]
    · rw [fl_u_ne (by omega), fl_u_ne (by omega), fl_u_eq]
    · rw [fl_u_ne (by omega), fl_u_eq]
  · have hl : j < L.length := by
      have h9 := (List.getElem?_eq_some_iff.mp hx).1
      rw [List.length_append, List.length_singleton] at h9
      omega
    rw [List.getElem?_append_left hl] at hx
    have h9 := h.2 j x hx
    rw [e1]
    rw [fl_u_ne (by omega), fl_u_ne (by omega), fl_u_ne (by omega), fl_u_ne (by omega), fl_u_ne (by omega)]
    refine ⟨h9.1, ?_, ?_, ?_⟩
    · rw [fl_u_ne (by omega), fl_u_ne (by omega), fl_u_ne (by omega), fl_u_ne (by omega), fl_u_ne (by omega)]
      exact h9.2.1
    · rw [fl_u_ne (by omega), fl_u_ne (by omega), fl_u_ne (by omega), fl_u_ne (by omega), fl_u_ne (by omega)]
      exact h9.2.2.1
    · rw [fl_u_ne (by omega), fl_u_ne (by omega), fl_u_ne (by omega), fl_u_ne (by omega), fl_u_ne (by omega)]
      exact h9.2.2.2
theorem clr_eq {F : fl_N} {b : Nat} {L L' : List lt_T} (h : clr F b L) (e : L = L') : clr F b L' := by
  rw [← e]
  exact h
/-! one action: its parameters' types, its condition, its effect, its cost (0: none told) -/
abbrev ad_T : Type := List Int × List lt_T × List lt_T × Int
def cl_p (K : fl_N) (e : Bool) (k : Int) (l tl pl : List Int) (ps : List (List Int)) (p : Int) : Int × Int := match sp_clause K e k l tl pl ps p with
  | .inr s => s
  | .inl _ => (0, 0)
/-- behind its parameters' parenthesis -/
def act_2 (K : fl_N) (pl : List Int) (ps : List (List Int)) (l tl : List Int) (p : Int) : ad_T := if isw K p [58, 112, 114, 101, 99, 111, 110, 100, 105, 116, 105, 111, 110] = true then (tl, clause_d K false 3 l tl pl ps (sk K p), clause_d K true 3 l tl pl ps (sk K (cl_p K false 3 l tl pl ps (sk K p)).1), (cl_p K true 3 l tl pl ps (sk K (cl_p K false 3 l tl pl ps (sk K p)).1)).2) else (tl, [], clause_d K true 3 l tl pl ps (sk K p), (cl_p K true 3 l tl pl ps (sk K p)).2)
def act_d (K : fl_N) (ts pl : List Int) (ps : List (List Int)) (p : Int) : ad_T := match sp_params K ts 3 [] [] (sk K (sk K (sk K (sk K (sk K p))))) with
  | .inr r => act_2 K pl ps r.2.1 r.2.2 (sk K r.1)
  | .inl _ => ([], [], [], 0)
def acts_d (K : fl_N) (ts pl : List Int) (ps : List (List Int)) : Nat → List Int → Int → List ad_T
  | 0, _, _ => []
  | m + 1, al, p => if al ≠ [] ∧ K 3 p.toNat ≠ 0 then [] else match sp_action K ts pl ps al p with
    | .inr q => act_d K ts pl ps p :: acts_d K ts pl ps m q.2 q.1
    | .inl _ => []
theorem wd_ok {K : fl_N} {w : List Int} {p q : Int} (h : sp_word K w p = .inr q) : sk K p = q := by
  unfold sp_word at h
  split at h
  · exact Sum.inr.inj h
  · cases h
theorem ks_ok {K : fl_N} {k p q : Int} (h : sp_kind K k p = .inr q) : sk K p = q := (kd_ok h).2.symm
theorem nw_ok {K : fl_N} {k p q : Int} {l l2 : List Int} (h : sp_new K k l p = .inr (q, l2)) : sk K p = q := by
  unfold sp_new at h
  split at h
  · split at h
    · exact (Prod.mk.inj (Sum.inr.inj h)).1
    · cases h
  · cases h
theorem at_dd {K : fl_N} {l pl tt : List Int} {ps : List (List Int)} {nt p z f1 s1 p1 p2 : Int} (hz : idx pl (K 6 p.toNat) = z) (ht : ps.getD z.toNat [] = tt) (h1 : sk K p = p1) (hf : (0 < tt.length ∧ idx l (K 6 p1.toNat) = f1 ∧ sk K p1 = p2) ∨ (tt.length = 0 ∧ f1 = -1)) (hs : (1 < tt.length ∧ idx l (K 6 p2.toNat) = s1) ∨ (tt.length ≤ 1 ∧ s1 = -1)) : at_d K l pl ps nt p = (z, nt, f1, s1) := by
  unfold at_d
  rw [hz, ht, h1]
  rcases hf with ⟨a1, a2, a3⟩ | ⟨a1, a2⟩
  · rw [if_pos a1, a2, a3]
    rcases hs with ⟨b1, b2⟩ | ⟨b1, b2⟩
    · rw [if_pos b1, b2]
    · rw [if_neg (by omega), b2]
  · rcases hs with ⟨b1, b2⟩ | ⟨b1, b2⟩
    · exact absurd b1 (by omega)
    · rw [if_neg (by omega), if_neg (by omega), a2, b2]
theorem eq_dd {K : fl_N} {l : List Int} {nt p f1 s1 p1 p2 : Int} (h1 : sk K p = p1) (hf : idx l (K 6 p1.toNat) = f1) (h2 : sk K p1 = p2) (hs : idx l (K 6 p2.toNat) = s1) : eq_d K l nt p = (-1, nt, f1, s1) := by
  unfold eq_d
  rw [h1, h2, hf, hs]
section MMD
variable {K : fl_N} {e : Bool} {l pl : List Int} {ps : List (List Int)} {nt p p1 p2 : Int}
theorem mb_q (h : e = false) (h1 : isw K p [61] = true) : mb_d K e l pl ps nt p = eq_d K l nt p := by
  unfold mb_d
  rw [if_pos ⟨h, h1⟩]
theorem mb_a (h : e = true ∨ isw K p [61] = false) : mb_d K e l pl ps nt p = at_d K l pl ps nt p := by
  unfold mb_d
  rw [if_neg]
  rintro ⟨a, b⟩
  rcases h with h | h
  · rw [h] at a; cases a
  · rw [h] at b; cases b
theorem mm_i (h : e = true) (h1 : isw K p [105, 110, 99, 114, 101, 97, 115, 101] = true) : mem_d K e l pl ps p = [] := by
  unfold mem_d
  rw [if_pos ⟨h, h1⟩]
theorem mm_x (h : e = false ∨ isw K p [105, 110, 99, 114, 101, 97, 115, 101] = false) : ¬ (e = true ∧ isw K p [105, 110, 99, 114, 101, 97, 115, 101] = true) := by
  rintro ⟨a, b⟩
  rcases h with h | h
  · rw [h] at a; cases a
  · rw [h] at b; cases b
theorem mm_n (h : e = false ∨ isw K p [105, 110, 99, 114, 101, 97, 115, 101] = false) (h1 : isw K p [110, 111, 116] = true) (h2 : sk K p = p1) (h3 : sp_kind K 0 p1 = .inr p2) : mem_d K e l pl ps p = [mb_d K e l pl ps 1 p2] := by
  unfold mem_d
  rw [if_neg (mm_x h), if_pos h1, h2, ks_ok h3]
theorem mm_o (h : e = false ∨ isw K p [105, 110, 99, 114, 101, 97, 115, 101] = false) (h1 : isw K p [110, 111, 116] = false) : mem_d K e l pl ps p = [mb_d K e l pl ps 0 p] := by
  unfold mem_d
  rw [if_neg (mm_x h), if_neg (by rw [h1]; decide)]
end MMD
section ACT
variable {K : fl_N} {ts pl al al2 l2 tl2 w1 w2 w3 : List Int} {ps : List (List Int)} {p p1 p2 p3 p4 p5 p6 p7 p8 p9 p10 p11 c9 c11 : Int}
theorem act_h (h1 : sp_kind K 0 p = .inr p1) (h2 : sp_word K w1 p1 = .inr p2) (h3 : sp_new K 2 al p2 = .inr (p3, al2)) (h4 : sp_word K w2 p3 = .inr p4) (h5 : sp_kind K 0 p4 = .inr p5) (h6 : sp_params K ts 3 [] [] p5 = .inr (p6, l2, tl2)) (h7 : sp_kind K 1 p6 = .inr p7) : act_d K ts pl ps p = act_2 K pl ps l2 tl2 p7 := by
  unfold act_d
  rw [ks_ok h1, wd_ok h2, nw_ok h3, wd_ok h4, ks_ok h5, h6]
  simp only
  rw [ks_ok h7]
theorem act_y (hw : isw K p7 [58, 112, 114, 101, 99, 111, 110, 100, 105, 116, 105, 111, 110] = true) (h8 : sk K p7 = p8) (hc : sp_clause K false 3 l2 tl2 pl ps p8 = .inr (p9, c9)) (h9 : sp_word K w3 p9 = .inr p10) (he : sp_clause K true 3 l2 tl2 pl ps p10 = .inr (p11, c11)) : act_2 K pl ps l2 tl2 p7 = (tl2, clause_d K false 3 l2 tl2 pl ps p8, clause_d K true 3 l2 tl2 pl ps p10, c11) := by
  unfold act_2
  rw [if_pos hw, h8]
  simp only [cl_p, hc, wd_ok h9, he]
theorem act_n (hw : isw K p7 [58, 112, 114, 101, 99, 111, 110, 100, 105, 116, 105, 111, 110] = false) (h9 : sp_word K w3 p7 = .inr p10) (he : sp_clause K true 3 l2 tl2 pl ps p10 = .inr (p11, c11)) : act_2 K pl ps l2 tl2 p7 = (tl2, [], clause_d K true 3 l2 tl2 pl ps p10, c11) := by
  unfold act_2
  rw [if_neg (by rw [hw]; decide), wd_ok h9]
  simp only [cl_p, he]
theorem ad_step {i : Int} {q2 : List Int} {q1 : Int} (h : i < 5) (hl : (al.length : Int) = i) (hk : i = 0 ∨ K 3 p.toNat = 0) (h1 : sp_action K ts pl ps al p = .inr (q1, q2)) : acts_d K ts pl ps (5 - i).toNat al p = act_d K ts pl ps p :: acts_d K ts pl ps (5 - (i + 1)).toNat q2 q1 := by
  rw [show (5 - i).toNat = (5 - (i + 1)).toNat + 1 by omega]
  conv => lhs; unfold acts_d
  rw [if_neg, h1]
  rintro ⟨h2, h3⟩
  rcases hk with hk | hk
  · exact h2 (List.eq_nil_of_length_eq_zero (by omega))
  · exact h3 hk
theorem ad_z {i : Int} (h : 5 ≤ i) : acts_d K ts pl ps (5 - i).toNat al p = [] := by
  rw [show (5 - i).toNat = 0 by omega]
  rfl
theorem ad_e {i : Int} {m : Nat} (hl : (al.length : Int) = i) (h : ¬ i = 0) (hk : ¬ K 3 p.toNat = 0) : acts_d K ts pl ps m al p = [] := by
  cases m with
  | zero => rfl
  | succ m =>
    unfold acts_d
    rw [if_pos ⟨fun e => by rw [e] at hl; simp at hl; omega, hk⟩]
end ACT
/-- an action's cells hold its data -/
def acr (F : fl_N) (A : Nat) (x : ad_T) : Prop := rep (F (A + 2)) (F A 2) x.1 ∧ clr F (A + 3) x.2.1 ∧ clr F (A + 8) x.2.2.1 ∧ F (A + 8) 5 = x.2.2.2
theorem acr_fs {F F' : fl_N} {S : List (Nat × Nat × Nat × Nat)} {A : Nat} {x : ad_T} (h : acr F A x) (hf : fs S F F') (hS : ∀ r k, A ≤ r ∧ r < A + 13 → fs_in S r k = false) : acr F' A x := ⟨rep_fs h.1 hf (fun j => hS _ _ (by omega)) (hS _ _ (by omega)), clr_fs h.2.1 hf (fun r k hr => hS r k (by omega)), clr_fs h.2.2.1 hf (fun r k hr => hS r k (by omega)), by rw [hf _ _ (hS (A + 8) 5 (by omega))]; exact h.2.2.2⟩
def dar (F : fl_N) (D : List ad_T) : Prop := ∀ (j : Nat) (x : ad_T), D[j]? = some x → acr F (39 + 13 * j) x
theorem dar_nil {F : fl_N} : dar F [] := fun j x h => by simp at h
theorem dar_fs {F F' : fl_N} {S : List (Nat × Nat × Nat × Nat)} {D : List ad_T} (h : dar F D) (hf : fs S F F') (hS : ∀ r k, 39 ≤ r ∧ r < 39 + 13 * D.length → fs_in S r k = false) : dar F' D := fun j x hx => by
  have hl := (List.getElem?_eq_some_iff.mp hx).1
  exact acr_fs (h j x hx) hf (fun r k hr => hS r k (by omega))
theorem dar_u {F : fl_N} {D : List ad_T} {a k : Nat} {z : Int} (h : dar F D) (ha : a < 39 ∨ 39 + 13 * D.length ≤ a) : dar (fl_u F a k z) D := fun j x hx => by
  have hl := (List.getElem?_eq_some_iff.mp hx).1
  have h9 := h j x hx
  refine ⟨?_, clr_u h9.2.1 (by omega), clr_u h9.2.2.1 (by omega), by rw [fl_u_ne (by omega)]; exact h9.2.2.2⟩
  have h8 := h9.1
  rw [fl_u_r (by omega), fl_u_r (by omega)]
  exact h8
theorem dar_add {F : fl_N} {D : List ad_T} {A : Nat} {x : ad_T} (h : dar F D) (hA : A = 39 + 13 * D.length) (hx : acr F A x) : dar F (D ++ [x]) := by
  intro j y hy
  by_cases e : j < D.length
  · rw [List.getElem?_append_left e] at hy
    exact h j y hy
  · have hl := (List.getElem?_eq_some_iff.mp hy).1
    rw [List.length_append, List.length_singleton] at hl
    have e2 : j = D.length := by omega
    subst e2
    rw [List.getElem?_append_right (Nat.le_refl _)] at hy
    simp only [Nat.sub_self, List.getElem?_cons_zero, Option.some.injEq] at hy
    subst hy
    rw [← hA]
    exact hx
/-- all that stands ahead of a domain's actions -/
def sp_head (K : fl_N) : PR (Int × List Int × List Int × List (List Int)) := pb (sp_open K [100, 111, 109, 97, 105, 110] 0) fun p => pb (sp_kind K 2 p) fun p => pb (sp_kind K 1 p) fun p => pb (sp_kind K 0 p) fun p =>
  pb (if isw K p [58, 116, 121, 112, 101, 115] = true then pb (sp_rtypes K p) (fun q => pb (sp_kind K 0 q.1) fun p => .inr (p, q.2)) else .inr (p, [])) fun t =>
  pb (sp_rpreds K t.2 t.1) fun q => .inr (q.1, t.2, q.2.1, q.2.2)
def dom_d (K : fl_N) : List ad_T := match sp_head K with
  | .inr h => acts_d K h.2.1 h.2.2.1 h.2.2.2 5 [] h.1
  | .inl _ => []
theorem dom_dd {K : fl_N} {p : Int} {ts pl : List Int} {ps : List (List Int)} (h : sp_head K = .inr (p, ts, pl, ps)) : dom_d K = acts_d K ts pl ps 5 [] p := by
  unfold dom_d
  rw [h]
/-! a problem: the atoms of :init, the goal -/
def atoms_d (K : fl_N) (k : Int) (l tl pl : List Int) (ps : List (List Int)) : Nat → Int → List lt_T
  | 0, _ => []
  | m + 1, p => if K 3 p.toNat = 0 then (match sp_atom K k l tl pl ps (sk K p) with
    | .inr q => at_d K l pl ps 0 (sk K p) :: atoms_d K k l tl pl ps m q
    | .inl _ => []) else []
theorem az_step {K : fl_N} {k : Int} {l tl pl : List Int} {ps : List (List Int)} {i p p1 p2 : Int} (h : i < 12) (hk : K 3 p.toNat = 0) (h1 : sk K p = p1) (h2 : sp_atom K k l tl pl ps p1 = .inr p2) : atoms_d K k l tl pl ps (12 - i).toNat p = at_d K l pl ps 0 p1 :: atoms_d K k l tl pl ps (12 - (i + 1)).toNat p2 := by
  rw [show (12 - i).toNat = (12 - (i + 1)).toNat + 1 by omega]
  conv => lhs; unfold atoms_d
  rw [if_pos hk, h1, h2]
theorem az_z {K : fl_N} {k : Int} {l tl pl : List Int} {ps : List (List Int)} {i p : Int} (h : 12 ≤ i) : atoms_d K k l tl pl ps (12 - i).toNat p = [] := by
  rw [show (12 - i).toNat = 0 by omega]
  rfl
theorem az_e {K : fl_N} {k : Int} {l tl pl : List Int} {ps : List (List Int)} {m : Nat} {p : Int} (hk : ¬ K 3 p.toNat = 0) : atoms_d K k l tl pl ps m p = [] := by
  cases m with
  | zero => rfl
  | succ m =>
    unfold atoms_d
    rw [if_neg hk]
def pr_h (K : fl_N) (nm : Int) (ts : List Int) : PR (Int × List Int × List Int) := pb (sp_open K [112, 114, 111, 98, 108, 101, 109] 0) fun p => pb (sp_kind K 2 p) fun p => pb (sp_kind K 1 p) fun p => pb (sp_dname K nm p) fun p => sp_robjs K ts p
def prb_i (K : fl_N) (nm : Int) (ts pl : List Int) (ps : List (List Int)) : List lt_T := match pr_h K nm ts with
  | .inr r => atoms_d K 2 r.2.1 r.2.2 pl ps 12 (sk K (sk K r.1))
  | .inl _ => []
def prb_g (K : fl_N) (nm : Int) (ts pl : List Int) (ps : List (List Int)) : List lt_T := match pr_h K nm ts with
  | .inr r => (match sp_atoms K 2 r.2.1 r.2.2 pl ps 12 (sk K (sk K r.1)) with
    | .inr q => clause_d K false 2 r.2.1 r.2.2 pl ps (sk K (sk K (sk K q)))
    | .inl _ => [])
  | .inl _ => []
section PRB
variable {K : fl_N} {nm : Int} {ts pl l tl w1 w2 : List Int} {ps : List (List Int)} {p p1 p2 p3 p4 p5 p6 : Int}
theorem prb_ii (h : pr_h K nm ts = .inr (p, l, tl)) (h1 : sp_kind K 0 p = .inr p1) (h2 : sp_word K w1 p1 = .inr p2) : prb_i K nm ts pl ps = atoms_d K 2 l tl pl ps 12 p2 := by
  unfold prb_i
  rw [h]
  simp only
  rw [ks_ok h1, wd_ok h2]
theorem prb_gg (h : pr_h K nm ts = .inr (p, l, tl)) (h1 : sp_kind K 0 p = .inr p1) (h2 : sp_word K w1 p1 = .inr p2) (h3 : sp_atoms K 2 l tl pl ps 12 p2 = .inr p3) (h4 : sp_kind K 1 p3 = .inr p4) (h5 : sp_kind K 0 p4 = .inr p5) (h6 : sp_word K w2 p5 = .inr p6) : prb_g K nm ts pl ps = clause_d K false 2 l tl pl ps p6 := by
  unfold prb_g
  rw [h]
  simp only
  rw [ks_ok h1, wd_ok h2, h3]
  simp only
  rw [ks_ok h4, ks_ok h5, wd_ok h6]
end PRB
def sp_h2 (K : fl_N) (ts : List Int) (p : Int) : PR (Int × List Int × List Int × List (List Int)) := pb (sp_rpreds K ts p) fun q => .inr (q.1, ts, q.2.1, q.2.2)
theorem ad_e2 {K : fl_N} {ts pl al : List Int} {ps : List (List Int)} {m : Nat} {p : Int} (h : 0 < (al.length : Int)) (hk : ¬ K 3 p.toNat = 0) : acts_d K ts pl ps m al p = [] := ad_e rfl (by omega) hk

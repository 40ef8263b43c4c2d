/-! SEARCH, plainly: states with their costs, layer by layer (for the answer of plan() alone: ways and their order are left out) -/
noncomputable def dc (p : Prop) : Bool := @decide p (Classical.propDecidable p)
theorem dc_t {p : Prop} : dc p = true ↔ p := by
  unfold dc
  exact @decide_eq_true_iff p (Classical.propDecidable p)
theorem dc_f {p : Prop} : dc p = false ↔ ¬ p := by
  rw [← Bool.not_eq_true, dc_t]
/-- how many steps, their prices, where each can be, where it leads, the goal -/
abbrev pp_T := Nat × (Nat → Int) × (Nat → Int → Prop) × (Nat → Int → Int) × (Int → Prop)
abbrev tb_T := List (Int × Int)
def xa (T : tb_T) (i : Nat) : Int := (T.getD i (0, 0)).1
def ca (T : tb_T) (i : Nat) : Int := (T.getD i (0, 0)).2
def has (T : tb_T) (f : Int) : Bool := T.any (fun e => decide (e.1 = f))
def nxs (P : pp_T) (T : tb_T) (q : Nat × Nat) : Int := P.2.2.2.1 q.2 (xa T q.1)
noncomputable def way (P : pp_T) (T : tb_T) (c : Int) (q : Nat × Nat) : Bool := decide (ca T q.1 + P.2.1 q.2 = c) && dc (P.2.2.1 q.2 (xa T q.1))
noncomputable def wst (P : pp_T) (most : Nat) (c : Int) (W : tb_T × Bool) (q : Nat × Nat) : tb_T × Bool := if (way P W.1 c q && !dc (P.2.2.2.2 (nxs P W.1 q)) && !has W.1 (nxs P W.1 q)) = true then (if W.1.length < most then (W.1 ++ [(nxs P W.1 q, c)], W.2) else (W.1, true)) else W
def prs (m n : Nat) : List (Nat × Nat) := (List.range m).flatMap (fun i => (List.range n).map (fun s => (i, s)))
noncomputable def lay (P : pp_T) (most : Nat) (c : Int) (T : tb_T) : tb_T × Bool := (prs T.length P.1).foldl (wst P most c) (T, false)
noncomputable def gol (P : pp_T) (c : Int) (T : tb_T) : Bool := (prs T.length P.1).any (fun q => way P T c q && dc (P.2.2.2.2 (nxs P T q)))
/-- a step that leads to a new state, at cost c -/
def nw (P : pp_T) (T : tb_T) (c : Int) : Prop := ∃ q : Nat × Nat, (q.1 < T.length ∧ q.2 < P.1) ∧ ca T q.1 + P.2.1 q.2 = c ∧ P.2.2.1 q.2 (xa T q.1) ∧ has T (nxs P T q) = false
def nxt (P : pp_T) (T : tb_T) (c : Int) : Prop := nw P T c ∧ ∀ c', nw P T c' → c ≤ c'
/-- what comes of a table: the number of the throw, the answer -/
def resu (P : pp_T) (most : Nat) : Nat → tb_T → Int → Int → Prop
  | 0, _, _, _ => False
  | k + 1, T, o, v => ((∀ c, ¬ nw P T c) ∧ o = 0 ∧ v = -1) ∨ ∃ c, nxt P T c ∧ ((gol P c T = true ∧ o = 0 ∧ v = c) ∨ (gol P c T = false ∧ (lay P most c T).2 = true ∧ o = 3 ∧ v = 0) ∨ (gol P c T = false ∧ (lay P most c T).2 = false ∧ resu P most k (lay P most c T).1 o v))
theorem nxt_u {P : pp_T} {T : tb_T} {c c' : Int} (h : nxt P T c) (h' : nxt P T c') : c = c' := by
  have h1 := h.2 c' h'.1
  have h2 := h'.2 c h.1
  omega
theorem resu_u {P : pp_T} {most : Nat} : ∀ (k k' : Nat) (T : tb_T) (o v o' v' : Int), resu P most k T o v → resu P most k' T o' v' → o = o' ∧ v = v' := by
  intro k
  induction k with
  | zero => intro k' T o v o' v' h _; exact absurd h id
  | succ k ih =>
    intro k' T o v o' v' h h'
    cases k' with
    | zero => exact absurd h' id
    | succ k' =>
      unfold resu at h h'
      rcases h with ⟨a1, a2, a3⟩ | ⟨c, a1, a2⟩
      · rcases h' with ⟨b1, b2, b3⟩ | ⟨c', b1, b2⟩
        · exact ⟨a2.trans b2.symm, a3.trans b3.symm⟩
        · exact absurd b1.1 (a1 c')
      · rcases h' with ⟨b1, b2, b3⟩ | ⟨c', b1, b2⟩
        · exact absurd a1.1 (b1 c)
        · have e := nxt_u a1 b1
          subst e
          rcases a2 with ⟨a2, a3, a4⟩ | ⟨a2, a3, a4, a5⟩ | ⟨a2, a3, a4⟩
          · rcases b2 with ⟨b2, b3, b4⟩ | ⟨b2, -⟩ | ⟨b2, -⟩
            · exact ⟨a3.trans b3.symm, a4.trans b4.symm⟩
            · rw [a2] at b2
              cases b2
            · rw [a2] at b2
              cases b2
          · rcases b2 with ⟨b2, -⟩ | ⟨b2, b3, b4, b5⟩ | ⟨b2, b3, -⟩
            · rw [a2] at b2
              cases b2
            · exact ⟨a4.trans b4.symm, a5.trans b5.symm⟩
            · rw [a3] at b3
              cases b3
          · rcases b2 with ⟨b2, -⟩ | ⟨b2, b3, -⟩ | ⟨b2, b3, b4⟩
            · rw [a2] at b2
              cases b2
            · rw [a3] at b3
              cases b3
            · exact ih k' _ o v o' v' a4 b4
/-! tables that grow -/
theorem xa_app {T N : tb_T} {i : Nat} (h : i < T.length) : xa (T ++ N) i = xa T i := by
  unfold xa
  rw [List.getD_eq_getElem?_getD, List.getD_eq_getElem?_getD, List.getElem?_append_left h]
theorem ca_app {T N : tb_T} {i : Nat} (h : i < T.length) : ca (T ++ N) i = ca T i := by
  unfold ca
  rw [List.getD_eq_getElem?_getD, List.getD_eq_getElem?_getD, List.getElem?_append_left h]
theorem has_app {T N : tb_T} {f : Int} (h : has T f = true) : has (T ++ N) f = true := by
  unfold has at h ⊢
  rw [List.any_append, h]
  rfl
theorem has_new {T : tb_T} {f c : Int} : has (T ++ [(f, c)]) f = true := by
  unfold has
  rw [List.any_append]
  simp
theorem has_iff {T : tb_T} {f : Int} : has T f = true ↔ ∃ e ∈ T, e.1 = f := by
  unfold has
  rw [List.any_eq_true]
  constructor
  · rintro ⟨e, he, h⟩
    exact ⟨e, he, of_decide_eq_true h⟩
  · rintro ⟨e, he, h⟩
    exact ⟨e, he, decide_eq_true h⟩
theorem nxs_app {P : pp_T} {T N : tb_T} {q : Nat × Nat} (h : q.1 < T.length) : nxs P (T ++ N) q = nxs P T q := by
  unfold nxs
  rw [xa_app h]
theorem way_app {P : pp_T} {T N : tb_T} {c : Int} {q : Nat × Nat} (h : q.1 < T.length) : way P (T ++ N) c q = way P T c q := by
  unfold way
  rw [xa_app h, ca_app h]
theorem prs_mem {m n : Nat} {q : Nat × Nat} : q ∈ prs m n ↔ q.1 < m ∧ q.2 < n := by
  unfold prs
  rw [List.mem_flatMap]
  constructor
  · rintro ⟨i, hi, h⟩
    obtain ⟨s, hs, rfl⟩ := List.mem_map.mp h
    exact ⟨List.mem_range.mp hi, List.mem_range.mp hs⟩
  · rintro ⟨h1, h2⟩
    exact ⟨q.1, List.mem_range.mpr h1, List.mem_map.mpr ⟨q.2, List.mem_range.mpr h2, rfl⟩⟩
/-- a table behind some of a layer's steps -/
def lfd (P : pp_T) (c : Int) (T : tb_T) (L : List (Nat × Nat)) (W : tb_T × Bool) : Prop := ∃ N : tb_T, W.1 = T ++ N ∧ (∀ e ∈ N, e.2 = c ∧ ¬ P.2.2.2.2 e.1) ∧ (∀ q ∈ L, way P T c q = true → ¬ P.2.2.2.2 (nxs P T q) → has W.1 (nxs P T q) = true ∨ W.2 = true) ∧ ((∀ q ∈ L, way P T c q = true → ¬ P.2.2.2.2 (nxs P T q) → has T (nxs P T q) = true) → N = [] ∧ W.2 = false)
theorem lfd_nil {P : pp_T} {c : Int} {T : tb_T} : lfd P c T [] (T, false) := ⟨[], by simp, fun e he => by simp at he, fun q hq => by simp at hq, fun _ => ⟨rfl, rfl⟩⟩
theorem lfd_s {P : pp_T} {most : Nat} {c : Int} {T : tb_T} {L : List (Nat × Nat)} {W : tb_T × Bool} {q : Nat × Nat} (h : lfd P c T L W) (hq : q.1 < T.length) : lfd P c T (L ++ [q]) (wst P most c W q) := by
  obtain ⟨N, a1, a2, a3, a4⟩ := h
  have ew : way P W.1 c q = way P T c q := by rw [a1, way_app hq]
  have en : nxs P W.1 q = nxs P T q := by rw [a1, nxs_app hq]
  unfold wst
  rw [ew, en]
  by_cases h1 : (way P T c q && !dc (P.2.2.2.2 (nxs P T q)) && !has W.1 (nxs P T q)) = true
  · rw [if_pos h1]
    rw [Bool.and_eq_true, Bool.and_eq_true, Bool.not_eq_true', Bool.not_eq_true', dc_f] at h1
    obtain ⟨⟨b1, b2⟩, b3⟩ := h1
    have hno : ¬ has T (nxs P T q) = true := fun h9 => by
      rw [a1, has_app h9] at b3
      cases b3
    by_cases h2 : W.1.length < most
    · rw [if_pos h2]
      refine ⟨N ++ [(nxs P T q, c)], by rw [a1, List.append_assoc], fun e he => ?_, fun r hr r1 r2 => ?_, fun h9 => ?_⟩
      · rcases List.mem_append.mp he with h3 | h3
        · exact a2 e h3
        · rw [List.mem_singleton.mp h3]
          exact ⟨rfl, b2⟩
      · rcases List.mem_append.mp hr with h3 | h3
        · rcases a3 r h3 r1 r2 with h4 | h4
          · exact Or.inl (has_app h4)
          · exact Or.inr h4
        · rw [List.mem_singleton.mp h3]
          exact Or.inl has_new
      · exact absurd (h9 q (List.mem_append.mpr (Or.inr (List.mem_singleton.mpr rfl))) b1 b2) hno
    · rw [if_neg h2]
      refine ⟨N, a1, a2, fun r _ _ _ => Or.inr rfl, fun h9 => ?_⟩
      exact absurd (h9 q (List.mem_append.mpr (Or.inr (List.mem_singleton.mpr rfl))) b1 b2) hno
  · rw [if_neg h1]
    refine ⟨N, a1, a2, fun r hr r1 r2 => ?_, fun h9 => a4 (fun r hr => h9 r (List.mem_append.mpr (Or.inl hr)))⟩
    rcases List.mem_append.mp hr with h3 | h3
    · exact a3 r h3 r1 r2
    · rw [List.mem_singleton.mp h3] at r1 r2 ⊢
      rw [Bool.and_eq_true, Bool.and_eq_true, Bool.not_eq_true', Bool.not_eq_true', dc_f] at h1
      left
      cases h4 : has W.1 (nxs P T q) with
      | true => rfl
      | false => exact absurd ⟨⟨r1, r2⟩, h4⟩ h1
theorem lfd_all {P : pp_T} {most : Nat} {c : Int} {T : tb_T} : ∀ (L2 L : List (Nat × Nat)) (W : tb_T × Bool), lfd P c T L W → (∀ q ∈ L2, q.1 < T.length) → lfd P c T (L ++ L2) (L2.foldl (wst P most c) W) := by
  intro L2
  induction L2 with
  | nil => intro L W h _; simpa using h
  | cons q L2 ih =>
    intro L W h hq
    rw [List.foldl_cons, show L ++ q :: L2 = (L ++ [q]) ++ L2 by simp]
    exact ih _ _ (lfd_s h (hq q List.mem_cons_self)) (fun r hr => hq r (List.mem_cons_of_mem _ hr))
theorem lay_ok {P : pp_T} {most : Nat} {c : Int} {T : tb_T} : lfd P c T (prs T.length P.1) (lay P most c T) := by
  have h := lfd_all (most := most) (prs T.length P.1) [] (T, false) (lfd_nil (P := P) (c := c)) (fun q hq => (prs_mem.mp hq).1)
  rw [List.nil_append] at h
  exact h
theorem ca_new {T N : tb_T} {i : Nat} {c : Int} (h : T.length ≤ i) (h2 : i < (T ++ N).length) (hN : ∀ e ∈ N, e.2 = c) : ca (T ++ N) i = c := by
  rw [List.length_append] at h2
  have h3 : i - T.length < N.length := by omega
  unfold ca
  rw [List.getD_eq_getElem?_getD, List.getElem?_append_right h, List.getElem?_eq_getElem h3]
  exact hN _ (List.getElem_mem h3)
/-! the class's layers -/
def clsd (P : pp_T) (T : tb_T) (cp : Int) : Prop := (∀ q : Nat × Nat, q.1 < T.length → q.2 < P.1 → P.2.2.1 q.2 (xa T q.1) → ca T q.1 + P.2.1 q.2 ≤ cp → has T (nxs P T q) = true) ∧ ∀ e ∈ T, e.2 ≤ cp ∧ ¬ P.2.2.2.2 e.1
def lc (P : pp_T) (T : tb_T) (cp c : Int) : Prop := cp < c ∧ ∀ q : Nat × Nat, q.1 < T.length → q.2 < P.1 → cp < ca T q.1 + P.2.1 q.2 → c ≤ ca T q.1 + P.2.1 q.2
theorem nw_gt {P : pp_T} {T : tb_T} {cp c : Int} (h : clsd P T cp) (hn : nw P T c) : cp < c := by
  obtain ⟨q, ⟨h1, h2⟩, h3, h4, h5⟩ := hn
  rcases Int.lt_or_le cp c with h6 | h6
  · exact h6
  · rw [h.1 q h1 h2 h4 (by omega)] at h5
    cases h5
theorem nxt_of {P : pp_T} {T : tb_T} {cp c : Int} (h : clsd P T cp) (hl : lc P T cp c) (hn : nw P T c) : nxt P T c := by
  refine ⟨hn, fun c' hn' => ?_⟩
  have h6 := nw_gt h hn'
  obtain ⟨q, ⟨h1, h2⟩, h3, h4, h5⟩ := hn'
  have h7 := hl.2 q h1 h2 (by omega)
  omega
theorem way_t {P : pp_T} {T : tb_T} {c : Int} {q : Nat × Nat} : way P T c q = true ↔ ca T q.1 + P.2.1 q.2 = c ∧ P.2.2.1 q.2 (xa T q.1) := by
  unfold way
  rw [Bool.and_eq_true, dc_t, decide_eq_true_iff]
theorem gol_nw {P : pp_T} {T : tb_T} {cp c : Int} (h : clsd P T cp) (hg : gol P c T = true) : nw P T c := by
  unfold gol at hg
  rw [List.any_eq_true] at hg
  obtain ⟨q, hq, h1⟩ := hg
  rw [Bool.and_eq_true, way_t, dc_t] at h1
  obtain ⟨⟨h2, h3⟩, h4⟩ := h1
  refine ⟨q, prs_mem.mp hq, h2, h3, ?_⟩
  cases h5 : has T (nxs P T q) with
  | false => rfl
  | true =>
    obtain ⟨e, he, h6⟩ := has_iff.mp h5
    rw [← h6] at h4
    exact absurd h4 (h.2 e he).2
theorem gol_no {P : pp_T} {T : tb_T} {c : Int} {q : Nat × Nat} (hg : gol P c T = false) (h1 : q.1 < T.length) (h2 : q.2 < P.1) (h3 : way P T c q = true) : ¬ P.2.2.2.2 (nxs P T q) := fun h4 => by
  unfold gol at hg
  rw [List.any_eq_false] at hg
  refine hg q (prs_mem.mpr ⟨h1, h2⟩) ?_
  rw [h3, dc_t.mpr h4]
  rfl
theorem lay_no {P : pp_T} {most : Nat} {T : tb_T} {c : Int} (hn : ¬ nw P T c) : lay P most c T = (T, false) := by
  obtain ⟨N, a1, -, -, a4⟩ := lay_ok (P := P) (most := most) (c := c) (T := T)
  obtain ⟨b1, b2⟩ := a4 (fun q hq h1 _ => by
    obtain ⟨h2, h3⟩ := way_t.mp h1
    cases h5 : has T (nxs P T q) with
    | true => rfl
    | false => exact absurd ⟨q, prs_mem.mp hq, h2, h3, h5⟩ hn)
  rw [b1, List.append_nil] at a1
  exact Prod.ext a1 b2
theorem lay_cls {P : pp_T} {most : Nat} {T : tb_T} {cp c : Int} (hp : ∀ s, s < P.1 → 1 ≤ P.2.1 s) (h : clsd P T cp) (hl : lc P T cp c) (hg : gol P c T = false) (hc : (lay P most c T).2 = false) : clsd P (lay P most c T).1 c := by
  obtain ⟨N, a1, a2, a3, -⟩ := lay_ok (P := P) (most := most) (c := c) (T := T)
  have hl1 := hl.1
  refine ⟨fun q h1 h2 h3 h4 => ?_, fun e he => ?_⟩
  · by_cases h5 : q.1 < T.length
    · rw [a1] at h3 h4
      rw [xa_app h5] at h3
      rw [ca_app h5] at h4
      rw [show nxs P (lay P most c T).1 q = nxs P T q by rw [a1, nxs_app h5]]
      by_cases h6 : ca T q.1 + P.2.1 q.2 ≤ cp
      · rw [a1]
        exact has_app (h.1 q h5 h2 h3 h6)
      · have h7 := hl.2 q h5 h2 (by omega)
        have h8 : way P T c q = true := way_t.mpr ⟨by omega, h3⟩
        rcases a3 q (prs_mem.mpr ⟨h5, h2⟩) h8 (gol_no hg h5 h2 h8) with h9 | h9
        · exact h9
        · rw [hc] at h9
          cases h9
    · rw [a1] at h1 h4
      rw [ca_new (by omega) h1 (fun e he => (a2 e he).1)] at h4
      have h6 := hp q.2 h2
      omega
  · rw [a1] at he
    rcases List.mem_append.mp he with h1 | h1
    · exact ⟨by have h2 := (h.2 e h1).1; omega, (h.2 e h1).2⟩
    · exact ⟨by have h2 := (a2 e h1).1; omega, (a2 e h1).2⟩
/-- what comes of T comes of T0 -/
def cms (P : pp_T) (most : Nat) (T0 T : tb_T) : Prop := ∀ k o v, resu P most k T o v → ∃ k', resu P most k' T0 o v
theorem cms_r {P : pp_T} {most : Nat} {T : tb_T} : cms P most T T := fun k o v h => ⟨k, h⟩
theorem cms_lay {P : pp_T} {most : Nat} {T0 T : tb_T} {cp c : Int} (h0 : cms P most T0 T) (h : clsd P T cp) (hl : lc P T cp c) (hg : gol P c T = false) (hc : (lay P most c T).2 = false) : cms P most T0 (lay P most c T).1 := by
  by_cases hn : nw P T c
  · intro k o v hr
    refine h0 (k + 1) o v ?_
    unfold resu
    exact Or.inr ⟨c, nxt_of h hl hn, Or.inr (Or.inr ⟨hg, hc, hr⟩)⟩
  · rw [lay_no hn]
    exact h0
theorem cms_gol {P : pp_T} {most : Nat} {T0 T : tb_T} {cp c : Int} (h0 : cms P most T0 T) (h : clsd P T cp) (hl : lc P T cp c) (hg : gol P c T = true) : ∃ k, resu P most k T0 0 c := by
  refine h0 1 0 c ?_
  unfold resu
  exact Or.inr ⟨c, nxt_of h hl (gol_nw h hg), Or.inl ⟨hg, rfl, rfl⟩⟩
theorem cms_crw {P : pp_T} {most : Nat} {T0 T : tb_T} {cp c : Int} (h0 : cms P most T0 T) (h : clsd P T cp) (hl : lc P T cp c) (hg : gol P c T = false) (hc : (lay P most c T).2 = true) : ∃ k, resu P most k T0 3 0 := by
  refine h0 1 3 0 ?_
  have hn : nw P T c := by
    by_cases hn : nw P T c
    · exact hn
    · rw [lay_no hn] at hc
      cases hc
  unfold resu
  exact Or.inr ⟨c, nxt_of h hl hn, Or.inr (Or.inl ⟨hg, hc, rfl, rfl⟩)⟩
theorem cms_end {P : pp_T} {most : Nat} {T0 T : tb_T} {cp : Int} (h0 : cms P most T0 T) (h : clsd P T cp) (hl : ∀ q : Nat × Nat, q.1 < T.length → q.2 < P.1 → ca T q.1 + P.2.1 q.2 ≤ cp) : ∃ k, resu P most k T0 0 (-1) := by
  refine h0 1 0 (-1) ?_
  unfold resu
  refine Or.inl ⟨fun c hn => ?_, rfl, rfl⟩
  have h6 := nw_gt h hn
  obtain ⟨q, ⟨h1, h2⟩, h3, h4, h5⟩ := hn
  have h7 := hl q h1 h2
  omega
/-! when a state is due -/
def due (P : pp_T) (T : tb_T) (cp : Int) (i : Nat) (d : Int) : Prop := (d = 2147483647 ∧ ∀ s, s < P.1 → ca T i + P.2.1 s ≤ cp) ∨ (cp < d ∧ (∃ s, s < P.1 ∧ d = ca T i + P.2.1 s) ∧ ∀ s, s < P.1 → cp < ca T i + P.2.1 s → d ≤ ca T i + P.2.1 s)
theorem due_lc {P : pp_T} {T : tb_T} {cp c : Int} {g : Nat → Int} (hd : ∀ i, i < T.length → due P T cp i (g i)) (hm : ∃ i, i < T.length ∧ g i = c) (hle : ∀ i, i < T.length → c ≤ g i) (hne : ¬ c = 2147483647) : lc P T cp c := by
  obtain ⟨i, hi, e⟩ := hm
  refine ⟨?_, fun q h1 h2 h3 => ?_⟩
  · rcases hd i hi with ⟨h, -⟩ | ⟨h, -⟩
    · omega
    · omega
  · have h4 := hle q.1 h1
    rcases hd q.1 h1 with ⟨-, h⟩ | ⟨-, -, h⟩
    · have h5 := h q.2 h2
      omega
    · have h5 := h q.2 h2 h3
      omega
theorem due_end {P : pp_T} {T : tb_T} {cp : Int} {g : Nat → Int} (hd : ∀ i, i < T.length → due P T cp i (g i)) (hle : ∀ i, i < T.length → 2147483647 ≤ g i) (hb : ∀ i s, i < T.length → s < P.1 → ca T i + P.2.1 s < 2147483647) : ∀ q : Nat × Nat, q.1 < T.length → q.2 < P.1 → ca T q.1 + P.2.1 q.2 ≤ cp := fun q h1 h2 => by
  rcases hd q.1 h1 with ⟨-, h⟩ | ⟨-, ⟨s, hs, h⟩, -⟩
  · exact h q.2 h2
  · have h3 := hle q.1 h1
    have h4 := hb q.1 s h1 hs
    omega
/-- a state that isn't due at c is due as before; it has no step at c -/
theorem due_nx {P : pp_T} {T : tb_T} {cp c : Int} {i : Nat} {d : Int} (hl : lc P T cp c) (hi : i < T.length) (hd : due P T cp i d) (hne : ¬ d = c) : due P T c i d ∧ ∀ s, s < P.1 → ¬ ca T i + P.2.1 s = c := by
  have h0 := hl.1
  rcases hd with ⟨h1, h2⟩ | ⟨h1, ⟨s, hs, h2⟩, h3⟩
  · exact ⟨Or.inl ⟨h1, fun s hs => by have h3 := h2 s hs; omega⟩, fun s hs h3 => by have h4 := h2 s hs; omega⟩
  · have h4 := hl.2 (i, s) hi hs (by show cp < ca T i + P.2.1 s; omega)
    have h5 : c < d := by
      have h6 : c ≤ ca T i + P.2.1 s := h4
      omega
    refine ⟨Or.inr ⟨h5, ⟨s, hs, h2⟩, fun s' hs' h6 => h3 s' hs' (by omega)⟩, fun s' hs' h6 => ?_⟩
    have h7 := h3 s' hs' (by omega)
    omega
theorem due_app {P : pp_T} {T N : tb_T} {cp : Int} {i : Nat} {d : Int} (hi : i < T.length) (h : due P T cp i d) : due P (T ++ N) cp i d := by
  unfold due at h ⊢
  rw [ca_app hi]
  exact h
/-! how many layers there can be: one for each price of a state -/
def b1 (cp v : Int) : Nat := if cp < v then 1 else 0
theorem b1_le (cp v : Int) : b1 cp v ≤ 1 := by
  unfold b1
  split <;> omega
theorem b1_mono {cp c : Int} (h : cp ≤ c) (v : Int) : b1 c v ≤ b1 cp v := by
  unfold b1
  split
  · rw [if_pos (by omega)]
    exact Nat.le_refl _
  · exact Nat.zero_le _
theorem b1_lt {cp c : Int} (h : cp < c) : b1 c c = 0 ∧ b1 cp c = 1 := ⟨if_neg (by omega), if_pos h⟩
def rm5 (pa : Nat → Int) (x cp : Int) : Nat := b1 cp (x + pa 0) + b1 cp (x + pa 1) + b1 cp (x + pa 2) + b1 cp (x + pa 3) + b1 cp (x + pa 4)
theorem rm5_le (pa : Nat → Int) (x cp : Int) : rm5 pa x cp ≤ 5 := by
  unfold rm5
  have h0 := b1_le cp (x + pa 0)
  have h1 := b1_le cp (x + pa 1)
  have h2 := b1_le cp (x + pa 2)
  have h3 := b1_le cp (x + pa 3)
  have h4 := b1_le cp (x + pa 4)
  omega
theorem rm5_mono {cp c : Int} (h : cp ≤ c) (pa : Nat → Int) (x : Int) : rm5 pa x c ≤ rm5 pa x cp := by
  unfold rm5
  have h0 := b1_mono h (x + pa 0)
  have h1 := b1_mono h (x + pa 1)
  have h2 := b1_mono h (x + pa 2)
  have h3 := b1_mono h (x + pa 3)
  have h4 := b1_mono h (x + pa 4)
  omega
theorem rm5_lt {cp c : Int} (h : cp < c) {pa : Nat → Int} {x : Int} {a : Nat} (ha : a < 5) (e : x + pa a = c) : rm5 pa x c < rm5 pa x cp := by
  unfold rm5
  have h0 := b1_mono (show cp ≤ c by omega) (x + pa 0)
  have h1 := b1_mono (show cp ≤ c by omega) (x + pa 1)
  have h2 := b1_mono (show cp ≤ c by omega) (x + pa 2)
  have h3 := b1_mono (show cp ≤ c by omega) (x + pa 3)
  have h4 := b1_mono (show cp ≤ c by omega) (x + pa 4)
  have hl : b1 c (x + pa a) = 0 ∧ b1 cp (x + pa a) = 1 := by
    rw [e]
    exact b1_lt h
  have hc : a = 0 ∨ a = 1 ∨ a = 2 ∨ a = 3 ∨ a = 4 := by omega
  rcases hc with rfl | rfl | rfl | rfl | rfl <;> omega
def phS (pa : Nat → Int) (cp : Int) : tb_T → Nat
  | [] => 0
  | e :: T => rm5 pa e.2 cp + phS pa cp T
theorem phS_app {pa : Nat → Int} {cp : Int} {T N : tb_T} : phS pa cp (T ++ N) = phS pa cp T + phS pa cp N := by
  induction T with
  | nil => simp [phS]
  | cons e T ih =>
    show rm5 pa e.2 cp + phS pa cp (T ++ N) = rm5 pa e.2 cp + phS pa cp T + phS pa cp N
    omega
theorem phS_5 {pa : Nat → Int} {cp : Int} {T : tb_T} : phS pa cp T ≤ 5 * T.length := by
  induction T with
  | nil => exact Nat.le_refl _
  | cons e T ih =>
    have h := rm5_le pa e.2 cp
    rw [List.length_cons]
    show rm5 pa e.2 cp + phS pa cp T ≤ _
    omega
theorem phS_mono {pa : Nat → Int} {cp c : Int} (h : cp ≤ c) {T : tb_T} : phS pa c T ≤ phS pa cp T := by
  induction T with
  | nil => exact Nat.le_refl _
  | cons e T ih =>
    have h1 := rm5_mono h pa e.2
    show rm5 pa e.2 c + phS pa c T ≤ rm5 pa e.2 cp + phS pa cp T
    omega
theorem phS_lt {pa : Nat → Int} {cp c : Int} (h : cp < c) : ∀ {T : tb_T} {i a : Nat}, i < T.length → a < 5 → ca T i + pa a = c → phS pa c T < phS pa cp T := by
  intro T
  induction T with
  | nil => intro i a hi; exact absurd hi (by simp)
  | cons e T ih =>
    intro i a hi ha he
    show rm5 pa e.2 c + phS pa c T < rm5 pa e.2 cp + phS pa cp T
    cases i with
    | zero =>
      have h1 := rm5_lt h ha (show e.2 + pa a = c from he)
      have h2 := phS_mono (pa := pa) (show cp ≤ c by omega) (T := T)
      omega
    | succ i =>
      have h1 := ih (i := i) (a := a) (by simpa using hi) ha he
      have h2 := rm5_mono (show cp ≤ c by omega) pa e.2
      omega
def phi (pa : Nat → Int) (cp : Int) (T : tb_T) : Nat := phS pa cp T + 5 * (200 - T.length)
theorem phi_0 {pa : Nat → Int} {cp : Int} {T : tb_T} (h : T.length ≤ 200) : phi pa cp T ≤ 1000 := by
  unfold phi
  have h1 := phS_5 (pa := pa) (cp := cp) (T := T)
  omega
theorem phi_s {pa : Nat → Int} {cp c : Int} {T N : tb_T} {i a : Nat} (h : cp < c) (hi : i < T.length) (ha : a < 5) (he : ca T i + pa a = c) (hl : (T ++ N).length ≤ 200) : phi pa c (T ++ N) + 1 ≤ phi pa cp T := by
  unfold phi
  have h1 := phS_lt h hi ha he
  have h2 := phS_5 (pa := pa) (cp := c) (T := N)
  rw [List.length_append] at hl
  rw [phS_app, List.length_append]
  omega
/-! the tables of states, by open addresses: h gives a state's first place -/
def ppr (h : Int → Int) (f : Int) (m : Nat) : Nat := ((h f + (m : Int)) % 512).toNat
/-- x: the states; s: the slots -/
def stz (x s : Nat → Int) (f : Int) (z : Nat) : Prop := s z = 0 ∨ x (s z - 1).toNat = f
def slz (h : Int → Int) (x s : Nat → Int) (f : Int) (z : Nat) : Prop := ∃ m : Nat, z = ppr h f m ∧ stz x s f z ∧ ∀ i : Nat, i < m → ¬ stz x s f (ppr h f i)
def hsz (h : Int → Int) (x s : Nat → Int) (T : tb_T) : Prop := (∀ i, i < T.length → x i = xa T i) ∧ (∀ z, z < 512 → s z = 0 ∨ (1 ≤ s z ∧ s z ≤ (T.length : Int))) ∧ ∀ i, i < T.length → ∃ m : Nat, s (ppr h (x i) m) = (i : Int) + 1 ∧ ∀ j, j < m → ¬ s (ppr h (x i) j) = 0
theorem ppr_lt {h : Int → Int} {f : Int} {m : Nat} : ppr h f m < 512 := by
  unfold ppr
  omega
theorem hsz_new {h : Int → Int} {x s : Nat → Int} {T : tb_T} {f : Int} {z : Nat} (hh : hsz h x s T) (hs : slz h x s f z) (hf : has T f = false) : s z = 0 := by
  obtain ⟨m, e, h1, -⟩ := hs
  rcases h1 with h1 | h1
  · exact h1
  · rcases hh.2.1 z (by rw [e]; exact ppr_lt) with h2 | ⟨h2, h3⟩
    · exact h2
    · have hi : (s z - 1).toNat < T.length := by omega
      rw [hh.1 _ hi] at h1
      have h4 : has T f = true := has_iff.mpr ⟨T.getD (s z - 1).toNat (0, 0), by
        rw [List.getD_eq_getElem?_getD, List.getElem?_eq_getElem hi]
        exact List.getElem_mem hi, h1⟩
      rw [hf] at h4
      cases h4
theorem hsz_old {h : Int → Int} {x s : Nat → Int} {T : tb_T} {f : Int} {z : Nat} (hh : hsz h x s T) (hs : slz h x s f z) (hf : has T f = true) : ¬ s z = 0 := by
  obtain ⟨e, he, hf⟩ := has_iff.mp hf
  obtain ⟨i, hi, h0⟩ := List.getElem_of_mem he
  have hx : x i = f := by
    rw [hh.1 i hi, ← hf]
    unfold xa
    rw [List.getD_eq_getElem?_getD, List.getElem?_eq_getElem hi]
    show (T[i]).1 = e.1
    rw [h0]
  obtain ⟨m', a1, a2⟩ := hh.2.2 i hi
  rw [hx] at a1 a2
  obtain ⟨m, e1, h1, h2⟩ := hs
  intro h3
  rcases Nat.lt_trichotomy m m' with h4 | h4 | h4
  · exact a2 m h4 (by rw [← e1]; exact h3)
  · rw [e1, h4, a1] at h3
    omega
  · refine h2 m' h4 (Or.inr ?_)
    rw [a1, show ((i : Int) + 1 - 1).toNat = i by omega]
    exact hx
theorem hsz_add {h : Int → Int} {x s x' s' : Nat → Int} {T : tb_T} {f c : Int} {z : Nat} (hh : hsz h x s T) (hs : slz h x s f z) (hf : has T f = false) (hx : ∀ i, i < T.length → x' i = x i) (hx2 : x' T.length = f) (h1 : s' z = (T.length : Int) + 1) (h2 : ∀ j, ¬ j = z → s' j = s j) : hsz h x' s' (T ++ [(f, c)]) := by
  have h0 := hsz_new hh hs hf
  have hz : z < 512 := by
    obtain ⟨m, e, -⟩ := hs
    rw [e]
    exact ppr_lt
  have hnz : ∀ j, ¬ s j = 0 → s' j = s j := fun j hj => h2 j (fun e => hj (by rw [e]; exact h0))
  have hnz2 : ∀ j, ¬ s j = 0 → ¬ s' j = 0 := fun j hj => by rw [hnz j hj]; exact hj
  refine ⟨fun i hi => ?_, fun j hj => ?_, fun i hi => ?_⟩
  · rw [List.length_append, List.length_singleton] at hi
    by_cases e : i < T.length
    · rw [hx i e, xa_app e]
      exact hh.1 i e
    · have e2 : i = T.length := by omega
      rw [e2, hx2]
      unfold xa
      rw [List.getD_eq_getElem?_getD, List.getElem?_append_right (Nat.le_refl _)]
      simp
  · rw [List.length_append, List.length_singleton]
    by_cases e : j = z
    · rw [e, h1]
      right
      omega
    · rw [h2 j e]
      rcases hh.2.1 j hj with h3 | ⟨h3, h4⟩
      · exact Or.inl h3
      · exact Or.inr ⟨h3, by omega⟩
  · rw [List.length_append, List.length_singleton] at hi
    by_cases e : i < T.length
    · rw [hx i e]
      obtain ⟨m, a1, a2⟩ := hh.2.2 i e
      exact ⟨m, by rw [hnz _ (by rw [a1]; omega)]; exact a1, fun j hj => hnz2 _ (a2 j hj)⟩
    · have e2 : i = T.length := by omega
      rw [e2, hx2]
      obtain ⟨m, b1, b2, b3⟩ := hs
      exact ⟨m, by rw [← b1]; exact h1, fun j hj => hnz2 _ (fun h9 => b3 j hj (Or.inl h9))⟩

/-! the class's search: its tables -/
noncomputable def hshC (f : Int) : Int := lus (lmu f (-7046029254386353131)) 55
theorem lus_55 (a : Int) : 0 ≤ lus a 55 ∧ lus a 55 ≤ 511 := by
  have e : lus a 55 = (((Int64.ofInt a).toUInt64 >>> ((Int32.ofInt 55).toInt64.toUInt64 &&& Int64.toUInt64 63)).toInt64).toInt := lop_e 4 a 55
  obtain ⟨z, hz, h0, h1⟩ := ga_u55 (Int64.ofInt a)
  rw [e, hz, fl_toIntL ⟨by omega, by omega⟩]
  exact ⟨h0, h1⟩
theorem hshC_b (f : Int) : 0 ≤ hshC f ∧ hshC f ≤ 511 := lus_55 _
theorem ppr_all {f : Int} {e : Int} (h0 : 0 ≤ e) (h1 : e < 512) : ∃ i : Nat, i < 512 ∧ ppr hshC f i = e.toNat := by
  have hb := hshC_b f
  refine ⟨((e - hshC f) % 512).toNat, by omega, ?_⟩
  unfold ppr
  omega
def tS (F : fl_N) (T : tb_T) : Prop := F 331 8 = (T.length : Int) ∧ hsz hshC (F 332) (F 338) T ∧ (∀ i, i < T.length → F 333 i = ca T i) ∧ cnz (F 338) 512 ≤ T.length
/-- the next price above p -/
def sdu (F : fl_N) (x p d : Int) : Prop := (d = 2147483647 ∧ ∀ s : Nat, (s : Int) < F 120 3 → F (126 + 5 * s) 2 ≤ p) ∨ ∃ s : Nat, (s : Int) < F 120 3 ∧ p < F (126 + 5 * s) 2 ∧ d = x + F (126 + 5 * s) 2 ∧ ∀ s' : Nat, (s' : Int) < F 120 3 → p < F (126 + 5 * s') 2 → F (126 + 5 * s) 2 ≤ F (126 + 5 * s') 2
theorem prc_b {F : fl_N} (hg : gi F) {s : Nat} (hs : s < 41) : 0 ≤ F (126 + 5 * s) 2 ∧ F (126 + 5 * s) 2 ≤ 999 := by
  obtain ⟨a, -, n, q⟩ := ra_122 s hs
  rw [← q]
  exact gi_g hg n.2.1.2.2.1
def sdp (g : Nat → Int) (k p h : Int) : Prop := (h = 2147483647 ∧ ∀ s : Nat, (s : Int) < k → g s ≤ p) ∨ ∃ s : Nat, (s : Int) < k ∧ p < g s ∧ h = g s ∧ ∀ s' : Nat, (s' : Int) < k → p < g s' → g s ≤ g s'
theorem sdp_0 {g : Nat → Int} {p : Int} : sdp g 0 p 2147483647 := Or.inl ⟨rfl, fun s hs => absurd hs (by omega)⟩
theorem sdp_n {g : Nat → Int} {k p h : Int} (hs : sdp g k p h) (hk : 0 ≤ k) (hx : g k.toNat ≤ p ∨ h ≤ g k.toNat) (hb : g k.toNat < 2147483647) : sdp g (k + 1) p h := by
  rcases hs with ⟨h1, h2⟩ | ⟨s, h1, h2, h3, h4⟩
  · refine Or.inl ⟨h1, fun s hs => ?_⟩
    by_cases e : (s : Int) < k
    · exact h2 s e
    · rw [show s = k.toNat by omega]
      omega
  · refine Or.inr ⟨s, by omega, h2, h3, fun s' hs' h5 => ?_⟩
    by_cases e : (s' : Int) < k
    · exact h4 s' e h5
    · rw [show s' = k.toNat by omega] at h5 ⊢
      omega
theorem sdp_y {g : Nat → Int} {k p h : Int} (hs : sdp g k p h) (hk : 0 ≤ k) (h1 : p < g k.toNat) (h2 : g k.toNat < h) : sdp g (k + 1) p (g k.toNat) := by
  refine Or.inr ⟨k.toNat, by omega, h1, rfl, fun s' hs' h5 => ?_⟩
  by_cases e : (s' : Int) < k
  · rcases hs with ⟨h6, h7⟩ | ⟨s, h6, h7, h8, h9⟩
    · have h10 := h7 s' e
      omega
    · have h10 := h9 s' e h5
      omega
  · rw [show s' = k.toNat by omega]
    exact Int.le_refl _
theorem sdu_of {F : fl_N} {x p h d : Int} (hg : gi F) (hn : F 120 3 ≤ 41) (hs : sdp (fun s => F (126 + 5 * s) 2) (F 120 3) p h) (hd : d = if h = 2147483647 then 2147483647 else x + h) : sdu F x p d := by
  rcases hs with ⟨h1, h2⟩ | ⟨s, h1, h2, h3, h4⟩
  · rw [if_pos h1] at hd
    exact Or.inl ⟨hd, h2⟩
  · have hb := prc_b hg (s := s) (by omega)
    have h3' : h = F (126 + 5 * s) 2 := h3
    rw [if_neg (by omega)] at hd
    exact Or.inr ⟨s, h1, h2, by rw [hd, h3'], h4⟩
theorem ca_last {T : tb_T} {f c : Int} : ca (T ++ [(f, c)]) T.length = c := by
  unfold ca
  rw [List.getD_eq_getElem?_getD, List.getElem?_append_right (Nat.le_refl _)]
  simp
theorem ts_add {F F' : fl_N} {T : tb_T} {st co : Int} {sl : Nat} (hT : tS F T) (hs : slz hshC (F 332) (F 338) st sl) (hno : has T st = false) (h8 : F' 331 8 = F 331 8 + 1) (hx : ∀ i, i < T.length → F' 332 i = F 332 i) (hx2 : F' 332 T.length = st) (h1 : F' 338 sl = (T.length : Int) + 1) (h2 : ∀ j, ¬ j = sl → F' 338 j = F 338 j) (hc : ∀ i, i < T.length → F' 333 i = F 333 i) (hc2 : F' 333 T.length = co) : tS F' (T ++ [(st, co)]) := by
  refine ⟨?_, hsz_add hT.2.1 hs hno hx hx2 h1 h2, fun i hi => ?_, ?_⟩
  · rw [h8, hT.1, List.length_append, List.length_singleton]
    omega
  · rw [List.length_append, List.length_singleton] at hi
    by_cases e : i < T.length
    · rw [hc i e, ca_app e]
      exact hT.2.2.1 i e
    · rw [show i = T.length by omega, hc2, ca_last]
  · rw [List.length_append, List.length_singleton]
    have h3 := cnz_u (g := F 338) (g' := F' 338) (k := sl) h2 512
    have h4 := hT.2.2.2
    omega
theorem ts_cg {F F' : fl_N} {T : tb_T} (hT : tS F T) (h8 : F' 331 8 = F 331 8) (h2 : ∀ j, F' 332 j = F 332 j) (h3 : ∀ j, F' 333 j = F 333 j) (h4 : ∀ j, F' 338 j = F 338 j) : tS F' T := by
  have e2 : F' 332 = F 332 := funext h2
  have e4 : F' 338 = F 338 := funext h4
  unfold tS
  rw [h8, e2, e4]
  exact ⟨hT.1, hT.2.1, fun i hi => (h3 i).trans (hT.2.2.1 i hi), hT.2.2.2⟩
theorem ts_free {F : fl_N} {T : tb_T} (hT : tS F T) (h : F 331 8 ≤ 200) : ∃ e : Int, 0 ≤ e ∧ e < 512 ∧ F 338 e.toNat = 0 := by
  obtain ⟨k, h1, h2⟩ := cnz_free (F 338) 512 (by have h3 := hT.2.2.2; have h4 := hT.1; omega)
  exact ⟨(k : Int), by omega, by omega, h2⟩
theorem sdu_cg {F F' : fl_N} {x p d : Int} (hn : F 120 3 ≤ 41) (h : sdu F' x p d) (c : ∀ r k, 120 ≤ r ∧ r ≤ 330 → F' r k = F r k) : sdu F x p d := by
  unfold sdu at h ⊢
  rw [c 120 3 (by decide)] at h
  rcases h with ⟨h1, h2⟩ | ⟨s, h1, h2, h3, h4⟩
  · exact Or.inl ⟨h1, fun s hs => by rw [← c (126 + 5 * s) 2 ⟨by omega, by omega⟩]; exact h2 s hs⟩
  · have e := c (126 + 5 * s) 2 ⟨by omega, by omega⟩
    rw [e] at h2 h3 h4
    exact Or.inr ⟨s, h1, h2, h3, fun s' hs' h5 => by
      have e2 := c (126 + 5 * s') 2 ⟨by omega, by omega⟩
      have h6 := h4 s' hs' (by rw [e2]; exact h5)
      rw [e2] at h6
      exact h6⟩
def hN (F : fl_N) (d : Nat) (x : Int) : Prop := F d 2 = 1 ∧ lan x (F d 0) = F d 0 ∧ lan x (F d 1) = 0
/-- what comeTo does -/
def cto (F F' : fl_N) (T T' : tb_T) (st : Int) : Prop := (gC F st ∧ T' = T ∧ F' 331 11 = 1 ∧ F' 331 10 = F 331 10) ∨ (¬ gC F st ∧ F' 331 11 = F 331 11 ∧ ((has T st = true ∧ T' = T ∧ F' 331 10 = F 331 10) ∨ (has T st = false ∧ (T.length : Int) < F 331 9 ∧ T' = T ++ [(st, F 331 12)] ∧ F' 331 10 = F 331 10 ∧ sdu F (F 331 12) 0 (F' 334 T.length)) ∨ (has T st = false ∧ ¬ (T.length : Int) < F 331 9 ∧ T' = T ∧ F' 331 10 = 1)))
/-- the least due of the first k states -/
def lsd (F : fl_N) (k le : Int) : Prop := (∀ i : Nat, (i : Int) < k → le ≤ F 334 i) ∧ (le = 2147483647 ∨ ∃ i : Nat, (i : Int) < k ∧ F 334 i = le)

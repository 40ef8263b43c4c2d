/-! WAYS: the steps that lead to a state -/
abbrev wy_T := List Int
def vat (V : List wy_T) (i : Nat) : wy_T := V.getD i []
/-- before in order, of two ways with as many steps -/
def lxl : wy_T → wy_T → Prop
  | a :: A, b :: B => a < b ∨ (a = b ∧ lxl A B)
  | _, _ => False
def btr (w v : wy_T) : Prop := w.length < v.length ∨ (w.length = v.length ∧ lxl w v)
noncomputable def bst (v w : wy_T) : wy_T := if dc (btr w v) = true then w else v
def ixo (T : tb_T) (f : Int) : Nat := T.findIdx (fun e => decide (e.1 = f))
noncomputable def vst (P : pp_T) (most : Nat) (c : Int) (old : Nat) (T : tb_T) (V : List wy_T) (q : Nat × Nat) : List wy_T := if (way P T c q && !dc (P.2.2.2.2 (nxs P T q))) = true then (if has T (nxs P T q) = true then (if old ≤ ixo T (nxs P T q) then V.set (ixo T (nxs P T q)) (bst (vat V (ixo T (nxs P T q))) (vat V q.1 ++ [(q.2 : Int)])) else V) else if T.length < most then V ++ [vat V q.1 ++ [(q.2 : Int)]] else V) else V
noncomputable def wsv (P : pp_T) (most : Nat) (c : Int) (old : Nat) (Z : (tb_T × Bool) × List wy_T) (q : Nat × Nat) : (tb_T × Bool) × List wy_T := (wst P most c Z.1 q, vst P most c old Z.1.1 Z.2 q)
noncomputable def lav (P : pp_T) (most : Nat) (c : Int) (T : tb_T) (V : List wy_T) : (tb_T × Bool) × List wy_T := (prs T.length P.1).foldl (wsv P most c T.length) ((T, false), V)
theorem fsv_1 {P : pp_T} {most : Nat} {c : Int} {old : Nat} : ∀ (L : List (Nat × Nat)) (Z : (tb_T × Bool) × List wy_T), (L.foldl (wsv P most c old) Z).1 = L.foldl (wst P most c) Z.1 := by
  intro L
  induction L with
  | nil => intro Z; rfl
  | cons q L ih => intro Z; rw [List.foldl_cons, List.foldl_cons, ih]; rfl
theorem lav_1 {P : pp_T} {most : Nat} {c : Int} {T : tb_T} {V : List wy_T} : (lav P most c T V).1 = lay P most c T := fsv_1 _ _
noncomputable def gst (P : pp_T) (c : Int) (T : tb_T) (V : List wy_T) (g : Option wy_T) (q : Nat × Nat) : Option wy_T := if (way P T c q && dc (P.2.2.2.2 (nxs P T q))) = true then some (match g with | none => vat V q.1 ++ [(q.2 : Int)] | some v => bst v (vat V q.1 ++ [(q.2 : Int)])) else g
noncomputable def gov (P : pp_T) (c : Int) (T : tb_T) (V : List wy_T) : Option wy_T := (prs T.length P.1).foldl (gst P c T V) none
/-- what comes of a table: the number of the throw, the answer, the way -/
def rsv (P : pp_T) (most : Nat) : Nat → tb_T → List wy_T → Int → Int → wy_T → Prop
  | 0, _, _, _, _, _ => False
  | k + 1, T, V, o, v, w => ((∀ c, ¬ nw P T c) ∧ o = 0 ∧ v = -1 ∧ w = []) ∨ ∃ c, nxt P T c ∧ ((gol P c T = true ∧ o = 0 ∧ v = c ∧ gov P c T V = some w) ∨ (gol P c T = false ∧ (lay P most c T).2 = true ∧ o = 3 ∧ v = 0 ∧ w = []) ∨ (gol P c T = false ∧ (lay P most c T).2 = false ∧ rsv P most k (lay P most c T).1 (lav P most c T V).2 o v w))
theorem rsv_u {P : pp_T} {most : Nat} : ∀ (k k' : Nat) (T : tb_T) (V : List wy_T) (o v o' v' : Int) (w w' : wy_T), rsv P most k T V o v w → rsv P most k' T V o' v' w' → o = o' ∧ v = v' ∧ w = w' := by
  intro k
  induction k with
  | zero => intro k' T V o v o' v' w w' h _; exact absurd h id
  | succ k ih =>
    intro k' T V o v o' v' w w' h h'
    cases k' with
    | zero => exact absurd h' id
    | succ k' =>
      unfold rsv at h h'
      rcases h with ⟨a1, a2, a3, a4⟩ | ⟨c, a1, a2⟩
      · rcases h' with ⟨b1, b2, b3, b4⟩ | ⟨c', b1, b2⟩
        · exact ⟨a2.trans b2.symm, a3.trans b3.symm, a4.trans b4.symm⟩
        · exact absurd b1.1 (a1 c')
      · rcases h' with ⟨b1, b2, b3, b4⟩ | ⟨c', b1, b2⟩
        · exact absurd a1.1 (b1 c)
        · have e := nxt_u a1 b1
          subst e
          rcases a2 with ⟨a2, a3, a4, a5⟩ | ⟨a2, a3, a4, a5, a6⟩ | ⟨a2, a3, a4⟩
          · rcases b2 with ⟨b2, b3, b4, b5⟩ | ⟨b2, -⟩ | ⟨b2, -⟩
            · refine ⟨a3.trans b3.symm, a4.trans b4.symm, ?_⟩
              rw [a5] at b5
              exact Option.some.inj b5
            · rw [a2] at b2
              cases b2
            · rw [a2] at b2
              cases b2
          · rcases b2 with ⟨b2, -⟩ | ⟨b2, b3, b4, b5, b6⟩ | ⟨b2, b3, -⟩
            · rw [a2] at b2
              cases b2
            · exact ⟨a4.trans b4.symm, a5.trans b5.symm, a6.trans b6.symm⟩
            · rw [a3] at b3
              cases b3
          · rcases b2 with ⟨b2, -⟩ | ⟨b2, b3, -⟩ | ⟨b2, b3, b4⟩
            · rw [a2] at b2
              cases b2
            · rw [a3] at b3
              cases b3
            · exact ih k' _ _ o v o' v' w w' a4 b4
/-- no state twice -/
def dst (T : tb_T) : Prop := ∀ i j, i < T.length → j < T.length → xa T i = xa T j → i = j
theorem has_at {T : tb_T} {f : Int} (h : has T f = true) : ixo T f < T.length ∧ xa T (ixo T f) = f := by
  have h1 : ixo T f < T.length := by
    unfold ixo
    rw [List.findIdx_lt_length]
    obtain ⟨e, he, h2⟩ := has_iff.mp h
    exact ⟨e, he, decide_eq_true h2⟩
  refine ⟨h1, ?_⟩
  have h2 := List.findIdx_getElem (p := fun e : Int × Int => decide (e.1 = f)) (w := h1)
  unfold xa
  rw [List.getD_eq_getElem?_getD, List.getElem?_eq_getElem h1]
  exact of_decide_eq_true h2
theorem ixo_at {T : tb_T} (hd : dst T) {i : Nat} {f : Int} (hi : i < T.length) (h : xa T i = f) : ixo T f = i ∧ has T f = true := by
  have h1 : has T f = true := has_iff.mpr ⟨T[i], List.getElem_mem hi, by
    rw [← h]
    unfold xa
    rw [List.getD_eq_getElem?_getD, List.getElem?_eq_getElem hi]
    rfl⟩
  obtain ⟨h2, h3⟩ := has_at h1
  exact ⟨hd _ _ h2 hi (h3.trans h.symm), h1⟩
theorem xa_last {T : tb_T} {f c : Int} : xa (T ++ [(f, c)]) T.length = f := by
  unfold xa
  rw [List.getD_eq_getElem?_getD, List.getElem?_append_right (Nat.le_refl _)]
  simp
theorem xa_has {T : tb_T} {i : Nat} (hi : i < T.length) : has T (xa T i) = true := has_iff.mpr ⟨T[i], List.getElem_mem hi, by
  unfold xa
  rw [List.getD_eq_getElem?_getD, List.getElem?_eq_getElem hi]
  rfl⟩
theorem dst_add {T : tb_T} {f c : Int} (hd : dst T) (h : has T f = false) : dst (T ++ [(f, c)]) := by
  intro i j hi hj e
  rw [List.length_append, List.length_singleton] at hi hj
  by_cases e1 : i < T.length
  · rw [xa_app e1] at e
    by_cases e2 : j < T.length
    · rw [xa_app e2] at e
      exact hd i j e1 e2 e
    · rw [show j = T.length by omega, xa_last] at e
      rw [← e, xa_has e1] at h
      cases h
  · rw [show i = T.length by omega, xa_last] at e
    by_cases e2 : j < T.length
    · rw [xa_app e2] at e
      rw [e, xa_has e2] at h
      cases h
    · omega
theorem wst_dst {P : pp_T} {most : Nat} {c : Int} {W : tb_T × Bool} {q : Nat × Nat} (hd : dst W.1) : dst (wst P most c W q).1 := by
  unfold wst
  split
  · rename_i h
    split
    · refine dst_add hd ?_
      rw [Bool.and_eq_true, Bool.not_eq_true'] at h
      exact h.2
    · exact hd
  · exact hd
theorem fold_dst {P : pp_T} {most : Nat} {c : Int} : ∀ (L : List (Nat × Nat)) (W : tb_T × Bool), dst W.1 → dst (L.foldl (wst P most c) W).1 := by
  intro L
  induction L with
  | nil => intro W h; exact h
  | cons q L ih => intro W h; rw [List.foldl_cons]; exact ih _ (wst_dst h)
theorem dst_1 {f c : Int} : dst [(f, c)] := by
  intro i j hi hj _
  rw [List.length_singleton] at hi hj
  omega
theorem fold_id {α β : Type} {f : β → α → β} {z : β} : ∀ L : List α, (∀ q ∈ L, f z q = z) → L.foldl f z = z := by
  intro L
  induction L with
  | nil => intro _; rfl
  | cons q L ih =>
    intro h
    rw [List.foldl_cons, h q List.mem_cons_self]
    exact ih (fun r hr => h r (List.mem_cons_of_mem _ hr))
theorem lav_no {P : pp_T} {most : Nat} {T : tb_T} {V : List wy_T} {c : Int} (hn : ¬ nw P T c) : (lav P most c T V).2 = V := by
  have h : lav P most c T V = ((T, false), V) := by
    refine fold_id _ (fun q hq => ?_)
    have hh : way P T c q = true → has T (nxs P T q) = true := fun h1 => by
      obtain ⟨h2, h3⟩ := way_t.mp h1
      cases h5 : has T (nxs P T q) with
      | true => rfl
      | false => exact absurd ⟨q, prs_mem.mp hq, h2, h3, h5⟩ hn
    have e1 : wst P most c (T, false) q = (T, false) := by
      unfold wst
      rw [if_neg]
      intro h1
      rw [Bool.and_eq_true, Bool.and_eq_true] at h1
      have h2 := hh h1.1.1
      have h3 : (!has T (nxs P T q)) = true := h1.2
      rw [h2] at h3
      cases h3
    have e2 : vst P most c T.length T V q = V := by
      unfold vst
      split
      · rename_i h1
        rw [Bool.and_eq_true] at h1
        have h2 := hh h1.1
        rw [if_pos h2, if_neg]
        have h3 := (has_at h2).1
        omega
      · rfl
    show (wst P most c (T, false) q, vst P most c T.length T V q) = ((T, false), V)
    rw [e1, e2]
  rw [h]
/-- what comes of T, V comes of T0, V0 -/
def cmv (P : pp_T) (most : Nat) (T0 : tb_T) (V0 : List wy_T) (T : tb_T) (V : List wy_T) : Prop := ∀ k o v w, rsv P most k T V o v w → ∃ k', rsv P most k' T0 V0 o v w
theorem cmv_r {P : pp_T} {most : Nat} {T : tb_T} {V : List wy_T} : cmv P most T V T V := fun k o v w h => ⟨k, h⟩
theorem cmv_lay {P : pp_T} {most : Nat} {T0 T : tb_T} {V0 V : List wy_T} {cp c : Int} (h0 : cmv P most T0 V0 T V) (h : clsd P T cp) (hl : lc P T cp c) (hg : gol P c T = false) (hc : (lay P most c T).2 = false) : cmv P most T0 V0 (lay P most c T).1 (lav P most c T V).2 := by
  by_cases hn : nw P T c
  · intro k o v w hr
    refine h0 (k + 1) o v w ?_
    unfold rsv
    exact Or.inr ⟨c, nxt_of h hl hn, Or.inr (Or.inr ⟨hg, hc, hr⟩)⟩
  · rw [lay_no hn, lav_no hn]
    exact h0
theorem cmv_gol {P : pp_T} {most : Nat} {T0 T : tb_T} {V0 V : List wy_T} {cp c : Int} {w : wy_T} (h0 : cmv P most T0 V0 T V) (h : clsd P T cp) (hl : lc P T cp c) (hg : gol P c T = true) (hw : gov P c T V = some w) : ∃ k, rsv P most k T0 V0 0 c w := by
  refine h0 1 0 c w ?_
  unfold rsv
  exact Or.inr ⟨c, nxt_of h hl (gol_nw h hg), Or.inl ⟨hg, rfl, rfl, hw⟩⟩
/-! the order of ways -/
theorem lxl_app {a b : Int} : ∀ A B : wy_T, A.length = B.length → (lxl (A ++ [a]) (B ++ [b]) ↔ lxl A B ∨ (A = B ∧ a < b)) := by
  intro A
  induction A with
  | nil =>
    intro B h
    cases B with
    | nil => simp [lxl]
    | cons y B => simp at h
  | cons x A ih =>
    intro B h
    cases B with
    | nil => simp at h
    | cons y B =>
      have h1 : A.length = B.length := by simpa using h
      have h2 := ih B h1
      show (x < y ∨ (x = y ∧ lxl (A ++ [a]) (B ++ [b]))) ↔ ((x < y ∨ (x = y ∧ lxl A B)) ∨ (x :: A = y :: B ∧ a < b))
      rw [h2]
      constructor
      · rintro (h3 | ⟨h3, h4 | ⟨h4, h5⟩⟩)
        · exact Or.inl (Or.inl h3)
        · exact Or.inl (Or.inr ⟨h3, h4⟩)
        · exact Or.inr ⟨by rw [h3, h4], h5⟩
      · rintro ((h3 | ⟨h3, h4⟩) | ⟨h3, h4⟩)
        · exact Or.inl h3
        · exact Or.inr ⟨h3, Or.inl h4⟩
        · obtain ⟨h5, h6⟩ := List.cons.inj h3
          exact Or.inr ⟨h5, Or.inr ⟨h6, h4⟩⟩
theorem lxl_irr : ∀ A : wy_T, ¬ lxl A A := by
  intro A
  induction A with
  | nil => exact id
  | cons x A ih =>
    rintro (h | ⟨-, h⟩)
    · omega
    · exact ih h
theorem lxl_pre : ∀ (C X Y : wy_T), lxl (C ++ X) (C ++ Y) ↔ lxl X Y := by
  intro C
  induction C with
  | nil => intro X Y; exact Iff.rfl
  | cons c C ih =>
    intro X Y
    show (c < c ∨ (c = c ∧ lxl (C ++ X) (C ++ Y))) ↔ _
    rw [ih X Y]
    constructor
    · rintro (h | ⟨-, h⟩)
      · omega
      · exact h
    · exact fun h => Or.inr ⟨rfl, h⟩
theorem lxl_as : ∀ X Y : wy_T, lxl X Y → ¬ lxl Y X := by
  intro X
  induction X with
  | nil => intro Y h; exact absurd h id
  | cons x X ih =>
    intro Y
    cases Y with
    | nil => intro h; exact absurd h id
    | cons y Y =>
      rintro (h | ⟨h, h1⟩)
      · rintro (h2 | ⟨h2, -⟩)
        · omega
        · omega
      · rintro (h2 | ⟨-, h2⟩)
        · omega
        · exact ih Y h1 h2
/-- from back to front: d tells which of two ways is before the other -/
def cmpd (d : Int) (X Y : wy_T) : Prop := X.length = Y.length ∧ ((d < 0 ∧ lxl X Y) ∨ (d = 0 ∧ X = Y) ∨ (0 < d ∧ lxl Y X))
theorem cmpd_1 {a b : Int} : cmpd (a - b) [a] [b] := by
  refine ⟨rfl, ?_⟩
  rcases Int.lt_trichotomy a b with h | h | h
  · exact Or.inl ⟨by omega, Or.inl h⟩
  · exact Or.inr (Or.inl ⟨by omega, by rw [h]⟩)
  · exact Or.inr (Or.inr ⟨by omega, Or.inl h⟩)
theorem cmpd_e {d a b : Int} {X Y : wy_T} (h : cmpd d X Y) (e : a = b) : cmpd d (a :: X) (b :: Y) := by
  subst e
  refine ⟨by rw [List.length_cons, List.length_cons, h.1], ?_⟩
  rcases h.2 with ⟨h1, h2⟩ | ⟨h1, h2⟩ | ⟨h1, h2⟩
  · exact Or.inl ⟨h1, Or.inr ⟨rfl, h2⟩⟩
  · exact Or.inr (Or.inl ⟨h1, by rw [h2]⟩)
  · exact Or.inr (Or.inr ⟨h1, Or.inr ⟨rfl, h2⟩⟩)
theorem cmpd_n {d a b : Int} {X Y : wy_T} (h : cmpd d X Y) (e : ¬ a = b) : cmpd (a - b) (a :: X) (b :: Y) := by
  refine ⟨by rw [List.length_cons, List.length_cons, h.1], ?_⟩
  rcases Int.lt_trichotomy a b with h1 | h1 | h1
  · exact Or.inl ⟨by omega, Or.inl h1⟩
  · exact absurd h1 e
  · exact Or.inr (Or.inr ⟨by omega, Or.inl h1⟩)
theorem cmpd_lx {d : Int} {X Y C : wy_T} (h : cmpd d X Y) : d < 0 ↔ lxl (C ++ X) (C ++ Y) := by
  rw [lxl_pre]
  rcases h.2 with ⟨h1, h2⟩ | ⟨h1, h2⟩ | ⟨h1, h2⟩
  · exact ⟨fun _ => h2, fun _ => h1⟩
  · refine ⟨fun h3 => absurd h3 (by omega), fun h3 => ?_⟩
    rw [h2] at h3
    exact absurd h3 (lxl_irr Y)
  · exact ⟨fun h3 => absurd h3 (by omega), fun h3 => absurd h3 (lxl_as Y X h2)⟩
/-! ways on a heap: lengths, parents, last steps -/
theorem vat_app {V N : List wy_T} {i : Nat} (h : i < V.length) : vat (V ++ N) i = vat V i := by
  unfold vat
  rw [List.getD_eq_getElem?_getD, List.getD_eq_getElem?_getD, List.getElem?_append_left h]
theorem vat_last {V : List wy_T} {w : wy_T} : vat (V ++ [w]) V.length = w := by
  unfold vat
  rw [List.getD_eq_getElem?_getD, List.getElem?_append_right (Nat.le_refl _)]
  simp
theorem vat_se {V : List wy_T} {w : wy_T} {k : Nat} (h : k < V.length) : vat (V.set k w) k = w := by
  unfold vat
  rw [List.getD_eq_getElem?_getD, List.getElem?_set_self h]
  rfl
theorem vat_sn {V : List wy_T} {w : wy_T} {k i : Nat} (h : ¬ i = k) : vat (V.set k w) i = vat V i := by
  unfold vat
  rw [List.getD_eq_getElem?_getD, List.getD_eq_getElem?_getD, List.getElem?_set_ne (fun e => h e.symm)]
def chn (ln pr ls : Nat → Int) (V : List wy_T) (b : Int) : Prop := vat V 0 = [] ∧ ∀ i, i < V.length → ln i = ((vat V i).length : Int) ∧ (0 < i → (0 ≤ pr i ∧ pr i < (i : Int) ∧ pr i < b) ∧ vat V i = vat V (pr i).toNat ++ [ls i])
theorem chn_cg {ln pr ls ln' pr' ls' : Nat → Int} {V : List wy_T} {b : Int} (h : chn ln pr ls V b) (h1 : ∀ i, i < V.length → ln' i = ln i) (h2 : ∀ i, i < V.length → pr' i = pr i) (h3 : ∀ i, i < V.length → ls' i = ls i) : chn ln' pr' ls' V b := by
  refine ⟨h.1, fun i hi => ?_⟩
  rw [h1 i hi, h2 i hi, h3 i hi]
  exact h.2 i hi
theorem chn_up {ln pr ls : Nat → Int} {V : List wy_T} {b b' : Int} (h : chn ln pr ls V b) (hb : b ≤ b') : chn ln pr ls V b' := by
  refine ⟨h.1, fun i hi => ⟨(h.2 i hi).1, fun h0 => ?_⟩⟩
  obtain ⟨⟨h1, h2, h3⟩, h4⟩ := (h.2 i hi).2 h0
  exact ⟨⟨h1, h2, by omega⟩, h4⟩
theorem chn_0 {ln pr ls : Nat → Int} {b : Int} (h : ln 0 = 0) : chn ln pr ls [[]] b := by
  refine ⟨rfl, fun i hi => ?_⟩
  rw [List.length_singleton] at hi
  rw [show i = 0 by omega]
  exact ⟨h, fun h0 => absurd h0 (by omega)⟩
/-- a new entry, or an entry of this layer anew -/
theorem chn_add {ln pr ls ln' pr' ls' : Nat → Int} {V : List wy_T} {b : Int} {f : Nat} {s : Int} (h : chn ln pr ls V b) (hV : 0 < V.length) (hf : f < V.length) (hb : (f : Int) < b) (h1 : ∀ i, i < V.length → ln' i = ln i) (h2 : ∀ i, i < V.length → pr' i = pr i) (h3 : ∀ i, i < V.length → ls' i = ls i) (e1 : ln' V.length = ln f + 1) (e2 : pr' V.length = (f : Int)) (e3 : ls' V.length = s) : chn ln' pr' ls' (V ++ [vat V f ++ [s]]) b := by
  refine ⟨by rw [vat_app hV]; exact h.1, fun i hi => ?_⟩
  rw [List.length_append, List.length_singleton] at hi
  by_cases e : i < V.length
  · rw [vat_app e, h1 i e, h2 i e, h3 i e]
    refine ⟨(h.2 i e).1, fun h0 => ?_⟩
    obtain ⟨q1, q2⟩ := (h.2 i e).2 h0
    refine ⟨q1, ?_⟩
    rw [vat_app (by omega)]
    exact q2
  · have ei : i = V.length := by omega
    subst ei
    rw [vat_last, e1, e2, e3]
    refine ⟨?_, fun _ => ⟨⟨by omega, by omega, hb⟩, ?_⟩⟩
    · rw [(h.2 f hf).1, List.length_append, List.length_singleton]
      omega
    · rw [show ((f : Int)).toNat = f by omega, vat_app hf]
theorem chn_set {ln pr ls ln' pr' ls' : Nat → Int} {V : List wy_T} {b : Int} {f k : Nat} {s : Int} (h : chn ln pr ls V b) (hk : k < V.length) (hkb : b ≤ (k : Int)) (hb : (f : Int) < b) (h1 : ∀ i, i < V.length → ¬ i = k → ln' i = ln i) (h2 : ∀ i, i < V.length → ¬ i = k → pr' i = pr i) (h3 : ∀ i, i < V.length → ¬ i = k → ls' i = ls i) (e1 : ln' k = ln f + 1) (e2 : pr' k = (f : Int)) (e3 : ls' k = s) : chn ln' pr' ls' (V.set k (vat V f ++ [s])) b := by
  refine ⟨by rw [vat_sn (by omega)]; exact h.1, fun i hi => ?_⟩
  rw [List.length_set] at hi
  by_cases e : i = k
  · subst e
    rw [vat_se hi, e1, e2, e3]
    refine ⟨?_, fun _ => ⟨⟨by omega, by omega, hb⟩, ?_⟩⟩
    · rw [(h.2 f (by omega)).1, List.length_append, List.length_singleton]
      omega
    · rw [show ((f : Int)).toNat = f by omega, vat_sn (by omega)]
  · rw [vat_sn e, h1 i hi e, h2 i hi e, h3 i hi e]
    refine ⟨(h.2 i hi).1, fun h0 => ?_⟩
    obtain ⟨q1, q2⟩ := (h.2 i hi).2 h0
    refine ⟨q1, ?_⟩
    rw [vat_sn (by omega)]
    exact q2

/-! isBefore of the class -/
theorem chn_le {ln pr ls : Nat → Int} {V : List wy_T} {b : Int} (h : chn ln pr ls V b) : ∀ i, i < V.length → (vat V i).length ≤ i := by
  intro i
  induction i using Nat.strongRecOn with
  | _ i ih =>
    intro hi
    by_cases h0 : 0 < i
    · obtain ⟨⟨h1, h2, -⟩, h3⟩ := (h.2 i hi).2 h0
      have h4 := ih (pr i).toNat (by omega) (by omega)
      rw [h3, List.length_append, List.length_singleton]
      omega
    · have e : i = 0 := by omega
      subst e
      rw [h.1]
      exact Nat.le_refl _
theorem chn_pos {ln pr ls : Nat → Int} {V : List wy_T} {b : Int} (h : chn ln pr ls V b) {i : Nat} (hi : i < V.length) (hl : (vat V i).length = 0) : i = 0 := by
  by_cases h0 : 0 < i
  · rw [((h.2 i hi).2 h0).2, List.length_append, List.length_singleton] at hl
    omega
  · omega
def ibS (V : List wy_T) (fm p : Nat) (nb l k on ot df : Int) : Prop := ∃ A B : wy_T, vat V fm = vat V on.toNat ++ A ∧ vat V p = vat V ot.toNat ++ B ∧ (A.length : Int) = k ∧ cmpd df (A ++ [nb]) (B ++ [l]) ∧ (on.toNat < V.length ∧ ot.toNat < V.length) ∧ (vat V on.toNat).length = (vat V ot.toNat).length
theorem ib_0 {V : List wy_T} {fm p : Int} {nb l : Int} (hf : fm.toNat < V.length) (hp : p.toNat < V.length) (hl : (vat V fm.toNat).length = (vat V p.toNat).length) : ibS V fm.toNat p.toNat nb l 0 fm p (nb - l) := ⟨[], [], by simp, by simp, rfl, cmpd_1, ⟨hf, hp⟩, hl⟩
theorem ib_s {ln pr ls : Nat → Int} {V : List wy_T} {b : Int} {fm p : Nat} {nb l k on ot df df' : Int} (hc : chn ln pr ls V b) (h : ibS V fm p nb l k on ot df) (hne : ¬ on = ot) (h0 : 0 ≤ on ∧ 0 ≤ ot) (hd : (ls on.toNat = ls ot.toNat ∧ df' = df) ∨ (¬ ls on.toNat = ls ot.toNat ∧ df' = ls on.toNat - ls ot.toNat)) : ibS V fm p nb l (k + 1) (pr on.toNat) (pr ot.toNat) df' := by
  obtain ⟨A, B, a1, a2, a3, a4, ⟨a5, a6⟩, a7⟩ := h
  have hp1 : 0 < on.toNat := by
    by_cases e : 0 < on.toNat
    · exact e
    · exfalso
      have e1 : on.toNat = 0 := by omega
      rw [e1, hc.1] at a7
      have e2 := chn_pos hc a6 a7.symm
      omega
  have hp2 : 0 < ot.toNat := by
    by_cases e : 0 < ot.toNat
    · exact e
    · exfalso
      have e1 : ot.toNat = 0 := by omega
      rw [e1, hc.1] at a7
      have e2 := chn_pos hc a5 a7
      omega
  obtain ⟨⟨b1, b2, -⟩, b3⟩ := (hc.2 _ a5).2 hp1
  obtain ⟨⟨c1, c2, -⟩, c3⟩ := (hc.2 _ a6).2 hp2
  rw [b3, c3, List.length_append, List.length_append, List.length_singleton, List.length_singleton] at a7
  refine ⟨ls on.toNat :: A, ls ot.toNat :: B, a1.trans (by rw [b3]; exact List.append_assoc _ _ _), a2.trans (by rw [c3]; exact List.append_assoc _ _ _), by rw [List.length_cons]; omega, ?_, ⟨by omega, by omega⟩, by omega⟩
  rcases hd with ⟨d1, d2⟩ | ⟨d1, d2⟩
  · rw [d2]
    exact cmpd_e a4 d1
  · rw [d2]
    exact cmpd_n a4 d1
theorem ib_e {V : List wy_T} {fm p : Nat} {nb l k on ot df : Int} (h : ibS V fm p nb l k on ot df) (e : on = ot) : df < 0 ↔ lxl (vat V fm ++ [nb]) (vat V p ++ [l]) := by
  obtain ⟨A, B, a1, a2, a3, a4, -, -⟩ := h
  subst e
  rw [a1, a2, List.append_assoc, List.append_assoc]
  exact cmpd_lx a4
theorem ib_k {ln pr ls : Nat → Int} {V : List wy_T} {b : Int} {fm p : Nat} {nb l k on ot df : Int} (h : ibS V fm p nb l k on ot df) (hc : chn ln pr ls V b) (hf : fm < V.length) (h2 : V.length ≤ 200) : k ≤ 199 := by
  obtain ⟨A, B, a1, a2, a3, a4, -, -⟩ := h
  have h3 := chn_le hc fm hf
  rw [a1, List.length_append] at h3
  omega
/-- what offer takes -/
def ofr (F : fl_N) (V : List wy_T) (w fm : Nat) (nb : Int) : Prop := F 335 fm + 1 < F 335 w ∨ (F 335 fm + 1 = F 335 w ∧ lxl (vat V fm ++ [nb]) (vat V (F 336 w).toNat ++ [F 337 w]))
def ofE (F F' : fl_N) (V : List wy_T) (w fm : Nat) (nb : Int) : Prop := (ofr F V w fm nb ∧ F' 335 w = F 335 fm + 1 ∧ F' 336 w = (fm : Int) ∧ F' 337 w = nb) ∨ (¬ ofr F V w fm nb ∧ F' 335 w = F 335 w ∧ F' 336 w = F 336 w ∧ F' 337 w = F 337 w)
/-- an entry that has a way, or none yet -/
def hwy (F : fl_N) (V : List wy_T) (w : Nat) : Prop := F 335 w ≤ 200 → (0 ≤ F 336 w ∧ (F 336 w).toNat < V.length) ∧ F 335 w = ((vat V (F 336 w).toNat).length : Int) + 1

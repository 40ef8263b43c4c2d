/-! walk and isBefore of the reference -/
def wyR (F : fl_N) (V : List wy_T) (k : Nat) (C : wy_T) : Prop := (k < V.length ∧ C = vat V k) ∨ ((0 ≤ F 376 k ∧ (F 376 k).toNat < V.length) ∧ C = vat V (F 376 k).toNat ++ [F 377 k])
def wkS (F : fl_N) (g : Nat → Int) (V : List wy_T) (W : wy_T) (k d : Int) : Prop := ∃ C A : wy_T, W = C ++ A ∧ (C.length : Int) = d + 1 ∧ (0 ≤ d → wyR F V k.toNat C) ∧ ∀ j : Nat, d < (j : Int) → j < W.length → g j = W.getD j 0
theorem wk_0 {F : fl_N} {g : Nat → Int} {V : List wy_T} {W : wy_T} {w d : Int} (h : wyR F V w.toNat W) (hd : d + 1 = (W.length : Int)) : wkS F g V W w d := ⟨W, [], by simp, by omega, fun _ => h, fun j h1 h2 => absurd h2 (by omega)⟩
theorem wk_s {F : fl_N} {g g' : Nat → Int} {V : List wy_T} {b : Int} {W : wy_T} {k d : Int} (hc : chn (F 375) (F 376) (F 377) V b) (h : wkS F g V W k d) (hd : 0 ≤ d) (hg : ∀ j : Nat, ¬ j = d.toNat → g' j = g j) (hgd : g' d.toNat = F 377 k.toNat) : wkS F g' V W (F 376 k.toNat) (d - 1) := by
  obtain ⟨C, A, a1, a2, a3, a4⟩ := h
  have h1 : ∃ C', C = C' ++ [F 377 k.toNat] ∧ wyR F V (F 376 k.toNat).toNat C' := by
    rcases a3 hd with ⟨b1, b2⟩ | ⟨b1, b2⟩
    · have h0 : 0 < k.toNat := by
        by_cases e : 0 < k.toNat
        · exact e
        · exfalso
          have e1 : k.toNat = 0 := by omega
          rw [e1, hc.1] at b2
          rw [b2] at a2
          have e2 : (([] : wy_T).length : Int) = 0 := rfl
          omega
      obtain ⟨⟨c1, c2, -⟩, c3⟩ := (hc.2 _ b1).2 h0
      exact ⟨_, b2.trans c3, Or.inl ⟨by omega, rfl⟩⟩
    · exact ⟨_, b2, Or.inl ⟨b1.2, rfl⟩⟩
  obtain ⟨C', c1, c2⟩ := h1
  have hl : (C'.length : Int) = d := by
    rw [c1, List.length_append, List.length_singleton] at a2
    omega
  refine ⟨C', F 377 k.toNat :: A, by rw [a1, c1]; exact List.append_assoc _ _ _, by omega, fun _ => c2, fun j h1 h2 => ?_⟩
  by_cases e : j = d.toNat
  · rw [e, hgd, a1, c1, List.getD_eq_getElem?_getD, List.append_assoc, List.getElem?_append_right (by omega), show d.toNat - C'.length = 0 by omega]
    rfl
  · rw [hg j e]
    exact a4 j (by omega) h2
theorem wk_e {F : fl_N} {g : Nat → Int} {V : List wy_T} {W : wy_T} {k d : Int} (h : wkS F g V W k d) (hd : d < 0) : ∀ j : Nat, j < W.length → g j = W.getD j 0 := by
  obtain ⟨C, A, a1, a2, a3, a4⟩ := h
  exact fun j hj => a4 j (by omega) hj
theorem lx_k {a b : Int} : ∀ (k : Nat) (X Y : wy_T), X.length = Y.length → (∀ j, j < k → X.getD j 0 = Y.getD j 0) → k < X.length → ¬ X.getD k 0 = Y.getD k 0 → (lxl (X ++ [a]) (Y ++ [b]) ↔ X.getD k 0 < Y.getD k 0) := by
  intro k
  induction k with
  | zero =>
    intro X Y hl _ hk hne
    cases X with
    | nil => simp at hk
    | cons x X =>
      cases Y with
      | nil => simp at hl
      | cons y Y =>
        have hne' : ¬ x = y := hne
        show (x < y ∨ (x = y ∧ lxl (X ++ [a]) (Y ++ [b]))) ↔ x < y
        exact ⟨fun h => h.elim id (fun h => absurd h.1 hne'), Or.inl⟩
  | succ k ih =>
    intro X Y hl hj hk hne
    cases X with
    | nil => simp at hk
    | cons x X =>
      cases Y with
      | nil => simp at hl
      | cons y Y =>
        have e : x = y := hj 0 (by omega)
        have h := ih X Y (by simpa using hl) (fun j h1 => hj (j + 1) (by omega)) (by simpa using hk) hne
        show (x < y ∨ (x = y ∧ lxl (X ++ [a]) (Y ++ [b]))) ↔ X.getD k 0 < Y.getD k 0
        rw [h]
        exact ⟨fun h => h.elim (fun h => absurd h (by omega)) (fun h => h.2), fun h => Or.inr ⟨e, h⟩⟩
theorem lx_all : ∀ (X Y : wy_T), X.length = Y.length → (∀ j, j < X.length → X.getD j 0 = Y.getD j 0) → X = Y := by
  intro X
  induction X with
  | nil =>
    intro Y hl _
    cases Y with
    | nil => rfl
    | cons y Y => simp at hl
  | cons x X ih =>
    intro Y hl hj
    cases Y with
    | nil => simp at hl
    | cons y Y =>
      have e : x = y := hj 0 (by simp)
      have h := ih Y (by simpa using hl) (fun j h1 => hj (j + 1) (by simpa using h1))
      rw [e, h]
theorem bt_ne {X Y : wy_T} (h : ¬ X.length = Y.length) : X.length < Y.length ↔ btr X Y := ⟨Or.inl, fun h1 => h1.elim id (fun h1 => absurd h1.1 h)⟩
theorem bt_eq {X Y : wy_T} (h : X.length = Y.length) : btr X Y ↔ lxl X Y := ⟨fun h1 => h1.elim (fun h1 => absurd h1 (by omega)) (fun h1 => h1.2), fun h1 => Or.inr ⟨h, h1⟩⟩
theorem lx_1 {C : wy_T} {a b : Int} : lxl (C ++ [a]) (C ++ [b]) ↔ a < b := by
  rw [lxl_pre]
  exact ⟨fun h => h.elim id (fun h => absurd h.2 id), Or.inl⟩
/-! traceSteps of the class -/
def wyC (F : fl_N) (V : List wy_T) (k : Nat) (C : wy_T) : Prop := (k < V.length ∧ C = vat V k) ∨ ((0 ≤ F 336 k ∧ (F 336 k).toNat < V.length) ∧ C = vat V (F 336 k).toNat ++ [F 337 k])
def wkC (F : fl_N) (g : Nat → Int) (V : List wy_T) (W : wy_T) (k d : Int) : Prop := ∃ C A : wy_T, W = C ++ A ∧ (C.length : Int) = d + 1 ∧ (0 ≤ d → wyC F V k.toNat C) ∧ ∀ j : Nat, d < (j : Int) → j < W.length → g j = W.getD j 0
theorem wc_0 {F : fl_N} {g : Nat → Int} {V : List wy_T} {W : wy_T} {w d : Int} (h : wyC F V w.toNat W) (hd : d + 1 = (W.length : Int)) : wkC F g V W w d := ⟨W, [], by simp, by omega, fun _ => h, fun j h1 h2 => absurd h2 (by omega)⟩
theorem wc_s {F : fl_N} {g g' : Nat → Int} {V : List wy_T} {b : Int} {W : wy_T} {k d : Int} (hc : chn (F 335) (F 336) (F 337) V b) (h : wkC F g V W k d) (hd : 0 ≤ d) (hg : ∀ j : Nat, ¬ j = d.toNat → g' j = g j) (hgd : g' d.toNat = F 337 k.toNat) : wkC F g' V W (F 336 k.toNat) (d - 1) := by
  obtain ⟨C, A, a1, a2, a3, a4⟩ := h
  have h1 : ∃ C', C = C' ++ [F 337 k.toNat] ∧ wyC F V (F 336 k.toNat).toNat C' := by
    rcases a3 hd with ⟨b1, b2⟩ | ⟨b1, b2⟩
    · have h0 : 0 < k.toNat := by
        by_cases e : 0 < k.toNat
        · exact e
        · exfalso
          have e1 : k.toNat = 0 := by omega
          rw [e1, hc.1] at b2
          rw [b2] at a2
          have e2 : (([] : wy_T).length : Int) = 0 := rfl
          omega
      obtain ⟨⟨c1, c2, -⟩, c3⟩ := (hc.2 _ b1).2 h0
      exact ⟨_, b2.trans c3, Or.inl ⟨by omega, rfl⟩⟩
    · exact ⟨_, b2, Or.inl ⟨b1.2, rfl⟩⟩
  obtain ⟨C', c1, c2⟩ := h1
  have hl : (C'.length : Int) = d := by
    rw [c1, List.length_append, List.length_singleton] at a2
    omega
  refine ⟨C', F 337 k.toNat :: A, by rw [a1, c1]; exact List.append_assoc _ _ _, by omega, fun _ => c2, fun j h1 h2 => ?_⟩
  by_cases e : j = d.toNat
  · rw [e, hgd, a1, c1, List.getD_eq_getElem?_getD, List.append_assoc, List.getElem?_append_right (by omega), show d.toNat - C'.length = 0 by omega]
    rfl
  · rw [hg j e]
    exact a4 j (by omega) h2
theorem wc_e {F : fl_N} {g : Nat → Int} {V : List wy_T} {W : wy_T} {k d : Int} (h : wkC F g V W k d) (hd : d < 0) : ∀ j : Nat, j < W.length → g j = W.getD j 0 := by
  obtain ⟨C, A, a1, a2, a3, a4⟩ := h
  exact fun j hj => a4 j (by omega) hj

/-! the goal's way -/
noncomputable def gvW (P : pp_T) (c : Int) (T : tb_T) (V : List wy_T) (i s : Nat) : Option wy_T := (rowp i s).foldl (gst P c T V) ((prs i P.1).foldl (gst P c T V) none)
theorem gvW_s {P : pp_T} {c : Int} {T : tb_T} {V : List wy_T} {i s : Nat} : gvW P c T V i (s + 1) = gst P c T V (gvW P c T V i s) (i, s) := by
  unfold gvW
  rw [rowp_s, List.foldl_append]
  rfl
theorem gvW_r {P : pp_T} {c : Int} {T : tb_T} {V : List wy_T} {i : Nat} : gvW P c T V (i + 1) 0 = gvW P c T V i P.1 := by
  unfold gvW
  rw [prs_s, List.foldl_append]
  rfl
theorem gvW_0 {P : pp_T} {c : Int} {T : tb_T} {V : List wy_T} : gvW P c T V 0 0 = none := rfl
theorem gvW_e {P : pp_T} {c : Int} {T : tb_T} {V : List wy_T} {i : Nat} (h : i = T.length) : gvW P c T V i 0 = gov P c T V := by
  subst h
  rfl
theorem gst_n {P : pp_T} {c : Int} {T : tb_T} {V : List wy_T} {g : Option wy_T} {q : Nat × Nat} (h : ¬ (way P T c q = true ∧ P.2.2.2.2 (nxs P T q))) : gst P c T V g q = g := by
  unfold gst
  rw [if_neg]
  intro h1
  rw [Bool.and_eq_true, dc_t] at h1
  exact h h1
theorem gst_y {P : pp_T} {c : Int} {T : tb_T} {V : List wy_T} {g : Option wy_T} {q : Nat × Nat} (h : way P T c q = true ∧ P.2.2.2.2 (nxs P T q)) : gst P c T V g q = some (match g with | none => vat V q.1 ++ [(q.2 : Int)] | some v => bst v (vat V q.1 ++ [(q.2 : Int)])) := by
  unfold gst
  exact if_pos (by rw [Bool.and_eq_true, dc_t]; exact h)
theorem bst_y {v w : wy_T} (h : btr w v) : bst v w = w := by
  unfold bst
  rw [if_pos (dc_t.mpr h)]
theorem bst_n {v w : wy_T} (h : ¬ btr w v) : bst v w = v := by
  unfold bst
  rw [if_neg (fun h1 => h (dc_t.mp h1))]
/-- on the reference's heap -/
def gH (F : fl_N) (V : List wy_T) (g : Option wy_T) : Prop := (F 344 66 = 0 ∧ g = none) ∨ (F 344 66 = 1 ∧ g = some (vat V (F 376 200).toNat ++ [F 377 200]) ∧ (0 ≤ F 376 200 ∧ (F 376 200).toNat < V.length) ∧ F 375 200 = ((vat V (F 376 200).toNat).length : Int) + 1)
theorem gH_cg {F F' : fl_N} {V : List wy_T} {g : Option wy_T} (h : gH F V g) (h0 : F' 344 66 = F 344 66) (h1 : F' 375 200 = F 375 200) (h2 : F' 376 200 = F 376 200) (h3 : F' 377 200 = F 377 200) : gH F' V g := by
  unfold gH
  rw [h0, h1, h2, h3]
  exact h
theorem gH_kn {F : fl_N} {V : List wy_T} {g : Option wy_T} (h : gH F V g) (h1 : ¬ F 344 66 = 0) : (0 ≤ F 376 200 ∧ (F 376 200).toNat < V.length) ∧ F 375 200 = ((vat V (F 376 200).toNat).length : Int) + 1 := by
  rcases h with ⟨h2, -⟩ | ⟨-, -, h2, h3⟩
  · exact absurd h2 h1
  · exact ⟨h2, h3⟩
theorem gH_n {P : pp_T} {F : fl_N} {c : Int} {T : tb_T} {V : List wy_T} {i s : Nat} (h : gH F V (gvW P c T V i s)) (hn : ¬ gqs P T c (i, s)) (hi : i < T.length) (hs : s < P.1) : gH F V (gvW P c T V i (s + 1)) := by
  rw [gvW_s, gst_n (fun h1 => hn ⟨⟨hi, hs⟩, h1⟩)]
  exact h
theorem gH_no {P : pp_T} {F : fl_N} {c : Int} {T : tb_T} {V : List wy_T} {i s : Nat} (h : gH F V (gvW P c T V i s)) (hn : gqs P T c (i, s)) (h1 : ¬ F 344 66 = 0) (hb : ¬ btr (vat V i ++ [(s : Int)]) (vat V (F 376 200).toNat ++ [F 377 200])) : gH F V (gvW P c T V i (s + 1)) := by
  rcases h with ⟨h2, -⟩ | ⟨h2, h3, h4⟩
  · exact absurd h2 h1
  · refine Or.inr ⟨h2, ?_, h4⟩
    rw [gvW_s, gst_y hn.2, h3]
    show some (bst _ _) = _
    rw [bst_n hb]
theorem gH_y {P : pp_T} {F F' : fl_N} {c : Int} {T : tb_T} {V : List wy_T} {i s : Nat} (h : gH F V (gvW P c T V i s)) (hn : gqs P T c (i, s)) (hb : F 344 66 = 0 ∨ btr (vat V i ++ [(s : Int)]) (vat V (F 376 200).toNat ++ [F 377 200])) (hi : i < V.length) (e0 : F' 344 66 = 1) (e1 : F' 376 200 = (i : Int)) (e2 : F' 377 200 = (s : Int)) (e3 : F' 375 200 = ((vat V i).length : Int) + 1) : gH F' V (gvW P c T V i (s + 1)) := by
  refine Or.inr ⟨e0, ?_, ?_, ?_⟩
  · rw [gvW_s, gst_y hn.2, e1, e2, show ((i : Int)).toNat = i by omega]
    rcases h with ⟨h2, h3⟩ | ⟨h2, h3, -⟩
    · rw [h3]
    · rcases hb with hb | hb
      · omega
      · rw [h3]
        show some (bst _ _) = _
        rw [bst_y hb]
  · rw [e1]
    exact ⟨by omega, by omega⟩
  · rw [e3, e1, show ((i : Int)).toNat = i by omega]
theorem gH_e {F : fl_N} {V : List wy_T} {g : Option wy_T} (h : gH F V g) (h1 : F 344 66 = 1) : g = some (vat V (F 376 200).toNat ++ [F 377 200]) ∧ (0 ≤ F 376 200 ∧ (F 376 200).toNat < V.length) ∧ F 375 200 = ((vat V (F 376 200).toNat).length : Int) + 1 := by
  rcases h with ⟨h2, -⟩ | ⟨-, h2⟩
  · omega
  · exact h2

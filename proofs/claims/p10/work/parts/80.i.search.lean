/-! the class's search and the plain one -/
noncomputable def pC (F : fl_N) : pp_T := ((F 120 3).toNat, fun s => if (s : Int) < F 120 3 then F (126 + 5 * s) 2 else 1, fun s x => (s : Int) < F 120 3 ∧ hN F (126 + 5 * s + 2) x, fun s x => if (s : Int) < F 120 3 then aC F (s : Int) x else 0, fun x => hN F 123 x)
theorem hN_cg {F F' : fl_N} {d : Nat} {x : Int} (h : ∀ k, F' d k = F d k) : hN F' d x = hN F d x := by
  unfold hN
  rw [h 0, h 1, h 2]
theorem pC_cg {F F' : fl_N} (hn : F 120 3 ≤ 41) (c : ∀ r k, 120 ≤ r ∧ r ≤ 330 → F' r k = F r k) : pC F' = pC F := by
  unfold pC
  rw [c 120 3 (by decide)]
  refine Prod.ext rfl (Prod.ext ?_ (Prod.ext ?_ (Prod.ext ?_ ?_)))
  · funext s
    by_cases e : (s : Int) < F 120 3
    · show (if (s : Int) < F 120 3 then F' (126 + 5 * s) 2 else 1) = (if (s : Int) < F 120 3 then F (126 + 5 * s) 2 else 1)
      rw [if_pos e, if_pos e, c (126 + 5 * s) 2 ⟨by omega, by omega⟩]
    · show (if (s : Int) < F 120 3 then F' (126 + 5 * s) 2 else 1) = (if (s : Int) < F 120 3 then F (126 + 5 * s) 2 else 1)
      rw [if_neg e, if_neg e]
  · funext s x
    show ((s : Int) < F 120 3 ∧ hN F' (126 + 5 * s + 2) x) = ((s : Int) < F 120 3 ∧ hN F (126 + 5 * s + 2) x)
    apply propext
    constructor
    · rintro ⟨h1, h2⟩
      exact ⟨h1, by rw [← hN_cg (fun k => c (126 + 5 * s + 2) k ⟨by omega, by omega⟩)]; exact h2⟩
    · rintro ⟨h1, h2⟩
      exact ⟨h1, by rw [hN_cg (fun k => c (126 + 5 * s + 2) k ⟨by omega, by omega⟩)]; exact h2⟩
  · funext s x
    show (if (s : Int) < F 120 3 then aC F' (s : Int) x else 0) = (if (s : Int) < F 120 3 then aC F (s : Int) x else 0)
    by_cases e : (s : Int) < F 120 3
    · rw [if_pos e, if_pos e]
      unfold aC
      rw [c (126 + 5 * (s : Int).toNat) 4 ⟨by omega, by omega⟩, c (126 + 5 * (s : Int).toNat) 5 ⟨by omega, by omega⟩]
    · rw [if_neg e, if_neg e]
  · funext x
    exact hN_cg (fun k => c 123 k (by decide))
theorem wst_n {P : pp_T} {most : Nat} {c : Int} {W : tb_T × Bool} {q : Nat × Nat} (h : ¬ way P W.1 c q = true) : wst P most c W q = W := by
  unfold wst
  rw [if_neg]
  intro h1
  rw [Bool.and_eq_true, Bool.and_eq_true] at h1
  exact h h1.1.1
theorem wst_g {P : pp_T} {most : Nat} {c : Int} {W : tb_T × Bool} {q : Nat × Nat} (h : P.2.2.2.2 (nxs P W.1 q)) : wst P most c W q = W := by
  unfold wst
  rw [if_neg]
  intro h1
  rw [Bool.and_eq_true, Bool.and_eq_true, Bool.not_eq_true', dc_f] at h1
  exact h1.1.2 h
theorem wst_h {P : pp_T} {most : Nat} {c : Int} {W : tb_T × Bool} {q : Nat × Nat} (h : has W.1 (nxs P W.1 q) = true) : wst P most c W q = W := by
  unfold wst
  rw [if_neg]
  intro h1
  rw [Bool.and_eq_true, Bool.not_eq_true', h] at h1
  cases h1.2
theorem wst_i {P : pp_T} {most : Nat} {c : Int} {W : tb_T × Bool} {q : Nat × Nat} (h1 : way P W.1 c q = true) (h2 : ¬ P.2.2.2.2 (nxs P W.1 q)) (h3 : has W.1 (nxs P W.1 q) = false) : wst P most c W q = if W.1.length < most then (W.1 ++ [(nxs P W.1 q, c)], W.2) else (W.1, true) := by
  unfold wst
  rw [if_pos]
  rw [h1, h3, dc_f.mpr h2]
  rfl
def bi (b : Bool) : Int := if b = true then 1 else 0
/-- comeTo is a step of the plain layer -/
theorem cto_w {P : pp_T} {F F' : fl_N} {W : tb_T × Bool} {T' : tb_T} {q : Nat × Nat} {st c mo : Int} (hc : F 331 12 = c) (hm : F 331 9 = mo) (hmo : 0 ≤ mo) (hw : way P W.1 c q = true) (he : nxs P W.1 q = st) (hg : gC F st ↔ P.2.2.2.2 st) (h10 : F 331 10 = bi W.2) (h : cto F F' W.1 T' st) : T' = (wst P mo.toNat c W q).1 ∧ F' 331 10 = bi (wst P mo.toNat c W q).2 ∧ ((P.2.2.2.2 (nxs P W.1 q) ∧ F' 331 11 = 1) ∨ (¬ P.2.2.2.2 (nxs P W.1 q) ∧ F' 331 11 = F 331 11)) ∧ (T' = W.1 ∨ (T' = W.1 ++ [(st, c)] ∧ sdu F c 0 (F' 334 W.1.length))) := by
  subst hc
  subst hm
  rw [he]
  rcases h with ⟨h1, h2, h3, h4⟩ | ⟨h1, h2, h3⟩
  · rw [wst_g (by rw [he]; exact hg.mp h1)]
    exact ⟨h2, h4.trans h10, Or.inl ⟨hg.mp h1, h3⟩, Or.inl h2⟩
  · have hng : ¬ P.2.2.2.2 st := fun h9 => h1 (hg.mpr h9)
    rcases h3 with ⟨h3, h4, h5⟩ | ⟨h3, h4, h5, h6, h7⟩ | ⟨h3, h4, h5, h6⟩
    · rw [wst_h (by rw [he]; exact h3)]
      exact ⟨h4, h5.trans h10, Or.inr ⟨hng, h2⟩, Or.inl h4⟩
    · rw [wst_i hw (by rw [he]; exact hng) (by rw [he]; exact h3), if_pos (by omega), he]
      exact ⟨h5, h6.trans h10, Or.inr ⟨hng, h2⟩, Or.inr ⟨h5, h7⟩⟩
    · rw [wst_i hw (by rw [he]; exact hng) (by rw [he]; exact h3), if_neg (by omega)]
      exact ⟨h5, h6, Or.inr ⟨hng, h2⟩, Or.inl h5⟩
def rowp (i k : Nat) : List (Nat × Nat) := (List.range k).map (fun s => (i, s))
theorem rowp_s {i k : Nat} : rowp i (k + 1) = rowp i k ++ [(i, k)] := by
  unfold rowp
  rw [List.range_succ, List.map_append]
  rfl
noncomputable def rsw (P : pp_T) (most : Nat) (c : Int) (i k : Nat) (W : tb_T × Bool) : tb_T × Bool := (rowp i k).foldl (wst P most c) W
theorem rsw_s {P : pp_T} {most : Nat} {c : Int} {i k : Nat} {W : tb_T × Bool} : rsw P most c i (k + 1) W = wst P most c (rsw P most c i k W) (i, k) := by
  unfold rsw
  rw [rowp_s, List.foldl_append]
  rfl
theorem prs_s {m n : Nat} : prs (m + 1) n = prs m n ++ rowp m n := by
  unfold prs rowp
  rw [List.range_succ, List.flatMap_append]
  simp
theorem wst_pre {P : pp_T} {most : Nat} {c : Int} {W : tb_T × Bool} {q : Nat × Nat} : ∃ N, (wst P most c W q).1 = W.1 ++ N := by
  unfold wst
  split
  · split
    · exact ⟨_, rfl⟩
    · exact ⟨[], by simp⟩
  · exact ⟨[], by simp⟩
theorem fold_pre {P : pp_T} {most : Nat} {c : Int} : ∀ (L : List (Nat × Nat)) (W : tb_T × Bool), ∃ N, (L.foldl (wst P most c) W).1 = W.1 ++ N := by
  intro L
  induction L with
  | nil => intro W; exact ⟨[], by simp⟩
  | cons q L ih =>
    intro W
    obtain ⟨N1, h1⟩ := wst_pre (P := P) (most := most) (c := c) (W := W) (q := q)
    obtain ⟨N2, h2⟩ := ih (wst P most c W q)
    exact ⟨N1 ++ N2, by rw [List.foldl_cons, h2, h1, List.append_assoc]⟩
theorem way_c {F : fl_N} {T N : tb_T} {c pr : Int} {fm k : Nat} (hfm : fm < T.length) (hk : (k : Int) < F 120 3) (hpe : pr = c - ca T fm) : way (pC F) (T ++ N) c (fm, k) = true ↔ (F (126 + 5 * k) 2 = pr ∧ hN F (126 + 5 * k + 2) (xa T fm)) := by
  rw [way_t]
  show (ca (T ++ N) fm + (if (k : Int) < F 120 3 then F (126 + 5 * k) 2 else 1) = c ∧ ((k : Int) < F 120 3 ∧ hN F (126 + 5 * k + 2) (xa (T ++ N) fm))) ↔ _
  rw [if_pos hk, ca_app hfm, xa_app hfm]
  constructor
  · rintro ⟨h1, -, h2⟩
    exact ⟨by omega, h2⟩
  · rintro ⟨h1, h2⟩
    exact ⟨by omega, hk, h2⟩
theorem nxs_c {F : fl_N} {T N : tb_T} {fm k : Nat} (hfm : fm < T.length) (hk : (k : Int) < F 120 3) : nxs (pC F) (T ++ N) (fm, k) = aC F (k : Int) (xa T fm) := by
  show (if (k : Int) < F 120 3 then aC F (k : Int) (xa (T ++ N) fm) else 0) = _
  rw [if_pos hk, xa_app hfm]
/-- a row of the layer: what it found -/
def grw (P : pp_T) (c : Int) (T : tb_T) (i k : Nat) : Prop := ∃ s, s < k ∧ way P T c (i, s) = true ∧ P.2.2.2.2 (nxs P T (i, s))
theorem grw_n {P : pp_T} {c : Int} {T : tb_T} {i k : Nat} (h : ¬ (way P T c (i, k) = true ∧ P.2.2.2.2 (nxs P T (i, k)))) : grw P c T i (k + 1) ↔ grw P c T i k := by
  constructor
  · rintro ⟨s, h1, h2, h3⟩
    by_cases e : s = k
    · subst e
      exact absurd ⟨h2, h3⟩ h
    · exact ⟨s, by omega, h2, h3⟩
  · rintro ⟨s, h1, h2⟩
    exact ⟨s, by omega, h2⟩
/-- a row of the layer, on the heap -/
def rwS (F F1 : fl_N) (P : pp_T) (W : tb_T × Bool) (i k : Nat) : Prop := tS F1 (rsw P (F 331 9).toNat (F 331 12) i k W).1 ∧ F1 331 10 = bi (rsw P (F 331 9).toNat (F 331 12) i k W).2 ∧ (F1 331 11 = 1 ↔ (F 331 11 = 1 ∨ grw P (F 331 12) W.1 i k)) ∧ (∀ j, j < W.1.length → F1 334 j = F 334 j) ∧ ∀ j, W.1.length ≤ j → j < (rsw P (F 331 9).toNat (F 331 12) i k W).1.length → sdu F (F 331 12) 0 (F1 334 j)
theorem rwS_0 {F : fl_N} {P : pp_T} {W : tb_T × Bool} {i : Nat} (hT : tS F W.1) (h10 : F 331 10 = bi W.2) : rwS F F P W i 0 := by
  refine ⟨hT, h10, ⟨fun h => Or.inl h, fun h => ?_⟩, fun _ _ => rfl, fun j h1 h2 => ?_⟩
  · rcases h with h | ⟨s, hs, -⟩
    · exact h
    · exact absurd hs (by omega)
  · exact absurd h2 (by show ¬ j < W.1.length; omega)
theorem rwS_n {F F1 : fl_N} {P : pp_T} {W : tb_T × Bool} {i k : Nat} (h : rwS F F1 P W i k) (hi : i < W.1.length) (hw : ¬ way P W.1 (F 331 12) (i, k) = true) : rwS F F1 P W i (k + 1) := by
  obtain ⟨a1, a2, a3, a4, a5⟩ := h
  obtain ⟨N, hN⟩ := fold_pre (P := P) (most := (F 331 9).toNat) (c := F 331 12) (rowp i k) W
  have e : rsw P (F 331 9).toNat (F 331 12) i (k + 1) W = rsw P (F 331 9).toNat (F 331 12) i k W := by
    rw [rsw_s]
    refine wst_n ?_
    rw [show (rsw P (F 331 9).toNat (F 331 12) i k W).1 = W.1 ++ N from hN, way_app hi]
    exact hw
  unfold rwS
  rw [e, grw_n (fun h9 => hw h9.1)]
  exact ⟨a1, a2, a3, a4, a5⟩
theorem rwS_y {F F1 F2 : fl_N} {P : pp_T} {W : tb_T × Bool} {i k : Nat} {T' : tb_T} {st : Int} (h : rwS F F1 P W i k) (hi : i < W.1.length) (h12 : F1 331 12 = F 331 12) (h9 : F1 331 9 = F 331 9) (hm : 0 ≤ F 331 9) (hw : way P W.1 (F 331 12) (i, k) = true) (he : nxs P W.1 (i, k) = st) (hg : gC F1 st ↔ P.2.2.2.2 st) (hT : tS F2 T') (hc : cto F1 F2 (rsw P (F 331 9).toNat (F 331 12) i k W).1 T' st) (ho : ∀ j : Nat, ¬ j = (rsw P (F 331 9).toNat (F 331 12) i k W).1.length → F2 334 j = F1 334 j) (hsd : ∀ d, sdu F1 (F 331 12) 0 d → sdu F (F 331 12) 0 d) : rwS F F2 P W i (k + 1) := by
  obtain ⟨a1, a2, a3, a4, a5⟩ := h
  obtain ⟨N, hN⟩ := fold_pre (P := P) (most := (F 331 9).toNat) (c := F 331 12) (rowp i k) W
  have hN' : (rsw P (F 331 9).toNat (F 331 12) i k W).1 = W.1 ++ N := hN
  have hl : W.1.length ≤ (rsw P (F 331 9).toNat (F 331 12) i k W).1.length := by
    rw [hN', List.length_append]
    omega
  obtain ⟨b1, b2, b3, b4⟩ := cto_w (P := P) (W := rsw P (F 331 9).toNat (F 331 12) i k W) (q := (i, k)) h12 h9 hm (by rw [hN', way_app hi]; exact hw) (by rw [hN', nxs_app hi]; exact he) hg a2 hc
  rw [show nxs P (rsw P (F 331 9).toNat (F 331 12) i k W).1 (i, k) = nxs P W.1 (i, k) by rw [hN', nxs_app hi]] at b3
  unfold rwS
  rw [rsw_s]
  refine ⟨by rw [← b1]; exact hT, b2, ?_, fun j hj => (ho j (by omega)).trans (a4 j hj), fun j h1 h2 => ?_⟩
  · rcases b3 with ⟨c1, c2⟩ | ⟨c1, c2⟩
    · exact ⟨fun _ => Or.inr ⟨k, by omega, hw, c1⟩, fun _ => c2⟩
    · rw [c2, grw_n (fun h9 => c1 h9.2)]
      exact a3
  · rw [← b1] at h2
    rcases b4 with b4 | ⟨b4, b5⟩
    · rw [b4] at h2
      rw [ho j (by omega)]
      exact a5 j h1 h2
    · rw [b4, List.length_append, List.length_singleton] at h2
      by_cases e : j = (rsw P (F 331 9).toNat (F 331 12) i k W).1.length
      · rw [e]
        exact hsd _ b5
      · rw [ho j e]
        exact a5 j h1 (by omega)
theorem way_c0 {F : fl_N} {T : tb_T} {c pr : Int} {fm k : Nat} (hfm : fm < T.length) (hk : (k : Int) < F 120 3) (hpe : pr = c - ca T fm) : way (pC F) T c (fm, k) = true ↔ (F (126 + 5 * k) 2 = pr ∧ hN F (126 + 5 * k + 2) (xa T fm)) := by
  have h := way_c (N := []) hfm hk hpe
  rwa [List.append_nil] at h
theorem nxs_c0 {F : fl_N} {T : tb_T} {fm k : Nat} (hfm : fm < T.length) (hk : (k : Int) < F 120 3) : nxs (pC F) T (fm, k) = aC F (k : Int) (xa T fm) := by
  have h := nxs_c (N := []) hfm hk
  rwa [List.append_nil] at h
theorem rwS_x {F F1 : fl_N} {P : pp_T} {W : tb_T × Bool} {i k j : Nat} (h : rwS F F1 P W i k) (hj : j < W.1.length) : F1 332 j = xa W.1 j := by
  obtain ⟨N, hN⟩ := fold_pre (P := P) (most := (F 331 9).toNat) (c := F 331 12) (rowp i k) W
  have hN' : (rsw P (F 331 9).toNat (F 331 12) i k W).1 = W.1 ++ N := hN
  rw [h.1.2.1.1 j (by rw [hN', List.length_append]; omega), hN', xa_app hj]
/-- a row with its last act, setDue -/
def rwE (F F1 : fl_N) (P : pp_T) (W : tb_T × Bool) (i k : Nat) (pr : Int) : Prop := tS F1 (rsw P (F 331 9).toNat (F 331 12) i k W).1 ∧ F1 331 10 = bi (rsw P (F 331 9).toNat (F 331 12) i k W).2 ∧ (F1 331 11 = 1 ↔ (F 331 11 = 1 ∨ grw P (F 331 12) W.1 i k)) ∧ (∀ j, j < W.1.length → ¬ j = i → F1 334 j = F 334 j) ∧ (∀ j, W.1.length ≤ j → j < (rsw P (F 331 9).toNat (F 331 12) i k W).1.length → sdu F (F 331 12) 0 (F1 334 j)) ∧ sdu F (ca W.1 i) pr (F1 334 i)
theorem rwE_of {F F1 F2 : fl_N} {P : pp_T} {W : tb_T × Bool} {i k : Nat} {pr : Int} (h : rwS F F1 P W i k) (hi : i < W.1.length) (hT : tS F2 (rsw P (F 331 9).toNat (F 331 12) i k W).1) (h10 : F2 331 10 = F1 331 10) (h11 : F2 331 11 = F1 331 11) (ho : ∀ j : Nat, ¬ j = i → F2 334 j = F1 334 j) (hd : sdu F (ca W.1 i) pr (F2 334 i)) : rwE F F2 P W i k pr := by
  obtain ⟨a1, a2, a3, a4, a5⟩ := h
  refine ⟨hT, h10.trans a2, by rw [h11]; exact a3, fun j h1 h2 => (ho j h2).trans (a4 j h1), fun j h1 h2 => ?_, hd⟩
  rw [ho j (by omega)]
  exact a5 j h1 h2
theorem rsw_ca {P : pp_T} {most : Nat} {c : Int} {i k j : Nat} {W : tb_T × Bool} (hj : j < W.1.length) : ca (rsw P most c i k W).1 j = ca W.1 j := by
  obtain ⟨N, hN⟩ := fold_pre (P := P) (most := most) (c := c) (rowp i k) W
  rw [show (rsw P most c i k W).1 = W.1 ++ N from hN, ca_app hj]
/-! a layer -/
theorem pC_n {F : fl_N} : (pC F).1 = (F 120 3).toNat := rfl
theorem pC_p {F : fl_N} {s : Nat} (h : (s : Int) < F 120 3) : (pC F).2.1 s = F (126 + 5 * s) 2 := if_pos h
theorem sdu_due {F : fl_N} {T : tb_T} {c p d : Int} {i : Nat} (hd : sdu F (ca T i) p d) (hp : p = c - ca T i) : due (pC F) T c i d := by
  rcases hd with ⟨h1, h2⟩ | ⟨s, h1, h2, h3, h4⟩
  · refine Or.inl ⟨h1, fun s hs => ?_⟩
    have hs' : (s : Int) < F 120 3 := by
      rw [pC_n] at hs
      omega
    rw [pC_p hs']
    have h5 := h2 s hs'
    omega
  · refine Or.inr ⟨by omega, ⟨s, by rw [pC_n]; omega, by rw [pC_p h1]; exact h3⟩, fun s' hs' h5 => ?_⟩
    have hs2 : (s' : Int) < F 120 3 := by
      rw [pC_n] at hs'
      omega
    rw [pC_p hs2] at h5 ⊢
    have h6 := h4 s' hs2 (by omega)
    omega
theorem rsw_no {P : pp_T} {most : Nat} {c : Int} {i : Nat} {W : tb_T × Bool} : ∀ n : Nat, (∀ s, s < n → ¬ way P W.1 c (i, s) = true) → rsw P most c i n W = W := by
  intro n
  induction n with
  | zero => intro _; rfl
  | succ n ih =>
    intro h
    rw [rsw_s, ih (fun s hs => h s (by omega))]
    exact wst_n (h n (by omega))
theorem grw_app {P : pp_T} {c : Int} {T N : tb_T} {i n : Nat} (h : i < T.length) : grw P c (T ++ N) i n ↔ grw P c T i n := by
  constructor
  · rintro ⟨s, h1, h2, h3⟩
    rw [way_app h] at h2
    rw [nxs_app h] at h3
    exact ⟨s, h1, h2, h3⟩
  · rintro ⟨s, h1, h2, h3⟩
    exact ⟨s, h1, by rw [way_app h]; exact h2, by rw [nxs_app h]; exact h3⟩
noncomputable def lyW (P : pp_T) (most : Nat) (c : Int) (T : tb_T) (k : Nat) : tb_T × Bool := (prs k P.1).foldl (wst P most c) (T, false)
theorem lyW_s {P : pp_T} {most : Nat} {c : Int} {T : tb_T} {k : Nat} : lyW P most c T (k + 1) = rsw P most c k P.1 (lyW P most c T k) := by
  unfold lyW rsw
  rw [prs_s, List.foldl_append]
theorem lyW_pre {P : pp_T} {most : Nat} {c : Int} {T : tb_T} {k : Nat} : ∃ N, (lyW P most c T k).1 = T ++ N := fold_pre (prs k P.1) (T, false)
def lyS (F F1 : fl_N) (P : pp_T) (T : tb_T) (k : Nat) : Prop := tS F1 (lyW P (F 331 9).toNat (F 331 12) T k).1 ∧ F1 331 10 = bi (lyW P (F 331 9).toNat (F 331 12) T k).2 ∧ (F1 331 11 = 1 ↔ ∃ i, i < k ∧ grw P (F 331 12) T i P.1) ∧ (∀ j, j < k → due P T (F 331 12) j (F1 334 j)) ∧ (∀ j, k ≤ j → j < T.length → F1 334 j = F 334 j) ∧ ∀ j, T.length ≤ j → j < (lyW P (F 331 9).toNat (F 331 12) T k).1.length → sdu F (F 331 12) 0 (F1 334 j)
theorem lyS_0 {F : fl_N} {P : pp_T} {T : tb_T} (hT : tS F T) (h10 : F 331 10 = 0) (h11 : F 331 11 = 0) : lyS F F P T 0 := by
  refine ⟨hT, h10, ⟨fun h => ?_, fun h => ?_⟩, fun j hj => absurd hj (by omega), fun _ _ _ => rfl, fun j h1 h2 => ?_⟩
  · omega
  · obtain ⟨i, hi, -⟩ := h
    exact absurd hi (by omega)
  · exact absurd h2 (by show ¬ j < T.length; omega)
theorem lyS_n {F F1 : fl_N} {P : pp_T} {T : tb_T} {k : Nat} {cp : Int} (h : lyS F F1 P T k) (hk : k < T.length) (hl : lc P T cp (F 331 12)) (hd : due P T cp k (F 334 k)) (hne : ¬ F1 334 k = F 331 12) : lyS F F1 P T (k + 1) := by
  obtain ⟨a1, a2, a3, a4, a5, a6⟩ := h
  rw [a5 k (Nat.le_refl _) hk] at hne
  obtain ⟨b1, b2⟩ := due_nx hl hk hd hne
  obtain ⟨N, hN⟩ := lyW_pre (P := P) (most := (F 331 9).toNat) (c := F 331 12) (T := T) (k := k)
  have hw : ∀ s, s < P.1 → ¬ way P T (F 331 12) (k, s) = true := fun s hs h9 => b2 s hs (way_t.mp h9).1
  have e : lyW P (F 331 9).toNat (F 331 12) T (k + 1) = lyW P (F 331 9).toNat (F 331 12) T k := by
    rw [lyW_s]
    refine rsw_no P.1 (fun s hs => ?_)
    rw [hN, way_app hk]
    exact hw s hs
  unfold lyS
  rw [e]
  refine ⟨a1, a2, ?_, fun j hj => ?_, fun j h1 h2 => a5 j (by omega) h2, a6⟩
  · rw [a3]
    constructor
    · rintro ⟨i, hi, h1⟩
      exact ⟨i, by omega, h1⟩
    · rintro ⟨i, hi, h1⟩
      by_cases e : i = k
      · subst e
        obtain ⟨s, hs, h2, -⟩ := h1
        exact absurd h2 (hw s hs)
      · exact ⟨i, by omega, h1⟩
  · by_cases e : j = k
    · subst e
      rw [a5 j (Nat.le_refl _) hk]
      exact b1
    · exact a4 j (by omega)
theorem lyS_y {F F1 F2 : fl_N} {P : pp_T} {T : tb_T} {k : Nat} {pr : Int} (h : lyS F F1 P T k) (hP : P = pC F) (hP1 : pC F1 = pC F) (hk : k < T.length) (h12 : F1 331 12 = F 331 12) (h9 : F1 331 9 = F 331 9) (hn : F1 120 3 = F 120 3) (hpr : pr = F 331 12 - ca T k) (hsd : ∀ x p d, sdu F1 x p d → sdu F x p d) (hr : rwE F1 F2 P (lyW P (F 331 9).toNat (F 331 12) T k) k (F1 120 3).toNat pr) : lyS F F2 P T (k + 1) := by
  obtain ⟨a1, a2, a3, a4, a5, a6⟩ := h
  obtain ⟨N, hN⟩ := lyW_pre (P := P) (most := (F 331 9).toNat) (c := F 331 12) (T := T) (k := k)
  have hn1 : (F1 120 3).toNat = P.1 := by rw [hP, pC_n, hn]
  unfold rwE at hr
  rw [h12, h9, hn1, ← lyW_s] at hr
  obtain ⟨b1, b2, b3, b4, b5, b6⟩ := hr
  have hlen : T.length ≤ (lyW P (F 331 9).toNat (F 331 12) T k).1.length := by
    rw [hN, List.length_append]
    omega
  refine ⟨b1, b2, ?_, fun j hj => ?_, fun j h1 h2 => ?_, fun j h1 h2 => ?_⟩
  · rw [b3, a3, hN, grw_app hk]
    constructor
    · rintro (⟨i, hi, h1⟩ | h1)
      · exact ⟨i, by omega, h1⟩
      · exact ⟨k, by omega, h1⟩
    · rintro ⟨i, hi, h1⟩
      by_cases e : i = k
      · subst e
        exact Or.inr h1
      · exact Or.inl ⟨i, by omega, h1⟩
  · by_cases e : j = k
    · subst e
      rw [hN, ca_app hk] at b6
      rw [hP]
      exact sdu_due (hsd _ _ _ b6) hpr
    · rw [b4 j (by omega) e]
      exact a4 j (by omega)
  · rw [b4 j (by omega) (by omega)]
    exact a5 j (by omega) h2
  · by_cases e : j < (lyW P (F 331 9).toNat (F 331 12) T k).1.length
    · rw [b4 j e (by omega)]
      exact a6 j h1 e
    · exact hsd _ _ _ (b5 j (by omega) h2)
theorem ly_ca {P : pp_T} {most : Nat} {c : Int} {T : tb_T} {k j : Nat} (hj : j < T.length) : ca (lyW P most c T k).1 j = ca T j := by
  obtain ⟨N, hN⟩ := lyW_pre (P := P) (most := most) (c := c) (T := T) (k := k)
  rw [hN, ca_app hj]
theorem ly_c {F F1 : fl_N} {P : pp_T} {T : tb_T} {k j : Nat} (h : lyS F F1 P T k) (hj : j < T.length) : F1 333 j = ca T j := by
  obtain ⟨N, hN⟩ := lyW_pre (P := P) (most := (F 331 9).toNat) (c := F 331 12) (T := T) (k := k)
  rw [h.1.2.2.1 j (by rw [hN, List.length_append]; omega), ly_ca hj]
/-! the layers, one after another -/
def lkI (F1 : fl_N) (P : pp_T) (mo : Nat) (T0 : tb_T) (pa : Nat → Int) (k : Int) : Prop := (F1 331 11 = 0 ∧ F1 331 10 = 0 ∧ ∃ T cp, tS F1 T ∧ cms P mo T0 T ∧ clsd P T cp ∧ (∀ i : Nat, i < T.length → due P T cp i (F1 334 i)) ∧ (1 ≤ T.length ∧ T.length ≤ mo) ∧ (∀ i : Nat, i < T.length → 0 ≤ ca T i ∧ ca T i ≤ 999 * (i : Int)) ∧ k + (phi pa cp T : Int) ≤ 1000) ∨ (F1 331 11 = 1 ∧ 1 ≤ F1 331 12 ∧ ∃ j, resu P mo j T0 0 (F1 331 12)) ∨ (F1 331 11 = 0 ∧ F1 331 10 = 1 ∧ ∃ j, resu P mo j T0 3 0)
theorem gol_grw {P : pp_T} {c : Int} {T : tb_T} : gol P c T = true ↔ ∃ i, i < T.length ∧ grw P c T i P.1 := by
  unfold gol
  rw [List.any_eq_true]
  constructor
  · rintro ⟨q, hq, h⟩
    rw [Bool.and_eq_true, dc_t] at h
    obtain ⟨h1, h2⟩ := prs_mem.mp hq
    exact ⟨q.1, h1, q.2, h2, h.1, h.2⟩
  · rintro ⟨i, h1, s, h2, h3, h4⟩
    exact ⟨(i, s), prs_mem.mpr ⟨h1, h2⟩, by rw [h3, dc_t.mpr h4]; rfl⟩
theorem due_at {P : pp_T} {T : tb_T} {cp c : Int} {g : Nat → Int} (hd : ∀ i : Nat, i < T.length → due P T cp i (g i)) (hm : ∃ i, i < T.length ∧ g i = c) (hne : ¬ c = 2147483647) : ∃ i s, i < T.length ∧ s < P.1 ∧ ca T i + P.2.1 s = c := by
  obtain ⟨i, hi, e⟩ := hm
  rcases hd i hi with ⟨h1, -⟩ | ⟨-, ⟨s, hs, h2⟩, -⟩
  · exact absurd (e.symm.trans h1) hne
  · exact ⟨i, s, hi, hs, by omega⟩
theorem fold_len {P : pp_T} {most : Nat} {c : Int} : ∀ (L : List (Nat × Nat)) (W : tb_T × Bool), W.1.length ≤ most → (L.foldl (wst P most c) W).1.length ≤ most := by
  intro L
  induction L with
  | nil => intro W h; exact h
  | cons q L ih =>
    intro W h
    rw [List.foldl_cons]
    refine ih _ ?_
    unfold wst
    split
    · split
      · rw [List.length_append, List.length_singleton]
        omega
      · exact h
    · exact h
theorem lk_s {Fc F2 : fl_N} {P : pp_T} {T0 T : tb_T} {cp c k : Int} {pa : Nat → Int} (hP : P = pC Fc) (hc : Fc 331 12 = c) (hcm : cms P (Fc 331 9).toNat T0 T) (hcl : clsd P T cp) (hlc : lc P T cp c) (hp1 : ∀ s, s < P.1 → 1 ≤ P.2.1 s ∧ P.2.1 s ≤ 999) (hpa : ∀ s, s < P.1 → ∃ a, a < 5 ∧ P.2.1 s = pa a) (hat : ∃ i s, i < T.length ∧ s < P.1 ∧ ca T i + P.2.1 s = c) (hcb : ∀ i : Nat, i < T.length → 0 ≤ ca T i ∧ ca T i ≤ 999 * (i : Int)) (hle : 1 ≤ T.length ∧ T.length ≤ (Fc 331 9).toNat) (h200 : (Fc 331 9).toNat ≤ 200) (hk : k + (phi pa cp T : Int) ≤ 1000) (hly : lyS Fc F2 P T T.length) (h11b : 0 ≤ F2 331 11 ∧ F2 331 11 ≤ 1) (h12 : F2 331 12 = c) : lkI F2 P (Fc 331 9).toNat T0 pa (k + 1) := by
  subst hc
  obtain ⟨a1, a2, a3, a4, a5, a6⟩ := hly
  rw [show lyW P (Fc 331 9).toNat (Fc 331 12) T T.length = lay P (Fc 331 9).toNat (Fc 331 12) T from rfl] at a1 a2 a6
  rw [← gol_grw] at a3
  obtain ⟨i0, s0, hi0, hs0, e0⟩ := hat
  have hci := hcb i0 hi0
  have hps := hp1 s0 hs0
  have hl1 := hlc.1
  cases hg : gol P (Fc 331 12) T with
  | true =>
    have h11 : F2 331 11 = 1 := a3.mpr hg
    refine Or.inr (Or.inl ⟨h11, by omega, ?_⟩)
    rw [h12]
    exact cms_gol hcm hcl hlc hg
  | false =>
    have h11 : F2 331 11 = 0 := by
      have h9 : ¬ F2 331 11 = 1 := fun h9 => by
        rw [a3.mp h9] at hg
        cases hg
      omega
    cases hw : (lay P (Fc 331 9).toNat (Fc 331 12) T).2 with
    | true =>
      rw [hw] at a2
      exact Or.inr (Or.inr ⟨h11, a2, cms_crw hcm hcl hlc hg hw⟩)
    | false =>
      rw [hw] at a2
      obtain ⟨N, n1, n2, -, -⟩ := lay_ok (P := P) (most := (Fc 331 9).toNat) (c := Fc 331 12) (T := T)
      have hlen : (lay P (Fc 331 9).toNat (Fc 331 12) T).1.length ≤ (Fc 331 9).toNat := fold_len (prs T.length P.1) (T, false) hle.2
      have hge : T.length ≤ (lay P (Fc 331 9).toNat (Fc 331 12) T).1.length := by
        rw [n1, List.length_append]
        omega
      refine Or.inl ⟨h11, a2, (lay P (Fc 331 9).toNat (Fc 331 12) T).1, Fc 331 12, a1, cms_lay hcm hcl hlc hg hw, lay_cls (fun s hs => (hp1 s hs).1) hcl hlc hg hw, fun i hi => ?_, ⟨by omega, hlen⟩, fun i hi => ?_, ?_⟩
      · by_cases e : i < T.length
        · rw [n1]
          exact due_app e (a4 i e)
        · have h9 := a6 i (by omega) hi
          rw [n1] at hi ⊢
          have h8 : ca (T ++ N) i = Fc 331 12 := ca_new (by omega) hi (fun e he => (n2 e he).1)
          rw [hP]
          exact sdu_due (p := 0) (by rw [h8]; exact h9) (by omega)
      · by_cases e : i < T.length
        · rw [n1, ca_app e]
          exact hcb i e
        · rw [n1] at hi ⊢
          rw [ca_new (by omega) hi (fun e he => (n2 e he).1)]
          omega
      · obtain ⟨a, ha, ea⟩ := hpa s0 hs0
        have h9 := phi_s (N := N) (pa := pa) hl1 hi0 ha (by rw [← ea]; exact e0) (by rw [← n1]; omega)
        rw [n1]
        omega
theorem lk_0 {F Fa : fl_N} {mo : Int} {pa : Nat → Int} (hT : tS Fa ([] ++ [(F 120 4, 0)])) (h11 : Fa 331 11 = 0) (h10 : Fa 331 10 = 0) (hg : ¬ gC F (F 120 4)) (hd : sdu F 0 0 (Fa 334 0)) (hmo : 1 ≤ mo) (hp : ∀ s : Nat, (s : Int) < F 120 3 → 1 ≤ F (126 + 5 * s) 2) : lkI Fa (pC F) mo.toNat [(F 120 4, 0)] pa 0 := by
  have c0 : ∀ i : Nat, i < [(F 120 4, (0 : Int))].length → ca [(F 120 4, (0 : Int))] i = 0 := fun i hi => by
    rw [List.length_singleton] at hi
    rw [show i = 0 by omega]
    rfl
  refine Or.inl ⟨h11, h10, [(F 120 4, 0)], 0, hT, cms_r, ⟨fun q h1 h2 h3 h4 => ?_, fun e he => ?_⟩, fun i hi => ?_, ⟨Nat.le_refl _, by show 1 ≤ _; omega⟩, fun i hi => ?_, ?_⟩
  · rw [c0 q.1 h1] at h4
    have h5 : (q.2 : Int) < F 120 3 := by
      rw [pC_n] at h2
      omega
    rw [pC_p h5] at h4
    have h6 := hp q.2 h5
    omega
  · rw [List.mem_singleton.mp he]
    exact ⟨Int.le_refl _, hg⟩
  · have h1 := c0 i hi
    rw [List.length_singleton] at hi
    have h2 : i = 0 := by omega
    refine sdu_due (p := 0) ?_ (by omega)
    rw [h1, h2]
    exact hd
  · rw [c0 i hi]
    omega
  · have h1 := phi_0 (pa := pa) (cp := 0) (T := [(F 120 4, (0 : Int))]) (by show 1 ≤ 200; omega)
    omega
theorem tS_0 {F : fl_N} (h8 : F 331 8 = 0) (hz : ∀ j : Nat, j < 512 → F 338 j = 0) : tS F [] := by
  refine ⟨h8, ⟨fun i hi => absurd hi (by simp), fun z hz' => Or.inl (hz z hz'), fun i hi => absurd hi (by simp)⟩, fun i hi => absurd hi (by simp), ?_⟩
  rw [cnz_0 hz]
  exact Nat.zero_le _
/-- what look() leaves -/
def lkE (F F' : fl_N) (mo : Int) : Prop := (gC F (F 120 4) ∧ F' 331 11 = 1 ∧ F' 331 10 = 0 ∧ F' 331 12 = 0) ∨ (¬ gC F (F 120 4) ∧ ((F' 331 11 = 1 ∧ F' 331 10 = 0 ∧ 1 ≤ F' 331 12 ∧ ∃ j, resu (pC F) mo.toNat j [(F 120 4, 0)] 0 (F' 331 12)) ∨ (F' 331 11 = 0 ∧ F' 331 10 = 1 ∧ ∃ j, resu (pC F) mo.toNat j [(F 120 4, 0)] 3 0) ∨ (F' 331 11 = 0 ∧ F' 331 10 = 0 ∧ ∃ j, resu (pC F) mo.toNat j [(F 120 4, 0)] 0 (-1))))
theorem pr_b {F : fl_N} (hg : gi F) (s : Nat) (hs : s < (pC F).1) (h : ∀ s : Nat, (s : Int) < F 120 3 → 1 ≤ F (126 + 5 * s) 2) : 1 ≤ (pC F).2.1 s ∧ (pC F).2.1 s ≤ 999 := by
  have hs' : (s : Int) < F 120 3 := by
    rw [pC_n] at hs
    omega
  have hb : 0 ≤ F 120 3 ∧ F 120 3 ≤ 41 := gi_g hg rfl
  rw [pC_p hs']
  exact ⟨h s hs', (prc_b hg (by omega)).2⟩
theorem pr_a {F : fl_N} {pa : Nat → Int} (s : Nat) (hs : s < (pC F).1) (h : ∀ s : Nat, (s : Int) < F 120 3 → ∃ a, a < 5 ∧ F (126 + 5 * s) 2 = pa a) : ∃ a, a < 5 ∧ (pC F).2.1 s = pa a := by
  have hs' : (s : Int) < F 120 3 := by
    rw [pC_n] at hs
    omega
  rw [pC_p hs']
  exact h s hs'
/-- what plan() answers: the number of the throw, the answer -/
def plE (F : fl_N) (mo o v : Int) : Prop := (gC F (F 120 4) ∧ o = 0 ∧ v = 0) ∨ (¬ gC F (F 120 4) ∧ ∃ j, resu (pC F) mo.toNat j [(F 120 4, 0)] o v)
theorem lkE_cg {F B F' : fl_N} {mo : Int} (hn : F 120 3 ≤ 41) (c : ∀ r k, 120 ≤ r ∧ r ≤ 330 → B r k = F r k) (h : lkE B F' mo) : lkE F F' mo := by
  have e1 : B 120 4 = F 120 4 := c 120 4 (by decide)
  have e2 : pC B = pC F := pC_cg hn c
  have e3 : gC B (F 120 4) = gC F (F 120 4) := hN_cg (d := 123) (fun k => c 123 k (by decide))
  unfold lkE at h ⊢
  rw [e1, e2, e3] at h
  exact h
theorem pl_no {F F' : fl_N} {mo : Int} (h : lkE F F' mo) (h10 : F' 331 10 = 0) (h11 : F' 331 11 = 0) : plE F mo 0 (-1) := by
  rcases h with ⟨-, h1, -⟩ | ⟨h0, ⟨h1, -⟩ | ⟨-, h1, -⟩ | ⟨-, -, h1⟩⟩
  · omega
  · omega
  · omega
  · exact Or.inr ⟨h0, h1⟩
theorem pl_fd {F F' : fl_N} {mo : Int} (h : lkE F F' mo) (h10 : F' 331 10 = 0) (h11 : ¬ F' 331 11 = 0) : plE F mo 0 (F' 331 12) := by
  rcases h with ⟨h0, -, -, h1⟩ | ⟨h0, ⟨-, -, -, h1⟩ | ⟨h1, -⟩ | ⟨h1, -⟩⟩
  · exact Or.inl ⟨h0, rfl, h1⟩
  · exact Or.inr ⟨h0, h1⟩
  · exact absurd h1 h11
  · exact absurd h1 h11
theorem pl_cr {F F' : fl_N} {mo : Int} (h : lkE F F' mo) (h10 : ¬ F' 331 10 = 0) : plE F mo 3 0 := by
  rcases h with ⟨-, -, h1, -⟩ | ⟨h0, ⟨-, h1, -⟩ | ⟨-, -, h1⟩ | ⟨-, h1, -⟩⟩
  · exact absurd h1 h10
  · exact absurd h1 h10
  · exact Or.inr ⟨h0, h1⟩
  · exact absurd h1 h10

/-! the reference's search and the plain one -/
noncomputable def pR (F : fl_N) : pp_T := ((F 344 39).toNat, fun s => if (s : Int) < F 344 39 then F 357 (F 367 s).toNat else 1, fun s x => (s : Int) < F 344 39 ∧ cbe F (s : Int) x, fun s x => if (s : Int) < F 344 39 then dne F (s : Int) x else 0, fun x => gR F x)
theorem pR_n {F : fl_N} : (pR F).1 = (F 344 39).toNat := rfl
theorem pR_p {F : fl_N} {s : Nat} (h : (s : Int) < F 344 39) : (pR F).2.1 s = F 357 (F 367 s).toNat := if_pos h
def tR (F : fl_N) (T : tb_T) : Prop := F 344 49 = (T.length : Int) ∧ hsz hsh (F 373) (F 378) T ∧ ∀ i, i < T.length → F 374 i = ca T i
theorem slr_z {F : fl_N} {f z : Int} (h : slr F f z) : slz hsh (F 373) (F 378) f z.toNat := by
  obtain ⟨m, e, h1, h2⟩ := h
  exact ⟨m, by unfold ppr; rw [e], h1, fun i hi h9 => h2 i hi h9⟩
/-- the steps before (i, s) -/
def bfr (q : Nat × Nat) (i s : Nat) : Prop := q.1 < i ∨ (q.1 = i ∧ q.2 < s)
def nq (P : pp_T) (T : tb_T) (q : Nat × Nat) : Prop := (q.1 < T.length ∧ q.2 < P.1) ∧ P.2.2.1 q.2 (xa T q.1) ∧ has T (nxs P T q) = false
def cq (P : pp_T) (T : tb_T) (q : Nat × Nat) : Int := ca T q.1 + P.2.1 q.2
def nxI (P : pp_T) (T : tb_T) (i s : Nat) (b : Int) : Prop := (b = -1 ∧ ∀ q, bfr q i s → ¬ nq P T q) ∨ ∃ q0, bfr q0 i s ∧ nq P T q0 ∧ b = cq P T q0 ∧ 0 ≤ b ∧ ∀ q, bfr q i s → nq P T q → b ≤ cq P T q
theorem bfr_s {q : Nat × Nat} {i s : Nat} (h : bfr q i (s + 1)) : bfr q i s ∨ q = (i, s) := by
  rcases h with h | ⟨h1, h2⟩
  · exact Or.inl (Or.inl h)
  · by_cases e : q.2 = s
    · exact Or.inr (Prod.ext h1 e)
    · exact Or.inl (Or.inr ⟨h1, by omega⟩)
theorem bfr_w {q : Nat × Nat} {i s : Nat} (h : bfr q i s) : bfr q i (s + 1) := by
  rcases h with h | ⟨h1, h2⟩
  · exact Or.inl h
  · exact Or.inr ⟨h1, by omega⟩
theorem nxI_0 {P : pp_T} {T : tb_T} : nxI P T 0 0 (-1) := Or.inl ⟨rfl, fun q h => by
  rcases h with h | ⟨-, h⟩
  · exact absurd h (by omega)
  · exact absurd h (by omega)⟩
theorem nxI_s {P : pp_T} {T : tb_T} {i s : Nat} {b : Int} (h : nxI P T i s b) (hs : ¬ nq P T (i, s) ∨ (¬ b = -1 ∧ b ≤ cq P T (i, s))) : nxI P T i (s + 1) b := by
  rcases h with ⟨h1, h2⟩ | ⟨q0, h1, h2, h3, h4, h5⟩
  · refine Or.inl ⟨h1, fun q hq => ?_⟩
    rcases bfr_s hq with h6 | h6
    · exact h2 q h6
    · rw [h6]
      rcases hs with hs | hs
      · exact hs
      · exact absurd h1 hs.1
  · refine Or.inr ⟨q0, bfr_w h1, h2, h3, h4, fun q hq h7 => ?_⟩
    rcases bfr_s hq with h6 | h6
    · exact h5 q h6 h7
    · rw [h6] at h7 ⊢
      rcases hs with hs | hs
      · exact absurd h7 hs
      · exact hs.2
theorem nxI_y {P : pp_T} {T : tb_T} {i s : Nat} {b : Int} (h : nxI P T i s b) (hn : nq P T (i, s)) (h0 : 0 ≤ cq P T (i, s)) (hb : b = -1 ∨ cq P T (i, s) < b) : nxI P T i (s + 1) (cq P T (i, s)) := by
  refine Or.inr ⟨(i, s), Or.inr ⟨rfl, by show s < s + 1; omega⟩, hn, rfl, h0, fun q hq h7 => ?_⟩
  rcases bfr_s hq with h6 | h6
  · rcases h with ⟨h1, h2⟩ | ⟨q0, h1, h2, h3, h4, h5⟩
    · exact absurd h7 (h2 q h6)
    · have h8 := h5 q h6 h7
      rcases hb with hb | hb
      · omega
      · omega
  · rw [h6]
    exact Int.le_refl _
theorem nxI_r {P : pp_T} {T : tb_T} {i s : Nat} {b : Int} (h : nxI P T i s b) (hs : P.1 ≤ s) : nxI P T (i + 1) 0 b := by
  have hb : ∀ q, bfr q (i + 1) 0 → nq P T q → bfr q i s := fun q hq hn => by
    rcases hq with hq | ⟨-, hq⟩
    · by_cases e : q.1 = i
      · exact Or.inr ⟨e, by have h9 := hn.1.2; omega⟩
      · exact Or.inl (by omega)
    · exact absurd hq (by omega)
  rcases h with ⟨h1, h2⟩ | ⟨q0, h1, h2, h3, h4, h5⟩
  · exact Or.inl ⟨h1, fun q hq hn => h2 q (hb q hq hn) hn⟩
  · refine Or.inr ⟨q0, ?_, h2, h3, h4, fun q hq hn => h5 q (hb q hq hn) hn⟩
    rcases h1 with h1 | ⟨h1, -⟩
    · exact Or.inl (by omega)
    · exact Or.inl (by omega)
theorem nxI_e {P : pp_T} {T : tb_T} {i : Nat} {b : Int} (h : nxI P T i 0 b) (hi : T.length ≤ i) : (b = -1 ∧ ∀ c, ¬ nw P T c) ∨ nxt P T b := by
  have hb : ∀ q, nq P T q → bfr q i 0 := fun q hn => Or.inl (by have h9 := hn.1.1; omega)
  rcases h with ⟨h1, h2⟩ | ⟨q0, h1, h2, h3, h4, h5⟩
  · refine Or.inl ⟨h1, fun c hc => ?_⟩
    obtain ⟨q, b1, b2, b3, b4⟩ := hc
    exact h2 q (hb q ⟨b1, b3, b4⟩) ⟨b1, b3, b4⟩
  · refine Or.inr ⟨⟨q0, h2.1, h3.symm, h2.2.1, h2.2.2⟩, fun c hc => ?_⟩
    obtain ⟨q, b1, b2, b3, b4⟩ := hc
    have h6 := h5 q (hb q ⟨b1, b3, b4⟩) ⟨b1, b3, b4⟩
    unfold cq at h6
    omega
theorem cq_r {F : fl_N} {T : tb_T} {i s : Nat} (hT : tR F T) (hi : i < T.length) (hs : (s : Int) < F 344 39) : cq (pR F) T (i, s) = F 374 i + F 357 (F 367 s).toNat := by
  unfold cq
  rw [pR_p hs, ← hT.2.2 i hi]
theorem nxs_r {F : fl_N} {T : tb_T} {i s : Nat} (hT : tR F T) (hi : i < T.length) (hs : (s : Int) < F 344 39) : nxs (pR F) T (i, s) = dne F (s : Int) (F 373 i) := by
  show (if (s : Int) < F 344 39 then dne F (s : Int) (xa T i) else 0) = _
  rw [if_pos hs, ← hT.2.1.1 i hi]
theorem nq_r {F : fl_N} {T : tb_T} {i s : Nat} (hT : tR F T) (hi : i < T.length) (hs : (s : Int) < F 344 39) : nq (pR F) T (i, s) ↔ (cbe F (s : Int) (F 373 i) ∧ has T (dne F (s : Int) (F 373 i)) = false) := by
  unfold nq
  rw [nxs_r hT hi hs]
  show ((i < T.length ∧ s < (F 344 39).toNat) ∧ ((s : Int) < F 344 39 ∧ cbe F (s : Int) (xa T i)) ∧ _) ↔ _
  rw [← hT.2.1.1 i hi]
  constructor
  · rintro ⟨-, ⟨-, h1⟩, h2⟩
    exact ⟨h1, h2⟩
  · rintro ⟨h1, h2⟩
    exact ⟨⟨hi, by omega⟩, ⟨hs, h1⟩, h2⟩

/-! every step of a way is one of the steps -/
def wok (n : Nat) (w : wy_T) : Prop := ∀ x ∈ w, 0 ≤ x ∧ x < (n : Int)
def vok (n : Nat) (V : List wy_T) : Prop := ∀ v ∈ V, wok n v
theorem vok_at {n : Nat} {V : List wy_T} (h : vok n V) (i : Nat) : wok n (vat V i) := by
  unfold vat
  rw [List.getD_eq_getElem?_getD]
  cases e : V[i]? with
  | none => intro x hx; simp at hx
  | some v => exact h v (List.mem_of_getElem? e)
theorem wok_sn {n : Nat} {w : wy_T} {s : Nat} (h : wok n w) (hs : s < n) : wok n (w ++ [(s : Int)]) := by
  intro x hx
  rcases List.mem_append.mp hx with h1 | h1
  · exact h x h1
  · rw [List.mem_singleton.mp h1]
    exact ⟨by omega, by omega⟩
theorem wok_bst {n : Nat} {v w : wy_T} (h1 : wok n v) (h2 : wok n w) : wok n (bst v w) := by
  unfold bst
  split
  · exact h2
  · exact h1
theorem vok_set {n : Nat} {V : List wy_T} {k : Nat} {w : wy_T} (h : vok n V) (hw : wok n w) : vok n (V.set k w) := by
  intro v hv
  rcases List.mem_or_eq_of_mem_set hv with h1 | h1
  · exact h v h1
  · rw [h1]
    exact hw
theorem vok_vst {P : pp_T} {most : Nat} {c : Int} {old : Nat} {T : tb_T} {V : List wy_T} {q : Nat × Nat} (h : vok P.1 V) (hq : q.2 < P.1) : vok P.1 (vst P most c old T V q) := by
  have h1 := wok_sn (vok_at h q.1) hq
  unfold vst
  split
  · split
    · split
      · exact vok_set h (wok_bst (vok_at h _) h1)
      · exact h
    · split
      · intro v hv
        rcases List.mem_append.mp hv with h2 | h2
        · exact h v h2
        · rw [List.mem_singleton.mp h2]
          exact h1
      · exact h
  · exact h
theorem vok_fold {P : pp_T} {most : Nat} {c : Int} {old : Nat} : ∀ (L : List (Nat × Nat)) (Z : (tb_T × Bool) × List wy_T), (∀ q ∈ L, q.2 < P.1) → vok P.1 Z.2 → vok P.1 (L.foldl (wsv P most c old) Z).2 := by
  intro L
  induction L with
  | nil => intro Z _ h; exact h
  | cons q L ih =>
    intro Z hq h
    rw [List.foldl_cons]
    exact ih _ (fun r hr => hq r (List.mem_cons_of_mem _ hr)) (vok_vst h (hq q List.mem_cons_self))
theorem vok_lav {P : pp_T} {most : Nat} {c : Int} {T : tb_T} {V : List wy_T} (h : vok P.1 V) : vok P.1 (lav P most c T V).2 := vok_fold (prs T.length P.1) ((T, false), V) (fun q hq => (prs_mem.mp hq).2) h
theorem wok_gfold {P : pp_T} {c : Int} {T : tb_T} {V : List wy_T} (h : vok P.1 V) : ∀ (L : List (Nat × Nat)) (g : Option wy_T), (∀ q ∈ L, q.2 < P.1) → (∀ w, g = some w → wok P.1 w) → ∀ w, L.foldl (gst P c T V) g = some w → wok P.1 w := by
  intro L
  induction L with
  | nil => intro g _ hg w hw; exact hg w hw
  | cons q L ih =>
    intro g hq hg w hw
    rw [List.foldl_cons] at hw
    refine ih _ (fun r hr => hq r (List.mem_cons_of_mem _ hr)) (fun v hv => ?_) w hw
    have h1 := wok_sn (vok_at h q.1) (hq q List.mem_cons_self)
    unfold gst at hv
    split at hv
    · have h2 := Option.some.inj hv
      rw [← h2]
      cases g with
      | none => exact h1
      | some u => exact wok_bst (hg u rfl) h1
    · exact hg v hv
theorem rsv_ok {P : pp_T} {most : Nat} : ∀ (k : Nat) (T : tb_T) (V : List wy_T) (o v : Int) (w : wy_T), vok P.1 V → rsv P most k T V o v w → wok P.1 w := by
  intro k
  induction k with
  | zero => intro T V o v w _ h; exact absurd h id
  | succ k ih =>
    intro T V o v w hV h
    unfold rsv at h
    rcases h with ⟨-, -, -, h⟩ | ⟨c, -, ⟨-, -, -, h⟩ | ⟨-, -, -, -, h⟩ | ⟨-, -, h⟩⟩
    · rw [h]
      intro x hx
      simp at hx
    · exact wok_gfold hV (prs T.length P.1) none (fun q hq => (prs_mem.mp hq).2) (fun w hw => by cases hw) w h
    · rw [h]
      intro x hx
      simp at hx
    · exact ih _ _ o v w (vok_lav hV) h
theorem plF_ok {F : fl_N} {mo o v : Int} {w : wy_T} (h : plF F mo o v w) : wok (F 120 3).toNat w := by
  rcases h with ⟨-, -, -, h⟩ | ⟨-, j, h⟩
  · rw [h]
    intro x hx
    simp at hx
  · refine rsv_ok j _ _ o v w ?_ h
    intro u hu
    rw [List.mem_singleton.mp hu]
    intro x hx
    simp at hx
/-- the steps of the plan that look() leaves -/
theorem lkG_st {F B : fl_N} {mo : Int} (h : ∃ o v w, plF F mo o v w ∧ lkG B o v w) (h11 : ¬ B 331 11 = 0) : ∀ j : Nat, (j : Int) < B 335 200 → 0 ≤ B 339 j ∧ B 339 j < F 120 3 := by
  obtain ⟨o, v, w, h1, h2⟩ := h
  rcases h2 with ⟨h3, h4, h5, h6, h7, h8, h9⟩ | ⟨-, -, -, h3, -⟩ | ⟨-, -, -, h3, -⟩
  · intro j hj
    have hl : j < w.length := by omega
    have h10 := plF_ok h1 (w.getD j 0) (by rw [List.getD_eq_getElem?_getD, List.getElem?_eq_getElem hl]; exact List.getElem_mem hl)
    rw [h9 j hl]
    exact ⟨h10.1, by omega⟩
  · exact absurd h3 h11
  · exact absurd h3 h11
theorem pTx_cg {F F' : fl_N} (h0 : ∀ k, F' 16 k = F 16 k) (h1 : ∀ k, F' 106 k = F 106 k) (h2 : ∀ r k, 126 ≤ r → r < 331 → F' r k = F r k) (h3 : ∀ j, F' 339 j = F 339 j) {n : Int} (hn : n ≤ 41) : ∀ k : Nat, (∀ j : Nat, j < k → 0 ≤ F 339 j ∧ F 339 j < n) → pTx F' k = pTx F k := by
  intro k
  induction k with
  | zero => intro _; rfl
  | succ k ih =>
    intro h
    have h4 := h k (by omega)
    rw [pTx_s, pTx_s, ih (fun j hj => h j (by omega)), h3 k]
    unfold sTx
    rw [sTp_cg (h2 _ _ (by omega) (by omega)) (fun j => h2 _ _ (by omega) (by omega)) h0 h1]

/-! a step's line, as the reference tells it -/
def nkr (r : Int) : Prop := ∃ w, nm37 r w
noncomputable def nrx (r : Int) : List Int := @dite _ (nkr r) (Classical.propDecidable _) (fun h => h.choose) (fun _ => [])
theorem nrx_e {r : Int} (h : nkr r) : nm37 r (nrx r) := by
  unfold nrx
  rw [dif_pos h]
  exact h.choose_spec
noncomputable def rTp (F : fl_N) (s k : Nat) : List Int := [40] ++ (nrx (F 353 (F 367 s).toNat)).reverse ++ (List.range k).flatMap (fun p => 32 :: (nrx (F 364 (F 368 (3 * s + p)).toNat)).reverse)
noncomputable def rTx (F : fl_N) (s : Nat) : List Int := rTp F s (F 354 (F 367 s).toNat).toNat ++ [41, 10]
def rNm (F : fl_N) (s : Nat) : Prop := nkr (F 353 (F 367 s).toNat) ∧ ∀ p, p < (F 354 (F 367 s).toNat).toNat → nkr (F 364 (F 368 (3 * s + p)).toNat)
theorem rTp_s {F : fl_N} {s k : Nat} : rTp F s (k + 1) = rTp F s k ++ (32 :: (nrx (F 364 (F 368 (3 * s + k)).toNat)).reverse) := by
  unfold rTp
  rw [List.range_succ, List.flatMap_append, List.flatMap_cons, List.flatMap_nil, List.append_nil]
  exact (List.append_assoc _ _ _).symm
theorem rTp_le {F : fl_N} {s : Nat} (h : rNm F s) : ∀ k, k ≤ (F 354 (F 367 s).toNat).toNat → (rTp F s k).length ≤ 7 + 7 * k := by
  intro k
  induction k with
  | zero =>
    intro _
    have h1 := (nrx_e h.1).2.2.2
    show ([40] ++ (nrx (F 353 (F 367 s).toNat)).reverse ++ []).length ≤ 7
    rw [List.append_nil, List.length_append, List.length_reverse, List.length_singleton]
    omega
  | succ k ih =>
    intro hk
    have h1 := ih (by omega)
    have h2 := (nrx_e (h.2 k (by omega))).2.2.2
    rw [rTp_s, List.length_append, List.length_cons, List.length_reverse]
    omega
noncomputable def qTx (F : fl_N) (k : Nat) : List Int := (List.range k).flatMap (fun j => rTx F (F 381 j).toNat)
theorem qTx_s {F : fl_N} {k : Nat} : qTx F (k + 1) = qTx F k ++ rTx F (F 381 k).toNat := by
  unfold qTx
  rw [List.range_succ, List.flatMap_append, List.flatMap_cons, List.flatMap_nil, List.append_nil]
theorem qTx_le {F : fl_N} (h4 : ∀ a, (F 354 a).toNat ≤ 3) : ∀ k, (∀ j, j < k → rNm F (F 381 j).toNat) → (qTx F k).length ≤ 30 * k := by
  intro k
  induction k with
  | zero => intro _; exact Nat.le_refl _
  | succ k ih =>
    intro h
    have h1 := ih (fun j hj => h j (by omega))
    have h2 := rTp_le (h k (by omega)) _ (Nat.le_refl _)
    have h3 := h4 (F 367 (F 381 k).toNat).toNat
    rw [qTx_s, List.length_append]
    unfold rTx
    rw [List.length_append]
    show (qTx F k).length + ((rTp F (F 381 k).toNat (F 354 (F 367 (F 381 k).toNat).toNat).toNat).length + 2) ≤ 30 * (k + 1)
    omega
theorem tdr_0 {F : fl_N} {i : Int} (h1 : F 344 67 = 0) (h2 : F 344 68 = i) : tdr F i [] := ⟨h1, h2, fun x _ hx => by simp at hx⟩
theorem tdr_cg {F F' : fl_N} {i : Int} {L : List Int} (h : tdr F i L) (h1 : F' 344 67 = F 344 67) (h2 : F' 344 68 = F 344 68) (h3 : F' 344 69 = F 344 69) : tdr F' i L := by
  unfold tdr
  rw [h1, h2, h3]
  exact h
theorem tdr_at {F : fl_N} {i : Int} {L : List Int} (h : tdr F i L) (h0 : 0 ≤ i) (h1 : i < (L.length : Int)) : L[i.toNat]? = some (F 344 69) := by
  have hl : i.toNat < L.length := by omega
  rw [h.2.2 _ h0 (List.getElem?_eq_getElem hl), List.getElem?_eq_getElem hl]
theorem nm_le {r : Int} (h : nkr r) : (nrx r).length ≤ 6 := (nrx_e h).2.2.2

/-! both lines of a step are one -/
theorem nrel_6 {x r : Int} (h : nrel x r) (hr : r ≤ 2565726408) : ∃ w, nm6 x w ∧ nm37 r w := by
  obtain ⟨w, h1, h2, h3, h4⟩ := h
  have hl : w.length ≤ 6 := by
    by_cases c : w.length ≤ 6
    · exact c
    · exfalso
      have h5 := h37_ge w h1 6 (by omega)
      have h6 : (37 : Int) ^ 6 = 2565726409 := by decide
      omega
  exact ⟨w, ⟨h3, h1, hl⟩, h4, h1, h2, hl⟩
theorem nrel_tx {x r : Int} (h : nrel x r) (hr : r ≤ 2565726408) : nmk x ∧ nkr r ∧ nmx x = nrx r := by
  obtain ⟨w, h1, h2⟩ := nrel_6 h hr
  have a : nmk x := ⟨w, h1, h2.2.2.1⟩
  have b : nkr r := ⟨w, h2⟩
  refine ⟨a, b, ?_⟩
  have e1 : nmx x = w := h256_inj (nmx_e a).1.2.1 h1.2.1 ((nmx_e a).1.1.symm.trans h1.1)
  have e2 : nrx r = w := h37_inj (nrx_e b).2.1 h2.2.1 ((nrx_e b).1.symm.trans h2.1)
  rw [e1, e2]
theorem rr_nrel {g g' : Nat → Int} {n n' : Int} {l : List Int} (h : rep g n l) (h' : rpn g' n' l) {j : Nat} (hj : j < l.length) : nrel (g j) (g' j) := by
  have h1 := h.2 j l[j] (List.getElem?_eq_getElem hj)
  rw [h1]
  exact h'.2 j l[j] (List.getElem?_eq_getElem hj)
theorem flat_3 {f g : Nat → List Int} {k : Nat} (hk : k ≤ 3) (h1 : ∀ j, j < k → f j = g j) (h2 : ∀ j, k ≤ j → j < 3 → f j = []) : (List.range 3).flatMap f = (List.range k).flatMap g := by
  rw [show List.range 3 = [0, 1, 2] from rfl]
  rcases (show k = 0 ∨ k = 1 ∨ k = 2 ∨ k = 3 by omega) with rfl | rfl | rfl | rfl
  · rw [show List.range 0 = [] from rfl]
    simp [h2 0 (by omega) (by omega), h2 1 (by omega) (by omega), h2 2 (by omega) (by omega)]
  · rw [show List.range 1 = [0] from rfl]
    simp [h1 0 (by omega), h2 1 (by omega) (by omega), h2 2 (by omega) (by omega)]
  · rw [show List.range 2 = [0, 1] from rfl]
    simp [h1 0 (by omega), h1 1 (by omega), h2 2 (by omega) (by omega)]
  · rw [show List.range 3 = [0, 1, 2] from rfl]
    simp [h1 0 (by omega), h1 1 (by omega), h1 2 (by omega)]
def tA (F : fl_N) (s : Nat) : Prop := sNm F (126 + 5 * s) ∧ rNm F s ∧ sTx F (126 + 5 * s) = rTx F s
theorem vld_at {n k x j : Nat} (h : vld n k x = true) (hj : j < k) (h3 : j < 3) : gvn x j < n := by
  unfold vld at h
  have h1 := List.all_eq_true.mp h j (List.mem_range.mpr h3)
  rw [if_pos hj] at h1
  exact of_decide_eq_true h1
theorem tA_of {F : fl_N} {tl al l : List Int} {D : List ad_T} {na nb no np : Int} (hg : gi F) (a3 : sts F D (stP tl D D.length)) (a5 : rsts F D (stP tl D D.length)) (a6 : rdar F D) (hD3 : ∀ d ∈ D, d.1.length ≤ 3) (h1 : rep (F 16) na al) (h2 : rpn (F 353) nb al) (hal : D.length ≤ al.length) (h3 : rep (F 106) no l) (h4 : rpn (F 364) np l) (hl : tl.length ≤ l.length) {s : Nat} (hs : s < (stP tl D D.length).length) : tA F s := by
  obtain ⟨st, hst⟩ : ∃ st, (stP tl D D.length)[s]? = some st := ⟨_, List.getElem?_eq_getElem hs⟩
  obtain ⟨o1, o2, -⟩ := stP_ok (List.mem_of_getElem? hst)
  obtain ⟨b1, ⟨b2, b4⟩, -⟩ := a3 s st hst
  obtain ⟨d1, d2, -⟩ := a5 s st hst
  have r1 := a6 st.1 (dat D st.1) (dat_get o1)
  have hk3 := hD3 (dat D st.1) (dat_mem o1)
  have e354 : F 354 st.1 = ((dat D st.1).1.length : Int) := r1.1.1
  have b353 : ∀ a, F 353 a ≤ 2565726408 := fun a => (gi_g (a := 0) (b := 2565726408) hg (r := 353) (k := a) rfl).2
  have b364 : ∀ a, F 364 a ≤ 2565726408 := fun a => (gi_g (a := 0) (b := 2565726408) hg (r := 364) (k := a) rfl).2
  obtain ⟨n1, n2, n3⟩ := nrel_tx (rr_nrel h1 h2 (j := st.1) (by omega)) (b353 st.1)
  have ob : ∀ j, j < (dat D st.1).1.length → nmk (F 106 (gvn st.2 j)) ∧ nkr (F 364 (gvn st.2 j)) ∧ nmx (F 106 (gvn st.2 j)) = nrx (F 364 (gvn st.2 j)) := fun j hj => nrel_tx (rr_nrel h3 h4 (j := gvn st.2 j) (by have h9 := vld_at o2 hj (by omega); omega)) (b364 _)
  have eA : (F (126 + 5 * s) 0).toNat = st.1 := by rw [b1]; exact Int.toNat_natCast _
  have eR : (F 367 s).toNat = st.1 := by rw [d1]; exact Int.toNat_natCast _
  have e4 : (F 354 (F 367 s).toNat).toNat = (dat D st.1).1.length := by rw [eR, e354]; exact Int.toNat_natCast _
  have eo : ∀ j, j < (dat D st.1).1.length → (F (126 + 5 * s + 1) j).toNat = gvn st.2 j := fun j hj => by rw [b2 j hj]; exact Int.toNat_natCast _
  have ep : ∀ j, j < (dat D st.1).1.length → (F 368 (3 * s + j)).toNat = gvn st.2 j := fun j hj => by rw [d2 j (by omega), if_pos hj]; exact Int.toNat_natCast _
  have hneg : ∀ j, j < 3 → 0 ≤ F (126 + 5 * s + 1) j → j < (dat D st.1).1.length := fun j hj h9 => by
    by_cases c : j < (dat D st.1).1.length
    · exact c
    · rw [b4 j (by omega) hj] at h9
      omega
  refine ⟨⟨by rw [eA]; exact n1, fun j hj h9 => by rw [eo j (hneg j hj h9)]; exact (ob j (hneg j hj h9)).1⟩, ⟨by rw [eR]; exact n2, fun j hj => ?_⟩, ?_⟩
  · rw [e4] at hj
    rw [ep j hj]
    exact (ob j hj).2.1
  · unfold sTx rTx sTp rTp
    rw [eA, eR, ← eR, e4, eR, n3]
    congr 2
    refine flat_3 hk3 (fun j hj => ?_) (fun j h9 h8 => ?_)
    · rw [if_pos (by rw [b2 j hj]; omega), eo j hj, ep j hj, (ob j hj).2.2]
    · rw [if_neg (by rw [b4 j h9 h8]; omega)]

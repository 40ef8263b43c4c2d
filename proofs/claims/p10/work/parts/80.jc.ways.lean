/-! a part of a layer, with ways -/
noncomputable def gZ (P : pp_T) (most : Nat) (c : Int) (T : tb_T) (V : List wy_T) (i s : Nat) : (tb_T × Bool) × List wy_T := (rowp i s).foldl (wsv P most c T.length) ((prs i P.1).foldl (wsv P most c T.length) ((T, false), V))
theorem gZ_1 {P : pp_T} {most : Nat} {c : Int} {T : tb_T} {V : List wy_T} {i s : Nat} : (gZ P most c T V i s).1 = gW P most c T i s := by
  unfold gZ
  rw [fsv_1, fsv_1]
  rfl
theorem gZ_s {P : pp_T} {most : Nat} {c : Int} {T : tb_T} {V : List wy_T} {i s : Nat} : (gZ P most c T V i (s + 1)).2 = vst P most c T.length (gW P most c T i s).1 (gZ P most c T V i s).2 (i, s) := by
  rw [← gZ_1 (V := V)]
  show ((rowp i (s + 1)).foldl (wsv P most c T.length) _).2 = _
  rw [rowp_s, List.foldl_append]
  rfl
theorem gZ_r {P : pp_T} {most : Nat} {c : Int} {T : tb_T} {V : List wy_T} {i : Nat} : gZ P most c T V (i + 1) 0 = gZ P most c T V i P.1 := by
  unfold gZ
  rw [prs_s, List.foldl_append]
  rfl
theorem gZ_0 {P : pp_T} {most : Nat} {c : Int} {T : tb_T} {V : List wy_T} : gZ P most c T V 0 0 = ((T, false), V) := rfl
theorem gZ_e {P : pp_T} {most : Nat} {c : Int} {T : tb_T} {V : List wy_T} {i : Nat} (h : i = T.length) : gZ P most c T V i 0 = lav P most c T V := by
  subst h
  rfl
theorem gW_wn {P : pp_T} {most : Nat} {c : Int} {T : tb_T} {i s : Nat} (hi : i < T.length) : way P (gW P most c T i s).1 c (i, s) = way P T c (i, s) ∧ nxs P (gW P most c T i s).1 (i, s) = nxs P T (i, s) := by
  obtain ⟨N, hN, -⟩ := gW_c (P := P) (most := most) (c := c) (T := T) (i := i) (s := s)
  rw [hN]
  exact ⟨way_app hi, nxs_app hi⟩
theorem vz_n {P : pp_T} {most : Nat} {c : Int} {T : tb_T} {V : List wy_T} {i s : Nat} (hi : i < T.length) (h : ¬ way P T c (i, s) = true) : (gZ P most c T V i (s + 1)).2 = (gZ P most c T V i s).2 := by
  rw [gZ_s]
  unfold vst
  rw [(gW_wn hi).1, if_neg]
  intro h1
  rw [Bool.and_eq_true] at h1
  exact h h1.1
theorem vz_w {P : pp_T} {most : Nat} {c : Int} {T : tb_T} {V : List wy_T} {i s : Nat} (hi : i < T.length) (hs : s < P.1) (hg : gol P c T = false) (h : way P T c (i, s) = true) : (gZ P most c T V i (s + 1)).2 = if has (gW P most c T i s).1 (nxs P T (i, s)) = true then (if T.length ≤ ixo (gW P most c T i s).1 (nxs P T (i, s)) then (gZ P most c T V i s).2.set (ixo (gW P most c T i s).1 (nxs P T (i, s))) (bst (vat (gZ P most c T V i s).2 (ixo (gW P most c T i s).1 (nxs P T (i, s)))) (vat (gZ P most c T V i s).2 i ++ [(s : Int)])) else (gZ P most c T V i s).2) else if (gW P most c T i s).1.length < most then (gZ P most c T V i s).2 ++ [vat (gZ P most c T V i s).2 i ++ [(s : Int)]] else (gZ P most c T V i s).2 := by
  rw [gZ_s]
  unfold vst
  rw [(gW_wn hi).1, (gW_wn hi).2, if_pos]
  rw [h, dc_f.mpr (gol_no hg hi hs h)]
  rfl
theorem vz_o {P : pp_T} {most : Nat} {c : Int} {T : tb_T} {V : List wy_T} {i s k : Nat} (hi : i < T.length) (hs : s < P.1) (hg : gol P c T = false) (h : way P T c (i, s) = true) (hd : dst (gW P most c T i s).1) (hk : k < (gW P most c T i s).1.length) (hx : xa (gW P most c T i s).1 k = nxs P T (i, s)) (hko : k < T.length) : (gZ P most c T V i (s + 1)).2 = (gZ P most c T V i s).2 := by
  obtain ⟨h1, h2⟩ := ixo_at hd hk hx
  rw [vz_w hi hs hg h, if_pos h2, h1, if_neg (by omega)]
theorem vz_k {P : pp_T} {most : Nat} {c : Int} {T : tb_T} {V : List wy_T} {i s k : Nat} (hi : i < T.length) (hs : s < P.1) (hg : gol P c T = false) (h : way P T c (i, s) = true) (hd : dst (gW P most c T i s).1) (hk : k < (gW P most c T i s).1.length) (hx : xa (gW P most c T i s).1 k = nxs P T (i, s)) (hko : T.length ≤ k) : (gZ P most c T V i (s + 1)).2 = (gZ P most c T V i s).2.set k (bst (vat (gZ P most c T V i s).2 k) (vat (gZ P most c T V i s).2 i ++ [(s : Int)])) := by
  obtain ⟨h1, h2⟩ := ixo_at hd hk hx
  rw [vz_w hi hs hg h, if_pos h2, h1, if_pos hko]
theorem vz_a {P : pp_T} {most : Nat} {c : Int} {T : tb_T} {V : List wy_T} {i s : Nat} (hi : i < T.length) (hs : s < P.1) (hg : gol P c T = false) (h : way P T c (i, s) = true) (hno : has (gW P most c T i s).1 (nxs P T (i, s)) = false) (hm : (gW P most c T i s).1.length < most) : (gZ P most c T V i (s + 1)).2 = (gZ P most c T V i s).2 ++ [vat (gZ P most c T V i s).2 i ++ [(s : Int)]] := by
  rw [vz_w hi hs hg h, hno, if_neg (by decide), if_pos hm]
theorem set_vat {V : List wy_T} {k : Nat} (h : k < V.length) : V.set k (vat V k) = V := by
  unfold vat
  rw [List.getD_eq_getElem?_getD, List.getElem?_eq_getElem h]
  exact List.set_getElem_self h
theorem gW_dst {P : pp_T} {most : Nat} {c : Int} {T : tb_T} {i s : Nat} (hd : dst T) : dst (gW P most c T i s).1 := fold_dst (rowp i s) (lyW P most c T i) (fold_dst (prs i P.1) (T, false) hd)

/-! grow with ways -/
theorem wsv_len {P : pp_T} {most : Nat} {c : Int} {old : Nat} {Z : (tb_T × Bool) × List wy_T} {q : Nat × Nat} (h : Z.2.length = Z.1.1.length) : (wsv P most c old Z q).2.length = (wsv P most c old Z q).1.1.length := by
  show (vst P most c old Z.1.1 Z.2 q).length = (wst P most c Z.1 q).1.length
  unfold vst wst
  by_cases h1 : (way P Z.1.1 c q && !dc (P.2.2.2.2 (nxs P Z.1.1 q))) = true
  · rw [if_pos h1, h1, Bool.true_and]
    cases h2 : has Z.1.1 (nxs P Z.1.1 q) with
    | true =>
      rw [if_pos (show true = true from rfl), if_neg (show ¬ (!true) = true by decide)]
      split
      · rw [List.length_set]
        exact h
      · exact h
    | false =>
      rw [if_neg (show ¬ (false = true) by decide), if_pos (show (!false) = true from rfl)]
      by_cases h3 : Z.1.1.length < most
      · rw [if_pos h3, if_pos h3, List.length_append, List.length_append, h]
        rfl
      · rw [if_neg h3, if_neg h3]
        exact h
  · rw [if_neg h1, if_neg]
    · exact h
    · intro h2
      rw [Bool.and_eq_true] at h2
      exact h1 h2.1
theorem fsv_len {P : pp_T} {most : Nat} {c : Int} {old : Nat} : ∀ (L : List (Nat × Nat)) (Z : (tb_T × Bool) × List wy_T), Z.2.length = Z.1.1.length → (L.foldl (wsv P most c old) Z).2.length = (L.foldl (wsv P most c old) Z).1.1.length := by
  intro L
  induction L with
  | nil => intro Z h; exact h
  | cons q L ih => intro Z h; rw [List.foldl_cons]; exact ih _ (wsv_len h)
theorem gZ_len {P : pp_T} {most : Nat} {c : Int} {T : tb_T} {V : List wy_T} {i s : Nat} (h : V.length = T.length) : (gZ P most c T V i s).2.length = (gW P most c T i s).1.length := by
  rw [← gZ_1 (V := V)]
  exact fsv_len (rowp i s) _ (fsv_len (prs i P.1) ((T, false), V) h)
theorem sl_ix {F : fl_N} {T : tb_T} {f z : Int} (hT : tR F T) (hs : slr F f z) (hr : 1 ≤ F 378 z.toNat ∧ F 378 z.toNat ≤ (T.length : Int)) : xa T (F 378 z.toNat - 1).toNat = f := by
  obtain ⟨m, e, h1, -⟩ := hs
  rcases h1 with h1 | h1
  · omega
  · rw [← hT.2.1.1 _ (by omega)]
    exact h1
theorem chn_kv {ln pr ls : Nat → Int} {V : List wy_T} {b : Int} (h : chn ln pr ls V b) {n : Nat} (hn : n < V.length) (h0 : 0 < n) : (0 ≤ pr n ∧ (pr n).toNat < V.length) ∧ ln n = ((vat V (pr n).toNat).length : Int) + 1 := by
  obtain ⟨h1, h2⟩ := h.2 n hn
  obtain ⟨⟨a1, a2, -⟩, a3⟩ := h2 h0
  refine ⟨⟨a1, by omega⟩, ?_⟩
  rw [h1, a3, List.length_append, List.length_singleton]
  omega

/-! plan with ways -/
theorem lav_len {P : pp_T} {most : Nat} {c : Int} {T : tb_T} {V : List wy_T} (h : V.length = T.length) : (lav P most c T V).2.length = (lay P most c T).1.length := by
  rw [← lav_1 (V := V)]
  exact fsv_len (prs T.length P.1) ((T, false), V) h
theorem lay_dst {P : pp_T} {most : Nat} {c : Int} {T : tb_T} (hd : dst T) : dst (lay P most c T).1 := fold_dst (prs T.length P.1) (T, false) hd
theorem rv_none {P : pp_T} {most : Nat} {T0 T : tb_T} {V0 V : List wy_T} (h0 : cmv P most T0 V0 T V) (h : ∀ c, ¬ nw P T c) : ∃ k, rsv P most k T0 V0 0 (-1) [] := by
  refine h0 1 0 (-1) [] ?_
  unfold rsv
  exact Or.inl ⟨h, rfl, rfl, rfl⟩
theorem rv_gol {P : pp_T} {most : Nat} {T0 T : tb_T} {V0 V : List wy_T} {c : Int} {w : wy_T} (h0 : cmv P most T0 V0 T V) (hn : nxt P T c) (hg : gol P c T = true) (hw : gov P c T V = some w) : ∃ k, rsv P most k T0 V0 0 c w := by
  refine h0 1 0 c w ?_
  unfold rsv
  exact Or.inr ⟨c, hn, Or.inl ⟨hg, rfl, rfl, hw⟩⟩
theorem rv_crw {P : pp_T} {most : Nat} {T0 T : tb_T} {V0 V : List wy_T} {c : Int} (h0 : cmv P most T0 V0 T V) (hn : nxt P T c) (hg : gol P c T = false) (hc : (lay P most c T).2 = true) : ∃ k, rsv P most k T0 V0 3 0 [] := by
  refine h0 1 3 0 [] ?_
  unfold rsv
  exact Or.inr ⟨c, hn, Or.inr (Or.inl ⟨hg, hc, rfl, rfl, rfl⟩)⟩
theorem rv_lay {P : pp_T} {most : Nat} {T0 T : tb_T} {V0 V : List wy_T} {c : Int} (h0 : cmv P most T0 V0 T V) (hn : nxt P T c) (hg : gol P c T = false) (hc : (lay P most c T).2 = false) : cmv P most T0 V0 (lay P most c T).1 (lav P most c T V).2 := fun k o v w hr => by
  refine h0 (k + 1) o v w ?_
  unfold rsv
  exact Or.inr ⟨c, hn, Or.inr (Or.inr ⟨hg, hc, hr⟩)⟩
/-- what the reference's plan() answers, and the way -/
def plV (F : fl_N) (mo o v : Int) (w : wy_T) : Prop := (gR F (F 344 38) ∧ o = 0 ∧ v = 0 ∧ w = []) ∨ (¬ gR F (F 344 38) ∧ ∃ j, rsv (pR F) mo.toNat j [(F 344 38, 0)] [[]] o v w)
/-- what it keeps of it -/
def plK (F' : fl_N) (o v : Int) (w : wy_T) : Prop := (¬ (o = 0 ∧ 0 ≤ v) ∧ F' 344 13 = 0) ∨ (o = 0 ∧ 0 ≤ v ∧ F' 344 13 = 1 ∧ F' 344 58 = (w.length : Int) ∧ ∀ j : Nat, j < w.length → F' 381 j = w.getD j 0)

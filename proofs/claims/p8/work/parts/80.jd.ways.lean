/-! comeTo of the class, with ways -/
def gHc (F : fl_N) (V : List wy_T) (ob : Int) (g : Option wy_T) : Prop := (F 331 11 = 0 ∧ g = none ∧ F 335 200 = 2147483647) ∨ (F 331 11 = 1 ∧ g = some (vat V (F 336 200).toNat ++ [F 337 200]) ∧ (0 ≤ F 336 200 ∧ (F 336 200).toNat < V.length ∧ F 336 200 < ob) ∧ F 335 200 = ((vat V (F 336 200).toNat).length : Int) + 1)
theorem gHc_cg {F F' : fl_N} {V : List wy_T} {ob : Int} {g : Option wy_T} (h : gHc F V ob g) (h0 : F' 331 11 = F 331 11) (h1 : F' 335 200 = F 335 200) (h2 : F' 336 200 = F 336 200) (h3 : F' 337 200 = F 337 200) : gHc F' V ob g := by
  unfold gHc
  rw [h0, h1, h2, h3]
  exact h
theorem gHc_V {F : fl_N} {V V' : List wy_T} {ob : Int} {g : Option wy_T} (h : gHc F V ob g) (hl : V.length ≤ V'.length) (he : ∀ i : Nat, (i : Int) < ob → vat V' i = vat V i) : gHc F V' ob g := by
  rcases h with h | ⟨h1, h2, ⟨h3, h4, h5⟩, h6⟩
  · exact Or.inl h
  · have e := he (F 336 200).toNat (by omega)
    refine Or.inr ⟨h1, ?_, ⟨h3, by omega, h5⟩, ?_⟩
    · rw [e]
      exact h2
    · rw [e]
      exact h6
theorem gHc_wy {F : fl_N} {V : List wy_T} {ob : Int} {g : Option wy_T} (h : gHc F V ob g) : hwy F V 200 := by
  intro h0
  rcases h with ⟨-, -, h1⟩ | ⟨-, -, ⟨h1, h2, -⟩, h3⟩
  · omega
  · exact ⟨⟨h1, h2⟩, h3⟩
theorem ofr_btr {F : fl_N} {V : List wy_T} {w fm : Nat} {nb : Int} (h1 : F 335 fm = ((vat V fm).length : Int)) (h2 : F 335 w = ((vat V (F 336 w).toNat).length : Int) + 1) : ofr F V w fm nb ↔ btr (vat V fm ++ [nb]) (vat V (F 336 w).toNat ++ [F 337 w]) := by
  unfold ofr btr
  rw [h1, h2, List.length_append, List.length_append, List.length_singleton, List.length_singleton]
  constructor
  · rintro (h | ⟨h, h3⟩)
    · exact Or.inl (by omega)
    · exact Or.inr ⟨by omega, h3⟩
  · rintro (h | ⟨h, h3⟩)
    · exact Or.inl (by omega)
    · exact Or.inr ⟨by omega, h3⟩
theorem hwy_cg {F F' : fl_N} {V : List wy_T} {w : Nat} (h : hwy F V w) (h1 : F' 335 w = F 335 w) (h2 : F' 336 w = F 336 w) : hwy F' V w := by
  unfold hwy
  rw [h1, h2]
  exact h
/-- offer to the goal -/
theorem ghc_of {F Fa F' : fl_N} {V : List wy_T} {ob : Int} {g : Option wy_T} {fm : Nat} {nb : Int} (h : gHc F V ob g) (a5 : Fa 335 200 = F 335 200) (a6 : Fa 336 200 = F 336 200) (a7 : Fa 337 200 = F 337 200) (hf : fm < V.length) (hb : (fm : Int) < ob) (hl : Fa 335 fm = ((vat V fm).length : Int)) (hl2 : (vat V fm).length ≤ 200) (he : ofE Fa F' V 200 fm nb) (h11 : F' 331 11 = 1) : gHc F' V ob (some (match (generalizing := false) g with | none => vat V fm ++ [nb] | some v => bst v (vat V fm ++ [nb]))) := by
  rcases h with ⟨-, h2, h3⟩ | ⟨-, h2, h3, h4⟩
  · subst h2
    have ho : ofr Fa V 200 fm nb := Or.inl (by rw [a5, h3, hl]; omega)
    rcases he with ⟨-, e1, e2, e3⟩ | ⟨e0, -⟩
    · refine Or.inr ⟨h11, ?_, ?_, ?_⟩
      · rw [e2, e3, show ((fm : Int)).toNat = fm by omega]
      · rw [e2]
        exact ⟨by omega, by omega, hb⟩
      · rw [e1, e2, hl, show ((fm : Int)).toNat = fm by omega]
    · exact absurd ho e0
  · subst h2
    have hi := ofr_btr (nb := nb) (w := 200) hl (by rw [a5, a6]; exact h4)
    rw [a6, a7] at hi
    rcases he with ⟨e0, e1, e2, e3⟩ | ⟨e0, e1, e2, e3⟩
    · refine Or.inr ⟨h11, ?_, ?_, ?_⟩
      · show some (bst _ _) = _
        rw [bst_y (hi.mp e0), e2, e3, show ((fm : Int)).toNat = fm by omega]
      · rw [e2]
        exact ⟨by omega, by omega, hb⟩
      · rw [e1, e2, hl, show ((fm : Int)).toNat = fm by omega]
    · refine Or.inr ⟨h11, ?_, ?_, ?_⟩
      · show some (bst _ _) = _
        rw [bst_n (fun h9 => e0 (hi.mpr h9)), e2, e3, a6, a7]
      · rw [e2, a6]
        exact h3
      · rw [e1, e2, a5, a6]
        exact h4
/-- offer to an entry of this layer -/
theorem chn_of {F F' : fl_N} {V : List wy_T} {ob : Int} {k fm : Nat} {nb : Int} (hc : chn (F 335) (F 336) (F 337) V ob) (hk : k < V.length) (h0 : 0 < k) (hkb : ob ≤ (k : Int)) (hf : fm < V.length) (hb : (fm : Int) < ob) (he : ofE F F' V k fm nb) (o5 : ∀ i : Nat, ¬ i = k → F' 335 i = F 335 i) (o6 : ∀ i : Nat, ¬ i = k → F' 336 i = F 336 i ∧ F' 337 i = F 337 i) : chn (F' 335) (F' 336) (F' 337) (V.set k (bst (vat V k) (vat V fm ++ [nb]))) ob := by
  obtain ⟨q1, q2⟩ := chn_kv hc hk h0
  have q3 := ((hc.2 k hk).2 h0).2
  have hi := ofr_btr (nb := nb) (w := k) (hc.2 fm hf).1 q2
  rw [← q3] at hi
  rcases he with ⟨e0, e1, e2, e3⟩ | ⟨e0, e1, e2, e3⟩
  · rw [bst_y (hi.mp e0)]
    exact chn_set hc hk hkb hb (fun i _ h => o5 i h) (fun i _ h => (o6 i h).1) (fun i _ h => (o6 i h).2) e1 e2 e3
  · rw [bst_n (fun h9 => e0 (hi.mpr h9)), set_vat hk]
    refine chn_cg hc (fun i _ => ?_) (fun i _ => ?_) (fun i _ => ?_)
    · by_cases e : i = k
      · rw [e]
        exact e1
      · exact o5 i e
    · by_cases e : i = k
      · rw [e]
        exact e2
      · exact (o6 i e).1
    · by_cases e : i = k
      · rw [e]
        exact e3
      · exact (o6 i e).2
/-- offer to a new entry -/
theorem chn_nw {F Fa F' : fl_N} {V : List wy_T} {ob : Int} {fm : Nat} {nb : Int} (hc : chn (F 335) (F 336) (F 337) V ob) (hV : 0 < V.length) (hf : fm < V.length) (hb : (fm : Int) < ob) (a5 : ∀ i : Nat, i < V.length → Fa 335 i = F 335 i) (a6 : ∀ i : Nat, i < V.length → Fa 336 i = F 336 i) (a7 : ∀ i : Nat, i < V.length → Fa 337 i = F 337 i) (hN : Fa 335 V.length = 2147483647) (hl : (vat V fm).length ≤ 200) (he : ofE Fa F' V V.length fm nb) (o5 : ∀ i : Nat, ¬ i = V.length → F' 335 i = Fa 335 i) (o6 : ∀ i : Nat, ¬ i = V.length → F' 336 i = Fa 336 i ∧ F' 337 i = Fa 337 i) : chn (F' 335) (F' 336) (F' 337) (V ++ [vat V fm ++ [nb]]) ob := by
  have hlf := (hc.2 fm hf).1
  have ho : ofr Fa V V.length fm nb := Or.inl (by rw [hN, a5 fm hf, hlf]; omega)
  rcases he with ⟨-, e1, e2, e3⟩ | ⟨e0, -⟩
  · exact chn_add hc hV hf hb (fun i h => (o5 i (by omega)).trans (a5 i h)) (fun i h => ((o6 i (by omega)).1).trans (a6 i h)) (fun i h => ((o6 i (by omega)).2).trans (a7 i h)) (by rw [e1, a5 fm hf]) e2 e3
  · exact absurd ho e0
noncomputable def ctV (F : fl_N) (T : tb_T) (V : List wy_T) (old : Nat) (st : Int) (fm : Nat) (nb : Int) : List wy_T := if dc (gC F st) = true then V else if has T st = true then (if old ≤ ixo T st then V.set (ixo T st) (bst (vat V (ixo T st)) (vat V fm ++ [nb])) else V) else if (T.length : Int) < F 331 9 then V ++ [vat V fm ++ [nb]] else V
noncomputable def ctG (F : fl_N) (V : List wy_T) (g : Option wy_T) (st : Int) (fm : Nat) (nb : Int) : Option wy_T := if dc (gC F st) = true then some (match g with | none => vat V fm ++ [nb] | some v => bst v (vat V fm ++ [nb])) else g
def ctv (F F' : fl_N) (T : tb_T) (V : List wy_T) (g : Option wy_T) (old : Nat) (st : Int) (fm : Nat) (nb : Int) : Prop := chn (F' 335) (F' 336) (F' 337) (ctV F T V old st fm nb) (old : Int) ∧ gHc F' (ctV F T V old st fm nb) (old : Int) (ctG F V g st fm nb)

/-! comeTo: what it does to the ways, put together -/
theorem ctV_v {P : pp_T} {F : fl_N} {T : tb_T} {V : List wy_T} {old fm k : Nat} {st c mo : Int} (hm : F 331 9 = mo) (hmo : 0 ≤ mo) (hw : way P T c (fm, k) = true) (he : nxs P T (fm, k) = st) (hg : gC F st ↔ P.2.2.2.2 st) : ctV F T V old st fm (k : Int) = vst P mo.toNat c old T V (fm, k) := by
  unfold ctV vst
  rw [hw, he]
  by_cases h : P.2.2.2.2 st
  · rw [if_pos (dc_t.mpr (hg.mpr h)), if_neg]
    rw [dc_t.mpr h]
    decide
  · rw [if_neg (fun h1 => h (hg.mp (dc_t.mp h1))), if_pos (show (true && !dc (P.2.2.2.2 st)) = true by rw [dc_f.mpr h]; rfl)]
    by_cases h2 : has T st = true
    · rw [if_pos h2, if_pos h2]
    · rw [if_neg h2, if_neg h2]
      by_cases h3 : (T.length : Int) < F 331 9
      · rw [if_pos h3, if_pos (by omega)]
      · rw [if_neg h3, if_neg (by omega)]
theorem ctG_g {P : pp_T} {F : fl_N} {T : tb_T} {V V' : List wy_T} {g : Option wy_T} {fm k : Nat} {st c : Int} (hw : way P T c (fm, k) = true) (he : nxs P T (fm, k) = st) (hg : gC F st ↔ P.2.2.2.2 st) (hv : vat V' fm = vat V fm) : ctG F V' g st fm (k : Int) = gst P c T V g (fm, k) := by
  unfold ctG
  by_cases h : P.2.2.2.2 st
  · (rw [if_pos (dc_t.mpr (hg.mpr h)), gst_y ⟨hw, by rw [he]; exact h⟩, hv]) <;> rfl
  · rw [if_neg (fun h1 => h (hg.mp (dc_t.mp h1))), gst_n (fun h1 => h (by rw [← he]; exact h1.2))]
/-- the goal: offered -/
theorem ctv_g {F Fa F' : fl_N} {T : tb_T} {V : List wy_T} {g : Option wy_T} {old fm : Nat} {st nb : Int} (hgc : gC F st) (hc : chn (F 335) (F 336) (F 337) V (old : Int)) (hg : gHc F V (old : Int) g) (hV : V.length ≤ 200) (hf : fm < V.length) (hb : fm < old) (a : ∀ r k, (r = 335 ∨ r = 336 ∨ r = 337) → Fa r k = F r k) (he : ofE Fa F' V 200 fm nb) (o5 : ∀ i : Nat, i ≠ 200 → F' 335 i = Fa 335 i) (o6 : ∀ i : Nat, i ≠ 200 → F' 336 i = Fa 336 i ∧ F' 337 i = Fa 337 i) (h11 : F' 331 11 = 1) : ctv F F' T V g old st fm nb := by
  unfold ctv ctV ctG
  rw [if_pos (dc_t.mpr hgc), if_pos (dc_t.mpr hgc)]
  refine ⟨chn_cg hc (fun i hi => ?_) (fun i hi => ?_) (fun i hi => ?_), ?_⟩
  · rw [o5 i (by omega)]
    exact a 335 i (Or.inl rfl)
  · rw [(o6 i (by omega)).1]
    exact a 336 i (Or.inr (Or.inl rfl))
  · rw [(o6 i (by omega)).2]
    exact a 337 i (Or.inr (Or.inr rfl))
  · have hl := chn_le hc fm hf
    exact ghc_of hg (a 335 200 (Or.inl rfl)) (a 336 200 (Or.inr (Or.inl rfl))) (a 337 200 (Or.inr (Or.inr rfl))) hf (by omega) ((a 335 fm (Or.inl rfl)).trans (hc.2 fm hf).1) (by omega) he h11
/-- a known state: of an old layer, or of this one -/
theorem ctv_o {F F' : fl_N} {T : tb_T} {V : List wy_T} {g : Option wy_T} {old fm k : Nat} {st nb : Int} (hgc : ¬ gC F st) (hc : chn (F 335) (F 336) (F 337) V (old : Int)) (hg : gHc F V (old : Int) g) (hd : dst T) (hk : k < T.length) (hx : xa T k = st) (hko : k < old) (a : ∀ r k, (r = 335 ∨ r = 336 ∨ r = 337) → F' r k = F r k) (h11 : F' 331 11 = F 331 11) : ctv F F' T V g old st fm nb := by
  obtain ⟨e1, e2⟩ := ixo_at hd hk hx
  unfold ctv ctV ctG
  rw [if_neg (fun h1 => hgc (dc_t.mp h1)), if_neg (fun h1 => hgc (dc_t.mp h1)), if_pos e2, e1, if_neg (by omega)]
  exact ⟨chn_cg hc (fun i _ => a 335 i (Or.inl rfl)) (fun i _ => a 336 i (Or.inr (Or.inl rfl))) (fun i _ => a 337 i (Or.inr (Or.inr rfl))), gHc_cg hg h11 (a 335 200 (Or.inl rfl)) (a 336 200 (Or.inr (Or.inl rfl))) (a 337 200 (Or.inr (Or.inr rfl)))⟩
theorem ctv_k {F Fa F' : fl_N} {T : tb_T} {V : List wy_T} {g : Option wy_T} {old fm k : Nat} {st nb : Int} (hgc : ¬ gC F st) (hc : chn (F 335) (F 336) (F 337) V (old : Int)) (hg : gHc F V (old : Int) g) (hV : V.length = T.length) (hV2 : V.length ≤ 200) (hd : dst T) (hk : k < T.length) (hx : xa T k = st) (hko : old ≤ k) (hf : fm < V.length) (hb : fm < old) (a : ∀ r k, (r = 335 ∨ r = 336 ∨ r = 337) → Fa r k = F r k) (he : ofE Fa F' V k fm nb) (o5 : ∀ i : Nat, i ≠ k → F' 335 i = Fa 335 i) (o6 : ∀ i : Nat, i ≠ k → F' 336 i = Fa 336 i ∧ F' 337 i = Fa 337 i) (h11 : F' 331 11 = F 331 11) : ctv F F' T V g old st fm nb := by
  obtain ⟨e1, e2⟩ := ixo_at hd hk hx
  have hca : chn (Fa 335) (Fa 336) (Fa 337) V (old : Int) := chn_cg hc (fun i _ => a 335 i (Or.inl rfl)) (fun i _ => a 336 i (Or.inr (Or.inl rfl))) (fun i _ => a 337 i (Or.inr (Or.inr rfl)))
  unfold ctv ctV ctG
  rw [if_neg (fun h1 => hgc (dc_t.mp h1)), if_neg (fun h1 => hgc (dc_t.mp h1)), if_pos e2, e1, if_pos hko]
  refine ⟨chn_of hca (by omega) (by omega) (by omega) hf (by omega) he (fun i hi => o5 i hi) (fun i hi => o6 i hi), ?_⟩
  refine gHc_V (gHc_cg hg h11 ((o5 200 (by omega)).trans (a 335 200 (Or.inl rfl))) ((o6 200 (by omega)).1.trans (a 336 200 (Or.inr (Or.inl rfl)))) ((o6 200 (by omega)).2.trans (a 337 200 (Or.inr (Or.inr rfl))))) (by rw [List.length_set]; exact Nat.le_refl _) (fun i hi => vat_sn (by omega))
/-- a new state -/
theorem ctv_a {F Fa F' : fl_N} {T : tb_T} {V : List wy_T} {g : Option wy_T} {old fm : Nat} {st nb : Int} (hgc : ¬ gC F st) (hc : chn (F 335) (F 336) (F 337) V (old : Int)) (hg : gHc F V (old : Int) g) (hV : V.length = T.length) (hV2 : V.length ≤ 199) (hol : old ≤ T.length) (hno : has T st = false) (hm : (T.length : Int) < F 331 9) (hf : fm < V.length) (hb : fm < old) (a5 : ∀ i : Nat, i ≠ T.length → Fa 335 i = F 335 i) (a6 : ∀ i : Nat, i ≠ T.length → Fa 336 i = F 336 i) (a7 : ∀ i : Nat, Fa 337 i = F 337 i) (hN : Fa 335 T.length = 2147483647) (he : ofE Fa F' V T.length fm nb) (o5 : ∀ i : Nat, i ≠ T.length → F' 335 i = Fa 335 i) (o6 : ∀ i : Nat, i ≠ T.length → F' 336 i = Fa 336 i ∧ F' 337 i = Fa 337 i) (h11 : F' 331 11 = F 331 11) : ctv F F' T V g old st fm nb := by
  unfold ctv ctV ctG
  rw [if_neg (fun h1 => hgc (dc_t.mp h1)), if_neg (fun h1 => hgc (dc_t.mp h1)), hno, if_neg (by decide), if_pos hm]
  have hl := chn_le hc fm hf
  rw [← hV] at a5 a6 hN he o5 o6
  refine ⟨chn_nw hc (by omega) hf (by omega) (fun i hi => a5 i (by omega)) (fun i hi => a6 i (by omega)) (fun i _ => a7 i) hN (by omega) he (fun i hi => o5 i hi) (fun i hi => o6 i hi), ?_⟩
  refine gHc_V (gHc_cg hg h11 ((o5 200 (by omega)).trans (a5 200 (by omega))) ((o6 200 (by omega)).1.trans (a6 200 (by omega))) ((o6 200 (by omega)).2.trans (a7 200))) (by rw [List.length_append]; omega) (fun i hi => vat_app (by omega))
/-- no room -/
theorem ctv_c {F F' : fl_N} {T : tb_T} {V : List wy_T} {g : Option wy_T} {old fm : Nat} {st nb : Int} (hgc : ¬ gC F st) (hc : chn (F 335) (F 336) (F 337) V (old : Int)) (hg : gHc F V (old : Int) g) (hno : has T st = false) (hm : ¬ (T.length : Int) < F 331 9) (a : ∀ r k, (r = 335 ∨ r = 336 ∨ r = 337) → F' r k = F r k) (h11 : F' 331 11 = F 331 11) : ctv F F' T V g old st fm nb := by
  unfold ctv ctV ctG
  rw [if_neg (fun h1 => hgc (dc_t.mp h1)), if_neg (fun h1 => hgc (dc_t.mp h1)), hno, if_neg (by decide), if_neg hm]
  exact ⟨chn_cg hc (fun i _ => a 335 i (Or.inl rfl)) (fun i _ => a 336 i (Or.inr (Or.inl rfl))) (fun i _ => a 337 i (Or.inr (Or.inr rfl))), gHc_cg hg h11 (a 335 200 (Or.inl rfl)) (a 336 200 (Or.inr (Or.inl rfl))) (a 337 200 (Or.inr (Or.inr rfl)))⟩
/-- the place that a slot tells -/
theorem slz_x {g X : Nat → Int} {T : tb_T} {f : Int} {z : Nat} (hT : hsz hshC X g T) (hs : slz hshC X g f z) (h1 : 1 ≤ g z) (h2 : g z ≤ (T.length : Int)) : xa T (g z - 1).toNat = f := by
  obtain ⟨m, e, h3, -⟩ := hs
  rcases h3 with h3 | h3
  · omega
  · rw [← hT.1 _ (by omega)]
    exact h3

/-! a row of the class's layer, with ways -/
noncomputable def rvZ (P : pp_T) (most : Nat) (c : Int) (old i k : Nat) (W : tb_T × Bool) (V : List wy_T) : (tb_T × Bool) × List wy_T := (rowp i k).foldl (wsv P most c old) (W, V)
theorem rvZ_1 {P : pp_T} {most : Nat} {c : Int} {old i k : Nat} {W : tb_T × Bool} {V : List wy_T} : (rvZ P most c old i k W V).1 = rsw P most c i k W := fsv_1 _ _
theorem rvZ_s {P : pp_T} {most : Nat} {c : Int} {old i k : Nat} {W : tb_T × Bool} {V : List wy_T} : (rvZ P most c old i (k + 1) W V).2 = vst P most c old (rsw P most c i k W).1 (rvZ P most c old i k W V).2 (i, k) := by
  rw [← rvZ_1 (V := V) (old := old)]
  show ((rowp i (k + 1)).foldl (wsv P most c old) _).2 = _
  rw [rowp_s, List.foldl_append]
  rfl
noncomputable def rvG (P : pp_T) (c : Int) (T : tb_T) (V : List wy_T) (i k : Nat) (g : Option wy_T) : Option wy_T := (rowp i k).foldl (gst P c T V) g
theorem rvG_s {P : pp_T} {c : Int} {T : tb_T} {V : List wy_T} {i k : Nat} {g : Option wy_T} : rvG P c T V i (k + 1) g = gst P c T V (rvG P c T V i k g) (i, k) := by
  unfold rvG
  rw [rowp_s, List.foldl_append]
  rfl
theorem vst_old {P : pp_T} {most : Nat} {c : Int} {old : Nat} {T : tb_T} {V : List wy_T} {q : Nat × Nat} (h : old ≤ V.length) : old ≤ (vst P most c old T V q).length ∧ ∀ j, j < old → vat (vst P most c old T V q) j = vat V j := by
  unfold vst
  split
  · split
    · split
      · rw [List.length_set]
        exact ⟨h, fun j hj => vat_sn (by omega)⟩
      · exact ⟨h, fun _ _ => rfl⟩
    · split
      · rw [List.length_append]
        exact ⟨by omega, fun j hj => vat_app (by omega)⟩
      · exact ⟨h, fun _ _ => rfl⟩
  · exact ⟨h, fun _ _ => rfl⟩
theorem rvZ_old {P : pp_T} {most : Nat} {c : Int} {old i : Nat} {W : tb_T × Bool} {V : List wy_T} (h : old ≤ V.length) : ∀ k, old ≤ (rvZ P most c old i k W V).2.length ∧ ∀ j, j < old → vat (rvZ P most c old i k W V).2 j = vat V j := by
  intro k
  induction k with
  | zero => exact ⟨h, fun _ _ => rfl⟩
  | succ k ih =>
    rw [rvZ_s]
    obtain ⟨h1, h2⟩ := vst_old (P := P) (most := most) (c := c) (T := (rsw P most c i k W).1) (q := (i, k)) ih.1
    exact ⟨h1, fun j hj => (h2 j hj).trans (ih.2 j hj)⟩
theorem rvZ_len {P : pp_T} {most : Nat} {c : Int} {old i k : Nat} {W : tb_T × Bool} {V : List wy_T} (h : V.length = W.1.length) : (rvZ P most c old i k W V).2.length = (rsw P most c i k W).1.length := by
  rw [← rvZ_1 (V := V) (old := old)]
  exact fsv_len (rowp i k) (W, V) h
theorem rsw_wn {P : pp_T} {most : Nat} {c : Int} {i k s : Nat} {W : tb_T × Bool} (hi : i < W.1.length) : way P (rsw P most c i k W).1 c (i, s) = way P W.1 c (i, s) ∧ nxs P (rsw P most c i k W).1 (i, s) = nxs P W.1 (i, s) := by
  obtain ⟨N, hN⟩ := fold_pre (P := P) (most := most) (c := c) (rowp i k) W
  rw [show (rsw P most c i k W).1 = W.1 ++ N from hN]
  exact ⟨way_app hi, nxs_app hi⟩
theorem rsw_dst {P : pp_T} {most : Nat} {c : Int} {i k : Nat} {W : tb_T × Bool} (hd : dst W.1) : dst (rsw P most c i k W).1 := fold_dst (rowp i k) W hd
/-- costs: those of this layer, and no others, stand behind the old ones -/
def cof (T : tb_T) (old : Nat) (c : Int) : Prop := ∀ j, j < T.length → (ca T j = c ↔ old ≤ j)
theorem cof_add {T : tb_T} {old : Nat} {c f : Int} (h : cof T old c) (ho : old ≤ T.length) : cof (T ++ [(f, c)]) old c := by
  intro j hj
  rw [List.length_append, List.length_singleton] at hj
  by_cases e : j < T.length
  · rw [ca_app e]
    exact h j e
  · rw [show j = T.length by omega, ca_last]
    exact ⟨fun _ => ho, fun _ => rfl⟩
theorem wst_cof {P : pp_T} {most : Nat} {c : Int} {old : Nat} {W : tb_T × Bool} {q : Nat × Nat} (h : cof W.1 old c) (ho : old ≤ W.1.length) : cof (wst P most c W q).1 old c ∧ old ≤ (wst P most c W q).1.length := by
  unfold wst
  split
  · split
    · refine ⟨cof_add h ho, ?_⟩
      rw [List.length_append]
      omega
    · exact ⟨h, ho⟩
  · exact ⟨h, ho⟩
theorem fold_cof {P : pp_T} {most : Nat} {c : Int} {old : Nat} : ∀ (L : List (Nat × Nat)) (W : tb_T × Bool), cof W.1 old c ∧ old ≤ W.1.length → cof (L.foldl (wst P most c) W).1 old c ∧ old ≤ (L.foldl (wst P most c) W).1.length := by
  intro L
  induction L with
  | nil => intro W h; exact h
  | cons q L ih => intro W h; rw [List.foldl_cons]; exact ih _ (wst_cof h.1 h.2)
theorem rsw_cof {P : pp_T} {most : Nat} {c : Int} {old i k : Nat} {W : tb_T × Bool} (h : cof W.1 old c) (ho : old ≤ W.1.length) : cof (rsw P most c i k W).1 old c ∧ old ≤ (rsw P most c i k W).1.length := fold_cof (rowp i k) W ⟨h, ho⟩
theorem lyW_cof {P : pp_T} {most : Nat} {c : Int} {T : tb_T} {k : Nat} (h : ∀ j, j < T.length → ca T j < c) : cof (lyW P most c T k).1 T.length c ∧ T.length ≤ (lyW P most c T k).1.length := by
  refine fold_cof (prs k P.1) (T, false) ⟨fun j hj => ?_, Nat.le_refl _⟩
  have h1 := h j hj
  have hj' : j < T.length := hj
  show ca T j = c ↔ T.length ≤ j
  omega
theorem lyW_dst {P : pp_T} {most : Nat} {c : Int} {T : tb_T} {k : Nat} (hd : dst T) : dst (lyW P most c T k).1 := fold_dst (prs k P.1) (T, false) hd
def rvS (F1 : fl_N) (P : pp_T) (most : Nat) (c : Int) (W : tb_T × Bool) (V : List wy_T) (g : Option wy_T) (old i k : Nat) : Prop := chn (F1 335) (F1 336) (F1 337) (rvZ P most c old i k W V).2 (old : Int) ∧ gHc F1 (rvZ P most c old i k W V).2 (old : Int) (rvG P c W.1 V i k g)
theorem rvS_0 {F : fl_N} {P : pp_T} {most : Nat} {c : Int} {W : tb_T × Bool} {V : List wy_T} {g : Option wy_T} {old i : Nat} (hc : chn (F 335) (F 336) (F 337) V (old : Int)) (hg : gHc F V (old : Int) g) : rvS F P most c W V g old i 0 := ⟨hc, hg⟩
theorem rvS_n {F1 : fl_N} {P : pp_T} {most : Nat} {c : Int} {W : tb_T × Bool} {V : List wy_T} {g : Option wy_T} {old i k : Nat} (h : rvS F1 P most c W V g old i k) (hi : i < W.1.length) (hw : ¬ way P W.1 c (i, k) = true) : rvS F1 P most c W V g old i (k + 1) := by
  have e1 : (rvZ P most c old i (k + 1) W V).2 = (rvZ P most c old i k W V).2 := by
    rw [rvZ_s]
    unfold vst
    rw [(rsw_wn hi).1, if_neg]
    intro h1
    rw [Bool.and_eq_true] at h1
    exact hw h1.1
  unfold rvS
  rw [e1, rvG_s, gst_n (fun h1 => hw h1.1)]
  exact h
theorem rvS_y {F1 F2 : fl_N} {P : pp_T} {most : Nat} {c mo : Int} {W : tb_T × Bool} {V : List wy_T} {g : Option wy_T} {old i k : Nat} {st : Int} (h9 : F1 331 9 = mo) (hmo : 0 ≤ mo) (hm : most = mo.toNat) (hi : i < W.1.length) (hb : i < old) (hV : old ≤ V.length) (hw : way P W.1 c (i, k) = true) (he : nxs P W.1 (i, k) = st) (hg : gC F1 st ↔ P.2.2.2.2 st) {nb : Int} (hnb : nb = (k : Int)) (hv : ctv F1 F2 (rsw P most c i k W).1 (rvZ P most c old i k W V).2 (rvG P c W.1 V i k g) old st i nb) : rvS F2 P most c W V g old i (k + 1) := by
  subst hm
  subst hnb
  have e1 := ctV_v (P := P) (F := F1) (T := (rsw P mo.toNat c i k W).1) (V := (rvZ P mo.toNat c old i k W V).2) (old := old) (fm := i) (k := k) (st := st) (c := c) h9 hmo (by rw [(rsw_wn hi).1]; exact hw) (by rw [(rsw_wn hi).2]; exact he) hg
  have e2 := ctG_g (P := P) (F := F1) (T := W.1) (V := V) (V' := (rvZ P mo.toNat c old i k W V).2) (g := rvG P c W.1 V i k g) (fm := i) (k := k) (st := st) (c := c) hw he hg ((rvZ_old hV k).2 i hb)
  unfold ctv at hv
  rw [e1, e2, ← rvG_s, ← rvZ_s] at hv
  exact hv
theorem rvS_cg {F1 F2 : fl_N} {P : pp_T} {most : Nat} {c : Int} {W : tb_T × Bool} {V : List wy_T} {g : Option wy_T} {old i k : Nat} (h : rvS F1 P most c W V g old i k) (a : ∀ r k, (r = 335 ∨ r = 336 ∨ r = 337) → F2 r k = F1 r k) (h11 : F2 331 11 = F1 331 11) : rvS F2 P most c W V g old i k := ⟨chn_cg h.1 (fun i _ => a 335 i (Or.inl rfl)) (fun i _ => a 336 i (Or.inr (Or.inl rfl))) (fun i _ => a 337 i (Or.inr (Or.inr rfl))), gHc_cg h.2 h11 (a 335 200 (Or.inl rfl)) (a 336 200 (Or.inr (Or.inl rfl))) (a 337 200 (Or.inr (Or.inr rfl)))⟩
/-! a layer, with ways -/
def lvS (F1 : fl_N) (P : pp_T) (most : Nat) (c : Int) (T : tb_T) (V : List wy_T) (k : Nat) : Prop := chn (F1 335) (F1 336) (F1 337) (gZ P most c T V k 0).2 (T.length : Int) ∧ gHc F1 (gZ P most c T V k 0).2 (T.length : Int) (gvW P c T V k 0)
theorem lvS_0 {F : fl_N} {P : pp_T} {most : Nat} {c : Int} {T : tb_T} {V : List wy_T} (hc : chn (F 335) (F 336) (F 337) V (T.length : Int)) (h11 : F 331 11 = 0) (h5 : F 335 200 = 2147483647) : lvS F P most c T V 0 := ⟨hc, Or.inl ⟨h11, rfl, h5⟩⟩
theorem gZ_rv {P : pp_T} {most : Nat} {c : Int} {T : tb_T} {V : List wy_T} {k n : Nat} : rvZ P most c T.length k n (lyW P most c T k) (gZ P most c T V k 0).2 = gZ P most c T V k n := by
  have e : (lyW P most c T k, (gZ P most c T V k 0).2) = gZ P most c T V k 0 := Prod.ext (by rw [gZ_1]; rfl) rfl
  unfold rvZ
  rw [e]
  rfl
theorem gZ_old {P : pp_T} {most : Nat} {c : Int} {T : tb_T} {V : List wy_T} (h : V.length = T.length) : ∀ k, T.length ≤ (gZ P most c T V k 0).2.length ∧ ∀ j, j < T.length → vat (gZ P most c T V k 0).2 j = vat V j := by
  intro k
  induction k with
  | zero => exact ⟨by rw [gZ_0]; show T.length ≤ V.length; omega, fun _ _ => rfl⟩
  | succ k ih =>
    rw [gZ_r, ← gZ_rv]
    obtain ⟨h1, h2⟩ := rvZ_old (P := P) (most := most) (c := c) (old := T.length) (i := k) (W := lyW P most c T k) ih.1 P.1
    exact ⟨h1, fun j hj => (h2 j hj).trans (ih.2 j hj)⟩
theorem gst_cg {P : pp_T} {c : Int} {T N : tb_T} {V V' : List wy_T} {g : Option wy_T} {q : Nat × Nat} (hq : q.1 < T.length) (hv : vat V' q.1 = vat V q.1) : gst P c (T ++ N) V' g q = gst P c T V g q := by
  unfold gst
  rw [way_app hq, nxs_app hq, hv]
theorem rvG_cg {P : pp_T} {c : Int} {T N : tb_T} {V V' : List wy_T} {g : Option wy_T} {i : Nat} (hi : i < T.length) (hv : vat V' i = vat V i) : ∀ n, rvG P c (T ++ N) V' i n g = rvG P c T V i n g := by
  intro n
  induction n with
  | zero => rfl
  | succ n ih => rw [rvG_s, rvG_s, ih, gst_cg (q := (i, n)) hi hv]
theorem gvW_rv {P : pp_T} {c : Int} {T : tb_T} {V : List wy_T} {i n : Nat} : rvG P c T V i n (gvW P c T V i 0) = gvW P c T V i n := rfl
theorem lvS_y {F2 : fl_N} {P : pp_T} {most : Nat} {c : Int} {T : tb_T} {V : List wy_T} {k : Nat} (hV : V.length = T.length) (hk : k < T.length) (h : rvS F2 P most c (lyW P most c T k) (gZ P most c T V k 0).2 (gvW P c T V k 0) T.length k P.1) : lvS F2 P most c T V (k + 1) := by
  obtain ⟨N, hN⟩ := lyW_pre (P := P) (most := most) (c := c) (T := T) (k := k)
  unfold rvS at h
  rw [gZ_rv, hN, rvG_cg hk ((gZ_old hV k).2 k hk), gvW_rv, ← gZ_r, ← gvW_r] at h
  exact h
theorem lvS_n {F1 : fl_N} {P : pp_T} {most : Nat} {c : Int} {T : tb_T} {V : List wy_T} {k : Nat} (h : lvS F1 P most c T V k) (hk : k < T.length) (hw : ∀ s, s < P.1 → ¬ way P T c (k, s) = true) : lvS F1 P most c T V (k + 1) := by
  have h1 : ∀ n, n ≤ P.1 → (gZ P most c T V k n).2 = (gZ P most c T V k 0).2 ∧ gvW P c T V k n = gvW P c T V k 0 := by
    intro n
    induction n with
    | zero => intro _; exact ⟨rfl, rfl⟩
    | succ n ih =>
      intro hn
      obtain ⟨a1, a2⟩ := ih (by omega)
      rw [vz_n hk (hw n (by omega)), gvW_s, gst_n (fun h9 => hw n (by omega) h9.1)]
      exact ⟨a1, a2⟩
  obtain ⟨a1, a2⟩ := h1 P.1 (Nat.le_refl _)
  unfold lvS
  rw [gZ_r, gvW_r, a1, a2]
  exact h
theorem lvS_cg {F1 F2 : fl_N} {P : pp_T} {most : Nat} {c : Int} {T : tb_T} {V : List wy_T} {k : Nat} (h : lvS F1 P most c T V k) (a : ∀ r k, (r = 335 ∨ r = 336 ∨ r = 337) → F2 r k = F1 r k) (h11 : F2 331 11 = F1 331 11) : lvS F2 P most c T V k := ⟨chn_cg h.1 (fun i _ => a 335 i (Or.inl rfl)) (fun i _ => a 336 i (Or.inr (Or.inl rfl))) (fun i _ => a 337 i (Or.inr (Or.inr rfl))), gHc_cg h.2 h11 (a 335 200 (Or.inl rfl)) (a 336 200 (Or.inr (Or.inl rfl))) (a 337 200 (Or.inr (Or.inr rfl)))⟩
/-- a row that is not due has no step of this cost -/
theorem row_no {P : pp_T} {T : tb_T} {cp c d : Int} {k : Nat} (hl : lc P T cp c) (hk : k < T.length) (hd : due P T cp k d) (hne : ¬ d = c) : ∀ s, s < P.1 → ¬ way P T c (k, s) = true := fun s hs h9 => (due_nx hl hk hd hne).2 s hs (way_t.mp h9).1
theorem lvS_e {F2 : fl_N} {P : pp_T} {most : Nat} {c : Int} {T : tb_T} {V : List wy_T} (h : lvS F2 P most c T V T.length) : chn (F2 335) (F2 336) (F2 337) (lav P most c T V).2 (T.length : Int) ∧ gHc F2 (lav P most c T V).2 (T.length : Int) (gov P c T V) := by
  unfold lvS at h
  rw [gZ_e rfl, gvW_e rfl] at h
  exact h

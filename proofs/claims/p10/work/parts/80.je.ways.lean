/-! the layers of the class, with ways -/
theorem cl_ca {P : pp_T} {T : tb_T} {cp : Int} (h : clsd P T cp) {j : Nat} (hj : j < T.length) : ca T j ≤ cp := by
  have h1 := (h.2 T[j] (List.getElem_mem hj)).1
  unfold ca
  rw [List.getD_eq_getElem?_getD, List.getElem?_eq_getElem hj]
  exact h1
theorem cmv_crw {P : pp_T} {most : Nat} {T0 T : tb_T} {V0 V : List wy_T} {cp c : Int} (h0 : cmv P most T0 V0 T V) (h : clsd P T cp) (hl : lc P T cp c) (hg : gol P c T = false) (hc : (lay P most c T).2 = true) : ∃ k, rsv P most k T0 V0 3 0 [] := by
  have hn : nw P T c := by
    by_cases hn : nw P T c
    · exact hn
    · rw [lay_no hn] at hc
      cases hc
  exact rv_crw h0 (nxt_of h hl hn) hg hc
theorem cmv_end {P : pp_T} {most : Nat} {T0 T : tb_T} {V0 V : List wy_T} {cp : Int} (h0 : cmv P most T0 V0 T V) (h : clsd P T cp) (hl : ∀ q : Nat × Nat, q.1 < T.length → q.2 < P.1 → ca T q.1 + P.2.1 q.2 ≤ cp) : ∃ k, rsv P most k T0 V0 0 (-1) [] := by
  refine rv_none h0 (fun c hn => ?_)
  have h6 := nw_gt h hn
  obtain ⟨q, ⟨h1, h2⟩, h3, -, -⟩ := hn
  have h7 := hl q h1 h2
  omega
def lkV (F1 : fl_N) (P : pp_T) (mo : Nat) (T0 : tb_T) (pa : Nat → Int) (k : Int) : Prop := (F1 331 11 = 0 ∧ F1 331 10 = 0 ∧ ∃ T V cp, (tS F1 T ∧ cmv P mo T0 [[]] T V ∧ clsd P T cp ∧ (∀ i : Nat, i < T.length → due P T cp i (F1 334 i)) ∧ (1 ≤ T.length ∧ T.length ≤ mo) ∧ (∀ i : Nat, i < T.length → 0 ≤ ca T i ∧ ca T i ≤ 999 * (i : Int)) ∧ k + (phi pa cp T : Int) ≤ 1000) ∧ chn (F1 335) (F1 336) (F1 337) V (T.length : Int) ∧ V.length = T.length ∧ dst T ∧ F1 335 200 = 2147483647) ∨ (F1 331 11 = 1 ∧ 1 ≤ F1 331 12 ∧ ∃ w V b, (∃ j, rsv P mo j T0 [[]] 0 (F1 331 12) w) ∧ chn (F1 335) (F1 336) (F1 337) V b ∧ wyC F1 V 200 w ∧ F1 335 200 = (w.length : Int)) ∨ (F1 331 11 = 0 ∧ F1 331 10 = 1 ∧ ∃ j, rsv P mo j T0 [[]] 3 0 [])
theorem lkv_s {Fc F2 : fl_N} {P : pp_T} {T0 T : tb_T} {V : List wy_T} {cp c k : Int} {pa : Nat → Int} (hP : P = pC Fc) (hc : Fc 331 12 = c) (hcm : cmv P (Fc 331 9).toNat T0 [[]] T V) (hcl : clsd P T cp) (hlc : lc P T cp c) (hp1 : ∀ s, s < P.1 → 1 ≤ P.2.1 s ∧ P.2.1 s ≤ 999) (hpa : ∀ s, s < P.1 → ∃ a, a < 5 ∧ P.2.1 s = pa a) (hat : ∃ i s, i < T.length ∧ s < P.1 ∧ ca T i + P.2.1 s = c) (hcb : ∀ i : Nat, i < T.length → 0 ≤ ca T i ∧ ca T i ≤ 999 * (i : Int)) (hle : 1 ≤ T.length ∧ T.length ≤ (Fc 331 9).toNat) (h200 : (Fc 331 9).toNat ≤ 200) (hk : k + (phi pa cp T : Int) ≤ 1000) (hly : lyS Fc F2 P T T.length) (h11b : 0 ≤ F2 331 11 ∧ F2 331 11 ≤ 1) (h12 : F2 331 12 = c) (hlv : lvS F2 P (Fc 331 9).toNat (Fc 331 12) T V T.length) (hVl : V.length = T.length) (hds : dst T) : lkV F2 P (Fc 331 9).toNat T0 pa (k + 1) := by
  subst hc
  obtain ⟨a1, a2, a3, a4, a5, a6⟩ := hly
  obtain ⟨v1, v2⟩ := lvS_e hlv
  rw [show lyW P (Fc 331 9).toNat (Fc 331 12) T T.length = lay P (Fc 331 9).toNat (Fc 331 12) T from rfl] at a1 a2 a6
  rw [← gol_grw] at a3
  obtain ⟨i0, s0, hi0, hs0, e0⟩ := hat
  have hci := hcb i0 hi0
  have hps := hp1 s0 hs0
  have hl1 := hlc.1
  cases hg : gol P (Fc 331 12) T with
  | true =>
    have h11 : F2 331 11 = 1 := a3.mpr hg
    rcases v2 with ⟨v3, -⟩ | ⟨-, v3, ⟨v4, v5, v6⟩, v7⟩
    · omega
    · refine Or.inr (Or.inl ⟨h11, by omega, _, _, _, ?_, v1, Or.inr ⟨⟨v4, v5⟩, rfl⟩, ?_⟩)
      · rw [h12]
        exact cmv_gol hcm hcl hlc hg v3
      · rw [v7, List.length_append, List.length_singleton]
        omega
  | false =>
    have h11 : F2 331 11 = 0 := by
      have h9 : ¬ F2 331 11 = 1 := fun h9 => by
        rw [a3.mp h9] at hg
        cases hg
      omega
    cases hw : (lay P (Fc 331 9).toNat (Fc 331 12) T).2 with
    | true =>
      rw [hw] at a2
      exact Or.inr (Or.inr ⟨h11, a2, cmv_crw hcm hcl hlc hg hw⟩)
    | false =>
      rw [hw] at a2
      obtain ⟨N, n1, n2, -, -⟩ := lay_ok (P := P) (most := (Fc 331 9).toNat) (c := Fc 331 12) (T := T)
      have hlen : (lay P (Fc 331 9).toNat (Fc 331 12) T).1.length ≤ (Fc 331 9).toNat := fold_len (prs T.length P.1) (T, false) hle.2
      have hge : T.length ≤ (lay P (Fc 331 9).toNat (Fc 331 12) T).1.length := by
        rw [n1, List.length_append]
        omega
      have h5 : F2 335 200 = 2147483647 := by
        rcases v2 with ⟨-, -, v3⟩ | ⟨v3, -⟩
        · exact v3
        · omega
      refine Or.inl ⟨h11, a2, (lay P (Fc 331 9).toNat (Fc 331 12) T).1, (lav P (Fc 331 9).toNat (Fc 331 12) T V).2, Fc 331 12, ⟨a1, cmv_lay hcm hcl hlc hg hw, lay_cls (fun s hs => (hp1 s hs).1) hcl hlc hg hw, fun i hi => ?_, ⟨by omega, hlen⟩, fun i hi => ?_, ?_⟩, chn_up v1 (by omega), lav_len hVl, lay_dst hds, h5⟩
      · by_cases e : i < T.length
        · rw [n1]
          exact due_app e (a4 i e)
        · have h9 := a6 i (by omega) hi
          rw [n1] at hi ⊢
          have h8 : ca (T ++ N) i = Fc 331 12 := ca_new (by omega) hi (fun e he => (n2 e he).1)
          rw [hP]
          exact sdu_due (p := 0) (by rw [h8]; exact h9) (by omega)
      · by_cases e : i < T.length
        · rw [n1, ca_app e]
          exact hcb i e
        · rw [n1] at hi ⊢
          rw [ca_new (by omega) hi (fun e he => (n2 e he).1)]
          omega
      · obtain ⟨a, ha, ea⟩ := hpa s0 hs0
        have h9 := phi_s (N := N) (pa := pa) hl1 hi0 ha (by rw [← ea]; exact e0) (by rw [← n1]; omega)
        rw [n1]
        omega
theorem lkv_0 {F Fa : fl_N} {mo : Int} {pa : Nat → Int} (hT : tS Fa ([] ++ [(F 120 4, 0)])) (h11 : Fa 331 11 = 0) (h10 : Fa 331 10 = 0) (hg : ¬ gC F (F 120 4)) (hd : sdu F 0 0 (Fa 334 0)) (hmo : 1 ≤ mo) (hp : ∀ s : Nat, (s : Int) < F 120 3 → 1 ≤ F (126 + 5 * s) 2) (h0 : Fa 335 0 = 0) (h5 : Fa 335 200 = 2147483647) : lkV Fa (pC F) mo.toNat [(F 120 4, 0)] pa 0 := by
  have c0 : ∀ i : Nat, i < [(F 120 4, (0 : Int))].length → ca [(F 120 4, (0 : Int))] i = 0 := fun i hi => by
    rw [List.length_singleton] at hi
    rw [show i = 0 by omega]
    rfl
  refine Or.inl ⟨h11, h10, [(F 120 4, 0)], [[]], 0, ⟨hT, cmv_r, ⟨fun q h1 h2 h3 h4 => ?_, fun e he => ?_⟩, fun i hi => ?_, ⟨Nat.le_refl _, by show 1 ≤ _; omega⟩, fun i hi => ?_, ?_⟩, chn_0 h0, rfl, dst_1, h5⟩
  · rw [c0 q.1 h1] at h4
    have h5 : (q.2 : Int) < F 120 3 := by
      rw [pC_n] at h2
      omega
    rw [pC_p h5] at h4
    have h6 := hp q.2 h5
    omega
  · rw [List.mem_singleton.mp he]
    exact ⟨Int.le_refl _, hg⟩
  · have h1 := c0 i hi
    rw [List.length_singleton] at hi
    have h2 : i = 0 := by omega
    refine sdu_due (p := 0) ?_ (by omega)
    rw [h1, h2]
    exact hd
  · rw [c0 i hi]
    omega
  · have h1 := phi_0 (pa := pa) (cp := 0) (T := [(F 120 4, (0 : Int))]) (by show 1 ≤ 200; omega)
    omega
theorem lkv_c {F1 : fl_N} {P : pp_T} {mo : Nat} {T0 : tb_T} {pa : Nat → Int} {k : Int} (h : lkV F1 P mo T0 pa k) (h11 : F1 331 11 = 0) (h10 : F1 331 10 = 0) : ∃ T V cp, (tS F1 T ∧ cmv P mo T0 [[]] T V ∧ clsd P T cp ∧ (∀ i : Nat, i < T.length → due P T cp i (F1 334 i)) ∧ (1 ≤ T.length ∧ T.length ≤ mo) ∧ (∀ i : Nat, i < T.length → 0 ≤ ca T i ∧ ca T i ≤ 999 * (i : Int)) ∧ k + (phi pa cp T : Int) ≤ 1000) ∧ chn (F1 335) (F1 336) (F1 337) V (T.length : Int) ∧ V.length = T.length ∧ dst T ∧ F1 335 200 = 2147483647 := by
  rcases h with ⟨-, -, h9⟩ | ⟨h9, -⟩ | ⟨-, h9, -⟩
  · exact h9
  · omega
  · omega
theorem lkv_f {F1 : fl_N} {P : pp_T} {mo : Nat} {T0 : tb_T} {pa : Nat → Int} {k : Int} (h : lkV F1 P mo T0 pa k) (h11 : F1 331 11 = 1) : 1 ≤ F1 331 12 ∧ ∃ w V b, (∃ j, rsv P mo j T0 [[]] 0 (F1 331 12) w) ∧ chn (F1 335) (F1 336) (F1 337) V b ∧ wyC F1 V 200 w ∧ F1 335 200 = (w.length : Int) := by
  rcases h with ⟨h9, -⟩ | ⟨-, h9⟩ | ⟨h9, -⟩
  · omega
  · exact h9
  · omega
theorem lkv_w {F1 : fl_N} {P : pp_T} {mo : Nat} {T0 : tb_T} {pa : Nat → Int} {k : Int} (h : lkV F1 P mo T0 pa k) (h11 : F1 331 11 = 0) (hk : 1001 ≤ k ∨ ¬ F1 331 10 = 0) : F1 331 10 = 1 ∧ ∃ j, rsv P mo j T0 [[]] 3 0 [] := by
  rcases h with ⟨-, h9, T, V, cp, ⟨-, -, -, -, -, -, h8⟩, -⟩ | ⟨h9, -⟩ | ⟨-, h9, h8⟩
  · exfalso
    omega
  · omega
  · exact ⟨h9, h8⟩
/-- what the class's plan() answers, and the way -/
def plF (F : fl_N) (mo o v : Int) (w : wy_T) : Prop := (gC F (F 120 4) ∧ o = 0 ∧ v = 0 ∧ w = []) ∨ (¬ gC F (F 120 4) ∧ ∃ j, rsv (pC F) mo.toNat j [(F 120 4, 0)] [[]] o v w)
/-- what look() leaves -/
def lkG (F' : fl_N) (o v : Int) (w : wy_T) : Prop := (o = 0 ∧ 0 ≤ v ∧ F' 331 11 = 1 ∧ F' 331 10 = 0 ∧ F' 331 12 = v ∧ F' 335 200 = (w.length : Int) ∧ ∀ j : Nat, j < w.length → F' 339 j = w.getD j 0) ∨ (o = 0 ∧ v = -1 ∧ w = [] ∧ F' 331 11 = 0 ∧ F' 331 10 = 0) ∨ (o = 3 ∧ v = 0 ∧ w = [] ∧ F' 331 11 = 0 ∧ F' 331 10 = 1)
/-- what plan() keeps -/
def plL (F' : fl_N) (o v : Int) (w : wy_T) : Prop := (¬ (o = 0 ∧ 0 ≤ v) ∧ F' 331 11 = 0) ∨ (o = 0 ∧ 0 ≤ v ∧ F' 331 11 = 1 ∧ F' 335 200 = (w.length : Int) ∧ ∀ j : Nat, j < w.length → F' 339 j = w.getD j 0)
theorem plF_cg {F B : fl_N} {mo o v : Int} {w : wy_T} (hn : F 120 3 ≤ 41) (c : ∀ r k, 120 ≤ r ∧ r ≤ 330 → B r k = F r k) (h : plF B mo o v w) : plF F mo o v w := by
  have e1 : B 120 4 = F 120 4 := c 120 4 (by decide)
  have e2 : pC B = pC F := pC_cg hn c
  have e3 : gC B (F 120 4) = gC F (F 120 4) := hN_cg (d := 123) (fun k => c 123 k (by decide))
  unfold plF at h ⊢
  rw [e1, e2, e3] at h
  exact h
theorem lkG_no {F B : fl_N} {mo : Int} (h : ∃ o v w, plF F mo o v w ∧ lkG B o v w) (h10 : B 331 10 = 0) (h11 : B 331 11 = 0) : plF F mo 0 (-1) [] := by
  obtain ⟨o, v, w, h1, h2⟩ := h
  rcases h2 with ⟨-, -, h3, -⟩ | ⟨h3, h4, h5, -⟩ | ⟨-, -, -, -, h3⟩
  · omega
  · rw [h3, h4, h5] at h1
    exact h1
  · omega
theorem lkG_fd {F B : fl_N} {mo : Int} (h : ∃ o v w, plF F mo o v w ∧ lkG B o v w) (h10 : B 331 10 = 0) (h11 : ¬ B 331 11 = 0) : ∃ w, plF F mo 0 (B 331 12) w ∧ 0 ≤ B 331 12 ∧ B 335 200 = (w.length : Int) ∧ ∀ j : Nat, j < w.length → B 339 j = w.getD j 0 := by
  obtain ⟨o, v, w, h1, h2⟩ := h
  rcases h2 with ⟨h3, h4, h5, h6, h7, h8, h9⟩ | ⟨-, -, -, h3, -⟩ | ⟨-, -, -, h3, -⟩
  · rw [h3, ← h7] at h1
    exact ⟨w, h1, by omega, h8, h9⟩
  · exact absurd h3 h11
  · exact absurd h3 h11
theorem lkG_cr {F B : fl_N} {mo : Int} (h : ∃ o v w, plF F mo o v w ∧ lkG B o v w) (h10 : ¬ B 331 10 = 0) : plF F mo 3 0 [] ∧ B 331 11 = 0 := by
  obtain ⟨o, v, w, h1, h2⟩ := h
  rcases h2 with ⟨-, -, -, h3, -⟩ | ⟨-, -, -, -, h3⟩ | ⟨h3, h4, h5, h6, h7⟩
  · exact absurd h3 h10
  · exact absurd h3 h10
  · rw [h3, h4, h5] at h1
    exact ⟨h1, h6⟩
/-- both plans are one -/
theorem plF_V {F G : fl_N} {mo o v o' v' : Int} {w w' : wy_T} (hP : pC F = pR G) (hg : gC F (F 120 4) ↔ gR G (G 344 38)) (he : F 120 4 = G 344 38) (h : plF F mo o v w) (h' : plV G mo o' v' w') : o = o' ∧ v = v' ∧ w = w' := by
  rcases h with ⟨a0, a1, a2, a3⟩ | ⟨a0, j, a1⟩
  · rcases h' with ⟨-, b1, b2, b3⟩ | ⟨b0, -⟩
    · exact ⟨a1.trans b1.symm, a2.trans b2.symm, a3.trans b3.symm⟩
    · exact absurd (hg.mp a0) b0
  · rcases h' with ⟨b0, -⟩ | ⟨-, j', b1⟩
    · exact absurd (hg.mpr b0) a0
    · rw [hP, he] at a1
      exact rsv_u _ _ _ _ _ _ _ _ _ _ a1 b1
theorem wyC_cg {F F' : fl_N} {V : List wy_T} {k : Nat} {C : wy_T} (h : wyC F V k C) (h1 : F' 336 k = F 336 k) (h2 : F' 337 k = F 337 k) : wyC F' V k C := by
  unfold wyC
  rw [h1, h2]
  exact h

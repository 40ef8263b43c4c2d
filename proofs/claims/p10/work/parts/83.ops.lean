/-! ONE OPERATION OF THE LAW, ON BOTH SIDES -/
theorem gq_run {c FR LO : Nat} {As : List Value} {A : xi_H} {Q : Int → xi_H → Prop} (h : fl_M xi_ms c FR LO As A (gqi Q gqn)) (h1 : FR ≤ 15) (h2 : LO ≤ 560) : ∃ (f : Nat) (z : Int) (A' : xi_H), xi_go xi_ms f c 15 560 0 (lv_args 0 As) [] A = some (.returned (some (.int (Int32.ofInt z))), A') ∧ Q z A' := by
  obtain ⟨n, o, A', h3, h4⟩ := h 15 560 h1 h2
  match o, h4, h3 with
  | .returned (some (.int w)), ⟨z, hz, hp⟩, h3 =>
    subst hz
    exact ⟨n, z, A', h3, hp⟩
  | .threw _, hq, _ => exact False.elim hq
  | .returned none, hq, _ => exact False.elim hq
  | .returned (some (.long _)), hq, _ => exact False.elim hq
  | .returned (some (.float _)), hq, _ => exact False.elim hq
  | .returned (some (.double _)), hq, _ => exact False.elim hq
  | .returned (some (.ref _)), hq, _ => exact False.elim hq
  | .returned (some .null), hq, _ => exact False.elim hq
  | .returned (some (.retAddr _)), hq, _ => exact False.elim hq
def opR (sm : Prop) (c1 : Nat) (As1 : List Value) (c2 : Nat) (As2 : List Value) (G : Nat → Nat → Option Nat) (F : fl_N) (X : xi_H) : Prop := ∃ (f1 : Nat) (z1 : Int) (F1 : fl_N) (X1 : xi_H), xi_go xi_ms f1 c1 15 560 0 (lv_args 0 As1) [] (fl_H sh_T G F ++ X) = some (.returned (some (.int (Int32.ofInt z1))), fl_H sh_T G F1 ++ X1) ∧ (X1 = X ∨ ∃ ci, X1 = X ++ [gx ci]) ∧ ∃ (f2 : Nat) (z2 : Int) (F2 : fl_N), xi_go xi_ms f2 c2 15 560 0 (lv_args 0 As2) [] (fl_H sh_T G F1 ++ X1) = some (.returned (some (.int (Int32.ofInt z2))), fl_H sh_T G F2 ++ X1) ∧ iv F2 ∧ (sm → z1 = z2)
theorem hm_197 : xi_ms[197]? = some xi_m197 := rfl
theorem mc_197 {G : Nat → Nat → Option Nat} (F : fl_N) (X : xi_H) : fl_M xi_ms 197 0 0 [.ref 344] (fl_H sh_T G F ++ X) (gqi (fun z A => F 344 0 = z ∧ fl_H sh_T G F ++ X = A) gqn) := by
  intro fr lo hfr hlo
  show fl_R xi_ms 197 fr lo 0 [(0, .ref 344)] [] _ _
  refine ga_aload_n (v := .ref 344) hm_197 rfl rfl rfl ?_
  refine ga_geti (z := F 344 0) hm_197 rfl sc_344 rfl rfl ?_
  refine gr_i (z := F 344 0) hm_197 rfl rfl rfl ?_
  exact ⟨rfl, rfl⟩
theorem op_thr {G : Nat → Nat → Option Nat} {F : fl_N} {X : xi_H} : ∃ f : Nat, xi_go xi_ms f 197 15 560 0 (lv_args 0 [.ref 344]) [] (fl_H sh_T G F ++ X) = some (.returned (some (.int (Int32.ofInt (F 344 0)))), fl_H sh_T G F ++ X) := by
  obtain ⟨f, z, A', h, e1, e2⟩ := gq_run (mc_197 (G := G) F X) (by decide) (by decide)
  subst e1
  subst e2
  exact ⟨f, h⟩
/-- one operation with a helper: the same number of throw, and the same answer where none is thrown -/
def opK (c1 : Nat) (As1 : List Value) (c2 : Nat) (As2 : List Value) (G : Nat → Nat → Option Nat) (F : fl_N) (X : xi_H) : Prop := ∃ (f1 : Nat) (z1 : Int) (F1 : fl_N) (X1 : xi_H), xi_go xi_ms f1 c1 15 560 0 (lv_args 0 As1) [] (fl_H sh_T G F ++ X) = some (.returned (some (.int (Int32.ofInt z1))), fl_H sh_T G F1 ++ X1) ∧ (X1 = X ∨ ∃ ci, X1 = X ++ [gx ci]) ∧ ∃ (f2 : Nat) (z2 : Int) (F2 : fl_N), xi_go xi_ms f2 c2 15 560 0 (lv_args 0 As2) [] (fl_H sh_T G F1 ++ X1) = some (.returned (some (.int (Int32.ofInt z2))), fl_H sh_T G F2 ++ X1) ∧ iv F2 ∧ (F2 344 0 = z1 ∧ (Int32.ofInt z1 = 0 → Int64.ofInt (F2 386 0) = (Int32.ofInt z2).toInt64))
theorem okt_at {g : Nat → Int} {n : Int} {l : List Int} (h : rep g n l) (ho : okt l) : ∀ j : Nat, (j : Int) < n → 32 ≤ g j := by
  intro j hj
  have h1 := h.1
  have hl : j < l.length := by omega
  rw [h.2 j l[j] (List.getElem?_eq_getElem hl)]
  exact ho.2 _ (List.getElem_mem hl)
theorem rep_eq {g g' : Nat → Int} {n n' : Int} {l : List Int} (h : rep g n l) (h' : rep g' n' l) : n = n' ∧ ∀ j : Nat, (j : Int) < n → g j = g' j := by
  refine ⟨by rw [h.1, h'.1], fun j hj => ?_⟩
  have h1 := h.1
  have hl : j < l.length := by omega
  rw [h.2 j l[j] (List.getElem?_eq_getElem hl), h'.2 j l[j] (List.getElem?_eq_getElem hl)]
theorem rep_n8 {g : Nat → Int} {n : Int} (h : n = 0) : rep g n [] := ⟨h, fun j x hx => by simp at hx⟩
theorem okt_nil : okt [] := ⟨by simp, fun x hx => by simp at hx⟩
theorem kin_ex {G : Nat → Nat → Option Nat} (hG : gg G) {F : fl_N} (hg : gi F) {l : List Int} (h : rep (F 345) (F 344 1) l) (ho : okt l) : ∃ K : fl_N, kin K (F 344 1) ∧ ∀ j : Nat, (j : Int) < F 344 1 → F 345 j = K 2 j := by
  have hb1 : 0 ≤ F 344 1 ∧ F 344 1 ≤ 600 := gi_g hg rfl
  obtain ⟨F0, hF0⟩ : ∃ F0 : fl_N, ∀ r k, F0 r k = if r = 2 then F 345 k else if r = 1 ∧ k = 1 then F 344 1 else F r k := ⟨_, fun _ _ => rfl⟩
  have e2 : ∀ k, F0 2 k = F 345 k := fun k => by rw [hF0, if_pos rfl]
  have e1 : F0 1 1 = F 344 1 := by rw [hF0, if_neg (by decide), if_pos ⟨rfl, rfl⟩]
  have hg0 : gi F0 := by
    intro r k
    by_cases hr : r = 2
    · subst hr
      rw [e2]
      have h9 : 0 ≤ F 345 k ∧ F 345 k ≤ 126 := gi_g hg rfl
      rw [show gb 2 k = (0, 126) from rfl]
      exact h9
    · by_cases hk : r = 1 ∧ k = 1
      · rw [hk.1, hk.2, e1, show gb 1 1 = (0, 600) from rfl]
        exact hb1
      · rw [hF0, if_neg hr, if_neg hk]
        exact hg r k
  obtain ⟨n, o, A', h3, h4⟩ := mc_22 hG F0 [] hg0 2 53 (Nat.le_refl _) (Nat.le_refl _)
  match o, h4 with
  | .returned none, h4 =>
    obtain ⟨K, hA, gK, sK, ⟨lt, et, ht, -⟩, -⟩ := h4
    have eK : K 2 = F0 2 := funext (fun j => sK 2 j (fs_c rfl))
    have eF : F0 2 = F 345 := funext e2
    refine ⟨K, ⟨gK, hb1.1, ?_, fun j hj => ?_⟩, fun j hj => ?_⟩
    · rw [e1] at ht et
      rw [eK, ← et]
      exact ht
    · rw [eK, eF]
      exact okt_at h ho j hj
    · rw [eK, eF]
  | .returned (some _), hq => exact False.elim hq
  | .threw _, hq => exact False.elim hq
theorem nzl_32 {bs : List Int} (h : okl bs) : ∀ x ∈ nzl bs, 32 ≤ x := by
  induction bs with
  | nil => intro x hx; simp [nzl] at hx
  | cons b bs ih =>
    rw [okl_c] at h
    intro x hx
    by_cases e : b = 0
    · rw [nzl, if_pos e] at hx
      exact ih h.2 x hx
    · rw [nzl, if_neg e] at hx
      rcases List.mem_cons.mp hx with h1 | h1
      · rw [h1]
        rcases h.1 with h2 | h2
        · exact absurd h2 e
        · exact h2.1
      · exact ih h.2 x h1
theorem txs_ok {bs l l2 : List Int} (h : txs bs l = some l2) (ho : okt l) : okt l2 := by
  by_cases hc : okl bs ∧ (l.length : Int) + ((nzl bs).length : Int) ≤ 600
  · have h1 := (txs_sn bs l ho.1).1 hc.1 hc.2
    rw [h1] at h
    have h2 : l2 = l ++ nzl bs := (Option.some.inj h).symm
    subst h2
    refine ⟨by rw [List.length_append]; have := hc.2; omega, fun x hx => ?_⟩
    rcases List.mem_append.mp hx with h3 | h3
    · exact ho.2 x h3
    · exact nzl_32 hc.1 x h3
  · rw [(txs_sn bs l ho.1).2 hc] at h
    cases h
section OPS
variable {G : Nat → Nat → Option Nat} {F : fl_N} {X : xi_H}
theorem op_0 (hG : gg G) (h : iv F) (p q r s t : Int) : opR True 1 [.ref 0, .int (Int32.ofInt p), .int (Int32.ofInt q), .int (Int32.ofInt r), .int (Int32.ofInt s), .int (Int32.ofInt t)] 46 [.ref 344, .int (Int32.ofInt p), .int (Int32.ofInt q), .int (Int32.ofInt r), .int (Int32.ofInt s), .int (Int32.ofInt t)] G F X := by
  obtain ⟨⟨⟨h, hR⟩, hPl⟩, hT⟩ := h
  obtain ⟨hg, hA, hB, h7, hN, l, t1, t2, ho⟩ := h
  obtain ⟨f1, z1, A1, r1, hq⟩ := gq_run (mc_1 hG F X hg p q r s t l t1 ho.1) (by decide) (by decide)
  have key : ∀ (F1 : fl_N), gi F1 → fs [(1, 1, 1, 1), (2, 2, 0, 100000)] F F1 → ivA F1 ∧ ivB F1 ∧ F1 0 7 = F1 344 11 ∧ rep (F1 345) (F1 344 1) l := fun F1 g1 s1 => ⟨⟨fnd_cg hA.1 (s1 _ _ rfl) (s1 _ _ rfl), dmi_fs hA.2 hg s1 rfl rfl (fun r k hr => fs_rg (a := 39) (b := 103) rfl r k hr)⟩, ivB_lo hB s1 rfl, by rw [s1 0 7 rfl, s1 344 11 rfl]; exact h7, rep_f8 t2 s1 (fun j => fs_c rfl) rfl⟩
  have key2 : ∀ (F1 F2 : fl_N) (l2 : List Int), gi F1 → gi F2 → fs [(1, 1, 1, 1), (2, 2, 0, 100000)] F F1 → fs [(344, 344, 0, 1), (345, 345, 0, 100000)] F1 F2 → rep (F1 2) (F1 1 1) l2 → rep (F2 345) (F2 344 1) l2 → okt l2 → ivq F2 := fun F1 F2 l2 g1 g2 s1 s2 a1 a2 a3 => by
    obtain ⟨k1, k2, k3, -⟩ := key F1 g1 s1
    refine ⟨g2, ivA_hi k1 g1 s2 rfl, ivB_fs k2 s2 rfl (pli_fs k2.2.2.2.1 s2 rfl) (by rw [s2 344 69 rfl]; exact k2.2.2.2.2.2), ?_, ivN_r g1 (ivN_c hg hN s1 rfl rfl (s1 0 7 rfl)) s2 rfl rfl, l2, rep_f8 a1 s2 (fun j => fs_c rfl) rfl, a2, a3⟩
    rw [s2 0 7 rfl, s2 344 11 rfl]
    exact k3
  rcases hq with ⟨F1, e1, g1, s1, e2, b1, b2⟩ | ⟨F1, e1, g1, s1, e2, l2, b1, b2⟩
  · subst e1
    subst e2
    obtain ⟨k1, k2, k3, k4⟩ := key F1 g1 s1
    obtain ⟨f2, z2, A2, r2, hq2⟩ := gq_run (mc_46 hG F1 X g1 p q r s t l k4 ho.1) (by decide) (by decide)
    rcases hq2 with ⟨F2, e3, g2, s2, e4, b3, b4⟩ | ⟨F2, e3, g2, s2, e4, l3, b3, b4⟩
    · subst e3
      subst e4
      exact ⟨f1, 0, F1, X, r1, Or.inl rfl, f2, 0, F2, r2, ⟨⟨⟨key2 F1 F2 l g1 g2 s1 s2 b2 b4 ho, ivR_t hR ⟨⟨s1 0 8 rfl, s1 0 10 rfl, fun j => s1 342 j (fs_c rfl)⟩, s1 344 60 rfl, fun j => s1 382 j (fs_c rfl), s1 120 3 rfl⟩ s2 rfl rfl⟩, ivP_t hPl ⟨⟨s1 331 11 rfl, s1 335 200 rfl, fun j => s1 339 j (fs_c rfl)⟩, s1 344 13 rfl, s1 344 58 rfl, fun j => s1 381 j (fs_c rfl)⟩ s2 rfl rfl⟩, ivT_t hg hT ⟨⟨fun r j hr => (by rcases hr with rfl | rfl | hr; exact s1 16 j (fs_c rfl); exact s1 106 j (fs_c rfl); exact s1 r j (fs_rg (a := 126) (b := 330) rfl r j hr)), fun r j hr => (by rcases hr with rfl | rfl | rfl | rfl | rfl; exact s1 353 j (fs_c rfl); exact s1 354 j (fs_c rfl); exact s1 364 j (fs_c rfl); exact s1 367 j (fs_c rfl); exact s1 368 j (fs_c rfl)), s1 0 7 rfl, s1 0 8 rfl, s1 15 2 rfl, s1 120 3 rfl, s1 344 21 rfl⟩, s1 0 12 rfl, fun j => s1 343 j (fs_c rfl), s1 331 11 rfl, s1 344 58 rfl, fun j => s1 381 j (fs_c rfl)⟩ g1 s2 rfl rfl rfl⟩, fun _ => rfl⟩
    · rw [b1] at b3
      cases b3
  · subst e1
    subst e2
    obtain ⟨k1, k2, k3, k4⟩ := key F1 g1 s1
    obtain ⟨f2, z2, A2, r2, hq2⟩ := gq_run (mc_46 hG F1 X g1 p q r s t l k4 ho.1) (by decide) (by decide)
    rcases hq2 with ⟨F2, e3, g2, s2, e4, b3, b4⟩ | ⟨F2, e3, g2, s2, e4, l3, b3, b4⟩
    · rw [b1] at b3
      cases b3
    · subst e3
      subst e4
      rw [b1] at b3
      have e5 : l2 = l3 := Option.some.inj b3
      subst e5
      exact ⟨f1, 1, F1, X, r1, Or.inl rfl, f2, 1, F2, r2, ⟨⟨⟨key2 F1 F2 l2 g1 g2 s1 s2 b2 b4 (txs_ok b1 ho), ivR_t hR ⟨⟨s1 0 8 rfl, s1 0 10 rfl, fun j => s1 342 j (fs_c rfl)⟩, s1 344 60 rfl, fun j => s1 382 j (fs_c rfl), s1 120 3 rfl⟩ s2 rfl rfl⟩, ivP_t hPl ⟨⟨s1 331 11 rfl, s1 335 200 rfl, fun j => s1 339 j (fs_c rfl)⟩, s1 344 13 rfl, s1 344 58 rfl, fun j => s1 381 j (fs_c rfl)⟩ s2 rfl rfl⟩, ivT_t hg hT ⟨⟨fun r j hr => (by rcases hr with rfl | rfl | hr; exact s1 16 j (fs_c rfl); exact s1 106 j (fs_c rfl); exact s1 r j (fs_rg (a := 126) (b := 330) rfl r j hr)), fun r j hr => (by rcases hr with rfl | rfl | rfl | rfl | rfl; exact s1 353 j (fs_c rfl); exact s1 354 j (fs_c rfl); exact s1 364 j (fs_c rfl); exact s1 367 j (fs_c rfl); exact s1 368 j (fs_c rfl)), s1 0 7 rfl, s1 0 8 rfl, s1 15 2 rfl, s1 120 3 rfl, s1 344 21 rfl⟩, s1 0 12 rfl, fun j => s1 343 j (fs_c rfl), s1 331 11 rfl, s1 344 58 rfl, fun j => s1 381 j (fs_c rfl)⟩ g1 s2 rfl rfl rfl⟩, fun _ => rfl⟩
theorem op_1 (hG : gg G) (h : iv F) : opR False 74 [.ref 0, .ref 386] 63 [.ref 344] G F X := by
  obtain ⟨⟨⟨h, hR⟩, hPl⟩, hT⟩ := h
  obtain ⟨f1, z1, A1, r1, F1, X1, e1, hX, g1, hf0, hf12, hf1, ht1, hp1, hp5, hd1, ⟨S, hs, hl⟩, hor⟩ := gq_run (mh_74 hG F X h) (by decide) (by decide)
  subst e1
  obtain ⟨hg, hA, hB, h7, hN, l, t1, t2, ho⟩ := h
  have hB1 := ivB_lo hB hs hl
  have t3 : rep (F1 345) (F1 344 1) l := rep_f8 t2 hs (fun j => loS_at hl (by decide) (by decide)) (loS_at hl (by decide) (by decide))
  obtain ⟨en, ee⟩ := rep_eq t3 t1
  have hb11 : 0 ≤ F 1 1 ∧ F 1 1 ≤ 600 := gi_g hg rfl
  have fin : ∀ (F2 : fl_N) (v : Int), gi F2 → fs [(344, 344, 0, 1), (344, 344, 4, 5), (344, 344, 8, 15), (344, 344, 17, 17), (344, 344, 21, 21), (344, 344, 63, 63), (347, 363, 0, 100000), (383, 383, 0, 100000)] F1 F2 → F1 0 7 = v → F2 344 11 = v → F2 344 1 = 0 → (F2 344 12 = 0 ∧ F2 344 13 = 0) → (F2 344 11 = 1 → ∃ ts pl ps, rpn (F2 349) (F2 344 15) ts ∧ rpn (F2 350) (F2 344 17) pl ∧ (rprd F2 ps ∧ ps.length = pl.length)) → (F2 344 11 = 1 → ∀ j : Nat, (j : Int) < F2 344 21 → 0 ≤ F2 357 j) → ivN F2 → ivq F2 := fun F2 v g2 s2 a1 a2 a3 a4 a5 a6 a7 => by
    refine ⟨g2, ivA_hi ⟨hf1, hd1⟩ g1 s2 rfl, ⟨fun j hj => ?_, a5, a6, pli_0 a4.2, fun h9 => absurd h9 (by rw [a4.1]; decide), ?_⟩, ?_, a7, [], rep_n8 ?_, rep_n8 a3, okt_nil⟩
    · rw [s2 346 j (fs_c rfl)]
      exact hB1.1 j hj
    · rw [s2 344 69 rfl]
      exact hB1.2.2.2.2.2
    · rw [s2 0 7 rfl, a1, a2]
    · rw [s2 1 1 rfl]
      exact ht1
  rcases hor with ⟨q7, q8, K, ts, pl, ps, al, k1, k2, k3, k4, k5, k6, k7, k8, k9, k10⟩ | ⟨q7, K, e, k1, k2, k3⟩
  · obtain ⟨f2, z2, A2, r2, hq2⟩ := gq_run (mc_63 hG F1 X1 g1 K (by rw [en]; exact kin_of k1 hb11.1 (okt_at t1 ho)) (fun j hj => by rw [ee j hj]; exact (k1.1.2.1 j).symm) hB1.1) (by decide) (by decide)
    rcases hq2 with ⟨F2, e3, g2, s2, ⟨e', b1, -⟩, -⟩ | ⟨F2, e3, g2, s2, ⟨ts', pl', ps', al', b1, b2, b3, b4, b5, b6, b7, b8⟩, c1, c2, c3, c4, c5, c6⟩
    · rw [k2] at b1
      cases b1
    · subst e3
      have h9 := k2.symm.trans b1
      simp only [Sum.inr.injEq, Prod.mk.injEq] at h9
      obtain ⟨h91, h92, h93, h94⟩ := h9
      rw [← h91] at b2
      rw [← h92] at b3
      rw [← h92, ← h93] at b4
      have hb11' : 0 ≤ F1 11 2 ∧ F1 11 2 ≤ 6 := gi_g g1 rfl
      have hk5 := k5.1
      have hb15 : 0 ≤ F1 15 2 ∧ F1 15 2 ≤ 5 := gi_g g1 rfl
      have hN2 : ivN F2 := ⟨by rw [s2 1 8 rfl, q8, c6], fun _ => ⟨sp_dnm K, ts, pl, ps, dom_d K, (s2 7 0 rfl).trans k3, b6, rep_f8 k4 s2 (fun j => fs_c rfl) rfl, rep_f8 k5 s2 (fun j => fs_c rfl) rfl, prd_fs k6 s2 (fun r k hr => fs_rg (a := 21) (b := 38) rfl r k ⟨hr.1, by omega⟩), k7, b2, b3, b4.1, ⟨dar_fs k8 s2 (fun r k hr => fs_rg (a := 39) (b := 103) rfl r k ⟨hr.1, by omega⟩), by rw [s2 15 2 rfl]; exact k9⟩, ⟨b7, b8⟩, dom_all k7 k2⟩, by rw [s2 0 8 rfl, hp1, c5.1], fun h9 => absurd h9 (by rw [s2 0 8 rfl, hp1]; decide), fun j hj => (s2 125 j (fs_c rfl)).trans ((hp5 j).trans (hN.2.2.2.2 j hj))⟩
      exact ⟨f1, z1, F1, X1, r1, hX, f2, z2, F2, r2, ⟨⟨⟨fin F2 1 g2 s2 q7 c1 c4 c5 (fun _ => ⟨ts, pl, ps, b2, b3, b4⟩) (fun _ => c3) hN2, fun h9 => absurd h9 (by rw [s2 0 8 rfl, hp1]; decide)⟩, ⟨by rw [s2 331 11 rfl, hf0, c5.2], fun h9 => absurd h9 (by rw [s2 331 11 rfl, hf0]; decide)⟩⟩, ⟨⟨fun _ => ⟨al, rep_f8 k10 s2 (fun j => fs_c rfl) rfl, by rw [h94]; exact b5⟩, fun h9 => absurd h9 (by rw [s2 0 8 rfl, hp1]; decide)⟩, ⟨fun _ => (s2 0 12 rfl).trans hf12, fun h9 => absurd h9 (by rw [s2 331 11 rfl, hf0]; decide)⟩⟩⟩, fun h9 => h9.elim⟩
  · obtain ⟨f2, z2, A2, r2, hq2⟩ := gq_run (mc_63 hG F1 X1 g1 K (by rw [en]; exact kin_of k1 hb11.1 (okt_at t1 ho)) (fun j hj => by rw [ee j hj]; exact (k1.1.2.1 j).symm) hB1.1) (by decide) (by decide)
    rcases hq2 with ⟨F2, e3, g2, s2, ⟨e', b1, b2⟩, c1, c2, c3, c4⟩ | ⟨F2, e3, g2, s2, ⟨ts', pl', ps', al', b1, -⟩, -⟩
    · subst e3
      exact ⟨f1, z1, F1, X1, r1, hX, f2, z2, F2, r2, ⟨⟨⟨fin F2 0 g2 s2 q7 c1 c3 c4 (fun h9 => absurd h9 (by rw [c1]; decide)) (fun h9 => absurd h9 (by rw [c1]; decide)) ⟨by rw [s2 1 8 rfl, k3, b2, Sum.inl.inj (k2.symm.trans b1)], fun h9 => absurd h9 (by rw [s2 0 7 rfl, q7]; decide), by rw [s2 0 8 rfl, hp1, c4.1], fun h9 => absurd h9 (by rw [s2 0 8 rfl, hp1]; decide), fun j hj => (s2 125 j (fs_c rfl)).trans ((hp5 j).trans (hN.2.2.2.2 j hj))⟩, fun h9 => absurd h9 (by rw [s2 0 8 rfl, hp1]; decide)⟩, ⟨by rw [s2 331 11 rfl, hf0, c4.2], fun h9 => absurd h9 (by rw [s2 331 11 rfl, hf0]; decide)⟩⟩, ⟨⟨fun h9 => absurd h9 (by rw [s2 0 7 rfl, q7]; decide), fun h9 => absurd h9 (by rw [s2 0 8 rfl, hp1]; decide)⟩, ⟨fun _ => (s2 0 12 rfl).trans hf12, fun h9 => absurd h9 (by rw [s2 331 11 rfl, hf0]; decide)⟩⟩⟩, fun h9 => h9.elim⟩
    · rw [k2] at b1
      cases b1
theorem op_2 (hG : gg G) (h : iv F) : opR False 75 [.ref 0, .ref 386] 64 [.ref 344] G F X := by
  obtain ⟨⟨⟨h, hR⟩, hPl⟩, hT⟩ := h
  have hg0 := h.1
  have hb11 : 0 ≤ F 1 1 ∧ F 1 1 ≤ 600 := gi_g hg0 rfl
  have hbp : 0 ≤ F 11 2 ∧ F 11 2 ≤ 6 := gi_g hg0 rfl
  have hbt : 0 ≤ F 8 2 := (gi_g (a := 0) (b := 4) hg0 rfl).1
  obtain ⟨nm, ts, pl, ps, D, d1, d2, d3, d4, d5, d6, dR⟩ : ∃ nm ts pl ps D, F 7 0 = nm ∧ rep (F 9) (F 8 2) ts ∧ rep (F 12) (F 11 2) pl ∧ prd F ps ∧ pl.length = ps.length ∧ (F 0 7 = 1 → dar F D ∧ (D.length : Int) = F 15 2) ∧ (F 0 7 = 1 → nrel nm (F 344 14) ∧ rpn (F 349) (F 344 15) ts ∧ rpn (F 350) (F 344 17) pl ∧ rprd F ps ∧ (rdar F D ∧ (D.length : Int) = F 344 21) ∧ ∀ d ∈ D, adok ps d ∧ d.1.length ≤ 3) := by
    by_cases h1 : F 0 7 = 1
    · obtain ⟨nm, ts, pl, ps, D, a1, a2, a3, a4, a5, a6, a7, a8, a9, b1, b2, b3⟩ := h.2.2.2.2.1.2.1 h1
      exact ⟨nm, ts, pl, ps, D, a1, a3, a4, a5, a6, fun _ => b1, fun _ => ⟨a2, a7, a8, a9, b2, b3⟩⟩
    · obtain ⟨ts, a3⟩ := rep_ex (F 9) hbt
      obtain ⟨pl, a4⟩ := rep_ex (F 12) hbp.1
      obtain ⟨ps, a5, a6⟩ := prd_ex (pl := pl) hg0 (by have := a4.1; omega)
      exact ⟨F 7 0, ts, pl, ps, [], rfl, a3, a4, a5, a6, fun h9 => absurd h9 h1, fun h9 => absurd h9 h1⟩
  obtain ⟨f1, z1, A1, r1, F1, X1, e1, hX, g1, hpl, hA1, ⟨S, hs, hl⟩, q7, hp1, hp0, hst, hor⟩ := gq_run (mh_75 hG F X h nm ts pl ps d1 d2 d3 d4 d5 D d6) (by decide) (by decide)
  subst e1
  obtain ⟨hg, hA, hB, h7, hN, l, t1, t2, ho⟩ := h
  have hB1 := ivB_lo hB hs hl
  have t3 : rep (F1 345) (F1 344 1) l := rep_f8 t2 hs (fun j => loS_at hl (by decide) (by decide)) (loS_at hl (by decide) (by decide))
  have e11 : F1 344 11 = F 344 11 := hs _ _ (loS_at hl (by decide) (by decide))
  have eS : ∀ r k, 344 ≤ r → r < 386 → fs_in S r k = false := fun r k a b => loS_at hl a b
  have hdm : F1 344 11 = 1 → nrel nm (F1 344 14) ∧ rpn (F1 349) (F1 344 15) ts ∧ rpn (F1 350) (F1 344 17) pl ∧ (rprd F1 ps ∧ ps.length = pl.length) := fun h9 => by
    obtain ⟨a2, a7, a8, a9, -⟩ := dR (by rw [h7, ← e11]; exact h9)
    exact ⟨by rw [hs 344 14 (eS _ _ (by decide) (by decide))]; exact a2, rpn_fs a7 hs (fun j => eS _ _ (by decide) (by decide)) (eS _ _ (by decide) (by decide)), rpn_fs a8 hs (fun j => eS _ _ (by decide) (by decide)) (eS _ _ (by decide) (by decide)), rprd_fs a9 hs (fun r j hr => eS r j (by omega) (by omega)), d5.symm⟩
  have hDD1 : F1 344 11 = 1 → rdar F1 D ∧ (D.length : Int) = F1 344 21 ∧ ∀ d ∈ D, adok ps d ∧ d.1.length ≤ 3 := fun h9 => by
    obtain ⟨-, -, -, -, ⟨b1, b2⟩, b3⟩ := dR (by rw [h7, ← e11]; exact h9)
    exact ⟨rdar_fs b1 hs (fun r k hr => eS r k (by omega) (by omega)), by rw [hs 344 21 (eS _ _ (by decide) (by decide))]; exact b2, b3⟩
  obtain ⟨en, ee⟩ := rep_eq t3 t1
  obtain ⟨K, hK, hKt, hKp⟩ : ∃ K : fl_N, kin K (F1 344 1) ∧ (∀ j : Nat, (j : Int) < F1 344 1 → F1 345 j = K 2 j) ∧ ((F 0 7 = 0 ∧ z1 = 1 ∧ F1 1 8 = F 1 8) ∨ (F 0 7 = 1 ∧ ((∃ e, sp_prb K nm ts pl ps = .inl e ∧ F1 1 8 = e.1 + 10 * e.2 ∧ z1 = 2) ∨ (F1 1 8 = 0 ∧ ∃ l tl, sp_prb K nm ts pl ps = .inr (l, tl) ∧ ((z1 = 3 ∧ (40 < nfc ps tl 216 ∨ 40 < (stP tl D D.length).length)) ∨ (z1 = 0 ∧ nfc ps tl 216 ≤ 40 ∧ (stP tl D D.length).length ≤ 40 ∧ F1 386 0 = (Int32.ofInt ((stP tl D D.length).length : Int)).toInt ∧ pbC F1 ps tl D (prb_i K nm ts pl ps) (prb_g K nm ts pl ps) ∧ tl.length ≤ 6 ∧ rep (F1 106) (F1 105 2) l)))))) := by
    rcases hor with ⟨q1, qz, q2, q3, q4⟩ | ⟨q1, q2, ⟨K, e, k1, k2, k3, k4⟩ | ⟨q3, K, l1, tl1, k1, k2, k3⟩⟩
    · obtain ⟨K, hK, hKt⟩ := kin_ex hG g1 t3 ho
      exact ⟨K, hK, hKt, Or.inl ⟨q1, qz, q4⟩⟩
    · exact ⟨K, by rw [en]; exact kin_of k1 hb11.1 (okt_at t1 ho), fun j hj => by rw [ee j hj]; exact (k1.1.2.1 j).symm, Or.inr ⟨q1, Or.inl ⟨e, k2, k3, k4⟩⟩⟩
    · exact ⟨K, by rw [en]; exact kin_of k1 hb11.1 (okt_at t1 ho), fun j hj => by rw [ee j hj]; exact (k1.1.2.1 j).symm, Or.inr ⟨q1, Or.inr ⟨q3, l1, tl1, k2, k3⟩⟩⟩
  obtain ⟨f2, z2, A2, r2, F2, e2, g2, s2, -, ht, hp, hpb, hq, hh⟩ := gq_run (mc_64v hG F1 X1 g1 K nm ts pl ps D hK hKt hB1.1 hdm hB1.2.2.1 hB1.2.2.2.1 hB1.2.2.2.2.1 hDD1) (by decide) (by decide)
  subst e2
  have hres : F1 1 8 = F2 344 8 ∧ F2 344 0 = z1 ∧ (Int32.ofInt z1 = 0 → Int64.ofInt (F2 386 0) = (Int32.ofInt z2).toInt64) := by
    rcases hKp with ⟨p1, pz, p2⟩ | ⟨p1, p2⟩
    · rcases hq with ⟨u1, u2, u3⟩ | ⟨u1, -⟩
      · refine ⟨?_, by rw [u2, pz], fun h9 => absurd h9 (by rw [pz]; decide)⟩
        rw [p2, u3, hs 344 8 (eS _ _ (by decide) (by decide))]
        exact hN.1
      · rw [e11, ← h7, p1] at u1
        exact absurd u1 (by decide)
    · rcases hq with ⟨u1, -⟩ | ⟨-, u2⟩
      · rw [e11, ← h7, p1] at u1
        exact absurd u1 (by decide)
      · rcases p2 with ⟨e, p3, p4, pz⟩ | ⟨p3, l1, tl1, p4, p5⟩
        · rcases u2 with ⟨e', u3, u4, u5⟩ | ⟨l2, tl2, u3, -⟩
          · exact ⟨by rw [p4, u4, Sum.inl.inj (p3.symm.trans u3)], by rw [u5, pz], fun h9 => absurd h9 (by rw [pz]; decide)⟩
          · rw [p3] at u3
            cases u3
        · rcases u2 with ⟨e', u3, -⟩ | ⟨l2, tl2, u3, u4, u5⟩
          · rw [p4] at u3
            cases u3
          · have h9 := Sum.inr.inj (p4.symm.trans u3)
            have h8 : tl1 = tl2 := congrArg Prod.snd h9
            subst h8
            refine ⟨by rw [p3, u4], ?_⟩
            rcases p5 with ⟨pz, p5⟩ | ⟨pz, p5, p6, p7, -⟩
            · rcases u5 with ⟨u5, -⟩ | ⟨-, u6, u7, -⟩
              · exact ⟨by rw [u5, pz], fun h9 => absurd h9 (by rw [pz]; decide)⟩
              · exfalso
                omega
            · rcases u5 with ⟨-, u6⟩ | ⟨u5, u6, u7, u8, -⟩
              · exfalso
                omega
              · refine ⟨by rw [u5, pz], fun _ => ?_⟩
                rw [s2 386 0 rfl, p7, u8, fl_toInt ⟨by omega, by omega⟩, fl_i2l ⟨by omega, by omega⟩]
  have hP : F1 0 8 = F2 344 12 ∧ (F1 0 8 = 1 → F 0 7 = 1 ∧ (F1 0 10 = 0 ∧ F2 344 60 = 0) ∧ ivQ F2 ∧ ∀ s : Nat, (s : Int) < F2 120 3 → tA F2 s) := by
    rcases hKp with ⟨p1, pz, p2⟩ | ⟨p1, p2⟩
    · rcases hq with ⟨u1, u2, u3⟩ | ⟨u1, -⟩
      · have w1 : F1 0 8 = F 0 8 := by
          rw [hp1 (by rw [pz]; decide), if_pos p1]
        refine ⟨by rw [w1, hh.2.1 u2, hs 344 12 (eS _ _ (by decide) (by decide))]; exact hN.2.2.1, fun h9 => ?_⟩
        have w2 := (hN.2.2.2.1 (by rw [← w1]; exact h9)).1
        exact absurd (p1.symm.trans w2) (by decide)
      · rw [e11, ← h7, p1] at u1
        exact absurd u1 (by decide)
    · have n7 : ¬ F 0 7 = 0 := by
        rw [p1]
        decide
      rcases hq with ⟨u1, -⟩ | ⟨-, u2⟩
      · rw [e11, ← h7, p1] at u1
        exact absurd u1 (by decide)
      · rcases p2 with ⟨e, p3, p4, pz⟩ | ⟨p3, l1, tl1, p4, p5⟩
        · rcases u2 with ⟨e', u3, u4, u5⟩ | ⟨l2, tl2, u3, -⟩
          · have w1 : F1 0 8 = 0 := by
              rw [hp1 (by rw [pz]; decide), if_neg n7]
            exact ⟨by rw [w1, hh.2.2.1 (Or.inl u5)], fun h9 => absurd (w1.symm.trans h9) (by decide)⟩
          · rw [p3] at u3
            cases u3
        · rcases u2 with ⟨e', u3, -⟩ | ⟨l2, tl2, u3, u4, u5⟩
          · rw [p4] at u3
            cases u3
          · have h9 := Sum.inr.inj (p4.symm.trans u3)
            have h8 : tl1 = tl2 := congrArg Prod.snd h9
            subst h8
            rcases p5 with ⟨pz, p5⟩ | ⟨pz, p5, p6, p7, p8, p9, p10⟩
            · rcases u5 with ⟨u5, -⟩ | ⟨-, u6, u7, -⟩
              · have w1 : F1 0 8 = 0 := by
                  rw [hp1 (by rw [pz]; decide), if_neg n7]
                exact ⟨by rw [w1, hh.2.2.1 (Or.inr u5)], fun h9 => absurd (w1.symm.trans h9) (by decide)⟩
              · exfalso
                omega
            · rcases u5 with ⟨-, u6⟩ | ⟨u5, u6, u7, u8, u9, u10, u11, u12⟩
              · exfalso
                omega
              · obtain ⟨w1, w2⟩ := hp0 pz
                obtain ⟨v1, v2⟩ := hh.1 u5
                refine ⟨by rw [w1, v1], fun _ => ⟨p1, ⟨w2, v2⟩, ?_⟩⟩
                have k1 := p8.2.2.1
                have hd1 := hDD1 (by rw [e11, ← h7]; exact p1)
                have hb21 : 0 ≤ F1 344 21 ∧ F1 344 21 ≤ 5 := gi_g g1 rfl
                have hD5 : D.length ≤ 5 := by
                  have h6 := hd1.2.1
                  omega
                have hbp2 : 0 ≤ F 11 2 ∧ F 11 2 ≤ 6 := gi_g hg rfl
                have hp6 : ps.length ≤ 6 := by
                  have h5 := d3.1
                  omega
                obtain ⟨⟨y1, y2⟩, y3, y4⟩ := prb_ok d5 p4
                have hrd2 := rdar_5 hd1.1 g1 hD5 (lfr_s s2 rfl)
                have hM : ivM F2 := ivM_of hp6 p9 hd1.2.2 (pbC_cg p8 (fun r k hr => s2 r k (fs_rg (a := 120) (b := 330) rfl r k hr))) (fun x hx => by rw [← y1]; exact (y3 x hx).1) (fun x hx => by rw [← y1]; exact y4 x hx) (fun j hj => (s2 125 j (fs_c rfl)).trans ((hst 125 j (Or.inr (Or.inr (Or.inr (Or.inr ⟨by omega, by omega⟩))))).trans (hN.2.2.2.2 j hj))) u11.1 u10 hrd2 u11.2.1 u11.2.2.1 u11.2.2.2.1 u11.2.2.2.2
                have h7' : l1 = l2 := congrArg Prod.fst h9
                obtain ⟨al, al1, al2⟩ := hT.1.1 p1
                have hDl := (d6 p1).2
                have hal := al1.1
                have r1' : rep (F2 16) (F2 15 2) al := ⟨by rw [s2 15 2 rfl, hst 15 2 (Or.inr (Or.inr (Or.inl ⟨by decide, by decide⟩)))]; exact al1.1, fun j x hx => by rw [s2 16 j (fs_c rfl), hst 16 j (Or.inr (Or.inr (Or.inl ⟨by decide, by decide⟩)))]; exact al1.2 j x hx⟩
                have r2' : rpn (F2 353) (F2 344 21) al := ⟨by rw [s2 344 21 rfl, hs 344 21 (eS _ _ (by decide) (by decide))]; exact al2.1, fun j x hx => by rw [s2 353 j (fs_c rfl), hs 353 j (eS _ _ (by decide) (by decide))]; exact al2.2 j x hx⟩
                have r3' : rep (F2 106) (F2 105 2) l1 := rep_f8 p10 s2 (fun j => fs_c rfl) rfl
                have k2' := sts_cg p8.2.2.2.1 (fun r k hr => s2 r k (fs_rg (a := 120) (b := 330) rfl r k ⟨by omega, by omega⟩)) (fun k => s2 121 k (fs_c rfl))
                refine ⟨?_, fun s hs9 => tA_of g2 k2' u10 hrd2 (fun d hd => (hd1.2.2 d hd).2) r1' r2' (by omega) r3' (by rw [h7']; exact u12) (by omega) (by have h5 := (s2 120 3 rfl).trans k1.1; omega)⟩
                exact ⟨tl1, D, ⟨(s2 120 3 rfl).trans k1.1, by rw [s2 120 3 rfl]; exact k1.2⟩, sts_cg p8.2.2.2.1 (fun r k hr => s2 r k (fs_rg (a := 120) (b := 330) rfl r k ⟨by omega, by omega⟩)) (fun k => s2 121 k (fs_c rfl)), u9, u10, hrd2, hD5, hM⟩
  have hPl2 : ivP F2 := by
    rcases hKp with ⟨p1, pz, -⟩ | ⟨p1, p2⟩
    · have eF := hpl.1 p1
      have w1 : F1 331 11 = F 331 11 := by rw [eF]
      have w2 : F1 335 200 = F 335 200 := by rw [eF]
      have u := hh.2.2.2.1 (hres.2.1.trans pz)
      exact ivP_c hPl ⟨⟨(s2 331 11 rfl).trans w1, (s2 335 200 rfl).trans w2, fun j => (s2 339 j (fs_c rfl)).trans (hpl.2.2 j)⟩, u.trans (hs 344 13 (eS _ _ (by decide) (by decide))), (s2 344 58 rfl).trans (hs 344 58 (eS _ _ (by decide) (by decide))), fun j => (s2 381 j (fs_c rfl)).trans (hs 381 j (eS _ _ (by decide) (by decide)))⟩
    · have n7 : ¬ F 0 7 = 0 := by
        rw [p1]
        decide
      have nz : ¬ F2 344 0 = 1 := by
        rw [hres.2.1]
        rcases p2 with ⟨e, -, -, pz⟩ | ⟨-, l1, tl1, -, ⟨pz, -⟩ | ⟨pz, -⟩⟩ <;> rw [pz] <;> decide
      have w1 := (hpl.2.1 n7).1
      exact ⟨by rw [s2 331 11 rfl, w1, hh.2.2.2.2.1 nz], fun h9 => absurd h9 (by rw [s2 331 11 rfl, w1]; decide)⟩
  have hT2 : ivT F2 := by
    rcases hKp with ⟨p1, pz, -⟩ | ⟨p1, p2⟩
    · have eF := hpl.1 p1
      subst eF
      have u := hh.2.2.2.2.2 (hres.2.1.trans pz)
      have cl : ∀ r j, r < 344 → F2 r j = F1 r j := fun r j a => s2 r j (hiS_at rfl a)
      exact ivT_c hg hT ⟨⟨fun r j hr => cl r j (by omega), fun r j hr => (by rcases hr with rfl | rfl | rfl | rfl | rfl; exact s2 353 j (fs_c rfl); exact s2 354 j (fs_c rfl); exact u 364 j (Or.inl rfl); exact u 367 j (Or.inr (Or.inl rfl)); exact u 368 j (Or.inr (Or.inr rfl))), s2 0 7 rfl, s2 0 8 rfl, s2 15 2 rfl, s2 120 3 rfl, s2 344 21 rfl⟩, s2 0 12 rfl, fun j => s2 343 j (fs_c rfl), s2 331 11 rfl, s2 344 58 rfl, fun j => s2 381 j (fs_c rfl)⟩
    · have n7 : ¬ F 0 7 = 0 := by
        rw [p1]
        decide
      obtain ⟨w1, w2⟩ := hpl.2.1 n7
      refine ⟨⟨fun _ => ?_, fun h9 => (hP.2 (by rw [← s2 0 8 rfl]; exact h9)).2.2.2⟩, ⟨fun _ => (s2 0 12 rfl).trans w2, fun h9 => absurd h9 (by rw [s2 331 11 rfl, w1]; decide)⟩⟩
      obtain ⟨al, al1, al2⟩ := hT.1.1 p1
      exact ⟨al, ⟨by rw [s2 15 2 rfl, hst 15 2 (Or.inr (Or.inr (Or.inl ⟨by decide, by decide⟩)))]; exact al1.1, fun j x hx => by rw [s2 16 j (fs_c rfl), hst 16 j (Or.inr (Or.inr (Or.inl ⟨by decide, by decide⟩)))]; exact al1.2 j x hx⟩, ⟨by rw [s2 344 21 rfl, hs 344 21 (eS _ _ (by decide) (by decide))]; exact al2.1, fun j x hx => by rw [s2 353 j (fs_c rfl), hs 353 j (eS _ _ (by decide) (by decide))]; exact al2.2 j x hx⟩⟩
  have hR2 : ivR F2 := fun h9 => by
    rw [s2 0 8 rfl] at h9
    obtain ⟨-, ⟨p1, p2⟩, -⟩ := hP.2 h9
    exact ⟨by rw [s2 0 10 rfl, p1, p2], fun j hj => absurd hj (by rw [s2 0 10 rfl, p1]; omega)⟩
  have d2' : rep (F1 9) (F1 8 2) ts := ⟨by rw [hst 8 2 (Or.inl ⟨by decide, by decide⟩)]; exact d2.1, fun j x hx => by rw [hst 9 j (Or.inl ⟨by decide, by decide⟩)]; exact d2.2 j x hx⟩
  have d3' : rep (F1 12) (F1 11 2) pl := ⟨by rw [hst 11 2 (Or.inl ⟨by decide, by decide⟩)]; exact d3.1, fun j x hx => by rw [hst 12 j (Or.inl ⟨by decide, by decide⟩)]; exact d3.2 j x hx⟩
  have hd3 := d3.1
  have d4' : prd F1 ps := fun i hi => by
    refine ⟨?_, fun j x hx => ?_⟩
    · rw [hst (21 + 3 * i) 2 (Or.inr (Or.inl ⟨by omega, by omega⟩))]
      exact (d4 i hi).1
    · rw [hst (21 + 3 * i + 2) j (Or.inr (Or.inl ⟨by omega, by omega⟩))]
      exact (d4 i hi).2 j x hx
  have hN2 : ivN F2 := by
    refine ⟨by rw [s2 1 8 rfl]; exact hres.1, fun h9 => ?_, by rw [s2 0 8 rfl]; exact hP.1, fun h9 => by rw [s2 0 8 rfl] at h9; obtain ⟨p1, -, p3⟩ := hP.2 h9; exact ⟨by rw [s2 0 7 rfl, q7]; exact p1, p3.1⟩, fun j hj => (s2 125 j (fs_c rfl)).trans ((hst 125 j (Or.inr (Or.inr (Or.inr (Or.inr ⟨by omega, by omega⟩))))).trans (hN.2.2.2.2 j hj))⟩
    rw [s2 0 7 rfl, q7] at h9
    obtain ⟨a2, a7, a8, a9, -⟩ := hdm (by rw [e11, ← h7]; exact h9)
    obtain ⟨b1, b2⟩ := d6 h9
    obtain ⟨b3, b4, b5⟩ := hDD1 (by rw [e11, ← h7]; exact h9)
    have hb15 : 0 ≤ F 15 2 ∧ F 15 2 ≤ 5 := gi_g hg rfl
    exact ⟨nm, ts, pl, ps, D, by rw [s2 7 0 rfl, hst 7 0 (Or.inl ⟨by decide, by decide⟩)]; exact d1, by rw [s2 344 14 rfl]; exact a2, rep_f8 d2' s2 (fun j => fs_c rfl) rfl, rep_f8 d3' s2 (fun j => fs_c rfl) rfl, prd_fs d4' s2 (fun r k hr => fs_rg (a := 21) (b := 38) rfl r k ⟨hr.1, by omega⟩), d5, rpn_fs a7 s2 (fun j => fs_c rfl) rfl, rpn_fs a8 s2 (fun j => fs_c rfl) rfl, rprd_fs a9 s2 (fun r j hr => fs_rg (a := 351) (b := 352) rfl r j hr), ⟨dar_cg b1 (fun r k hr => (s2 r k (fs_rg (a := 39) (b := 103) rfl r k ⟨by omega, by omega⟩)).trans (hst r k (Or.inr (Or.inr (Or.inr (Or.inl ⟨by omega, by omega⟩)))))), by rw [s2 15 2 rfl, hst 15 2 (Or.inr (Or.inr (Or.inl ⟨by decide, by decide⟩)))]; exact b2⟩, ⟨rdar_5 b3 g1 (by omega) (lfr_s s2 rfl), by rw [s2 344 21 rfl]; exact b4⟩, b5⟩
  refine ⟨f1, z1, F1, X1, r1, hX, f2, z2, F2, r2, ⟨⟨⟨⟨g2, ivA_hi hA1 g1 s2 rfl, ⟨fun j hj => ?_, fun h9 => ?_, fun h9 j hj => ?_, hp, hpb, ?_⟩, ?_, hN2, ?_⟩, hR2⟩, hPl2⟩, hT2⟩, fun h9 => h9.elim⟩
  · rw [s2 346 j (fs_c rfl)]
    exact hB1.1 j hj
  · obtain ⟨ts, pl, ps, a1, a2, a3, a4⟩ := hB1.2.1 (by rw [← s2 344 11 rfl]; exact h9)
    exact ⟨ts, pl, ps, rpn_fs a1 s2 (fun j => fs_c rfl) rfl, rpn_fs a2 s2 (fun j => fs_c rfl) rfl, rprd_fs a3 s2 (fun r j hr => fs_rg (a := 351) (b := 352) rfl r j hr), a4⟩
  · rw [s2 344 21 rfl] at hj
    rw [s2 357 j (fs_c rfl)]
    exact hB1.2.2.1 (by rw [← s2 344 11 rfl]; exact h9) j hj
  · rw [s2 344 69 rfl]
    exact hB1.2.2.2.2.2
  · rw [s2 0 7 rfl, q7, h7, s2 344 11 rfl, e11]
  · rcases hor with ⟨q1, -, q2, q3, -⟩ | ⟨q1, q2, -⟩
    · rcases ht with ⟨p1, p2⟩ | ⟨p1, p2⟩
      · refine ⟨l, ?_, ?_, ho⟩
        · rw [s2 1 1 rfl, q2]
          exact ⟨t1.1, fun j x hx => by rw [s2 2 j (fs_c rfl), q3]; exact t1.2 j x hx⟩
        · rw [p2]
          exact ⟨t3.1, fun j x hx => by rw [s2 345 j (fs_c rfl)]; exact t3.2 j x hx⟩
      · rw [e11, ← h7, q1] at p1
        exact absurd p1 (by decide)
    · rcases ht with ⟨p1, p2⟩ | ⟨p1, p2⟩
      · rw [e11, ← h7, q1] at p1
        exact absurd p1 (by decide)
      · exact ⟨[], rep_n8 (by rw [s2 1 1 rfl]; exact q2), rep_n8 p2, okt_nil⟩
theorem op_3 (hG : gg G) (h : iv F) : opR True 4 [.ref 0] 65 [.ref 344] G F X := by
  obtain ⟨⟨⟨h, hR⟩, hPl⟩, hT⟩ := h
  obtain ⟨f1, z1, A1, r1, e1, -, v1⟩ := gq_run (mc_4 hG F X h.1) (by decide) (by decide)
  subst e1
  obtain ⟨f2, z2, A2, r2, F2, e2, g2, s2, -, v2⟩ := gq_run (mc_65 hG F X h.1) (by decide) (by decide)
  subst e2
  exact ⟨f1, z1, F, X, r1, Or.inl rfl, f2, z2, F2, r2, ⟨⟨⟨stR_fs h g2 s2 rfl rfl rfl rfl rfl rfl, ivR_t hR rC_r s2 rfl rfl⟩, ivP_t hPl pK_r s2 rfl rfl⟩, ivT_t h.1 hT kT_r h.1 s2 rfl rfl rfl⟩, fun _ => by rw [v1, v2]; exact h.2.2.2.2.1.1⟩
theorem op_9 (hG : gg G) (h : iv F) (k : Int) (hk : -2147483648 ≤ k ∧ k ≤ 2147483647) : opR False 10 [.ref 0, .int (Int32.ofInt k)] 71 [.ref 344, .int (Int32.ofInt k)] G F X := by
  obtain ⟨⟨⟨h, hR⟩, hPl⟩, hT⟩ := h
  obtain ⟨f1, z1, A1, r1, F1, e1, g1, s1, -, v1⟩ := gq_run (mc_10 hG F X h.1 k hk) (by decide) (by decide)
  subst e1
  have h1 : ivq F1 := stC_iv h ⟨g1, ⟨fnd_cg h.2.1.1 (s1 _ _ rfl) (s1 _ _ rfl), dmi_fs h.2.1.2 h.1 s1 rfl rfl (fun r k hr => fs_rg (a := 39) (b := 103) rfl r k hr)⟩, ⟨_, s1, rfl, rfl⟩, s1 _ _ rfl, s1 _ _ rfl, fun j => s1 _ _ (fs_c rfl)⟩
  obtain ⟨f2, z2, A2, r2, F2, e2, g2, s2, -, v2⟩ := gq_run (mc_71 hG F1 X h1.1 k hk) (by decide) (by decide)
  subst e2
  have hN := h.2.2.2.2.1
  have e8 : F 0 8 = F1 344 12 := by
    rw [s1 344 12 rfl]
    exact hN.2.2.1
  have hst : F 0 8 = 1 → F 120 3 = F1 344 39 := fun h9 => by
    obtain ⟨-, tl, D, ⟨a1, -⟩, -, a4, -⟩ := hN.2.2.2.1 h9
    rw [s1 344 39 rfl, a1, a4]
  have hrw : F 0 8 = 1 → F 0 10 = F1 344 60 ∧ ∀ j : Nat, (j : Int) < F 0 10 → F 342 j = F1 382 j ∧ 0 ≤ F 342 j ∧ F 342 j < F 120 3 := fun h9 => by
    obtain ⟨a1, a2⟩ := hR h9
    exact ⟨by rw [s1 344 60 rfl]; exact a1, fun j hj => by rw [s1 382 j (fs_c rfl)]; exact a2 j hj⟩
  have hb10 : 0 ≤ F 0 10 ∧ F 0 10 ≤ 60 := gi_g h.1 rfl
  have hz : z1 = z2 ∧ ivR F2 := by
    rcases v1 with ⟨w1, w2, w3, w4, w5⟩ | ⟨w1, w2, w3, w4⟩
    · rcases v2 with ⟨x1, x2, x3, x4, x5⟩ | ⟨x1, x2, x3, x4⟩
      · refine ⟨by rw [w1, x1], fun _ => ?_⟩
        obtain ⟨y1, y2⟩ := hrw w2.1
        refine ⟨by rw [s2 0 10 rfl, w3, x3, y1], fun j hj => ?_⟩
        rw [s2 0 10 rfl, w3] at hj
        rw [s2 342 j (fs_c rfl), s2 120 3 rfl, s1 120 3 rfl]
        by_cases c : (j : Int) < F 0 10
        · rw [w5 j c, x5 j (by rw [← y1]; exact c)]
          exact y2 j c
        · have ej : j = (F 0 10).toNat := by omega
          have ek := w4
          rw [ej, w4]
          exact ⟨by rw [y1, x4], w2.2.1, w2.2.2.1⟩
      · exact absurd (show F1 344 12 = 1 ∧ 0 ≤ k ∧ k < F1 344 39 ∧ F1 344 60 < 60 from ⟨by rw [← e8]; exact w2.1, w2.2.1, by rw [← hst w2.1]; exact w2.2.2.1, by rw [← (hrw w2.1).1]; exact w2.2.2.2⟩) x2
    · rcases v2 with ⟨x1, x2, x3, x4, x5⟩ | ⟨x1, x2, x3, x4⟩
      · have y0 : F 0 8 = 1 := by
          rw [e8]
          exact x2.1
        exact absurd (show F 0 8 = 1 ∧ 0 ≤ k ∧ k < F 120 3 ∧ F 0 10 < 60 from ⟨y0, x2.2.1, by rw [hst y0]; exact x2.2.2.1, by rw [(hrw y0).1]; exact x2.2.2.2⟩) w2
      · refine ⟨by rw [w1, x1], fun h8 => ?_⟩
        rw [s2 0 8 rfl, s1 0 8 rfl] at h8
        obtain ⟨y1, y2⟩ := hrw h8
        exact ⟨by rw [s2 0 10 rfl, w3, x3, y1], fun j hj => by rw [s2 0 10 rfl, w3] at hj; rw [s2 342 j (fs_c rfl), s2 120 3 rfl, s1 120 3 rfl, w4, x4]; exact y2 j hj⟩
  exact ⟨f1, z1, F1, X, r1, Or.inl rfl, f2, z2, F2, r2, ⟨⟨⟨stR_fs h1 g2 s2 rfl rfl rfl rfl rfl rfl, hz.2⟩, ivP_t hPl ⟨⟨s1 331 11 rfl, s1 335 200 rfl, fun j => s1 339 j (fs_c rfl)⟩, s1 344 13 rfl, s1 344 58 rfl, fun j => s1 381 j (fs_c rfl)⟩ s2 rfl rfl⟩, ivT_t h.1 hT ⟨⟨fun r j hr => (by rcases hr with rfl | rfl | hr; exact s1 16 j (fs_c rfl); exact s1 106 j (fs_c rfl); exact s1 r j (fs_rg (a := 126) (b := 330) rfl r j hr)), fun r j hr => (by rcases hr with rfl | rfl | rfl | rfl | rfl; exact s1 353 j (fs_c rfl); exact s1 354 j (fs_c rfl); exact s1 364 j (fs_c rfl); exact s1 367 j (fs_c rfl); exact s1 368 j (fs_c rfl)), s1 0 7 rfl, s1 0 8 rfl, s1 15 2 rfl, s1 120 3 rfl, s1 344 21 rfl⟩, s1 0 12 rfl, fun j => s1 343 j (fs_c rfl), s1 331 11 rfl, s1 344 58 rfl, fun j => s1 381 j (fs_c rfl)⟩ g1 s2 rfl rfl rfl⟩, fun h9 => h9.elim⟩
theorem op_4 (hG : gg G) (h : iv F) (k : Int) (hk : -2147483648 ≤ k ∧ k ≤ 2147483647) : opR False 76 [.ref 0, .int (Int32.ofInt k), .ref 386] 66 [.ref 344, .int (Int32.ofInt k)] G F X := by
  obtain ⟨⟨⟨h, hR⟩, hPl⟩, hT⟩ := h
  obtain ⟨f1, z1, A1, r1, F1, X1, e1, hX, g1, hv, hc⟩ := gq_run (mh_76 hG F X h k hk hT.1) (by decide) (by decide)
  subst e1
  have h1 : ivq F1 := stC_iv h hc.1
  obtain ⟨f2, z2, A2, r2, F2, e2, g2, s2, hz2, hp, v2, vo⟩ := gq_run (mc_66v hG F1 X1 h1.1 k hk h1.2.2.1.2.2.2.1 (fun h9 => (h1.2.2.1.2.2.2.2.1 h9).1) (hpr_iv h1)) (by decide) (by decide)
  subst e2
  have hN := h.2.2.2.2.1
  have c2 := stC_l hc.1
  have e12 : F1 344 12 = F 0 8 := by
    rw [c2 344 12 (by decide) (by decide)]
    exact hN.2.2.1.symm
  have same : (F1 331 11 = F 331 11 ∧ F1 335 200 = F 335 200 ∧ (∀ j, F1 339 j = F 339 j)) → F2 344 13 = F1 344 13 → F2 344 58 = F1 344 58 → (∀ j, F2 381 j = F1 381 j) → ivP F2 := fun a b c d => ivP_c hPl ⟨⟨(s2 331 11 rfl).trans a.1, (s2 335 200 rfl).trans a.2.1, fun j => (s2 339 j (fs_c rfl)).trans (a.2.2 j)⟩, b.trans (c2 344 13 (by decide) (by decide)), c.trans (c2 344 58 (by decide) (by decide)), fun j => (d j).trans (c2 381 j (by decide) (by decide))⟩
  have up : ∀ (o v : Int) (w : wy_T), plL F1 o v w → plL F2 o v w := fun o v w h9 => plL_cg h9 (s2 331 11 rfl) (s2 335 200 rfl) (fun j => s2 339 j (fs_c rfl))
  rw [e12] at v2
  have hP2 : ivP F2 := by
    rcases hv with ⟨w1, w3, w4, -⟩ | ⟨w1, w3, w4, w5, -⟩ | ⟨w1, w3, w4, w5, w6, -⟩ | ⟨w1, w3, w4, v, w, w5, w6, w7, -⟩
    · rcases v2 with ⟨x1, x2, x3, x4⟩ | ⟨x1, x2, x5, x3, x4⟩ | ⟨x1, x2, x5, -⟩
      · exact same w4 x3 x4 (vo (Or.inl x1))
      · exfalso; omega
      · exfalso; omega
    · rcases v2 with ⟨x1, x2, x3, x4⟩ | ⟨x1, x2, x5, x3, x4⟩ | ⟨x1, x2, x5, -⟩
      · exfalso; omega
      · exact same w5 x3 x4 (vo (Or.inr x1))
      · exact absurd x5 w4
    · rcases v2 with ⟨x1, x2, x3, x4⟩ | ⟨x1, x2, x5, x3, x4⟩ | ⟨x1, x2, x5, y, x3, x4⟩
      · exfalso; omega
      · exact absurd w4 x5
      · obtain ⟨-, tl, D, ⟨a1, a2⟩, a3, a4, a5, a6, a7, a8⟩ := hN.2.2.2.1 w3
        exact plL_K h.1 a8 a2 (a4.trans a1.symm) w5 (plV_cg c2 x3) (up _ _ _ w6) x4
    · rcases v2 with ⟨x1, x2, x3, x4⟩ | ⟨x1, x2, x5, x3, x4⟩ | ⟨x1, x2, x5, y, x3, x4⟩
      · exfalso; omega
      · exact absurd w4 x5
      · obtain ⟨-, tl, D, ⟨a1, a2⟩, a3, a4, a5, a6, a7, a8⟩ := hN.2.2.2.1 w3
        exact plL_K h.1 a8 a2 (a4.trans a1.symm) w6 (plV_cg c2 x3) (up _ _ _ w7) x4
  have kE2 : kE F1 F2 := kE_t s2 rfl rfl
  have hE1 : ivE F1 := ivE_c h.1 hT.1 hc.2.2
  have hE2 : ivE F2 := ivE_c g1 hE1 kE2
  have kN1 : kN F F1 := hc.2.2.2.1
  have kN2 : kN F F2 := fun r j hr => (kE2.2.1 r j hr).trans (kN1 r j hr)
  have sameL : (F1 331 11 = F 331 11 ∧ F1 0 12 = F 0 12 ∧ (∀ j, F1 343 j = F 343 j)) → F2 344 58 = F1 344 58 → (∀ j, F2 381 j = F1 381 j) → ivL F2 := fun a c d => ivL_c hT.2 kN2 ⟨(s2 0 12 rfl).trans a.2.1, fun j => (s2 343 j (fs_c rfl)).trans (a.2.2 j), (s2 331 11 rfl).trans a.1, c.trans (c2 344 58 (by decide) (by decide)), fun j => (d j).trans (c2 381 j (by decide) (by decide))⟩
  have noL : ¬ F1 331 11 = 1 → F1 0 12 = 0 → ivL F2 := fun a b => ⟨fun _ => (s2 0 12 rfl).trans b, fun h9 => absurd ((s2 331 11 rfl).symm.trans h9) a⟩
  have hL2 : ivL F2 := by
    rcases hv with ⟨w1, w3, w4, w5, w6⟩ | ⟨w1, w3, w4, w5, w6, w7⟩ | ⟨w1, w3, w4, w5, w6, w7⟩ | ⟨w1, w3, w4, v, w, w5, w6, w7, w8⟩
    · rcases v2 with ⟨x1, x2, x3, x4⟩ | ⟨x1, x2, x5, x3, x4⟩ | ⟨x1, x2, x5, -⟩
      · exact sameL ⟨w4.1, w5, w6⟩ x4 (vo (Or.inl x1))
      · exfalso; omega
      · exfalso; omega
    · rcases v2 with ⟨x1, x2, x3, x4⟩ | ⟨x1, x2, x5, x3, x4⟩ | ⟨x1, x2, x5, -⟩
      · exfalso; omega
      · exact sameL ⟨w5.1, w6, w7⟩ x4 (vo (Or.inr x1))
      · exact absurd x5 w4
    · refine noL (fun h9 => ?_) w7
      rcases w6 with ⟨-, q⟩ | ⟨q, -⟩
      · omega
      · exact absurd q (by decide)
    · rcases w8 with ⟨q1, q2⟩ | ⟨q1, q2, q3⟩
      · exact noL q1 q2
      · refine ⟨fun h9 => absurd ((s2 331 11 rfl).trans q1) h9, fun h9 => ?_⟩
        obtain ⟨p1, p2⟩ := hP2.2 h9
        have hb3 : 0 ≤ F 120 3 ∧ F 120 3 ≤ 41 := gi_g h.1 rfl
        have e8 : F2 0 8 = 1 := ((s2 0 8 rfl).trans hc.2.1.1.1).trans w3
        have e3 : F2 120 3 = F 120 3 := (s2 120 3 rfl).trans hc.2.1.2.2.2
        have e5 : F2 335 200 = F1 335 200 := s2 335 200 rfl
        have st : ∀ j : Nat, j < (F1 335 200).toNat → 0 ≤ F1 339 j ∧ F1 339 j < F 120 3 := fun j hj => q3 j (by omega)
        have ex : pTx F2 (F1 335 200).toNat = pTx F1 (F1 335 200).toNat := pTx_cg (F := F1) (n := F 120 3) (fun k => s2 16 k (fs_c rfl)) (fun k => s2 106 k (fs_c rfl)) (fun r k h1 h2 => s2 r k (fs_rg (a := 126) (b := 330) rfl r k ⟨h1, by omega⟩)) (fun j => s2 339 j (fs_c rfl)) hb3.2 _ st
        have pq := p_q (F := F2) (hE2.2 e8) (F1 335 200).toNat (fun j hj => by
          have h8 := st j hj
          rw [s2 339 j (fs_c rfl), e3]
          refine ⟨h8, ?_⟩
          rw [← s2 339 j (fs_c rfl)]
          exact p2 j (by rw [e5]; omega))
        rw [← p1, e5, ← pq.1, ex]
        exact ⟨⟨by rw [s2 0 12 rfl]; exact q2.1, fun j y hy => by rw [s2 343 j (fs_c rfl)]; exact q2.2 j y hy⟩, fun j hj => pq.2 j (by omega)⟩
  exact ⟨f1, z1, F1, X1, r1, hX, f2, z2, F2, r2, ⟨⟨⟨stR_iv h1 g2 s2 rfl rfl rfl (ivB_fs h1.2.2.1 s2 rfl hp (by rw [s2 344 69 rfl]; exact h1.2.2.1.2.2.2.2.2)), ivR_t hR hc.2.1 s2 rfl rfl⟩, hP2⟩, hE2, hL2⟩, fun h9 => h9.elim⟩
theorem op_5 (hG : gg G) (h : iv F) : opR False 77 [.ref 0, .ref 386] 67 [.ref 344] G F X := by
  obtain ⟨⟨⟨h, hR⟩, hPl⟩, hT⟩ := h
  obtain ⟨f1, z1, A1, r1, F1, X1, e1, hX, g1, hv, hc⟩ := gq_run (mh_77 hG F X h) (by decide) (by decide)
  subst e1
  have h1 : ivq F1 := stC_iv h hc.1
  obtain ⟨f2, z2, A2, r2, F2, e2, g2, s2, hz2, v2⟩ := gq_run (mc_67v hG F1 X1 h1.1) (by decide) (by decide)
  subst e2
  have c2 := stC_l hc.1
  have e13 : F1 344 13 = F 344 13 := c2 344 13 (by decide) (by decide)
  have e58 : F1 344 58 = F 344 58 := c2 344 58 (by decide) (by decide)
  have hif : F 331 11 = 1 ↔ F1 344 13 = 1 := by
    rw [e13, hPl.1]
  have hres : F2 344 0 = z1 ∧ (Int32.ofInt z1 = 0 → Int64.ofInt (F2 386 0) = (Int32.ofInt z2).toInt64) := by
    rcases hv with ⟨w1, w3⟩ | ⟨w1, w3, w4⟩
    · rcases v2 with ⟨x1, -⟩ | ⟨-, x2, -⟩
      · exact ⟨by rw [x1, w1], fun h9 => absurd h9 (by rw [w1]; decide)⟩
      · exact absurd (hif.mpr x2) w3
    · rcases v2 with ⟨-, x2⟩ | ⟨x1, -, x3⟩
      · exact absurd (hif.mp w3) x2
      · refine ⟨by rw [x1, w1], fun _ => ?_⟩
        have hvz : F 335 200 = z2 := by
          rw [x3, e58]
          exact (hPl.2 w3).1
        rw [s2 386 0 rfl, w4, hvz, fl_toInt ⟨by omega, by omega⟩, fl_i2l ⟨by omega, by omega⟩]
  exact ⟨f1, z1, F1, X1, r1, hX, f2, z2, F2, r2, ⟨⟨⟨stR_fs h1 g2 s2 rfl rfl rfl rfl rfl rfl, ivR_t hR (rP_C hc.2) s2 rfl rfl⟩, ivP_t hPl (rP_K hc.2) s2 rfl rfl⟩, ivT_t h.1 hT (rP_T hc.2) g1 s2 rfl rfl rfl⟩, fun h9 => h9.elim⟩
theorem op_6 (hG : gg G) (h : iv F) (k : Int) (hk : -2147483648 ≤ k ∧ k ≤ 2147483647) : opR False 78 [.ref 0, .int (Int32.ofInt k), .ref 386] 68 [.ref 344, .int (Int32.ofInt k)] G F X := by
  obtain ⟨⟨⟨h, hR⟩, hPl⟩, hT⟩ := h
  obtain ⟨f1, z1, A1, r1, F1, X1, e1, hX, g1, hv, hc⟩ := gq_run (mh_78 hG F X h k hk) (by decide) (by decide)
  subst e1
  have h1 : ivq F1 := stC_iv h hc.1
  obtain ⟨f2, z2, A2, r2, F2, e2, g2, s2, hz2, v2⟩ := gq_run (mc_68v hG F1 X1 h1.1 k hk) (by decide) (by decide)
  subst e2
  have c2 := stC_l hc.1
  have e13 : F1 344 13 = F 344 13 := c2 344 13 (by decide) (by decide)
  have e58 : F1 344 58 = F 344 58 := c2 344 58 (by decide) (by decide)
  have hif : (F 331 11 = 1 ∧ 0 ≤ k ∧ k < F 335 200) ↔ (F1 344 13 = 1 ∧ 0 ≤ k ∧ k < F1 344 58) := by
    rw [e13, e58]
    constructor
    · rintro ⟨p1, p2, p3⟩
      exact ⟨by rw [← hPl.1]; exact p1, p2, by rw [← (hPl.2 p1).1]; exact p3⟩
    · rintro ⟨p1, p2, p3⟩
      have p4 : F 331 11 = 1 := by
        rw [hPl.1]
        exact p1
      exact ⟨p4, p2, by rw [(hPl.2 p4).1]; exact p3⟩
  have hres : F2 344 0 = z1 ∧ (Int32.ofInt z1 = 0 → Int64.ofInt (F2 386 0) = (Int32.ofInt z2).toInt64) := by
    rcases hv with ⟨w1, w3⟩ | ⟨w1, w3, w4⟩
    · rcases v2 with ⟨x1, -⟩ | ⟨-, x2, -⟩
      · exact ⟨by rw [x1, w1], fun h9 => absurd h9 (by rw [w1]; decide)⟩
      · exact absurd (hif.mpr x2) w3
    · rcases v2 with ⟨-, x2⟩ | ⟨x1, -, x3⟩
      · exact absurd (hif.mp w3) x2
      · refine ⟨by rw [x1, w1], fun _ => ?_⟩
        have hvz : F 339 k.toNat = z2 := by
          rw [x3, c2 381 _ (by decide) (by decide)]
          exact (hPl.2 w3.1).2 k.toNat (by omega)
        rw [s2 386 0 rfl, w4, hvz, fl_toInt ⟨by omega, by omega⟩, fl_i2l ⟨by omega, by omega⟩]
  exact ⟨f1, z1, F1, X1, r1, hX, f2, z2, F2, r2, ⟨⟨⟨stR_fs h1 g2 s2 rfl rfl rfl rfl rfl rfl, ivR_t hR (rP_C hc.2) s2 rfl rfl⟩, ivP_t hPl (rP_K hc.2) s2 rfl rfl⟩, ivT_t h.1 hT (rP_T hc.2) g1 s2 rfl rfl rfl⟩, fun h9 => h9.elim⟩
theorem op_7 (hG : gg G) (h : iv F) (k : Int) (w : Int) (hk : -2147483648 ≤ k ∧ k ≤ 2147483647) (hw : -2147483648 ≤ w ∧ w ≤ 2147483647) : opR False 79 [.ref 0, .int (Int32.ofInt k), .int (Int32.ofInt w), .ref 386] 69 [.ref 344, .int (Int32.ofInt k), .int (Int32.ofInt w)] G F X := by
  obtain ⟨⟨⟨h, hR⟩, hPl⟩, hT⟩ := h
  obtain ⟨f1, z1, A1, r1, F1, X1, e1, hX, g1, hc, hv⟩ := gq_run (mh_79 hG F X h k w hk hw) (by decide) (by decide)
  subst e1
  have h1 : ivq F1 := stC_iv h hc.1
  obtain ⟨f2, z2, A2, r2, F2, e2, g2, s2, hz2, v2⟩ := gq_run (mc_69 hG F1 X1 h1.1 k w hk hw) (by decide) (by decide)
  subst e2
  have hN := h.2.2.2.2.1
  have c2 := stC_l hc.1
  have e12 : F1 344 12 = F 0 8 := by
    rw [c2 344 12 (by decide) (by decide)]
    exact hN.2.2.1.symm
  have e39 : F1 344 39 = F 344 39 := c2 344 39 (by decide) (by decide)
  have hst : F 0 8 = 1 → F 120 3 = F 344 39 := fun h9 => by
    obtain ⟨-, tl, D, ⟨a1, -⟩, -, a4, -⟩ := hN.2.2.2.1 h9
    rw [a1, a4]
  have hgo : (F 0 8 = 1 ∧ 0 ≤ k ∧ k < F 120 3) ↔ (F1 344 12 = 1 ∧ 0 ≤ k ∧ k < F1 344 39) := by
    rw [e12, e39]
    constructor
    · rintro ⟨p1, p2, p3⟩
      exact ⟨p1, p2, by rw [← hst p1]; exact p3⟩
    · rintro ⟨p1, p2, p3⟩
      exact ⟨p1, p2, by rw [hst p1]; exact p3⟩
  have hres : F2 344 0 = z1 ∧ (Int32.ofInt z1 = 0 → Int64.ofInt (F2 386 0) = (Int32.ofInt z2).toInt64) := by
    rcases hv with ⟨w1, w2⟩ | ⟨w1, w2, w3⟩ | ⟨w1, w2, v, w3, w4⟩
    · rcases v2 with ⟨x1, x2⟩ | ⟨x1, x2, x3⟩ | ⟨x1, x2, x3⟩
      · exact ⟨by rw [x1, w1], fun h9 => absurd h9 (by rw [w1]; decide)⟩
      · exact absurd (hgo.mpr x2) w2
      · exact absurd (hgo.mpr x2) w2
    · rcases v2 with ⟨x1, x2⟩ | ⟨x1, x2, x3⟩ | ⟨x1, x2, x3⟩
      · exact absurd (hgo.mp w2) x2
      · exact ⟨by rw [x1, w1], fun h9 => absurd h9 (by rw [w1]; decide)⟩
      · exfalso
        rcases x3 with ⟨y1, -⟩ | ⟨y1, -⟩ | ⟨y1, -⟩ <;> omega
    · rcases v2 with ⟨x1, x2⟩ | ⟨x1, x2, x3⟩ | ⟨x1, x2, x3⟩
      · exact absurd (hgo.mp w2) x2
      · exfalso
        rcases w4 with ⟨y1, -⟩ | ⟨y1, -⟩ | ⟨y1, -⟩ <;> omega
      · refine ⟨by rw [x1, w1], fun _ => ?_⟩
        obtain ⟨-, tl, D, ⟨a1, a2⟩, a3, a4, a5, a6, a7⟩ := hN.2.2.2.1 w2.1
        have x4 : rV F k w z2 := by
          unfold rV at x3 ⊢
          rw [c2 367 _ (by decide) (by decide), c2 357 _ (by decide) (by decide), c2 368 _ (by decide) (by decide)] at x3
          exact x3
        have hvz : v = z2 := gV_rV ⟨w2.2.1, by rw [← a1]; exact w2.2.2⟩ a3 a5 a6 w4 x4
        rw [s2 386 0 rfl, w3, hvz, fl_toInt ⟨by omega, by omega⟩, fl_i2l ⟨by omega, by omega⟩]
  exact ⟨f1, z1, F1, X1, r1, hX, f2, z2, F2, r2, ⟨⟨⟨stR_fs h1 g2 s2 rfl rfl rfl rfl rfl rfl, ivR_t hR (rP_C hc.2) s2 rfl rfl⟩, ivP_t hPl (rP_K hc.2) s2 rfl rfl⟩, ivT_t h.1 hT (rP_T hc.2) g1 s2 rfl rfl rfl⟩, fun h9 => h9.elim⟩
theorem op_8 (hG : gg G) (h : iv F) (k : Int) (hk : -2147483648 ≤ k ∧ k ≤ 2147483647) : opK 80 [.ref 0, .int (Int32.ofInt k), .ref 386] 70 [.ref 344, .int (Int32.ofInt k)] G F X := by
  obtain ⟨⟨⟨h, hR⟩, hPl⟩, hT⟩ := h
  obtain ⟨f1, z1, A1, r1, F1, X1, e1, hX, g1, hv, hc⟩ := gq_run (mh_80 hG F X h k hk) (by decide) (by decide)
  subst e1
  have h1 : ivq F1 := stC_iv h hc.1
  have hK := rP_T hc.2
  have hT1 : ivT F1 := ivT_c h.1 hT hK
  have hP1 : ivP F1 := ivP_c hPl (rP_K hc.2)
  obtain ⟨f2, z2, A2, r2, F2, e2, g2, s2, hz2, hfo, v2⟩ := gq_run (mc_70v hG F1 X1 h1.1 k hk h1.2.2.1.2.2.2.1 h1.2.2.1.2.2.2.2.2 (fun h9 => (hT1.2.2 (by rw [hP1.1]; exact h9)).2)) (by decide) (by decide)
  subst e2
  have e12 : F1 0 12 = F 0 12 := hK.2.1
  have hif : (0 ≤ k ∧ k < F 0 12) ↔ (F1 344 13 = 1 ∧ 0 ≤ k ∧ k < ((qTx F1 (F1 344 58).toNat).length : Int)) := by
    rw [← e12, ← hP1.1]
    by_cases c : F1 331 11 = 1
    · have h9 := (hT1.2.2 c).1.1
      rw [h9]
      exact ⟨fun h8 => ⟨c, h8.1, h8.2⟩, fun h8 => ⟨h8.2.1, h8.2.2⟩⟩
    · have h9 := hT1.2.1 c
      exact ⟨fun h8 => absurd h8 (by omega), fun h8 => absurd h8.1 c⟩
  have hres : F2 344 0 = z1 ∧ (Int32.ofInt z1 = 0 → Int64.ofInt (F2 386 0) = (Int32.ofInt z2).toInt64) := by
    rcases hv with ⟨w1, w3⟩ | ⟨w1, w3, w4⟩
    · rcases v2 with ⟨x1, -⟩ | ⟨-, x2, -⟩
      · exact ⟨by rw [x1, w1], fun h9 => absurd h9 (by rw [w1]; decide)⟩
      · exact absurd (hif.mpr x2) w3
    · rcases v2 with ⟨-, x2⟩ | ⟨x1, x2, x3⟩
      · exact absurd (hif.mp w3) x2
      · refine ⟨by rw [x1, w1], fun _ => ?_⟩
        have c : F1 331 11 = 1 := by
          rw [hP1.1]
          exact x2.1
        have hvz : F 343 k.toNat = z2 := by
          rw [← hK.2.2.1 k.toNat]
          exact (hT1.2.2 c).1.2 k.toNat z2 x3
        rw [s2 386 0 rfl, w4, hvz, fl_toInt ⟨by omega, by omega⟩, fl_i2l ⟨by omega, by omega⟩]
  exact ⟨f1, z1, F1, X1, r1, hX, f2, z2, F2, r2, ⟨⟨⟨stR_iv h1 g2 s2 rfl rfl rfl (ivB_fs h1.2.2.1 s2 rfl (pli_fs h1.2.2.1.2.2.2.1 s2 rfl) hfo), ivR_t hR (rP_C hc.2) s2 rfl rfl⟩, ivP_t hPl (rP_K hc.2) s2 rfl rfl⟩, ivT_t h.1 hT hK g1 s2 rfl rfl rfl⟩, hres⟩
theorem op_10 (hG : gg G) (h : iv F) : opR False 81 [.ref 0, .ref 386] 72 [.ref 344] G F X := by
  obtain ⟨⟨⟨h, hR⟩, hPl⟩, hT⟩ := h
  obtain ⟨f1, z1, A1, r1, F1, X1, e1, hX, g1, hv, hc⟩ := gq_run (mh_81 hG F X h) (by decide) (by decide)
  subst e1
  have h1 : ivq F1 := stC_iv h hc.1
  obtain ⟨f2, z2, A2, r2, F2, e2, g2, s2, hz2, w2, v2⟩ := gq_run (mc_72 hG F1 X1 h1.1) (by decide) (by decide)
  subst e2
  have hN := h.2.2.2.2.1
  have c2 := stC_l hc.1
  have e12 : F1 344 12 = F 0 8 := by
    rw [c2 344 12 (by decide) (by decide)]
    exact hN.2.2.1.symm
  have e60 : F1 344 60 = F 344 60 := c2 344 60 (by decide) (by decide)
  have hR2 : ivR F2 := fun h8 => by
    obtain ⟨-, a1, -, a3, -, -⟩ := hc
    rw [s2 0 8 rfl] at h8
    have b0 := a3 (by rw [← a1]; exact h8)
    have b1 := w2.1 (by rw [e12, ← a1]; exact h8)
    exact ⟨by rw [s2 0 10 rfl, b0, b1], fun j hj => absurd hj (by rw [s2 0 10 rfl, b0]; omega)⟩
  exact ⟨f1, z1, F1, X1, r1, hX, f2, z2, F2, r2, ⟨⟨⟨stR_fs h1 g2 s2 rfl rfl rfl rfl rfl rfl, hR2⟩, ivP_t hPl hc.2.2.2.2.2.2.1 s2 rfl rfl⟩, ivT_t h.1 hT hc.2.2.2.2.2.2.2 g1 s2 rfl rfl rfl⟩, fun h9 => h9.elim⟩
theorem op_11 (hG : gg G) (h : iv F) (k : Int) (hk : -2147483648 ≤ k ∧ k ≤ 2147483647) : opR False 82 [.ref 0, .int (Int32.ofInt k), .ref 386] 73 [.ref 344, .int (Int32.ofInt k)] G F X := by
  obtain ⟨⟨⟨h, hR⟩, hPl⟩, hT⟩ := h
  obtain ⟨f1, z1, A1, r1, F1, X1, e1, hX, g1, hc⟩ := gq_run (mh_82 hG F X h k hk) (by decide) (by decide)
  subst e1
  have h1 : ivq F1 := stC_iv h hc.1
  obtain ⟨f2, z2, A2, r2, F2, e2, g2, s2, -⟩ := gq_run (mc_73 hG F1 X1 h1.1 k hk (fun h9 => (h1.2.2.1.2.2.2.2.1 h9).2) (fun h9 => (h1.2.2.1.2.2.2.2.1 h9).1)) (by decide) (by decide)
  subst e2
  exact ⟨f1, z1, F1, X1, r1, hX, f2, z2, F2, r2, ⟨⟨⟨stR_fs h1 g2 s2 rfl rfl rfl rfl rfl rfl, ivR_t hR (rP_C hc.2) s2 rfl rfl⟩, ivP_t hPl (rP_K hc.2) s2 rfl rfl⟩, ivT_t h.1 hT (rP_T hc.2) g1 s2 rfl rfl rfl⟩, fun h9 => h9.elim⟩
end OPS

/-! domain() on both sides -/
def kin (K : fl_N) (n : Int) : Prop := gi K ∧ 0 ≤ n ∧ tkf K (K 2) n (tkz (K 2) n.toNat 0 (-1)) ∧ ∀ j : Nat, (j : Int) < n → 32 ≤ K 2 j
theorem kin_of {K F : fl_N} (h : dmk K F) (h0 : 0 ≤ F 1 1) (hl : ∀ j : Nat, (j : Int) < F 1 1 → 32 ≤ F 2 j) : kin K (F 1 1) := by
  have e : K 2 = F 2 := funext h.1.2.1
  refine ⟨h.1.1, h0, ?_, fun j hj => ?_⟩
  · rw [e]
    exact h.2
  · rw [e]
    exact hl j hj
theorem tkz_cg (f g : Nat → Int) : ∀ (k i : Nat) (s : Int), (∀ j, i ≤ j → j < i + k → f j = g j) → tkz f k i s = tkz g k i s
  | 0, i, s, _ => rfl
  | k + 1, i, s, h => by
    unfold tkz
    rw [h i (Nat.le_refl _) (by omega), tkz_cg f g k (i + 1) (-1) (fun j h1 h2 => h j (by omega) (by omega)), tkz_cg f g k (i + 1) (if s < 0 then (i : Int) else s) (fun j h1 h2 => h j (by omega) (by omega))]
theorem rkt_of {K : fl_N} {n : Int} (h : kin K n) : rkt K := by
  obtain ⟨hg, h0, ht, hl⟩ := h
  have hw := tkw_of ht rfl h0
  have hk := tko_of ht hw
  have e : K 4 (K 1 6 - 1).toNat = n ∧ K 5 (K 1 6 - 1).toNat = n := by
    obtain ⟨-, h2, -, h4, h5, -⟩ := ht
    have e1 : (K 1 6 - 1).toNat = (tkz (K 2) n.toNat 0 (-1)).length := by omega
    rw [e1]
    exact ⟨h4, h5⟩
  refine ⟨hk, ?_, ?_, ?_⟩
  · rw [e.1]
    exact hw
  · rw [e.1, e.2]
  · intro j h1 h2
    rw [e.1] at h2
    exact hl j.toNat (by omega)
theorem rk_of {K Fs F1 : fl_N} {n : Int} (h : kin K n) (ht : ∀ j : Nat, (j : Int) < n → Fs 345 j = K 2 j) (hs : ∃ l, l = tkz (Fs 345) n.toNat 0 (-1) ∧ trf F1 n l ∧ l.length ≤ 600) (h5 : ∀ j, F1 345 j = Fs 345 j) (h6 : ∀ j : Nat, j < 76 → F1 346 j = ra_at 346 j) : rk K F1 := by
  obtain ⟨hg, h0, hk, hl⟩ := h
  obtain ⟨l, el, hr, -⟩ := hs
  rw [tkz_cg (Fs 345) (K 2) n.toNat 0 (-1) (fun j h1 h2 => ht j (by omega))] at el
  rw [← el] at hk
  obtain ⟨ha, k16, -, k4, k5, -⟩ := hk
  obtain ⟨hb, r4, r7, r8⟩ := hr
  have e4 : K 4 (K 1 6 - 1).toNat = n := by
    rw [show (K 1 6 - 1).toNat = l.length by omega]
    exact k4
  refine ⟨fun p p0 p1 => ?_, by omega, fun j j0 j1 => ?_, h6⟩
  · by_cases e : p.toNat < l.length
    · obtain ⟨q, hq⟩ : ∃ q, l[p.toNat]? = some q := ⟨l[p.toNat], List.getElem?_eq_getElem e⟩
      have a1 := ha p.toNat q hq
      have a2 := hb p.toNat q hq
      exact ⟨by rw [a2.1, a1.1.1], by rw [a2.2, a1.1.2]⟩
    · have e2 : p.toNat = l.length := by omega
      rw [e2]
      exact ⟨by rw [r7, k4], by rw [r8, k5]⟩
  · rw [h5, ht j.toNat (by omega)]

def rs5 (q : Nat × Nat × Nat × Nat) : Bool := Nat.blt q.2.1 354 || Nat.blt 363 q.1 || (Nat.beq q.1 358 && Nat.beq q.2.1 358 && Nat.beq q.2.2.1 5 && Nat.beq q.2.2.2 5) || (Nat.ble 360 q.1 && Nat.ble q.2.1 362 && Nat.ble 40 q.2.2.1 && Nat.ble q.2.2.2 43) || (Nat.beq q.1 363 && Nat.beq q.2.1 363 && Nat.ble 80 q.2.2.1 && Nat.ble q.2.2.2 87)
theorem rs5_n {S : List (Nat × Nat × Nat × Nat)} (h : S.all rs5 = true) {r k : Nat} (hr : 354 ≤ r ∧ r ≤ 363) (hk : (r = 358 → k ≠ 5) ∧ (360 ≤ r ∧ r ≤ 362 → k < 40 ∨ 44 ≤ k) ∧ (r = 363 → k < 80 ∨ 88 ≤ k)) : fs_in S r k = false := by
  unfold fs_in
  rw [List.any_eq_false]
  intro q hq h9
  rw [List.all_eq_true] at h
  have h1 := h q hq
  simp only [rs5, Bool.or_eq_true, Bool.and_eq_true, Nat.blt_eq, Nat.ble_eq, Nat.beq_eq] at h1
  rw [Bool.and_eq_true, Bool.and_eq_true, Bool.and_eq_true, Nat.ble_eq, Nat.ble_eq, Nat.ble_eq, Nat.ble_eq] at h9
  omega
theorem lfr_s {S : List (Nat × Nat × Nat × Nat)} {F F' : fl_N} (hf : fs S F F') (h : S.all rs5 = true) : lfr 5 40 44 F F' := by
  refine ⟨fun j hj => ⟨hf _ _ (rs5_n h (by omega) (by omega)), hf _ _ (rs5_n h (by omega) (by omega)), hf _ _ (rs5_n h (by omega) (by omega)), hf _ _ (rs5_n h (by omega) (by omega))⟩, fun j _ => hf _ _ (rs5_n h (by omega) (by omega)), fun j hj => ⟨hf _ _ (rs5_n h (by omega) (by omega)), hf _ _ (rs5_n h (by omega) (by omega)), hf _ _ (rs5_n h (by omega) (by omega)), hf _ _ (rs5_n h (by omega) (by omega)), hf _ _ (rs5_n h (by omega) (by omega))⟩⟩
theorem rdar_5 {F F' : fl_N} {D : List ad_T} (h : rdar F D) (hg : gi F) (hl : D.length ≤ 5) (hf : lfr 5 40 44 F F') : rdar F' D := fun j x hx => by
  have hj : j < D.length := by
    rcases Nat.lt_or_ge j D.length with h1 | h1
    · exact h1
    · rw [List.getElem?_eq_none h1] at hx
      cases hx
  exact racr_lfr (h j x hx) hf (by omega) (by omega) (racr_ln (h j x hx) hg (by omega))
theorem dat_mem {D : List ad_T} {a : Nat} (h : a < D.length) : dat D a ∈ D := List.mem_of_getElem? (dat_get h)
theorem lt_3 {n : Nat} {x : lt_T} (h : ltn n x) (hn : n ≤ 3) : lt3 x := ⟨⟨h.1.1, by have h1 := h.1.2; omega⟩, ⟨h.2.1.1, by have h1 := h.2.1.2; omega⟩, h.2.2⟩
theorem ad_l3 {ps : List (List Int)} {d : ad_T} (h : adok ps d ∧ d.1.length ≤ 3) : ∀ y ∈ d.2.1, lwf ps y ∧ lt3 y := fun y hy => ⟨(h.1.1 y hy).1, lt_3 (h.1.1 y hy).2.1 h.2⟩
theorem ad_e3 {ps : List (List Int)} {d : ad_T} (h : adok ps d ∧ d.1.length ≤ 3) : ∀ y ∈ d.2.2.1, lwf ps y ∧ lt3 y := fun y hy => ⟨(h.1.2 y hy).1, lt_3 (h.1.2 y hy).2.1 h.2⟩
theorem rdar_u {F : fl_N} {D : List ad_T} {c k : Nat} {z : Int} (h : rdar F D) (hc : c < 354 ∨ 363 < c) : rdar (fl_u F c k z) D := fun j x hx => by
  have e : ∀ r i, 354 ≤ r ∧ r ≤ 363 → fl_u F c k z r i = F r i := fun r i hr => fl_u_ne (by omega)
  obtain ⟨⟨a1, a2⟩, ⟨b1, b2⟩, ⟨c1, c2⟩, d1⟩ := h j x hx
  refine ⟨⟨(e _ _ (by omega)).trans a1, fun i y hy => (e _ _ (by omega)).trans (a2 i y hy)⟩, ⟨(e _ _ (by omega)).trans b1, ?_⟩, ⟨(e _ _ (by omega)).trans c1, ?_⟩, (e _ _ (by omega)).trans d1⟩
  · exact rcl_lfr b2 (lfr_u (a := 0) (lo := 0) (hi := 0) lfr_r (by omega)) (Or.inr (Nat.zero_le _))
  · exact rcl_lfr c2 (lfr_u (a := 0) (lo := 0) (hi := 0) lfr_r (by omega)) (Or.inr (Nat.zero_le _))
theorem dar_cg {F F' : fl_N} {D : List ad_T} (h : dar F D) (hk : ∀ r k, 39 ≤ r ∧ r < 39 + 13 * D.length → F' r k = F r k) : dar F' D := fun j x hx => by
  have hl := (List.getElem?_eq_some_iff.mp hx).1
  obtain ⟨a1, a2, a3, a4⟩ := h j x hx
  refine ⟨⟨(hk _ _ (by omega)).trans a1.1, fun i y hy => (hk _ _ (by omega)).trans (a1.2 i y hy)⟩, ⟨(hk _ _ (by omega)).trans a2.1, fun i y hy => ?_⟩, ⟨(hk _ _ (by omega)).trans a3.1, fun i y hy => ?_⟩, (hk _ _ (by omega)).trans a4⟩
  · obtain ⟨b1, b2, b3, b4⟩ := a2.2 i y hy
    exact ⟨(hk _ _ (by omega)).trans b1, (hk _ _ (by omega)).trans b2, (hk _ _ (by omega)).trans b3, (hk _ _ (by omega)).trans b4⟩
  · obtain ⟨b1, b2, b3, b4⟩ := a3.2 i y hy
    exact ⟨(hk _ _ (by omega)).trans b1, (hk _ _ (by omega)).trans b2, (hk _ _ (by omega)).trans b3, (hk _ _ (by omega)).trans b4⟩
def sp_rh (K : fl_N) (ts : List Int) (p : Int) : PR (Int × List Int × List Int) := pb (sp_objs K ts 6 [] [] p) fun q => pb (sp_kind K 1 q.1) fun p => .inr (p, q.2)

/- CheapPlanner.domain -/
abbrev pq_2 (G : Nat → Nat → Option Nat) (F : fl_N) (X : xi_H)  : Outcome → xi_H → Prop := gqi (fun z A => ∃ F' : fl_N, fl_H sh_T G F' ++ X = A ∧ gi F' ∧ fs [(0, 0, 7, 7), (0, 0, 8, 8), (0, 0, 10, 10), (0, 0, 12, 12), (331, 331, 8, 8), (331, 331, 10, 11), (335, 335, 0, 100000), (338, 338, 0, 100000), (1, 1, 1, 1), (1, 1, 6, 8), (3, 6, 0, 100000), (7, 13, 0, 100000), (15, 17, 0, 100000), (21, 103, 0, 100000), (119, 119, 2, 3)] F F' ∧ (∃ K ts pl ps al, dmk K F ∧ sp_dom K = .inr (ts, pl, ps, al) ∧ z = (al.length : Int) ∧ F' 7 0 = sp_dnm K ∧ rep (F' 9) (F' 8 2) ts ∧ rep (F' 12) (F' 11 2) pl ∧ prd F' ps ∧ pl.length = ps.length ∧ dar F' (dom_d K) ∧ ((dom_d K).length : Int) = F' 15 2) ∧ (F' 1 1 = 0) ∧ (F' 0 7 = 1) ∧ (dmi F') ∧ (F' 331 11 = 0) ∧ (F' 1 8 = 0) ∧ (F' 0 8 = 0)) (fun j A => ∃ F' : fl_N, (387 + X.length = j ∧ fl_H sh_T G F' ++ (X ++ [gx 14]) = A) ∧ gi F' ∧ fs [(0, 0, 7, 7), (0, 0, 8, 8), (0, 0, 10, 10), (0, 0, 12, 12), (331, 331, 8, 8), (331, 331, 10, 11), (335, 335, 0, 100000), (338, 338, 0, 100000), (1, 1, 1, 1), (1, 1, 6, 8), (3, 6, 0, 100000), (7, 13, 0, 100000), (15, 17, 0, 100000), (21, 103, 0, 100000), (119, 119, 2, 3)] F F' ∧ (∃ K e, dmk K F ∧ sp_dom K = .inl e ∧ F' 1 8 = e.1 + 10 * e.2) ∧ (F' 1 1 = 0) ∧ (F' 0 7 = 0) ∧ (F' 331 11 = 0) ∧ (F' 0 8 = 0))
theorem mc_2 {G : Nat → Nat → Option Nat} (hG : gg G) (F : fl_N) (X : xi_H) (hgi : gi F)  : fl_M xi_ms 2 13 257 [.ref 0] (fl_H sh_T G F ++ X) (pq_2 G F X) := by
  intro fr lo hfr hlo
  show fl_R xi_ms 2 fr lo 0 [(0, .ref 0)] [] _ _
  have hb15 : 0 ≤ F 15 2 ∧ F 15 2 ≤ 5 := gi_g hgi rfl
  refine ga_aload_n (v := .ref 0) hm_2 rfl rfl rfl ?_
  refine fl_iconst hm_2 rfl ?_
  refine ga_putz (z := 0) hm_2 rfl sc_0 rfl rfl (by omega) ?_
  refine ga_aload_n (v := .ref 0) hm_2 rfl rfl rfl ?_
  obtain ⟨F1_, q2_⟩ : ∃ Fq_, Fq_ = (fl_u F 0 7 0) := ⟨_, rfl⟩
  rw [← q2_]
  have g3_ : gi F1_ := by rw [q2_]; exact gi_u (hgi) rfl (by omega) (by omega)
  have g4_ : fs [(0, 0, 7, 7), (0, 0, 8, 8), (0, 0, 10, 10), (0, 0, 12, 12), (331, 331, 8, 8), (331, 331, 10, 11), (335, 335, 0, 100000), (338, 338, 0, 100000), (1, 1, 1, 1), (1, 1, 6, 8), (3, 6, 0, 100000), (7, 13, 0, 100000), (15, 17, 0, 100000), (21, 103, 0, 100000), (119, 119, 2, 3)] F F1_ := by rw [q2_]; exact fs_u (fs_refl) rfl
  refine gVv (nY := 1) (F := 2) (L := 43) (As := []) (b := 0) (rest := []) hm_2 rfl hm_15 rfl rfl (fl_ob sc_0) rfl rfl rfl rfl rfl (by omega) (by omega) (mc_15 hG F1_ X g3_) (fun _ _ h => False.elim h) ?_
  rintro A1_ ⟨F8_, hA_, g9_, s10_, c6_, c7_⟩
  subst hA_
  have g11_ : fs [(0, 0, 7, 7), (0, 0, 8, 8), (0, 0, 10, 10), (0, 0, 12, 12), (331, 331, 8, 8), (331, 331, 10, 11), (335, 335, 0, 100000), (338, 338, 0, 100000), (1, 1, 1, 1), (1, 1, 6, 8), (3, 6, 0, 100000), (7, 13, 0, 100000), (15, 17, 0, 100000), (21, 103, 0, 100000), (119, 119, 2, 3)] F F8_ := fs_tr g4_ s10_ rfl
  refine ga_aload_n (v := .ref 0) hm_2 rfl rfl rfl ?_
  refine ga_getr (b := 118) hm_2 rfl sc_0 rfl ?_
  refine gVv (nY := 2) (F := 12) (L := 236) (As := []) (b := 118) (rest := []) hm_2 rfl hm_33 rfl rfl (fl_ob sc_118) rfl rfl rfl rfl rfl (by omega) (by omega) (mc_33 hG F8_ X g9_) ?_ ?_
  ·
    have e17_ : F1_ 1 1 = F 1 1 := by rw [q2_]; exact fl_u_ne (by first | exact nc_ rfl | decide | omega)
    have e18_ : F8_ 1 1 = F 1 1 := (s10_ 1 1 rfl).trans (e17_)
    have b19_ : 0 ≤ F 1 1 ∧ F 1 1 ≤ 600 := gi_g hgi rfl
    rintro j_ A1_ ⟨F14_, ⟨hJ_, hA_⟩, g15_, s16_, c12_, c13_⟩
    subst hA_
    subst hJ_
    try simp only [e18_] at c12_
    refine ⟨rfl, ?_⟩
    refine gw_i ?_
    have g20_ : fs [(0, 0, 7, 7), (0, 0, 8, 8), (0, 0, 10, 10), (0, 0, 12, 12), (331, 331, 8, 8), (331, 331, 10, 11), (335, 335, 0, 100000), (338, 338, 0, 100000), (1, 1, 1, 1), (1, 1, 6, 8), (3, 6, 0, 100000), (7, 13, 0, 100000), (15, 17, 0, 100000), (21, 103, 0, 100000), (119, 119, 2, 3)] F F14_ := fs_tr g11_ s16_ rfl
    have b21_ : 0 ≤ F14_ 1 8 ∧ F14_ 1 8 ≤ 100000 := gi_g g15_ rfl
    have b22_ : 0 ≤ F14_ 1 1 ∧ F14_ 1 1 ≤ 600 := gi_g g15_ rfl
    have e23_ : F1_ 0 7 = 0 := by rw [q2_]; exact fl_u_eq
    have e24_ : F8_ 0 7 = 0 := (s10_ 0 7 rfl).trans (e23_)
    have e25_ : F14_ 0 7 = 0 := (s16_ 0 7 rfl).trans (e24_)
    have e26_ : F14_ 331 11 = F8_ 331 11 := (s16_ 331 11 rfl).trans (rfl)
    have b27_ : 0 ≤ F8_ 331 11 ∧ F8_ 331 11 ≤ 1 := gi_g g9_ rfl
    have e28_ : F14_ 0 8 = F8_ 0 8 := (s16_ 0 8 rfl).trans (rfl)
    have b29_ : 0 ≤ F8_ 0 8 ∧ F8_ 0 8 ≤ 1 := gi_g g9_ rfl
    exact ⟨F14_, ⟨rfl, rfl⟩, g15_, g20_, (by obtain ⟨K, e, c1, c2, c3⟩ := c12_; have e2_ : F8_ 2 = F 2 := funext (fun j => (Eq.trans (a := F8_ 2 j) (b := F1_ 2 j) (s10_ 2 j (by first | exact fs_c rfl | exact (fs_n (by omega) (fs_n (by omega) (fs_n (by omega) (fs_n (by omega) (fs_n (by omega) (fs_n (by omega) (fs_n (by omega) rfl))))))))) (show F1_ 2 j = F 2 j from (by rw [q2_]; exact (fl_u_ne (by first | exact nc_ rfl | decide | omega)))))); have e1_ : F8_ 1 1 = F 1 1 := (Eq.trans (a := F8_ 1 1) (b := F1_ 1 1) (s10_ 1 1 (by first | exact fs_c rfl | exact (fs_n (by omega) (fs_n (by omega) (fs_n (by omega) (fs_n (by omega) (fs_n (by omega) (fs_n (by omega) (fs_n (by omega) rfl))))))))) (show F1_ 1 1 = F 1 1 from (by rw [q2_]; exact (fl_u_ne (by first | exact nc_ rfl | decide | omega))))); (try rw [e2_] at c1); (try rw [e2_] at c2); (try rw [e1_] at c1); (try rw [e1_] at c2); exact ⟨K, e, ⟨c1, c2.2⟩, c2.1, c3⟩), (by omega), (by omega), (by omega), (by omega)⟩
  have e31_ : F1_ 1 1 = F 1 1 := by rw [q2_]; exact fl_u_ne (by first | exact nc_ rfl | decide | omega)
  have e32_ : F8_ 1 1 = F 1 1 := (s10_ 1 1 rfl).trans (e31_)
  have b33_ : 0 ≤ F 1 1 ∧ F 1 1 ≤ 600 := gi_g hgi rfl
  rintro A1_ ⟨F37_, hA_, g38_, s39_, c34_, c35_, c36_⟩
  subst hA_
  have g40_ : fs [(0, 0, 7, 7), (0, 0, 8, 8), (0, 0, 10, 10), (0, 0, 12, 12), (331, 331, 8, 8), (331, 331, 10, 11), (335, 335, 0, 100000), (338, 338, 0, 100000), (1, 1, 1, 1), (1, 1, 6, 8), (3, 6, 0, 100000), (7, 13, 0, 100000), (15, 17, 0, 100000), (21, 103, 0, 100000), (119, 119, 2, 3)] F F37_ := fs_tr g11_ s39_ rfl
  try simp only [e32_] at c34_
  refine ga_aload_n (v := .ref 0) hm_2 rfl rfl rfl ?_
  refine fl_iconst hm_2 rfl ?_
  refine ga_putz (z := 1) hm_2 rfl sc_0 rfl rfl (by omega) ?_
  refine ga_aload_n (v := .ref 0) hm_2 rfl rfl rfl ?_
  refine ga_getr (b := 7) hm_2 rfl sc_0 rfl ?_
  refine ga_getr (b := 15) hm_2 rfl sc_7 rfl ?_
  have b41_ : 0 ≤ F37_ 15 2 ∧ F37_ 15 2 ≤ 5 := gi_g g38_ rfl
  refine ga_geti (z := F37_ 15 2) hm_2 rfl sc_15 rfl (fl_u_ne (by first | exact nc_ rfl | decide | omega)) ?_
  obtain ⟨F42_, q43_⟩ : ∃ Fq_, Fq_ = (fl_u F37_ 0 7 1) := ⟨_, rfl⟩
  rw [← q43_]
  have g44_ : gi F42_ := by rw [q43_]; exact gi_u (g38_) rfl (by omega) (by omega)
  have g45_ : fs [(0, 0, 7, 7), (0, 0, 8, 8), (0, 0, 10, 10), (0, 0, 12, 12), (331, 331, 8, 8), (331, 331, 10, 11), (335, 335, 0, 100000), (338, 338, 0, 100000), (1, 1, 1, 1), (1, 1, 6, 8), (3, 6, 0, 100000), (7, 13, 0, 100000), (15, 17, 0, 100000), (21, 103, 0, 100000), (119, 119, 2, 3)] F F42_ := by rw [q43_]; exact fs_u (g40_) rfl
  refine gr_i (z := F37_ 15 2) hm_2 rfl rfl rfl ?_
  have e46_ : F42_ 11 2 = F37_ 11 2 := by rw [q43_]; exact fl_u_ne (by first | exact nc_ rfl | decide | omega)
  have b47_ : 0 ≤ F37_ 11 2 ∧ F37_ 11 2 ≤ 6 := gi_g g38_ rfl
  have e48_ : F42_ 15 2 = F37_ 15 2 := by rw [q43_]; exact fl_u_ne (by first | exact nc_ rfl | decide | omega)
  have e49_ : F42_ 7 0 = F37_ 7 0 := by rw [q43_]; exact fl_u_ne (by first | exact nc_ rfl | decide | omega)
  have b50_ : -9223372036854775808 ≤ F37_ 7 0 ∧ F37_ 7 0 ≤ 9223372036854775807 := gi_g g38_ rfl
  have e51_ : F42_ 8 2 = F37_ 8 2 := by rw [q43_]; exact fl_u_ne (by first | exact nc_ rfl | decide | omega)
  have b52_ : 0 ≤ F37_ 8 2 ∧ F37_ 8 2 ≤ 4 := gi_g g38_ rfl
  have e53_ : F42_ 1 1 = F37_ 1 1 := by rw [q43_]; exact fl_u_ne (by first | exact nc_ rfl | decide | omega)
  have b54_ : 0 ≤ F37_ 1 1 ∧ F37_ 1 1 ≤ 600 := gi_g g38_ rfl
  have e55_ : F42_ 0 7 = 1 := by rw [q43_]; exact fl_u_eq
  have e56_ : F37_ 331 11 = F8_ 331 11 := (s39_ 331 11 rfl).trans (rfl)
  have e57_ : F42_ 331 11 = F8_ 331 11 := by rw [q43_]; exact (fl_u_ne (by first | exact nc_ rfl | decide | omega)).trans (e56_)
  have b58_ : 0 ≤ F8_ 331 11 ∧ F8_ 331 11 ≤ 1 := gi_g g9_ rfl
  have e59_ : F42_ 1 8 = F37_ 1 8 := by rw [q43_]; exact fl_u_ne (by first | exact nc_ rfl | decide | omega)
  have b60_ : 0 ≤ F37_ 1 8 ∧ F37_ 1 8 ≤ 100000 := gi_g g38_ rfl
  have e61_ : F37_ 0 8 = F8_ 0 8 := (s39_ 0 8 rfl).trans (rfl)
  have e62_ : F42_ 0 8 = F8_ 0 8 := by rw [q43_]; exact (fl_u_ne (by first | exact nc_ rfl | decide | omega)).trans (e61_)
  have b63_ : 0 ≤ F8_ 0 8 ∧ F8_ 0 8 ≤ 1 := gi_g g9_ rfl
  exact ⟨F42_, rfl, g44_, g45_, (by obtain ⟨K, ts, pl, ps, al, c1, c2, c3, c4, c5, c6, c7, c8⟩ := c34_; have e2_ : F8_ 2 = F 2 := funext (fun j => (Eq.trans (a := F8_ 2 j) (b := F1_ 2 j) (s10_ 2 j (by first | exact fs_c rfl | exact (fs_n (by omega) (fs_n (by omega) (fs_n (by omega) (fs_n (by omega) (fs_n (by omega) (fs_n (by omega) (fs_n (by omega) rfl))))))))) (show F1_ 2 j = F 2 j from (by rw [q2_]; exact (fl_u_ne (by first | exact nc_ rfl | decide | omega)))))); have e1_ : F8_ 1 1 = F 1 1 := (Eq.trans (a := F8_ 1 1) (b := F1_ 1 1) (s10_ 1 1 (by first | exact fs_c rfl | exact (fs_n (by omega) (fs_n (by omega) (fs_n (by omega) (fs_n (by omega) (fs_n (by omega) (fs_n (by omega) (fs_n (by omega) rfl))))))))) (show F1_ 1 1 = F 1 1 from (by rw [q2_]; exact (fl_u_ne (by first | exact nc_ rfl | decide | omega))))); (try rw [e2_] at c1); (try rw [e2_] at c2); (try rw [e1_] at c1); (try rw [e1_] at c2); have hb15_ : 0 ≤ F37_ 15 2 ∧ F37_ 15 2 ≤ 5 := gi_g g38_ rfl; have hb16_ := c4.1; exact ⟨K, ts, pl, ps, al, ⟨c1, c2.2⟩, c2.1, (by have h9_ := c4.1; omega), Eq.trans ((show F42_ 7 0 = F37_ 7 0 from (by rw [q43_]; exact (fl_u_ne (by first | exact nc_ rfl | decide | omega))))) c6, (by rw [q43_]; exact (rep_u c3.1 (by omega) (by omega))), (by rw [q43_]; exact (rep_u c3.2.1 (by omega) (by omega))), (by rw [q43_]; exact (prd_u c3.2.2.1 (by omega))), c3.2.2.2, (by rw [q43_]; exact (dar_u c7 (by omega))), by omega⟩), (by omega), (by omega), (by obtain ⟨K, ts, pl, ps, al, c1, c2, c3, c4, c5, -⟩ := c34_; have h8_ := c4.1; have h7_ : F42_ 15 2 = F37_ 15 2 := (show F42_ 15 2 = F37_ 15 2 from (by rw [q43_]; exact (fl_u_ne (by first | exact nc_ rfl | decide | omega)))); exact fun _ => by rw [show (F42_ 15 2).toNat = al.length by omega]; exact (by rw [q43_]; exact (di_u c5 (by omega)))), (by omega), (Eq.trans ((show F42_ 1 8 = F37_ 1 8 from (by rw [q43_]; exact (fl_u_ne (by first | exact nc_ rfl | decide | omega))))) c36_), (by omega)⟩
/- CheapPlannerModel.domain -/
abbrev pq_63 (G : Nat → Nat → Option Nat) (F : fl_N) (X : xi_H) (K : fl_N) : Outcome → xi_H → Prop := gqi (fun z A => (∃ F' : fl_N, fl_H sh_T G F' ++ X = A ∧ gi F' ∧ fs [(344, 344, 0, 1), (344, 344, 4, 5), (344, 344, 8, 15), (344, 344, 17, 17), (344, 344, 21, 21), (344, 344, 63, 63), (347, 363, 0, 100000), (383, 383, 0, 100000)] F F' ∧ (∃ e, sp_dom K = .inl e ∧ F' 344 8 = e.1 + 10 * e.2) ∧ (F' 344 11 = 0) ∧ (F' 344 0 = 1 ∧ z = 0) ∧ (F' 344 1 = 0) ∧ (F' 344 12 = 0 ∧ F' 344 13 = 0)) ∨ (∃ F' : fl_N, fl_H sh_T G F' ++ X = A ∧ gi F' ∧ fs [(344, 344, 0, 1), (344, 344, 4, 5), (344, 344, 8, 15), (344, 344, 17, 17), (344, 344, 21, 21), (344, 344, 63, 63), (347, 363, 0, 100000), (383, 383, 0, 100000)] F F' ∧ (∃ ts pl ps al, sp_dom K = .inr (ts, pl, ps, al) ∧ rpn (F' 349) (F' 344 15) ts ∧ rpn (F' 350) (F' 344 17) pl ∧ (rprd F' ps ∧ ps.length = pl.length) ∧ rpn (F' 353) (F' 344 21) al ∧ nrel (sp_dnm K) (F' 344 14) ∧ rdar F' (dom_d K) ∧ ((dom_d K).length : Int) = F' 344 21) ∧ (F' 344 11 = 1) ∧ (F' 344 0 = 0 ∧ z = F' 344 21) ∧ (∀ j : Nat, (j : Int) < F' 344 21 → 0 ≤ F' 357 j) ∧ (F' 344 1 = 0) ∧ (F' 344 12 = 0 ∧ F' 344 13 = 0) ∧ (F' 344 8 = 0))) gqn
theorem mc_63 {G : Nat → Nat → Option Nat} (hG : gg G) (F : fl_N) (X : xi_H) (hgi : gi F) (K : fl_N) (hin : kin K (F 344 1)) (htx : ∀ j : Nat, (j : Int) < F 344 1 → F 345 j = K 2 j) (hkw : ∀ j : Nat, j < 76 → F 346 j = ra_at 346 j) : fl_M xi_ms 63 9 209 [.ref 344] (fl_H sh_T G F ++ X) (pq_63 G F X K) := by
  intro fr lo hfr hlo
  show fl_R xi_ms 63 fr lo 0 [(0, .ref 344)] [] _ _
  have hb1 : 0 ≤ F 344 1 ∧ F 344 1 ≤ 600 := gi_g hgi rfl
  refine ga_aload_n (v := .ref 344) hm_63 rfl rfl rfl ?_
  refine gIv (nY := 1) (F := 0) (L := 0) (As := []) (b := 344) (rest := []) hm_63 rfl hm_48 rfl rfl (fl_ob sc_344) rfl rfl rfl rfl rfl (by omega) (by omega) ?_
  intro f1_ l2_ h3_ h4_
  show fl_R xi_ms 48 f1_ l2_ 0 [(0, .ref 344)] [] _ _
  refine ga_aload_n (v := .ref 344) hm_48 rfl rfl rfl ?_
  refine fl_iconst hm_48 rfl ?_
  refine ga_puti (z := 0) hm_48 rfl sc_344 rfl rfl ?_
  refine ga_aload_n (v := .ref 344) hm_48 rfl rfl rfl ?_
  refine fl_iconst hm_48 rfl ?_
  refine ga_puti (z := 0) hm_48 rfl sc_344 rfl rfl ?_
  refine gr_v hm_48 rfl rfl ?_
  clear h3_ h4_ f1_ l2_
  refine ga_aload_n (v := .ref 344) hm_63 rfl rfl rfl ?_
  refine fl_iconst hm_63 rfl ?_
  refine ga_puti (z := 0) hm_63 rfl sc_344 rfl rfl ?_
  refine ga_aload_n (v := .ref 344) hm_63 rfl rfl rfl ?_
  refine fl_iconst hm_63 rfl ?_
  refine ga_puti (z := 0) hm_63 rfl sc_344 rfl rfl ?_
  refine ga_aload_n (v := .ref 344) hm_63 rfl rfl rfl ?_
  refine fl_iconst hm_63 rfl ?_
  refine ga_puti (z := 0) hm_63 rfl sc_344 rfl rfl ?_
  refine ga_aload_n (v := .ref 344) hm_63 rfl rfl rfl ?_
  refine fl_iconst hm_63 rfl ?_
  refine ga_putz (z := 0) hm_63 rfl sc_344 rfl rfl (by omega) ?_
  refine ga_aload_n (v := .ref 344) hm_63 rfl rfl rfl ?_
  refine fl_iconst hm_63 rfl ?_
  refine ga_putz (z := 0) hm_63 rfl sc_344 rfl rfl (by omega) ?_
  refine ga_aload_n (v := .ref 344) hm_63 rfl rfl rfl ?_
  obtain ⟨F5_, q6_⟩ : ∃ Fq_, Fq_ = (fl_u (fl_u (fl_u (fl_u (fl_u (fl_u (fl_u F 344 9 0) 344 10 0) 344 15 0) 344 17 0) 344 21 0) 344 12 0) 344 13 0) := ⟨_, rfl⟩
  rw [← q6_]
  have g7_ : gi F5_ := by rw [q6_]; exact gi_u (gi_u (gi_u (gi_u (gi_u (gi_u (gi_u (hgi) rfl (by omega) (by omega)) rfl (by omega) (by omega)) rfl (by omega) (by omega)) rfl (by omega) (by omega)) rfl (by omega) (by omega)) rfl (by omega) (by omega)) rfl (by omega) (by omega)
  have g8_ : fs [(344, 344, 0, 1), (344, 344, 4, 5), (344, 344, 8, 15), (344, 344, 17, 17), (344, 344, 21, 21), (344, 344, 63, 63), (347, 363, 0, 100000), (383, 383, 0, 100000)] F F5_ := by rw [q6_]; exact fs_u (fs_u (fs_u (fs_u (fs_u (fs_u (fs_u (fs_refl) rfl) rfl) rfl) rfl) rfl) rfl) rfl
  refine gVv (nY := 3) (F := 0) (L := 0) (As := []) (b := 344) (rest := []) hm_63 rfl hm_49 rfl rfl (fl_ob sc_344) rfl rfl rfl rfl rfl (by omega) (by omega) (mc_49 hG F5_ X g7_) (fun _ _ h => False.elim h) ?_
  have e10_ : F5_ 344 1 = F 344 1 := by rw [q6_]; exact (fl_u_ne (by first | exact nc_ rfl | decide | omega)).trans ((fl_u_ne (by first | exact nc_ rfl | decide | omega)).trans ((fl_u_ne (by first | exact nc_ rfl | decide | omega)).trans ((fl_u_ne (by first | exact nc_ rfl | decide | omega)).trans ((fl_u_ne (by first | exact nc_ rfl | decide | omega)).trans ((fl_u_ne (by first | exact nc_ rfl | decide | omega)).trans (fl_u_ne (by first | exact nc_ rfl | decide | omega)))))))
  have b11_ : 0 ≤ F 344 1 ∧ F 344 1 ≤ 600 := gi_g hgi rfl
  rintro A1_ ⟨F14_, hA_, g15_, s16_, c12_, c13_⟩
  subst hA_
  have g17_ : fs [(344, 344, 0, 1), (344, 344, 4, 5), (344, 344, 8, 15), (344, 344, 17, 17), (344, 344, 21, 21), (344, 344, 63, 63), (347, 363, 0, 100000), (383, 383, 0, 100000)] F F14_ := fs_tr g8_ s16_ rfl
  try simp only [e10_] at c12_
  have hgK : gi K := hin.1
  have hkt : rkt K := rkt_of hin
  have hko := hkt.1
  have hk16 := hko.1
  have hrk1 : rk K F14_ := rk_of (n := F 344 1) hin (fun j hj => Eq.trans (show F5_ 345 j = F 345 j from (by rw [q6_]; exact (fl_u_ne (by first | exact nc_ rfl | decide | omega)).trans ((fl_u_ne (by first | exact nc_ rfl | decide | omega)).trans ((fl_u_ne (by first | exact nc_ rfl | decide | omega)).trans ((fl_u_ne (by first | exact nc_ rfl | decide | omega)).trans ((fl_u_ne (by first | exact nc_ rfl | decide | omega)).trans ((fl_u_ne (by first | exact nc_ rfl | decide | omega)).trans ((fl_u_ne (by first | exact nc_ rfl | decide | omega)))))))))) (htx j hj)) c12_ (fun j => (show F14_ 345 j = F5_ 345 j from (s16_ 345 j (by first | exact fs_c rfl | exact (fs_n (by omega) (fs_n (by omega) rfl)))))) (fun j hj => Eq.trans (Eq.trans (a := F14_ 346 j) (b := F5_ 346 j) (s16_ 346 j (by first | exact fs_c rfl | exact (fs_n (by omega) (fs_n (by omega) rfl)))) (show F5_ 346 j = F 346 j from (by rw [q6_]; exact (fl_u_ne (by first | exact nc_ rfl | decide | omega)).trans ((fl_u_ne (by first | exact nc_ rfl | decide | omega)).trans ((fl_u_ne (by first | exact nc_ rfl | decide | omega)).trans ((fl_u_ne (by first | exact nc_ rfl | decide | omega)).trans ((fl_u_ne (by first | exact nc_ rfl | decide | omega)).trans ((fl_u_ne (by first | exact nc_ rfl | decide | omega)).trans ((fl_u_ne (by first | exact nc_ rfl | decide | omega))))))))))) (hkw j hj))
  refine ga_aload_n (v := .ref 344) hm_63 rfl rfl rfl ?_
  have b18_ : 0 ≤ F14_ 344 5 ∧ F14_ 344 5 ≤ 600 := gi_g g15_ rfl
  have e19_ : F5_ 344 9 = 0 := by rw [q6_]; exact (fl_u_ne (by first | exact nc_ rfl | decide | omega)).trans ((fl_u_ne (by first | exact nc_ rfl | decide | omega)).trans ((fl_u_ne (by first | exact nc_ rfl | decide | omega)).trans ((fl_u_ne (by first | exact nc_ rfl | decide | omega)).trans ((fl_u_ne (by first | exact nc_ rfl | decide | omega)).trans ((fl_u_ne (by first | exact nc_ rfl | decide | omega)).trans (fl_u_eq))))))
  have e20_ : F14_ 344 9 = 0 := (s16_ 344 9 rfl).trans (e19_)
  have e21_ : F5_ 344 15 = 0 := by rw [q6_]; exact (fl_u_ne (by first | exact nc_ rfl | decide | omega)).trans ((fl_u_ne (by first | exact nc_ rfl | decide | omega)).trans ((fl_u_ne (by first | exact nc_ rfl | decide | omega)).trans ((fl_u_ne (by first | exact nc_ rfl | decide | omega)).trans (fl_u_eq))))
  have e22_ : F14_ 344 15 = 0 := (s16_ 344 15 rfl).trans (e21_)
  have e23_ : F5_ 344 17 = 0 := by rw [q6_]; exact (fl_u_ne (by first | exact nc_ rfl | decide | omega)).trans ((fl_u_ne (by first | exact nc_ rfl | decide | omega)).trans ((fl_u_ne (by first | exact nc_ rfl | decide | omega)).trans (fl_u_eq)))
  have e24_ : F14_ 344 17 = 0 := (s16_ 344 17 rfl).trans (e23_)
  have e25_ : F5_ 344 21 = 0 := by rw [q6_]; exact (fl_u_ne (by first | exact nc_ rfl | decide | omega)).trans ((fl_u_ne (by first | exact nc_ rfl | decide | omega)).trans (fl_u_eq))
  have e26_ : F14_ 344 21 = 0 := (s16_ 344 21 rfl).trans (e25_)
  refine gVv (nY := 2) (F := 8) (L := 188) (As := []) (b := 344) (rest := []) hm_63 rfl hm_50 rfl rfl (fl_ob sc_344) rfl rfl rfl rfl rfl (by omega) (by omega) (mc_50 hG F14_ X g15_ (K) (hgK) hrk1 (hkt) (⟨by omega, by omega⟩) (by omega) (by omega) (by omega) (by omega) (by omega)) (fun _ _ h => False.elim h) ?_
  have e28_ : F5_ 344 10 = 0 := by rw [q6_]; exact (fl_u_ne (by first | exact nc_ rfl | decide | omega)).trans ((fl_u_ne (by first | exact nc_ rfl | decide | omega)).trans ((fl_u_ne (by first | exact nc_ rfl | decide | omega)).trans ((fl_u_ne (by first | exact nc_ rfl | decide | omega)).trans ((fl_u_ne (by first | exact nc_ rfl | decide | omega)).trans (fl_u_eq)))))
  have e29_ : F14_ 344 10 = 0 := (s16_ 344 10 rfl).trans (e28_)
  rintro A1_ (⟨F33_, hA_, g34_, s35_, c30_, c31_, c32_⟩ | ⟨F40_, hA_, g41_, s42_, c36_, c37_, c38_, c39_⟩)
  ·
    subst hA_
    have g43_ : fs [(344, 344, 0, 1), (344, 344, 4, 5), (344, 344, 8, 15), (344, 344, 17, 17), (344, 344, 21, 21), (344, 344, 63, 63), (347, 363, 0, 100000), (383, 383, 0, 100000)] F F33_ := fs_tr g17_ s35_ rfl
    have rk44_ : rk K F33_ := rk_fs hrk1 s35_ (fs_rg rfl) rfl
    have c31_s := c31_.1 (by omega)
    clear c31_
    refine ga_aload_n (v := .ref 344) hm_63 rfl rfl rfl ?_
    refine ga_aload_n (v := .ref 344) hm_63 rfl rfl rfl ?_
    refine gIi (nY := 1) (F := 0) (L := 0) (As := []) (b := 344) (rest := [.ref 344]) hm_63 rfl hm_62 rfl rfl (fl_ob sc_344) rfl rfl rfl rfl rfl (by omega) (by omega) ?_
    intro f45_ l46_ h47_ h48_
    show fl_R xi_ms 62 f45_ l46_ 0 [(0, .ref 344)] [] _ _
    refine ga_aload_n (v := .ref 344) hm_62 rfl rfl rfl ?_
    refine ga_aload_n (v := .ref 344) hm_62 rfl rfl rfl ?_
    have b49_ : 0 ≤ F33_ 344 9 ∧ F33_ 344 9 ≤ 5 := gi_g g34_ rfl
    refine ga_geti (z := F33_ 344 9) hm_62 rfl sc_344 rfl (rfl) ?_
    refine fx_if_ne (a := F33_ 344 9) hm_62 rfl ⟨by omega, by omega⟩ (fun h50_ => ?_) (fun h51_ => ?_)
    ·
      refine ga_aload_n (v := .ref 344) hm_62 rfl rfl rfl ?_
      refine ga_geti (z := F33_ 344 9) hm_62 rfl sc_344 rfl (rfl) ?_
      refine fl_bipush hm_62 rfl rfl ?_
      refine ga_aload_n (v := .ref 344) hm_62 rfl rfl rfl ?_
      have b52_ : 0 ≤ F33_ 344 10 ∧ F33_ 344 10 ≤ 600 := gi_g g34_ rfl
      refine ga_geti (z := F33_ 344 10) hm_62 rfl sc_344 rfl (rfl) ?_
      refine ga_imul (a := 10) (b := F33_ 344 10) (c := 10 * (F33_ 344 10)) hm_62 rfl (by omega) ?_
      refine ga_iadd (a := F33_ 344 9) (b := 10 * (F33_ 344 10)) (c := F33_ 344 9 + 10 * (F33_ 344 10)) hm_62 rfl (by omega) ?_
      refine ga_puti (z := F33_ 344 9 + 10 * (F33_ 344 10)) hm_62 rfl sc_344 rfl rfl ?_
      refine ga_aload_n (v := .ref 344) hm_62 rfl rfl rfl ?_
      refine fl_iconst hm_62 rfl ?_
      refine ga_puti (z := 0) hm_62 rfl sc_344 rfl rfl ?_
      refine ga_aload_n (v := .ref 344) hm_62 rfl rfl rfl ?_
      refine ga_aload_n (v := .ref 344) hm_62 rfl rfl rfl ?_
      refine ga_geti (z := F33_ 344 9) hm_62 rfl sc_344 rfl ((fl_u_ne (by first | exact nc_ rfl | decide | omega)).trans (fl_u_ne (by first | exact nc_ rfl | decide | omega))) ?_
      refine fx_if_ne (a := F33_ 344 9) hm_62 rfl ⟨by omega, by omega⟩ (fun h53_ => ?_) (fun h54_ => ?_)
      ·
        refine fl_iconst hm_62 rfl ?_
        refine ga_puti (z := 1) hm_62 rfl sc_344 rfl rfl ?_
        refine ga_aload_n (v := .ref 344) hm_62 rfl rfl rfl ?_
        refine ga_geti (z := 1) hm_62 rfl sc_344 rfl (fl_u_eq) ?_
        refine fl_if_ne hm_62 rfl ⟨by omega, by omega⟩ (fun _ => ?_) (fun h => absurd (by omega) h)
        refine fl_iconst hm_62 rfl ?_
        refine gr_i hm_62 rfl rfl (ga_nb (by omega)) ?_
        clear h47_ h48_ f45_ l46_
        refine ga_putz (z := 0) hm_63 rfl sc_344 rfl rfl (by omega) ?_
        refine ga_aload_n (v := .ref 344) hm_63 rfl rfl rfl ?_
        refine ga_geti (z := 0) hm_63 rfl sc_344 rfl (fl_u_eq) ?_
        refine fl_if_eq hm_63 rfl ⟨by omega, by omega⟩ (fun _ => ?_) (fun h => absurd (by omega) h)
        refine fl_iconst hm_63 rfl ?_
        obtain ⟨F55_, q56_⟩ : ∃ Fq_, Fq_ = (fl_u (fl_u (fl_u (fl_u F33_ 344 8 (F33_ 344 9 + 10 * (F33_ 344 10))) 344 1 0) 344 0 1) 344 11 0) := ⟨_, rfl⟩
        rw [← q56_]
        have g57_ : gi F55_ := by rw [q56_]; exact gi_u (gi_u (gi_u (gi_u (g34_) rfl (by omega) (by omega)) rfl (by omega) (by omega)) rfl (by omega) (by omega)) rfl (by omega) (by omega)
        have g58_ : fs [(344, 344, 0, 1), (344, 344, 4, 5), (344, 344, 8, 15), (344, 344, 17, 17), (344, 344, 21, 21), (344, 344, 63, 63), (347, 363, 0, 100000), (383, 383, 0, 100000)] F F55_ := by rw [q56_]; exact fs_u (fs_u (fs_u (fs_u (g43_) rfl) rfl) rfl) rfl
        have rk59_ : rk K F55_ := by rw [q56_]; exact rk_u (rk_u (rk_u (rk_u (rk44_) (by first | decide | exact nc_ rfl | omega) (by first | decide | exact nc_ rfl | omega)) (by first | decide | exact nc_ rfl | omega) (by first | decide | exact nc_ rfl | omega)) (by first | decide | exact nc_ rfl | omega) (by first | decide | exact nc_ rfl | omega)) (by first | decide | exact nc_ rfl | omega) (by first | decide | exact nc_ rfl | omega)
        refine gr_i (z := 0) hm_63 rfl rfl rfl ?_
        have e60_ : F55_ 344 11 = 0 := by rw [q56_]; exact fl_u_eq
        have e61_ : F55_ 344 8 = F33_ 344 9 + 10 * (F33_ 344 10) := by rw [q56_]; exact (fl_u_ne (by first | exact nc_ rfl | decide | omega)).trans ((fl_u_ne (by first | exact nc_ rfl | decide | omega)).trans ((fl_u_ne (by first | exact nc_ rfl | decide | omega)).trans (fl_u_eq)))
        have e62_ : F55_ 344 0 = 1 := by rw [q56_]; exact (fl_u_ne (by first | exact nc_ rfl | decide | omega)).trans (fl_u_eq)
        have e63_ : F55_ 344 1 = 0 := by rw [q56_]; exact (fl_u_ne (by first | exact nc_ rfl | decide | omega)).trans ((fl_u_ne (by first | exact nc_ rfl | decide | omega)).trans (fl_u_eq))
        have e64_ : F5_ 344 12 = 0 := by rw [q6_]; exact (fl_u_ne (by first | exact nc_ rfl | decide | omega)).trans (fl_u_eq)
        have e65_ : F14_ 344 12 = 0 := (s16_ 344 12 rfl).trans (e64_)
        have e66_ : F33_ 344 12 = 0 := (s35_ 344 12 rfl).trans (e65_)
        have e67_ : F55_ 344 12 = 0 := by rw [q56_]; exact (fl_u_ne (by first | exact nc_ rfl | decide | omega)).trans ((fl_u_ne (by first | exact nc_ rfl | decide | omega)).trans ((fl_u_ne (by first | exact nc_ rfl | decide | omega)).trans ((fl_u_ne (by first | exact nc_ rfl | decide | omega)).trans (e66_))))
        have e68_ : F5_ 344 13 = 0 := by rw [q6_]; exact fl_u_eq
        have e69_ : F14_ 344 13 = 0 := (s16_ 344 13 rfl).trans (e68_)
        have e70_ : F33_ 344 13 = 0 := (s35_ 344 13 rfl).trans (e69_)
        have e71_ : F55_ 344 13 = 0 := by rw [q56_]; exact (fl_u_ne (by first | exact nc_ rfl | decide | omega)).trans ((fl_u_ne (by first | exact nc_ rfl | decide | omega)).trans ((fl_u_ne (by first | exact nc_ rfl | decide | omega)).trans ((fl_u_ne (by first | exact nc_ rfl | decide | omega)).trans (e70_))))
        exact Or.inl ⟨F55_, rfl, g57_, g58_, (⟨(F33_ 344 9, F33_ 344 10), c31_s, by show _ = F33_ 344 9 + 10 * F33_ 344 10; omega⟩), (by omega), (⟨by omega, by omega⟩), (by omega), (⟨by omega, by omega⟩)⟩
      exfalso; omega
    exfalso; omega
  subst hA_
  have g72_ : fs [(344, 344, 0, 1), (344, 344, 4, 5), (344, 344, 8, 15), (344, 344, 17, 17), (344, 344, 21, 21), (344, 344, 63, 63), (347, 363, 0, 100000), (383, 383, 0, 100000)] F F40_ := fs_tr g17_ s42_ rfl
  have rk73_ : rk K F40_ := rk_fs hrk1 s42_ (fs_rg rfl) rfl
  refine ga_aload_n (v := .ref 344) hm_63 rfl rfl rfl ?_
  refine ga_aload_n (v := .ref 344) hm_63 rfl rfl rfl ?_
  refine gIi (nY := 1) (F := 0) (L := 0) (As := []) (b := 344) (rest := [.ref 344]) hm_63 rfl hm_62 rfl rfl (fl_ob sc_344) rfl rfl rfl rfl rfl (by omega) (by omega) ?_
  intro f74_ l75_ h76_ h77_
  show fl_R xi_ms 62 f74_ l75_ 0 [(0, .ref 344)] [] _ _
  refine ga_aload_n (v := .ref 344) hm_62 rfl rfl rfl ?_
  refine ga_aload_n (v := .ref 344) hm_62 rfl rfl rfl ?_
  have b78_ : 0 ≤ F40_ 344 9 ∧ F40_ 344 9 ≤ 5 := gi_g g41_ rfl
  refine ga_geti (z := F40_ 344 9) hm_62 rfl sc_344 rfl (rfl) ?_
  refine fx_if_ne (a := F40_ 344 9) hm_62 rfl ⟨by omega, by omega⟩ (fun h79_ => ?_) (fun h80_ => ?_)
  · exfalso; omega
  refine fl_iconst hm_62 rfl ?_
  refine fl_goto hm_62 rfl ?_
  refine ga_puti (z := 0) hm_62 rfl sc_344 rfl rfl ?_
  refine ga_aload_n (v := .ref 344) hm_62 rfl rfl rfl ?_
  refine fl_iconst hm_62 rfl ?_
  refine ga_puti (z := 0) hm_62 rfl sc_344 rfl rfl ?_
  refine ga_aload_n (v := .ref 344) hm_62 rfl rfl rfl ?_
  refine ga_aload_n (v := .ref 344) hm_62 rfl rfl rfl ?_
  refine ga_geti (z := F40_ 344 9) hm_62 rfl sc_344 rfl ((fl_u_ne (by first | exact nc_ rfl | decide | omega)).trans (fl_u_ne (by first | exact nc_ rfl | decide | omega))) ?_
  refine fx_if_ne (a := F40_ 344 9) hm_62 rfl ⟨by omega, by omega⟩ (fun h81_ => ?_) (fun h82_ => ?_)
  · exfalso; omega
  refine fl_iconst hm_62 rfl ?_
  refine fl_goto hm_62 rfl ?_
  refine ga_puti (z := 0) hm_62 rfl sc_344 rfl rfl ?_
  refine ga_aload_n (v := .ref 344) hm_62 rfl rfl rfl ?_
  refine ga_geti (z := 0) hm_62 rfl sc_344 rfl (fl_u_eq) ?_
  refine fl_if_ne hm_62 rfl ⟨by omega, by omega⟩ (fun h => absurd h (by omega)) (fun _ => ?_)
  refine fl_iconst hm_62 rfl ?_
  refine fl_goto hm_62 rfl ?_
  refine gr_i hm_62 rfl rfl (ga_nb (by omega)) ?_
  clear h76_ h77_ f74_ l75_
  refine ga_putz (z := 1) hm_63 rfl sc_344 rfl rfl (by omega) ?_
  refine ga_aload_n (v := .ref 344) hm_63 rfl rfl rfl ?_
  refine ga_geti (z := 1) hm_63 rfl sc_344 rfl (fl_u_eq) ?_
  refine fl_if_eq hm_63 rfl ⟨by omega, by omega⟩ (fun h => absurd h (by omega)) (fun _ => ?_)
  refine ga_aload_n (v := .ref 344) hm_63 rfl rfl rfl ?_
  have b83_ : 0 ≤ F40_ 344 21 ∧ F40_ 344 21 ≤ 5 := gi_g g41_ rfl
  refine ga_geti (z := F40_ 344 21) hm_63 rfl sc_344 rfl ((fl_u_ne (by first | exact nc_ rfl | decide | omega)).trans ((fl_u_ne (by first | exact nc_ rfl | decide | omega)).trans ((fl_u_ne (by first | exact nc_ rfl | decide | omega)).trans (fl_u_ne (by first | exact nc_ rfl | decide | omega))))) ?_
  refine fl_goto hm_63 rfl ?_
  obtain ⟨F84_, q85_⟩ : ∃ Fq_, Fq_ = (fl_u (fl_u (fl_u (fl_u F40_ 344 8 0) 344 1 0) 344 0 0) 344 11 1) := ⟨_, rfl⟩
  rw [← q85_]
  have g86_ : gi F84_ := by rw [q85_]; exact gi_u (gi_u (gi_u (gi_u (g41_) rfl (by omega) (by omega)) rfl (by omega) (by omega)) rfl (by omega) (by omega)) rfl (by omega) (by omega)
  have g87_ : fs [(344, 344, 0, 1), (344, 344, 4, 5), (344, 344, 8, 15), (344, 344, 17, 17), (344, 344, 21, 21), (344, 344, 63, 63), (347, 363, 0, 100000), (383, 383, 0, 100000)] F F84_ := by rw [q85_]; exact fs_u (fs_u (fs_u (fs_u (g72_) rfl) rfl) rfl) rfl
  have rk88_ : rk K F84_ := by rw [q85_]; exact rk_u (rk_u (rk_u (rk_u (rk73_) (by first | decide | exact nc_ rfl | omega) (by first | decide | exact nc_ rfl | omega)) (by first | decide | exact nc_ rfl | omega) (by first | decide | exact nc_ rfl | omega)) (by first | decide | exact nc_ rfl | omega) (by first | decide | exact nc_ rfl | omega)) (by first | decide | exact nc_ rfl | omega) (by first | decide | exact nc_ rfl | omega)
  refine gr_i (z := F40_ 344 21) hm_63 rfl rfl rfl ?_
  have e89_ : F84_ 344 11 = 1 := by rw [q85_]; exact fl_u_eq
  have e90_ : F84_ 344 14 = F40_ 344 14 := by rw [q85_]; exact (fl_u_ne (by first | exact nc_ rfl | decide | omega)).trans ((fl_u_ne (by first | exact nc_ rfl | decide | omega)).trans ((fl_u_ne (by first | exact nc_ rfl | decide | omega)).trans (fl_u_ne (by first | exact nc_ rfl | decide | omega))))
  have b91_ : 0 ≤ F40_ 344 14 ∧ F40_ 344 14 ≤ 2565726408 := gi_g g41_ rfl
  have e92_ : F84_ 344 15 = F40_ 344 15 := by rw [q85_]; exact (fl_u_ne (by first | exact nc_ rfl | decide | omega)).trans ((fl_u_ne (by first | exact nc_ rfl | decide | omega)).trans ((fl_u_ne (by first | exact nc_ rfl | decide | omega)).trans (fl_u_ne (by first | exact nc_ rfl | decide | omega))))
  have b93_ : 0 ≤ F40_ 344 15 ∧ F40_ 344 15 ≤ 4 := gi_g g41_ rfl
  have e94_ : F84_ 344 17 = F40_ 344 17 := by rw [q85_]; exact (fl_u_ne (by first | exact nc_ rfl | decide | omega)).trans ((fl_u_ne (by first | exact nc_ rfl | decide | omega)).trans ((fl_u_ne (by first | exact nc_ rfl | decide | omega)).trans (fl_u_ne (by first | exact nc_ rfl | decide | omega))))
  have b95_ : 0 ≤ F40_ 344 17 ∧ F40_ 344 17 ≤ 6 := gi_g g41_ rfl
  have e96_ : F84_ 344 21 = F40_ 344 21 := by rw [q85_]; exact (fl_u_ne (by first | exact nc_ rfl | decide | omega)).trans ((fl_u_ne (by first | exact nc_ rfl | decide | omega)).trans ((fl_u_ne (by first | exact nc_ rfl | decide | omega)).trans (fl_u_ne (by first | exact nc_ rfl | decide | omega))))
  have e97_ : F84_ 344 0 = 0 := by rw [q85_]; exact (fl_u_ne (by first | exact nc_ rfl | decide | omega)).trans (fl_u_eq)
  have e98_ : F84_ 344 1 = 0 := by rw [q85_]; exact (fl_u_ne (by first | exact nc_ rfl | decide | omega)).trans ((fl_u_ne (by first | exact nc_ rfl | decide | omega)).trans (fl_u_eq))
  have e99_ : F5_ 344 12 = 0 := by rw [q6_]; exact (fl_u_ne (by first | exact nc_ rfl | decide | omega)).trans (fl_u_eq)
  have e100_ : F14_ 344 12 = 0 := (s16_ 344 12 rfl).trans (e99_)
  have e101_ : F40_ 344 12 = 0 := (s42_ 344 12 rfl).trans (e100_)
  have e102_ : F84_ 344 12 = 0 := by rw [q85_]; exact (fl_u_ne (by first | exact nc_ rfl | decide | omega)).trans ((fl_u_ne (by first | exact nc_ rfl | decide | omega)).trans ((fl_u_ne (by first | exact nc_ rfl | decide | omega)).trans ((fl_u_ne (by first | exact nc_ rfl | decide | omega)).trans (e101_))))
  have e103_ : F5_ 344 13 = 0 := by rw [q6_]; exact fl_u_eq
  have e104_ : F14_ 344 13 = 0 := (s16_ 344 13 rfl).trans (e103_)
  have e105_ : F40_ 344 13 = 0 := (s42_ 344 13 rfl).trans (e104_)
  have e106_ : F84_ 344 13 = 0 := by rw [q85_]; exact (fl_u_ne (by first | exact nc_ rfl | decide | omega)).trans ((fl_u_ne (by first | exact nc_ rfl | decide | omega)).trans ((fl_u_ne (by first | exact nc_ rfl | decide | omega)).trans ((fl_u_ne (by first | exact nc_ rfl | decide | omega)).trans (e105_))))
  have e107_ : F84_ 344 8 = 0 := by rw [q85_]; exact (fl_u_ne (by first | exact nc_ rfl | decide | omega)).trans ((fl_u_ne (by first | exact nc_ rfl | decide | omega)).trans ((fl_u_ne (by first | exact nc_ rfl | decide | omega)).trans (fl_u_eq)))
  exact Or.inr (⟨F84_, rfl, g86_, g87_, (by obtain ⟨ts, pl, ps, al, c1, c2, c3, c4, c5, c6, c7, c8⟩ := c37_; have hb21_ : 0 ≤ F40_ 344 21 ∧ F40_ 344 21 ≤ 5 := gi_g g41_ rfl; have hb22_ := c5.1; exact ⟨ts, pl, ps, al, c1, (by rw [q85_]; exact (rpn_u (rpn_u (rpn_u (rpn_u c2 (by first | decide | exact nc_ rfl | omega) (by first | decide | exact nc_ rfl | omega)) (by first | decide | exact nc_ rfl | omega) (by first | decide | exact nc_ rfl | omega)) (by first | decide | exact nc_ rfl | omega) (by first | decide | exact nc_ rfl | omega)) (by first | decide | exact nc_ rfl | omega) (by first | decide | exact nc_ rfl | omega))), (by rw [q85_]; exact (rpn_u (rpn_u (rpn_u (rpn_u c3 (by first | decide | exact nc_ rfl | omega) (by first | decide | exact nc_ rfl | omega)) (by first | decide | exact nc_ rfl | omega) (by first | decide | exact nc_ rfl | omega)) (by first | decide | exact nc_ rfl | omega) (by first | decide | exact nc_ rfl | omega)) (by first | decide | exact nc_ rfl | omega) (by first | decide | exact nc_ rfl | omega))), ⟨(by rw [q85_]; exact (rprd_u (rprd_u (rprd_u (rprd_u c4.1 (by first | decide | exact nc_ rfl | omega)) (by first | decide | exact nc_ rfl | omega)) (by first | decide | exact nc_ rfl | omega)) (by first | decide | exact nc_ rfl | omega))), c4.2⟩, (by rw [q85_]; exact (rpn_u (rpn_u (rpn_u (rpn_u c5 (by first | decide | exact nc_ rfl | omega) (by first | decide | exact nc_ rfl | omega)) (by first | decide | exact nc_ rfl | omega) (by first | decide | exact nc_ rfl | omega)) (by first | decide | exact nc_ rfl | omega) (by first | decide | exact nc_ rfl | omega)) (by first | decide | exact nc_ rfl | omega) (by first | decide | exact nc_ rfl | omega))), by rw [show F84_ 344 14 = F40_ 344 14 from (show F84_ 344 14 = F40_ 344 14 from (by rw [q85_]; exact (fl_u_ne (by first | exact nc_ rfl | decide | omega)).trans ((fl_u_ne (by first | exact nc_ rfl | decide | omega)).trans ((fl_u_ne (by first | exact nc_ rfl | decide | omega)).trans ((fl_u_ne (by first | exact nc_ rfl | decide | omega)))))))]; exact c6, (by rw [q85_]; exact (rdar_u (rdar_u (rdar_u (rdar_u c7 (by omega)) (by omega)) (by omega)) (by omega))), by omega⟩), (by omega), (⟨by omega, by omega⟩), (fun j hj => by rw [(show F84_ 357 j = F40_ 357 j from (by rw [q85_]; exact (fl_u_ne (by first | exact nc_ rfl | decide | omega)).trans ((fl_u_ne (by first | exact nc_ rfl | decide | omega)).trans ((fl_u_ne (by first | exact nc_ rfl | decide | omega)).trans ((fl_u_ne (by first | exact nc_ rfl | decide | omega)))))))]; exact c39_ j (by have e9_ := (show F84_ 344 21 = F40_ 344 21 from (by rw [q85_]; exact (fl_u_ne (by first | exact nc_ rfl | decide | omega)).trans ((fl_u_ne (by first | exact nc_ rfl | decide | omega)).trans ((fl_u_ne (by first | exact nc_ rfl | decide | omega)).trans ((fl_u_ne (by first | exact nc_ rfl | decide | omega))))))); omega)), (by omega), (⟨by omega, by omega⟩), (by omega)⟩)
/- CheapPlannerModel.fault -/
abbrev pq_65 (G : Nat → Nat → Option Nat) (F : fl_N) (X : xi_H)  : Outcome → xi_H → Prop := gqi (fun z A => ∃ F' : fl_N, fl_H sh_T G F' ++ X = A ∧ gi F' ∧ fs [(344, 344, 0, 0)] F F' ∧ (-2147483648 ≤ z ∧ z ≤ 2147483647) ∧ (z = F 344 8)) gqn
theorem mc_65 {G : Nat → Nat → Option Nat} (hG : gg G) (F : fl_N) (X : xi_H) (hgi : gi F)  : fl_M xi_ms 65 0 0 [.ref 344] (fl_H sh_T G F ++ X) (pq_65 G F X) := by
  intro fr lo hfr hlo
  show fl_R xi_ms 65 fr lo 0 [(0, .ref 344)] [] _ _
  refine ga_aload_n (v := .ref 344) hm_65 rfl rfl rfl ?_
  refine fl_iconst hm_65 rfl ?_
  refine ga_puti (z := 0) hm_65 rfl sc_344 rfl rfl ?_
  refine ga_aload_n (v := .ref 344) hm_65 rfl rfl rfl ?_
  have b1_ : 0 ≤ F 344 8 ∧ F 344 8 ≤ 100000 := gi_g hgi rfl
  refine ga_geti (z := F 344 8) hm_65 rfl sc_344 rfl (fl_u_ne (by first | exact nc_ rfl | decide | omega)) ?_
  obtain ⟨F2_, q3_⟩ : ∃ Fq_, Fq_ = (fl_u F 344 0 0) := ⟨_, rfl⟩
  rw [← q3_]
  have g4_ : gi F2_ := by rw [q3_]; exact gi_u (hgi) rfl (by omega) (by omega)
  have g5_ : fs [(344, 344, 0, 0)] F F2_ := by rw [q3_]; exact fs_u (fs_refl) rfl
  refine gr_i (z := F 344 8) hm_65 rfl rfl rfl ?_
  exact ⟨F2_, rfl, g4_, g5_, (⟨by omega, by omega⟩), (by omega)⟩

/- CheapPlannerModel.isSign -/
abbrev pq_52 (G : Nat → Nat → Option Nat) (F : fl_N) (X : xi_H) (K : fl_N) (c : Int) : Outcome → xi_H → Prop := gqi (fun z A => (fl_H sh_T G F ++ X = A ∧ (z = 0) ∧ (¬ (F 344 9 = 0 ∧ K 3 (F 344 5).toNat = c - 40))) ∨ (fl_H sh_T G F ++ X = A ∧ (z = 1) ∧ (F 344 9 = 0 ∧ K 3 (F 344 5).toNat = c - 40) ∧ (F 344 5 < K 1 6 - 1))) gqn
theorem mc_52 {G : Nat → Nat → Option Nat} (hG : gg G) (F : fl_N) (X : xi_H) (hgi : gi F) (K : fl_N) (c : Int) (hgK : gi K) (hrk : rk K F) (hkt : rkt K) (hp : 0 ≤ F 344 5 ∧ F 344 5 ≤ K 1 6 - 1) (hc : c = 40 ∨ c = 41) : fl_M xi_ms 52 1 20 [.ref 344, .int (Int32.ofInt c)] (fl_H sh_T G F ++ X) (pq_52 G F X K c) := by
  intro fr lo hfr hlo
  show fl_R xi_ms 52 fr lo 0 [(0, .ref 344), (1, .int (Int32.ofInt c))] [] _ _
  have hP := rkt_p hkt hp.1 hp.2 hgK
  have hK16 : 0 ≤ K 1 6 ∧ K 1 6 ≤ 601 := gi_g hgK rfl
  have hsg := sg_iff hkt hp.1 hp.2 hc
  refine ga_aload_n (v := .ref 344) hm_52 rfl rfl rfl ?_
  have b1_ : 0 ≤ F 344 9 ∧ F 344 9 ≤ 5 := gi_g hgi rfl
  refine ga_geti (z := F 344 9) hm_52 rfl sc_344 rfl (rfl) ?_
  refine fx_if_ne (a := F 344 9) hm_52 rfl ⟨by omega, by omega⟩ (fun h2_ => ?_) (fun h3_ => ?_)
  ·
    refine fl_iconst hm_52 rfl ?_
    refine gr_i (z := 0) hm_52 rfl rfl (ga_nb (by omega)) ?_
    have b4_ : 0 ≤ F 344 5 ∧ F 344 5 ≤ 600 := gi_g hgi rfl
    exact Or.inl ⟨rfl, rfl, (by omega)⟩
  refine ga_aload_n (v := .ref 344) hm_52 rfl rfl rfl ?_
  refine gIi (nY := 1) (F := 0) (L := 0) (As := []) (b := 344) (rest := []) hm_52 rfl hm_53 rfl rfl (fl_ob sc_344) rfl rfl rfl rfl rfl (by omega) (by omega) ?_
  intro f5_ l6_ h7_ h8_
  show fl_R xi_ms 53 f5_ l6_ 0 [(0, .ref 344)] [] _ _
  refine ga_aload_n (v := .ref 344) hm_53 rfl rfl rfl ?_
  refine ga_getr (b := 348) hm_53 rfl sc_344 rfl ?_
  refine ga_aload_n (v := .ref 344) hm_53 rfl rfl rfl ?_
  have b9_ : 0 ≤ F 344 5 ∧ F 344 5 ≤ 600 := gi_g hgi rfl
  refine ga_geti (z := F 344 5) hm_53 rfl sc_344 rfl (rfl) ?_
  have e10_ : F 348 (F 344 5).toNat = K 5 (F 344 5).toNat := (hrk.1 (F 344 5) (by omega) (by omega)).2
  have b11_ : 0 ≤ K 5 (F 344 5).toNat ∧ K 5 (F 344 5).toNat ≤ 600 := gi_g hgK rfl
  refine ga_iald (z := F 344 5) (w := K 5 (F 344 5).toNat) hm_53 rfl sc_348 (by omega) (by omega) (by omega) (e10_) ?_
  refine ga_aload_n (v := .ref 344) hm_53 rfl rfl rfl ?_
  refine ga_getr (b := 347) hm_53 rfl sc_344 rfl ?_
  refine ga_aload_n (v := .ref 344) hm_53 rfl rfl rfl ?_
  refine ga_geti (z := F 344 5) hm_53 rfl sc_344 rfl (rfl) ?_
  have e12_ : F 347 (F 344 5).toNat = K 4 (F 344 5).toNat := (hrk.1 (F 344 5) (by omega) (by omega)).1
  have b13_ : 0 ≤ K 4 (F 344 5).toNat ∧ K 4 (F 344 5).toNat ≤ 600 := gi_g hgK rfl
  refine ga_iald (z := F 344 5) (w := K 4 (F 344 5).toNat) hm_53 rfl sc_347 (by omega) (by omega) (by omega) (e12_) ?_
  refine ga_isub (a := K 5 (F 344 5).toNat) (b := K 4 (F 344 5).toNat) (c := K 5 (F 344 5).toNat - (K 4 (F 344 5).toNat)) hm_53 rfl (by omega) ?_
  refine gr_i hm_53 rfl rfl rfl ?_
  clear h7_ h8_ f5_ l6_
  refine fl_iconst hm_52 rfl ?_
  refine fx_icmp_ne (a := K 5 (F 344 5).toNat - (K 4 (F 344 5).toNat)) (b := 1) hm_52 rfl ⟨by omega, by omega⟩ ⟨by omega, by omega⟩ (fun h14_ => ?_) (fun h15_ => ?_)
  ·
    refine fl_iconst hm_52 rfl ?_
    refine gr_i (z := 0) hm_52 rfl rfl (ga_nb (by omega)) ?_
    exact Or.inl ⟨rfl, rfl, (by omega)⟩
  refine ga_aload_n (v := .ref 344) hm_52 rfl rfl rfl ?_
  refine ga_getr (b := 345) hm_52 rfl sc_344 rfl ?_
  refine ga_aload_n (v := .ref 344) hm_52 rfl rfl rfl ?_
  refine ga_getr (b := 347) hm_52 rfl sc_344 rfl ?_
  refine ga_aload_n (v := .ref 344) hm_52 rfl rfl rfl ?_
  refine ga_geti (z := F 344 5) hm_52 rfl sc_344 rfl (rfl) ?_
  refine ga_iald (z := F 344 5) (w := K 4 (F 344 5).toNat) hm_52 rfl sc_347 (by omega) (by omega) (by omega) (e12_) ?_
  have e16_ : F 345 (K 4 (F 344 5).toNat).toNat = K 2 (K 4 (F 344 5).toNat).toNat := hrk.2.2.1 (K 4 (F 344 5).toNat) (by omega) (by omega)
  have b17_ : 0 ≤ K 2 (K 4 (F 344 5).toNat).toNat ∧ K 2 (K 4 (F 344 5).toNat).toNat ≤ 126 := gi_g hgK rfl
  refine ga_iald (z := K 4 (F 344 5).toNat) (w := K 2 (K 4 (F 344 5).toNat).toNat) hm_52 rfl sc_345 (by omega) (by omega) (by omega) (e16_) ?_
  refine ga_iload_n (z := c) hm_52 rfl rfl ?_
  refine fx_icmp_ne (a := K 2 (K 4 (F 344 5).toNat).toNat) (b := c) hm_52 rfl ⟨by omega, by omega⟩ ⟨by omega, by omega⟩ (fun h18_ => ?_) (fun h19_ => ?_)
  ·
    refine fl_iconst hm_52 rfl ?_
    refine gr_i (z := 0) hm_52 rfl rfl (ga_nb (by omega)) ?_
    exact Or.inl ⟨rfl, rfl, (by omega)⟩
  refine fl_iconst hm_52 rfl ?_
  refine fl_goto hm_52 rfl ?_
  refine gr_i (z := 1) hm_52 rfl rfl (ga_nb (by omega)) ?_
  exact Or.inr (⟨rfl, rfl, (by omega), (by omega)⟩)
/- CheapPlannerModel.letterAt -/
abbrev pq_57 (G : Nat → Nat → Option Nat) (F : fl_N) (X : xi_H) (K : fl_N) (j : Int) : Outcome → xi_H → Prop := gqi (fun z A => fl_H sh_T G F ++ X = A ∧ (z = if j < K 5 (F 344 5).toNat then K 2 j.toNat else 0) ∧ (0 ≤ z ∧ z ≤ 126)) gqn
theorem mc_57 {G : Nat → Nat → Option Nat} (hG : gg G) (F : fl_N) (X : xi_H) (hgi : gi F) (K : fl_N) (j : Int) (hgK : gi K) (hrk : rk K F) (hkt : rkt K) (hp : 0 ≤ F 344 5 ∧ F 344 5 ≤ K 1 6 - 1) (hj : K 4 (F 344 5).toNat ≤ j ∧ j ≤ 700) : fl_M xi_ms 57 0 0 [.ref 344, .int (Int32.ofInt j)] (fl_H sh_T G F ++ X) (pq_57 G F X K j) := by
  intro fr lo hfr hlo
  show fl_R xi_ms 57 fr lo 0 [(0, .ref 344), (1, .int (Int32.ofInt j))] [] _ _
  have hP := rkt_p hkt hp.1 hp.2 hgK
  have hK16 : 0 ≤ K 1 6 ∧ K 1 6 ≤ 601 := gi_g hgK rfl
  refine ga_iload_n (z := j) hm_57 rfl rfl ?_
  refine ga_aload_n (v := .ref 344) hm_57 rfl rfl rfl ?_
  refine ga_getr (b := 348) hm_57 rfl sc_344 rfl ?_
  refine ga_aload_n (v := .ref 344) hm_57 rfl rfl rfl ?_
  have b1_ : 0 ≤ F 344 5 ∧ F 344 5 ≤ 600 := gi_g hgi rfl
  refine ga_geti (z := F 344 5) hm_57 rfl sc_344 rfl (rfl) ?_
  have e2_ : F 348 (F 344 5).toNat = K 5 (F 344 5).toNat := (hrk.1 (F 344 5) (by omega) (by omega)).2
  have b3_ : 0 ≤ K 5 (F 344 5).toNat ∧ K 5 (F 344 5).toNat ≤ 600 := gi_g hgK rfl
  refine ga_iald (z := F 344 5) (w := K 5 (F 344 5).toNat) hm_57 rfl sc_348 (by omega) (by omega) (by omega) (e2_) ?_
  refine fl_icmp_ge (a := j) (b := K 5 (F 344 5).toNat) hm_57 rfl ⟨by omega, by omega⟩ ⟨by omega, by omega⟩ (fun h4_ => ?_) (fun h5_ => ?_)
  ·
    refine fl_iconst hm_57 rfl ?_
    refine gr_i (z := 0) hm_57 rfl rfl rfl ?_
    exact ⟨rfl, (by first | rw [if_pos (by omega)] | rw [if_neg (by omega)]), (by omega)⟩
  refine ga_aload_n (v := .ref 344) hm_57 rfl rfl rfl ?_
  refine ga_getr (b := 345) hm_57 rfl sc_344 rfl ?_
  refine ga_iload_n (z := j) hm_57 rfl rfl ?_
  have e6_ : F 345 j.toNat = K 2 j.toNat := hrk.2.2.1 j (by omega) (by omega)
  have b7_ : 0 ≤ K 2 j.toNat ∧ K 2 j.toNat ≤ 126 := gi_g hgK rfl
  refine ga_iald (z := j) (w := K 2 j.toNat) hm_57 rfl sc_345 (by omega) (by omega) (by omega) (e6_) ?_
  refine fl_goto hm_57 rfl ?_
  refine gr_i (z := K 2 j.toNat) hm_57 rfl rfl rfl ?_
  exact ⟨rfl, (by first | rw [if_pos (by omega)] | rw [if_neg (by omega)]), (by omega)⟩

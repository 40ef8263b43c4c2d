/-! domain() ON FRESH OBJECTS -/
theorem xp_of {P : Option (Outcome × xi_H) → Prop} {a b : Option (Outcome × xi_H)} (h : a = b) (hk : P b) : xg_P P a := by
  rw [h]
  exact hk
theorem ef_loop {a k : Nat} : ∀ (d i : Nat) (A : xi_H) (f : Nat → Int32), d + i = 512 → A[a]? = some (.inl (0, 512, .inl f)) → ∃ (A2 : xi_H) (f2 : Nat → Int32), (∀ fr lo, xi_go xi_ms (d * 9 + 4 + k) 43 fr lo 5 ((2, .int (nI i)) :: (3, .int (nI 512)) :: lv_args 0 [.ref a, .int (Int32.ofInt 0)]) [] A = some (.returned none, A2)) ∧ A2[a]? = some (.inl (0, 512, .inl f2)) ∧ (∀ j : Nat, j ≠ a → A2[j]? = A[j]?) ∧ A2.length = A.length ∧ xi_ns A2 = xi_ns A := by
  intro d
  induction d with
  | zero =>
    intro i A f hd hA
    refine ⟨A, f, fun fr lo => ?_, hA, fun _ _ => rfl, rfl, rfl⟩
    rw [show 0 * 9 + 4 + k = k + 4 by omega]
    refine xg_s rfl rfl rfl rfl rfl ?_
    refine xg_s rfl rfl rfl rfl rfl ?_
    refine xg_s (pc2 := 20) rfl rfl rfl rfl (if_pos (nI_le (by omega) (by omega))) ?_
    exact xg_e rfl rfl rfl
  | succ d ih =>
    intro i A f hd hA
    have hlt : i < 512 := by omega
    obtain ⟨A2, f2, h1, h2, h3, h4, h5⟩ := ih (i + 1) (A.set a (.inl (0, 512, .inl (upd f (nI i).toNatClampNeg (Int32.ofInt 0))))) _ (by omega) (List.getElem?_set_self (List.getElem?_eq_some_iff.mp hA).1)
    refine ⟨A2, f2, fun fr lo => ?_, h2, fun j hj => (h3 j hj).trans (List.getElem?_set_ne (Ne.symm hj)), by rw [h4, List.length_set], by rw [h5]; exact xi_ns_set hA rfl⟩
    rw [show (d + 1) * 9 + 4 + k = d * 9 + 4 + k + 9 by omega]
    refine xg_s rfl rfl rfl rfl rfl ?_
    refine xg_s rfl rfl rfl rfl rfl ?_
    refine xg_s (pc2 := 10) rfl rfl rfl rfl (if_neg (nI_ge hlt (by omega))) ?_
    refine xg_s rfl rfl rfl rfl rfl ?_
    refine xg_s rfl rfl rfl rfl rfl ?_
    refine xg_s rfl rfl rfl rfl rfl ?_
    refine xg_s (pc' := 14) (st' := []) (lv' := (2, .int (nI i)) :: (3, .int (nI 512)) :: lv_args 0 [.ref a, .int (Int32.ofInt 0)]) (A' := A.set a (.inl (0, 512, .inl (upd f (nI i).toNatClampNeg (Int32.ofInt 0))))) rfl rfl rfl ?_ rfl ?_
    · show xi_s 4 .iastore 14 [] _ [.int (Int32.ofInt 0), .int (nI i), .ref a] A = _
      simp only [xi_s, hA]
      rw [if_neg (nI_in hlt (by omega))]
    refine xg_s rfl rfl rfl rfl rfl ?_
    refine xg_s rfl rfl rfl rfl rfl ?_
    rw [nI_succ] at h1
    exact h1 fr lo
theorem ef_fill {A : xi_H} {a k : Nat} {f : Nat → Int32} (hA : A[a]? = some (.inl (0, 512, .inl f))) : ∃ (A2 : xi_H) (f2 : Nat → Int32), (∀ fr lo, xi_go xi_ms (k + 4700) 43 fr lo 0 (lv_args 0 [.ref a, .int (Int32.ofInt 0)]) [] A = some (.returned none, A2)) ∧ A2[a]? = some (.inl (0, 512, .inl f2)) ∧ (∀ j : Nat, j ≠ a → A2[j]? = A[j]?) ∧ A2.length = A.length ∧ xi_ns A2 = xi_ns A := by
  obtain ⟨A2, f2, h1, h2, h3, h4, h5⟩ := ef_loop (a := a) (k := k + 78) 511 1 (A.set a (.inl (0, 512, .inl (upd f (nI 0).toNatClampNeg (Int32.ofInt 0))))) _ rfl (List.getElem?_set_self (List.getElem?_eq_some_iff.mp hA).1)
  refine ⟨A2, f2, fun fr lo => ?_, h2, fun j hj => (h3 j hj).trans (List.getElem?_set_ne (Ne.symm hj)), by rw [h4, List.length_set], by rw [h5]; exact xi_ns_set hA rfl⟩
  rw [show k + 4700 = 511 * 9 + 4 + (k + 78) + 14 + 5 by omega]
  refine xg_s rfl rfl rfl rfl rfl ?_
  refine xg_s rfl rfl rfl rfl rfl ?_
  refine xg_s rfl rfl rfl rfl rfl ?_
  refine xg_s (pc' := 4) (st' := [.int (nI 512)]) (lv' := (2, .int (nI 0)) :: lv_args 0 [.ref a, .int (Int32.ofInt 0)]) (A' := A) rfl rfl rfl ?_ rfl ?_
  · show xi_s 4 .arraylength 4 [] _ [.ref a] A = _
    simp only [xi_s, hA]
    rfl
  refine xg_s rfl rfl rfl rfl rfl ?_
  refine xi_fuel (n := 511 * 9 + 4 + (k + 78) + 9) (k := 5) ?_
  refine xg_s rfl rfl rfl rfl rfl ?_
  refine xg_s rfl rfl rfl rfl rfl ?_
  refine xg_s (pc2 := 10) rfl rfl rfl rfl (if_neg (nI_ge (a := 0) (b := 512) (by omega) (by omega))) ?_
  refine xg_s rfl rfl rfl rfl rfl ?_
  refine xg_s rfl rfl rfl rfl rfl ?_
  refine xg_s rfl rfl rfl rfl rfl ?_
  refine xg_s (pc' := 14) (st' := []) (lv' := (3, .int (nI 512)) :: (2, .int (nI 0)) :: lv_args 0 [.ref a, .int (Int32.ofInt 0)]) (A' := A.set a (.inl (0, 512, .inl (upd f (nI 0).toNatClampNeg (Int32.ofInt 0))))) rfl rfl rfl ?_ rfl ?_
  · show xi_s 4 .iastore 14 [] _ [.int (Int32.ofInt 0), .int (nI 0), .ref a] A = _
    simp only [xi_s, hA]
    rw [if_neg (nI_in (c := 0) (N := 512) (by omega) (by omega))]
    rfl
  refine xg_s rfl rfl rfl rfl rfl ?_
  refine xg_s rfl rfl rfl rfl rfl ?_
  rw [show nI 1 = nI 0 + 1 from nI_succ 0] at h1
  exact h1 fr lo
set_option maxRecDepth 10000 in
set_option maxHeartbeats 4000000 in
theorem er_domain {A : xi_H} (h0 : A[0]? = some (.inr (0, e_l0))) (h1 : A[1]? = some (.inr (1, e_l1))) (hS : A[331]? = some (.inr (11, e_lS))) (hR : A[118]? = some (.inr (6, [.ref 1, .ref 7, .ref 104, .ref 119]))) (hD : A[7]? = some (.inr (2, [.long 0, .ref 8, .ref 11, .ref 14, .ref 15, .ref 18, .ref 19, .ref 20]))) (hn8 : A[8]? = some (.inr (3, [.ref 9, .ref 10, .int 0]))) (hn11 : A[11]? = some (.inr (3, [.ref 12, .ref 13, .int 0]))) (hn15 : A[15]? = some (.inr (3, [.ref 16, .ref 17, .int 0]))) (hm : A[344]? = some (.inr (13, e_lM))) {g3 : Nat → Int32} (ha3 : A[3]? = some (.inl (0, 601, .inl g3))) {g4 : Nat → Int32} (ha4 : A[4]? = some (.inl (0, 601, .inl g4))) {g5 : Nat → Int32} (ha5 : A[5]? = some (.inl (0, 601, .inl g5))) {g6 : Nat → Int64} (ha6 : A[6]? = some (.inl (1, 601, .inr (.inl g6)))) {g335 : Nat → Int32} (ha335 : A[335]? = some (.inl (0, 201, .inl g335))) {g338 : Nat → Int32} (ha338 : A[338]? = some (.inl (0, 512, .inl g338))) {g347 : Nat → Int32} (ha347 : A[347]? = some (.inl (0, 602, .inl g347))) {g348 : Nat → Int32} (ha348 : A[348]? = some (.inl (0, 602, .inl g348))) : ∃ (A2 : xi_H) (g1 g2 : Nat → Int32), xi_go xi_ms 6000 75 15 560 0 (lv_args 0 [.ref 0, .ref 386]) [] A = some (.returned (some (.int 1)), A2) ∧ A2[344]? = some (.inr (13, e_lM)) ∧ A2[347]? = some (.inl (0, 602, .inl g1)) ∧ A2[348]? = some (.inl (0, 602, .inl g2)) ∧ A2.length ≤ A.length + 1 ∧ xi_ns A2 ≤ xi_ns A + 6 := by
  show xg_P (fun r => ∃ (A2 : xi_H) (g1 g2 : Nat → Int32), r = some (.returned (some (.int 1)), A2) ∧ A2[344]? = some (.inr (13, e_lM)) ∧ A2[347]? = some (.inl (0, 602, .inl g1)) ∧ A2[348]? = some (.inl (0, 602, .inl g2)) ∧ A2.length ≤ A.length + 1 ∧ xi_ns A2 ≤ xi_ns A + 6) _
  refine xp_s rfl rfl rfl rfl rfl ?_
  refine xp_s rfl rfl rfl rfl rfl ?_
  refine xp_s rfl rfl rfl rfl rfl ?_
  refine xp_VC (As := []) (rest := [_, _]) rfl rfl rfl rfl rfl h0 ⟨⟨by decide, Nat.le_of_ble_eq_true rfl, by decide⟩, by decide, Nat.le_of_ble_eq_true rfl, rfl⟩ rfl (by decide) ?_
  refine xp_s rfl rfl rfl rfl rfl ?_
  refine xp_s rfl rfl rfl rfl rfl ?_
  refine xp_put rfl rfl h0 (by first | decide | exact Nat.le_of_ble_eq_true rfl) (by first | rfl | decide) (by first | rfl | decide) (fun B1 hq1 hs1 hL1 hN1 => ?_)
  have hz1_1 := (hs1 1 (by decide)).trans h1
  have hz1_331 := (hs1 331 (by decide)).trans hS
  have hz1_118 := (hs1 118 (by decide)).trans hR
  have hz1_7 := (hs1 7 (by decide)).trans hD
  have hz1_8 := (hs1 8 (by decide)).trans hn8
  have hz1_11 := (hs1 11 (by decide)).trans hn11
  have hz1_15 := (hs1 15 (by decide)).trans hn15
  have hz1_344 := (hs1 344 (by decide)).trans hm
  have hz1_3 := (hs1 3 (by decide)).trans ha3
  have hz1_4 := (hs1 4 (by decide)).trans ha4
  have hz1_5 := (hs1 5 (by decide)).trans ha5
  have hz1_6 := (hs1 6 (by decide)).trans ha6
  have hz1_335 := (hs1 335 (by decide)).trans ha335
  have hz1_338 := (hs1 338 (by decide)).trans ha338
  have hz1_347 := (hs1 347 (by decide)).trans ha347
  have hz1_348 := (hs1 348 (by decide)).trans ha348
  refine xp_s rfl rfl rfl rfl rfl ?_
  refine xp_V (As := []) (rest := []) rfl rfl rfl rfl rfl hq1 ⟨⟨by decide, Nat.le_of_ble_eq_true rfl, by decide⟩, by decide, Nat.le_of_ble_eq_true rfl, rfl⟩ ?_
  refine xp_s rfl rfl rfl rfl rfl ?_
  refine xp_s rfl rfl rfl rfl rfl ?_
  refine xp_put rfl rfl hq1 (by first | decide | exact Nat.le_of_ble_eq_true rfl) (by first | rfl | decide) (by first | rfl | decide) (fun B2 hq2 hs2 hL2 hN2 => ?_)
  have hz2_1 := (hs2 1 (by decide)).trans hz1_1
  have hz2_331 := (hs2 331 (by decide)).trans hz1_331
  have hz2_118 := (hs2 118 (by decide)).trans hz1_118
  have hz2_7 := (hs2 7 (by decide)).trans hz1_7
  have hz2_8 := (hs2 8 (by decide)).trans hz1_8
  have hz2_11 := (hs2 11 (by decide)).trans hz1_11
  have hz2_15 := (hs2 15 (by decide)).trans hz1_15
  have hz2_344 := (hs2 344 (by decide)).trans hz1_344
  have hz2_3 := (hs2 3 (by decide)).trans hz1_3
  have hz2_4 := (hs2 4 (by decide)).trans hz1_4
  have hz2_5 := (hs2 5 (by decide)).trans hz1_5
  have hz2_6 := (hs2 6 (by decide)).trans hz1_6
  have hz2_335 := (hs2 335 (by decide)).trans hz1_335
  have hz2_338 := (hs2 338 (by decide)).trans hz1_338
  have hz2_347 := (hs2 347 (by decide)).trans hz1_347
  have hz2_348 := (hs2 348 (by decide)).trans hz1_348
  refine xp_s rfl rfl rfl rfl rfl ?_
  refine xp_get rfl rfl hq2 rfl ?_
  refine xp_V (As := []) (rest := []) rfl rfl rfl rfl rfl hz2_331 ⟨⟨by decide, Nat.le_of_ble_eq_true rfl, by decide⟩, by decide, Nat.le_of_ble_eq_true rfl, rfl⟩ ?_
  refine xp_s rfl rfl rfl rfl rfl ?_
  refine xp_s rfl rfl rfl rfl rfl ?_
  refine xp_put rfl rfl hz2_331 (by first | decide | exact Nat.le_of_ble_eq_true rfl) (by first | rfl | decide) (by first | rfl | decide) (fun B3 hq3 hs3 hL3 hN3 => ?_)
  have hz3_0 := (hs3 0 (by decide)).trans hq2
  have hz3_1 := (hs3 1 (by decide)).trans hz2_1
  have hz3_118 := (hs3 118 (by decide)).trans hz2_118
  have hz3_7 := (hs3 7 (by decide)).trans hz2_7
  have hz3_8 := (hs3 8 (by decide)).trans hz2_8
  have hz3_11 := (hs3 11 (by decide)).trans hz2_11
  have hz3_15 := (hs3 15 (by decide)).trans hz2_15
  have hz3_344 := (hs3 344 (by decide)).trans hz2_344
  have hz3_3 := (hs3 3 (by decide)).trans hz2_3
  have hz3_4 := (hs3 4 (by decide)).trans hz2_4
  have hz3_5 := (hs3 5 (by decide)).trans hz2_5
  have hz3_6 := (hs3 6 (by decide)).trans hz2_6
  have hz3_335 := (hs3 335 (by decide)).trans hz2_335
  have hz3_338 := (hs3 338 (by decide)).trans hz2_338
  have hz3_347 := (hs3 347 (by decide)).trans hz2_347
  have hz3_348 := (hs3 348 (by decide)).trans hz2_348
  refine xp_s rfl rfl rfl rfl rfl ?_
  refine xp_s rfl rfl rfl rfl rfl ?_
  refine xp_put rfl rfl hq3 (by first | decide | exact Nat.le_of_ble_eq_true rfl) (by first | rfl | decide) (by first | rfl | decide) (fun B4 hq4 hs4 hL4 hN4 => ?_)
  have hz4_0 := (hs4 0 (by decide)).trans hz3_0
  have hz4_1 := (hs4 1 (by decide)).trans hz3_1
  have hz4_118 := (hs4 118 (by decide)).trans hz3_118
  have hz4_7 := (hs4 7 (by decide)).trans hz3_7
  have hz4_8 := (hs4 8 (by decide)).trans hz3_8
  have hz4_11 := (hs4 11 (by decide)).trans hz3_11
  have hz4_15 := (hs4 15 (by decide)).trans hz3_15
  have hz4_344 := (hs4 344 (by decide)).trans hz3_344
  have hz4_3 := (hs4 3 (by decide)).trans hz3_3
  have hz4_4 := (hs4 4 (by decide)).trans hz3_4
  have hz4_5 := (hs4 5 (by decide)).trans hz3_5
  have hz4_6 := (hs4 6 (by decide)).trans hz3_6
  have hz4_335 := (hs4 335 (by decide)).trans hz3_335
  have hz4_338 := (hs4 338 (by decide)).trans hz3_338
  have hz4_347 := (hs4 347 (by decide)).trans hz3_347
  have hz4_348 := (hs4 348 (by decide)).trans hz3_348
  refine xp_s rfl rfl rfl rfl rfl ?_
  refine xp_s rfl rfl rfl rfl rfl ?_
  refine xp_put rfl rfl hq4 (by first | decide | exact Nat.le_of_ble_eq_true rfl) (by first | rfl | decide) (by first | rfl | decide) (fun B5 hq5 hs5 hL5 hN5 => ?_)
  have hz5_0 := (hs5 0 (by decide)).trans hz4_0
  have hz5_1 := (hs5 1 (by decide)).trans hz4_1
  have hz5_118 := (hs5 118 (by decide)).trans hz4_118
  have hz5_7 := (hs5 7 (by decide)).trans hz4_7
  have hz5_8 := (hs5 8 (by decide)).trans hz4_8
  have hz5_11 := (hs5 11 (by decide)).trans hz4_11
  have hz5_15 := (hs5 15 (by decide)).trans hz4_15
  have hz5_344 := (hs5 344 (by decide)).trans hz4_344
  have hz5_3 := (hs5 3 (by decide)).trans hz4_3
  have hz5_4 := (hs5 4 (by decide)).trans hz4_4
  have hz5_5 := (hs5 5 (by decide)).trans hz4_5
  have hz5_6 := (hs5 6 (by decide)).trans hz4_6
  have hz5_335 := (hs5 335 (by decide)).trans hz4_335
  have hz5_338 := (hs5 338 (by decide)).trans hz4_338
  have hz5_347 := (hs5 347 (by decide)).trans hz4_347
  have hz5_348 := (hs5 348 (by decide)).trans hz4_348
  refine xp_s rfl rfl rfl rfl rfl ?_
  refine xp_get rfl rfl hq5 rfl ?_
  refine xp_s rfl rfl rfl rfl rfl ?_
  refine xp_s rfl rfl rfl rfl rfl ?_
  refine xp_iast rfl rfl hz5_335 (by decide) (fun B6 hq6 hs6 hL6 hN6 => ?_)
  have hz6_0 := (hs6 0 (by decide)).trans hz5_0
  have hz6_1 := (hs6 1 (by decide)).trans hz5_1
  have hz6_331 := (hs6 331 (by decide)).trans hq5
  have hz6_118 := (hs6 118 (by decide)).trans hz5_118
  have hz6_7 := (hs6 7 (by decide)).trans hz5_7
  have hz6_8 := (hs6 8 (by decide)).trans hz5_8
  have hz6_11 := (hs6 11 (by decide)).trans hz5_11
  have hz6_15 := (hs6 15 (by decide)).trans hz5_15
  have hz6_344 := (hs6 344 (by decide)).trans hz5_344
  have hz6_3 := (hs6 3 (by decide)).trans hz5_3
  have hz6_4 := (hs6 4 (by decide)).trans hz5_4
  have hz6_5 := (hs6 5 (by decide)).trans hz5_5
  have hz6_6 := (hs6 6 (by decide)).trans hz5_6
  have hz6_338 := (hs6 338 (by decide)).trans hz5_338
  have hz6_347 := (hs6 347 (by decide)).trans hz5_347
  have hz6_348 := (hs6 348 (by decide)).trans hz5_348
  refine xp_s rfl rfl rfl rfl rfl ?_
  refine xp_get rfl rfl hz6_331 rfl ?_
  refine xp_s rfl rfl rfl rfl rfl ?_
  refine xp_S (As := [_, _]) (rest := []) rfl rfl rfl rfl rfl (xi_pos hz6_0) ⟨⟨Nat.le_of_ble_eq_true rfl, by decide⟩, by decide, Nat.le_of_ble_eq_true rfl, rfl⟩ ?_
  obtain ⟨B7, ff7, hrf7, hq7, hs7, hL7, hN7⟩ := ef_fill (k := 1267) hz6_338
  refine xp_of (hrf7 _ _) ⟨_, _, rfl, ?_⟩
  have hz7_0 := (hs7 0 (by decide)).trans hz6_0
  have hz7_1 := (hs7 1 (by decide)).trans hz6_1
  have hz7_331 := (hs7 331 (by decide)).trans hz6_331
  have hz7_118 := (hs7 118 (by decide)).trans hz6_118
  have hz7_7 := (hs7 7 (by decide)).trans hz6_7
  have hz7_8 := (hs7 8 (by decide)).trans hz6_8
  have hz7_11 := (hs7 11 (by decide)).trans hz6_11
  have hz7_15 := (hs7 15 (by decide)).trans hz6_15
  have hz7_344 := (hs7 344 (by decide)).trans hz6_344
  have hz7_3 := (hs7 3 (by decide)).trans hz6_3
  have hz7_4 := (hs7 4 (by decide)).trans hz6_4
  have hz7_5 := (hs7 5 (by decide)).trans hz6_5
  have hz7_6 := (hs7 6 (by decide)).trans hz6_6
  have hz7_335 := (hs7 335 (by decide)).trans hq6
  have hz7_347 := (hs7 347 (by decide)).trans hz6_347
  have hz7_348 := (hs7 348 (by decide)).trans hz6_348
  refine xp_e rfl rfl rfl ⟨_, _, rfl, ?_⟩
  refine xp_s rfl rfl rfl rfl rfl ?_
  refine xp_s rfl rfl rfl rfl rfl ?_
  refine xp_put rfl rfl hz7_0 (by first | decide | exact Nat.le_of_ble_eq_true rfl) (by first | rfl | decide) (by first | rfl | decide) (fun B8 hq8 hs8 hL8 hN8 => ?_)
  have hz8_1 := (hs8 1 (by decide)).trans hz7_1
  have hz8_331 := (hs8 331 (by decide)).trans hz7_331
  have hz8_118 := (hs8 118 (by decide)).trans hz7_118
  have hz8_7 := (hs8 7 (by decide)).trans hz7_7
  have hz8_8 := (hs8 8 (by decide)).trans hz7_8
  have hz8_11 := (hs8 11 (by decide)).trans hz7_11
  have hz8_15 := (hs8 15 (by decide)).trans hz7_15
  have hz8_344 := (hs8 344 (by decide)).trans hz7_344
  have hz8_3 := (hs8 3 (by decide)).trans hz7_3
  have hz8_4 := (hs8 4 (by decide)).trans hz7_4
  have hz8_5 := (hs8 5 (by decide)).trans hz7_5
  have hz8_6 := (hs8 6 (by decide)).trans hz7_6
  have hz8_335 := (hs8 335 (by decide)).trans hz7_335
  have hz8_338 := (hs8 338 (by decide)).trans hq7
  have hz8_347 := (hs8 347 (by decide)).trans hz7_347
  have hz8_348 := (hs8 348 (by decide)).trans hz7_348
  refine xp_s rfl rfl rfl rfl rfl ?_
  refine xp_s rfl rfl rfl rfl rfl ?_
  refine xp_put rfl rfl hq8 (by first | decide | exact Nat.le_of_ble_eq_true rfl) (by first | rfl | decide) (by first | rfl | decide) (fun B9 hq9 hs9 hL9 hN9 => ?_)
  have hz9_1 := (hs9 1 (by decide)).trans hz8_1
  have hz9_331 := (hs9 331 (by decide)).trans hz8_331
  have hz9_118 := (hs9 118 (by decide)).trans hz8_118
  have hz9_7 := (hs9 7 (by decide)).trans hz8_7
  have hz9_8 := (hs9 8 (by decide)).trans hz8_8
  have hz9_11 := (hs9 11 (by decide)).trans hz8_11
  have hz9_15 := (hs9 15 (by decide)).trans hz8_15
  have hz9_344 := (hs9 344 (by decide)).trans hz8_344
  have hz9_3 := (hs9 3 (by decide)).trans hz8_3
  have hz9_4 := (hs9 4 (by decide)).trans hz8_4
  have hz9_5 := (hs9 5 (by decide)).trans hz8_5
  have hz9_6 := (hs9 6 (by decide)).trans hz8_6
  have hz9_335 := (hs9 335 (by decide)).trans hz8_335
  have hz9_338 := (hs9 338 (by decide)).trans hz8_338
  have hz9_347 := (hs9 347 (by decide)).trans hz8_347
  have hz9_348 := (hs9 348 (by decide)).trans hz8_348
  refine xp_e rfl rfl rfl ⟨_, _, rfl, ?_⟩
  refine xp_s rfl rfl rfl rfl rfl ?_
  refine xp_get rfl rfl hq9 rfl ?_
  refine xp_VT (As := []) (rest := []) rfl rfl rfl rfl rfl hz9_118 ⟨⟨by decide, Nat.le_of_ble_eq_true rfl, by decide⟩, by decide, Nat.le_of_ble_eq_true rfl, rfl⟩ rfl ?_
  refine xp_s rfl rfl rfl rfl rfl ?_
  refine xp_get rfl rfl hz9_118 rfl ?_
  refine xp_V (As := []) (rest := []) rfl rfl rfl rfl rfl hz9_1 ⟨⟨by decide, Nat.le_of_ble_eq_true rfl, by decide⟩, by decide, Nat.le_of_ble_eq_true rfl, rfl⟩ ?_
  refine xp_s rfl rfl rfl rfl rfl ?_
  refine xp_s rfl rfl rfl rfl rfl ?_
  refine xp_put rfl rfl hz9_1 (by first | decide | exact Nat.le_of_ble_eq_true rfl) (by first | rfl | decide) (by first | rfl | decide) (fun B10 hq10 hs10 hL10 hN10 => ?_)
  have hz10_0 := (hs10 0 (by decide)).trans hq9
  have hz10_331 := (hs10 331 (by decide)).trans hz9_331
  have hz10_118 := (hs10 118 (by decide)).trans hz9_118
  have hz10_7 := (hs10 7 (by decide)).trans hz9_7
  have hz10_8 := (hs10 8 (by decide)).trans hz9_8
  have hz10_11 := (hs10 11 (by decide)).trans hz9_11
  have hz10_15 := (hs10 15 (by decide)).trans hz9_15
  have hz10_344 := (hs10 344 (by decide)).trans hz9_344
  have hz10_3 := (hs10 3 (by decide)).trans hz9_3
  have hz10_4 := (hs10 4 (by decide)).trans hz9_4
  have hz10_5 := (hs10 5 (by decide)).trans hz9_5
  have hz10_6 := (hs10 6 (by decide)).trans hz9_6
  have hz10_335 := (hs10 335 (by decide)).trans hz9_335
  have hz10_338 := (hs10 338 (by decide)).trans hz9_338
  have hz10_347 := (hs10 347 (by decide)).trans hz9_347
  have hz10_348 := (hs10 348 (by decide)).trans hz9_348
  refine xp_s rfl rfl rfl rfl rfl ?_
  refine xp_s rfl rfl rfl rfl rfl ?_
  refine xp_put rfl rfl hq10 (by first | decide | exact Nat.le_of_ble_eq_true rfl) (by first | rfl | decide) (by first | rfl | decide) (fun B11 hq11 hs11 hL11 hN11 => ?_)
  have hz11_0 := (hs11 0 (by decide)).trans hz10_0
  have hz11_331 := (hs11 331 (by decide)).trans hz10_331
  have hz11_118 := (hs11 118 (by decide)).trans hz10_118
  have hz11_7 := (hs11 7 (by decide)).trans hz10_7
  have hz11_8 := (hs11 8 (by decide)).trans hz10_8
  have hz11_11 := (hs11 11 (by decide)).trans hz10_11
  have hz11_15 := (hs11 15 (by decide)).trans hz10_15
  have hz11_344 := (hs11 344 (by decide)).trans hz10_344
  have hz11_3 := (hs11 3 (by decide)).trans hz10_3
  have hz11_4 := (hs11 4 (by decide)).trans hz10_4
  have hz11_5 := (hs11 5 (by decide)).trans hz10_5
  have hz11_6 := (hs11 6 (by decide)).trans hz10_6
  have hz11_335 := (hs11 335 (by decide)).trans hz10_335
  have hz11_338 := (hs11 338 (by decide)).trans hz10_338
  have hz11_347 := (hs11 347 (by decide)).trans hz10_347
  have hz11_348 := (hs11 348 (by decide)).trans hz10_348
  refine xp_s rfl rfl rfl rfl rfl ?_
  refine xp_s rfl rfl rfl rfl rfl ?_
  refine xp_put rfl rfl hq11 (by first | decide | exact Nat.le_of_ble_eq_true rfl) (by first | rfl | decide) (by first | rfl | decide) (fun B12 hq12 hs12 hL12 hN12 => ?_)
  have hz12_0 := (hs12 0 (by decide)).trans hz11_0
  have hz12_331 := (hs12 331 (by decide)).trans hz11_331
  have hz12_118 := (hs12 118 (by decide)).trans hz11_118
  have hz12_7 := (hs12 7 (by decide)).trans hz11_7
  have hz12_8 := (hs12 8 (by decide)).trans hz11_8
  have hz12_11 := (hs12 11 (by decide)).trans hz11_11
  have hz12_15 := (hs12 15 (by decide)).trans hz11_15
  have hz12_344 := (hs12 344 (by decide)).trans hz11_344
  have hz12_3 := (hs12 3 (by decide)).trans hz11_3
  have hz12_4 := (hs12 4 (by decide)).trans hz11_4
  have hz12_5 := (hs12 5 (by decide)).trans hz11_5
  have hz12_6 := (hs12 6 (by decide)).trans hz11_6
  have hz12_335 := (hs12 335 (by decide)).trans hz11_335
  have hz12_338 := (hs12 338 (by decide)).trans hz11_338
  have hz12_347 := (hs12 347 (by decide)).trans hz11_347
  have hz12_348 := (hs12 348 (by decide)).trans hz11_348
  refine xp_s rfl rfl rfl rfl rfl ?_
  refine xp_s rfl rfl rfl rfl rfl ?_
  refine xp_s rfl rfl rfl rfl rfl ?_
  refine xp_s rfl rfl rfl rfl rfl ?_
  refine xp_s rfl rfl rfl rfl rfl ?_
  refine xp_s rfl rfl rfl rfl rfl ?_
  refine xp_get rfl rfl hq12 rfl ?_
  refine xp_s (pc2 := 125) rfl rfl rfl rfl (if_pos (by decide)) ?_
  refine xp_s rfl rfl rfl rfl rfl ?_
  refine xp_s (pc2 := 138) rfl rfl rfl rfl (if_pos (by decide)) ?_
  refine xp_s rfl rfl rfl rfl rfl ?_
  refine xp_s rfl rfl rfl rfl rfl ?_
  refine xp_s rfl rfl rfl rfl rfl ?_
  refine xp_get rfl rfl hq12 rfl ?_
  refine xp_s rfl rfl rfl rfl rfl ?_
  refine xp_get rfl rfl hq12 rfl ?_
  refine xp_s rfl rfl rfl rfl rfl ?_
  refine xp_V (As := [_, _, _, _]) (rest := []) rfl rfl rfl rfl rfl hq12 ⟨⟨by decide, Nat.le_of_ble_eq_true rfl, by decide⟩, by decide, Nat.le_of_ble_eq_true rfl, rfl⟩ ?_
  refine xp_s rfl rfl rfl rfl rfl ?_
  refine xp_get rfl rfl hq12 rfl ?_
  refine xp_s rfl rfl rfl rfl rfl ?_
  refine xp_get rfl rfl hq12 rfl ?_
  refine xp_s rfl rfl rfl rfl rfl ?_
  refine xp_iast rfl rfl hz12_3 (by decide) (fun B13 hq13 hs13 hL13 hN13 => ?_)
  have hz13_0 := (hs13 0 (by decide)).trans hz12_0
  have hz13_1 := (hs13 1 (by decide)).trans hq12
  have hz13_331 := (hs13 331 (by decide)).trans hz12_331
  have hz13_118 := (hs13 118 (by decide)).trans hz12_118
  have hz13_7 := (hs13 7 (by decide)).trans hz12_7
  have hz13_8 := (hs13 8 (by decide)).trans hz12_8
  have hz13_11 := (hs13 11 (by decide)).trans hz12_11
  have hz13_15 := (hs13 15 (by decide)).trans hz12_15
  have hz13_344 := (hs13 344 (by decide)).trans hz12_344
  have hz13_4 := (hs13 4 (by decide)).trans hz12_4
  have hz13_5 := (hs13 5 (by decide)).trans hz12_5
  have hz13_6 := (hs13 6 (by decide)).trans hz12_6
  have hz13_335 := (hs13 335 (by decide)).trans hz12_335
  have hz13_338 := (hs13 338 (by decide)).trans hz12_338
  have hz13_347 := (hs13 347 (by decide)).trans hz12_347
  have hz13_348 := (hs13 348 (by decide)).trans hz12_348
  refine xp_s rfl rfl rfl rfl rfl ?_
  refine xp_get rfl rfl hz13_1 rfl ?_
  refine xp_s rfl rfl rfl rfl rfl ?_
  refine xp_get rfl rfl hz13_1 rfl ?_
  refine xp_s rfl rfl rfl rfl rfl ?_
  refine xp_iast rfl rfl hz13_4 (by decide) (fun B14 hq14 hs14 hL14 hN14 => ?_)
  have hz14_0 := (hs14 0 (by decide)).trans hz13_0
  have hz14_1 := (hs14 1 (by decide)).trans hz13_1
  have hz14_331 := (hs14 331 (by decide)).trans hz13_331
  have hz14_118 := (hs14 118 (by decide)).trans hz13_118
  have hz14_7 := (hs14 7 (by decide)).trans hz13_7
  have hz14_8 := (hs14 8 (by decide)).trans hz13_8
  have hz14_11 := (hs14 11 (by decide)).trans hz13_11
  have hz14_15 := (hs14 15 (by decide)).trans hz13_15
  have hz14_344 := (hs14 344 (by decide)).trans hz13_344
  have hz14_3 := (hs14 3 (by decide)).trans hq13
  have hz14_5 := (hs14 5 (by decide)).trans hz13_5
  have hz14_6 := (hs14 6 (by decide)).trans hz13_6
  have hz14_335 := (hs14 335 (by decide)).trans hz13_335
  have hz14_338 := (hs14 338 (by decide)).trans hz13_338
  have hz14_347 := (hs14 347 (by decide)).trans hz13_347
  have hz14_348 := (hs14 348 (by decide)).trans hz13_348
  refine xp_s rfl rfl rfl rfl rfl ?_
  refine xp_get rfl rfl hz14_1 rfl ?_
  refine xp_s rfl rfl rfl rfl rfl ?_
  refine xp_get rfl rfl hz14_1 rfl ?_
  refine xp_s rfl rfl rfl rfl rfl ?_
  refine xp_iast rfl rfl hz14_5 (by decide) (fun B15 hq15 hs15 hL15 hN15 => ?_)
  have hz15_0 := (hs15 0 (by decide)).trans hz14_0
  have hz15_1 := (hs15 1 (by decide)).trans hz14_1
  have hz15_331 := (hs15 331 (by decide)).trans hz14_331
  have hz15_118 := (hs15 118 (by decide)).trans hz14_118
  have hz15_7 := (hs15 7 (by decide)).trans hz14_7
  have hz15_8 := (hs15 8 (by decide)).trans hz14_8
  have hz15_11 := (hs15 11 (by decide)).trans hz14_11
  have hz15_15 := (hs15 15 (by decide)).trans hz14_15
  have hz15_344 := (hs15 344 (by decide)).trans hz14_344
  have hz15_3 := (hs15 3 (by decide)).trans hz14_3
  have hz15_4 := (hs15 4 (by decide)).trans hq14
  have hz15_6 := (hs15 6 (by decide)).trans hz14_6
  have hz15_335 := (hs15 335 (by decide)).trans hz14_335
  have hz15_338 := (hs15 338 (by decide)).trans hz14_338
  have hz15_347 := (hs15 347 (by decide)).trans hz14_347
  have hz15_348 := (hs15 348 (by decide)).trans hz14_348
  refine xp_s rfl rfl rfl rfl rfl ?_
  refine xp_get rfl rfl hz15_1 rfl ?_
  refine xp_s rfl rfl rfl rfl rfl ?_
  refine xp_get rfl rfl hz15_1 rfl ?_
  refine xp_s rfl rfl rfl rfl rfl ?_
  refine xp_last rfl rfl hz15_6 (by decide) (fun B16 hq16 hs16 hL16 hN16 => ?_)
  have hz16_0 := (hs16 0 (by decide)).trans hz15_0
  have hz16_1 := (hs16 1 (by decide)).trans hz15_1
  have hz16_331 := (hs16 331 (by decide)).trans hz15_331
  have hz16_118 := (hs16 118 (by decide)).trans hz15_118
  have hz16_7 := (hs16 7 (by decide)).trans hz15_7
  have hz16_8 := (hs16 8 (by decide)).trans hz15_8
  have hz16_11 := (hs16 11 (by decide)).trans hz15_11
  have hz16_15 := (hs16 15 (by decide)).trans hz15_15
  have hz16_344 := (hs16 344 (by decide)).trans hz15_344
  have hz16_3 := (hs16 3 (by decide)).trans hz15_3
  have hz16_4 := (hs16 4 (by decide)).trans hz15_4
  have hz16_5 := (hs16 5 (by decide)).trans hq15
  have hz16_335 := (hs16 335 (by decide)).trans hz15_335
  have hz16_338 := (hs16 338 (by decide)).trans hz15_338
  have hz16_347 := (hs16 347 (by decide)).trans hz15_347
  have hz16_348 := (hs16 348 (by decide)).trans hz15_348
  refine xp_s rfl rfl rfl rfl rfl ?_
  refine xp_s rfl rfl rfl rfl rfl ?_
  refine xp_get rfl rfl hz16_1 rfl ?_
  refine xp_s rfl rfl rfl rfl rfl ?_
  refine xp_s rfl rfl rfl rfl rfl ?_
  refine xp_put rfl rfl hz16_1 (by first | decide | exact Nat.le_of_ble_eq_true rfl) (by first | rfl | decide) (by first | rfl | decide) (fun B17 hq17 hs17 hL17 hN17 => ?_)
  have hz17_0 := (hs17 0 (by decide)).trans hz16_0
  have hz17_331 := (hs17 331 (by decide)).trans hz16_331
  have hz17_118 := (hs17 118 (by decide)).trans hz16_118
  have hz17_7 := (hs17 7 (by decide)).trans hz16_7
  have hz17_8 := (hs17 8 (by decide)).trans hz16_8
  have hz17_11 := (hs17 11 (by decide)).trans hz16_11
  have hz17_15 := (hs17 15 (by decide)).trans hz16_15
  have hz17_344 := (hs17 344 (by decide)).trans hz16_344
  have hz17_3 := (hs17 3 (by decide)).trans hz16_3
  have hz17_4 := (hs17 4 (by decide)).trans hz16_4
  have hz17_5 := (hs17 5 (by decide)).trans hz16_5
  have hz17_6 := (hs17 6 (by decide)).trans hq16
  have hz17_335 := (hs17 335 (by decide)).trans hz16_335
  have hz17_338 := (hs17 338 (by decide)).trans hz16_338
  have hz17_347 := (hs17 347 (by decide)).trans hz16_347
  have hz17_348 := (hs17 348 (by decide)).trans hz16_348
  refine xp_e rfl rfl rfl ⟨_, _, rfl, ?_⟩
  refine xp_s rfl rfl rfl rfl rfl ?_
  refine xp_s rfl rfl rfl rfl rfl ?_
  refine xp_put rfl rfl hq17 (by first | decide | exact Nat.le_of_ble_eq_true rfl) (by first | rfl | decide) (by first | rfl | decide) (fun B18 hq18 hs18 hL18 hN18 => ?_)
  have hz18_0 := (hs18 0 (by decide)).trans hz17_0
  have hz18_331 := (hs18 331 (by decide)).trans hz17_331
  have hz18_118 := (hs18 118 (by decide)).trans hz17_118
  have hz18_7 := (hs18 7 (by decide)).trans hz17_7
  have hz18_8 := (hs18 8 (by decide)).trans hz17_8
  have hz18_11 := (hs18 11 (by decide)).trans hz17_11
  have hz18_15 := (hs18 15 (by decide)).trans hz17_15
  have hz18_344 := (hs18 344 (by decide)).trans hz17_344
  have hz18_3 := (hs18 3 (by decide)).trans hz17_3
  have hz18_4 := (hs18 4 (by decide)).trans hz17_4
  have hz18_5 := (hs18 5 (by decide)).trans hz17_5
  have hz18_6 := (hs18 6 (by decide)).trans hz17_6
  have hz18_335 := (hs18 335 (by decide)).trans hz17_335
  have hz18_338 := (hs18 338 (by decide)).trans hz17_338
  have hz18_347 := (hs18 347 (by decide)).trans hz17_347
  have hz18_348 := (hs18 348 (by decide)).trans hz17_348
  refine xp_e rfl rfl rfl ⟨_, _, rfl, ?_⟩
  refine xp_s rfl rfl rfl rfl rfl ?_
  refine xp_get rfl rfl hz18_118 rfl ?_
  refine xp_V (As := []) (rest := []) rfl rfl rfl rfl rfl hz18_7 ⟨⟨by decide, Nat.le_of_ble_eq_true rfl, by decide⟩, by decide, Nat.le_of_ble_eq_true rfl, rfl⟩ ?_
  refine xp_s rfl rfl rfl rfl rfl ?_
  refine xp_get rfl rfl hz18_7 rfl ?_
  refine xp_V (As := []) (rest := []) rfl rfl rfl rfl rfl hz18_8 ⟨⟨by decide, Nat.le_of_ble_eq_true rfl, by decide⟩, by decide, Nat.le_of_ble_eq_true rfl, rfl⟩ ?_
  refine xp_s rfl rfl rfl rfl rfl ?_
  refine xp_s rfl rfl rfl rfl rfl ?_
  refine xp_put rfl rfl hz18_8 (by first | decide | exact Nat.le_of_ble_eq_true rfl) (by first | rfl | decide) (by first | rfl | decide) (fun B19 hq19 hs19 hL19 hN19 => ?_)
  have hz19_0 := (hs19 0 (by decide)).trans hz18_0
  have hz19_1 := (hs19 1 (by decide)).trans hq18
  have hz19_331 := (hs19 331 (by decide)).trans hz18_331
  have hz19_118 := (hs19 118 (by decide)).trans hz18_118
  have hz19_7 := (hs19 7 (by decide)).trans hz18_7
  have hz19_11 := (hs19 11 (by decide)).trans hz18_11
  have hz19_15 := (hs19 15 (by decide)).trans hz18_15
  have hz19_344 := (hs19 344 (by decide)).trans hz18_344
  have hz19_3 := (hs19 3 (by decide)).trans hz18_3
  have hz19_4 := (hs19 4 (by decide)).trans hz18_4
  have hz19_5 := (hs19 5 (by decide)).trans hz18_5
  have hz19_6 := (hs19 6 (by decide)).trans hz18_6
  have hz19_335 := (hs19 335 (by decide)).trans hz18_335
  have hz19_338 := (hs19 338 (by decide)).trans hz18_338
  have hz19_347 := (hs19 347 (by decide)).trans hz18_347
  have hz19_348 := (hs19 348 (by decide)).trans hz18_348
  refine xp_e rfl rfl rfl ⟨_, _, rfl, ?_⟩
  refine xp_s rfl rfl rfl rfl rfl ?_
  refine xp_get rfl rfl hz19_7 rfl ?_
  refine xp_V (As := []) (rest := []) rfl rfl rfl rfl rfl hz19_11 ⟨⟨by decide, Nat.le_of_ble_eq_true rfl, by decide⟩, by decide, Nat.le_of_ble_eq_true rfl, rfl⟩ ?_
  refine xp_s rfl rfl rfl rfl rfl ?_
  refine xp_s rfl rfl rfl rfl rfl ?_
  refine xp_put rfl rfl hz19_11 (by first | decide | exact Nat.le_of_ble_eq_true rfl) (by first | rfl | decide) (by first | rfl | decide) (fun B20 hq20 hs20 hL20 hN20 => ?_)
  have hz20_0 := (hs20 0 (by decide)).trans hz19_0
  have hz20_1 := (hs20 1 (by decide)).trans hz19_1
  have hz20_331 := (hs20 331 (by decide)).trans hz19_331
  have hz20_118 := (hs20 118 (by decide)).trans hz19_118
  have hz20_7 := (hs20 7 (by decide)).trans hz19_7
  have hz20_8 := (hs20 8 (by decide)).trans hq19
  have hz20_15 := (hs20 15 (by decide)).trans hz19_15
  have hz20_344 := (hs20 344 (by decide)).trans hz19_344
  have hz20_3 := (hs20 3 (by decide)).trans hz19_3
  have hz20_4 := (hs20 4 (by decide)).trans hz19_4
  have hz20_5 := (hs20 5 (by decide)).trans hz19_5
  have hz20_6 := (hs20 6 (by decide)).trans hz19_6
  have hz20_335 := (hs20 335 (by decide)).trans hz19_335
  have hz20_338 := (hs20 338 (by decide)).trans hz19_338
  have hz20_347 := (hs20 347 (by decide)).trans hz19_347
  have hz20_348 := (hs20 348 (by decide)).trans hz19_348
  refine xp_e rfl rfl rfl ⟨_, _, rfl, ?_⟩
  refine xp_s rfl rfl rfl rfl rfl ?_
  refine xp_get rfl rfl hz20_7 rfl ?_
  refine xp_V (As := []) (rest := []) rfl rfl rfl rfl rfl hz20_15 ⟨⟨by decide, Nat.le_of_ble_eq_true rfl, by decide⟩, by decide, Nat.le_of_ble_eq_true rfl, rfl⟩ ?_
  refine xp_s rfl rfl rfl rfl rfl ?_
  refine xp_s rfl rfl rfl rfl rfl ?_
  refine xp_put rfl rfl hz20_15 (by first | decide | exact Nat.le_of_ble_eq_true rfl) (by first | rfl | decide) (by first | rfl | decide) (fun B21 hq21 hs21 hL21 hN21 => ?_)
  have hz21_0 := (hs21 0 (by decide)).trans hz20_0
  have hz21_1 := (hs21 1 (by decide)).trans hz20_1
  have hz21_331 := (hs21 331 (by decide)).trans hz20_331
  have hz21_118 := (hs21 118 (by decide)).trans hz20_118
  have hz21_7 := (hs21 7 (by decide)).trans hz20_7
  have hz21_8 := (hs21 8 (by decide)).trans hz20_8
  have hz21_11 := (hs21 11 (by decide)).trans hq20
  have hz21_344 := (hs21 344 (by decide)).trans hz20_344
  have hz21_3 := (hs21 3 (by decide)).trans hz20_3
  have hz21_4 := (hs21 4 (by decide)).trans hz20_4
  have hz21_5 := (hs21 5 (by decide)).trans hz20_5
  have hz21_6 := (hs21 6 (by decide)).trans hz20_6
  have hz21_335 := (hs21 335 (by decide)).trans hz20_335
  have hz21_338 := (hs21 338 (by decide)).trans hz20_338
  have hz21_347 := (hs21 347 (by decide)).trans hz20_347
  have hz21_348 := (hs21 348 (by decide)).trans hz20_348
  refine xp_e rfl rfl rfl ⟨_, _, rfl, ?_⟩
  refine xp_e rfl rfl rfl ⟨_, _, rfl, ?_⟩
  refine xp_s rfl rfl rfl rfl rfl ?_
  refine xp_s rfl rfl rfl rfl rfl ?_
  refine xp_VT (As := [_]) (rest := []) rfl rfl rfl rfl rfl hz21_118 ⟨⟨by decide, Nat.le_of_ble_eq_true rfl, by decide⟩, by decide, Nat.le_of_ble_eq_true rfl, rfl⟩ rfl ?_
  refine xp_s rfl rfl rfl rfl rfl ?_
  refine xp_get rfl rfl hz21_118 rfl ?_
  refine xp_s rfl rfl rfl rfl rfl ?_
  refine xp_VT (As := [_]) (rest := []) rfl rfl rfl rfl rfl hz21_1 ⟨⟨by decide, Nat.le_of_ble_eq_true rfl, by decide⟩, by decide, Nat.le_of_ble_eq_true rfl, rfl⟩ rfl ?_
  refine xp_s rfl rfl rfl rfl rfl ?_
  refine xp_get rfl rfl hz21_1 rfl ?_
  refine xp_s rfl rfl rfl rfl rfl ?_
  refine xp_get rfl rfl hz21_1 rfl ?_
  refine xp_iald (v := 5) rfl rfl hz21_3 (by decide) rfl ?_
  refine xp_s rfl rfl rfl rfl rfl ?_
  refine xp_s (pc2 := 13) rfl rfl rfl rfl (if_neg (by decide)) ?_
  refine xp_s rfl rfl rfl rfl rfl ?_
  refine xp_s rfl rfl rfl rfl rfl ?_
  refine xp_VT (As := [_]) (rest := []) rfl rfl rfl rfl rfl hz21_1 ⟨⟨by decide, Nat.le_of_ble_eq_true rfl, by decide⟩, by decide, Nat.le_of_ble_eq_true rfl, rfl⟩ rfl ?_
  refine xp_s rfl rfl rfl rfl rfl ?_
  refine xp_s rfl rfl rfl rfl rfl ?_
  refine xp_s rfl rfl rfl rfl rfl ?_
  refine xp_s rfl rfl rfl rfl rfl ?_
  refine xp_get rfl rfl hz21_1 rfl ?_
  refine xp_s rfl rfl rfl rfl rfl ?_
  refine xp_get rfl rfl hz21_1 rfl ?_
  refine xp_iald (v := 0) rfl rfl hz21_4 (by decide) rfl ?_
  refine xp_s rfl rfl rfl rfl rfl ?_
  refine xp_s rfl rfl rfl rfl rfl ?_
  refine xp_put rfl rfl hz21_1 (by first | decide | exact Nat.le_of_ble_eq_true rfl) (by first | rfl | decide) (by first | rfl | decide) (fun B22 hq22 hs22 hL22 hN22 => ?_)
  have hz22_0 := (hs22 0 (by decide)).trans hz21_0
  have hz22_331 := (hs22 331 (by decide)).trans hz21_331
  have hz22_118 := (hs22 118 (by decide)).trans hz21_118
  have hz22_7 := (hs22 7 (by decide)).trans hz21_7
  have hz22_8 := (hs22 8 (by decide)).trans hz21_8
  have hz22_11 := (hs22 11 (by decide)).trans hz21_11
  have hz22_15 := (hs22 15 (by decide)).trans hq21
  have hz22_344 := (hs22 344 (by decide)).trans hz21_344
  have hz22_3 := (hs22 3 (by decide)).trans hz21_3
  have hz22_4 := (hs22 4 (by decide)).trans hz21_4
  have hz22_5 := (hs22 5 (by decide)).trans hz21_5
  have hz22_6 := (hs22 6 (by decide)).trans hz21_6
  have hz22_335 := (hs22 335 (by decide)).trans hz21_335
  have hz22_338 := (hs22 338 (by decide)).trans hz21_338
  have hz22_347 := (hs22 347 (by decide)).trans hz21_347
  have hz22_348 := (hs22 348 (by decide)).trans hz21_348
  refine xp_e rfl rfl (if_pos ⟨rfl, by decide, by decide, by decide, xi_pos hz22_0⟩) ⟨_, _, rfl, ⟨_, _, rfl, ⟨_, _, rfl, ⟨_, _, rfl, ⟨_, _, _, rfl, xi_last _ _, ?_⟩⟩⟩⟩⟩
  refine xp_s rfl rfl rfl rfl rfl ?_
  refine xp_s rfl rfl rfl rfl rfl ?_
  refine xp_e rfl rfl rfl ?_
  exact ⟨_, _, _, rfl, (xi_app hz22_344), (xi_app hz22_347), (xi_app hz22_348), by simp only [List.length_append, List.length_singleton]; omega, by rw [xi_ns_push]; simp only [xi_n, List.length_replicate]; omega⟩
set_option maxRecDepth 10000 in
set_option maxHeartbeats 4000000 in
theorem em_domain {A : xi_H} (hm : A[344]? = some (.inr (13, e_lM))) {g347 g348 : Nat → Int32} (ha347 : A[347]? = some (.inl (0, 602, .inl g347))) (ha348 : A[348]? = some (.inl (0, 602, .inl g348))) : ∃ (A2 : xi_H) (fs : List Value), xi_go xi_ms 400 64 15 560 0 (lv_args 0 [.ref 344]) [] A = some (.returned (some (.int 0)), A2) ∧ A2[344]? = some (.inr (13, fs)) ∧ fs[0]? = some (.int 1) ∧ A2.length = A.length ∧ xi_ns A2 = xi_ns A := by
  show xg_P (fun r => ∃ (A2 : xi_H) (fs : List Value), r = some (.returned (some (.int 0)), A2) ∧ A2[344]? = some (.inr (13, fs)) ∧ fs[0]? = some (.int 1) ∧ A2.length = A.length ∧ xi_ns A2 = xi_ns A) _
  refine xp_s rfl rfl rfl rfl rfl ?_
  refine xp_V (As := []) (rest := []) rfl rfl rfl rfl rfl hm ⟨⟨by decide, Nat.le_of_ble_eq_true rfl, by decide⟩, by decide, Nat.le_of_ble_eq_true rfl, rfl⟩ ?_
  refine xp_s rfl rfl rfl rfl rfl ?_
  refine xp_s rfl rfl rfl rfl rfl ?_
  refine xp_put rfl rfl hm (by first | decide | exact Nat.le_of_ble_eq_true rfl) (by first | rfl | decide) (by first | rfl | decide) (fun B1 hq1 hs1 hL1 hN1 => ?_)
  have hz1_347 := (hs1 347 (by decide)).trans ha347
  have hz1_348 := (hs1 348 (by decide)).trans ha348
  refine xp_s rfl rfl rfl rfl rfl ?_
  refine xp_s rfl rfl rfl rfl rfl ?_
  refine xp_put rfl rfl hq1 (by first | decide | exact Nat.le_of_ble_eq_true rfl) (by first | rfl | decide) (by first | rfl | decide) (fun B2 hq2 hs2 hL2 hN2 => ?_)
  have hz2_347 := (hs2 347 (by decide)).trans hz1_347
  have hz2_348 := (hs2 348 (by decide)).trans hz1_348
  refine xp_e rfl rfl rfl ⟨_, _, rfl, ?_⟩
  refine xp_s rfl rfl rfl rfl rfl ?_
  refine xp_s rfl rfl rfl rfl rfl ?_
  refine xp_put rfl rfl hq2 (by first | decide | exact Nat.le_of_ble_eq_true rfl) (by first | rfl | decide) (by first | rfl | decide) (fun B3 hq3 hs3 hL3 hN3 => ?_)
  have hz3_347 := (hs3 347 (by decide)).trans hz2_347
  have hz3_348 := (hs3 348 (by decide)).trans hz2_348
  refine xp_s rfl rfl rfl rfl rfl ?_
  refine xp_s rfl rfl rfl rfl rfl ?_
  refine xp_put rfl rfl hq3 (by first | decide | exact Nat.le_of_ble_eq_true rfl) (by first | rfl | decide) (by first | rfl | decide) (fun B4 hq4 hs4 hL4 hN4 => ?_)
  have hz4_347 := (hs4 347 (by decide)).trans hz3_347
  have hz4_348 := (hs4 348 (by decide)).trans hz3_348
  refine xp_s rfl rfl rfl rfl rfl ?_
  refine xp_s rfl rfl rfl rfl rfl ?_
  refine xp_put rfl rfl hq4 (by first | decide | exact Nat.le_of_ble_eq_true rfl) (by first | rfl | decide) (by first | rfl | decide) (fun B5 hq5 hs5 hL5 hN5 => ?_)
  have hz5_347 := (hs5 347 (by decide)).trans hz4_347
  have hz5_348 := (hs5 348 (by decide)).trans hz4_348
  refine xp_s rfl rfl rfl rfl rfl ?_
  refine xp_s rfl rfl rfl rfl rfl ?_
  refine xp_put rfl rfl hq5 (by first | decide | exact Nat.le_of_ble_eq_true rfl) (by first | rfl | decide) (by first | rfl | decide) (fun B6 hq6 hs6 hL6 hN6 => ?_)
  have hz6_347 := (hs6 347 (by decide)).trans hz5_347
  have hz6_348 := (hs6 348 (by decide)).trans hz5_348
  refine xp_s rfl rfl rfl rfl rfl ?_
  refine xp_s rfl rfl rfl rfl rfl ?_
  refine xp_put rfl rfl hq6 (by first | decide | exact Nat.le_of_ble_eq_true rfl) (by first | rfl | decide) (by first | rfl | decide) (fun B7 hq7 hs7 hL7 hN7 => ?_)
  have hz7_347 := (hs7 347 (by decide)).trans hz6_347
  have hz7_348 := (hs7 348 (by decide)).trans hz6_348
  refine xp_s rfl rfl rfl rfl rfl ?_
  refine xp_V (As := []) (rest := []) rfl rfl rfl rfl rfl hq7 ⟨⟨by decide, Nat.le_of_ble_eq_true rfl, by decide⟩, by decide, Nat.le_of_ble_eq_true rfl, rfl⟩ ?_
  refine xp_s rfl rfl rfl rfl rfl ?_
  refine xp_s rfl rfl rfl rfl rfl ?_
  refine xp_put rfl rfl hq7 (by first | decide | exact Nat.le_of_ble_eq_true rfl) (by first | rfl | decide) (by first | rfl | decide) (fun B8 hq8 hs8 hL8 hN8 => ?_)
  have hz8_347 := (hs8 347 (by decide)).trans hz7_347
  have hz8_348 := (hs8 348 (by decide)).trans hz7_348
  refine xp_s rfl rfl rfl rfl rfl ?_
  refine xp_s rfl rfl rfl rfl rfl ?_
  refine xp_put rfl rfl hq8 (by first | decide | exact Nat.le_of_ble_eq_true rfl) (by first | rfl | decide) (by first | rfl | decide) (fun B9 hq9 hs9 hL9 hN9 => ?_)
  have hz9_347 := (hs9 347 (by decide)).trans hz8_347
  have hz9_348 := (hs9 348 (by decide)).trans hz8_348
  refine xp_s rfl rfl rfl rfl rfl ?_
  refine xp_s rfl rfl rfl rfl rfl ?_
  refine xp_s rfl rfl rfl rfl rfl ?_
  refine xp_s rfl rfl rfl rfl rfl ?_
  refine xp_get rfl rfl hq9 rfl ?_
  refine xp_s (pc2 := 152) rfl rfl rfl rfl (if_pos (by decide)) ?_
  refine xp_s rfl rfl rfl rfl rfl ?_
  refine xp_get rfl rfl hq9 rfl ?_
  refine xp_s rfl rfl rfl rfl rfl ?_
  refine xp_get rfl rfl hq9 rfl ?_
  refine xp_s rfl rfl rfl rfl rfl ?_
  refine xp_get rfl rfl hq9 rfl ?_
  refine xp_iast rfl rfl hz9_347 (by decide) (fun B10 hq10 hs10 hL10 hN10 => ?_)
  have hz10_344 := (hs10 344 (by decide)).trans hq9
  have hz10_348 := (hs10 348 (by decide)).trans hz9_348
  refine xp_s rfl rfl rfl rfl rfl ?_
  refine xp_get rfl rfl hz10_344 rfl ?_
  refine xp_s rfl rfl rfl rfl rfl ?_
  refine xp_get rfl rfl hz10_344 rfl ?_
  refine xp_s rfl rfl rfl rfl rfl ?_
  refine xp_get rfl rfl hz10_344 rfl ?_
  refine xp_iast rfl rfl hz10_348 (by decide) (fun B11 hq11 hs11 hL11 hN11 => ?_)
  have hz11_344 := (hs11 344 (by decide)).trans hz10_344
  have hz11_347 := (hs11 347 (by decide)).trans hq10
  refine xp_e rfl rfl rfl ⟨_, _, rfl, ?_⟩
  refine xp_s rfl rfl rfl rfl rfl ?_
  refine xp_V (As := []) (rest := []) rfl rfl rfl rfl rfl hz11_344 ⟨⟨by decide, Nat.le_of_ble_eq_true rfl, by decide⟩, by decide, Nat.le_of_ble_eq_true rfl, rfl⟩ ?_
  refine xp_s rfl rfl rfl rfl rfl ?_
  refine xp_s rfl rfl rfl rfl rfl ?_
  refine xp_V (As := [_]) (rest := []) rfl rfl rfl rfl rfl hz11_344 ⟨⟨by decide, Nat.le_of_ble_eq_true rfl, by decide⟩, by decide, Nat.le_of_ble_eq_true rfl, rfl⟩ ?_
  refine xp_s rfl rfl rfl rfl rfl ?_
  refine xp_s rfl rfl rfl rfl rfl ?_
  refine xp_V (As := [_]) (rest := []) rfl rfl rfl rfl rfl hz11_344 ⟨⟨by decide, Nat.le_of_ble_eq_true rfl, by decide⟩, by decide, Nat.le_of_ble_eq_true rfl, rfl⟩ ?_
  refine xp_s rfl rfl rfl rfl rfl ?_
  refine xp_get rfl rfl hz11_344 rfl ?_
  refine xp_s (pc2 := 7) rfl rfl rfl rfl (if_neg (by decide)) ?_
  refine xp_s rfl rfl rfl rfl rfl ?_
  refine xp_V (As := []) (rest := []) rfl rfl rfl rfl rfl hz11_344 ⟨⟨by decide, Nat.le_of_ble_eq_true rfl, by decide⟩, by decide, Nat.le_of_ble_eq_true rfl, rfl⟩ ?_
  refine xp_s rfl rfl rfl rfl rfl ?_
  refine xp_get rfl rfl hz11_344 rfl ?_
  refine xp_s rfl rfl rfl rfl rfl ?_
  refine xp_get rfl rfl hz11_344 rfl ?_
  refine xp_iald (v := 0) rfl rfl hq11 (by decide) rfl ?_
  refine xp_s rfl rfl rfl rfl rfl ?_
  refine xp_get rfl rfl hz11_344 rfl ?_
  refine xp_s rfl rfl rfl rfl rfl ?_
  refine xp_get rfl rfl hz11_344 rfl ?_
  refine xp_iald (v := 0) rfl rfl hz11_347 (by decide) rfl ?_
  refine xp_s rfl rfl rfl rfl rfl ?_
  refine xp_e rfl rfl rfl ⟨_, _, rfl, ?_⟩
  refine xp_s rfl rfl rfl rfl rfl ?_
  refine xp_s (pc2 := 37) rfl rfl rfl rfl (if_pos (by decide)) ?_
  refine xp_s rfl rfl rfl rfl rfl ?_
  refine xp_e rfl rfl rfl ⟨_, _, rfl, ?_⟩
  refine xp_s (pc2 := 21) rfl rfl rfl rfl (if_pos (by decide)) ?_
  refine xp_s rfl rfl rfl rfl rfl ?_
  refine xp_s rfl rfl rfl rfl rfl ?_
  refine xp_V (As := [_]) (rest := []) rfl rfl rfl rfl rfl hz11_344 ⟨⟨by decide, Nat.le_of_ble_eq_true rfl, by decide⟩, by decide, Nat.le_of_ble_eq_true rfl, rfl⟩ ?_
  refine xp_s rfl rfl rfl rfl rfl ?_
  refine xp_get rfl rfl hz11_344 rfl ?_
  refine xp_s (pc2 := 8) rfl rfl rfl rfl (if_pos (by decide)) ?_
  refine xp_s rfl rfl rfl rfl rfl ?_
  refine xp_s rfl rfl rfl rfl rfl ?_
  refine xp_put rfl rfl hz11_344 (by first | decide | exact Nat.le_of_ble_eq_true rfl) (by first | rfl | decide) (by first | rfl | decide) (fun B12 hq12 hs12 hL12 hN12 => ?_)
  have hz12_347 := (hs12 347 (by decide)).trans hz11_347
  have hz12_348 := (hs12 348 (by decide)).trans hq11
  refine xp_s rfl rfl rfl rfl rfl ?_
  refine xp_s rfl rfl rfl rfl rfl ?_
  refine xp_get rfl rfl hq12 rfl ?_
  refine xp_s rfl rfl rfl rfl rfl ?_
  refine xp_get rfl rfl hq12 rfl ?_
  refine xp_iald (v := 0) rfl rfl hz12_347 (by decide) rfl ?_
  refine xp_put rfl rfl hq12 (by first | decide | exact Nat.le_of_ble_eq_true rfl) (by first | rfl | decide) (by first | rfl | decide) (fun B13 hq13 hs13 hL13 hN13 => ?_)
  have hz13_347 := (hs13 347 (by decide)).trans hz12_347
  have hz13_348 := (hs13 348 (by decide)).trans hz12_348
  refine xp_e rfl rfl rfl ⟨_, _, rfl, ?_⟩
  refine xp_e rfl rfl rfl ⟨_, _, rfl, ?_⟩
  refine xp_s rfl rfl rfl rfl rfl ?_
  refine xp_s rfl rfl rfl rfl rfl ?_
  refine xp_V (As := [_]) (rest := []) rfl rfl rfl rfl rfl hq13 ⟨⟨by decide, Nat.le_of_ble_eq_true rfl, by decide⟩, by decide, Nat.le_of_ble_eq_true rfl, rfl⟩ ?_
  refine xp_s rfl rfl rfl rfl rfl ?_
  refine xp_s rfl rfl rfl rfl rfl ?_
  refine xp_V (As := [_]) (rest := []) rfl rfl rfl rfl rfl hq13 ⟨⟨by decide, Nat.le_of_ble_eq_true rfl, by decide⟩, by decide, Nat.le_of_ble_eq_true rfl, rfl⟩ ?_
  refine xp_s rfl rfl rfl rfl rfl ?_
  refine xp_get rfl rfl hq13 rfl ?_
  refine xp_s (pc2 := 27) rfl rfl rfl rfl (if_pos (by decide)) ?_
  refine xp_s rfl rfl rfl rfl rfl ?_
  refine xp_s rfl rfl rfl rfl rfl ?_
  refine xp_s rfl rfl rfl rfl rfl ?_
  refine xp_s rfl rfl rfl rfl rfl ?_
  refine xp_s rfl rfl rfl rfl rfl ?_
  refine xp_s rfl rfl rfl rfl rfl ?_
  refine xp_s (pc2 := 37) rfl rfl rfl rfl (if_neg (by decide)) ?_
  refine xp_s rfl rfl rfl rfl rfl ?_
  refine xp_s (pc2 := 97) rfl rfl rfl rfl (if_pos (by decide)) ?_
  refine xp_s rfl rfl rfl rfl rfl ?_
  refine xp_e rfl rfl rfl ⟨_, _, rfl, ?_⟩
  refine xp_s (pc2 := 21) rfl rfl rfl rfl (if_pos (by decide)) ?_
  refine xp_s rfl rfl rfl rfl rfl ?_
  refine xp_s rfl rfl rfl rfl rfl ?_
  refine xp_V (As := [_]) (rest := []) rfl rfl rfl rfl rfl hq13 ⟨⟨by decide, Nat.le_of_ble_eq_true rfl, by decide⟩, by decide, Nat.le_of_ble_eq_true rfl, rfl⟩ ?_
  refine xp_s rfl rfl rfl rfl rfl ?_
  refine xp_get rfl rfl hq13 rfl ?_
  refine xp_s (pc2 := 7) rfl rfl rfl rfl (if_neg (by decide)) ?_
  refine xp_e rfl rfl rfl ⟨_, _, rfl, ?_⟩
  refine xp_e rfl rfl rfl ⟨_, _, rfl, ?_⟩
  refine xp_s rfl rfl rfl rfl rfl ?_
  refine xp_s rfl rfl rfl rfl rfl ?_
  refine xp_V (As := [_]) (rest := []) rfl rfl rfl rfl rfl hq13 ⟨⟨by decide, Nat.le_of_ble_eq_true rfl, by decide⟩, by decide, Nat.le_of_ble_eq_true rfl, rfl⟩ ?_
  refine xp_s rfl rfl rfl rfl rfl ?_
  refine xp_s rfl rfl rfl rfl rfl ?_
  refine xp_V (As := [_]) (rest := []) rfl rfl rfl rfl rfl hq13 ⟨⟨by decide, Nat.le_of_ble_eq_true rfl, by decide⟩, by decide, Nat.le_of_ble_eq_true rfl, rfl⟩ ?_
  refine xp_s rfl rfl rfl rfl rfl ?_
  refine xp_get rfl rfl hq13 rfl ?_
  refine xp_s (pc2 := 37) rfl rfl rfl rfl (if_pos (by decide)) ?_
  refine xp_s rfl rfl rfl rfl rfl ?_
  refine xp_e rfl rfl rfl ⟨_, _, rfl, ?_⟩
  refine xp_s (pc2 := 21) rfl rfl rfl rfl (if_pos (by decide)) ?_
  refine xp_s rfl rfl rfl rfl rfl ?_
  refine xp_s rfl rfl rfl rfl rfl ?_
  refine xp_V (As := [_]) (rest := []) rfl rfl rfl rfl rfl hq13 ⟨⟨by decide, Nat.le_of_ble_eq_true rfl, by decide⟩, by decide, Nat.le_of_ble_eq_true rfl, rfl⟩ ?_
  refine xp_s rfl rfl rfl rfl rfl ?_
  refine xp_get rfl rfl hq13 rfl ?_
  refine xp_s (pc2 := 7) rfl rfl rfl rfl (if_neg (by decide)) ?_
  refine xp_e rfl rfl rfl ⟨_, _, rfl, ?_⟩
  refine xp_e rfl rfl rfl ⟨_, _, rfl, ?_⟩
  refine xp_s rfl rfl rfl rfl rfl ?_
  refine xp_s rfl rfl rfl rfl rfl ?_
  refine xp_V (As := [_]) (rest := []) rfl rfl rfl rfl rfl hq13 ⟨⟨by decide, Nat.le_of_ble_eq_true rfl, by decide⟩, by decide, Nat.le_of_ble_eq_true rfl, rfl⟩ ?_
  refine xp_s rfl rfl rfl rfl rfl ?_
  refine xp_s rfl rfl rfl rfl rfl ?_
  refine xp_V (As := [_]) (rest := []) rfl rfl rfl rfl rfl hq13 ⟨⟨by decide, Nat.le_of_ble_eq_true rfl, by decide⟩, by decide, Nat.le_of_ble_eq_true rfl, rfl⟩ ?_
  refine xp_s rfl rfl rfl rfl rfl ?_
  refine xp_get rfl rfl hq13 rfl ?_
  refine xp_s (pc2 := 27) rfl rfl rfl rfl (if_pos (by decide)) ?_
  refine xp_s rfl rfl rfl rfl rfl ?_
  refine xp_s rfl rfl rfl rfl rfl ?_
  refine xp_s rfl rfl rfl rfl rfl ?_
  refine xp_s rfl rfl rfl rfl rfl ?_
  refine xp_s rfl rfl rfl rfl rfl ?_
  refine xp_s rfl rfl rfl rfl rfl ?_
  refine xp_s (pc2 := 37) rfl rfl rfl rfl (if_neg (by decide)) ?_
  refine xp_s rfl rfl rfl rfl rfl ?_
  refine xp_s (pc2 := 97) rfl rfl rfl rfl (if_pos (by decide)) ?_
  refine xp_s rfl rfl rfl rfl rfl ?_
  refine xp_e rfl rfl rfl ⟨_, _, rfl, ?_⟩
  refine xp_s (pc2 := 21) rfl rfl rfl rfl (if_pos (by decide)) ?_
  refine xp_s rfl rfl rfl rfl rfl ?_
  refine xp_s rfl rfl rfl rfl rfl ?_
  refine xp_V (As := [_]) (rest := []) rfl rfl rfl rfl rfl hq13 ⟨⟨by decide, Nat.le_of_ble_eq_true rfl, by decide⟩, by decide, Nat.le_of_ble_eq_true rfl, rfl⟩ ?_
  refine xp_s rfl rfl rfl rfl rfl ?_
  refine xp_get rfl rfl hq13 rfl ?_
  refine xp_s (pc2 := 7) rfl rfl rfl rfl (if_neg (by decide)) ?_
  refine xp_e rfl rfl rfl ⟨_, _, rfl, ?_⟩
  refine xp_e rfl rfl rfl ⟨_, _, rfl, ?_⟩
  refine xp_s rfl rfl rfl rfl rfl ?_
  refine xp_s rfl rfl rfl rfl rfl ?_
  refine xp_V (As := []) (rest := [_]) rfl rfl rfl rfl rfl hq13 ⟨⟨by decide, Nat.le_of_ble_eq_true rfl, by decide⟩, by decide, Nat.le_of_ble_eq_true rfl, rfl⟩ ?_
  refine xp_s rfl rfl rfl rfl rfl ?_
  refine xp_V (As := []) (rest := []) rfl rfl rfl rfl rfl hq13 ⟨⟨by decide, Nat.le_of_ble_eq_true rfl, by decide⟩, by decide, Nat.le_of_ble_eq_true rfl, rfl⟩ ?_
  refine xp_s rfl rfl rfl rfl rfl ?_
  refine xp_get rfl rfl hq13 rfl ?_
  refine xp_s (pc2 := 7) rfl rfl rfl rfl (if_neg (by decide)) ?_
  refine xp_s rfl rfl rfl rfl rfl ?_
  refine xp_s rfl rfl rfl rfl rfl ?_
  refine xp_e rfl rfl rfl ⟨_, _, rfl, ?_⟩
  refine xp_s (pc2 := 7) rfl rfl rfl rfl (if_neg (by decide)) ?_
  refine xp_s rfl rfl rfl rfl rfl ?_
  refine xp_s rfl rfl rfl rfl rfl ?_
  refine xp_s rfl rfl rfl rfl rfl ?_
  refine xp_s rfl rfl rfl rfl rfl ?_
  refine xp_s rfl rfl rfl rfl rfl ?_
  refine xp_s rfl rfl rfl rfl rfl ?_
  refine xp_s (pc2 := 23) rfl rfl rfl rfl (if_neg (by decide)) ?_
  refine xp_s rfl rfl rfl rfl rfl ?_
  refine xp_s rfl rfl rfl rfl rfl ?_
  refine xp_V (As := [_]) (rest := []) rfl rfl rfl rfl rfl hq13 ⟨⟨by decide, Nat.le_of_ble_eq_true rfl, by decide⟩, by decide, Nat.le_of_ble_eq_true rfl, rfl⟩ ?_
  refine xp_s rfl rfl rfl rfl rfl ?_
  refine xp_get rfl rfl hq13 rfl ?_
  refine xp_s (pc2 := 7) rfl rfl rfl rfl (if_neg (by decide)) ?_
  refine xp_e rfl rfl rfl ⟨_, _, rfl, ?_⟩
  refine xp_s rfl rfl rfl rfl rfl ?_
  refine xp_e rfl rfl rfl ⟨_, _, rfl, ?_⟩
  refine xp_put rfl rfl hq13 (by first | decide | exact Nat.le_of_ble_eq_true rfl) (by first | rfl | decide) (by first | rfl | decide) (fun B14 hq14 hs14 hL14 hN14 => ?_)
  have hz14_347 := (hs14 347 (by decide)).trans hz13_347
  have hz14_348 := (hs14 348 (by decide)).trans hz13_348
  refine xp_s rfl rfl rfl rfl rfl ?_
  refine xp_V (As := []) (rest := []) rfl rfl rfl rfl rfl hq14 ⟨⟨by decide, Nat.le_of_ble_eq_true rfl, by decide⟩, by decide, Nat.le_of_ble_eq_true rfl, rfl⟩ ?_
  refine xp_s rfl rfl rfl rfl rfl ?_
  refine xp_s rfl rfl rfl rfl rfl ?_
  refine xp_get rfl rfl hq14 rfl ?_
  refine xp_s rfl rfl rfl rfl rfl ?_
  refine xp_V (As := []) (rest := [_, _]) rfl rfl rfl rfl rfl hq14 ⟨⟨by decide, Nat.le_of_ble_eq_true rfl, by decide⟩, by decide, Nat.le_of_ble_eq_true rfl, rfl⟩ ?_
  refine xp_s rfl rfl rfl rfl rfl ?_
  refine xp_get rfl rfl hq14 rfl ?_
  refine xp_s (pc2 := 7) rfl rfl rfl rfl (if_neg (by decide)) ?_
  refine xp_s rfl rfl rfl rfl rfl ?_
  refine xp_s rfl rfl rfl rfl rfl ?_
  refine xp_e rfl rfl rfl ⟨_, _, rfl, ?_⟩
  refine xp_s (pc2 := 12) rfl rfl rfl rfl (if_neg (by decide)) ?_
  refine xp_s rfl rfl rfl rfl rfl ?_
  refine xp_s rfl rfl rfl rfl rfl ?_
  refine xp_s rfl rfl rfl rfl rfl ?_
  refine xp_put rfl rfl hq14 (by first | decide | exact Nat.le_of_ble_eq_true rfl) (by first | rfl | decide) (by first | rfl | decide) (fun B15 hq15 hs15 hL15 hN15 => ?_)
  have hz15_347 := (hs15 347 (by decide)).trans hz14_347
  have hz15_348 := (hs15 348 (by decide)).trans hz14_348
  refine xp_e rfl rfl rfl ⟨_, _, rfl, ?_⟩
  refine xp_s rfl rfl rfl rfl rfl ?_
  refine xp_s rfl rfl rfl rfl rfl ?_
  refine xp_V (As := [_]) (rest := []) rfl rfl rfl rfl rfl hq15 ⟨⟨by decide, Nat.le_of_ble_eq_true rfl, by decide⟩, by decide, Nat.le_of_ble_eq_true rfl, rfl⟩ ?_
  refine xp_s rfl rfl rfl rfl rfl ?_
  refine xp_s rfl rfl rfl rfl rfl ?_
  refine xp_V (As := [_]) (rest := []) rfl rfl rfl rfl rfl hq15 ⟨⟨by decide, Nat.le_of_ble_eq_true rfl, by decide⟩, by decide, Nat.le_of_ble_eq_true rfl, rfl⟩ ?_
  refine xp_s rfl rfl rfl rfl rfl ?_
  refine xp_get rfl rfl hq15 rfl ?_
  refine xp_s (pc2 := 37) rfl rfl rfl rfl (if_pos (by decide)) ?_
  refine xp_s rfl rfl rfl rfl rfl ?_
  refine xp_e rfl rfl rfl ⟨_, _, rfl, ?_⟩
  refine xp_s (pc2 := 21) rfl rfl rfl rfl (if_pos (by decide)) ?_
  refine xp_s rfl rfl rfl rfl rfl ?_
  refine xp_s rfl rfl rfl rfl rfl ?_
  refine xp_V (As := [_]) (rest := []) rfl rfl rfl rfl rfl hq15 ⟨⟨by decide, Nat.le_of_ble_eq_true rfl, by decide⟩, by decide, Nat.le_of_ble_eq_true rfl, rfl⟩ ?_
  refine xp_s rfl rfl rfl rfl rfl ?_
  refine xp_get rfl rfl hq15 rfl ?_
  refine xp_s (pc2 := 7) rfl rfl rfl rfl (if_neg (by decide)) ?_
  refine xp_e rfl rfl rfl ⟨_, _, rfl, ?_⟩
  refine xp_e rfl rfl rfl ⟨_, _, rfl, ?_⟩
  refine xp_s rfl rfl rfl rfl rfl ?_
  refine xp_s rfl rfl rfl rfl rfl ?_
  refine xp_V (As := [_]) (rest := []) rfl rfl rfl rfl rfl hq15 ⟨⟨by decide, Nat.le_of_ble_eq_true rfl, by decide⟩, by decide, Nat.le_of_ble_eq_true rfl, rfl⟩ ?_
  refine xp_s rfl rfl rfl rfl rfl ?_
  refine xp_s rfl rfl rfl rfl rfl ?_
  refine xp_V (As := [_]) (rest := []) rfl rfl rfl rfl rfl hq15 ⟨⟨by decide, Nat.le_of_ble_eq_true rfl, by decide⟩, by decide, Nat.le_of_ble_eq_true rfl, rfl⟩ ?_
  refine xp_s rfl rfl rfl rfl rfl ?_
  refine xp_get rfl rfl hq15 rfl ?_
  refine xp_s (pc2 := 37) rfl rfl rfl rfl (if_pos (by decide)) ?_
  refine xp_s rfl rfl rfl rfl rfl ?_
  refine xp_e rfl rfl rfl ⟨_, _, rfl, ?_⟩
  refine xp_s (pc2 := 21) rfl rfl rfl rfl (if_pos (by decide)) ?_
  refine xp_s rfl rfl rfl rfl rfl ?_
  refine xp_s rfl rfl rfl rfl rfl ?_
  refine xp_V (As := [_]) (rest := []) rfl rfl rfl rfl rfl hq15 ⟨⟨by decide, Nat.le_of_ble_eq_true rfl, by decide⟩, by decide, Nat.le_of_ble_eq_true rfl, rfl⟩ ?_
  refine xp_s rfl rfl rfl rfl rfl ?_
  refine xp_get rfl rfl hq15 rfl ?_
  refine xp_s (pc2 := 7) rfl rfl rfl rfl (if_neg (by decide)) ?_
  refine xp_e rfl rfl rfl ⟨_, _, rfl, ?_⟩
  refine xp_e rfl rfl rfl ⟨_, _, rfl, ?_⟩
  refine xp_s rfl rfl rfl rfl rfl ?_
  refine xp_s rfl rfl rfl rfl rfl ?_
  refine xp_V (As := [_]) (rest := []) rfl rfl rfl rfl rfl hq15 ⟨⟨by decide, Nat.le_of_ble_eq_true rfl, by decide⟩, by decide, Nat.le_of_ble_eq_true rfl, rfl⟩ ?_
  refine xp_s rfl rfl rfl rfl rfl ?_
  refine xp_get rfl rfl hq15 rfl ?_
  refine xp_s (pc2 := 27) rfl rfl rfl rfl (if_pos (by decide)) ?_
  refine xp_s rfl rfl rfl rfl rfl ?_
  refine xp_s rfl rfl rfl rfl rfl ?_
  refine xp_s rfl rfl rfl rfl rfl ?_
  refine xp_s rfl rfl rfl rfl rfl ?_
  refine xp_s rfl rfl rfl rfl rfl ?_
  refine xp_s rfl rfl rfl rfl rfl ?_
  refine xp_s (pc2 := 37) rfl rfl rfl rfl (if_neg (by decide)) ?_
  refine xp_s rfl rfl rfl rfl rfl ?_
  refine xp_s (pc2 := 97) rfl rfl rfl rfl (if_pos (by decide)) ?_
  refine xp_s rfl rfl rfl rfl rfl ?_
  refine xp_e rfl rfl rfl ⟨_, _, rfl, ?_⟩
  refine xp_s (pc2 := 80) rfl rfl rfl rfl (if_pos (by decide)) ?_
  refine xp_s rfl rfl rfl rfl rfl ?_
  refine xp_s rfl rfl rfl rfl rfl ?_
  refine xp_V (As := [_]) (rest := []) rfl rfl rfl rfl rfl hq15 ⟨⟨by decide, Nat.le_of_ble_eq_true rfl, by decide⟩, by decide, Nat.le_of_ble_eq_true rfl, rfl⟩ ?_
  refine xp_s rfl rfl rfl rfl rfl ?_
  refine xp_s rfl rfl rfl rfl rfl ?_
  refine xp_V (As := [_]) (rest := []) rfl rfl rfl rfl rfl hq15 ⟨⟨by decide, Nat.le_of_ble_eq_true rfl, by decide⟩, by decide, Nat.le_of_ble_eq_true rfl, rfl⟩ ?_
  refine xp_s rfl rfl rfl rfl rfl ?_
  refine xp_get rfl rfl hq15 rfl ?_
  refine xp_s (pc2 := 27) rfl rfl rfl rfl (if_pos (by decide)) ?_
  refine xp_s rfl rfl rfl rfl rfl ?_
  refine xp_s rfl rfl rfl rfl rfl ?_
  refine xp_s rfl rfl rfl rfl rfl ?_
  refine xp_s rfl rfl rfl rfl rfl ?_
  refine xp_s rfl rfl rfl rfl rfl ?_
  refine xp_s rfl rfl rfl rfl rfl ?_
  refine xp_s (pc2 := 37) rfl rfl rfl rfl (if_neg (by decide)) ?_
  refine xp_s rfl rfl rfl rfl rfl ?_
  refine xp_s (pc2 := 97) rfl rfl rfl rfl (if_pos (by decide)) ?_
  refine xp_s rfl rfl rfl rfl rfl ?_
  refine xp_e rfl rfl rfl ⟨_, _, rfl, ?_⟩
  refine xp_s (pc2 := 21) rfl rfl rfl rfl (if_pos (by decide)) ?_
  refine xp_s rfl rfl rfl rfl rfl ?_
  refine xp_s rfl rfl rfl rfl rfl ?_
  refine xp_V (As := [_]) (rest := []) rfl rfl rfl rfl rfl hq15 ⟨⟨by decide, Nat.le_of_ble_eq_true rfl, by decide⟩, by decide, Nat.le_of_ble_eq_true rfl, rfl⟩ ?_
  refine xp_s rfl rfl rfl rfl rfl ?_
  refine xp_get rfl rfl hq15 rfl ?_
  refine xp_s (pc2 := 7) rfl rfl rfl rfl (if_neg (by decide)) ?_
  refine xp_e rfl rfl rfl ⟨_, _, rfl, ?_⟩
  refine xp_e rfl rfl rfl ⟨_, _, rfl, ?_⟩
  refine xp_s rfl rfl rfl rfl rfl ?_
  refine xp_s rfl rfl rfl rfl rfl ?_
  refine xp_s rfl rfl rfl rfl rfl ?_
  refine xp_s (pc2 := 91) rfl rfl rfl rfl (if_neg (by decide)) ?_
  refine xp_s rfl rfl rfl rfl rfl ?_
  refine xp_V (As := []) (rest := []) rfl rfl rfl rfl rfl hq15 ⟨⟨by decide, Nat.le_of_ble_eq_true rfl, by decide⟩, by decide, Nat.le_of_ble_eq_true rfl, rfl⟩ ?_
  refine xp_s rfl rfl rfl rfl rfl ?_
  refine xp_get rfl rfl hq15 rfl ?_
  refine xp_s (pc2 := 7) rfl rfl rfl rfl (if_neg (by decide)) ?_
  refine xp_s rfl rfl rfl rfl rfl ?_
  refine xp_s rfl rfl rfl rfl rfl ?_
  refine xp_e rfl rfl rfl ⟨_, _, rfl, ?_⟩
  refine xp_s (pc2 := 112) rfl rfl rfl rfl (if_pos (by decide)) ?_
  refine xp_s rfl rfl rfl rfl rfl ?_
  refine xp_s rfl rfl rfl rfl rfl ?_
  refine xp_V (As := [_]) (rest := []) rfl rfl rfl rfl rfl hq15 ⟨⟨by decide, Nat.le_of_ble_eq_true rfl, by decide⟩, by decide, Nat.le_of_ble_eq_true rfl, rfl⟩ ?_
  refine xp_s rfl rfl rfl rfl rfl ?_
  refine xp_s rfl rfl rfl rfl rfl ?_
  refine xp_V (As := [_]) (rest := []) rfl rfl rfl rfl rfl hq15 ⟨⟨by decide, Nat.le_of_ble_eq_true rfl, by decide⟩, by decide, Nat.le_of_ble_eq_true rfl, rfl⟩ ?_
  refine xp_s rfl rfl rfl rfl rfl ?_
  refine xp_get rfl rfl hq15 rfl ?_
  refine xp_s (pc2 := 37) rfl rfl rfl rfl (if_pos (by decide)) ?_
  refine xp_s rfl rfl rfl rfl rfl ?_
  refine xp_e rfl rfl rfl ⟨_, _, rfl, ?_⟩
  refine xp_s (pc2 := 21) rfl rfl rfl rfl (if_pos (by decide)) ?_
  refine xp_s rfl rfl rfl rfl rfl ?_
  refine xp_s rfl rfl rfl rfl rfl ?_
  refine xp_V (As := [_]) (rest := []) rfl rfl rfl rfl rfl hq15 ⟨⟨by decide, Nat.le_of_ble_eq_true rfl, by decide⟩, by decide, Nat.le_of_ble_eq_true rfl, rfl⟩ ?_
  refine xp_s rfl rfl rfl rfl rfl ?_
  refine xp_get rfl rfl hq15 rfl ?_
  refine xp_s (pc2 := 7) rfl rfl rfl rfl (if_neg (by decide)) ?_
  refine xp_e rfl rfl rfl ⟨_, _, rfl, ?_⟩
  refine xp_e rfl rfl rfl ⟨_, _, rfl, ?_⟩
  refine xp_s rfl rfl rfl rfl rfl ?_
  refine xp_s rfl rfl rfl rfl rfl ?_
  refine xp_s rfl rfl rfl rfl rfl ?_
  refine xp_s (pc2 := 124) rfl rfl rfl rfl (if_neg (by decide)) ?_
  refine xp_s rfl rfl rfl rfl rfl ?_
  refine xp_V (As := []) (rest := []) rfl rfl rfl rfl rfl hq15 ⟨⟨by decide, Nat.le_of_ble_eq_true rfl, by decide⟩, by decide, Nat.le_of_ble_eq_true rfl, rfl⟩ ?_
  refine xp_s rfl rfl rfl rfl rfl ?_
  refine xp_get rfl rfl hq15 rfl ?_
  refine xp_s (pc2 := 7) rfl rfl rfl rfl (if_neg (by decide)) ?_
  refine xp_s rfl rfl rfl rfl rfl ?_
  refine xp_s rfl rfl rfl rfl rfl ?_
  refine xp_e rfl rfl rfl ⟨_, _, rfl, ?_⟩
  refine xp_s (pc2 := 145) rfl rfl rfl rfl (if_pos (by decide)) ?_
  refine xp_s rfl rfl rfl rfl rfl ?_
  refine xp_s rfl rfl rfl rfl rfl ?_
  refine xp_V (As := [_]) (rest := []) rfl rfl rfl rfl rfl hq15 ⟨⟨by decide, Nat.le_of_ble_eq_true rfl, by decide⟩, by decide, Nat.le_of_ble_eq_true rfl, rfl⟩ ?_
  refine xp_s rfl rfl rfl rfl rfl ?_
  refine xp_s rfl rfl rfl rfl rfl ?_
  refine xp_V (As := [_]) (rest := []) rfl rfl rfl rfl rfl hq15 ⟨⟨by decide, Nat.le_of_ble_eq_true rfl, by decide⟩, by decide, Nat.le_of_ble_eq_true rfl, rfl⟩ ?_
  refine xp_s rfl rfl rfl rfl rfl ?_
  refine xp_get rfl rfl hq15 rfl ?_
  refine xp_s (pc2 := 37) rfl rfl rfl rfl (if_pos (by decide)) ?_
  refine xp_s rfl rfl rfl rfl rfl ?_
  refine xp_e rfl rfl rfl ⟨_, _, rfl, ?_⟩
  refine xp_s (pc2 := 21) rfl rfl rfl rfl (if_pos (by decide)) ?_
  refine xp_s rfl rfl rfl rfl rfl ?_
  refine xp_s rfl rfl rfl rfl rfl ?_
  refine xp_V (As := [_]) (rest := []) rfl rfl rfl rfl rfl hq15 ⟨⟨by decide, Nat.le_of_ble_eq_true rfl, by decide⟩, by decide, Nat.le_of_ble_eq_true rfl, rfl⟩ ?_
  refine xp_s rfl rfl rfl rfl rfl ?_
  refine xp_get rfl rfl hq15 rfl ?_
  refine xp_s (pc2 := 7) rfl rfl rfl rfl (if_neg (by decide)) ?_
  refine xp_e rfl rfl rfl ⟨_, _, rfl, ?_⟩
  refine xp_e rfl rfl rfl ⟨_, _, rfl, ?_⟩
  refine xp_s rfl rfl rfl rfl rfl ?_
  refine xp_V (As := []) (rest := []) rfl rfl rfl rfl rfl hq15 ⟨⟨by decide, Nat.le_of_ble_eq_true rfl, by decide⟩, by decide, Nat.le_of_ble_eq_true rfl, rfl⟩ ?_
  refine xp_s rfl rfl rfl rfl rfl ?_
  refine xp_get rfl rfl hq15 rfl ?_
  refine xp_s (pc2 := 7) rfl rfl rfl rfl (if_neg (by decide)) ?_
  refine xp_s rfl rfl rfl rfl rfl ?_
  refine xp_s rfl rfl rfl rfl rfl ?_
  refine xp_e rfl rfl rfl ⟨_, _, rfl, ?_⟩
  refine xp_s (pc2 := 174) rfl rfl rfl rfl (if_pos (by decide)) ?_
  refine xp_e rfl rfl rfl ⟨_, _, rfl, ?_⟩
  refine xp_s rfl rfl rfl rfl rfl ?_
  refine xp_s rfl rfl rfl rfl rfl ?_
  refine xp_V (As := []) (rest := [_]) rfl rfl rfl rfl rfl hq15 ⟨⟨by decide, Nat.le_of_ble_eq_true rfl, by decide⟩, by decide, Nat.le_of_ble_eq_true rfl, rfl⟩ ?_
  refine xp_s rfl rfl rfl rfl rfl ?_
  refine xp_s rfl rfl rfl rfl rfl ?_
  refine xp_get rfl rfl hq15 rfl ?_
  refine xp_s (pc2 := 12) rfl rfl rfl rfl (if_pos (by decide)) ?_
  refine xp_s rfl rfl rfl rfl rfl ?_
  refine xp_get rfl rfl hq15 rfl ?_
  refine xp_s rfl rfl rfl rfl rfl ?_
  refine xp_s rfl rfl rfl rfl rfl ?_
  refine xp_get rfl rfl hq15 rfl ?_
  refine xp_s rfl rfl rfl rfl rfl ?_
  refine xp_s rfl rfl rfl rfl rfl ?_
  refine xp_put rfl rfl hq15 (by first | decide | exact Nat.le_of_ble_eq_true rfl) (by first | rfl | decide) (by first | rfl | decide) (fun B16 hq16 hs16 hL16 hN16 => ?_)
  have hz16_347 := (hs16 347 (by decide)).trans hz15_347
  have hz16_348 := (hs16 348 (by decide)).trans hz15_348
  refine xp_s rfl rfl rfl rfl rfl ?_
  refine xp_s rfl rfl rfl rfl rfl ?_
  refine xp_put rfl rfl hq16 (by first | decide | exact Nat.le_of_ble_eq_true rfl) (by first | rfl | decide) (by first | rfl | decide) (fun B17 hq17 hs17 hL17 hN17 => ?_)
  have hz17_347 := (hs17 347 (by decide)).trans hz16_347
  have hz17_348 := (hs17 348 (by decide)).trans hz16_348
  refine xp_s rfl rfl rfl rfl rfl ?_
  refine xp_s rfl rfl rfl rfl rfl ?_
  refine xp_get rfl rfl hq17 rfl ?_
  refine xp_s (pc2 := 44) rfl rfl rfl rfl (if_pos (by decide)) ?_
  refine xp_s rfl rfl rfl rfl rfl ?_
  refine xp_put rfl rfl hq17 (by first | decide | exact Nat.le_of_ble_eq_true rfl) (by first | rfl | decide) (by first | rfl | decide) (fun B18 hq18 hs18 hL18 hN18 => ?_)
  have hz18_347 := (hs18 347 (by decide)).trans hz17_347
  have hz18_348 := (hs18 348 (by decide)).trans hz17_348
  refine xp_s rfl rfl rfl rfl rfl ?_
  refine xp_get rfl rfl hq18 rfl ?_
  refine xp_s (pc2 := 59) rfl rfl rfl rfl (if_pos (by decide)) ?_
  refine xp_s rfl rfl rfl rfl rfl ?_
  refine xp_e rfl rfl rfl ⟨_, _, rfl, ?_⟩
  refine xp_put rfl rfl hq18 (by first | decide | exact Nat.le_of_ble_eq_true rfl) (by first | rfl | decide) (by first | rfl | decide) (fun B19 hq19 hs19 hL19 hN19 => ?_)
  have hz19_347 := (hs19 347 (by decide)).trans hz18_347
  have hz19_348 := (hs19 348 (by decide)).trans hz18_348
  refine xp_s rfl rfl rfl rfl rfl ?_
  refine xp_get rfl rfl hq19 rfl ?_
  refine xp_s (pc2 := 59) rfl rfl rfl rfl (if_pos (by decide)) ?_
  refine xp_s rfl rfl rfl rfl rfl ?_
  refine xp_e rfl rfl rfl ?_
  exact ⟨_, _, rfl, hq19, rfl, by omega, by omega⟩

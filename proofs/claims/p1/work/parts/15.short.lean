/-! SHORT RUNS ON FRESH OBJECTS, by program -/
theorem er_problem {A : xi_H} (h0 : A[0]? = some (.inr (0, e_l0))) (h1 : A[1]? = some (.inr (1, e_l1))) (hS : A[331]? = some (.inr (11, e_lS))) : xi_go xi_ms 60 76 15 560 0 (lv_args 0 [.ref 0, .ref 386]) [] A = some (.returned (some (.int 1)), A ++ [.inr (15, List.replicate 6 .null)]) := by
  show xg_P (fun r => r = some (.returned (some (.int 1)), A ++ [.inr (15, List.replicate 6 .null)])) _
  refine xp_s rfl rfl rfl rfl rfl ?_
  refine xp_s rfl rfl rfl rfl rfl ?_
  refine xp_s rfl rfl rfl rfl rfl ?_
  refine xp_VC (As := []) (rest := [_, _]) rfl rfl rfl rfl rfl h0 ⟨⟨by decide, Nat.le_of_ble_eq_true rfl, by decide⟩, by decide, Nat.le_of_ble_eq_true rfl, rfl⟩ rfl (by decide) ?_
  refine xp_s rfl rfl rfl rfl rfl ?_
  refine xp_get rfl rfl h0 rfl ?_
  refine xp_s (pc2 := 7) rfl rfl rfl rfl (if_neg (by decide)) ?_
  refine xp_e rfl rfl (if_pos ⟨rfl, by decide, by decide, by decide, xi_pos h0⟩) ⟨_, _, _, rfl, xi_last _ _, ?_⟩
  refine xp_s rfl rfl rfl rfl rfl ?_
  refine xp_s rfl rfl rfl rfl rfl ?_
  refine xp_e rfl rfl rfl ?_
  rfl
theorem er_plan {A : xi_H} (h0 : A[0]? = some (.inr (0, e_l0))) (h1 : A[1]? = some (.inr (1, e_l1))) (hS : A[331]? = some (.inr (11, e_lS))) (p0 : Int32) : xi_go xi_ms 60 77 15 560 0 (lv_args 0 [.ref 0, .int p0, .ref 386]) [] A = some (.returned (some (.int 1)), A ++ [.inr (15, List.replicate 6 .null)]) := by
  show xg_P (fun r => r = some (.returned (some (.int 1)), A ++ [.inr (15, List.replicate 6 .null)])) _
  refine xp_s rfl rfl rfl rfl rfl ?_
  refine xp_s rfl rfl rfl rfl rfl ?_
  refine xp_s rfl rfl rfl rfl rfl ?_
  refine xp_s rfl rfl rfl rfl rfl ?_
  refine xp_VC (As := [_]) (rest := [_, _]) rfl rfl rfl rfl rfl h0 ⟨⟨by decide, Nat.le_of_ble_eq_true rfl, by decide⟩, by decide, Nat.le_of_ble_eq_true rfl, rfl⟩ rfl (by decide) ?_
  refine xp_s rfl rfl rfl rfl rfl ?_
  refine xp_VT (As := []) (rest := []) rfl rfl rfl rfl rfl h0 ⟨⟨by decide, Nat.le_of_ble_eq_true rfl, by decide⟩, by decide, Nat.le_of_ble_eq_true rfl, rfl⟩ rfl ?_
  refine xp_s rfl rfl rfl rfl rfl ?_
  refine xp_get rfl rfl h0 rfl ?_
  refine xp_s (pc2 := 7) rfl rfl rfl rfl (if_neg (by decide)) ?_
  refine xp_e rfl rfl (if_pos ⟨rfl, by decide, by decide, by decide, xi_pos h0⟩) ⟨_, _, rfl, ⟨_, _, _, rfl, xi_last _ _, ?_⟩⟩
  refine xp_s rfl rfl rfl rfl rfl ?_
  refine xp_s rfl rfl rfl rfl rfl ?_
  refine xp_e rfl rfl rfl ?_
  rfl
theorem er_steps {A : xi_H} (h0 : A[0]? = some (.inr (0, e_l0))) (h1 : A[1]? = some (.inr (1, e_l1))) (hS : A[331]? = some (.inr (11, e_lS))) : xi_go xi_ms 60 78 15 560 0 (lv_args 0 [.ref 0, .ref 386]) [] A = some (.returned (some (.int 1)), A ++ [.inr (17, List.replicate 6 .null)]) := by
  show xg_P (fun r => r = some (.returned (some (.int 1)), A ++ [.inr (17, List.replicate 6 .null)])) _
  refine xp_s rfl rfl rfl rfl rfl ?_
  refine xp_s rfl rfl rfl rfl rfl ?_
  refine xp_s rfl rfl rfl rfl rfl ?_
  refine xp_VC (As := []) (rest := [_, _]) rfl rfl rfl rfl rfl h0 ⟨⟨by decide, Nat.le_of_ble_eq_true rfl, by decide⟩, by decide, Nat.le_of_ble_eq_true rfl, rfl⟩ rfl (by decide) ?_
  refine xp_s rfl rfl rfl rfl rfl ?_
  refine xp_get rfl rfl h0 rfl ?_
  refine xp_V (As := []) (rest := []) rfl rfl rfl rfl rfl hS ⟨⟨by decide, Nat.le_of_ble_eq_true rfl, by decide⟩, by decide, Nat.le_of_ble_eq_true rfl, rfl⟩ ?_
  refine xp_s rfl rfl rfl rfl rfl ?_
  refine xp_get rfl rfl hS rfl ?_
  refine xp_e rfl rfl rfl ⟨_, _, rfl, ?_⟩
  refine xp_s (pc2 := 10) rfl rfl rfl rfl (if_neg (by decide)) ?_
  refine xp_e rfl rfl (if_pos ⟨rfl, by decide, by decide, by decide, xi_pos h0⟩) ⟨_, _, _, rfl, xi_last _ _, ?_⟩
  refine xp_s rfl rfl rfl rfl rfl ?_
  refine xp_s rfl rfl rfl rfl rfl ?_
  refine xp_e rfl rfl rfl ?_
  rfl
theorem er_step {A : xi_H} (h0 : A[0]? = some (.inr (0, e_l0))) (h1 : A[1]? = some (.inr (1, e_l1))) (hS : A[331]? = some (.inr (11, e_lS))) (p0 : Int32) : xi_go xi_ms 60 79 15 560 0 (lv_args 0 [.ref 0, .int p0, .ref 386]) [] A = some (.returned (some (.int 1)), A ++ [.inr (17, List.replicate 6 .null)]) := by
  show xg_P (fun r => r = some (.returned (some (.int 1)), A ++ [.inr (17, List.replicate 6 .null)])) _
  refine xp_s rfl rfl rfl rfl rfl ?_
  refine xp_s rfl rfl rfl rfl rfl ?_
  refine xp_s rfl rfl rfl rfl rfl ?_
  refine xp_s rfl rfl rfl rfl rfl ?_
  refine xp_VC (As := [_]) (rest := [_, _]) rfl rfl rfl rfl rfl h0 ⟨⟨by decide, Nat.le_of_ble_eq_true rfl, by decide⟩, by decide, Nat.le_of_ble_eq_true rfl, rfl⟩ rfl (by decide) ?_
  refine xp_s rfl rfl rfl rfl rfl ?_
  refine xp_get rfl rfl h0 rfl ?_
  refine xp_V (As := []) (rest := []) rfl rfl rfl rfl rfl hS ⟨⟨by decide, Nat.le_of_ble_eq_true rfl, by decide⟩, by decide, Nat.le_of_ble_eq_true rfl, rfl⟩ ?_
  refine xp_s rfl rfl rfl rfl rfl ?_
  refine xp_get rfl rfl hS rfl ?_
  refine xp_e rfl rfl rfl ⟨_, _, rfl, ?_⟩
  refine xp_s (pc2 := 25) rfl rfl rfl rfl (if_pos (by decide)) ?_
  refine xp_e rfl rfl (if_pos ⟨rfl, by decide, by decide, by decide, xi_pos h0⟩) ⟨_, _, _, rfl, xi_last _ _, ?_⟩
  refine xp_s rfl rfl rfl rfl rfl ?_
  refine xp_s rfl rfl rfl rfl rfl ?_
  refine xp_e rfl rfl rfl ?_
  rfl
theorem er_ground {A : xi_H} (h0 : A[0]? = some (.inr (0, e_l0))) (h1 : A[1]? = some (.inr (1, e_l1))) (hS : A[331]? = some (.inr (11, e_lS))) (p0 : Int32) (p1 : Int32) : xi_go xi_ms 60 80 15 560 0 (lv_args 0 [.ref 0, .int p0, .int p1, .ref 386]) [] A = some (.returned (some (.int 1)), A ++ [.inr (17, List.replicate 6 .null)]) := by
  show xg_P (fun r => r = some (.returned (some (.int 1)), A ++ [.inr (17, List.replicate 6 .null)])) _
  refine xp_s rfl rfl rfl rfl rfl ?_
  refine xp_s rfl rfl rfl rfl rfl ?_
  refine xp_s rfl rfl rfl rfl rfl ?_
  refine xp_s rfl rfl rfl rfl rfl ?_
  refine xp_s rfl rfl rfl rfl rfl ?_
  refine xp_VC (As := [_, _]) (rest := [_, _]) rfl rfl rfl rfl rfl h0 ⟨⟨by decide, Nat.le_of_ble_eq_true rfl, by decide⟩, by decide, Nat.le_of_ble_eq_true rfl, rfl⟩ rfl (by decide) ?_
  refine xp_s rfl rfl rfl rfl rfl ?_
  refine xp_s rfl rfl rfl rfl rfl ?_
  refine xp_V (As := [_]) (rest := []) rfl rfl rfl rfl rfl h0 ⟨⟨by decide, Nat.le_of_ble_eq_true rfl, by decide⟩, by decide, Nat.le_of_ble_eq_true rfl, rfl⟩ ?_
  refine xp_s rfl rfl rfl rfl rfl ?_
  refine xp_get rfl rfl h0 rfl ?_
  refine xp_s (pc2 := 26) rfl rfl rfl rfl (if_pos (by decide)) ?_
  refine xp_s rfl rfl rfl rfl rfl ?_
  refine xp_e rfl rfl rfl ⟨_, _, rfl, ?_⟩
  refine xp_s (pc2 := 8) rfl rfl rfl rfl (if_neg (by decide)) ?_
  refine xp_e rfl rfl (if_pos ⟨rfl, by decide, by decide, by decide, xi_pos h0⟩) ⟨_, _, _, rfl, xi_last _ _, ?_⟩
  refine xp_s rfl rfl rfl rfl rfl ?_
  refine xp_s rfl rfl rfl rfl rfl ?_
  refine xp_e rfl rfl rfl ?_
  rfl
theorem er_letter_t {A : xi_H} (h0 : A[0]? = some (.inr (0, e_l0))) (h1 : A[1]? = some (.inr (1, e_l1))) (hS : A[331]? = some (.inr (11, e_lS))) (p0 : Int32) (h : p0 < 0) : xi_go xi_ms 60 81 15 560 0 (lv_args 0 [.ref 0, .int p0, .ref 386]) [] A = some (.returned (some (.int 1)), A ++ [.inr (18, List.replicate 6 .null)]) := by
  show xg_P (fun r => r = some (.returned (some (.int 1)), A ++ [.inr (18, List.replicate 6 .null)])) _
  refine xp_s rfl rfl rfl rfl rfl ?_
  refine xp_s rfl rfl rfl rfl rfl ?_
  refine xp_s rfl rfl rfl rfl rfl ?_
  refine xp_s rfl rfl rfl rfl rfl ?_
  refine xp_VC (As := [_]) (rest := [_, _]) rfl rfl rfl rfl rfl h0 ⟨⟨by decide, Nat.le_of_ble_eq_true rfl, by decide⟩, by decide, Nat.le_of_ble_eq_true rfl, rfl⟩ rfl (by decide) ?_
  refine xp_s rfl rfl rfl rfl rfl ?_
  refine xp_s (pc2 := 12) rfl rfl rfl rfl (if_pos h) ?_
  refine xp_e rfl rfl (if_pos ⟨rfl, by decide, by decide, by decide, xi_pos h0⟩) ⟨_, _, _, rfl, xi_last _ _, ?_⟩
  refine xp_s rfl rfl rfl rfl rfl ?_
  refine xp_s rfl rfl rfl rfl rfl ?_
  refine xp_e rfl rfl rfl ?_
  rfl
theorem er_letter_f {A : xi_H} (h0 : A[0]? = some (.inr (0, e_l0))) (h1 : A[1]? = some (.inr (1, e_l1))) (hS : A[331]? = some (.inr (11, e_lS))) (p0 : Int32) (h : ¬ p0 < 0) : xi_go xi_ms 60 81 15 560 0 (lv_args 0 [.ref 0, .int p0, .ref 386]) [] A = some (.returned (some (.int 1)), A ++ [.inr (18, List.replicate 6 .null)]) := by
  show xg_P (fun r => r = some (.returned (some (.int 1)), A ++ [.inr (18, List.replicate 6 .null)])) _
  refine xp_s rfl rfl rfl rfl rfl ?_
  refine xp_s rfl rfl rfl rfl rfl ?_
  refine xp_s rfl rfl rfl rfl rfl ?_
  refine xp_s rfl rfl rfl rfl rfl ?_
  refine xp_VC (As := [_]) (rest := [_, _]) rfl rfl rfl rfl rfl h0 ⟨⟨by decide, Nat.le_of_ble_eq_true rfl, by decide⟩, by decide, Nat.le_of_ble_eq_true rfl, rfl⟩ rfl (by decide) ?_
  refine xp_s rfl rfl rfl rfl rfl ?_
  refine xp_s (pc2 := 4) rfl rfl rfl rfl (if_neg h) ?_
  refine xp_s rfl rfl rfl rfl rfl ?_
  refine xp_s rfl rfl rfl rfl rfl ?_
  refine xp_get rfl rfl h0 rfl ?_
  refine xp_s (pc2 := 12) rfl rfl rfl rfl (if_neg h) ?_
  refine xp_e rfl rfl (if_pos ⟨rfl, by decide, by decide, by decide, xi_pos h0⟩) ⟨_, _, _, rfl, xi_last _ _, ?_⟩
  refine xp_s rfl rfl rfl rfl rfl ?_
  refine xp_s rfl rfl rfl rfl rfl ?_
  refine xp_e rfl rfl rfl ?_
  rfl
theorem er_check {A : xi_H} (h0 : A[0]? = some (.inr (0, e_l0))) (h1 : A[1]? = some (.inr (1, e_l1))) (hS : A[331]? = some (.inr (11, e_lS))) : xi_go xi_ms 60 82 15 560 0 (lv_args 0 [.ref 0, .ref 386]) [] A = some (.returned (some (.int 1)), A ++ [.inr (15, List.replicate 6 .null)]) := by
  show xg_P (fun r => r = some (.returned (some (.int 1)), A ++ [.inr (15, List.replicate 6 .null)])) _
  refine xp_s rfl rfl rfl rfl rfl ?_
  refine xp_s rfl rfl rfl rfl rfl ?_
  refine xp_s rfl rfl rfl rfl rfl ?_
  refine xp_VC (As := []) (rest := [_, _]) rfl rfl rfl rfl rfl h0 ⟨⟨by decide, Nat.le_of_ble_eq_true rfl, by decide⟩, by decide, Nat.le_of_ble_eq_true rfl, rfl⟩ rfl (by decide) ?_
  refine xp_s rfl rfl rfl rfl rfl ?_
  refine xp_VT (As := []) (rest := []) rfl rfl rfl rfl rfl h0 ⟨⟨by decide, Nat.le_of_ble_eq_true rfl, by decide⟩, by decide, Nat.le_of_ble_eq_true rfl, rfl⟩ rfl ?_
  refine xp_s rfl rfl rfl rfl rfl ?_
  refine xp_get rfl rfl h0 rfl ?_
  refine xp_s (pc2 := 7) rfl rfl rfl rfl (if_neg (by decide)) ?_
  refine xp_e rfl rfl (if_pos ⟨rfl, by decide, by decide, by decide, xi_pos h0⟩) ⟨_, _, rfl, ⟨_, _, _, rfl, xi_last _ _, ?_⟩⟩
  refine xp_s rfl rfl rfl rfl rfl ?_
  refine xp_s rfl rfl rfl rfl rfl ?_
  refine xp_e rfl rfl rfl ?_
  rfl
theorem er_estimate {A : xi_H} (h0 : A[0]? = some (.inr (0, e_l0))) (h1 : A[1]? = some (.inr (1, e_l1))) (hS : A[331]? = some (.inr (11, e_lS))) (p0 : Int32) : xi_go xi_ms 60 83 15 560 0 (lv_args 0 [.ref 0, .int p0, .ref 386]) [] A = some (.returned (some (.int 1)), A ++ [.inr (15, List.replicate 6 .null)]) := by
  show xg_P (fun r => r = some (.returned (some (.int 1)), A ++ [.inr (15, List.replicate 6 .null)])) _
  refine xp_s rfl rfl rfl rfl rfl ?_
  refine xp_s rfl rfl rfl rfl rfl ?_
  refine xp_s rfl rfl rfl rfl rfl ?_
  refine xp_s rfl rfl rfl rfl rfl ?_
  refine xp_VC (As := [_]) (rest := [_, _]) rfl rfl rfl rfl rfl h0 ⟨⟨by decide, Nat.le_of_ble_eq_true rfl, by decide⟩, by decide, Nat.le_of_ble_eq_true rfl, rfl⟩ rfl (by decide) ?_
  refine xp_s rfl rfl rfl rfl rfl ?_
  refine xp_VT (As := []) (rest := []) rfl rfl rfl rfl rfl h0 ⟨⟨by decide, Nat.le_of_ble_eq_true rfl, by decide⟩, by decide, Nat.le_of_ble_eq_true rfl, rfl⟩ rfl ?_
  refine xp_s rfl rfl rfl rfl rfl ?_
  refine xp_get rfl rfl h0 rfl ?_
  refine xp_s (pc2 := 7) rfl rfl rfl rfl (if_neg (by decide)) ?_
  refine xp_e rfl rfl (if_pos ⟨rfl, by decide, by decide, by decide, xi_pos h0⟩) ⟨_, _, rfl, ⟨_, _, _, rfl, xi_last _ _, ?_⟩⟩
  refine xp_s rfl rfl rfl rfl rfl ?_
  refine xp_s rfl rfl rfl rfl rfl ?_
  refine xp_e rfl rfl rfl ?_
  rfl
theorem ec_fault {A : xi_H} (h0 : A[0]? = some (.inr (0, e_l0))) (h1 : A[1]? = some (.inr (1, e_l1))) (hS : A[331]? = some (.inr (11, e_lS))) : xi_go xi_ms 60 4 15 560 0 (lv_args 0 [.ref 0]) [] A = some (.returned (some (.int 0)), A) := by
  show xg_P (fun r => r = some (.returned (some (.int 0)), A)) _
  refine xp_s rfl rfl rfl rfl rfl ?_
  refine xp_get rfl rfl h0 rfl ?_
  refine xp_V (As := []) (rest := []) rfl rfl rfl rfl rfl h1 ⟨⟨by decide, Nat.le_of_ble_eq_true rfl, by decide⟩, by decide, Nat.le_of_ble_eq_true rfl, rfl⟩ ?_
  refine xp_s rfl rfl rfl rfl rfl ?_
  refine xp_get rfl rfl h1 rfl ?_
  refine xp_e rfl rfl rfl ⟨_, _, rfl, ?_⟩
  refine xp_e rfl rfl rfl ?_
  rfl
theorem ec_put {A : xi_H} (h0 : A[0]? = some (.inr (0, e_l0))) (h1 : A[1]? = some (.inr (1, e_l1))) (hS : A[331]? = some (.inr (11, e_lS))) (p0 : Int32) : xi_go xi_ms 60 10 15 560 0 (lv_args 0 [.ref 0, .int p0]) [] A = some (.returned (some (.int 0)), A) := by
  show xg_P (fun r => r = some (.returned (some (.int 0)), A)) _
  refine xp_s rfl rfl rfl rfl rfl ?_
  refine xp_s rfl rfl rfl rfl rfl ?_
  refine xp_V (As := [_]) (rest := []) rfl rfl rfl rfl rfl h0 ⟨⟨by decide, Nat.le_of_ble_eq_true rfl, by decide⟩, by decide, Nat.le_of_ble_eq_true rfl, rfl⟩ ?_
  refine xp_s rfl rfl rfl rfl rfl ?_
  refine xp_get rfl rfl h0 rfl ?_
  refine xp_s (pc2 := 26) rfl rfl rfl rfl (if_pos (by decide)) ?_
  refine xp_s rfl rfl rfl rfl rfl ?_
  refine xp_e rfl rfl rfl ⟨_, _, rfl, ?_⟩
  refine xp_s (pc2 := 17) rfl rfl rfl rfl (if_pos (by decide)) ?_
  refine xp_s rfl rfl rfl rfl rfl ?_
  refine xp_e rfl rfl rfl ?_
  rfl
theorem em_problem {A : xi_H} (hm : A[344]? = some (.inr (13, e_lM))) : ∃ (A2 : xi_H) (fs : List Value), xi_go xi_ms 60 65 15 560 0 (lv_args 0 [.ref 344]) [] A = some (.returned (some (.int 0)), A2) ∧ A2[344]? = some (.inr (13, fs)) ∧ fs[0]? = some (.int 1) ∧ A2.length = A.length ∧ xi_ns A2 = xi_ns A := by
  show xg_P (fun r => ∃ (A2 : xi_H) (fs : List Value), r = some (.returned (some (.int 0)), A2) ∧ A2[344]? = some (.inr (13, fs)) ∧ fs[0]? = some (.int 1) ∧ A2.length = A.length ∧ xi_ns A2 = xi_ns A) _
  refine xp_s rfl rfl rfl rfl rfl ?_
  refine xp_s rfl rfl rfl rfl rfl ?_
  refine xp_get rfl rfl hm rfl ?_
  refine xp_s (pc2 := 12) rfl rfl rfl rfl (if_pos (by decide)) ?_
  refine xp_s rfl rfl rfl rfl rfl ?_
  refine xp_put rfl rfl hm (by first | decide | exact Nat.le_of_ble_eq_true rfl) (by first | rfl | decide) (by first | rfl | decide) (fun B1 hq1 hs1 hL1 hN1 => ?_)
  refine xp_s rfl rfl rfl rfl rfl ?_
  refine xp_get rfl rfl hq1 rfl ?_
  refine xp_s (pc2 := 23) rfl rfl rfl rfl (if_neg (by decide)) ?_
  refine xp_s rfl rfl rfl rfl rfl ?_
  refine xp_e rfl rfl rfl ?_
  exact ⟨_, _, rfl, hq1, rfl, by omega, by omega⟩
theorem em_plan {A : xi_H} (hm : A[344]? = some (.inr (13, e_lM))) (p0 : Int32) : ∃ (A2 : xi_H) (fs : List Value), xi_go xi_ms 60 67 15 560 0 (lv_args 0 [.ref 344, .int p0]) [] A = some (.returned (some (.int 0)), A2) ∧ A2[344]? = some (.inr (13, fs)) ∧ fs[0]? = some (.int 1) ∧ A2.length = A.length ∧ xi_ns A2 = xi_ns A := by
  show xg_P (fun r => ∃ (A2 : xi_H) (fs : List Value), r = some (.returned (some (.int 0)), A2) ∧ A2[344]? = some (.inr (13, fs)) ∧ fs[0]? = some (.int 1) ∧ A2.length = A.length ∧ xi_ns A2 = xi_ns A) _
  refine xp_s rfl rfl rfl rfl rfl ?_
  refine xp_s rfl rfl rfl rfl rfl ?_
  refine xp_get rfl rfl hm rfl ?_
  refine xp_s (pc2 := 8) rfl rfl rfl rfl (if_neg (by decide)) ?_
  refine xp_s rfl rfl rfl rfl rfl ?_
  refine xp_s rfl rfl rfl rfl rfl ?_
  refine xp_put rfl rfl hm (by first | decide | exact Nat.le_of_ble_eq_true rfl) (by first | rfl | decide) (by first | rfl | decide) (fun B1 hq1 hs1 hL1 hN1 => ?_)
  refine xp_s rfl rfl rfl rfl rfl ?_
  refine xp_get rfl rfl hq1 rfl ?_
  refine xp_s (pc2 := 39) rfl rfl rfl rfl (if_neg (by decide)) ?_
  refine xp_s rfl rfl rfl rfl rfl ?_
  refine xp_e rfl rfl rfl ?_
  exact ⟨_, _, rfl, hq1, rfl, by omega, by omega⟩
theorem em_steps {A : xi_H} (hm : A[344]? = some (.inr (13, e_lM))) : ∃ (A2 : xi_H) (fs : List Value), xi_go xi_ms 60 68 15 560 0 (lv_args 0 [.ref 344]) [] A = some (.returned (some (.int 0)), A2) ∧ A2[344]? = some (.inr (13, fs)) ∧ fs[0]? = some (.int 1) ∧ A2.length = A.length ∧ xi_ns A2 = xi_ns A := by
  show xg_P (fun r => ∃ (A2 : xi_H) (fs : List Value), r = some (.returned (some (.int 0)), A2) ∧ A2[344]? = some (.inr (13, fs)) ∧ fs[0]? = some (.int 1) ∧ A2.length = A.length ∧ xi_ns A2 = xi_ns A) _
  refine xp_s rfl rfl rfl rfl rfl ?_
  refine xp_s rfl rfl rfl rfl rfl ?_
  refine xp_get rfl rfl hm rfl ?_
  refine xp_s (pc2 := 12) rfl rfl rfl rfl (if_pos (by decide)) ?_
  refine xp_s rfl rfl rfl rfl rfl ?_
  refine xp_put rfl rfl hm (by first | decide | exact Nat.le_of_ble_eq_true rfl) (by first | rfl | decide) (by first | rfl | decide) (fun B1 hq1 hs1 hL1 hN1 => ?_)
  refine xp_s rfl rfl rfl rfl rfl ?_
  refine xp_get rfl rfl hq1 rfl ?_
  refine xp_s (pc2 := 30) rfl rfl rfl rfl (if_pos (by decide)) ?_
  refine xp_s rfl rfl rfl rfl rfl ?_
  refine xp_e rfl rfl rfl ?_
  exact ⟨_, _, rfl, hq1, rfl, by omega, by omega⟩
theorem em_step {A : xi_H} (hm : A[344]? = some (.inr (13, e_lM))) (p0 : Int32) : ∃ (A2 : xi_H) (fs : List Value), xi_go xi_ms 60 69 15 560 0 (lv_args 0 [.ref 344, .int p0]) [] A = some (.returned (some (.int 0)), A2) ∧ A2[344]? = some (.inr (13, fs)) ∧ fs[0]? = some (.int 1) ∧ A2.length = A.length ∧ xi_ns A2 = xi_ns A := by
  show xg_P (fun r => ∃ (A2 : xi_H) (fs : List Value), r = some (.returned (some (.int 0)), A2) ∧ A2[344]? = some (.inr (13, fs)) ∧ fs[0]? = some (.int 1) ∧ A2.length = A.length ∧ xi_ns A2 = xi_ns A) _
  refine xp_s rfl rfl rfl rfl rfl ?_
  refine xp_s rfl rfl rfl rfl rfl ?_
  refine xp_get rfl rfl hm rfl ?_
  refine xp_s (pc2 := 20) rfl rfl rfl rfl (if_pos (by decide)) ?_
  refine xp_s rfl rfl rfl rfl rfl ?_
  refine xp_s rfl rfl rfl rfl rfl ?_
  refine xp_put rfl rfl hm (by first | decide | exact Nat.le_of_ble_eq_true rfl) (by first | rfl | decide) (by first | rfl | decide) (fun B1 hq1 hs1 hL1 hN1 => ?_)
  refine xp_s rfl rfl rfl rfl rfl ?_
  refine xp_get rfl rfl hq1 rfl ?_
  refine xp_s (pc2 := 35) rfl rfl rfl rfl (if_neg (by decide)) ?_
  refine xp_s rfl rfl rfl rfl rfl ?_
  refine xp_s rfl rfl rfl rfl rfl ?_
  refine xp_e rfl rfl rfl ?_
  exact ⟨_, _, rfl, hq1, rfl, by omega, by omega⟩
theorem em_ground {A : xi_H} (hm : A[344]? = some (.inr (13, e_lM))) (p0 : Int32) (p1 : Int32) : ∃ (A2 : xi_H) (fs : List Value), xi_go xi_ms 60 70 15 560 0 (lv_args 0 [.ref 344, .int p0, .int p1]) [] A = some (.returned (some (.int 0)), A2) ∧ A2[344]? = some (.inr (13, fs)) ∧ fs[0]? = some (.int 1) ∧ A2.length = A.length ∧ xi_ns A2 = xi_ns A := by
  show xg_P (fun r => ∃ (A2 : xi_H) (fs : List Value), r = some (.returned (some (.int 0)), A2) ∧ A2[344]? = some (.inr (13, fs)) ∧ fs[0]? = some (.int 1) ∧ A2.length = A.length ∧ xi_ns A2 = xi_ns A) _
  refine xp_s rfl rfl rfl rfl rfl ?_
  refine xp_s rfl rfl rfl rfl rfl ?_
  refine xp_get rfl rfl hm rfl ?_
  refine xp_s (pc2 := 20) rfl rfl rfl rfl (if_pos (by decide)) ?_
  refine xp_s rfl rfl rfl rfl rfl ?_
  refine xp_s rfl rfl rfl rfl rfl ?_
  refine xp_put rfl rfl hm (by first | decide | exact Nat.le_of_ble_eq_true rfl) (by first | rfl | decide) (by first | rfl | decide) (fun B1 hq1 hs1 hL1 hN1 => ?_)
  refine xp_s rfl rfl rfl rfl rfl ?_
  refine xp_get rfl rfl hq1 rfl ?_
  refine xp_s (pc2 := 48) rfl rfl rfl rfl (if_neg (by decide)) ?_
  refine xp_s rfl rfl rfl rfl rfl ?_
  refine xp_e rfl rfl rfl ?_
  exact ⟨_, _, rfl, hq1, rfl, by omega, by omega⟩
theorem em_letter_t {A : xi_H} (hm : A[344]? = some (.inr (13, e_lM))) (p0 : Int32) (h : p0 < 0) : ∃ (A2 : xi_H) (fs : List Value), xi_go xi_ms 60 71 15 560 0 (lv_args 0 [.ref 344, .int p0]) [] A = some (.returned (some (.int 0)), A2) ∧ A2[344]? = some (.inr (13, fs)) ∧ fs[0]? = some (.int 1) ∧ A2.length = A.length ∧ xi_ns A2 = xi_ns A := by
  show xg_P (fun r => ∃ (A2 : xi_H) (fs : List Value), r = some (.returned (some (.int 0)), A2) ∧ A2[344]? = some (.inr (13, fs)) ∧ fs[0]? = some (.int 1) ∧ A2.length = A.length ∧ xi_ns A2 = xi_ns A) _
  refine xp_s rfl rfl rfl rfl rfl ?_
  refine xp_s rfl rfl rfl rfl rfl ?_
  refine xp_put rfl rfl hm (by first | decide | exact Nat.le_of_ble_eq_true rfl) (by first | rfl | decide) (by first | rfl | decide) (fun B1 hq1 hs1 hL1 hN1 => ?_)
  refine xp_s rfl rfl rfl rfl rfl ?_
  refine xp_s rfl rfl rfl rfl rfl ?_
  refine xp_put rfl rfl hq1 (by first | decide | exact Nat.le_of_ble_eq_true rfl) (by first | rfl | decide) (by first | rfl | decide) (fun B2 hq2 hs2 hL2 hN2 => ?_)
  refine xp_s rfl rfl rfl rfl rfl ?_
  refine xp_s rfl rfl rfl rfl rfl ?_
  refine xp_s rfl rfl rfl rfl rfl ?_
  refine xp_s rfl rfl rfl rfl rfl ?_
  refine xp_get rfl rfl hq2 rfl ?_
  refine xp_s (pc2 := 124) rfl rfl rfl rfl (if_pos (by decide)) ?_
  refine xp_s rfl rfl rfl rfl rfl ?_
  refine xp_s rfl rfl rfl rfl rfl ?_
  refine xp_s (pc2 := 144) rfl rfl rfl rfl (if_pos h) ?_
  refine xp_s rfl rfl rfl rfl rfl ?_
  refine xp_s rfl rfl rfl rfl rfl ?_
  refine xp_put rfl rfl hq2 (by first | decide | exact Nat.le_of_ble_eq_true rfl) (by first | rfl | decide) (by first | rfl | decide) (fun B3 hq3 hs3 hL3 hN3 => ?_)
  refine xp_s rfl rfl rfl rfl rfl ?_
  refine xp_get rfl rfl hq3 rfl ?_
  refine xp_s (pc2 := 159) rfl rfl rfl rfl (if_neg (by decide)) ?_
  refine xp_s rfl rfl rfl rfl rfl ?_
  refine xp_s rfl rfl rfl rfl rfl ?_
  refine xp_e rfl rfl rfl ?_
  exact ⟨_, _, rfl, hq3, rfl, by omega, by omega⟩
theorem em_letter_f {A : xi_H} (hm : A[344]? = some (.inr (13, e_lM))) (p0 : Int32) (h : ¬ p0 < 0) : ∃ (A2 : xi_H) (fs : List Value), xi_go xi_ms 60 71 15 560 0 (lv_args 0 [.ref 344, .int p0]) [] A = some (.returned (some (.int 0)), A2) ∧ A2[344]? = some (.inr (13, fs)) ∧ fs[0]? = some (.int 1) ∧ A2.length = A.length ∧ xi_ns A2 = xi_ns A := by
  show xg_P (fun r => ∃ (A2 : xi_H) (fs : List Value), r = some (.returned (some (.int 0)), A2) ∧ A2[344]? = some (.inr (13, fs)) ∧ fs[0]? = some (.int 1) ∧ A2.length = A.length ∧ xi_ns A2 = xi_ns A) _
  refine xp_s rfl rfl rfl rfl rfl ?_
  refine xp_s rfl rfl rfl rfl rfl ?_
  refine xp_put rfl rfl hm (by first | decide | exact Nat.le_of_ble_eq_true rfl) (by first | rfl | decide) (by first | rfl | decide) (fun B1 hq1 hs1 hL1 hN1 => ?_)
  refine xp_s rfl rfl rfl rfl rfl ?_
  refine xp_s rfl rfl rfl rfl rfl ?_
  refine xp_put rfl rfl hq1 (by first | decide | exact Nat.le_of_ble_eq_true rfl) (by first | rfl | decide) (by first | rfl | decide) (fun B2 hq2 hs2 hL2 hN2 => ?_)
  refine xp_s rfl rfl rfl rfl rfl ?_
  refine xp_s rfl rfl rfl rfl rfl ?_
  refine xp_s rfl rfl rfl rfl rfl ?_
  refine xp_s rfl rfl rfl rfl rfl ?_
  refine xp_get rfl rfl hq2 rfl ?_
  refine xp_s (pc2 := 124) rfl rfl rfl rfl (if_pos (by decide)) ?_
  refine xp_s rfl rfl rfl rfl rfl ?_
  refine xp_s rfl rfl rfl rfl rfl ?_
  refine xp_s (pc2 := 129) rfl rfl rfl rfl (if_neg h) ?_
  refine xp_s rfl rfl rfl rfl rfl ?_
  refine xp_s rfl rfl rfl rfl rfl ?_
  refine xp_get rfl rfl hq2 rfl ?_
  refine xp_s (pc2 := 144) rfl rfl rfl rfl (if_pos (Int32.not_lt.mp h)) ?_
  refine xp_s rfl rfl rfl rfl rfl ?_
  refine xp_s rfl rfl rfl rfl rfl ?_
  refine xp_put rfl rfl hq2 (by first | decide | exact Nat.le_of_ble_eq_true rfl) (by first | rfl | decide) (by first | rfl | decide) (fun B3 hq3 hs3 hL3 hN3 => ?_)
  refine xp_s rfl rfl rfl rfl rfl ?_
  refine xp_get rfl rfl hq3 rfl ?_
  refine xp_s (pc2 := 159) rfl rfl rfl rfl (if_neg (by decide)) ?_
  refine xp_s rfl rfl rfl rfl rfl ?_
  refine xp_s rfl rfl rfl rfl rfl ?_
  refine xp_e rfl rfl rfl ?_
  exact ⟨_, _, rfl, hq3, rfl, by omega, by omega⟩
theorem em_check {A : xi_H} (hm : A[344]? = some (.inr (13, e_lM))) : ∃ (A2 : xi_H) (fs : List Value), xi_go xi_ms 60 73 15 560 0 (lv_args 0 [.ref 344]) [] A = some (.returned (some (.int 0)), A2) ∧ A2[344]? = some (.inr (13, fs)) ∧ fs[0]? = some (.int 1) ∧ A2.length = A.length ∧ xi_ns A2 = xi_ns A := by
  show xg_P (fun r => ∃ (A2 : xi_H) (fs : List Value), r = some (.returned (some (.int 0)), A2) ∧ A2[344]? = some (.inr (13, fs)) ∧ fs[0]? = some (.int 1) ∧ A2.length = A.length ∧ xi_ns A2 = xi_ns A) _
  refine xp_s rfl rfl rfl rfl rfl ?_
  refine xp_s rfl rfl rfl rfl rfl ?_
  refine xp_get rfl rfl hm rfl ?_
  refine xp_s (pc2 := 12) rfl rfl rfl rfl (if_pos (by decide)) ?_
  refine xp_s rfl rfl rfl rfl rfl ?_
  refine xp_put rfl rfl hm (by first | decide | exact Nat.le_of_ble_eq_true rfl) (by first | rfl | decide) (by first | rfl | decide) (fun B1 hq1 hs1 hL1 hN1 => ?_)
  refine xp_s rfl rfl rfl rfl rfl ?_
  refine xp_get rfl rfl hq1 rfl ?_
  refine xp_s (pc2 := 23) rfl rfl rfl rfl (if_neg (by decide)) ?_
  refine xp_s rfl rfl rfl rfl rfl ?_
  refine xp_e rfl rfl rfl ?_
  exact ⟨_, _, rfl, hq1, rfl, by omega, by omega⟩
theorem em_estimate {A : xi_H} (hm : A[344]? = some (.inr (13, e_lM))) (p0 : Int32) : ∃ (A2 : xi_H) (fs : List Value), xi_go xi_ms 60 74 15 560 0 (lv_args 0 [.ref 344, .int p0]) [] A = some (.returned (some (.int 0)), A2) ∧ A2[344]? = some (.inr (13, fs)) ∧ fs[0]? = some (.int 1) ∧ A2.length = A.length ∧ xi_ns A2 = xi_ns A := by
  show xg_P (fun r => ∃ (A2 : xi_H) (fs : List Value), r = some (.returned (some (.int 0)), A2) ∧ A2[344]? = some (.inr (13, fs)) ∧ fs[0]? = some (.int 1) ∧ A2.length = A.length ∧ xi_ns A2 = xi_ns A) _
  refine xp_s rfl rfl rfl rfl rfl ?_
  refine xp_s rfl rfl rfl rfl rfl ?_
  refine xp_get rfl rfl hm rfl ?_
  refine xp_s (pc2 := 8) rfl rfl rfl rfl (if_neg (by decide)) ?_
  refine xp_s rfl rfl rfl rfl rfl ?_
  refine xp_s rfl rfl rfl rfl rfl ?_
  refine xp_put rfl rfl hm (by first | decide | exact Nat.le_of_ble_eq_true rfl) (by first | rfl | decide) (by first | rfl | decide) (fun B1 hq1 hs1 hL1 hN1 => ?_)
  refine xp_s rfl rfl rfl rfl rfl ?_
  refine xp_get rfl rfl hq1 rfl ?_
  refine xp_s (pc2 := 36) rfl rfl rfl rfl (if_neg (by decide)) ?_
  refine xp_s rfl rfl rfl rfl rfl ?_
  refine xp_e rfl rfl rfl ?_
  exact ⟨_, _, rfl, hq1, rfl, by omega, by omega⟩
theorem em_fault {A : xi_H} (hm : A[344]? = some (.inr (13, e_lM))) : ∃ (A2 : xi_H) (fs : List Value), xi_go xi_ms 60 66 15 560 0 (lv_args 0 [.ref 344]) [] A = some (.returned (some (.int 0)), A2) ∧ A2[344]? = some (.inr (13, fs)) ∧ fs[0]? = some (.int 0) ∧ A2.length = A.length ∧ xi_ns A2 = xi_ns A := by
  show xg_P (fun r => ∃ (A2 : xi_H) (fs : List Value), r = some (.returned (some (.int 0)), A2) ∧ A2[344]? = some (.inr (13, fs)) ∧ fs[0]? = some (.int 0) ∧ A2.length = A.length ∧ xi_ns A2 = xi_ns A) _
  refine xp_s rfl rfl rfl rfl rfl ?_
  refine xp_s rfl rfl rfl rfl rfl ?_
  refine xp_put rfl rfl hm (by first | decide | exact Nat.le_of_ble_eq_true rfl) (by first | rfl | decide) (by first | rfl | decide) (fun B1 hq1 hs1 hL1 hN1 => ?_)
  refine xp_s rfl rfl rfl rfl rfl ?_
  refine xp_get rfl rfl hq1 rfl ?_
  refine xp_e rfl rfl rfl ?_
  exact ⟨_, _, rfl, hq1, rfl, by omega, by omega⟩
theorem em_put {A : xi_H} (hm : A[344]? = some (.inr (13, e_lM))) (p0 : Int32) : ∃ (A2 : xi_H) (fs : List Value), xi_go xi_ms 60 72 15 560 0 (lv_args 0 [.ref 344, .int p0]) [] A = some (.returned (some (.int 0)), A2) ∧ A2[344]? = some (.inr (13, fs)) ∧ fs[0]? = some (.int 0) ∧ A2.length = A.length ∧ xi_ns A2 = xi_ns A := by
  show xg_P (fun r => ∃ (A2 : xi_H) (fs : List Value), r = some (.returned (some (.int 0)), A2) ∧ A2[344]? = some (.inr (13, fs)) ∧ fs[0]? = some (.int 0) ∧ A2.length = A.length ∧ xi_ns A2 = xi_ns A) _
  refine xp_s rfl rfl rfl rfl rfl ?_
  refine xp_s rfl rfl rfl rfl rfl ?_
  refine xp_put rfl rfl hm (by first | decide | exact Nat.le_of_ble_eq_true rfl) (by first | rfl | decide) (by first | rfl | decide) (fun B1 hq1 hs1 hL1 hN1 => ?_)
  refine xp_s rfl rfl rfl rfl rfl ?_
  refine xp_get rfl rfl hq1 rfl ?_
  refine xp_s (pc2 := 33) rfl rfl rfl rfl (if_pos (by decide)) ?_
  refine xp_s rfl rfl rfl rfl rfl ?_
  refine xp_e rfl rfl rfl ?_
  exact ⟨_, _, rfl, hq1, rfl, by omega, by omega⟩
theorem em_thrown {A : xi_H} {fs : List Value} {v : Int32} (hm : A[344]? = some (.inr (13, fs))) (hv : fs[0]? = some (.int v)) : xi_go xi_ms 60 46 15 560 0 (lv_args 0 [.ref 344]) [] A = some (.returned (some (.int v)), A) := by
  refine xg_s rfl rfl rfl rfl rfl ?_
  refine xg_get rfl rfl hm hv ?_
  exact xg_e rfl rfl (if_pos rfl)

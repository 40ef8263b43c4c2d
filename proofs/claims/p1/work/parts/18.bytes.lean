theorem xp_irem {P : Option (Outcome × xi_H) → Prop} {Ms : List xi_M} {n y fr lo pc : Nat} {M : xi_M} {lv : xi_L} {r : List Value} {A : xi_H} {nx : Nat} {aux : List Nat} {a b v : Int32} (hM : Ms[y]? = some M) (hrow : xi_row M.2.2.2.2.1 pc = some (.irem, nx, aux)) (hne : ¬ b = 0) (hv : a - a / b * b = v) (hk : xg_P P (xi_go Ms n y fr lo nx lv (.int v :: r) A)) : xg_P P (xi_go Ms (n + 1) y fr lo pc lv (.int b :: .int a :: r) A) := by
  subst hv
  refine xp_s (pc' := nx) (lv' := lv) (st' := .int (a - a / b * b) :: r) (A' := A) hM hrow rfl ?_ rfl hk
  simp only [xi_s]
  rw [if_neg hne]
theorem xp_top {P : Option (Outcome × xi_H) → Prop} {Ms : List xi_M} {n y fr lo pc : Nat} {lv : xi_L} {r : List Value} {A : xi_H} {x y1 : Int32} (h : x = y1) (hk : xg_P P (xi_go Ms n y fr lo pc lv (.int y1 :: r) A)) : xg_P P (xi_go Ms n y fr lo pc lv (.int x :: r) A) := by
  subst h
  exact hk
/-! the reference's text() -/
def tx_k (p q r s t : Int32) (i : Nat) : Int32 := tx_b (if i < 4 then p else if i < 8 then q else if i < 12 then r else if i < 16 then s else t) (24 - 8 * (i % 4))
theorem eb_0 {A : xi_H} {n fr lo : Nat} (p q r s t : Int32) : xi_go xi_ms (n + 60) 48 fr lo 0 (lv_args 0 [.int (nI 0), .int p, .int q, .int r, .int s, .int t]) [] A = some (.returned (some (.int (tx_b p 24))), A) := by
  show xg_P (fun x => x = some (.returned (some (.int (tx_b p 24))), A)) _
  refine xp_s rfl rfl rfl rfl rfl ?_
  refine xp_s rfl rfl rfl rfl rfl ?_
  refine xp_s (pc2 := 5) rfl rfl rfl rfl (if_neg (by decide)) ?_
  refine xp_s rfl rfl rfl rfl rfl ?_
  refine xp_s rfl rfl rfl rfl rfl ?_
  refine xp_s rfl rfl rfl rfl rfl ?_
  refine xp_s rfl rfl rfl rfl rfl ?_
  refine xp_s rfl rfl rfl rfl rfl ?_
  refine xp_s rfl rfl rfl rfl rfl ?_
  refine xp_s rfl rfl rfl rfl rfl ?_
  refine xp_s rfl rfl rfl rfl rfl ?_
  refine xp_irem (v := 0) rfl rfl (by decide) (by decide) ?_
  refine xp_s rfl rfl rfl rfl rfl ?_
  refine xp_top (y1 := nI 0) (by decide) ?_
  refine xp_s rfl rfl rfl rfl rfl ?_
  refine xp_top (y1 := nI 24) (by decide) ?_
  refine xp_s rfl rfl rfl rfl rfl ?_
  refine xp_s rfl rfl rfl rfl rfl ?_
  refine xp_s rfl rfl rfl rfl rfl ?_
  refine xp_e rfl rfl (if_pos rfl) ?_
  rfl
theorem eb_1 {A : xi_H} {n fr lo : Nat} (p q r s t : Int32) : xi_go xi_ms (n + 60) 48 fr lo 0 (lv_args 0 [.int (nI 1), .int p, .int q, .int r, .int s, .int t]) [] A = some (.returned (some (.int (tx_b p 16))), A) := by
  show xg_P (fun x => x = some (.returned (some (.int (tx_b p 16))), A)) _
  refine xp_s rfl rfl rfl rfl rfl ?_
  refine xp_s rfl rfl rfl rfl rfl ?_
  refine xp_s (pc2 := 5) rfl rfl rfl rfl (if_neg (by decide)) ?_
  refine xp_s rfl rfl rfl rfl rfl ?_
  refine xp_s rfl rfl rfl rfl rfl ?_
  refine xp_s rfl rfl rfl rfl rfl ?_
  refine xp_s rfl rfl rfl rfl rfl ?_
  refine xp_s rfl rfl rfl rfl rfl ?_
  refine xp_s rfl rfl rfl rfl rfl ?_
  refine xp_s rfl rfl rfl rfl rfl ?_
  refine xp_s rfl rfl rfl rfl rfl ?_
  refine xp_irem (v := 1) rfl rfl (by decide) (by decide) ?_
  refine xp_s rfl rfl rfl rfl rfl ?_
  refine xp_top (y1 := nI 8) (by decide) ?_
  refine xp_s rfl rfl rfl rfl rfl ?_
  refine xp_top (y1 := nI 16) (by decide) ?_
  refine xp_s rfl rfl rfl rfl rfl ?_
  refine xp_s rfl rfl rfl rfl rfl ?_
  refine xp_s rfl rfl rfl rfl rfl ?_
  refine xp_e rfl rfl (if_pos rfl) ?_
  rfl
theorem eb_2 {A : xi_H} {n fr lo : Nat} (p q r s t : Int32) : xi_go xi_ms (n + 60) 48 fr lo 0 (lv_args 0 [.int (nI 2), .int p, .int q, .int r, .int s, .int t]) [] A = some (.returned (some (.int (tx_b p 8))), A) := by
  show xg_P (fun x => x = some (.returned (some (.int (tx_b p 8))), A)) _
  refine xp_s rfl rfl rfl rfl rfl ?_
  refine xp_s rfl rfl rfl rfl rfl ?_
  refine xp_s (pc2 := 5) rfl rfl rfl rfl (if_neg (by decide)) ?_
  refine xp_s rfl rfl rfl rfl rfl ?_
  refine xp_s rfl rfl rfl rfl rfl ?_
  refine xp_s rfl rfl rfl rfl rfl ?_
  refine xp_s rfl rfl rfl rfl rfl ?_
  refine xp_s rfl rfl rfl rfl rfl ?_
  refine xp_s rfl rfl rfl rfl rfl ?_
  refine xp_s rfl rfl rfl rfl rfl ?_
  refine xp_s rfl rfl rfl rfl rfl ?_
  refine xp_irem (v := 2) rfl rfl (by decide) (by decide) ?_
  refine xp_s rfl rfl rfl rfl rfl ?_
  refine xp_top (y1 := nI 16) (by decide) ?_
  refine xp_s rfl rfl rfl rfl rfl ?_
  refine xp_top (y1 := nI 8) (by decide) ?_
  refine xp_s rfl rfl rfl rfl rfl ?_
  refine xp_s rfl rfl rfl rfl rfl ?_
  refine xp_s rfl rfl rfl rfl rfl ?_
  refine xp_e rfl rfl (if_pos rfl) ?_
  rfl
theorem eb_3 {A : xi_H} {n fr lo : Nat} (p q r s t : Int32) : xi_go xi_ms (n + 60) 48 fr lo 0 (lv_args 0 [.int (nI 3), .int p, .int q, .int r, .int s, .int t]) [] A = some (.returned (some (.int (tx_b p 0))), A) := by
  show xg_P (fun x => x = some (.returned (some (.int (tx_b p 0))), A)) _
  refine xp_s rfl rfl rfl rfl rfl ?_
  refine xp_s rfl rfl rfl rfl rfl ?_
  refine xp_s (pc2 := 5) rfl rfl rfl rfl (if_neg (by decide)) ?_
  refine xp_s rfl rfl rfl rfl rfl ?_
  refine xp_s rfl rfl rfl rfl rfl ?_
  refine xp_s rfl rfl rfl rfl rfl ?_
  refine xp_s rfl rfl rfl rfl rfl ?_
  refine xp_s rfl rfl rfl rfl rfl ?_
  refine xp_s rfl rfl rfl rfl rfl ?_
  refine xp_s rfl rfl rfl rfl rfl ?_
  refine xp_s rfl rfl rfl rfl rfl ?_
  refine xp_irem (v := 3) rfl rfl (by decide) (by decide) ?_
  refine xp_s rfl rfl rfl rfl rfl ?_
  refine xp_top (y1 := nI 24) (by decide) ?_
  refine xp_s rfl rfl rfl rfl rfl ?_
  refine xp_top (y1 := nI 0) (by decide) ?_
  refine xp_s rfl rfl rfl rfl rfl ?_
  refine xp_s rfl rfl rfl rfl rfl ?_
  refine xp_s rfl rfl rfl rfl rfl ?_
  refine xp_e rfl rfl (if_pos rfl) ?_
  rfl
theorem eb_4 {A : xi_H} {n fr lo : Nat} (p q r s t : Int32) : xi_go xi_ms (n + 60) 48 fr lo 0 (lv_args 0 [.int (nI 4), .int p, .int q, .int r, .int s, .int t]) [] A = some (.returned (some (.int (tx_b q 24))), A) := by
  show xg_P (fun x => x = some (.returned (some (.int (tx_b q 24))), A)) _
  refine xp_s rfl rfl rfl rfl rfl ?_
  refine xp_s rfl rfl rfl rfl rfl ?_
  refine xp_s (pc2 := 9) rfl rfl rfl rfl (if_pos (by decide)) ?_
  refine xp_s rfl rfl rfl rfl rfl ?_
  refine xp_s rfl rfl rfl rfl rfl ?_
  refine xp_s (pc2 := 15) rfl rfl rfl rfl (if_neg (by decide)) ?_
  refine xp_s rfl rfl rfl rfl rfl ?_
  refine xp_s rfl rfl rfl rfl rfl ?_
  refine xp_s rfl rfl rfl rfl rfl ?_
  refine xp_s rfl rfl rfl rfl rfl ?_
  refine xp_s rfl rfl rfl rfl rfl ?_
  refine xp_s rfl rfl rfl rfl rfl ?_
  refine xp_s rfl rfl rfl rfl rfl ?_
  refine xp_s rfl rfl rfl rfl rfl ?_
  refine xp_irem (v := 0) rfl rfl (by decide) (by decide) ?_
  refine xp_s rfl rfl rfl rfl rfl ?_
  refine xp_top (y1 := nI 0) (by decide) ?_
  refine xp_s rfl rfl rfl rfl rfl ?_
  refine xp_top (y1 := nI 24) (by decide) ?_
  refine xp_s rfl rfl rfl rfl rfl ?_
  refine xp_s rfl rfl rfl rfl rfl ?_
  refine xp_s rfl rfl rfl rfl rfl ?_
  refine xp_e rfl rfl (if_pos rfl) ?_
  rfl
theorem eb_5 {A : xi_H} {n fr lo : Nat} (p q r s t : Int32) : xi_go xi_ms (n + 60) 48 fr lo 0 (lv_args 0 [.int (nI 5), .int p, .int q, .int r, .int s, .int t]) [] A = some (.returned (some (.int (tx_b q 16))), A) := by
  show xg_P (fun x => x = some (.returned (some (.int (tx_b q 16))), A)) _
  refine xp_s rfl rfl rfl rfl rfl ?_
  refine xp_s rfl rfl rfl rfl rfl ?_
  refine xp_s (pc2 := 9) rfl rfl rfl rfl (if_pos (by decide)) ?_
  refine xp_s rfl rfl rfl rfl rfl ?_
  refine xp_s rfl rfl rfl rfl rfl ?_
  refine xp_s (pc2 := 15) rfl rfl rfl rfl (if_neg (by decide)) ?_
  refine xp_s rfl rfl rfl rfl rfl ?_
  refine xp_s rfl rfl rfl rfl rfl ?_
  refine xp_s rfl rfl rfl rfl rfl ?_
  refine xp_s rfl rfl rfl rfl rfl ?_
  refine xp_s rfl rfl rfl rfl rfl ?_
  refine xp_s rfl rfl rfl rfl rfl ?_
  refine xp_s rfl rfl rfl rfl rfl ?_
  refine xp_s rfl rfl rfl rfl rfl ?_
  refine xp_irem (v := 1) rfl rfl (by decide) (by decide) ?_
  refine xp_s rfl rfl rfl rfl rfl ?_
  refine xp_top (y1 := nI 8) (by decide) ?_
  refine xp_s rfl rfl rfl rfl rfl ?_
  refine xp_top (y1 := nI 16) (by decide) ?_
  refine xp_s rfl rfl rfl rfl rfl ?_
  refine xp_s rfl rfl rfl rfl rfl ?_
  refine xp_s rfl rfl rfl rfl rfl ?_
  refine xp_e rfl rfl (if_pos rfl) ?_
  rfl
theorem eb_6 {A : xi_H} {n fr lo : Nat} (p q r s t : Int32) : xi_go xi_ms (n + 60) 48 fr lo 0 (lv_args 0 [.int (nI 6), .int p, .int q, .int r, .int s, .int t]) [] A = some (.returned (some (.int (tx_b q 8))), A) := by
  show xg_P (fun x => x = some (.returned (some (.int (tx_b q 8))), A)) _
  refine xp_s rfl rfl rfl rfl rfl ?_
  refine xp_s rfl rfl rfl rfl rfl ?_
  refine xp_s (pc2 := 9) rfl rfl rfl rfl (if_pos (by decide)) ?_
  refine xp_s rfl rfl rfl rfl rfl ?_
  refine xp_s rfl rfl rfl rfl rfl ?_
  refine xp_s (pc2 := 15) rfl rfl rfl rfl (if_neg (by decide)) ?_
  refine xp_s rfl rfl rfl rfl rfl ?_
  refine xp_s rfl rfl rfl rfl rfl ?_
  refine xp_s rfl rfl rfl rfl rfl ?_
  refine xp_s rfl rfl rfl rfl rfl ?_
  refine xp_s rfl rfl rfl rfl rfl ?_
  refine xp_s rfl rfl rfl rfl rfl ?_
  refine xp_s rfl rfl rfl rfl rfl ?_
  refine xp_s rfl rfl rfl rfl rfl ?_
  refine xp_irem (v := 2) rfl rfl (by decide) (by decide) ?_
  refine xp_s rfl rfl rfl rfl rfl ?_
  refine xp_top (y1 := nI 16) (by decide) ?_
  refine xp_s rfl rfl rfl rfl rfl ?_
  refine xp_top (y1 := nI 8) (by decide) ?_
  refine xp_s rfl rfl rfl rfl rfl ?_
  refine xp_s rfl rfl rfl rfl rfl ?_
  refine xp_s rfl rfl rfl rfl rfl ?_
  refine xp_e rfl rfl (if_pos rfl) ?_
  rfl
theorem eb_7 {A : xi_H} {n fr lo : Nat} (p q r s t : Int32) : xi_go xi_ms (n + 60) 48 fr lo 0 (lv_args 0 [.int (nI 7), .int p, .int q, .int r, .int s, .int t]) [] A = some (.returned (some (.int (tx_b q 0))), A) := by
  show xg_P (fun x => x = some (.returned (some (.int (tx_b q 0))), A)) _
  refine xp_s rfl rfl rfl rfl rfl ?_
  refine xp_s rfl rfl rfl rfl rfl ?_
  refine xp_s (pc2 := 9) rfl rfl rfl rfl (if_pos (by decide)) ?_
  refine xp_s rfl rfl rfl rfl rfl ?_
  refine xp_s rfl rfl rfl rfl rfl ?_
  refine xp_s (pc2 := 15) rfl rfl rfl rfl (if_neg (by decide)) ?_
  refine xp_s rfl rfl rfl rfl rfl ?_
  refine xp_s rfl rfl rfl rfl rfl ?_
  refine xp_s rfl rfl rfl rfl rfl ?_
  refine xp_s rfl rfl rfl rfl rfl ?_
  refine xp_s rfl rfl rfl rfl rfl ?_
  refine xp_s rfl rfl rfl rfl rfl ?_
  refine xp_s rfl rfl rfl rfl rfl ?_
  refine xp_s rfl rfl rfl rfl rfl ?_
  refine xp_irem (v := 3) rfl rfl (by decide) (by decide) ?_
  refine xp_s rfl rfl rfl rfl rfl ?_
  refine xp_top (y1 := nI 24) (by decide) ?_
  refine xp_s rfl rfl rfl rfl rfl ?_
  refine xp_top (y1 := nI 0) (by decide) ?_
  refine xp_s rfl rfl rfl rfl rfl ?_
  refine xp_s rfl rfl rfl rfl rfl ?_
  refine xp_s rfl rfl rfl rfl rfl ?_
  refine xp_e rfl rfl (if_pos rfl) ?_
  rfl
theorem eb_8 {A : xi_H} {n fr lo : Nat} (p q r s t : Int32) : xi_go xi_ms (n + 60) 48 fr lo 0 (lv_args 0 [.int (nI 8), .int p, .int q, .int r, .int s, .int t]) [] A = some (.returned (some (.int (tx_b r 24))), A) := by
  show xg_P (fun x => x = some (.returned (some (.int (tx_b r 24))), A)) _
  refine xp_s rfl rfl rfl rfl rfl ?_
  refine xp_s rfl rfl rfl rfl rfl ?_
  refine xp_s (pc2 := 9) rfl rfl rfl rfl (if_pos (by decide)) ?_
  refine xp_s rfl rfl rfl rfl rfl ?_
  refine xp_s rfl rfl rfl rfl rfl ?_
  refine xp_s (pc2 := 19) rfl rfl rfl rfl (if_pos (by decide)) ?_
  refine xp_s rfl rfl rfl rfl rfl ?_
  refine xp_s rfl rfl rfl rfl rfl ?_
  refine xp_s (pc2 := 25) rfl rfl rfl rfl (if_neg (by decide)) ?_
  refine xp_s rfl rfl rfl rfl rfl ?_
  refine xp_s rfl rfl rfl rfl rfl ?_
  refine xp_s rfl rfl rfl rfl rfl ?_
  refine xp_s rfl rfl rfl rfl rfl ?_
  refine xp_s rfl rfl rfl rfl rfl ?_
  refine xp_s rfl rfl rfl rfl rfl ?_
  refine xp_s rfl rfl rfl rfl rfl ?_
  refine xp_s rfl rfl rfl rfl rfl ?_
  refine xp_irem (v := 0) rfl rfl (by decide) (by decide) ?_
  refine xp_s rfl rfl rfl rfl rfl ?_
  refine xp_top (y1 := nI 0) (by decide) ?_
  refine xp_s rfl rfl rfl rfl rfl ?_
  refine xp_top (y1 := nI 24) (by decide) ?_
  refine xp_s rfl rfl rfl rfl rfl ?_
  refine xp_s rfl rfl rfl rfl rfl ?_
  refine xp_s rfl rfl rfl rfl rfl ?_
  refine xp_e rfl rfl (if_pos rfl) ?_
  rfl
theorem eb_9 {A : xi_H} {n fr lo : Nat} (p q r s t : Int32) : xi_go xi_ms (n + 60) 48 fr lo 0 (lv_args 0 [.int (nI 9), .int p, .int q, .int r, .int s, .int t]) [] A = some (.returned (some (.int (tx_b r 16))), A) := by
  show xg_P (fun x => x = some (.returned (some (.int (tx_b r 16))), A)) _
  refine xp_s rfl rfl rfl rfl rfl ?_
  refine xp_s rfl rfl rfl rfl rfl ?_
  refine xp_s (pc2 := 9) rfl rfl rfl rfl (if_pos (by decide)) ?_
  refine xp_s rfl rfl rfl rfl rfl ?_
  refine xp_s rfl rfl rfl rfl rfl ?_
  refine xp_s (pc2 := 19) rfl rfl rfl rfl (if_pos (by decide)) ?_
  refine xp_s rfl rfl rfl rfl rfl ?_
  refine xp_s rfl rfl rfl rfl rfl ?_
  refine xp_s (pc2 := 25) rfl rfl rfl rfl (if_neg (by decide)) ?_
  refine xp_s rfl rfl rfl rfl rfl ?_
  refine xp_s rfl rfl rfl rfl rfl ?_
  refine xp_s rfl rfl rfl rfl rfl ?_
  refine xp_s rfl rfl rfl rfl rfl ?_
  refine xp_s rfl rfl rfl rfl rfl ?_
  refine xp_s rfl rfl rfl rfl rfl ?_
  refine xp_s rfl rfl rfl rfl rfl ?_
  refine xp_s rfl rfl rfl rfl rfl ?_
  refine xp_irem (v := 1) rfl rfl (by decide) (by decide) ?_
  refine xp_s rfl rfl rfl rfl rfl ?_
  refine xp_top (y1 := nI 8) (by decide) ?_
  refine xp_s rfl rfl rfl rfl rfl ?_
  refine xp_top (y1 := nI 16) (by decide) ?_
  refine xp_s rfl rfl rfl rfl rfl ?_
  refine xp_s rfl rfl rfl rfl rfl ?_
  refine xp_s rfl rfl rfl rfl rfl ?_
  refine xp_e rfl rfl (if_pos rfl) ?_
  rfl
theorem eb_10 {A : xi_H} {n fr lo : Nat} (p q r s t : Int32) : xi_go xi_ms (n + 60) 48 fr lo 0 (lv_args 0 [.int (nI 10), .int p, .int q, .int r, .int s, .int t]) [] A = some (.returned (some (.int (tx_b r 8))), A) := by
  show xg_P (fun x => x = some (.returned (some (.int (tx_b r 8))), A)) _
  refine xp_s rfl rfl rfl rfl rfl ?_
  refine xp_s rfl rfl rfl rfl rfl ?_
  refine xp_s (pc2 := 9) rfl rfl rfl rfl (if_pos (by decide)) ?_
  refine xp_s rfl rfl rfl rfl rfl ?_
  refine xp_s rfl rfl rfl rfl rfl ?_
  refine xp_s (pc2 := 19) rfl rfl rfl rfl (if_pos (by decide)) ?_
  refine xp_s rfl rfl rfl rfl rfl ?_
  refine xp_s rfl rfl rfl rfl rfl ?_
  refine xp_s (pc2 := 25) rfl rfl rfl rfl (if_neg (by decide)) ?_
  refine xp_s rfl rfl rfl rfl rfl ?_
  refine xp_s rfl rfl rfl rfl rfl ?_
  refine xp_s rfl rfl rfl rfl rfl ?_
  refine xp_s rfl rfl rfl rfl rfl ?_
  refine xp_s rfl rfl rfl rfl rfl ?_
  refine xp_s rfl rfl rfl rfl rfl ?_
  refine xp_s rfl rfl rfl rfl rfl ?_
  refine xp_s rfl rfl rfl rfl rfl ?_
  refine xp_irem (v := 2) rfl rfl (by decide) (by decide) ?_
  refine xp_s rfl rfl rfl rfl rfl ?_
  refine xp_top (y1 := nI 16) (by decide) ?_
  refine xp_s rfl rfl rfl rfl rfl ?_
  refine xp_top (y1 := nI 8) (by decide) ?_
  refine xp_s rfl rfl rfl rfl rfl ?_
  refine xp_s rfl rfl rfl rfl rfl ?_
  refine xp_s rfl rfl rfl rfl rfl ?_
  refine xp_e rfl rfl (if_pos rfl) ?_
  rfl
theorem eb_11 {A : xi_H} {n fr lo : Nat} (p q r s t : Int32) : xi_go xi_ms (n + 60) 48 fr lo 0 (lv_args 0 [.int (nI 11), .int p, .int q, .int r, .int s, .int t]) [] A = some (.returned (some (.int (tx_b r 0))), A) := by
  show xg_P (fun x => x = some (.returned (some (.int (tx_b r 0))), A)) _
  refine xp_s rfl rfl rfl rfl rfl ?_
  refine xp_s rfl rfl rfl rfl rfl ?_
  refine xp_s (pc2 := 9) rfl rfl rfl rfl (if_pos (by decide)) ?_
  refine xp_s rfl rfl rfl rfl rfl ?_
  refine xp_s rfl rfl rfl rfl rfl ?_
  refine xp_s (pc2 := 19) rfl rfl rfl rfl (if_pos (by decide)) ?_
  refine xp_s rfl rfl rfl rfl rfl ?_
  refine xp_s rfl rfl rfl rfl rfl ?_
  refine xp_s (pc2 := 25) rfl rfl rfl rfl (if_neg (by decide)) ?_
  refine xp_s rfl rfl rfl rfl rfl ?_
  refine xp_s rfl rfl rfl rfl rfl ?_
  refine xp_s rfl rfl rfl rfl rfl ?_
  refine xp_s rfl rfl rfl rfl rfl ?_
  refine xp_s rfl rfl rfl rfl rfl ?_
  refine xp_s rfl rfl rfl rfl rfl ?_
  refine xp_s rfl rfl rfl rfl rfl ?_
  refine xp_s rfl rfl rfl rfl rfl ?_
  refine xp_irem (v := 3) rfl rfl (by decide) (by decide) ?_
  refine xp_s rfl rfl rfl rfl rfl ?_
  refine xp_top (y1 := nI 24) (by decide) ?_
  refine xp_s rfl rfl rfl rfl rfl ?_
  refine xp_top (y1 := nI 0) (by decide) ?_
  refine xp_s rfl rfl rfl rfl rfl ?_
  refine xp_s rfl rfl rfl rfl rfl ?_
  refine xp_s rfl rfl rfl rfl rfl ?_
  refine xp_e rfl rfl (if_pos rfl) ?_
  rfl
theorem eb_12 {A : xi_H} {n fr lo : Nat} (p q r s t : Int32) : xi_go xi_ms (n + 60) 48 fr lo 0 (lv_args 0 [.int (nI 12), .int p, .int q, .int r, .int s, .int t]) [] A = some (.returned (some (.int (tx_b s 24))), A) := by
  show xg_P (fun x => x = some (.returned (some (.int (tx_b s 24))), A)) _
  refine xp_s rfl rfl rfl rfl rfl ?_
  refine xp_s rfl rfl rfl rfl rfl ?_
  refine xp_s (pc2 := 9) rfl rfl rfl rfl (if_pos (by decide)) ?_
  refine xp_s rfl rfl rfl rfl rfl ?_
  refine xp_s rfl rfl rfl rfl rfl ?_
  refine xp_s (pc2 := 19) rfl rfl rfl rfl (if_pos (by decide)) ?_
  refine xp_s rfl rfl rfl rfl rfl ?_
  refine xp_s rfl rfl rfl rfl rfl ?_
  refine xp_s (pc2 := 29) rfl rfl rfl rfl (if_pos (by decide)) ?_
  refine xp_s rfl rfl rfl rfl rfl ?_
  refine xp_s rfl rfl rfl rfl rfl ?_
  refine xp_s (pc2 := 35) rfl rfl rfl rfl (if_neg (by decide)) ?_
  refine xp_s rfl rfl rfl rfl rfl ?_
  refine xp_s rfl rfl rfl rfl rfl ?_
  refine xp_s rfl rfl rfl rfl rfl ?_
  refine xp_s rfl rfl rfl rfl rfl ?_
  refine xp_s rfl rfl rfl rfl rfl ?_
  refine xp_s rfl rfl rfl rfl rfl ?_
  refine xp_s rfl rfl rfl rfl rfl ?_
  refine xp_s rfl rfl rfl rfl rfl ?_
  refine xp_irem (v := 0) rfl rfl (by decide) (by decide) ?_
  refine xp_s rfl rfl rfl rfl rfl ?_
  refine xp_top (y1 := nI 0) (by decide) ?_
  refine xp_s rfl rfl rfl rfl rfl ?_
  refine xp_top (y1 := nI 24) (by decide) ?_
  refine xp_s rfl rfl rfl rfl rfl ?_
  refine xp_s rfl rfl rfl rfl rfl ?_
  refine xp_s rfl rfl rfl rfl rfl ?_
  refine xp_e rfl rfl (if_pos rfl) ?_
  rfl
theorem eb_13 {A : xi_H} {n fr lo : Nat} (p q r s t : Int32) : xi_go xi_ms (n + 60) 48 fr lo 0 (lv_args 0 [.int (nI 13), .int p, .int q, .int r, .int s, .int t]) [] A = some (.returned (some (.int (tx_b s 16))), A) := by
  show xg_P (fun x => x = some (.returned (some (.int (tx_b s 16))), A)) _
  refine xp_s rfl rfl rfl rfl rfl ?_
  refine xp_s rfl rfl rfl rfl rfl ?_
  refine xp_s (pc2 := 9) rfl rfl rfl rfl (if_pos (by decide)) ?_
  refine xp_s rfl rfl rfl rfl rfl ?_
  refine xp_s rfl rfl rfl rfl rfl ?_
  refine xp_s (pc2 := 19) rfl rfl rfl rfl (if_pos (by decide)) ?_
  refine xp_s rfl rfl rfl rfl rfl ?_
  refine xp_s rfl rfl rfl rfl rfl ?_
  refine xp_s (pc2 := 29) rfl rfl rfl rfl (if_pos (by decide)) ?_
  refine xp_s rfl rfl rfl rfl rfl ?_
  refine xp_s rfl rfl rfl rfl rfl ?_
  refine xp_s (pc2 := 35) rfl rfl rfl rfl (if_neg (by decide)) ?_
  refine xp_s rfl rfl rfl rfl rfl ?_
  refine xp_s rfl rfl rfl rfl rfl ?_
  refine xp_s rfl rfl rfl rfl rfl ?_
  refine xp_s rfl rfl rfl rfl rfl ?_
  refine xp_s rfl rfl rfl rfl rfl ?_
  refine xp_s rfl rfl rfl rfl rfl ?_
  refine xp_s rfl rfl rfl rfl rfl ?_
  refine xp_s rfl rfl rfl rfl rfl ?_
  refine xp_irem (v := 1) rfl rfl (by decide) (by decide) ?_
  refine xp_s rfl rfl rfl rfl rfl ?_
  refine xp_top (y1 := nI 8) (by decide) ?_
  refine xp_s rfl rfl rfl rfl rfl ?_
  refine xp_top (y1 := nI 16) (by decide) ?_
  refine xp_s rfl rfl rfl rfl rfl ?_
  refine xp_s rfl rfl rfl rfl rfl ?_
  refine xp_s rfl rfl rfl rfl rfl ?_
  refine xp_e rfl rfl (if_pos rfl) ?_
  rfl
theorem eb_14 {A : xi_H} {n fr lo : Nat} (p q r s t : Int32) : xi_go xi_ms (n + 60) 48 fr lo 0 (lv_args 0 [.int (nI 14), .int p, .int q, .int r, .int s, .int t]) [] A = some (.returned (some (.int (tx_b s 8))), A) := by
  show xg_P (fun x => x = some (.returned (some (.int (tx_b s 8))), A)) _
  refine xp_s rfl rfl rfl rfl rfl ?_
  refine xp_s rfl rfl rfl rfl rfl ?_
  refine xp_s (pc2 := 9) rfl rfl rfl rfl (if_pos (by decide)) ?_
  refine xp_s rfl rfl rfl rfl rfl ?_
  refine xp_s rfl rfl rfl rfl rfl ?_
  refine xp_s (pc2 := 19) rfl rfl rfl rfl (if_pos (by decide)) ?_
  refine xp_s rfl rfl rfl rfl rfl ?_
  refine xp_s rfl rfl rfl rfl rfl ?_
  refine xp_s (pc2 := 29) rfl rfl rfl rfl (if_pos (by decide)) ?_
  refine xp_s rfl rfl rfl rfl rfl ?_
  refine xp_s rfl rfl rfl rfl rfl ?_
  refine xp_s (pc2 := 35) rfl rfl rfl rfl (if_neg (by decide)) ?_
  refine xp_s rfl rfl rfl rfl rfl ?_
  refine xp_s rfl rfl rfl rfl rfl ?_
  refine xp_s rfl rfl rfl rfl rfl ?_
  refine xp_s rfl rfl rfl rfl rfl ?_
  refine xp_s rfl rfl rfl rfl rfl ?_
  refine xp_s rfl rfl rfl rfl rfl ?_
  refine xp_s rfl rfl rfl rfl rfl ?_
  refine xp_s rfl rfl rfl rfl rfl ?_
  refine xp_irem (v := 2) rfl rfl (by decide) (by decide) ?_
  refine xp_s rfl rfl rfl rfl rfl ?_
  refine xp_top (y1 := nI 16) (by decide) ?_
  refine xp_s rfl rfl rfl rfl rfl ?_
  refine xp_top (y1 := nI 8) (by decide) ?_
  refine xp_s rfl rfl rfl rfl rfl ?_
  refine xp_s rfl rfl rfl rfl rfl ?_
  refine xp_s rfl rfl rfl rfl rfl ?_
  refine xp_e rfl rfl (if_pos rfl) ?_
  rfl
theorem eb_15 {A : xi_H} {n fr lo : Nat} (p q r s t : Int32) : xi_go xi_ms (n + 60) 48 fr lo 0 (lv_args 0 [.int (nI 15), .int p, .int q, .int r, .int s, .int t]) [] A = some (.returned (some (.int (tx_b s 0))), A) := by
  show xg_P (fun x => x = some (.returned (some (.int (tx_b s 0))), A)) _
  refine xp_s rfl rfl rfl rfl rfl ?_
  refine xp_s rfl rfl rfl rfl rfl ?_
  refine xp_s (pc2 := 9) rfl rfl rfl rfl (if_pos (by decide)) ?_
  refine xp_s rfl rfl rfl rfl rfl ?_
  refine xp_s rfl rfl rfl rfl rfl ?_
  refine xp_s (pc2 := 19) rfl rfl rfl rfl (if_pos (by decide)) ?_
  refine xp_s rfl rfl rfl rfl rfl ?_
  refine xp_s rfl rfl rfl rfl rfl ?_
  refine xp_s (pc2 := 29) rfl rfl rfl rfl (if_pos (by decide)) ?_
  refine xp_s rfl rfl rfl rfl rfl ?_
  refine xp_s rfl rfl rfl rfl rfl ?_
  refine xp_s (pc2 := 35) rfl rfl rfl rfl (if_neg (by decide)) ?_
  refine xp_s rfl rfl rfl rfl rfl ?_
  refine xp_s rfl rfl rfl rfl rfl ?_
  refine xp_s rfl rfl rfl rfl rfl ?_
  refine xp_s rfl rfl rfl rfl rfl ?_
  refine xp_s rfl rfl rfl rfl rfl ?_
  refine xp_s rfl rfl rfl rfl rfl ?_
  refine xp_s rfl rfl rfl rfl rfl ?_
  refine xp_s rfl rfl rfl rfl rfl ?_
  refine xp_irem (v := 3) rfl rfl (by decide) (by decide) ?_
  refine xp_s rfl rfl rfl rfl rfl ?_
  refine xp_top (y1 := nI 24) (by decide) ?_
  refine xp_s rfl rfl rfl rfl rfl ?_
  refine xp_top (y1 := nI 0) (by decide) ?_
  refine xp_s rfl rfl rfl rfl rfl ?_
  refine xp_s rfl rfl rfl rfl rfl ?_
  refine xp_s rfl rfl rfl rfl rfl ?_
  refine xp_e rfl rfl (if_pos rfl) ?_
  rfl
theorem eb_16 {A : xi_H} {n fr lo : Nat} (p q r s t : Int32) : xi_go xi_ms (n + 60) 48 fr lo 0 (lv_args 0 [.int (nI 16), .int p, .int q, .int r, .int s, .int t]) [] A = some (.returned (some (.int (tx_b t 24))), A) := by
  show xg_P (fun x => x = some (.returned (some (.int (tx_b t 24))), A)) _
  refine xp_s rfl rfl rfl rfl rfl ?_
  refine xp_s rfl rfl rfl rfl rfl ?_
  refine xp_s (pc2 := 9) rfl rfl rfl rfl (if_pos (by decide)) ?_
  refine xp_s rfl rfl rfl rfl rfl ?_
  refine xp_s rfl rfl rfl rfl rfl ?_
  refine xp_s (pc2 := 19) rfl rfl rfl rfl (if_pos (by decide)) ?_
  refine xp_s rfl rfl rfl rfl rfl ?_
  refine xp_s rfl rfl rfl rfl rfl ?_
  refine xp_s (pc2 := 29) rfl rfl rfl rfl (if_pos (by decide)) ?_
  refine xp_s rfl rfl rfl rfl rfl ?_
  refine xp_s rfl rfl rfl rfl rfl ?_
  refine xp_s (pc2 := 40) rfl rfl rfl rfl (if_pos (by decide)) ?_
  refine xp_s rfl rfl rfl rfl rfl ?_
  refine xp_s rfl rfl rfl rfl rfl ?_
  refine xp_s rfl rfl rfl rfl rfl ?_
  refine xp_s rfl rfl rfl rfl rfl ?_
  refine xp_s rfl rfl rfl rfl rfl ?_
  refine xp_s rfl rfl rfl rfl rfl ?_
  refine xp_s rfl rfl rfl rfl rfl ?_
  refine xp_irem (v := 0) rfl rfl (by decide) (by decide) ?_
  refine xp_s rfl rfl rfl rfl rfl ?_
  refine xp_top (y1 := nI 0) (by decide) ?_
  refine xp_s rfl rfl rfl rfl rfl ?_
  refine xp_top (y1 := nI 24) (by decide) ?_
  refine xp_s rfl rfl rfl rfl rfl ?_
  refine xp_s rfl rfl rfl rfl rfl ?_
  refine xp_s rfl rfl rfl rfl rfl ?_
  refine xp_e rfl rfl (if_pos rfl) ?_
  rfl
theorem eb_17 {A : xi_H} {n fr lo : Nat} (p q r s t : Int32) : xi_go xi_ms (n + 60) 48 fr lo 0 (lv_args 0 [.int (nI 17), .int p, .int q, .int r, .int s, .int t]) [] A = some (.returned (some (.int (tx_b t 16))), A) := by
  show xg_P (fun x => x = some (.returned (some (.int (tx_b t 16))), A)) _
  refine xp_s rfl rfl rfl rfl rfl ?_
  refine xp_s rfl rfl rfl rfl rfl ?_
  refine xp_s (pc2 := 9) rfl rfl rfl rfl (if_pos (by decide)) ?_
  refine xp_s rfl rfl rfl rfl rfl ?_
  refine xp_s rfl rfl rfl rfl rfl ?_
  refine xp_s (pc2 := 19) rfl rfl rfl rfl (if_pos (by decide)) ?_
  refine xp_s rfl rfl rfl rfl rfl ?_
  refine xp_s rfl rfl rfl rfl rfl ?_
  refine xp_s (pc2 := 29) rfl rfl rfl rfl (if_pos (by decide)) ?_
  refine xp_s rfl rfl rfl rfl rfl ?_
  refine xp_s rfl rfl rfl rfl rfl ?_
  refine xp_s (pc2 := 40) rfl rfl rfl rfl (if_pos (by decide)) ?_
  refine xp_s rfl rfl rfl rfl rfl ?_
  refine xp_s rfl rfl rfl rfl rfl ?_
  refine xp_s rfl rfl rfl rfl rfl ?_
  refine xp_s rfl rfl rfl rfl rfl ?_
  refine xp_s rfl rfl rfl rfl rfl ?_
  refine xp_s rfl rfl rfl rfl rfl ?_
  refine xp_s rfl rfl rfl rfl rfl ?_
  refine xp_irem (v := 1) rfl rfl (by decide) (by decide) ?_
  refine xp_s rfl rfl rfl rfl rfl ?_
  refine xp_top (y1 := nI 8) (by decide) ?_
  refine xp_s rfl rfl rfl rfl rfl ?_
  refine xp_top (y1 := nI 16) (by decide) ?_
  refine xp_s rfl rfl rfl rfl rfl ?_
  refine xp_s rfl rfl rfl rfl rfl ?_
  refine xp_s rfl rfl rfl rfl rfl ?_
  refine xp_e rfl rfl (if_pos rfl) ?_
  rfl
theorem eb_18 {A : xi_H} {n fr lo : Nat} (p q r s t : Int32) : xi_go xi_ms (n + 60) 48 fr lo 0 (lv_args 0 [.int (nI 18), .int p, .int q, .int r, .int s, .int t]) [] A = some (.returned (some (.int (tx_b t 8))), A) := by
  show xg_P (fun x => x = some (.returned (some (.int (tx_b t 8))), A)) _
  refine xp_s rfl rfl rfl rfl rfl ?_
  refine xp_s rfl rfl rfl rfl rfl ?_
  refine xp_s (pc2 := 9) rfl rfl rfl rfl (if_pos (by decide)) ?_
  refine xp_s rfl rfl rfl rfl rfl ?_
  refine xp_s rfl rfl rfl rfl rfl ?_
  refine xp_s (pc2 := 19) rfl rfl rfl rfl (if_pos (by decide)) ?_
  refine xp_s rfl rfl rfl rfl rfl ?_
  refine xp_s rfl rfl rfl rfl rfl ?_
  refine xp_s (pc2 := 29) rfl rfl rfl rfl (if_pos (by decide)) ?_
  refine xp_s rfl rfl rfl rfl rfl ?_
  refine xp_s rfl rfl rfl rfl rfl ?_
  refine xp_s (pc2 := 40) rfl rfl rfl rfl (if_pos (by decide)) ?_
  refine xp_s rfl rfl rfl rfl rfl ?_
  refine xp_s rfl rfl rfl rfl rfl ?_
  refine xp_s rfl rfl rfl rfl rfl ?_
  refine xp_s rfl rfl rfl rfl rfl ?_
  refine xp_s rfl rfl rfl rfl rfl ?_
  refine xp_s rfl rfl rfl rfl rfl ?_
  refine xp_s rfl rfl rfl rfl rfl ?_
  refine xp_irem (v := 2) rfl rfl (by decide) (by decide) ?_
  refine xp_s rfl rfl rfl rfl rfl ?_
  refine xp_top (y1 := nI 16) (by decide) ?_
  refine xp_s rfl rfl rfl rfl rfl ?_
  refine xp_top (y1 := nI 8) (by decide) ?_
  refine xp_s rfl rfl rfl rfl rfl ?_
  refine xp_s rfl rfl rfl rfl rfl ?_
  refine xp_s rfl rfl rfl rfl rfl ?_
  refine xp_e rfl rfl (if_pos rfl) ?_
  rfl
theorem eb_19 {A : xi_H} {n fr lo : Nat} (p q r s t : Int32) : xi_go xi_ms (n + 60) 48 fr lo 0 (lv_args 0 [.int (nI 19), .int p, .int q, .int r, .int s, .int t]) [] A = some (.returned (some (.int (tx_b t 0))), A) := by
  show xg_P (fun x => x = some (.returned (some (.int (tx_b t 0))), A)) _
  refine xp_s rfl rfl rfl rfl rfl ?_
  refine xp_s rfl rfl rfl rfl rfl ?_
  refine xp_s (pc2 := 9) rfl rfl rfl rfl (if_pos (by decide)) ?_
  refine xp_s rfl rfl rfl rfl rfl ?_
  refine xp_s rfl rfl rfl rfl rfl ?_
  refine xp_s (pc2 := 19) rfl rfl rfl rfl (if_pos (by decide)) ?_
  refine xp_s rfl rfl rfl rfl rfl ?_
  refine xp_s rfl rfl rfl rfl rfl ?_
  refine xp_s (pc2 := 29) rfl rfl rfl rfl (if_pos (by decide)) ?_
  refine xp_s rfl rfl rfl rfl rfl ?_
  refine xp_s rfl rfl rfl rfl rfl ?_
  refine xp_s (pc2 := 40) rfl rfl rfl rfl (if_pos (by decide)) ?_
  refine xp_s rfl rfl rfl rfl rfl ?_
  refine xp_s rfl rfl rfl rfl rfl ?_
  refine xp_s rfl rfl rfl rfl rfl ?_
  refine xp_s rfl rfl rfl rfl rfl ?_
  refine xp_s rfl rfl rfl rfl rfl ?_
  refine xp_s rfl rfl rfl rfl rfl ?_
  refine xp_s rfl rfl rfl rfl rfl ?_
  refine xp_irem (v := 3) rfl rfl (by decide) (by decide) ?_
  refine xp_s rfl rfl rfl rfl rfl ?_
  refine xp_top (y1 := nI 24) (by decide) ?_
  refine xp_s rfl rfl rfl rfl rfl ?_
  refine xp_top (y1 := nI 0) (by decide) ?_
  refine xp_s rfl rfl rfl rfl rfl ?_
  refine xp_s rfl rfl rfl rfl rfl ?_
  refine xp_s rfl rfl rfl rfl rfl ?_
  refine xp_e rfl rfl (if_pos rfl) ?_
  rfl
theorem eb {A : xi_H} {n fr lo : Nat} (p q r s t : Int32) : ∀ i : Nat, i < 20 → xi_go xi_ms (n + 60) 48 fr lo 0 (lv_args 0 [.int (nI i), .int p, .int q, .int r, .int s, .int t]) [] A = some (.returned (some (.int (tx_k p q r s t i))), A)
  | 0, _ => eb_0 p q r s t
  | 1, _ => eb_1 p q r s t
  | 2, _ => eb_2 p q r s t
  | 3, _ => eb_3 p q r s t
  | 4, _ => eb_4 p q r s t
  | 5, _ => eb_5 p q r s t
  | 6, _ => eb_6 p q r s t
  | 7, _ => eb_7 p q r s t
  | 8, _ => eb_8 p q r s t
  | 9, _ => eb_9 p q r s t
  | 10, _ => eb_10 p q r s t
  | 11, _ => eb_11 p q r s t
  | 12, _ => eb_12 p q r s t
  | 13, _ => eb_13 p q r s t
  | 14, _ => eb_14 p q r s t
  | 15, _ => eb_15 p q r s t
  | 16, _ => eb_16 p q r s t
  | 17, _ => eb_17 p q r s t
  | 18, _ => eb_18 p q r s t
  | 19, _ => eb_19 p q r s t
  | i + 20, h => absurd h (by omega)

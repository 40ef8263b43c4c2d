def tx_a (p q r s t : Int32) : Nat → Nat → Bool
  | _, 0 => true
  | i, d + 1 => tx_g (tx_k p q r s t i) && tx_a p q r s t (i + 1) d
theorem tx_a_all (p q r s t : Int32) : tx_a p q r s t 0 20 = (tx_4 p && (tx_4 q && (tx_4 r && (tx_4 s && tx_4 t)))) := by
  simp [tx_a, tx_k, tx_4, Bool.and_assoc]
theorem em_loop1 {P : Option (Outcome × xi_H) → Prop} (hP : ¬ P none) {A : xi_H} {n : Nat} {fs : List Value} (hm : A[344]? = some (.inr (13, fs))) {p q r s t : Int32} : ∀ (d i mm : Nat) (gd : Bool) (c : Int32), d + i = 20 → mm ≤ i →
    (∀ (m2 : Nat) (c2 : Int32), m2 ≤ 20 → xg_P P (xi_go xi_ms n 47 15 560 87 ((8, .int (nI 20)) :: (7, .int (tx_i (gd && tx_a p q r s t i d))) :: (6, .int (nI m2)) :: (9, .int c2) :: lv_args 0 [.ref 344, .int p, .int q, .int r, .int s, .int t]) [] A)) →
    xg_P P (xi_go xi_ms (n + 3 + 100 * d) 47 15 560 14 ((8, .int (nI i)) :: (7, .int (tx_i gd)) :: (6, .int (nI mm)) :: (9, .int c) :: lv_args 0 [.ref 344, .int p, .int q, .int r, .int s, .int t]) [] A) := by
  intro d
  induction d with
  | zero =>
    intro i mm gd c hd hmm hk
    have hi : i = 20 := by omega
    subst hi
    refine xp_s rfl rfl rfl rfl rfl ?_
    refine xp_s rfl rfl rfl rfl rfl ?_
    refine xp_s (pc2 := 87) rfl rfl rfl rfl (if_pos (nI_le (Nat.le_refl 20) (by omega))) ?_
    have h1 := hk mm c hmm
    rw [show (gd && tx_a p q r s t 20 0) = gd by simp [tx_a]] at h1
    exact h1
  | succ d ih =>
    intro i mm gd c hd hmm hk
    rw [show n + 3 + 100 * (d + 1) = n + 3 + 100 * d + 100 by omega]
    refine em_iterN hP hm (by omega) (fun mm2 h2 => ?_)
    refine ih (i + 1) mm2 _ _ (by omega) (by omega) (fun m2 c2 h3 => ?_)
    have h1 := hk m2 c2 h3
    rw [show (gd && tx_a p q r s t i (d + 1)) = ((gd && tx_g (tx_k p q r s t i)) && tx_a p q r s t (i + 1) d) by simp [tx_a, Bool.and_assoc]] at h1
    exact h1
def tx_M (A : xi_H) (k : Nat) : Prop := k ≤ 100 ∧ A[344]? = some (.inr (13, (e_lM.set 0 (.int 0)).set 1 (.int (nI k)))) ∧ ∃ f, A[345]? = some (.inl (0, 600, .inl f))
def tx_F2 (A A2 : xi_H) : Prop := A2.length = A.length ∧ xi_ns A2 = xi_ns A

theorem em_cpF {P : Option (Outcome × xi_H) → Prop} (hP : ¬ P none) {A : xi_H} {n i k : Nat} (hM : tx_M A k) (hi : i < 20) (hkk : k < 100) {g m c p q r s t : Int32}
    (hk : ∀ (A2 : xi_H) (k2 : Nat), tx_M A2 k2 → k2 ≤ k + 1 → tx_F2 A A2 → xg_P P (xi_go xi_ms n 47 15 560 110 ((8, .int (nI (i + 1))) :: (9, .int (tx_k p q r s t i)) :: (7, .int g) :: (6, .int m) :: lv_args 0 [.ref 344, .int p, .int q, .int r, .int s, .int t]) [] A2)) :
    xg_P P (xi_go xi_ms (n + 100) 47 15 560 110 ((8, .int (nI i)) :: (7, .int g) :: (6, .int m) :: (9, .int c) :: lv_args 0 [.ref 344, .int p, .int q, .int r, .int s, .int t]) [] A) := by
  obtain ⟨hk0, hm, f, ha⟩ := hM
  refine xp_s rfl rfl rfl rfl rfl ?_
  refine xp_s rfl rfl rfl rfl rfl ?_
  refine xp_s (pc2 := 117) rfl rfl rfl rfl (if_neg (nI_ge hi (by omega))) ?_
  refine xp_s rfl rfl rfl rfl rfl ?_
  refine xp_s rfl rfl rfl rfl rfl ?_
  refine xp_s rfl rfl rfl rfl rfl ?_
  refine xp_s rfl rfl rfl rfl rfl ?_
  refine xp_s rfl rfl rfl rfl rfl ?_
  refine xp_s rfl rfl rfl rfl rfl ?_
  refine xp_S (As := [_, _, _, _, _, _]) (rest := []) rfl rfl rfl rfl rfl (xi_pos hm) ⟨⟨Nat.le_of_ble_eq_true rfl, by decide⟩, by decide, Nat.le_of_ble_eq_true rfl, rfl⟩ ?_
  refine xp_of (eb (n := n + 30) p q r s t i hi) ⟨_, _, rfl, ?_⟩
  generalize hbe : tx_k p q r s t i = b at hk ⊢
  refine xp_s rfl rfl rfl rfl rfl ?_
  refine xp_s rfl rfl rfl rfl rfl ?_
  by_cases hb : b = 0
  · refine xp_s (pc2 := 136) rfl rfl rfl rfl (if_neg (fun q => q hb)) ?_
    refine xp_s rfl rfl rfl rfl rfl ?_
    refine xp_s rfl rfl rfl rfl rfl ?_
    refine xp_s rfl rfl rfl rfl rfl ?_
    have h1 := hk A k ⟨hk0, hm, f, ha⟩ (by omega) ⟨rfl, rfl⟩
    rw [nI_succ] at h1
    exact xp_fuel hP (k := 84) h1
  · refine xp_s (pc2 := 139) rfl rfl rfl rfl (if_pos hb) ?_
    refine xp_s rfl rfl rfl rfl rfl ?_
    refine xp_get rfl rfl hm rfl ?_
    refine xp_s rfl rfl rfl rfl rfl ?_
    refine xp_get rfl rfl hm rfl ?_
    refine xp_s rfl rfl rfl rfl rfl ?_
    refine xp_iast rfl rfl ha (nI_in (c := k) (N := 600) (by omega) (by omega)) (fun B1 hq1 hs1 hL1 hN1 => ?_)
    have hm1 := (hs1 344 (by decide)).trans hm
    refine xp_s rfl rfl rfl rfl rfl ?_
    refine xp_s rfl rfl rfl rfl rfl ?_
    refine xp_get rfl rfl hm1 rfl ?_
    refine xp_s rfl rfl rfl rfl rfl ?_
    refine xp_s rfl rfl rfl rfl rfl ?_
    refine xp_put rfl rfl hm1 (by first | decide | exact Nat.le_of_ble_eq_true rfl) rfl rfl (fun B2 hq2 hs2 hL2 hN2 => ?_)
    refine xp_s rfl rfl rfl rfl rfl ?_
    refine xp_s rfl rfl rfl rfl rfl ?_
    have h1 := hk B2 (k + 1) ⟨by omega, by rw [hq2, List.set_set, nI_succ]; rfl, _, (hs2 345 (by decide)).trans hq1⟩ (Nat.le_refl _) ⟨by omega, by omega⟩
    rw [nI_succ] at h1
    exact xp_fuel hP (k := 73) h1

theorem em_cpN {P : Option (Outcome × xi_H) → Prop} (hP : ¬ P none) {A : xi_H} {n i k : Nat} (hM : tx_M A k) (hi : i < 20) (hkk : k < 100) {g m c p q r s t : Int32}
    (hk : ∀ (A2 : xi_H) (k2 : Nat), tx_M A2 k2 → k2 ≤ k + 1 → tx_F2 A A2 → xg_P P (xi_go xi_ms n 47 15 560 110 ((8, .int (nI (i + 1))) :: (9, .int (tx_k p q r s t i)) :: (7, .int g) :: (6, .int m) :: lv_args 0 [.ref 344, .int p, .int q, .int r, .int s, .int t]) [] A2)) :
    xg_P P (xi_go xi_ms (n + 100) 47 15 560 110 ((8, .int (nI i)) :: (9, .int c) :: (7, .int g) :: (6, .int m) :: lv_args 0 [.ref 344, .int p, .int q, .int r, .int s, .int t]) [] A) := by
  obtain ⟨hk0, hm, f, ha⟩ := hM
  refine xp_s rfl rfl rfl rfl rfl ?_
  refine xp_s rfl rfl rfl rfl rfl ?_
  refine xp_s (pc2 := 117) rfl rfl rfl rfl (if_neg (nI_ge hi (by omega))) ?_
  refine xp_s rfl rfl rfl rfl rfl ?_
  refine xp_s rfl rfl rfl rfl rfl ?_
  refine xp_s rfl rfl rfl rfl rfl ?_
  refine xp_s rfl rfl rfl rfl rfl ?_
  refine xp_s rfl rfl rfl rfl rfl ?_
  refine xp_s rfl rfl rfl rfl rfl ?_
  refine xp_S (As := [_, _, _, _, _, _]) (rest := []) rfl rfl rfl rfl rfl (xi_pos hm) ⟨⟨Nat.le_of_ble_eq_true rfl, by decide⟩, by decide, Nat.le_of_ble_eq_true rfl, rfl⟩ ?_
  refine xp_of (eb (n := n + 30) p q r s t i hi) ⟨_, _, rfl, ?_⟩
  generalize hbe : tx_k p q r s t i = b at hk ⊢
  refine xp_s rfl rfl rfl rfl rfl ?_
  refine xp_s rfl rfl rfl rfl rfl ?_
  by_cases hb : b = 0
  · refine xp_s (pc2 := 136) rfl rfl rfl rfl (if_neg (fun q => q hb)) ?_
    refine xp_s rfl rfl rfl rfl rfl ?_
    refine xp_s rfl rfl rfl rfl rfl ?_
    refine xp_s rfl rfl rfl rfl rfl ?_
    have h1 := hk A k ⟨hk0, hm, f, ha⟩ (by omega) ⟨rfl, rfl⟩
    rw [nI_succ] at h1
    exact xp_fuel hP (k := 84) h1
  · refine xp_s (pc2 := 139) rfl rfl rfl rfl (if_pos hb) ?_
    refine xp_s rfl rfl rfl rfl rfl ?_
    refine xp_get rfl rfl hm rfl ?_
    refine xp_s rfl rfl rfl rfl rfl ?_
    refine xp_get rfl rfl hm rfl ?_
    refine xp_s rfl rfl rfl rfl rfl ?_
    refine xp_iast rfl rfl ha (nI_in (c := k) (N := 600) (by omega) (by omega)) (fun B1 hq1 hs1 hL1 hN1 => ?_)
    have hm1 := (hs1 344 (by decide)).trans hm
    refine xp_s rfl rfl rfl rfl rfl ?_
    refine xp_s rfl rfl rfl rfl rfl ?_
    refine xp_get rfl rfl hm1 rfl ?_
    refine xp_s rfl rfl rfl rfl rfl ?_
    refine xp_s rfl rfl rfl rfl rfl ?_
    refine xp_put rfl rfl hm1 (by first | decide | exact Nat.le_of_ble_eq_true rfl) rfl rfl (fun B2 hq2 hs2 hL2 hN2 => ?_)
    refine xp_s rfl rfl rfl rfl rfl ?_
    refine xp_s rfl rfl rfl rfl rfl ?_
    have h1 := hk B2 (k + 1) ⟨by omega, by rw [hq2, List.set_set, nI_succ]; rfl, _, (hs2 345 (by decide)).trans hq1⟩ (Nat.le_refl _) ⟨by omega, by omega⟩
    rw [nI_succ] at h1
    exact xp_fuel hP (k := 73) h1

theorem em_loop2 {P : Option (Outcome × xi_H) → Prop} (hP : ¬ P none) {n : Nat} {g m p q r s t : Int32} : ∀ (d i k : Nat) (A : xi_H) (c : Int32), d + i = 20 → k ≤ i → tx_M A k →
    (∀ (A2 : xi_H), (∃ k2, tx_M A2 k2) → tx_F2 A A2 → P (some (.returned (some (.int 1)), A2))) →
    xg_P P (xi_go xi_ms (n + 5 + 100 * d) 47 15 560 110 ((8, .int (nI i)) :: (9, .int c) :: (7, .int g) :: (6, .int m) :: lv_args 0 [.ref 344, .int p, .int q, .int r, .int s, .int t]) [] A) := by
  intro d
  induction d with
  | zero =>
    intro i k A c hd hk hM hkk
    have hi : i = 20 := by omega
    subst hi
    refine xp_s rfl rfl rfl rfl rfl ?_
    refine xp_s rfl rfl rfl rfl rfl ?_
    refine xp_s (pc2 := 166) rfl rfl rfl rfl (if_pos (nI_le (Nat.le_refl 20) (by omega))) ?_
    refine xp_s rfl rfl rfl rfl rfl ?_
    refine xp_e rfl rfl rfl ?_
    exact hkk A ⟨k, hM⟩ ⟨rfl, rfl⟩
  | succ d ih =>
    intro i k A c hd hk hM hkk
    rw [show n + 5 + 100 * (d + 1) = n + 5 + 100 * d + 100 by omega]
    refine em_cpN hP hM (by omega) (by omega) (fun A2 k2 hM2 h2 hF2 => ?_)
    refine ih (i + 1) k2 A2 _ (by omega) (by omega) hM2 (fun A3 h3 hF3 => hkk A3 h3 ⟨hF3.1.trans hF2.1, hF3.2.trans hF2.2⟩)
theorem em_text {A : xi_H} (hm : A[344]? = some (.inr (13, e_lM))) {f0 : Nat → Int32} (ha : A[345]? = some (.inl (0, 600, .inl f0))) (p q r s t : Int32) : ∃ (A2 : xi_H), xi_go xi_ms 4300 47 15 560 0 (lv_args 0 [.ref 344, .int p, .int q, .int r, .int s, .int t]) [] A = some (.returned (some (.int (tx_i (tx_4 p && (tx_4 q && (tx_4 r && (tx_4 s && tx_4 t))))))), A2) ∧ tx_F2 A A2 := by
  rw [← tx_a_all]
  have hP : ¬ (∃ (A2 : xi_H), (none : Option (Outcome × xi_H)) = some (.returned (some (.int (tx_i (tx_a p q r s t 0 20)))), A2) ∧ tx_F2 A A2) := by
    rintro ⟨_, h, _⟩
    cases h
  show xg_P (fun x => ∃ (A2 : xi_H), x = some (.returned (some (.int (tx_i (tx_a p q r s t 0 20)))), A2) ∧ tx_F2 A A2) _
  refine xp_s rfl rfl rfl rfl rfl ?_
  refine xp_s rfl rfl rfl rfl rfl ?_
  refine xp_put rfl rfl hm (by decide) rfl rfl (fun B1 hq1 hs1 hL1 hN1 => ?_)
  refine xp_s rfl rfl rfl rfl rfl ?_
  refine xp_s rfl rfl rfl rfl rfl ?_
  refine xp_s rfl rfl rfl rfl rfl ?_
  refine xp_s rfl rfl rfl rfl rfl ?_
  refine xp_s rfl rfl rfl rfl rfl ?_
  refine xp_s rfl rfl rfl rfl rfl ?_
  have ha1 := (hs1 345 (by decide)).trans ha
  refine em_iterF hP (n := 4191) (i := 0) (mm := 0) (gd := true) hq1 (by omega) (fun mm2 h2 => ?_)
  refine em_loop1 hP (n := 2288) hq1 19 1 mm2 _ _ rfl (by omega) (fun m2 c2 h3 => ?_)
  rw [show ((true && tx_g (tx_k p q r s t 0)) && tx_a p q r s t 1 19) = tx_a p q r s t 0 20 by simp [tx_a]]
  refine xp_s rfl rfl rfl rfl rfl ?_
  cases hg : tx_a p q r s t 0 20 with
  | false =>
    refine xp_s (pc2 := 105) rfl rfl rfl rfl (if_pos (by decide)) ?_
    refine xp_s rfl rfl rfl rfl rfl ?_
    refine xp_e rfl rfl rfl ?_
    exact ⟨B1, rfl, hL1, hN1⟩
  | true =>
    refine xp_s (pc2 := 92) rfl rfl rfl rfl (if_neg (by decide)) ?_
    refine xp_s rfl rfl rfl rfl rfl ?_
    refine xp_get rfl rfl hq1 rfl ?_
    refine xp_s rfl rfl rfl rfl rfl ?_
    refine xp_s rfl rfl rfl rfl rfl ?_
    refine xp_s rfl rfl rfl rfl rfl ?_
    refine xp_s (pc2 := 107) rfl rfl rfl rfl (if_pos (by rw [Int32.zero_add]; exact nI_le (b := 600) (by omega) (by omega))) ?_
    refine xp_s rfl rfl rfl rfl rfl ?_
    refine xp_s rfl rfl rfl rfl rfl ?_
    have hP2 : ¬ (∃ (A2 : xi_H), (none : Option (Outcome × xi_H)) = some (.returned (some (.int (tx_i true))), A2) ∧ tx_F2 A A2) := by
      rintro ⟨_, h, _⟩
      cases h
    refine em_cpF hP2 (n := 2178) (i := 0) (k := 0) ⟨by omega, hq1, f0, ha1⟩ (by omega) (by omega) (fun A2 k2 hM2 h2 hF2 => ?_)
    refine em_loop2 hP2 (n := 273) 19 1 k2 A2 _ rfl h2 hM2 (fun A3 h3 hF3 => ?_)
    exact ⟨A3, rfl, hF3.1.trans (hF2.1.trans hL1), hF3.2.trans (hF2.2.trans hN1)⟩


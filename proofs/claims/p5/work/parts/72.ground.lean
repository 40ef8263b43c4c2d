/-! the ground: steps -/
theorem ob_step {F : fl_N} {a : Nat} {k pc v : Int} (h : ∀ j : Nat, k < (j : Int) → (j : Int) < pc → 0 ≤ F a j) (hk : 0 ≤ k) (hv : 0 ≤ v) : ∀ j : Nat, k - 1 < (j : Int) → (j : Int) < pc → 0 ≤ fl_u F a k.toNat v a j := by
  intro j h1 h2
  by_cases e : j = k.toNat
  · subst e
    rw [fl_u_eq]
    exact hv
  · rw [fl_u_ne (by omega)]
    exact h j (by omega) h2
theorem pm_b {F : fl_N} (h : gi F) {j : Nat} (hj : j < 5) : 0 ≤ F (39 + 13 * j) 2 ∧ F (39 + 13 * j) 2 ≤ 3 := by
  match j, hj with
  | 0, _ => exact gi_g (r := 39) (k := 2) h rfl
  | 1, _ => exact gi_g (r := 52) (k := 2) h rfl
  | 2, _ => exact gi_g (r := 65) (k := 2) h rfl
  | 3, _ => exact gi_g (r := 78) (k := 2) h rfl
  | 4, _ => exact gi_g (r := 91) (k := 2) h rfl
  | n + 5, h => exact absurd h (by omega)

/- CheapPlanner$Step.choose -/
abbrev pq_145 (G : Nat → Nat → Option Nat) (F : fl_N) (X : xi_H) (a : Nat) (w wy pc oc : Int) : Outcome → xi_H → Prop := gqv (fun A => ∃ F' : fl_N, fl_H sh_T G F' ++ X = A ∧ gi F' ∧ fs [(a, a, 0, 0), (a + 1, a + 1, 0, 100000)] F F' ∧ (F' a 0 = w) ∧ (∀ j : Nat, (j : Int) < pc → 0 ≤ F' (a + 1) j)) gqn
theorem mc_145 {G : Nat → Nat → Option Nat} (hG : gg G) (F : fl_N) (X : xi_H) (hgi : gi F) (a : Nat) (w wy pc oc : Int) (h_a : sp a) (hw : 0 ≤ w ∧ w ≤ 4) (hwy : 0 ≤ wy ∧ wy ≤ 2147483647) (hpc : 0 ≤ pc ∧ pc ≤ 3) (hoc : 0 ≤ oc ∧ oc ≤ 6) : fl_M xi_ms 145 1 23 [.ref a, .int (Int32.ofInt w), .int (Int32.ofInt wy), .int (Int32.ofInt pc), .int (Int32.ofInt oc)] (fl_H sh_T G F ++ X) (pq_145 G F X a w wy pc oc) := by
  intro fr lo hfr hlo
  show fl_R xi_ms 145 fr lo 0 [(0, .ref a), (1, .int (Int32.ofInt w)), (2, .int (Int32.ofInt wy)), (3, .int (Int32.ofInt pc)), (4, .int (Int32.ofInt oc))] [] _ _
  have hr_a := h_a.2.2
  refine ga_aload_n (v := .ref a) hm_145 rfl rfl rfl ?_
  refine ga_iload_n (z := w) hm_145 rfl rfl ?_
  refine ga_puti (z := w) hm_145 rfl h_a.1.1 rfl rfl ?_
  refine ga_aload_n (v := .ref a) hm_145 rfl rfl rfl ?_
  refine ga_getr (b := a + 1) hm_145 rfl h_a.1.1 rfl ?_
  refine fl_iconst hm_145 rfl ?_
  obtain ⟨F1_, q2_⟩ : ∃ Fq_, Fq_ = (fl_u F a 0 w) := ⟨_, rfl⟩
  rw [← q2_]
  have g3_ : gi F1_ := by rw [q2_]; exact gi_u (hgi) h_a.2.1.1 (by omega) (by omega)
  have g4_ : fs [(a, a, 0, 0), (a + 1, a + 1, 0, 100000)] F F1_ := by rw [q2_]; exact fs_u (fs_refl) (fs_y (by omega))
  refine gSv (nY := 4) (F := 0) (L := 0) (As := [.ref (a + 1), .int (Int32.ofInt (-1))]) (rest := []) hm_145 rfl hm_43 rfl rfl (fl_pos sc_0) rfl rfl rfl rfl (by omega) (by omega) (mc_43 hG F1_ X g3_ (a + 1) (3) (-1) (-1) (5) h_a.1.2.1 (fun _ => (gb_a h_a.2.1.2.1)) (⟨by omega, by omega⟩) (by omega) (⟨by omega, by omega⟩))  ?_
  rintro A1_ ⟨F6_, hA_, g7_, s8_⟩
  subst hA_
  have g9_ : fs [(a, a, 0, 0), (a + 1, a + 1, 0, 100000)] F F6_ := fs_tr g4_ s8_ (by simp [fs_le]; try omega)
  refine fl_iconst hm_145 rfl ?_
  refine ga_iload (z := oc) hm_145 rfl rfl ?_
  refine gJi (nY := 2) (F := 0) (L := 0) (As := [.int (Int32.ofInt 1), .int (Int32.ofInt oc)]) (rest := []) hm_145 rfl hm_195 rfl rfl (fl_pos sc_0) rfl rfl rfl rfl (by omega) (by omega) ?_
  intro f10_ l11_ h12_ h13_
  show fl_R xi_ms 195 f10_ l11_ 0 [(0, .int (Int32.ofInt 1)), (1, .int (Int32.ofInt oc))] [] _ _
  refine ga_iload_n (z := 1) hm_195 rfl rfl ?_
  refine ga_iload_n (z := oc) hm_195 rfl rfl ?_
  refine fl_icmp_lt (a := 1) (b := oc) hm_195 rfl ⟨by omega, by omega⟩ ⟨by omega, by omega⟩ (fun h14_ => ?_) (fun h15_ => ?_)
  ·
    refine ga_iload_n (z := oc) hm_195 rfl rfl ?_
    refine gr_i hm_195 rfl rfl rfl ?_
    clear h12_ h13_ f10_ l11_
    refine ga_istore (lv2 := [(5, .int (Int32.ofInt oc)), (0, .ref a), (1, .int (Int32.ofInt w)), (2, .int (Int32.ofInt wy)), (3, .int (Int32.ofInt pc)), (4, .int (Int32.ofInt oc))]) hm_145 rfl (Nat.le_of_ble_eq_true rfl) rfl ?_
    refine ga_iload_n (z := wy) hm_145 rfl rfl ?_
    refine ga_istore (lv2 := [(6, .int (Int32.ofInt wy)), (5, .int (Int32.ofInt oc)), (0, .ref a), (1, .int (Int32.ofInt w)), (2, .int (Int32.ofInt wy)), (3, .int (Int32.ofInt pc)), (4, .int (Int32.ofInt oc))]) hm_145 rfl (Nat.le_of_ble_eq_true rfl) rfl ?_
    refine ga_iload_n (z := pc) hm_145 rfl rfl ?_
    refine fl_iconst hm_145 rfl ?_
    refine ga_isub (a := pc) (b := 1) (c := pc - 1) hm_145 rfl (by omega) ?_
    refine ga_istore (lv2 := [(7, .int (Int32.ofInt (pc - 1))), (6, .int (Int32.ofInt wy)), (5, .int (Int32.ofInt oc)), (0, .ref a), (1, .int (Int32.ofInt w)), (2, .int (Int32.ofInt wy)), (3, .int (Int32.ofInt pc)), (4, .int (Int32.ofInt oc))]) hm_145 rfl (Nat.le_of_ble_eq_true rfl) rfl ?_
    have L17_ : ∀ (n16_ : Nat) (k : Int) (rs : Int) (F1 : fl_N), (k + 1 : Int).toNat = n16_ → (gi F1) → (fs [(a + 1, a + 1, 0, 100000)] F6_ F1) → (-1 ≤ k ∧ k < pc) → (0 ≤ rs ∧ rs ≤ 2147483647) → (∀ j : Nat, k < (j : Int) → (j : Int) < pc → 0 ≤ F1 (a + 1) j) → fl_R xi_ms 145 fr lo 29 [(7, .int (Int32.ofInt k)), (6, .int (Int32.ofInt rs)), (5, .int (Int32.ofInt oc)), (0, .ref a), (1, .int (Int32.ofInt w)), (2, .int (Int32.ofInt wy)), (3, .int (Int32.ofInt pc)), (4, .int (Int32.ofInt oc))] [] (fl_H sh_T G F1 ++ X) (pq_145 G F X a w wy pc oc) := by
      intro n16_
      induction n16_ using Nat.strongRecOn with
      | ind n16_ ih18_ =>
      intro k rs F1 hn19_ hg_F1 hf_F1 hk hrs hob
      have g20_ : fs [(a, a, 0, 0), (a + 1, a + 1, 0, 100000)] F F1 := fs_tr g9_ hf_F1 (by simp [fs_le]; try omega)
      refine ga_iload (z := k) hm_145 rfl rfl ?_
      refine fl_if_lt (a := k) hm_145 rfl ⟨by omega, by omega⟩ (fun h21_ => ?_) (fun h22_ => ?_)
      ·
        refine gr_v hm_145 rfl rfl ?_
        have e23_ : F1_ a 0 = w := by rw [q2_]; exact fl_u_eq
        have e24_ : F6_ a 0 = w := (s8_ a 0 (by first | exact fs_c rfl | exact (fs_n (by omega) rfl))).trans (e23_)
        have e25_ : F1 a 0 = w := (hf_F1 a 0 (by first | exact fs_c rfl | exact (fs_n (by omega) rfl))).trans (e24_)
        exact ⟨F1, rfl, hg_F1, g20_, (by omega), (fun j hj => hob j (by omega) hj)⟩
      refine ga_aload_n (v := .ref a) hm_145 rfl rfl rfl ?_
      refine ga_getr (b := a + 1) hm_145 rfl h_a.1.1 rfl ?_
      refine ga_iload (z := k) hm_145 rfl rfl ?_
      refine ga_iload (z := rs) hm_145 rfl rfl ?_
      refine ga_iload (z := oc) hm_145 rfl rfl ?_
      refine ga_irem (a := rs) (b := oc) hm_145 rfl (by omega) (by omega) (by omega) (by omega) ?_
      have b26_ : 0 ≤ rs % oc ∧ rs % oc < oc := ⟨Int.emod_nonneg _ (by omega), Int.emod_lt_of_pos _ (by omega)⟩
      refine fl_iast (z := k) (v := (rs % oc)) hm_145 rfl h_a.1.2.1 (by omega) (by omega) (by omega) ?_
      refine ga_iload (z := rs) hm_145 rfl rfl ?_
      refine ga_iload (z := oc) hm_145 rfl rfl ?_
      refine ga_idiv (a := rs) (b := oc) hm_145 rfl (by omega) (by omega) (by omega) (by omega) ?_
      have b27_ : 0 ≤ rs / oc ∧ rs / oc ≤ rs := ⟨Int.ediv_nonneg (by omega) (by omega), Int.ediv_le_self _ (by omega)⟩
      refine ga_istore (lv2 := [(6, .int (Int32.ofInt ((rs / oc)))), (7, .int (Int32.ofInt k)), (5, .int (Int32.ofInt oc)), (0, .ref a), (1, .int (Int32.ofInt w)), (2, .int (Int32.ofInt wy)), (3, .int (Int32.ofInt pc)), (4, .int (Int32.ofInt oc))]) hm_145 rfl (Nat.le_of_ble_eq_true rfl) rfl ?_
      refine ga_inc (a := k) (c := k - 1) (lv2 := [(7, .int (Int32.ofInt (k - 1))), (6, .int (Int32.ofInt ((rs / oc)))), (5, .int (Int32.ofInt oc)), (0, .ref a), (1, .int (Int32.ofInt w)), (2, .int (Int32.ofInt wy)), (3, .int (Int32.ofInt pc)), (4, .int (Int32.ofInt oc))]) hm_145 rfl rfl (Nat.le_of_ble_eq_true rfl) (by omega) rfl ?_
      refine fl_goto hm_145 rfl ?_
      obtain ⟨F28_, q29_⟩ : ∃ Fq_, Fq_ = (fl_u F1 (a + 1) k.toNat ((rs % oc))) := ⟨_, rfl⟩
      rw [← q29_]
      have g30_ : gi F28_ := by rw [q29_]; exact gi_u (hg_F1) (gb_a h_a.2.1.2.1) (by omega) (by omega)
      have g31_ : fs [(a, a, 0, 0), (a + 1, a + 1, 0, 100000)] F F28_ := by rw [q29_]; exact fs_u (g20_) (fs_z (fs_y (by omega)))
      exact ih18_ _ (by omega) (k - 1) ((rs / oc)) F28_ rfl g30_ (by rw [q29_]; exact fs_u (hf_F1) (fs_y (by omega))) (⟨by omega, by omega⟩) (⟨by omega, by omega⟩) (by rw [q29_]; exact ob_step hob (by omega) (by omega))
    exact L17_ _ (pc - 1) (wy) F6_ rfl g7_ fs_refl (⟨by omega, by omega⟩) (⟨by omega, by omega⟩) (fun j h1 h2 => absurd h1 (by omega))
  refine ga_iload_n (z := 1) hm_195 rfl rfl ?_
  refine fl_goto hm_195 rfl ?_
  refine gr_i hm_195 rfl rfl rfl ?_
  clear h12_ h13_ f10_ l11_
  refine ga_istore (lv2 := [(5, .int (Int32.ofInt 1)), (0, .ref a), (1, .int (Int32.ofInt w)), (2, .int (Int32.ofInt wy)), (3, .int (Int32.ofInt pc)), (4, .int (Int32.ofInt oc))]) hm_145 rfl (Nat.le_of_ble_eq_true rfl) rfl ?_
  refine ga_iload_n (z := wy) hm_145 rfl rfl ?_
  refine ga_istore (lv2 := [(6, .int (Int32.ofInt wy)), (5, .int (Int32.ofInt 1)), (0, .ref a), (1, .int (Int32.ofInt w)), (2, .int (Int32.ofInt wy)), (3, .int (Int32.ofInt pc)), (4, .int (Int32.ofInt oc))]) hm_145 rfl (Nat.le_of_ble_eq_true rfl) rfl ?_
  refine ga_iload_n (z := pc) hm_145 rfl rfl ?_
  refine fl_iconst hm_145 rfl ?_
  refine ga_isub (a := pc) (b := 1) (c := pc - 1) hm_145 rfl (by omega) ?_
  refine ga_istore (lv2 := [(7, .int (Int32.ofInt (pc - 1))), (6, .int (Int32.ofInt wy)), (5, .int (Int32.ofInt 1)), (0, .ref a), (1, .int (Int32.ofInt w)), (2, .int (Int32.ofInt wy)), (3, .int (Int32.ofInt pc)), (4, .int (Int32.ofInt oc))]) hm_145 rfl (Nat.le_of_ble_eq_true rfl) rfl ?_
  have L33_ : ∀ (n32_ : Nat) (k : Int) (rs : Int) (F1 : fl_N), (k + 1 : Int).toNat = n32_ → (gi F1) → (fs [(a + 1, a + 1, 0, 100000)] F6_ F1) → (-1 ≤ k ∧ k < pc) → (0 ≤ rs ∧ rs ≤ 2147483647) → (∀ j : Nat, k < (j : Int) → (j : Int) < pc → 0 ≤ F1 (a + 1) j) → fl_R xi_ms 145 fr lo 29 [(7, .int (Int32.ofInt k)), (6, .int (Int32.ofInt rs)), (5, .int (Int32.ofInt 1)), (0, .ref a), (1, .int (Int32.ofInt w)), (2, .int (Int32.ofInt wy)), (3, .int (Int32.ofInt pc)), (4, .int (Int32.ofInt oc))] [] (fl_H sh_T G F1 ++ X) (pq_145 G F X a w wy pc oc) := by
    intro n32_
    induction n32_ using Nat.strongRecOn with
    | ind n32_ ih34_ =>
    intro k rs F1 hn35_ hg_F1 hf_F1 hk hrs hob
    have g36_ : fs [(a, a, 0, 0), (a + 1, a + 1, 0, 100000)] F F1 := fs_tr g9_ hf_F1 (by simp [fs_le]; try omega)
    refine ga_iload (z := k) hm_145 rfl rfl ?_
    refine fl_if_lt (a := k) hm_145 rfl ⟨by omega, by omega⟩ (fun h37_ => ?_) (fun h38_ => ?_)
    ·
      refine gr_v hm_145 rfl rfl ?_
      have e39_ : F1_ a 0 = w := by rw [q2_]; exact fl_u_eq
      have e40_ : F6_ a 0 = w := (s8_ a 0 (by first | exact fs_c rfl | exact (fs_n (by omega) rfl))).trans (e39_)
      have e41_ : F1 a 0 = w := (hf_F1 a 0 (by first | exact fs_c rfl | exact (fs_n (by omega) rfl))).trans (e40_)
      exact ⟨F1, rfl, hg_F1, g36_, (by omega), (fun j hj => hob j (by omega) hj)⟩
    refine ga_aload_n (v := .ref a) hm_145 rfl rfl rfl ?_
    refine ga_getr (b := a + 1) hm_145 rfl h_a.1.1 rfl ?_
    refine ga_iload (z := k) hm_145 rfl rfl ?_
    refine ga_iload (z := rs) hm_145 rfl rfl ?_
    refine ga_iload (z := 1) hm_145 rfl rfl ?_
    refine ga_irem (a := rs) (b := 1) hm_145 rfl (by omega) (by omega) (by omega) (by omega) ?_
    refine fl_iast (z := k) (v := (rs % 1)) hm_145 rfl h_a.1.2.1 (by omega) (by omega) (by omega) ?_
    refine ga_iload (z := rs) hm_145 rfl rfl ?_
    refine ga_iload (z := 1) hm_145 rfl rfl ?_
    refine ga_idiv (a := rs) (b := 1) hm_145 rfl (by omega) (by omega) (by omega) (by omega) ?_
    refine ga_istore (lv2 := [(6, .int (Int32.ofInt ((rs / 1)))), (7, .int (Int32.ofInt k)), (5, .int (Int32.ofInt 1)), (0, .ref a), (1, .int (Int32.ofInt w)), (2, .int (Int32.ofInt wy)), (3, .int (Int32.ofInt pc)), (4, .int (Int32.ofInt oc))]) hm_145 rfl (Nat.le_of_ble_eq_true rfl) rfl ?_
    refine ga_inc (a := k) (c := k - 1) (lv2 := [(7, .int (Int32.ofInt (k - 1))), (6, .int (Int32.ofInt ((rs / 1)))), (5, .int (Int32.ofInt 1)), (0, .ref a), (1, .int (Int32.ofInt w)), (2, .int (Int32.ofInt wy)), (3, .int (Int32.ofInt pc)), (4, .int (Int32.ofInt oc))]) hm_145 rfl rfl (Nat.le_of_ble_eq_true rfl) (by omega) rfl ?_
    refine fl_goto hm_145 rfl ?_
    obtain ⟨F42_, q43_⟩ : ∃ Fq_, Fq_ = (fl_u F1 (a + 1) k.toNat ((rs % 1))) := ⟨_, rfl⟩
    rw [← q43_]
    have g44_ : gi F42_ := by rw [q43_]; exact gi_u (hg_F1) (gb_a h_a.2.1.2.1) (by omega) (by omega)
    have g45_ : fs [(a, a, 0, 0), (a + 1, a + 1, 0, 100000)] F F42_ := by rw [q43_]; exact fs_u (g36_) (fs_z (fs_y (by omega)))
    exact ih34_ _ (by omega) (k - 1) ((rs / 1)) F42_ rfl g44_ (by rw [q43_]; exact fs_u (hf_F1) (fs_y (by omega))) (⟨by omega, by omega⟩) (⟨by omega, by omega⟩) (by rw [q43_]; exact ob_step hob (by omega) (by omega))
  exact L33_ _ (pc - 1) (wy) F6_ rfl g7_ fs_refl (⟨by omega, by omega⟩) (⟨by omega, by omega⟩) (fun j h1 h2 => absurd h1 (by omega))
/- CheapPlanner$Step.fits -/
abbrev pq_146 (G : Nat → Nat → Option Nat) (F : fl_N) (X : xi_H) (a b : Nat) : Outcome → xi_H → Prop := gqi (fun z A => fl_H sh_T G F ++ X = A ∧ (0 ≤ z ∧ z ≤ 1)) gqn
theorem mc_146 {G : Nat → Nat → Option Nat} (hG : gg G) (F : fl_N) (X : xi_H) (hgi : gi F) (a b : Nat) (h_a : sp a) (h_b : nm b 3) (ho : ∀ j : Nat, (j : Int) < F b 2 → 0 ≤ F (a + 1) j) : fl_M xi_ms 146 1 22 [.ref a, .ref b, .ref 105] (fl_H sh_T G F ++ X) (pq_146 G F X a b) := by
  intro fr lo hfr hlo
  show fl_R xi_ms 146 fr lo 0 [(0, .ref a), (1, .ref b), (2, .ref 105)] [] _ _
  have hr_a := h_a.2.2
  have hr_b := h_b.2.2
  refine fl_iconst hm_146 rfl ?_
  refine ga_istore_n (lv2 := [(3, .int (Int32.ofInt 0)), (0, .ref a), (1, .ref b), (2, .ref 105)]) hm_146 rfl (Nat.le_of_ble_eq_true rfl) rfl ?_
  have L2_ : ∀ (n1_ : Nat) (k : Int), (F b 2 - k : Int).toNat = n1_ → (0 ≤ k ∧ k ≤ 3) → fl_R xi_ms 146 fr lo 2 [(3, .int (Int32.ofInt k)), (0, .ref a), (1, .ref b), (2, .ref 105)] [] (fl_H sh_T G F ++ X) (pq_146 G F X a b) := by
    intro n1_
    induction n1_ using Nat.strongRecOn with
    | ind n1_ ih3_ =>
    intro k hn4_ hk
    refine ga_iload_n (z := k) hm_146 rfl rfl ?_
    refine ga_aload_n (v := .ref b) hm_146 rfl rfl rfl ?_
    have b5_ : 0 ≤ F b 2 ∧ F b 2 ≤ (3 : Int) := gi_g hgi h_b.2.1.1
    refine ga_geti (z := F b 2) hm_146 rfl h_b.1.1 rfl (rfl) ?_
    refine fl_icmp_ge (a := k) (b := F b 2) hm_146 rfl ⟨by omega, by omega⟩ ⟨by omega, by omega⟩ (fun h6_ => ?_) (fun h7_ => ?_)
    ·
      refine fl_iconst hm_146 rfl ?_
      refine gr_i (z := 1) hm_146 rfl rfl (ga_nb (by omega)) ?_
      exact ⟨rfl, (⟨by omega, by omega⟩)⟩
    have ho1 := ho k.toNat (by omega)
    refine ga_aload_n (v := .ref 105) hm_146 rfl rfl rfl ?_
    refine ga_aload_n (v := .ref a) hm_146 rfl rfl rfl ?_
    refine ga_getr (b := a + 1) hm_146 rfl h_a.1.1 rfl ?_
    refine ga_iload_n (z := k) hm_146 rfl rfl ?_
    have b8_ : -1 ≤ F (a + 1) k.toNat ∧ F (a + 1) k.toNat ≤ 5 := gi_g hgi (gb_a h_a.2.1.2.1)
    refine ga_iald (z := k) (w := F (a + 1) k.toNat) hm_146 rfl h_a.1.2.1 (by omega) (by omega) (by omega) (rfl) ?_
    refine ga_aload_n (v := .ref b) hm_146 rfl rfl rfl ?_
    refine ga_getr (b := b + 2) hm_146 rfl h_b.1.1 rfl ?_
    refine ga_iload_n (z := k) hm_146 rfl rfl ?_
    have b9_ : -1 ≤ F (b + 2) k.toNat ∧ F (b + 2) k.toNat ≤ 3 := gi_g hgi (gb_a h_b.2.1.2.1)
    refine ga_iald (z := k) (w := F (b + 2) k.toNat) hm_146 rfl h_b.1.2.2 (by omega) (by omega) (by omega) (rfl) ?_
    refine gIi (nY := 3) (F := 0) (L := 0) (As := [.int (Int32.ofInt (F (a + 1) k.toNat)), .int (Int32.ofInt (F (b + 2) k.toNat))]) (b := 105) (rest := []) hm_146 rfl hm_110 rfl rfl (fl_ob sc_105) rfl rfl rfl rfl rfl (by omega) (by omega) ?_
    intro f10_ l11_ h12_ h13_
    show fl_R xi_ms 110 f10_ l11_ 0 [(0, .ref 105), (1, .int (Int32.ofInt (F (a + 1) k.toNat))), (2, .int (Int32.ofInt (F (b + 2) k.toNat)))] [] _ _
    refine ga_iload_n (z := F (b + 2) k.toNat) hm_110 rfl rfl ?_
    refine fl_iconst hm_110 rfl ?_
    refine fl_icmp_eq (a := F (b + 2) k.toNat) (b := -1) hm_110 rfl ⟨by omega, by omega⟩ ⟨by omega, by omega⟩ (fun h14_ => ?_) (fun h15_ => ?_)
    ·
      refine fl_iconst hm_110 rfl ?_
      refine fl_goto hm_110 rfl ?_
      refine gr_i hm_110 rfl rfl (ga_nb (by omega)) ?_
      clear h12_ h13_ f10_ l11_
      refine fl_if_ne hm_146 rfl ⟨by omega, by omega⟩ (fun _ => ?_) (fun h => absurd (by omega) h)
      refine ga_inc (a := k) (c := k + 1) (lv2 := [(3, .int (Int32.ofInt (k + 1))), (0, .ref a), (1, .ref b), (2, .ref 105)]) hm_146 rfl rfl (Nat.le_of_ble_eq_true rfl) rfl rfl ?_
      refine fl_goto hm_146 rfl ?_
      exact ih3_ _ (by omega) (k + 1) rfl (⟨by omega, by omega⟩)
    refine ga_aload_n (v := .ref 105) hm_110 rfl rfl rfl ?_
    refine ga_getr (b := 107) hm_110 rfl sc_105 rfl ?_
    refine ga_iload_n (z := F (a + 1) k.toNat) hm_110 rfl rfl ?_
    have b16_ : -1 ≤ F 107 (F (a + 1) k.toNat).toNat ∧ F 107 (F (a + 1) k.toNat).toNat ≤ 3 := gi_g hgi rfl
    refine ga_iald (z := F (a + 1) k.toNat) (w := F 107 (F (a + 1) k.toNat).toNat) hm_110 rfl sc_107 (by omega) (by omega) (by omega) (rfl) ?_
    refine ga_iload_n (z := F (b + 2) k.toNat) hm_110 rfl rfl ?_
    refine fx_icmp_ne (a := F 107 (F (a + 1) k.toNat).toNat) (b := F (b + 2) k.toNat) hm_110 rfl ⟨by omega, by omega⟩ ⟨by omega, by omega⟩ (fun h17_ => ?_) (fun h18_ => ?_)
    ·
      refine fl_iconst hm_110 rfl ?_
      refine gr_i hm_110 rfl rfl (ga_nb (by omega)) ?_
      clear h12_ h13_ f10_ l11_
      refine fl_if_ne hm_146 rfl ⟨by omega, by omega⟩ (fun h => absurd h (by omega)) (fun _ => ?_)
      refine fl_iconst hm_146 rfl ?_
      refine gr_i (z := 0) hm_146 rfl rfl (ga_nb (by omega)) ?_
      exact ⟨rfl, (⟨by omega, by omega⟩)⟩
    refine fl_iconst hm_110 rfl ?_
    refine fl_goto hm_110 rfl ?_
    refine gr_i hm_110 rfl rfl (ga_nb (by omega)) ?_
    clear h12_ h13_ f10_ l11_
    refine fl_if_ne hm_146 rfl ⟨by omega, by omega⟩ (fun _ => ?_) (fun h => absurd (by omega) h)
    refine ga_inc (a := k) (c := k + 1) (lv2 := [(3, .int (Int32.ofInt (k + 1))), (0, .ref a), (1, .ref b), (2, .ref 105)]) hm_146 rfl rfl (Nat.le_of_ble_eq_true rfl) rfl rfl ?_
    refine fl_goto hm_146 rfl ?_
    exact ih3_ _ (by omega) (k + 1) rfl (⟨by omega, by omega⟩)
  have b19_ : 0 ≤ F b 2 ∧ F b 2 ≤ (3 : Int) := gi_g hgi h_b.2.1.1
  exact L2_ _ (0) rfl (⟨by omega, by omega⟩)
/- CheapPlanner$Ground.factOf -/
abbrev pq_102 (G : Nat → Nat → Option Nat) (F : fl_N) (X : xi_H) (b n o no : Nat) (t q i m : Int) : Outcome → xi_H → Prop := gqi (fun z A => fl_H sh_T G F ++ X = A ∧ (0 ≤ z ∧ z ≤ 39)) gqn
theorem mc_102 {G : Nat → Nat → Option Nat} (hG : gg G) (F : fl_N) (X : xi_H) (hgi : gi F) (b n o no : Nat) (t q i m : Int) (h_b : cl b n t q) (h_o : sh_T[o]? = some (0, 0, [no])) (hno : no ≤ 6) (hw : cw F b m) (hm : 0 ≤ m ∧ m ≤ (no : Int)) (ho : ∀ j : Nat, (j : Int) < m → 0 ≤ F o j ∧ F o j ≤ 5) (hi : 0 ≤ i ∧ i < F b 4) (hq : 0 ≤ F (b + 1) i.toNat) : fl_M xi_ms 102 1 22 [.ref 120, .ref b, .int (Int32.ofInt i), .ref o] (fl_H sh_T G F ++ X) (pq_102 G F X b n o no t q i m) := by
  intro fr lo hfr hlo
  show fl_R xi_ms 102 fr lo 0 [(0, .ref 120), (1, .ref b), (2, .int (Int32.ofInt i)), (3, .ref o)] [] _ _
  have hw1 := hw i.toNat (by omega)
  have hb4 : 0 ≤ F b 4 ∧ F b 4 ≤ (n : Int) := gi_g hgi h_b.2.1.1
  have hr_b := h_b.2.2
  refine ga_aload_n (v := .ref b) hm_102 rfl rfl rfl ?_
  refine ga_getr (b := b + 3) hm_102 rfl h_b.1.1 rfl ?_
  refine ga_iload_n (z := i) hm_102 rfl rfl ?_
  have b1_ : -1 ≤ F (b + 3) i.toNat ∧ F (b + 3) i.toNat ≤ t := gi_g hgi (gb_a h_b.2.1.2.2.2.2.1)
  refine ga_iald (z := i) (w := F (b + 3) i.toNat) hm_102 rfl h_b.1.2.2.2.1 (by omega) (by omega) (by omega) (rfl) ?_
  refine fl_iconst hm_102 rfl ?_
  refine fx_icmp_ne (a := F (b + 3) i.toNat) (b := -1) hm_102 rfl ⟨by omega, by omega⟩ ⟨by omega, by omega⟩ (fun h2_ => ?_) (fun h3_ => ?_)
  ·
    have ho1 := ho (F (b + 3) i.toNat).toNat (by omega)
    refine ga_aload_n (v := .ref o) hm_102 rfl rfl rfl ?_
    refine ga_aload_n (v := .ref b) hm_102 rfl rfl rfl ?_
    refine ga_getr (b := b + 3) hm_102 rfl h_b.1.1 rfl ?_
    refine ga_iload_n (z := i) hm_102 rfl rfl ?_
    refine ga_iald (z := i) (w := F (b + 3) i.toNat) hm_102 rfl h_b.1.2.2.2.1 (by omega) (by omega) (by omega) (rfl) ?_
    refine ga_iald (z := F (b + 3) i.toNat) (w := F o (F (b + 3) i.toNat).toNat) hm_102 rfl h_o (by omega) (by omega) (by omega) (rfl) ?_
    refine ga_istore (lv2 := [(4, .int (Int32.ofInt (F o (F (b + 3) i.toNat).toNat))), (0, .ref 120), (1, .ref b), (2, .int (Int32.ofInt i)), (3, .ref o)]) hm_102 rfl (Nat.le_of_ble_eq_true rfl) rfl ?_
    refine ga_aload_n (v := .ref b) hm_102 rfl rfl rfl ?_
    refine ga_getr (b := b + 4) hm_102 rfl h_b.1.1 rfl ?_
    refine ga_iload_n (z := i) hm_102 rfl rfl ?_
    have b4_ : -1 ≤ F (b + 4) i.toNat ∧ F (b + 4) i.toNat ≤ t := gi_g hgi (gb_a h_b.2.1.2.2.2.2.2)
    refine ga_iald (z := i) (w := F (b + 4) i.toNat) hm_102 rfl h_b.1.2.2.2.2 (by omega) (by omega) (by omega) (rfl) ?_
    refine fl_iconst hm_102 rfl ?_
    refine fx_icmp_ne (a := F (b + 4) i.toNat) (b := -1) hm_102 rfl ⟨by omega, by omega⟩ ⟨by omega, by omega⟩ (fun h5_ => ?_) (fun h6_ => ?_)
    ·
      have ho2 := ho (F (b + 4) i.toNat).toNat (by omega)
      refine ga_aload_n (v := .ref o) hm_102 rfl rfl rfl ?_
      refine ga_aload_n (v := .ref b) hm_102 rfl rfl rfl ?_
      refine ga_getr (b := b + 4) hm_102 rfl h_b.1.1 rfl ?_
      refine ga_iload_n (z := i) hm_102 rfl rfl ?_
      refine ga_iald (z := i) (w := F (b + 4) i.toNat) hm_102 rfl h_b.1.2.2.2.2 (by omega) (by omega) (by omega) (rfl) ?_
      refine ga_iald (z := F (b + 4) i.toNat) (w := F o (F (b + 4) i.toNat).toNat) hm_102 rfl h_o (by omega) (by omega) (by omega) (rfl) ?_
      refine ga_istore (lv2 := [(5, .int (Int32.ofInt (F o (F (b + 4) i.toNat).toNat))), (4, .int (Int32.ofInt (F o (F (b + 3) i.toNat).toNat))), (0, .ref 120), (1, .ref b), (2, .int (Int32.ofInt i)), (3, .ref o)]) hm_102 rfl (Nat.le_of_ble_eq_true rfl) rfl ?_
      refine ga_aload_n (v := .ref 120) hm_102 rfl rfl rfl ?_
      refine ga_getr (b := 121) hm_102 rfl sc_120 rfl ?_
      refine ga_aload_n (v := .ref b) hm_102 rfl rfl rfl ?_
      refine ga_getr (b := b + 1) hm_102 rfl h_b.1.1 rfl ?_
      refine ga_iload_n (z := i) hm_102 rfl rfl ?_
      have b7_ : q ≤ F (b + 1) i.toNat ∧ F (b + 1) i.toNat ≤ 5 := gi_g hgi (gb_a h_b.2.1.2.2.1)
      refine ga_iald (z := i) (w := F (b + 1) i.toNat) hm_102 rfl h_b.1.2.1 (by omega) (by omega) (by omega) (rfl) ?_
      refine ga_iload (z := F o (F (b + 3) i.toNat).toNat) hm_102 rfl rfl ?_
      refine ga_iload (z := F o (F (b + 4) i.toNat).toNat) hm_102 rfl rfl ?_
      refine gJi (nY := 3) (F := 0) (L := 0) (As := [.int (Int32.ofInt (F (b + 1) i.toNat)), .int (Int32.ofInt (F o (F (b + 3) i.toNat).toNat)), .int (Int32.ofInt (F o (F (b + 4) i.toNat).toNat))]) (rest := [.ref 121]) hm_102 rfl hm_107 rfl rfl (fl_pos sc_0) rfl rfl rfl rfl (by omega) (by omega) ?_
      intro f8_ l9_ h10_ h11_
      show fl_R xi_ms 107 f8_ l9_ 0 [(0, .int (Int32.ofInt (F (b + 1) i.toNat))), (1, .int (Int32.ofInt (F o (F (b + 3) i.toNat).toNat))), (2, .int (Int32.ofInt (F o (F (b + 4) i.toNat).toNat)))] [] _ _
      refine ga_iload_n (z := F (b + 1) i.toNat) hm_107 rfl rfl ?_
      refine fl_bipush hm_107 rfl rfl ?_
      refine ga_imul (a := F (b + 1) i.toNat) (b := 6) (c := 6 * (F (b + 1) i.toNat)) hm_107 rfl (by omega) ?_
      refine ga_iload_n (z := F o (F (b + 3) i.toNat).toNat) hm_107 rfl rfl ?_
      refine ga_iadd (a := 6 * (F (b + 1) i.toNat)) (b := F o (F (b + 3) i.toNat).toNat) (c := 6 * (F (b + 1) i.toNat) + F o (F (b + 3) i.toNat).toNat) hm_107 rfl (by omega) ?_
      refine fl_bipush hm_107 rfl rfl ?_
      refine ga_imul (a := 6 * (F (b + 1) i.toNat) + F o (F (b + 3) i.toNat).toNat) (b := 6) (c := 36 * (F (b + 1) i.toNat) + 6 * (F o (F (b + 3) i.toNat).toNat)) hm_107 rfl (by omega) ?_
      refine ga_iload_n (z := F o (F (b + 4) i.toNat).toNat) hm_107 rfl rfl ?_
      refine ga_iadd (a := 36 * (F (b + 1) i.toNat) + 6 * (F o (F (b + 3) i.toNat).toNat)) (b := F o (F (b + 4) i.toNat).toNat) (c := 36 * (F (b + 1) i.toNat) + 6 * (F o (F (b + 3) i.toNat).toNat) + F o (F (b + 4) i.toNat).toNat) hm_107 rfl (by omega) ?_
      refine gr_i hm_107 rfl rfl rfl ?_
      clear h10_ h11_ f8_ l9_
      have b12_ : 0 ≤ F 121 (36 * (F (b + 1) i.toNat) + 6 * (F o (F (b + 3) i.toNat).toNat) + F o (F (b + 4) i.toNat).toNat).toNat ∧ F 121 (36 * (F (b + 1) i.toNat) + 6 * (F o (F (b + 3) i.toNat).toNat) + F o (F (b + 4) i.toNat).toNat).toNat ≤ 39 := gi_g hgi rfl
      refine ga_iald (z := 36 * (F (b + 1) i.toNat) + 6 * (F o (F (b + 3) i.toNat).toNat) + F o (F (b + 4) i.toNat).toNat) (w := F 121 (36 * (F (b + 1) i.toNat) + 6 * (F o (F (b + 3) i.toNat).toNat) + F o (F (b + 4) i.toNat).toNat).toNat) hm_102 rfl sc_121 (by omega) (by omega) (by omega) (rfl) ?_
      refine gr_i (z := F 121 (36 * (F (b + 1) i.toNat) + 6 * (F o (F (b + 3) i.toNat).toNat) + F o (F (b + 4) i.toNat).toNat).toNat) hm_102 rfl rfl rfl ?_
      exact ⟨rfl, (⟨by omega, by omega⟩)⟩
    refine fl_iconst hm_102 rfl ?_
    refine fl_goto hm_102 rfl ?_
    refine ga_istore (lv2 := [(5, .int (Int32.ofInt 0)), (4, .int (Int32.ofInt (F o (F (b + 3) i.toNat).toNat))), (0, .ref 120), (1, .ref b), (2, .int (Int32.ofInt i)), (3, .ref o)]) hm_102 rfl (Nat.le_of_ble_eq_true rfl) rfl ?_
    refine ga_aload_n (v := .ref 120) hm_102 rfl rfl rfl ?_
    refine ga_getr (b := 121) hm_102 rfl sc_120 rfl ?_
    refine ga_aload_n (v := .ref b) hm_102 rfl rfl rfl ?_
    refine ga_getr (b := b + 1) hm_102 rfl h_b.1.1 rfl ?_
    refine ga_iload_n (z := i) hm_102 rfl rfl ?_
    have b13_ : q ≤ F (b + 1) i.toNat ∧ F (b + 1) i.toNat ≤ 5 := gi_g hgi (gb_a h_b.2.1.2.2.1)
    refine ga_iald (z := i) (w := F (b + 1) i.toNat) hm_102 rfl h_b.1.2.1 (by omega) (by omega) (by omega) (rfl) ?_
    refine ga_iload (z := F o (F (b + 3) i.toNat).toNat) hm_102 rfl rfl ?_
    refine ga_iload (z := 0) hm_102 rfl rfl ?_
    refine gJi (nY := 3) (F := 0) (L := 0) (As := [.int (Int32.ofInt (F (b + 1) i.toNat)), .int (Int32.ofInt (F o (F (b + 3) i.toNat).toNat)), .int (Int32.ofInt 0)]) (rest := [.ref 121]) hm_102 rfl hm_107 rfl rfl (fl_pos sc_0) rfl rfl rfl rfl (by omega) (by omega) ?_
    intro f14_ l15_ h16_ h17_
    show fl_R xi_ms 107 f14_ l15_ 0 [(0, .int (Int32.ofInt (F (b + 1) i.toNat))), (1, .int (Int32.ofInt (F o (F (b + 3) i.toNat).toNat))), (2, .int (Int32.ofInt 0))] [] _ _
    refine ga_iload_n (z := F (b + 1) i.toNat) hm_107 rfl rfl ?_
    refine fl_bipush hm_107 rfl rfl ?_
    refine ga_imul (a := F (b + 1) i.toNat) (b := 6) (c := 6 * (F (b + 1) i.toNat)) hm_107 rfl (by omega) ?_
    refine ga_iload_n (z := F o (F (b + 3) i.toNat).toNat) hm_107 rfl rfl ?_
    refine ga_iadd (a := 6 * (F (b + 1) i.toNat)) (b := F o (F (b + 3) i.toNat).toNat) (c := 6 * (F (b + 1) i.toNat) + F o (F (b + 3) i.toNat).toNat) hm_107 rfl (by omega) ?_
    refine fl_bipush hm_107 rfl rfl ?_
    refine ga_imul (a := 6 * (F (b + 1) i.toNat) + F o (F (b + 3) i.toNat).toNat) (b := 6) (c := 36 * (F (b + 1) i.toNat) + 6 * (F o (F (b + 3) i.toNat).toNat)) hm_107 rfl (by omega) ?_
    refine ga_iload_n (z := 0) hm_107 rfl rfl ?_
    refine ga_iadd (a := 36 * (F (b + 1) i.toNat) + 6 * (F o (F (b + 3) i.toNat).toNat)) (b := 0) (c := 36 * (F (b + 1) i.toNat) + 6 * (F o (F (b + 3) i.toNat).toNat)) hm_107 rfl (by omega) ?_
    refine gr_i hm_107 rfl rfl rfl ?_
    clear h16_ h17_ f14_ l15_
    have b18_ : 0 ≤ F 121 (36 * (F (b + 1) i.toNat) + 6 * (F o (F (b + 3) i.toNat).toNat)).toNat ∧ F 121 (36 * (F (b + 1) i.toNat) + 6 * (F o (F (b + 3) i.toNat).toNat)).toNat ≤ 39 := gi_g hgi rfl
    refine ga_iald (z := 36 * (F (b + 1) i.toNat) + 6 * (F o (F (b + 3) i.toNat).toNat)) (w := F 121 (36 * (F (b + 1) i.toNat) + 6 * (F o (F (b + 3) i.toNat).toNat)).toNat) hm_102 rfl sc_121 (by omega) (by omega) (by omega) (rfl) ?_
    refine gr_i (z := F 121 (36 * (F (b + 1) i.toNat) + 6 * (F o (F (b + 3) i.toNat).toNat)).toNat) hm_102 rfl rfl rfl ?_
    exact ⟨rfl, (⟨by omega, by omega⟩)⟩
  refine fl_iconst hm_102 rfl ?_
  refine fl_goto hm_102 rfl ?_
  refine ga_istore (lv2 := [(4, .int (Int32.ofInt 0)), (0, .ref 120), (1, .ref b), (2, .int (Int32.ofInt i)), (3, .ref o)]) hm_102 rfl (Nat.le_of_ble_eq_true rfl) rfl ?_
  refine ga_aload_n (v := .ref b) hm_102 rfl rfl rfl ?_
  refine ga_getr (b := b + 4) hm_102 rfl h_b.1.1 rfl ?_
  refine ga_iload_n (z := i) hm_102 rfl rfl ?_
  have b19_ : -1 ≤ F (b + 4) i.toNat ∧ F (b + 4) i.toNat ≤ t := gi_g hgi (gb_a h_b.2.1.2.2.2.2.2)
  refine ga_iald (z := i) (w := F (b + 4) i.toNat) hm_102 rfl h_b.1.2.2.2.2 (by omega) (by omega) (by omega) (rfl) ?_
  refine fl_iconst hm_102 rfl ?_
  refine fx_icmp_ne (a := F (b + 4) i.toNat) (b := -1) hm_102 rfl ⟨by omega, by omega⟩ ⟨by omega, by omega⟩ (fun h20_ => ?_) (fun h21_ => ?_)
  ·
    have ho2 := ho (F (b + 4) i.toNat).toNat (by omega)
    refine ga_aload_n (v := .ref o) hm_102 rfl rfl rfl ?_
    refine ga_aload_n (v := .ref b) hm_102 rfl rfl rfl ?_
    refine ga_getr (b := b + 4) hm_102 rfl h_b.1.1 rfl ?_
    refine ga_iload_n (z := i) hm_102 rfl rfl ?_
    refine ga_iald (z := i) (w := F (b + 4) i.toNat) hm_102 rfl h_b.1.2.2.2.2 (by omega) (by omega) (by omega) (rfl) ?_
    refine ga_iald (z := F (b + 4) i.toNat) (w := F o (F (b + 4) i.toNat).toNat) hm_102 rfl h_o (by omega) (by omega) (by omega) (rfl) ?_
    refine ga_istore (lv2 := [(5, .int (Int32.ofInt (F o (F (b + 4) i.toNat).toNat))), (4, .int (Int32.ofInt 0)), (0, .ref 120), (1, .ref b), (2, .int (Int32.ofInt i)), (3, .ref o)]) hm_102 rfl (Nat.le_of_ble_eq_true rfl) rfl ?_
    refine ga_aload_n (v := .ref 120) hm_102 rfl rfl rfl ?_
    refine ga_getr (b := 121) hm_102 rfl sc_120 rfl ?_
    refine ga_aload_n (v := .ref b) hm_102 rfl rfl rfl ?_
    refine ga_getr (b := b + 1) hm_102 rfl h_b.1.1 rfl ?_
    refine ga_iload_n (z := i) hm_102 rfl rfl ?_
    have b22_ : q ≤ F (b + 1) i.toNat ∧ F (b + 1) i.toNat ≤ 5 := gi_g hgi (gb_a h_b.2.1.2.2.1)
    refine ga_iald (z := i) (w := F (b + 1) i.toNat) hm_102 rfl h_b.1.2.1 (by omega) (by omega) (by omega) (rfl) ?_
    refine ga_iload (z := 0) hm_102 rfl rfl ?_
    refine ga_iload (z := F o (F (b + 4) i.toNat).toNat) hm_102 rfl rfl ?_
    refine gJi (nY := 3) (F := 0) (L := 0) (As := [.int (Int32.ofInt (F (b + 1) i.toNat)), .int (Int32.ofInt 0), .int (Int32.ofInt (F o (F (b + 4) i.toNat).toNat))]) (rest := [.ref 121]) hm_102 rfl hm_107 rfl rfl (fl_pos sc_0) rfl rfl rfl rfl (by omega) (by omega) ?_
    intro f23_ l24_ h25_ h26_
    show fl_R xi_ms 107 f23_ l24_ 0 [(0, .int (Int32.ofInt (F (b + 1) i.toNat))), (1, .int (Int32.ofInt 0)), (2, .int (Int32.ofInt (F o (F (b + 4) i.toNat).toNat)))] [] _ _
    refine ga_iload_n (z := F (b + 1) i.toNat) hm_107 rfl rfl ?_
    refine fl_bipush hm_107 rfl rfl ?_
    refine ga_imul (a := F (b + 1) i.toNat) (b := 6) (c := 6 * (F (b + 1) i.toNat)) hm_107 rfl (by omega) ?_
    refine ga_iload_n (z := 0) hm_107 rfl rfl ?_
    refine ga_iadd (a := 6 * (F (b + 1) i.toNat)) (b := 0) (c := 6 * (F (b + 1) i.toNat)) hm_107 rfl (by omega) ?_
    refine fl_bipush hm_107 rfl rfl ?_
    refine ga_imul (a := 6 * (F (b + 1) i.toNat)) (b := 6) (c := 36 * (F (b + 1) i.toNat)) hm_107 rfl (by omega) ?_
    refine ga_iload_n (z := F o (F (b + 4) i.toNat).toNat) hm_107 rfl rfl ?_
    refine ga_iadd (a := 36 * (F (b + 1) i.toNat)) (b := F o (F (b + 4) i.toNat).toNat) (c := 36 * (F (b + 1) i.toNat) + F o (F (b + 4) i.toNat).toNat) hm_107 rfl (by omega) ?_
    refine gr_i hm_107 rfl rfl rfl ?_
    clear h25_ h26_ f23_ l24_
    have b27_ : 0 ≤ F 121 (36 * (F (b + 1) i.toNat) + F o (F (b + 4) i.toNat).toNat).toNat ∧ F 121 (36 * (F (b + 1) i.toNat) + F o (F (b + 4) i.toNat).toNat).toNat ≤ 39 := gi_g hgi rfl
    refine ga_iald (z := 36 * (F (b + 1) i.toNat) + F o (F (b + 4) i.toNat).toNat) (w := F 121 (36 * (F (b + 1) i.toNat) + F o (F (b + 4) i.toNat).toNat).toNat) hm_102 rfl sc_121 (by omega) (by omega) (by omega) (rfl) ?_
    refine gr_i (z := F 121 (36 * (F (b + 1) i.toNat) + F o (F (b + 4) i.toNat).toNat).toNat) hm_102 rfl rfl rfl ?_
    exact ⟨rfl, (⟨by omega, by omega⟩)⟩
  refine fl_iconst hm_102 rfl ?_
  refine fl_goto hm_102 rfl ?_
  refine ga_istore (lv2 := [(5, .int (Int32.ofInt 0)), (4, .int (Int32.ofInt 0)), (0, .ref 120), (1, .ref b), (2, .int (Int32.ofInt i)), (3, .ref o)]) hm_102 rfl (Nat.le_of_ble_eq_true rfl) rfl ?_
  refine ga_aload_n (v := .ref 120) hm_102 rfl rfl rfl ?_
  refine ga_getr (b := 121) hm_102 rfl sc_120 rfl ?_
  refine ga_aload_n (v := .ref b) hm_102 rfl rfl rfl ?_
  refine ga_getr (b := b + 1) hm_102 rfl h_b.1.1 rfl ?_
  refine ga_iload_n (z := i) hm_102 rfl rfl ?_
  have b28_ : q ≤ F (b + 1) i.toNat ∧ F (b + 1) i.toNat ≤ 5 := gi_g hgi (gb_a h_b.2.1.2.2.1)
  refine ga_iald (z := i) (w := F (b + 1) i.toNat) hm_102 rfl h_b.1.2.1 (by omega) (by omega) (by omega) (rfl) ?_
  refine ga_iload (z := 0) hm_102 rfl rfl ?_
  refine ga_iload (z := 0) hm_102 rfl rfl ?_
  refine gJi (nY := 3) (F := 0) (L := 0) (As := [.int (Int32.ofInt (F (b + 1) i.toNat)), .int (Int32.ofInt 0), .int (Int32.ofInt 0)]) (rest := [.ref 121]) hm_102 rfl hm_107 rfl rfl (fl_pos sc_0) rfl rfl rfl rfl (by omega) (by omega) ?_
  intro f29_ l30_ h31_ h32_
  show fl_R xi_ms 107 f29_ l30_ 0 [(0, .int (Int32.ofInt (F (b + 1) i.toNat))), (1, .int (Int32.ofInt 0)), (2, .int (Int32.ofInt 0))] [] _ _
  refine ga_iload_n (z := F (b + 1) i.toNat) hm_107 rfl rfl ?_
  refine fl_bipush hm_107 rfl rfl ?_
  refine ga_imul (a := F (b + 1) i.toNat) (b := 6) (c := 6 * (F (b + 1) i.toNat)) hm_107 rfl (by omega) ?_
  refine ga_iload_n (z := 0) hm_107 rfl rfl ?_
  refine ga_iadd (a := 6 * (F (b + 1) i.toNat)) (b := 0) (c := 6 * (F (b + 1) i.toNat)) hm_107 rfl (by omega) ?_
  refine fl_bipush hm_107 rfl rfl ?_
  refine ga_imul (a := 6 * (F (b + 1) i.toNat)) (b := 6) (c := 36 * (F (b + 1) i.toNat)) hm_107 rfl (by omega) ?_
  refine ga_iload_n (z := 0) hm_107 rfl rfl ?_
  refine ga_iadd (a := 36 * (F (b + 1) i.toNat)) (b := 0) (c := 36 * (F (b + 1) i.toNat)) hm_107 rfl (by omega) ?_
  refine gr_i hm_107 rfl rfl rfl ?_
  clear h31_ h32_ f29_ l30_
  have b33_ : 0 ≤ F 121 (36 * (F (b + 1) i.toNat)).toNat ∧ F 121 (36 * (F (b + 1) i.toNat)).toNat ≤ 39 := gi_g hgi rfl
  refine ga_iald (z := 36 * (F (b + 1) i.toNat)) (w := F 121 (36 * (F (b + 1) i.toNat)).toNat) hm_102 rfl sc_121 (by omega) (by omega) (by omega) (rfl) ?_
  refine gr_i (z := F 121 (36 * (F (b + 1) i.toNat)).toNat) hm_102 rfl rfl rfl ?_
  exact ⟨rfl, (⟨by omega, by omega⟩)⟩
/- CheapPlanner$Needs.bindAtom -/
abbrev pq_113 (G : Nat → Nat → Option Nat) (F : fl_N) (X : xi_H) (d : Nat) (f nt : Int) : Outcome → xi_H → Prop := gqv (fun A => ∃ F' : fl_N, fl_H sh_T G F' ++ X = A ∧ gi F' ∧ fs [(d, d, 0, 1), (d, d, 4, 4), (d + 1, d + 1, 0, 100000)] F F' ∧ (F' d 4 ≤ F d 4 + 1)) gqn
theorem mc_113 {G : Nat → Nat → Option Nat} (hG : gg G) (F : fl_N) (X : xi_H) (hgi : gi F) (d : Nat) (f nt : Int) (h_d : nd d) (hf : 0 ≤ f ∧ f ≤ 39) (hnt : 0 ≤ nt ∧ nt ≤ 1) (h4 : F d 4 ≤ 3) : fl_M xi_ms 113 0 0 [.ref d, .int (Int32.ofInt f), .int (Int32.ofInt nt)] (fl_H sh_T G F ++ X) (pq_113 G F X d f nt) := by
  intro fr lo hfr hlo
  show fl_R xi_ms 113 fr lo 0 [(0, .ref d), (1, .int (Int32.ofInt f)), (2, .int (Int32.ofInt nt))] [] _ _
  have hr_d := h_d.2.2
  refine ga_iload_n (z := nt) hm_113 rfl rfl ?_
  refine fl_if_eq (a := nt) hm_113 rfl ⟨by omega, by omega⟩ (fun h1_ => ?_) (fun h2_ => ?_)
  ·
    refine ga_aload_n (v := .ref d) hm_113 rfl rfl rfl ?_
    refine ga_dup hm_113 rfl rfl ?_
    have b3_ : -9223372036854775808 ≤ F d 0 ∧ F d 0 ≤ 9223372036854775807 := gi_g hgi h_d.2.1.1
    refine ga_getl (z := F d 0) hm_113 rfl h_d.1.1 rfl (rfl) ?_
    refine ga_lconst (z := 1) hm_113 rfl rfl ?_
    refine ga_iload_n (z := f) hm_113 rfl rfl ?_
    refine ga_lany hm_113 rfl rfl rfl (fun z4_ ⟨h5_, h6_⟩ => ?_)
    refine ga_lany hm_113 rfl rfl rfl (fun z7_ ⟨h8_, h9_⟩ => ?_)
    refine ga_putl hm_113 rfl h_d.1.1 rfl rfl ?_
    refine ga_aload_n (v := .ref d) hm_113 rfl rfl rfl ?_
    refine ga_getr (b := d + 1) hm_113 rfl h_d.1.1 rfl ?_
    refine ga_aload_n (v := .ref d) hm_113 rfl rfl rfl ?_
    have b10_ : 0 ≤ F d 4 ∧ F d 4 ≤ 4 := gi_g hgi h_d.2.1.2.2.2.1
    refine ga_geti (z := F d 4) hm_113 rfl h_d.1.1 rfl (fl_u_ne (by first | exact nc_ rfl | decide | omega)) ?_
    refine ga_iload_n (z := f) hm_113 rfl rfl ?_
    refine fl_iast (z := F d 4) (v := f) hm_113 rfl h_d.1.2 (by omega) (by omega) (by omega) ?_
    refine ga_aload_n (v := .ref d) hm_113 rfl rfl rfl ?_
    refine ga_dup hm_113 rfl rfl ?_
    refine ga_geti (z := F d 4) hm_113 rfl h_d.1.1 rfl ((fl_u_ne (by first | exact nc_ rfl | decide | omega)).trans (fl_u_ne (by first | exact nc_ rfl | decide | omega))) ?_
    refine fl_iconst hm_113 rfl ?_
    refine ga_iadd (a := F d 4) (b := 1) (c := F d 4 + 1) hm_113 rfl (by omega) ?_
    refine ga_puti (z := F d 4 + 1) hm_113 rfl h_d.1.1 rfl rfl ?_
    obtain ⟨F11_, q12_⟩ : ∃ Fq_, Fq_ = (fl_u (fl_u (fl_u F d 0 z7_) (d + 1) (F d 4).toNat f) d 4 (F d 4 + 1)) := ⟨_, rfl⟩
    rw [← q12_]
    have g13_ : gi F11_ := by rw [q12_]; exact gi_u (gi_u (gi_u (hgi) h_d.2.1.1 (by omega) (by omega)) (gb_a h_d.2.1.2.2.2.2) (by omega) (by omega)) h_d.2.1.2.2.2.1 (by omega) (by omega)
    have g14_ : fs [(d, d, 0, 1), (d, d, 4, 4), (d + 1, d + 1, 0, 100000)] F F11_ := by rw [q12_]; exact fs_u (fs_u (fs_u (fs_refl) (fs_y (by omega))) (fs_z (fs_z (fs_y (by omega))))) (fs_z (fs_y (by omega)))
    refine gr_v hm_113 rfl rfl ?_
    have e15_ : F11_ d 4 = F d 4 + 1 := by rw [q12_]; exact fl_u_eq
    exact ⟨F11_, rfl, g13_, g14_, (by omega)⟩
  refine ga_aload_n (v := .ref d) hm_113 rfl rfl rfl ?_
  refine ga_dup hm_113 rfl rfl ?_
  have b16_ : -9223372036854775808 ≤ F d 1 ∧ F d 1 ≤ 9223372036854775807 := gi_g hgi h_d.2.1.2.1
  refine ga_getl (z := F d 1) hm_113 rfl h_d.1.1 rfl (rfl) ?_
  refine ga_lconst (z := 1) hm_113 rfl rfl ?_
  refine ga_iload_n (z := f) hm_113 rfl rfl ?_
  refine ga_lany hm_113 rfl rfl rfl (fun z17_ ⟨h18_, h19_⟩ => ?_)
  refine ga_lany hm_113 rfl rfl rfl (fun z20_ ⟨h21_, h22_⟩ => ?_)
  refine ga_putl hm_113 rfl h_d.1.1 rfl rfl ?_
  obtain ⟨F23_, q24_⟩ : ∃ Fq_, Fq_ = (fl_u F d 1 z20_) := ⟨_, rfl⟩
  rw [← q24_]
  have g25_ : gi F23_ := by rw [q24_]; exact gi_u (hgi) h_d.2.1.2.1 (by omega) (by omega)
  have g26_ : fs [(d, d, 0, 1), (d, d, 4, 4), (d + 1, d + 1, 0, 100000)] F F23_ := by rw [q24_]; exact fs_u (fs_refl) (fs_y (by omega))
  refine gr_v hm_113 rfl rfl ?_
  have e27_ : F23_ d 4 = F d 4 := by rw [q24_]; exact fl_u_ne (by first | exact nc_ rfl | decide | omega)
  have b28_ : 0 ≤ F d 4 ∧ F d 4 ≤ 4 := gi_g hgi h_d.2.1.2.2.2.1
  exact ⟨F23_, rfl, g25_, g26_, (by omega)⟩
/- CheapPlanner$Needs.bind -/
abbrev pq_112 (G : Nat → Nat → Option Nat) (F : fl_N) (X : xi_H) (d b o no : Nat) (q : Int) (t m : Int) : Outcome → xi_H → Prop := gqv (fun A => ∃ F' : fl_N, fl_H sh_T G F' ++ X = A ∧ gi F' ∧ fs [(d, d, 0, 2), (d, d, 4, 4), (d + 1, d + 1, 0, 100000)] F F') gqn
theorem mc_112 {G : Nat → Nat → Option Nat} (hG : gg G) (F : fl_N) (X : xi_H) (hgi : gi F) (d b o no : Nat) (q : Int) (t m : Int) (h_d : nd d) (h_b : cl b 4 t q) (h_o : sh_T[o]? = some (0, 0, [no])) (hno : no ≤ 6) (hod : o + 1 = d ∨ (o = 125 ∧ d = 123)) (hw : cw F b m) (hm : 0 ≤ m ∧ m ≤ (no : Int)) (ho : ∀ j : Nat, (j : Int) < m → 0 ≤ F o j ∧ F o j ≤ 5) : fl_M xi_ms 112 2 47 [.ref d, .ref b, .ref o, .ref 120] (fl_H sh_T G F ++ X) (pq_112 G F X d b o no q t m) := by
  intro fr lo hfr hlo
  show fl_R xi_ms 112 fr lo 0 [(0, .ref d), (1, .ref b), (2, .ref o), (3, .ref 120)] [] _ _
  have hr_d := h_d.2.2
  have hr_b := h_b.2.2
  refine ga_aload_n (v := .ref d) hm_112 rfl rfl rfl ?_
  refine ga_lconst (z := 0) hm_112 rfl rfl ?_
  refine ga_putl hm_112 rfl h_d.1.1 rfl rfl ?_
  refine ga_aload_n (v := .ref d) hm_112 rfl rfl rfl ?_
  refine ga_lconst (z := 0) hm_112 rfl rfl ?_
  refine ga_putl hm_112 rfl h_d.1.1 rfl rfl ?_
  refine ga_aload_n (v := .ref d) hm_112 rfl rfl rfl ?_
  refine fl_iconst hm_112 rfl ?_
  refine ga_putz (z := 1) hm_112 rfl h_d.1.1 rfl rfl (by omega) ?_
  refine ga_aload_n (v := .ref d) hm_112 rfl rfl rfl ?_
  refine fl_iconst hm_112 rfl ?_
  refine ga_puti (z := 0) hm_112 rfl h_d.1.1 rfl rfl ?_
  refine fl_iconst hm_112 rfl ?_
  refine ga_istore (lv2 := [(4, .int (Int32.ofInt 0)), (0, .ref d), (1, .ref b), (2, .ref o), (3, .ref 120)]) hm_112 rfl (Nat.le_of_ble_eq_true rfl) rfl ?_
  obtain ⟨F1_, q2_⟩ : ∃ Fq_, Fq_ = (fl_u (fl_u (fl_u (fl_u F d 0 0) d 1 0) d 2 1) d 4 0) := ⟨_, rfl⟩
  rw [← q2_]
  have g3_ : gi F1_ := by rw [q2_]; exact gi_u (gi_u (gi_u (gi_u (hgi) h_d.2.1.1 (by omega) (by omega)) h_d.2.1.2.1 (by omega) (by omega)) h_d.2.1.2.2.1 (by omega) (by omega)) h_d.2.1.2.2.2.1 (by omega) (by omega)
  have g4_ : fs [(d, d, 0, 2), (d, d, 4, 4), (d + 1, d + 1, 0, 100000)] F F1_ := by rw [q2_]; exact fs_u (fs_u (fs_u (fs_u (fs_refl) (fs_y (by omega))) (fs_y (by omega))) (fs_y (by omega))) (fs_z (fs_y (by omega)))
  have L6_ : ∀ (n5_ : Nat) (k : Int) (F1 : fl_N), (F1 b 4 - k : Int).toNat = n5_ → (gi F1) → (fs [(d, d, 0, 2), (d, d, 4, 4), (d + 1, d + 1, 0, 100000)] F1_ F1) → (0 ≤ k ∧ k ≤ 4) → (F1 d 4 ≤ k) → fl_R xi_ms 112 fr lo 23 [(4, .int (Int32.ofInt k)), (0, .ref d), (1, .ref b), (2, .ref o), (3, .ref 120)] [] (fl_H sh_T G F1 ++ X) (pq_112 G F X d b o no q t m) := by
    intro n5_
    induction n5_ using Nat.strongRecOn with
    | ind n5_ ih7_ =>
    intro k F1 hn8_ hg_F1 hf_F1 hk hc
    have g9_ : fs [(d, d, 0, 2), (d, d, 4, 4), (d + 1, d + 1, 0, 100000)] F F1 := fs_tr g4_ hf_F1 (by simp [fs_le]; try omega)
    refine ga_iload (z := k) hm_112 rfl rfl ?_
    refine ga_aload_n (v := .ref b) hm_112 rfl rfl rfl ?_
    have e10_ : F1_ b 4 = F b 4 := by rw [q2_]; exact (fl_u_ne (by first | exact nc_ rfl | decide | omega)).trans ((fl_u_ne (by first | exact nc_ rfl | decide | omega)).trans ((fl_u_ne (by first | exact nc_ rfl | decide | omega)).trans (fl_u_ne (by first | exact nc_ rfl | decide | omega))))
    have e11_ : F1 b 4 = F b 4 := (hf_F1 b 4 (by first | exact fs_c rfl | exact (fs_n (by omega) (fs_n (by omega) (fs_n (by omega) rfl))))).trans (e10_)
    have b12_ : 0 ≤ F b 4 ∧ F b 4 ≤ (4 : Int) := gi_g hgi h_b.2.1.1
    refine ga_geti (z := F b 4) hm_112 rfl h_b.1.1 rfl (e11_) ?_
    refine fl_icmp_ge (a := k) (b := F b 4) hm_112 rfl ⟨by omega, by omega⟩ ⟨by omega, by omega⟩ (fun h13_ => ?_) (fun h14_ => ?_)
    ·
      refine gr_v hm_112 rfl rfl ?_
      exact ⟨F1, rfl, hg_F1, g9_⟩
    refine ga_aload_n (v := .ref b) hm_112 rfl rfl rfl ?_
    refine ga_getr (b := b + 1) hm_112 rfl h_b.1.1 rfl ?_
    refine ga_iload (z := k) hm_112 rfl rfl ?_
    have e15_ : F1_ (b + 1) k.toNat = F (b + 1) k.toNat := by rw [q2_]; exact (fl_u_ne (by first | exact nc_ rfl | decide | omega)).trans ((fl_u_ne (by first | exact nc_ rfl | decide | omega)).trans ((fl_u_ne (by first | exact nc_ rfl | decide | omega)).trans (fl_u_ne (by first | exact nc_ rfl | decide | omega))))
    have e16_ : F1 (b + 1) k.toNat = F (b + 1) k.toNat := (hf_F1 (b + 1) k.toNat (by first | exact fs_c rfl | exact (fs_n (by omega) (fs_n (by omega) (fs_n (by omega) rfl))))).trans (e15_)
    have b17_ : q ≤ F (b + 1) k.toNat ∧ F (b + 1) k.toNat ≤ 5 := gi_g hgi (gb_a h_b.2.1.2.2.1)
    refine ga_iald (z := k) (w := F (b + 1) k.toNat) hm_112 rfl h_b.1.2.1 (by omega) (by omega) (by omega) (e16_) ?_
    refine fl_iconst hm_112 rfl ?_
    refine fx_icmp_ne (a := F (b + 1) k.toNat) (b := -1) hm_112 rfl ⟨by omega, by omega⟩ ⟨by omega, by omega⟩ (fun h18_ => ?_) (fun h19_ => ?_)
    ·
      refine ga_aload_n (v := .ref d) hm_112 rfl rfl rfl ?_
      refine ga_aload_n (v := .ref 120) hm_112 rfl rfl rfl ?_
      refine ga_aload_n (v := .ref b) hm_112 rfl rfl rfl ?_
      refine ga_iload (z := k) hm_112 rfl rfl ?_
      refine ga_aload_n (v := .ref o) hm_112 rfl rfl rfl ?_
      refine gVi (nY := 6) (F := 1) (L := 22) (As := [.ref b, .int (Int32.ofInt k), .ref o]) (b := 120) (rest := [.ref d]) hm_112 rfl hm_102 rfl rfl (fl_ob sc_120) rfl rfl rfl rfl rfl (by omega) (by omega) (mc_102 hG F1 X hg_F1 (b) (4) (o) (no) (t) (q) (k) (m) h_b h_o (by omega) ((cw_fs (by rw [q2_]; exact (cw_u (cw_u (cw_u (cw_u hw (by omega)) (by omega)) (by omega)) (by omega))) hf_F1 (by first | exact fs_rg rfl | exact fun r j hj => (fs_n (by omega) (fs_n (by omega) (fs_n (by omega) rfl)))))) (hm) (fun j hj => by rw [(Eq.trans (a := F1 (o) j) (b := F1_ (o) j) (hf_F1 (o) j (by first | exact fs_c rfl | exact (fs_n (by omega) (fs_n (by omega) (fs_n (by omega) rfl))))) (show F1_ (o) j = F (o) j from (by rw [q2_]; exact (fl_u_ne (by first | exact nc_ rfl | decide | omega)).trans ((fl_u_ne (by first | exact nc_ rfl | decide | omega)).trans ((fl_u_ne (by first | exact nc_ rfl | decide | omega)).trans ((fl_u_ne (by first | exact nc_ rfl | decide | omega))))))))]; exact ho j hj) (⟨by omega, by omega⟩) (by omega)) (fun _ _ h => False.elim h) ?_
      rintro z20_ A1_ ⟨hA_, c21_⟩
      subst hA_
      refine ga_aload_n (v := .ref b) hm_112 rfl rfl rfl ?_
      refine ga_getr (b := b + 2) hm_112 rfl h_b.1.1 rfl ?_
      refine ga_iload (z := k) hm_112 rfl rfl ?_
      have e22_ : F1_ (b + 2) k.toNat = F (b + 2) k.toNat := by rw [q2_]; exact (fl_u_ne (by first | exact nc_ rfl | decide | omega)).trans ((fl_u_ne (by first | exact nc_ rfl | decide | omega)).trans ((fl_u_ne (by first | exact nc_ rfl | decide | omega)).trans (fl_u_ne (by first | exact nc_ rfl | decide | omega))))
      have e23_ : F1 (b + 2) k.toNat = F (b + 2) k.toNat := (hf_F1 (b + 2) k.toNat (by first | exact fs_c rfl | exact (fs_n (by omega) (fs_n (by omega) (fs_n (by omega) rfl))))).trans (e22_)
      have b24_ : 0 ≤ F (b + 2) k.toNat ∧ F (b + 2) k.toNat ≤ 1 := gi_g hgi (gb_a h_b.2.1.2.2.2.1)
      refine ga_zald (z := k) (w := F (b + 2) k.toNat) hm_112 rfl h_b.1.2.2.1 (by omega) (by omega) (by omega) (e23_) ?_
      have b25_ : 0 ≤ F1 d 4 ∧ F1 d 4 ≤ 4 := gi_g hg_F1 h_d.2.1.2.2.2.1
      refine gVv (nY := 3) (F := 0) (L := 0) (As := [.int (Int32.ofInt z20_), .int (Int32.ofInt (F (b + 2) k.toNat))]) (b := d) (rest := []) hm_112 rfl hm_113 rfl rfl (fl_ob h_d.1.1) rfl rfl rfl rfl rfl (by omega) (by omega) (mc_113 hG F1 X hg_F1 (d) (z20_) (F (b + 2) k.toNat) h_d (⟨by omega, by omega⟩) (⟨by omega, by omega⟩) (by omega)) (fun _ _ h => False.elim h) ?_
      rintro A1_ ⟨F28_, hA_, g29_, s30_, c27_⟩
      subst hA_
      have g31_ : fs [(d, d, 0, 2), (d, d, 4, 4), (d + 1, d + 1, 0, 100000)] F F28_ := fs_tr g9_ s30_ (by simp [fs_le]; try omega)
      refine ga_inc (a := k) (c := k + 1) (lv2 := [(4, .int (Int32.ofInt (k + 1))), (0, .ref d), (1, .ref b), (2, .ref o), (3, .ref 120)]) hm_112 rfl rfl (Nat.le_of_ble_eq_true rfl) rfl rfl ?_
      refine fl_goto hm_112 rfl ?_
      have b32_ : 0 ≤ F28_ d 4 ∧ F28_ d 4 ≤ 4 := gi_g g29_ h_d.2.1.2.2.2.1
      have e33_ : F28_ b 4 = F b 4 := (s30_ b 4 (by first | exact fs_c rfl | exact (fs_n (by omega) (fs_n (by omega) (fs_n (by omega) rfl))))).trans (e11_)
      exact ih7_ _ (by omega) (k + 1) F28_ rfl g29_ (fs_tr hf_F1 s30_ (by simp [fs_le]; try omega)) (⟨by omega, by omega⟩) (by omega)
    have hw1 := hw k.toNat (by omega)
    have ho1 := ho (F (b + 3) k.toNat).toNat (by omega)
    have ho2 := ho (F (b + 4) k.toNat).toNat (by omega)
    refine ga_aload_n (v := .ref o) hm_112 rfl rfl rfl ?_
    refine ga_aload_n (v := .ref b) hm_112 rfl rfl rfl ?_
    refine ga_getr (b := b + 3) hm_112 rfl h_b.1.1 rfl ?_
    refine ga_iload (z := k) hm_112 rfl rfl ?_
    have e34_ : F1_ (b + 3) k.toNat = F (b + 3) k.toNat := by rw [q2_]; exact (fl_u_ne (by first | exact nc_ rfl | decide | omega)).trans ((fl_u_ne (by first | exact nc_ rfl | decide | omega)).trans ((fl_u_ne (by first | exact nc_ rfl | decide | omega)).trans (fl_u_ne (by first | exact nc_ rfl | decide | omega))))
    have e35_ : F1 (b + 3) k.toNat = F (b + 3) k.toNat := (hf_F1 (b + 3) k.toNat (by first | exact fs_c rfl | exact (fs_n (by omega) (fs_n (by omega) (fs_n (by omega) rfl))))).trans (e34_)
    have b36_ : -1 ≤ F (b + 3) k.toNat ∧ F (b + 3) k.toNat ≤ t := gi_g hgi (gb_a h_b.2.1.2.2.2.2.1)
    refine ga_iald (z := k) (w := F (b + 3) k.toNat) hm_112 rfl h_b.1.2.2.2.1 (by omega) (by omega) (by omega) (e35_) ?_
    have e37_ : F1_ o (F (b + 3) k.toNat).toNat = F o (F (b + 3) k.toNat).toNat := by rw [q2_]; exact (fl_u_ne (by first | exact nc_ rfl | decide | omega)).trans ((fl_u_ne (by first | exact nc_ rfl | decide | omega)).trans ((fl_u_ne (by first | exact nc_ rfl | decide | omega)).trans (fl_u_ne (by first | exact nc_ rfl | decide | omega))))
    have e38_ : F1 o (F (b + 3) k.toNat).toNat = F o (F (b + 3) k.toNat).toNat := (hf_F1 o (F (b + 3) k.toNat).toNat (by first | exact fs_c rfl | exact (fs_n (by omega) (fs_n (by omega) (fs_n (by omega) rfl))))).trans (e37_)
    refine ga_iald (z := F (b + 3) k.toNat) (w := F o (F (b + 3) k.toNat).toNat) hm_112 rfl h_o (by omega) (by omega) (by omega) (e38_) ?_
    refine ga_aload_n (v := .ref o) hm_112 rfl rfl rfl ?_
    refine ga_aload_n (v := .ref b) hm_112 rfl rfl rfl ?_
    refine ga_getr (b := b + 4) hm_112 rfl h_b.1.1 rfl ?_
    refine ga_iload (z := k) hm_112 rfl rfl ?_
    have e39_ : F1_ (b + 4) k.toNat = F (b + 4) k.toNat := by rw [q2_]; exact (fl_u_ne (by first | exact nc_ rfl | decide | omega)).trans ((fl_u_ne (by first | exact nc_ rfl | decide | omega)).trans ((fl_u_ne (by first | exact nc_ rfl | decide | omega)).trans (fl_u_ne (by first | exact nc_ rfl | decide | omega))))
    have e40_ : F1 (b + 4) k.toNat = F (b + 4) k.toNat := (hf_F1 (b + 4) k.toNat (by first | exact fs_c rfl | exact (fs_n (by omega) (fs_n (by omega) (fs_n (by omega) rfl))))).trans (e39_)
    have b41_ : -1 ≤ F (b + 4) k.toNat ∧ F (b + 4) k.toNat ≤ t := gi_g hgi (gb_a h_b.2.1.2.2.2.2.2)
    refine ga_iald (z := k) (w := F (b + 4) k.toNat) hm_112 rfl h_b.1.2.2.2.2 (by omega) (by omega) (by omega) (e40_) ?_
    have e42_ : F1_ o (F (b + 4) k.toNat).toNat = F o (F (b + 4) k.toNat).toNat := by rw [q2_]; exact (fl_u_ne (by first | exact nc_ rfl | decide | omega)).trans ((fl_u_ne (by first | exact nc_ rfl | decide | omega)).trans ((fl_u_ne (by first | exact nc_ rfl | decide | omega)).trans (fl_u_ne (by first | exact nc_ rfl | decide | omega))))
    have e43_ : F1 o (F (b + 4) k.toNat).toNat = F o (F (b + 4) k.toNat).toNat := (hf_F1 o (F (b + 4) k.toNat).toNat (by first | exact fs_c rfl | exact (fs_n (by omega) (fs_n (by omega) (fs_n (by omega) rfl))))).trans (e42_)
    refine ga_iald (z := F (b + 4) k.toNat) (w := F o (F (b + 4) k.toNat).toNat) hm_112 rfl h_o (by omega) (by omega) (by omega) (e43_) ?_
    refine fx_icmp_ne (a := F o (F (b + 3) k.toNat).toNat) (b := F o (F (b + 4) k.toNat).toNat) hm_112 rfl ⟨by omega, by omega⟩ ⟨by omega, by omega⟩ (fun h44_ => ?_) (fun h45_ => ?_)
    ·
      refine fl_iconst hm_112 rfl ?_
      refine ga_istore (lv2 := [(5, .int (Int32.ofInt 0)), (4, .int (Int32.ofInt k)), (0, .ref d), (1, .ref b), (2, .ref o), (3, .ref 120)]) hm_112 rfl (Nat.le_of_ble_eq_true rfl) rfl ?_
      refine ga_aload_n (v := .ref d) hm_112 rfl rfl rfl ?_
      refine ga_aload_n (v := .ref d) hm_112 rfl rfl rfl ?_
      have b46_ : 0 ≤ F1 d 2 ∧ F1 d 2 ≤ 1 := gi_g hg_F1 h_d.2.1.2.2.1
      refine ga_geti (z := F1 d 2) hm_112 rfl h_d.1.1 rfl (rfl) ?_
      refine fl_if_eq (a := F1 d 2) hm_112 rfl ⟨by omega, by omega⟩ (fun h47_ => ?_) (fun h48_ => ?_)
      ·
        refine fl_iconst hm_112 rfl ?_
        refine ga_putz (z := 0) hm_112 rfl h_d.1.1 rfl rfl (by omega) ?_
        refine fl_goto hm_112 rfl ?_
        refine ga_inc (a := k) (c := k + 1) (lv2 := [(4, .int (Int32.ofInt (k + 1))), (5, .int (Int32.ofInt 0)), (0, .ref d), (1, .ref b), (2, .ref o), (3, .ref 120)]) hm_112 rfl rfl (Nat.le_of_ble_eq_true rfl) rfl rfl ?_
        refine fl_goto hm_112 rfl ?_
        obtain ⟨F49_, q50_⟩ : ∃ Fq_, Fq_ = (fl_u F1 d 2 0) := ⟨_, rfl⟩
        rw [← q50_]
        have g51_ : gi F49_ := by rw [q50_]; exact gi_u (hg_F1) h_d.2.1.2.2.1 (by omega) (by omega)
        have g52_ : fs [(d, d, 0, 2), (d, d, 4, 4), (d + 1, d + 1, 0, 100000)] F F49_ := by rw [q50_]; exact fs_u (g9_) (fs_y (by omega))
        have e53_ : F49_ d 4 = F1 d 4 := by rw [q50_]; exact fl_u_ne (by first | exact nc_ rfl | decide | omega)
        have b54_ : 0 ≤ F1 d 4 ∧ F1 d 4 ≤ 4 := gi_g hg_F1 h_d.2.1.2.2.2.1
        have e55_ : F49_ b 4 = F b 4 := by rw [q50_]; exact (fl_u_ne (by first | exact nc_ rfl | decide | omega)).trans (e11_)
        exact fl_R_sub (lv' := [(4, .int (Int32.ofInt (k + 1))), (0, .ref d), (1, .ref b), (2, .ref o), (3, .ref 120)]) rfl rfl (ih7_ _ (by omega) (k + 1) F49_ rfl g51_ (by rw [q50_]; exact fs_u (hf_F1) (fs_y (by omega))) (⟨by omega, by omega⟩) (by omega))
      refine ga_iload (z := 0) hm_112 rfl rfl ?_
      refine ga_aload_n (v := .ref b) hm_112 rfl rfl rfl ?_
      refine ga_getr (b := b + 2) hm_112 rfl h_b.1.1 rfl ?_
      refine ga_iload (z := k) hm_112 rfl rfl ?_
      have e56_ : F1_ (b + 2) k.toNat = F (b + 2) k.toNat := by rw [q2_]; exact (fl_u_ne (by first | exact nc_ rfl | decide | omega)).trans ((fl_u_ne (by first | exact nc_ rfl | decide | omega)).trans ((fl_u_ne (by first | exact nc_ rfl | decide | omega)).trans (fl_u_ne (by first | exact nc_ rfl | decide | omega))))
      have e57_ : F1 (b + 2) k.toNat = F (b + 2) k.toNat := (hf_F1 (b + 2) k.toNat (by first | exact fs_c rfl | exact (fs_n (by omega) (fs_n (by omega) (fs_n (by omega) rfl))))).trans (e56_)
      have b58_ : 0 ≤ F (b + 2) k.toNat ∧ F (b + 2) k.toNat ≤ 1 := gi_g hgi (gb_a h_b.2.1.2.2.2.1)
      refine ga_zald (z := k) (w := F (b + 2) k.toNat) hm_112 rfl h_b.1.2.2.1 (by omega) (by omega) (by omega) (e57_) ?_
      refine fl_icmp_eq (a := 0) (b := F (b + 2) k.toNat) hm_112 rfl ⟨by omega, by omega⟩ ⟨by omega, by omega⟩ (fun h59_ => ?_) (fun h60_ => ?_)
      ·
        refine fl_iconst hm_112 rfl ?_
        refine ga_putz (z := 0) hm_112 rfl h_d.1.1 rfl rfl (by omega) ?_
        refine fl_goto hm_112 rfl ?_
        refine ga_inc (a := k) (c := k + 1) (lv2 := [(4, .int (Int32.ofInt (k + 1))), (5, .int (Int32.ofInt 0)), (0, .ref d), (1, .ref b), (2, .ref o), (3, .ref 120)]) hm_112 rfl rfl (Nat.le_of_ble_eq_true rfl) rfl rfl ?_
        refine fl_goto hm_112 rfl ?_
        obtain ⟨F61_, q62_⟩ : ∃ Fq_, Fq_ = (fl_u F1 d 2 0) := ⟨_, rfl⟩
        rw [← q62_]
        have g63_ : gi F61_ := by rw [q62_]; exact gi_u (hg_F1) h_d.2.1.2.2.1 (by omega) (by omega)
        have g64_ : fs [(d, d, 0, 2), (d, d, 4, 4), (d + 1, d + 1, 0, 100000)] F F61_ := by rw [q62_]; exact fs_u (g9_) (fs_y (by omega))
        have e65_ : F61_ d 4 = F1 d 4 := by rw [q62_]; exact fl_u_ne (by first | exact nc_ rfl | decide | omega)
        have b66_ : 0 ≤ F1 d 4 ∧ F1 d 4 ≤ 4 := gi_g hg_F1 h_d.2.1.2.2.2.1
        have e67_ : F61_ b 4 = F b 4 := by rw [q62_]; exact (fl_u_ne (by first | exact nc_ rfl | decide | omega)).trans (e11_)
        exact fl_R_sub (lv' := [(4, .int (Int32.ofInt (k + 1))), (0, .ref d), (1, .ref b), (2, .ref o), (3, .ref 120)]) rfl rfl (ih7_ _ (by omega) (k + 1) F61_ rfl g63_ (by rw [q62_]; exact fs_u (hf_F1) (fs_y (by omega))) (⟨by omega, by omega⟩) (by omega))
      refine fl_iconst hm_112 rfl ?_
      refine fl_goto hm_112 rfl ?_
      refine ga_putz (z := 1) hm_112 rfl h_d.1.1 rfl rfl (by omega) ?_
      refine fl_goto hm_112 rfl ?_
      refine ga_inc (a := k) (c := k + 1) (lv2 := [(4, .int (Int32.ofInt (k + 1))), (5, .int (Int32.ofInt 0)), (0, .ref d), (1, .ref b), (2, .ref o), (3, .ref 120)]) hm_112 rfl rfl (Nat.le_of_ble_eq_true rfl) rfl rfl ?_
      refine fl_goto hm_112 rfl ?_
      obtain ⟨F68_, q69_⟩ : ∃ Fq_, Fq_ = (fl_u F1 d 2 1) := ⟨_, rfl⟩
      rw [← q69_]
      have g70_ : gi F68_ := by rw [q69_]; exact gi_u (hg_F1) h_d.2.1.2.2.1 (by omega) (by omega)
      have g71_ : fs [(d, d, 0, 2), (d, d, 4, 4), (d + 1, d + 1, 0, 100000)] F F68_ := by rw [q69_]; exact fs_u (g9_) (fs_y (by omega))
      have e72_ : F68_ d 4 = F1 d 4 := by rw [q69_]; exact fl_u_ne (by first | exact nc_ rfl | decide | omega)
      have b73_ : 0 ≤ F1 d 4 ∧ F1 d 4 ≤ 4 := gi_g hg_F1 h_d.2.1.2.2.2.1
      have e74_ : F68_ b 4 = F b 4 := by rw [q69_]; exact (fl_u_ne (by first | exact nc_ rfl | decide | omega)).trans (e11_)
      exact fl_R_sub (lv' := [(4, .int (Int32.ofInt (k + 1))), (0, .ref d), (1, .ref b), (2, .ref o), (3, .ref 120)]) rfl rfl (ih7_ _ (by omega) (k + 1) F68_ rfl g70_ (by rw [q69_]; exact fs_u (hf_F1) (fs_y (by omega))) (⟨by omega, by omega⟩) (by omega))
    refine fl_iconst hm_112 rfl ?_
    refine fl_goto hm_112 rfl ?_
    refine ga_istore (lv2 := [(5, .int (Int32.ofInt 1)), (4, .int (Int32.ofInt k)), (0, .ref d), (1, .ref b), (2, .ref o), (3, .ref 120)]) hm_112 rfl (Nat.le_of_ble_eq_true rfl) rfl ?_
    refine ga_aload_n (v := .ref d) hm_112 rfl rfl rfl ?_
    refine ga_aload_n (v := .ref d) hm_112 rfl rfl rfl ?_
    have b75_ : 0 ≤ F1 d 2 ∧ F1 d 2 ≤ 1 := gi_g hg_F1 h_d.2.1.2.2.1
    refine ga_geti (z := F1 d 2) hm_112 rfl h_d.1.1 rfl (rfl) ?_
    refine fl_if_eq (a := F1 d 2) hm_112 rfl ⟨by omega, by omega⟩ (fun h76_ => ?_) (fun h77_ => ?_)
    ·
      refine fl_iconst hm_112 rfl ?_
      refine ga_putz (z := 0) hm_112 rfl h_d.1.1 rfl rfl (by omega) ?_
      refine fl_goto hm_112 rfl ?_
      refine ga_inc (a := k) (c := k + 1) (lv2 := [(4, .int (Int32.ofInt (k + 1))), (5, .int (Int32.ofInt 1)), (0, .ref d), (1, .ref b), (2, .ref o), (3, .ref 120)]) hm_112 rfl rfl (Nat.le_of_ble_eq_true rfl) rfl rfl ?_
      refine fl_goto hm_112 rfl ?_
      obtain ⟨F78_, q79_⟩ : ∃ Fq_, Fq_ = (fl_u F1 d 2 0) := ⟨_, rfl⟩
      rw [← q79_]
      have g80_ : gi F78_ := by rw [q79_]; exact gi_u (hg_F1) h_d.2.1.2.2.1 (by omega) (by omega)
      have g81_ : fs [(d, d, 0, 2), (d, d, 4, 4), (d + 1, d + 1, 0, 100000)] F F78_ := by rw [q79_]; exact fs_u (g9_) (fs_y (by omega))
      have e82_ : F78_ d 4 = F1 d 4 := by rw [q79_]; exact fl_u_ne (by first | exact nc_ rfl | decide | omega)
      have b83_ : 0 ≤ F1 d 4 ∧ F1 d 4 ≤ 4 := gi_g hg_F1 h_d.2.1.2.2.2.1
      have e84_ : F78_ b 4 = F b 4 := by rw [q79_]; exact (fl_u_ne (by first | exact nc_ rfl | decide | omega)).trans (e11_)
      exact fl_R_sub (lv' := [(4, .int (Int32.ofInt (k + 1))), (0, .ref d), (1, .ref b), (2, .ref o), (3, .ref 120)]) rfl rfl (ih7_ _ (by omega) (k + 1) F78_ rfl g80_ (by rw [q79_]; exact fs_u (hf_F1) (fs_y (by omega))) (⟨by omega, by omega⟩) (by omega))
    refine ga_iload (z := 1) hm_112 rfl rfl ?_
    refine ga_aload_n (v := .ref b) hm_112 rfl rfl rfl ?_
    refine ga_getr (b := b + 2) hm_112 rfl h_b.1.1 rfl ?_
    refine ga_iload (z := k) hm_112 rfl rfl ?_
    have e85_ : F1_ (b + 2) k.toNat = F (b + 2) k.toNat := by rw [q2_]; exact (fl_u_ne (by first | exact nc_ rfl | decide | omega)).trans ((fl_u_ne (by first | exact nc_ rfl | decide | omega)).trans ((fl_u_ne (by first | exact nc_ rfl | decide | omega)).trans (fl_u_ne (by first | exact nc_ rfl | decide | omega))))
    have e86_ : F1 (b + 2) k.toNat = F (b + 2) k.toNat := (hf_F1 (b + 2) k.toNat (by first | exact fs_c rfl | exact (fs_n (by omega) (fs_n (by omega) (fs_n (by omega) rfl))))).trans (e85_)
    have b87_ : 0 ≤ F (b + 2) k.toNat ∧ F (b + 2) k.toNat ≤ 1 := gi_g hgi (gb_a h_b.2.1.2.2.2.1)
    refine ga_zald (z := k) (w := F (b + 2) k.toNat) hm_112 rfl h_b.1.2.2.1 (by omega) (by omega) (by omega) (e86_) ?_
    refine fl_icmp_eq (a := 1) (b := F (b + 2) k.toNat) hm_112 rfl ⟨by omega, by omega⟩ ⟨by omega, by omega⟩ (fun h88_ => ?_) (fun h89_ => ?_)
    ·
      refine fl_iconst hm_112 rfl ?_
      refine ga_putz (z := 0) hm_112 rfl h_d.1.1 rfl rfl (by omega) ?_
      refine fl_goto hm_112 rfl ?_
      refine ga_inc (a := k) (c := k + 1) (lv2 := [(4, .int (Int32.ofInt (k + 1))), (5, .int (Int32.ofInt 1)), (0, .ref d), (1, .ref b), (2, .ref o), (3, .ref 120)]) hm_112 rfl rfl (Nat.le_of_ble_eq_true rfl) rfl rfl ?_
      refine fl_goto hm_112 rfl ?_
      obtain ⟨F90_, q91_⟩ : ∃ Fq_, Fq_ = (fl_u F1 d 2 0) := ⟨_, rfl⟩
      rw [← q91_]
      have g92_ : gi F90_ := by rw [q91_]; exact gi_u (hg_F1) h_d.2.1.2.2.1 (by omega) (by omega)
      have g93_ : fs [(d, d, 0, 2), (d, d, 4, 4), (d + 1, d + 1, 0, 100000)] F F90_ := by rw [q91_]; exact fs_u (g9_) (fs_y (by omega))
      have e94_ : F90_ d 4 = F1 d 4 := by rw [q91_]; exact fl_u_ne (by first | exact nc_ rfl | decide | omega)
      have b95_ : 0 ≤ F1 d 4 ∧ F1 d 4 ≤ 4 := gi_g hg_F1 h_d.2.1.2.2.2.1
      have e96_ : F90_ b 4 = F b 4 := by rw [q91_]; exact (fl_u_ne (by first | exact nc_ rfl | decide | omega)).trans (e11_)
      exact fl_R_sub (lv' := [(4, .int (Int32.ofInt (k + 1))), (0, .ref d), (1, .ref b), (2, .ref o), (3, .ref 120)]) rfl rfl (ih7_ _ (by omega) (k + 1) F90_ rfl g92_ (by rw [q91_]; exact fs_u (hf_F1) (fs_y (by omega))) (⟨by omega, by omega⟩) (by omega))
    refine fl_iconst hm_112 rfl ?_
    refine fl_goto hm_112 rfl ?_
    refine ga_putz (z := 1) hm_112 rfl h_d.1.1 rfl rfl (by omega) ?_
    refine fl_goto hm_112 rfl ?_
    refine ga_inc (a := k) (c := k + 1) (lv2 := [(4, .int (Int32.ofInt (k + 1))), (5, .int (Int32.ofInt 1)), (0, .ref d), (1, .ref b), (2, .ref o), (3, .ref 120)]) hm_112 rfl rfl (Nat.le_of_ble_eq_true rfl) rfl rfl ?_
    refine fl_goto hm_112 rfl ?_
    obtain ⟨F97_, q98_⟩ : ∃ Fq_, Fq_ = (fl_u F1 d 2 1) := ⟨_, rfl⟩
    rw [← q98_]
    have g99_ : gi F97_ := by rw [q98_]; exact gi_u (hg_F1) h_d.2.1.2.2.1 (by omega) (by omega)
    have g100_ : fs [(d, d, 0, 2), (d, d, 4, 4), (d + 1, d + 1, 0, 100000)] F F97_ := by rw [q98_]; exact fs_u (g9_) (fs_y (by omega))
    have e101_ : F97_ d 4 = F1 d 4 := by rw [q98_]; exact fl_u_ne (by first | exact nc_ rfl | decide | omega)
    have b102_ : 0 ≤ F1 d 4 ∧ F1 d 4 ≤ 4 := gi_g hg_F1 h_d.2.1.2.2.2.1
    have e103_ : F97_ b 4 = F b 4 := by rw [q98_]; exact (fl_u_ne (by first | exact nc_ rfl | decide | omega)).trans (e11_)
    exact fl_R_sub (lv' := [(4, .int (Int32.ofInt (k + 1))), (0, .ref d), (1, .ref b), (2, .ref o), (3, .ref 120)]) rfl rfl (ih7_ _ (by omega) (k + 1) F97_ rfl g99_ (by rw [q98_]; exact fs_u (hf_F1) (fs_y (by omega))) (⟨by omega, by omega⟩) (by omega))
  have e104_ : F1_ d 4 = 0 := by rw [q2_]; exact fl_u_eq
  have e105_ : F1_ b 4 = F b 4 := by rw [q2_]; exact (fl_u_ne (by first | exact nc_ rfl | decide | omega)).trans ((fl_u_ne (by first | exact nc_ rfl | decide | omega)).trans ((fl_u_ne (by first | exact nc_ rfl | decide | omega)).trans (fl_u_ne (by first | exact nc_ rfl | decide | omega))))
  have b106_ : 0 ≤ F b 4 ∧ F b 4 ≤ (4 : Int) := gi_g hgi h_b.2.1.1
  exact L6_ _ (0) F1_ rfl g3_ fs_refl (⟨by omega, by omega⟩) (by omega)
/- CheapPlanner$Step.bindEffect -/
abbrev pq_144 (G : Nat → Nat → Option Nat) (F : fl_N) (X : xi_H) (a b : Nat) (m : Int) : Outcome → xi_H → Prop := gqv (fun A => ∃ F' : fl_N, fl_H sh_T G F' ++ X = A ∧ gi F' ∧ fs [(a, a, 2, 2), (a, a, 4, 5), (a, a, 7, 7), (a + 4, a + 4, 0, 100000)] F F') gqn
theorem mc_144 {G : Nat → Nat → Option Nat} (hG : gg G) (F : fl_N) (X : xi_H) (hgi : gi F) (a b : Nat) (m : Int) (h_a : sp a) (h_b : cl b 4 2 0) (hw : cw F b m) (hm : 0 ≤ m ∧ m ≤ 3) (ho : ∀ j : Nat, (j : Int) < m → 0 ≤ F (a + 1) j ∧ F (a + 1) j ≤ 5) : fl_M xi_ms 144 2 47 [.ref a, .ref b, .ref 120] (fl_H sh_T G F ++ X) (pq_144 G F X a b m) := by
  intro fr lo hfr hlo
  show fl_R xi_ms 144 fr lo 0 [(0, .ref a), (1, .ref b), (2, .ref 120)] [] _ _
  have hr_a := h_a.2.2
  have hr_b := h_b.2.2
  refine ga_aload_n (v := .ref a) hm_144 rfl rfl rfl ?_
  refine ga_aload_n (v := .ref b) hm_144 rfl rfl rfl ?_
  have b1_ : 0 ≤ F b 5 ∧ F b 5 ≤ 999 := gi_g hgi h_b.2.1.2.1
  refine ga_geti (z := F b 5) hm_144 rfl h_b.1.1 rfl (rfl) ?_
  refine fx_if_ne (a := F b 5) hm_144 rfl ⟨by omega, by omega⟩ (fun h2_ => ?_) (fun h3_ => ?_)
  ·
    refine ga_aload_n (v := .ref b) hm_144 rfl rfl rfl ?_
    refine ga_geti (z := F b 5) hm_144 rfl h_b.1.1 rfl (rfl) ?_
    refine ga_puti (z := F b 5) hm_144 rfl h_a.1.1 rfl rfl ?_
    refine ga_aload_n (v := .ref a) hm_144 rfl rfl rfl ?_
    refine ga_lconst (z := 0) hm_144 rfl rfl ?_
    refine ga_putl hm_144 rfl h_a.1.1 rfl rfl ?_
    refine ga_aload_n (v := .ref a) hm_144 rfl rfl rfl ?_
    refine ga_lconst (z := 0) hm_144 rfl rfl ?_
    refine ga_putl hm_144 rfl h_a.1.1 rfl rfl ?_
    refine ga_aload_n (v := .ref a) hm_144 rfl rfl rfl ?_
    refine fl_iconst hm_144 rfl ?_
    refine ga_puti (z := 0) hm_144 rfl h_a.1.1 rfl rfl ?_
    refine fl_iconst hm_144 rfl ?_
    refine ga_istore_n (lv2 := [(3, .int (Int32.ofInt 0)), (0, .ref a), (1, .ref b), (2, .ref 120)]) hm_144 rfl (Nat.le_of_ble_eq_true rfl) rfl ?_
    obtain ⟨F4_, q5_⟩ : ∃ Fq_, Fq_ = (fl_u (fl_u (fl_u (fl_u F a 2 (F b 5)) a 4 0) a 5 0) a 7 0) := ⟨_, rfl⟩
    rw [← q5_]
    have g6_ : gi F4_ := by rw [q5_]; exact gi_u (gi_u (gi_u (gi_u (hgi) h_a.2.1.2.2.1 (by omega) (by omega)) h_a.2.1.2.2.2.1 (by omega) (by omega)) h_a.2.1.2.2.2.2.1 (by omega) (by omega)) h_a.2.1.2.2.2.2.2.1 (by omega) (by omega)
    have g7_ : fs [(a, a, 2, 2), (a, a, 4, 5), (a, a, 7, 7), (a + 4, a + 4, 0, 100000)] F F4_ := by rw [q5_]; exact fs_u (fs_u (fs_u (fs_u (fs_refl) (fs_y (by omega))) (fs_z (fs_y (by omega)))) (fs_z (fs_y (by omega)))) (fs_z (fs_z (fs_y (by omega))))
    have L9_ : ∀ (n8_ : Nat) (k : Int) (F1 : fl_N), (F1 b 4 - k : Int).toNat = n8_ → (gi F1) → (fs [(a, a, 2, 2), (a, a, 4, 5), (a, a, 7, 7), (a + 4, a + 4, 0, 100000)] F4_ F1) → (0 ≤ k ∧ k ≤ 4) → (F1 a 7 ≤ k) → fl_R xi_ms 144 fr lo 36 [(3, .int (Int32.ofInt k)), (0, .ref a), (1, .ref b), (2, .ref 120)] [] (fl_H sh_T G F1 ++ X) (pq_144 G F X a b m) := by
      intro n8_
      induction n8_ using Nat.strongRecOn with
      | ind n8_ ih10_ =>
      intro k F1 hn11_ hg_F1 hf_F1 hk hc
      have g12_ : fs [(a, a, 2, 2), (a, a, 4, 5), (a, a, 7, 7), (a + 4, a + 4, 0, 100000)] F F1 := fs_tr g7_ hf_F1 (by simp [fs_le]; try omega)
      refine ga_iload_n (z := k) hm_144 rfl rfl ?_
      refine ga_aload_n (v := .ref b) hm_144 rfl rfl rfl ?_
      have e13_ : F4_ b 4 = F b 4 := by rw [q5_]; exact (fl_u_ne (by first | exact nc_ rfl | decide | omega)).trans ((fl_u_ne (by first | exact nc_ rfl | decide | omega)).trans ((fl_u_ne (by first | exact nc_ rfl | decide | omega)).trans (fl_u_ne (by first | exact nc_ rfl | decide | omega))))
      have e14_ : F1 b 4 = F b 4 := (hf_F1 b 4 (by first | exact fs_c rfl | exact (fs_n (by omega) (fs_n (by omega) (fs_n (by omega) (fs_n (by omega) rfl)))))).trans (e13_)
      have b15_ : 0 ≤ F b 4 ∧ F b 4 ≤ (4 : Int) := gi_g hgi h_b.2.1.1
      refine ga_geti (z := F b 4) hm_144 rfl h_b.1.1 rfl (e14_) ?_
      refine fl_icmp_ge (a := k) (b := F b 4) hm_144 rfl ⟨by omega, by omega⟩ ⟨by omega, by omega⟩ (fun h16_ => ?_) (fun h17_ => ?_)
      ·
        refine gr_v hm_144 rfl rfl ?_
        exact ⟨F1, rfl, hg_F1, g12_⟩
      refine ga_aload_n (v := .ref 120) hm_144 rfl rfl rfl ?_
      refine ga_aload_n (v := .ref b) hm_144 rfl rfl rfl ?_
      refine ga_iload_n (z := k) hm_144 rfl rfl ?_
      refine ga_aload_n (v := .ref a) hm_144 rfl rfl rfl ?_
      refine ga_getr (b := a + 1) hm_144 rfl h_a.1.1 rfl ?_
      refine gVi (nY := 6) (F := 1) (L := 22) (As := [.ref b, .int (Int32.ofInt k), .ref (a + 1)]) (b := 120) (rest := []) hm_144 rfl hm_102 rfl rfl (fl_ob sc_120) rfl rfl rfl rfl rfl (by omega) (by omega) (mc_102 hG F1 X hg_F1 (b) (4) (a + 1) (3) (2) (0) (k) (m) h_b h_a.1.2.1 (by omega) ((cw_fs (by rw [q5_]; exact (cw_u (cw_u (cw_u (cw_u hw (by omega)) (by omega)) (by omega)) (by omega))) hf_F1 (by first | exact fs_rg rfl | exact fun r j hj => (fs_n (by omega) (fs_n (by omega) (fs_n (by omega) (fs_n (by omega) rfl))))))) (by omega) (fun j hj => by rw [(Eq.trans (a := F1 (a + 1) j) (b := F4_ (a + 1) j) (hf_F1 (a + 1) j (by first | exact fs_c rfl | exact (fs_n (by omega) (fs_n (by omega) (fs_n (by omega) (fs_n (by omega) rfl)))))) (show F4_ (a + 1) j = F (a + 1) j from (by rw [q5_]; exact (fl_u_ne (by first | exact nc_ rfl | decide | omega)).trans ((fl_u_ne (by first | exact nc_ rfl | decide | omega)).trans ((fl_u_ne (by first | exact nc_ rfl | decide | omega)).trans ((fl_u_ne (by first | exact nc_ rfl | decide | omega))))))))]; exact ho j hj) (⟨by omega, by omega⟩) ((show 0 ≤ F1 (b + 1) k.toNat ∧ F1 (b + 1) k.toNat ≤ 5 from gi_g hg_F1 (gb_a h_b.2.1.2.2.1)).1)) (fun _ _ h => False.elim h) ?_
      rintro z18_ A1_ ⟨hA_, c19_⟩
      subst hA_
      refine ga_istore (lv2 := [(4, .int (Int32.ofInt z18_)), (3, .int (Int32.ofInt k)), (0, .ref a), (1, .ref b), (2, .ref 120)]) hm_144 rfl (Nat.le_of_ble_eq_true rfl) rfl ?_
      refine ga_aload_n (v := .ref b) hm_144 rfl rfl rfl ?_
      refine ga_getr (b := b + 2) hm_144 rfl h_b.1.1 rfl ?_
      refine ga_iload_n (z := k) hm_144 rfl rfl ?_
      have e20_ : F4_ (b + 2) k.toNat = F (b + 2) k.toNat := by rw [q5_]; exact (fl_u_ne (by first | exact nc_ rfl | decide | omega)).trans ((fl_u_ne (by first | exact nc_ rfl | decide | omega)).trans ((fl_u_ne (by first | exact nc_ rfl | decide | omega)).trans (fl_u_ne (by first | exact nc_ rfl | decide | omega))))
      have e21_ : F1 (b + 2) k.toNat = F (b + 2) k.toNat := (hf_F1 (b + 2) k.toNat (by first | exact fs_c rfl | exact (fs_n (by omega) (fs_n (by omega) (fs_n (by omega) (fs_n (by omega) rfl)))))).trans (e20_)
      have b22_ : 0 ≤ F (b + 2) k.toNat ∧ F (b + 2) k.toNat ≤ 1 := gi_g hgi (gb_a h_b.2.1.2.2.2.1)
      refine ga_zald (z := k) (w := F (b + 2) k.toNat) hm_144 rfl h_b.1.2.2.1 (by omega) (by omega) (by omega) (e21_) ?_
      refine fl_if_eq (a := F (b + 2) k.toNat) hm_144 rfl ⟨by omega, by omega⟩ (fun h23_ => ?_) (fun h24_ => ?_)
      ·
        refine ga_aload_n (v := .ref a) hm_144 rfl rfl rfl ?_
        refine ga_dup hm_144 rfl rfl ?_
        have b25_ : -9223372036854775808 ≤ F1 a 5 ∧ F1 a 5 ≤ 9223372036854775807 := gi_g hg_F1 h_a.2.1.2.2.2.2.1
        refine ga_getl (z := F1 a 5) hm_144 rfl h_a.1.1 rfl (rfl) ?_
        refine ga_lconst (z := 1) hm_144 rfl rfl ?_
        refine ga_iload (z := z18_) hm_144 rfl rfl ?_
        refine ga_lany hm_144 rfl rfl rfl (fun z26_ ⟨h27_, h28_⟩ => ?_)
        refine ga_lany hm_144 rfl rfl rfl (fun z29_ ⟨h30_, h31_⟩ => ?_)
        refine ga_putl hm_144 rfl h_a.1.1 rfl rfl ?_
        refine ga_aload_n (v := .ref a) hm_144 rfl rfl rfl ?_
        refine ga_getr (b := a + 4) hm_144 rfl h_a.1.1 rfl ?_
        refine ga_aload_n (v := .ref a) hm_144 rfl rfl rfl ?_
        have b32_ : 0 ≤ F1 a 7 ∧ F1 a 7 ≤ 4 := gi_g hg_F1 h_a.2.1.2.2.2.2.2.1
        refine ga_geti (z := F1 a 7) hm_144 rfl h_a.1.1 rfl (fl_u_ne (by first | exact nc_ rfl | decide | omega)) ?_
        refine ga_iload (z := z18_) hm_144 rfl rfl ?_
        refine fl_iast (z := F1 a 7) (v := z18_) hm_144 rfl h_a.1.2.2.2.2 (by omega) (by omega) (by omega) ?_
        refine ga_aload_n (v := .ref a) hm_144 rfl rfl rfl ?_
        refine ga_dup hm_144 rfl rfl ?_
        refine ga_geti (z := F1 a 7) hm_144 rfl h_a.1.1 rfl ((fl_u_ne (by first | exact nc_ rfl | decide | omega)).trans (fl_u_ne (by first | exact nc_ rfl | decide | omega))) ?_
        refine fl_iconst hm_144 rfl ?_
        refine ga_iadd (a := F1 a 7) (b := 1) (c := F1 a 7 + 1) hm_144 rfl (by omega) ?_
        refine ga_puti (z := F1 a 7 + 1) hm_144 rfl h_a.1.1 rfl rfl ?_
        refine ga_inc (a := k) (c := k + 1) (lv2 := [(3, .int (Int32.ofInt (k + 1))), (4, .int (Int32.ofInt z18_)), (0, .ref a), (1, .ref b), (2, .ref 120)]) hm_144 rfl rfl (Nat.le_of_ble_eq_true rfl) rfl rfl ?_
        refine fl_goto hm_144 rfl ?_
        obtain ⟨F33_, q34_⟩ : ∃ Fq_, Fq_ = (fl_u (fl_u (fl_u F1 a 5 z29_) (a + 4) (F1 a 7).toNat z18_) a 7 (F1 a 7 + 1)) := ⟨_, rfl⟩
        rw [← q34_]
        have g35_ : gi F33_ := by rw [q34_]; exact gi_u (gi_u (gi_u (hg_F1) h_a.2.1.2.2.2.2.1 (by omega) (by omega)) (gb_a h_a.2.1.2.2.2.2.2.2.2.2.2.2.2) (by omega) (by omega)) h_a.2.1.2.2.2.2.2.1 (by omega) (by omega)
        have g36_ : fs [(a, a, 2, 2), (a, a, 4, 5), (a, a, 7, 7), (a + 4, a + 4, 0, 100000)] F F33_ := by rw [q34_]; exact fs_u (fs_u (fs_u (g12_) (fs_z (fs_y (by omega)))) (fs_z (fs_z (fs_z (fs_y (by omega)))))) (fs_z (fs_z (fs_y (by omega))))
        have e37_ : F33_ a 7 = F1 a 7 + 1 := by rw [q34_]; exact fl_u_eq
        have e38_ : F33_ b 4 = F b 4 := by rw [q34_]; exact (fl_u_ne (by first | exact nc_ rfl | decide | omega)).trans ((fl_u_ne (by first | exact nc_ rfl | decide | omega)).trans ((fl_u_ne (by first | exact nc_ rfl | decide | omega)).trans (e14_)))
        exact fl_R_sub (lv' := [(3, .int (Int32.ofInt (k + 1))), (0, .ref a), (1, .ref b), (2, .ref 120)]) rfl rfl (ih10_ _ (by omega) (k + 1) F33_ rfl g35_ (by rw [q34_]; exact fs_u (fs_u (fs_u (hf_F1) (fs_z (fs_y (by omega)))) (fs_z (fs_z (fs_z (fs_y (by omega)))))) (fs_z (fs_z (fs_y (by omega))))) (⟨by omega, by omega⟩) (by omega))
      refine ga_aload_n (v := .ref a) hm_144 rfl rfl rfl ?_
      refine ga_dup hm_144 rfl rfl ?_
      have b39_ : -9223372036854775808 ≤ F1 a 4 ∧ F1 a 4 ≤ 9223372036854775807 := gi_g hg_F1 h_a.2.1.2.2.2.1
      refine ga_getl (z := F1 a 4) hm_144 rfl h_a.1.1 rfl (rfl) ?_
      refine ga_lconst (z := 1) hm_144 rfl rfl ?_
      refine ga_iload (z := z18_) hm_144 rfl rfl ?_
      refine ga_lany hm_144 rfl rfl rfl (fun z40_ ⟨h41_, h42_⟩ => ?_)
      refine ga_lany hm_144 rfl rfl rfl (fun z43_ ⟨h44_, h45_⟩ => ?_)
      refine ga_putl hm_144 rfl h_a.1.1 rfl rfl ?_
      refine fl_goto hm_144 rfl ?_
      refine ga_inc (a := k) (c := k + 1) (lv2 := [(3, .int (Int32.ofInt (k + 1))), (4, .int (Int32.ofInt z18_)), (0, .ref a), (1, .ref b), (2, .ref 120)]) hm_144 rfl rfl (Nat.le_of_ble_eq_true rfl) rfl rfl ?_
      refine fl_goto hm_144 rfl ?_
      obtain ⟨F46_, q47_⟩ : ∃ Fq_, Fq_ = (fl_u F1 a 4 z43_) := ⟨_, rfl⟩
      rw [← q47_]
      have g48_ : gi F46_ := by rw [q47_]; exact gi_u (hg_F1) h_a.2.1.2.2.2.1 (by omega) (by omega)
      have g49_ : fs [(a, a, 2, 2), (a, a, 4, 5), (a, a, 7, 7), (a + 4, a + 4, 0, 100000)] F F46_ := by rw [q47_]; exact fs_u (g12_) (fs_z (fs_y (by omega)))
      have e50_ : F46_ a 7 = F1 a 7 := by rw [q47_]; exact fl_u_ne (by first | exact nc_ rfl | decide | omega)
      have b51_ : 0 ≤ F1 a 7 ∧ F1 a 7 ≤ 4 := gi_g hg_F1 h_a.2.1.2.2.2.2.2.1
      have e52_ : F46_ b 4 = F b 4 := by rw [q47_]; exact (fl_u_ne (by first | exact nc_ rfl | decide | omega)).trans (e14_)
      exact fl_R_sub (lv' := [(3, .int (Int32.ofInt (k + 1))), (0, .ref a), (1, .ref b), (2, .ref 120)]) rfl rfl (ih10_ _ (by omega) (k + 1) F46_ rfl g48_ (by rw [q47_]; exact fs_u (hf_F1) (fs_z (fs_y (by omega)))) (⟨by omega, by omega⟩) (by omega))
    have e53_ : F4_ a 7 = 0 := by rw [q5_]; exact fl_u_eq
    have e54_ : F4_ b 4 = F b 4 := by rw [q5_]; exact (fl_u_ne (by first | exact nc_ rfl | decide | omega)).trans ((fl_u_ne (by first | exact nc_ rfl | decide | omega)).trans ((fl_u_ne (by first | exact nc_ rfl | decide | omega)).trans (fl_u_ne (by first | exact nc_ rfl | decide | omega))))
    have b55_ : 0 ≤ F b 4 ∧ F b 4 ≤ (4 : Int) := gi_g hgi h_b.2.1.1
    exact L9_ _ (0) F4_ rfl g6_ fs_refl (⟨by omega, by omega⟩) (by omega)
  refine fl_iconst hm_144 rfl ?_
  refine fl_goto hm_144 rfl ?_
  refine ga_puti (z := 1) hm_144 rfl h_a.1.1 rfl rfl ?_
  refine ga_aload_n (v := .ref a) hm_144 rfl rfl rfl ?_
  refine ga_lconst (z := 0) hm_144 rfl rfl ?_
  refine ga_putl hm_144 rfl h_a.1.1 rfl rfl ?_
  refine ga_aload_n (v := .ref a) hm_144 rfl rfl rfl ?_
  refine ga_lconst (z := 0) hm_144 rfl rfl ?_
  refine ga_putl hm_144 rfl h_a.1.1 rfl rfl ?_
  refine ga_aload_n (v := .ref a) hm_144 rfl rfl rfl ?_
  refine fl_iconst hm_144 rfl ?_
  refine ga_puti (z := 0) hm_144 rfl h_a.1.1 rfl rfl ?_
  refine fl_iconst hm_144 rfl ?_
  refine ga_istore_n (lv2 := [(3, .int (Int32.ofInt 0)), (0, .ref a), (1, .ref b), (2, .ref 120)]) hm_144 rfl (Nat.le_of_ble_eq_true rfl) rfl ?_
  obtain ⟨F56_, q57_⟩ : ∃ Fq_, Fq_ = (fl_u (fl_u (fl_u (fl_u F a 2 1) a 4 0) a 5 0) a 7 0) := ⟨_, rfl⟩
  rw [← q57_]
  have g58_ : gi F56_ := by rw [q57_]; exact gi_u (gi_u (gi_u (gi_u (hgi) h_a.2.1.2.2.1 (by omega) (by omega)) h_a.2.1.2.2.2.1 (by omega) (by omega)) h_a.2.1.2.2.2.2.1 (by omega) (by omega)) h_a.2.1.2.2.2.2.2.1 (by omega) (by omega)
  have g59_ : fs [(a, a, 2, 2), (a, a, 4, 5), (a, a, 7, 7), (a + 4, a + 4, 0, 100000)] F F56_ := by rw [q57_]; exact fs_u (fs_u (fs_u (fs_u (fs_refl) (fs_y (by omega))) (fs_z (fs_y (by omega)))) (fs_z (fs_y (by omega)))) (fs_z (fs_z (fs_y (by omega))))
  have L61_ : ∀ (n60_ : Nat) (k : Int) (F1 : fl_N), (F1 b 4 - k : Int).toNat = n60_ → (gi F1) → (fs [(a, a, 2, 2), (a, a, 4, 5), (a, a, 7, 7), (a + 4, a + 4, 0, 100000)] F56_ F1) → (0 ≤ k ∧ k ≤ 4) → (F1 a 7 ≤ k) → fl_R xi_ms 144 fr lo 36 [(3, .int (Int32.ofInt k)), (0, .ref a), (1, .ref b), (2, .ref 120)] [] (fl_H sh_T G F1 ++ X) (pq_144 G F X a b m) := by
    intro n60_
    induction n60_ using Nat.strongRecOn with
    | ind n60_ ih62_ =>
    intro k F1 hn63_ hg_F1 hf_F1 hk hc
    have g64_ : fs [(a, a, 2, 2), (a, a, 4, 5), (a, a, 7, 7), (a + 4, a + 4, 0, 100000)] F F1 := fs_tr g59_ hf_F1 (by simp [fs_le]; try omega)
    refine ga_iload_n (z := k) hm_144 rfl rfl ?_
    refine ga_aload_n (v := .ref b) hm_144 rfl rfl rfl ?_
    have e65_ : F56_ b 4 = F b 4 := by rw [q57_]; exact (fl_u_ne (by first | exact nc_ rfl | decide | omega)).trans ((fl_u_ne (by first | exact nc_ rfl | decide | omega)).trans ((fl_u_ne (by first | exact nc_ rfl | decide | omega)).trans (fl_u_ne (by first | exact nc_ rfl | decide | omega))))
    have e66_ : F1 b 4 = F b 4 := (hf_F1 b 4 (by first | exact fs_c rfl | exact (fs_n (by omega) (fs_n (by omega) (fs_n (by omega) (fs_n (by omega) rfl)))))).trans (e65_)
    have b67_ : 0 ≤ F b 4 ∧ F b 4 ≤ (4 : Int) := gi_g hgi h_b.2.1.1
    refine ga_geti (z := F b 4) hm_144 rfl h_b.1.1 rfl (e66_) ?_
    refine fl_icmp_ge (a := k) (b := F b 4) hm_144 rfl ⟨by omega, by omega⟩ ⟨by omega, by omega⟩ (fun h68_ => ?_) (fun h69_ => ?_)
    ·
      refine gr_v hm_144 rfl rfl ?_
      exact ⟨F1, rfl, hg_F1, g64_⟩
    refine ga_aload_n (v := .ref 120) hm_144 rfl rfl rfl ?_
    refine ga_aload_n (v := .ref b) hm_144 rfl rfl rfl ?_
    refine ga_iload_n (z := k) hm_144 rfl rfl ?_
    refine ga_aload_n (v := .ref a) hm_144 rfl rfl rfl ?_
    refine ga_getr (b := a + 1) hm_144 rfl h_a.1.1 rfl ?_
    refine gVi (nY := 6) (F := 1) (L := 22) (As := [.ref b, .int (Int32.ofInt k), .ref (a + 1)]) (b := 120) (rest := []) hm_144 rfl hm_102 rfl rfl (fl_ob sc_120) rfl rfl rfl rfl rfl (by omega) (by omega) (mc_102 hG F1 X hg_F1 (b) (4) (a + 1) (3) (2) (0) (k) (m) h_b h_a.1.2.1 (by omega) ((cw_fs (by rw [q57_]; exact (cw_u (cw_u (cw_u (cw_u hw (by omega)) (by omega)) (by omega)) (by omega))) hf_F1 (by first | exact fs_rg rfl | exact fun r j hj => (fs_n (by omega) (fs_n (by omega) (fs_n (by omega) (fs_n (by omega) rfl))))))) (by omega) (fun j hj => by rw [(Eq.trans (a := F1 (a + 1) j) (b := F56_ (a + 1) j) (hf_F1 (a + 1) j (by first | exact fs_c rfl | exact (fs_n (by omega) (fs_n (by omega) (fs_n (by omega) (fs_n (by omega) rfl)))))) (show F56_ (a + 1) j = F (a + 1) j from (by rw [q57_]; exact (fl_u_ne (by first | exact nc_ rfl | decide | omega)).trans ((fl_u_ne (by first | exact nc_ rfl | decide | omega)).trans ((fl_u_ne (by first | exact nc_ rfl | decide | omega)).trans ((fl_u_ne (by first | exact nc_ rfl | decide | omega))))))))]; exact ho j hj) (⟨by omega, by omega⟩) ((show 0 ≤ F1 (b + 1) k.toNat ∧ F1 (b + 1) k.toNat ≤ 5 from gi_g hg_F1 (gb_a h_b.2.1.2.2.1)).1)) (fun _ _ h => False.elim h) ?_
    rintro z70_ A1_ ⟨hA_, c71_⟩
    subst hA_
    refine ga_istore (lv2 := [(4, .int (Int32.ofInt z70_)), (3, .int (Int32.ofInt k)), (0, .ref a), (1, .ref b), (2, .ref 120)]) hm_144 rfl (Nat.le_of_ble_eq_true rfl) rfl ?_
    refine ga_aload_n (v := .ref b) hm_144 rfl rfl rfl ?_
    refine ga_getr (b := b + 2) hm_144 rfl h_b.1.1 rfl ?_
    refine ga_iload_n (z := k) hm_144 rfl rfl ?_
    have e72_ : F56_ (b + 2) k.toNat = F (b + 2) k.toNat := by rw [q57_]; exact (fl_u_ne (by first | exact nc_ rfl | decide | omega)).trans ((fl_u_ne (by first | exact nc_ rfl | decide | omega)).trans ((fl_u_ne (by first | exact nc_ rfl | decide | omega)).trans (fl_u_ne (by first | exact nc_ rfl | decide | omega))))
    have e73_ : F1 (b + 2) k.toNat = F (b + 2) k.toNat := (hf_F1 (b + 2) k.toNat (by first | exact fs_c rfl | exact (fs_n (by omega) (fs_n (by omega) (fs_n (by omega) (fs_n (by omega) rfl)))))).trans (e72_)
    have b74_ : 0 ≤ F (b + 2) k.toNat ∧ F (b + 2) k.toNat ≤ 1 := gi_g hgi (gb_a h_b.2.1.2.2.2.1)
    refine ga_zald (z := k) (w := F (b + 2) k.toNat) hm_144 rfl h_b.1.2.2.1 (by omega) (by omega) (by omega) (e73_) ?_
    refine fl_if_eq (a := F (b + 2) k.toNat) hm_144 rfl ⟨by omega, by omega⟩ (fun h75_ => ?_) (fun h76_ => ?_)
    ·
      refine ga_aload_n (v := .ref a) hm_144 rfl rfl rfl ?_
      refine ga_dup hm_144 rfl rfl ?_
      have b77_ : -9223372036854775808 ≤ F1 a 5 ∧ F1 a 5 ≤ 9223372036854775807 := gi_g hg_F1 h_a.2.1.2.2.2.2.1
      refine ga_getl (z := F1 a 5) hm_144 rfl h_a.1.1 rfl (rfl) ?_
      refine ga_lconst (z := 1) hm_144 rfl rfl ?_
      refine ga_iload (z := z70_) hm_144 rfl rfl ?_
      refine ga_lany hm_144 rfl rfl rfl (fun z78_ ⟨h79_, h80_⟩ => ?_)
      refine ga_lany hm_144 rfl rfl rfl (fun z81_ ⟨h82_, h83_⟩ => ?_)
      refine ga_putl hm_144 rfl h_a.1.1 rfl rfl ?_
      refine ga_aload_n (v := .ref a) hm_144 rfl rfl rfl ?_
      refine ga_getr (b := a + 4) hm_144 rfl h_a.1.1 rfl ?_
      refine ga_aload_n (v := .ref a) hm_144 rfl rfl rfl ?_
      have b84_ : 0 ≤ F1 a 7 ∧ F1 a 7 ≤ 4 := gi_g hg_F1 h_a.2.1.2.2.2.2.2.1
      refine ga_geti (z := F1 a 7) hm_144 rfl h_a.1.1 rfl (fl_u_ne (by first | exact nc_ rfl | decide | omega)) ?_
      refine ga_iload (z := z70_) hm_144 rfl rfl ?_
      refine fl_iast (z := F1 a 7) (v := z70_) hm_144 rfl h_a.1.2.2.2.2 (by omega) (by omega) (by omega) ?_
      refine ga_aload_n (v := .ref a) hm_144 rfl rfl rfl ?_
      refine ga_dup hm_144 rfl rfl ?_
      refine ga_geti (z := F1 a 7) hm_144 rfl h_a.1.1 rfl ((fl_u_ne (by first | exact nc_ rfl | decide | omega)).trans (fl_u_ne (by first | exact nc_ rfl | decide | omega))) ?_
      refine fl_iconst hm_144 rfl ?_
      refine ga_iadd (a := F1 a 7) (b := 1) (c := F1 a 7 + 1) hm_144 rfl (by omega) ?_
      refine ga_puti (z := F1 a 7 + 1) hm_144 rfl h_a.1.1 rfl rfl ?_
      refine ga_inc (a := k) (c := k + 1) (lv2 := [(3, .int (Int32.ofInt (k + 1))), (4, .int (Int32.ofInt z70_)), (0, .ref a), (1, .ref b), (2, .ref 120)]) hm_144 rfl rfl (Nat.le_of_ble_eq_true rfl) rfl rfl ?_
      refine fl_goto hm_144 rfl ?_
      obtain ⟨F85_, q86_⟩ : ∃ Fq_, Fq_ = (fl_u (fl_u (fl_u F1 a 5 z81_) (a + 4) (F1 a 7).toNat z70_) a 7 (F1 a 7 + 1)) := ⟨_, rfl⟩
      rw [← q86_]
      have g87_ : gi F85_ := by rw [q86_]; exact gi_u (gi_u (gi_u (hg_F1) h_a.2.1.2.2.2.2.1 (by omega) (by omega)) (gb_a h_a.2.1.2.2.2.2.2.2.2.2.2.2.2) (by omega) (by omega)) h_a.2.1.2.2.2.2.2.1 (by omega) (by omega)
      have g88_ : fs [(a, a, 2, 2), (a, a, 4, 5), (a, a, 7, 7), (a + 4, a + 4, 0, 100000)] F F85_ := by rw [q86_]; exact fs_u (fs_u (fs_u (g64_) (fs_z (fs_y (by omega)))) (fs_z (fs_z (fs_z (fs_y (by omega)))))) (fs_z (fs_z (fs_y (by omega))))
      have e89_ : F85_ a 7 = F1 a 7 + 1 := by rw [q86_]; exact fl_u_eq
      have e90_ : F85_ b 4 = F b 4 := by rw [q86_]; exact (fl_u_ne (by first | exact nc_ rfl | decide | omega)).trans ((fl_u_ne (by first | exact nc_ rfl | decide | omega)).trans ((fl_u_ne (by first | exact nc_ rfl | decide | omega)).trans (e66_)))
      exact fl_R_sub (lv' := [(3, .int (Int32.ofInt (k + 1))), (0, .ref a), (1, .ref b), (2, .ref 120)]) rfl rfl (ih62_ _ (by omega) (k + 1) F85_ rfl g87_ (by rw [q86_]; exact fs_u (fs_u (fs_u (hf_F1) (fs_z (fs_y (by omega)))) (fs_z (fs_z (fs_z (fs_y (by omega)))))) (fs_z (fs_z (fs_y (by omega))))) (⟨by omega, by omega⟩) (by omega))
    refine ga_aload_n (v := .ref a) hm_144 rfl rfl rfl ?_
    refine ga_dup hm_144 rfl rfl ?_
    have b91_ : -9223372036854775808 ≤ F1 a 4 ∧ F1 a 4 ≤ 9223372036854775807 := gi_g hg_F1 h_a.2.1.2.2.2.1
    refine ga_getl (z := F1 a 4) hm_144 rfl h_a.1.1 rfl (rfl) ?_
    refine ga_lconst (z := 1) hm_144 rfl rfl ?_
    refine ga_iload (z := z70_) hm_144 rfl rfl ?_
    refine ga_lany hm_144 rfl rfl rfl (fun z92_ ⟨h93_, h94_⟩ => ?_)
    refine ga_lany hm_144 rfl rfl rfl (fun z95_ ⟨h96_, h97_⟩ => ?_)
    refine ga_putl hm_144 rfl h_a.1.1 rfl rfl ?_
    refine fl_goto hm_144 rfl ?_
    refine ga_inc (a := k) (c := k + 1) (lv2 := [(3, .int (Int32.ofInt (k + 1))), (4, .int (Int32.ofInt z70_)), (0, .ref a), (1, .ref b), (2, .ref 120)]) hm_144 rfl rfl (Nat.le_of_ble_eq_true rfl) rfl rfl ?_
    refine fl_goto hm_144 rfl ?_
    obtain ⟨F98_, q99_⟩ : ∃ Fq_, Fq_ = (fl_u F1 a 4 z95_) := ⟨_, rfl⟩
    rw [← q99_]
    have g100_ : gi F98_ := by rw [q99_]; exact gi_u (hg_F1) h_a.2.1.2.2.2.1 (by omega) (by omega)
    have g101_ : fs [(a, a, 2, 2), (a, a, 4, 5), (a, a, 7, 7), (a + 4, a + 4, 0, 100000)] F F98_ := by rw [q99_]; exact fs_u (g64_) (fs_z (fs_y (by omega)))
    have e102_ : F98_ a 7 = F1 a 7 := by rw [q99_]; exact fl_u_ne (by first | exact nc_ rfl | decide | omega)
    have b103_ : 0 ≤ F1 a 7 ∧ F1 a 7 ≤ 4 := gi_g hg_F1 h_a.2.1.2.2.2.2.2.1
    have e104_ : F98_ b 4 = F b 4 := by rw [q99_]; exact (fl_u_ne (by first | exact nc_ rfl | decide | omega)).trans (e66_)
    exact fl_R_sub (lv' := [(3, .int (Int32.ofInt (k + 1))), (0, .ref a), (1, .ref b), (2, .ref 120)]) rfl rfl (ih62_ _ (by omega) (k + 1) F98_ rfl g100_ (by rw [q99_]; exact fs_u (hf_F1) (fs_z (fs_y (by omega)))) (⟨by omega, by omega⟩) (by omega))
  have e105_ : F56_ a 7 = 0 := by rw [q57_]; exact fl_u_eq
  have e106_ : F56_ b 4 = F b 4 := by rw [q57_]; exact (fl_u_ne (by first | exact nc_ rfl | decide | omega)).trans ((fl_u_ne (by first | exact nc_ rfl | decide | omega)).trans ((fl_u_ne (by first | exact nc_ rfl | decide | omega)).trans (fl_u_ne (by first | exact nc_ rfl | decide | omega))))
  have b107_ : 0 ≤ F b 4 ∧ F b 4 ≤ (4 : Int) := gi_g hgi h_b.2.1.1
  exact L61_ _ (0) F56_ rfl g58_ fs_refl (⟨by omega, by omega⟩) (by omega)
/- CheapPlanner$Ground.bindStep -/
abbrev pq_100 (G : Nat → Nat → Option Nat) (F : fl_N) (X : xi_H) (a n : Nat) : Outcome → xi_H → Prop := gqi (fun z A => ∃ F' : fl_N, fl_H sh_T G F' ++ X = A ∧ gi F' ∧ fs [(a, a, 2, 2), (a, a, 4, 5), (a, a, 7, 7), (a + 2, a + 2, 0, 4), (a + 3, a + 4, 0, 100000)] F F' ∧ (0 ≤ z ∧ z ≤ 1)) gqn
theorem mc_100 {G : Nat → Nat → Option Nat} (hG : gg G) (F : fl_N) (X : xi_H) (hgi : gi F) (a n : Nat) (h_a : sp a) (hdi : di F n) (hn : (F a 0).toNat < n ∧ n ≤ 5) (hoa : ∀ j : Nat, (j : Int) < F (39 + 13 * (F a 0).toNat) 2 → 0 ≤ F (a + 1) j) : fl_M xi_ms 100 3 72 [.ref 120, .ref a, .ref 7] (fl_H sh_T G F ++ X) (pq_100 G F X a n) := by
  intro fr lo hfr hlo
  show fl_R xi_ms 100 fr lo 0 [(0, .ref 120), (1, .ref a), (2, .ref 7)] [] _ _
  have hd1 := hdi (F a 0).toNat hn.1
  have hba : 0 ≤ F a 0 ∧ F a 0 ≤ 4 := gi_g hgi h_a.2.1.1
  have hpm := pm_b hgi (j := (F a 0).toNat) (by omega)
  have hob : ∀ j : Nat, (j : Int) < F (39 + 13 * (F a 0).toNat) 2 → 0 ≤ F (a + 1) j ∧ F (a + 1) j ≤ 5 := fun j hj => ⟨hoa j hj, (gi_g (r := a + 1) (k := j) hgi (gb_a h_a.2.1.2.1)).2⟩
  have hr_a := h_a.2.2
  refine ga_aload_n (v := .ref a) hm_100 rfl rfl rfl ?_
  refine ga_getr (b := a + 2) hm_100 rfl h_a.1.1 rfl ?_
  refine ga_aload_n (v := .ref 7) hm_100 rfl rfl rfl ?_
  refine ga_getr (b := 19) hm_100 rfl sc_7 rfl ?_
  refine ga_aload_n (v := .ref a) hm_100 rfl rfl rfl ?_
  have b1_ : 0 ≤ F a 0 ∧ F a 0 ≤ 4 := gi_g hgi h_a.2.1.1
  refine ga_geti (z := F a 0) hm_100 rfl h_a.1.1 rfl (rfl) ?_
  obtain ⟨a2_, r3_, n4_, q5_⟩ := ra_19 (F a 0).toNat (by omega)
  refine fl_aald (z := F a 0) (q := a2_) hm_100 rfl sc_19 (hG _ _ _ sc_19) rfl (by omega) (by simp only [List.length_cons, List.length_nil]; omega) (by simp only [List.length_cons, List.length_nil]; omega) r3_ ?_
  refine ga_aload_n (v := .ref a) hm_100 rfl rfl rfl ?_
  refine ga_getr (b := a + 1) hm_100 rfl h_a.1.1 rfl ?_
  refine ga_aload_n (v := .ref 120) hm_100 rfl rfl rfl ?_
  refine gVv (nY := 6) (F := 2) (L := 47) (As := [.ref a2_, .ref (a + 1), .ref 120]) (b := a + 2) (rest := []) hm_100 rfl hm_112 rfl rfl (fl_ob h_a.1.2.2.1) rfl rfl rfl rfl rfl (by omega) (by omega) (mc_112 hG F X hgi (a + 2) (a2_) (a + 1) (3) (-1) (2) (F (39 + 13 * (F a 0).toNat) 2) (nd_sp h_a) n4_ h_a.1.2.1 (by omega) (by omega) (by rw [show a2_ = 39 + 13 * (F a 0).toNat + 3 by omega]; exact hd1.1) (by omega) (hob)) (fun _ _ h => False.elim h) ?_
  rintro A1_ ⟨F7_, hA_, g8_, s9_⟩
  subst hA_
  have g10_ : fs [(a, a, 2, 2), (a, a, 4, 5), (a, a, 7, 7), (a + 2, a + 2, 0, 4), (a + 3, a + 4, 0, 100000)] F F7_ := fs_tr fs_refl s9_ (by simp [fs_le]; try omega)
  refine ga_aload_n (v := .ref a) hm_100 rfl rfl rfl ?_
  refine ga_aload_n (v := .ref 7) hm_100 rfl rfl rfl ?_
  refine ga_getr (b := 20) hm_100 rfl sc_7 rfl ?_
  refine ga_aload_n (v := .ref a) hm_100 rfl rfl rfl ?_
  have e11_ : F7_ a 0 = F a 0 := (s9_ a 0 (by first | exact fs_c rfl | exact (fs_n (by omega) (fs_n (by omega) (fs_n (by omega) rfl))))).trans (rfl)
  refine ga_geti (z := F a 0) hm_100 rfl h_a.1.1 rfl (e11_) ?_
  obtain ⟨a12_, r13_, n14_, q15_⟩ := ra_20 (F a 0).toNat (by omega)
  refine fl_aald (z := F a 0) (q := a12_) hm_100 rfl sc_20 (hG _ _ _ sc_20) rfl (by omega) (by simp only [List.length_cons, List.length_nil]; omega) (by simp only [List.length_cons, List.length_nil]; omega) r13_ ?_
  refine ga_aload_n (v := .ref 120) hm_100 rfl rfl rfl ?_
  refine gVv (nY := 5) (F := 2) (L := 47) (As := [.ref a12_, .ref 120]) (b := a) (rest := []) hm_100 rfl hm_144 rfl rfl (fl_ob h_a.1.1) rfl rfl rfl rfl rfl (by omega) (by omega) (mc_144 hG F7_ X g8_ (a) (a12_) (F (39 + 13 * (F a 0).toNat) 2) h_a n14_ (by rw [show a12_ = 39 + 13 * (F a 0).toNat + 8 by omega]; exact (cw_fs hd1.2 s9_ (by first | exact fs_rg rfl | exact fun r j hj => (fs_n (by omega) (fs_n (by omega) (fs_n (by omega) rfl)))))) (by omega) (fun j hj => by rw [(show F7_ (a + 1) j = F (a + 1) j from (s9_ (a + 1) j (by first | exact fs_c rfl | exact (fs_n (by omega) (fs_n (by omega) (fs_n (by omega) rfl))))))]; exact hob j hj)) (fun _ _ h => False.elim h) ?_
  rintro A1_ ⟨F17_, hA_, g18_, s19_⟩
  subst hA_
  have g20_ : fs [(a, a, 2, 2), (a, a, 4, 5), (a, a, 7, 7), (a + 2, a + 2, 0, 4), (a + 3, a + 4, 0, 100000)] F F17_ := fs_tr g10_ s19_ (by simp [fs_le]; try omega)
  refine ga_aload_n (v := .ref a) hm_100 rfl rfl rfl ?_
  refine ga_getr (b := a + 2) hm_100 rfl h_a.1.1 rfl ?_
  refine gIi (nY := 1) (F := 0) (L := 0) (As := []) (b := a + 2) (rest := []) hm_100 rfl hm_114 rfl rfl (fl_ob h_a.1.2.2.1) rfl rfl rfl rfl rfl (by omega) (by omega) ?_
  intro f21_ l22_ h23_ h24_
  show fl_R xi_ms 114 f21_ l22_ 0 [(0, .ref (a + 2))] [] _ _
  refine ga_aload_n (v := .ref (a + 2)) hm_114 rfl rfl rfl ?_
  have e25_ : F17_ (a + 2) 2 = F7_ (a + 2) 2 := (s19_ (a + 2) 2 (by first | exact fs_c rfl | exact (fs_n (by omega) (fs_n (by omega) (fs_n (by omega) (fs_n (by omega) rfl)))))).trans (rfl)
  have b26_ : 0 ≤ F7_ (a + 2) 2 ∧ F7_ (a + 2) 2 ≤ 1 := gi_g g8_ h_a.2.1.2.2.2.2.2.2.2.2.1
  refine ga_geti (z := F7_ (a + 2) 2) hm_114 rfl h_a.1.2.2.1 rfl (e25_) ?_
  refine gr_i hm_114 rfl rfl (ga_nb (by omega)) ?_
  clear h23_ h24_ f21_ l22_
  refine gr_i (z := F7_ (a + 2) 2) hm_100 rfl rfl (ga_nb (by omega)) ?_
  exact ⟨F17_, rfl, g18_, g20_, (⟨by omega, by omega⟩)⟩

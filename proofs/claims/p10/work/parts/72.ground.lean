/-! the ground: steps -/
theorem ob_step {F : fl_N} {a : Nat} {k pc v : Int} (h : ∀ j : Nat, k < (j : Int) → (j : Int) < pc → 0 ≤ F a j) (hk : 0 ≤ k) (hv : 0 ≤ v) : ∀ j : Nat, k - 1 < (j : Int) → (j : Int) < pc → 0 ≤ fl_u F a k.toNat v a j := by
  intro j h1 h2
  by_cases e : j = k.toNat
  · subst e
    rw [fl_u_eq]
    exact hv
  · rw [fl_u_ne (by omega)]
    exact h j (by omega) h2
theorem pm_b {F : fl_N} (h : gi F) {j : Nat} (hj : j < 5) : 0 ≤ F (39 + 13 * j) 2 ∧ F (39 + 13 * j) 2 ≤ 3 := by
  match j, hj with
  | 0, _ => exact gi_g (r := 39) (k := 2) h rfl
  | 1, _ => exact gi_g (r := 52) (k := 2) h rfl
  | 2, _ => exact gi_g (r := 65) (k := 2) h rfl
  | 3, _ => exact gi_g (r := 78) (k := 2) h rfl
  | 4, _ => exact gi_g (r := 91) (k := 2) h rfl
  | n + 5, h => exact absurd h (by omega)

/- CheapPlanner$Step.choose -/
abbrev pq_145 (G : Nat → Nat → Option Nat) (F : fl_N) (X : xi_H) (a : Nat) (w wy pc oc : Int) (n : Nat) : Outcome → xi_H → Prop := gqv (fun A => ∃ F' : fl_N, fl_H sh_T G F' ++ X = A ∧ gi F' ∧ fs [(a, a, 0, 0), (a + 1, a + 1, 0, 100000)] F F' ∧ (F' a 0 = w) ∧ (obd F' (a + 1) pc.toNat (bx n pc.toNat wy.toNat))) gqn
theorem mc_145 {G : Nat → Nat → Option Nat} (hG : gg G) (F : fl_N) (X : xi_H) (hgi : gi F) (a : Nat) (w wy pc oc : Int) (n : Nat) (h_a : sp a) (hw : 0 ≤ w ∧ w ≤ 4) (hwy : 0 ≤ wy ∧ wy ≤ 216) (hpc : 0 ≤ pc ∧ pc ≤ 3) (hoc : oc = (n : Int) ∧ 0 < n ∧ n ≤ 6) : fl_M xi_ms 145 1 23 [.ref a, .int (Int32.ofInt w), .int (Int32.ofInt wy), .int (Int32.ofInt pc), .int (Int32.ofInt oc)] (fl_H sh_T G F ++ X) (pq_145 G F X a w wy pc oc n) := by
  intro fr lo hfr hlo
  show fl_R xi_ms 145 fr lo 0 [(0, .ref a), (1, .int (Int32.ofInt w)), (2, .int (Int32.ofInt wy)), (3, .int (Int32.ofInt pc)), (4, .int (Int32.ofInt oc))] [] _ _
  have hr_a := h_a.2.2
  refine ga_aload_n (v := .ref a) hm_145 rfl rfl rfl ?_
  refine ga_iload_n (z := w) hm_145 rfl rfl ?_
  refine ga_puti (z := w) hm_145 rfl h_a.1.1 rfl rfl ?_
  refine ga_aload_n (v := .ref a) hm_145 rfl rfl rfl ?_
  refine ga_getr (b := a + 1) hm_145 rfl h_a.1.1 rfl ?_
  refine fl_iconst hm_145 rfl ?_
  obtain ⟨F1_, q2_⟩ : ∃ Fq_, Fq_ = (fl_u F a 0 w) := ⟨_, rfl⟩
  rw [← q2_]
  have g3_ : gi F1_ := by rw [q2_]; exact gi_u (hgi) h_a.2.1.1 (by omega) (by omega)
  have g4_ : fs [(a, a, 0, 0), (a + 1, a + 1, 0, 100000)] F F1_ := by rw [q2_]; exact fs_u (fs_refl) (fs_y (by omega))
  refine gSv (nY := 4) (F := 0) (L := 0) (As := [.ref (a + 1), .int (Int32.ofInt (-1))]) (rest := []) hm_145 rfl hm_43 rfl rfl (fl_pos sc_0) rfl rfl rfl rfl (by omega) (by omega) (mc_43 hG F1_ X g3_ (a + 1) (3) (-1) (-1) (5) h_a.1.2.1 (fun _ => (gb_a h_a.2.1.2.1)) (⟨by omega, by omega⟩) (by omega) (⟨by omega, by omega⟩))  ?_
  rintro A1_ ⟨F7_, hA_, g8_, s9_, c6_⟩
  subst hA_
  have g10_ : fs [(a, a, 0, 0), (a + 1, a + 1, 0, 100000)] F F7_ := fs_tr g4_ s9_ (by simp [fs_le]; try omega)
  refine fl_iconst hm_145 rfl ?_
  refine ga_iload (z := oc) hm_145 rfl rfl ?_
  refine gJi (nY := 2) (F := 0) (L := 0) (As := [.int (Int32.ofInt 1), .int (Int32.ofInt oc)]) (rest := []) hm_145 rfl hm_195 rfl rfl (fl_pos sc_0) rfl rfl rfl rfl (by omega) (by omega) ?_
  intro f11_ l12_ h13_ h14_
  show fl_R xi_ms 195 f11_ l12_ 0 [(0, .int (Int32.ofInt 1)), (1, .int (Int32.ofInt oc))] [] _ _
  refine ga_iload_n (z := 1) hm_195 rfl rfl ?_
  refine ga_iload_n (z := oc) hm_195 rfl rfl ?_
  refine fl_icmp_lt (a := 1) (b := oc) hm_195 rfl ⟨by omega, by omega⟩ ⟨by omega, by omega⟩ (fun h15_ => ?_) (fun h16_ => ?_)
  ·
    refine ga_iload_n (z := oc) hm_195 rfl rfl ?_
    refine gr_i hm_195 rfl rfl rfl ?_
    clear h13_ h14_ f11_ l12_
    refine ga_istore (lv2 := [(5, .int (Int32.ofInt oc)), (0, .ref a), (1, .int (Int32.ofInt w)), (2, .int (Int32.ofInt wy)), (3, .int (Int32.ofInt pc)), (4, .int (Int32.ofInt oc))]) hm_145 rfl (Nat.le_of_ble_eq_true rfl) rfl ?_
    refine ga_iload_n (z := wy) hm_145 rfl rfl ?_
    refine ga_istore (lv2 := [(6, .int (Int32.ofInt wy)), (5, .int (Int32.ofInt oc)), (0, .ref a), (1, .int (Int32.ofInt w)), (2, .int (Int32.ofInt wy)), (3, .int (Int32.ofInt pc)), (4, .int (Int32.ofInt oc))]) hm_145 rfl (Nat.le_of_ble_eq_true rfl) rfl ?_
    refine ga_iload_n (z := pc) hm_145 rfl rfl ?_
    refine fl_iconst hm_145 rfl ?_
    refine ga_isub (a := pc) (b := 1) (c := pc - 1) hm_145 rfl (by omega) ?_
    refine ga_istore (lv2 := [(7, .int (Int32.ofInt (pc - 1))), (6, .int (Int32.ofInt wy)), (5, .int (Int32.ofInt oc)), (0, .ref a), (1, .int (Int32.ofInt w)), (2, .int (Int32.ofInt wy)), (3, .int (Int32.ofInt pc)), (4, .int (Int32.ofInt oc))]) hm_145 rfl (Nat.le_of_ble_eq_true rfl) rfl ?_
    have L18_ : ∀ (n17_ : Nat) (k : Int) (rs : Int) (F1 : fl_N), (k + 1 : Int).toNat = n17_ → (gi F1) → (fs [(a + 1, a + 1, 0, 100000)] F7_ F1) → (-1 ≤ k ∧ k < pc) → (0 ≤ rs ∧ rs ≤ 216) → (rs = ((wy.toNat / n ^ (pc - 1 - k).toNat : Nat) : Int)) → (∀ j : Nat, k < (j : Int) → (j : Int) < pc → F1 (a + 1) j = ((wy.toNat / n ^ (pc - 1 - (j : Int)).toNat % n : Nat) : Int)) → (∀ j : Nat, pc ≤ (j : Int) → j < 3 → F1 (a + 1) j = -1) → fl_R xi_ms 145 fr lo 29 [(7, .int (Int32.ofInt k)), (6, .int (Int32.ofInt rs)), (5, .int (Int32.ofInt oc)), (0, .ref a), (1, .int (Int32.ofInt w)), (2, .int (Int32.ofInt wy)), (3, .int (Int32.ofInt pc)), (4, .int (Int32.ofInt oc))] [] (fl_H sh_T G F1 ++ X) (pq_145 G F X a w wy pc oc n) := by
      intro n17_
      induction n17_ using Nat.strongRecOn with
      | ind n17_ ih19_ =>
      intro k rs F1 hn20_ hg_F1 hf_F1 hk hrb hrs hob hmi
      have g21_ : fs [(a, a, 0, 0), (a + 1, a + 1, 0, 100000)] F F1 := fs_tr g10_ hf_F1 (by simp [fs_le]; try omega)
      refine ga_iload (z := k) hm_145 rfl rfl ?_
      refine fl_if_lt (a := k) hm_145 rfl ⟨by omega, by omega⟩ (fun h22_ => ?_) (fun h23_ => ?_)
      ·
        refine gr_v hm_145 rfl rfl ?_
        have e24_ : F1_ a 0 = w := by rw [q2_]; exact fl_u_eq
        have e25_ : F7_ a 0 = w := (s9_ a 0 (by first | exact fs_c rfl | exact (fs_n (by omega) rfl))).trans (e24_)
        have e26_ : F1 a 0 = w := (hf_F1 a 0 (by first | exact fs_c rfl | exact (fs_n (by omega) rfl))).trans (e25_)
        exact ⟨F1, rfl, hg_F1, g21_, (by omega), (obd_of hoc.2.2 hoc.2.1 hpc (fun j h1 h2 => hob j (by omega) h2) hmi)⟩
      refine ga_aload_n (v := .ref a) hm_145 rfl rfl rfl ?_
      refine ga_getr (b := a + 1) hm_145 rfl h_a.1.1 rfl ?_
      refine ga_iload (z := k) hm_145 rfl rfl ?_
      refine ga_iload (z := rs) hm_145 rfl rfl ?_
      refine ga_iload (z := oc) hm_145 rfl rfl ?_
      refine ga_irem (a := rs) (b := oc) hm_145 rfl (by omega) (by omega) (by omega) (by omega) ?_
      have b27_ : 0 ≤ rs % oc ∧ rs % oc < oc := ⟨Int.emod_nonneg _ (by omega), Int.emod_lt_of_pos _ (by omega)⟩
      refine fl_iast (z := k) (v := (rs % oc)) hm_145 rfl h_a.1.2.1 (by omega) (by omega) (by omega) ?_
      refine ga_iload (z := rs) hm_145 rfl rfl ?_
      refine ga_iload (z := oc) hm_145 rfl rfl ?_
      refine ga_idiv (a := rs) (b := oc) hm_145 rfl (by omega) (by omega) (by omega) (by omega) ?_
      have b28_ : 0 ≤ rs / oc ∧ rs / oc ≤ rs := ⟨Int.ediv_nonneg (by omega) (by omega), Int.ediv_le_self _ (by omega)⟩
      refine ga_istore (lv2 := [(6, .int (Int32.ofInt ((rs / oc)))), (7, .int (Int32.ofInt k)), (5, .int (Int32.ofInt oc)), (0, .ref a), (1, .int (Int32.ofInt w)), (2, .int (Int32.ofInt wy)), (3, .int (Int32.ofInt pc)), (4, .int (Int32.ofInt oc))]) hm_145 rfl (Nat.le_of_ble_eq_true rfl) rfl ?_
      refine ga_inc (a := k) (c := k - 1) (lv2 := [(7, .int (Int32.ofInt (k - 1))), (6, .int (Int32.ofInt ((rs / oc)))), (5, .int (Int32.ofInt oc)), (0, .ref a), (1, .int (Int32.ofInt w)), (2, .int (Int32.ofInt wy)), (3, .int (Int32.ofInt pc)), (4, .int (Int32.ofInt oc))]) hm_145 rfl rfl (Nat.le_of_ble_eq_true rfl) (by omega) rfl ?_
      refine fl_goto hm_145 rfl ?_
      obtain ⟨F29_, q30_⟩ : ∃ Fq_, Fq_ = (fl_u F1 (a + 1) k.toNat ((rs % oc))) := ⟨_, rfl⟩
      rw [← q30_]
      have g31_ : gi F29_ := by rw [q30_]; exact gi_u (hg_F1) (gb_a h_a.2.1.2.1) (by omega) (by omega)
      have g32_ : fs [(a, a, 0, 0), (a + 1, a + 1, 0, 100000)] F F29_ := by rw [q30_]; exact fs_u (g21_) (fs_z (fs_y (by omega)))
      exact ih19_ _ (by omega) (k - 1) ((rs / oc)) F29_ rfl g31_ (by rw [q30_]; exact fs_u (hf_F1) (fs_y (by omega))) (⟨by omega, by omega⟩) (by have h9_ : 0 ≤ rs / oc := Int.ediv_nonneg (by omega) (by omega); have h8_ := Int.ediv_le_self (oc) (show 0 ≤ rs by omega); omega) (by exact (congrArg (fun t => rs / t) (show (oc : Int) = (n : Int) by omega)).trans (by rw [show (pc - 1 - (k - 1)).toNat = (pc - 1 - k).toNat + 1 by omega]; exact dv_step hrs)) (by rw [q30_]; exact dg_st hob (by omega) ((congrArg (fun t => rs % t) (show (oc : Int) = (n : Int) by omega)).trans (md_dg hrs))) (fun j h1 h2 => by rw [q30_, fl_u_ne (by first | exact nc_ rfl | decide | omega)]; exact hmi j h1 h2)
    exact L18_ _ (pc - 1) (wy) F7_ rfl g8_ fs_refl (⟨by omega, by omega⟩) (⟨by omega, by omega⟩) (by rw [show (pc - 1 - (pc - 1)).toNat = 0 by omega, Nat.pow_zero, Nat.div_one]; omega) (fun j h1 h2 => absurd h1 (by omega)) (fun j h1 h2 => c6_ j (by omega))
  refine ga_iload_n (z := 1) hm_195 rfl rfl ?_
  refine fl_goto hm_195 rfl ?_
  refine gr_i hm_195 rfl rfl rfl ?_
  clear h13_ h14_ f11_ l12_
  refine ga_istore (lv2 := [(5, .int (Int32.ofInt 1)), (0, .ref a), (1, .int (Int32.ofInt w)), (2, .int (Int32.ofInt wy)), (3, .int (Int32.ofInt pc)), (4, .int (Int32.ofInt oc))]) hm_145 rfl (Nat.le_of_ble_eq_true rfl) rfl ?_
  refine ga_iload_n (z := wy) hm_145 rfl rfl ?_
  refine ga_istore (lv2 := [(6, .int (Int32.ofInt wy)), (5, .int (Int32.ofInt 1)), (0, .ref a), (1, .int (Int32.ofInt w)), (2, .int (Int32.ofInt wy)), (3, .int (Int32.ofInt pc)), (4, .int (Int32.ofInt oc))]) hm_145 rfl (Nat.le_of_ble_eq_true rfl) rfl ?_
  refine ga_iload_n (z := pc) hm_145 rfl rfl ?_
  refine fl_iconst hm_145 rfl ?_
  refine ga_isub (a := pc) (b := 1) (c := pc - 1) hm_145 rfl (by omega) ?_
  refine ga_istore (lv2 := [(7, .int (Int32.ofInt (pc - 1))), (6, .int (Int32.ofInt wy)), (5, .int (Int32.ofInt 1)), (0, .ref a), (1, .int (Int32.ofInt w)), (2, .int (Int32.ofInt wy)), (3, .int (Int32.ofInt pc)), (4, .int (Int32.ofInt oc))]) hm_145 rfl (Nat.le_of_ble_eq_true rfl) rfl ?_
  have L34_ : ∀ (n33_ : Nat) (k : Int) (rs : Int) (F1 : fl_N), (k + 1 : Int).toNat = n33_ → (gi F1) → (fs [(a + 1, a + 1, 0, 100000)] F7_ F1) → (-1 ≤ k ∧ k < pc) → (0 ≤ rs ∧ rs ≤ 216) → (rs = ((wy.toNat / n ^ (pc - 1 - k).toNat : Nat) : Int)) → (∀ j : Nat, k < (j : Int) → (j : Int) < pc → F1 (a + 1) j = ((wy.toNat / n ^ (pc - 1 - (j : Int)).toNat % n : Nat) : Int)) → (∀ j : Nat, pc ≤ (j : Int) → j < 3 → F1 (a + 1) j = -1) → fl_R xi_ms 145 fr lo 29 [(7, .int (Int32.ofInt k)), (6, .int (Int32.ofInt rs)), (5, .int (Int32.ofInt 1)), (0, .ref a), (1, .int (Int32.ofInt w)), (2, .int (Int32.ofInt wy)), (3, .int (Int32.ofInt pc)), (4, .int (Int32.ofInt oc))] [] (fl_H sh_T G F1 ++ X) (pq_145 G F X a w wy pc oc n) := by
    intro n33_
    induction n33_ using Nat.strongRecOn with
    | ind n33_ ih35_ =>
    intro k rs F1 hn36_ hg_F1 hf_F1 hk hrb hrs hob hmi
    have g37_ : fs [(a, a, 0, 0), (a + 1, a + 1, 0, 100000)] F F1 := fs_tr g10_ hf_F1 (by simp [fs_le]; try omega)
    refine ga_iload (z := k) hm_145 rfl rfl ?_
    refine fl_if_lt (a := k) hm_145 rfl ⟨by omega, by omega⟩ (fun h38_ => ?_) (fun h39_ => ?_)
    ·
      refine gr_v hm_145 rfl rfl ?_
      have e40_ : F1_ a 0 = w := by rw [q2_]; exact fl_u_eq
      have e41_ : F7_ a 0 = w := (s9_ a 0 (by first | exact fs_c rfl | exact (fs_n (by omega) rfl))).trans (e40_)
      have e42_ : F1 a 0 = w := (hf_F1 a 0 (by first | exact fs_c rfl | exact (fs_n (by omega) rfl))).trans (e41_)
      exact ⟨F1, rfl, hg_F1, g37_, (by omega), (obd_of hoc.2.2 hoc.2.1 hpc (fun j h1 h2 => hob j (by omega) h2) hmi)⟩
    refine ga_aload_n (v := .ref a) hm_145 rfl rfl rfl ?_
    refine ga_getr (b := a + 1) hm_145 rfl h_a.1.1 rfl ?_
    refine ga_iload (z := k) hm_145 rfl rfl ?_
    refine ga_iload (z := rs) hm_145 rfl rfl ?_
    refine ga_iload (z := 1) hm_145 rfl rfl ?_
    refine ga_irem (a := rs) (b := 1) hm_145 rfl (by omega) (by omega) (by omega) (by omega) ?_
    refine fl_iast (z := k) (v := (rs % 1)) hm_145 rfl h_a.1.2.1 (by omega) (by omega) (by omega) ?_
    refine ga_iload (z := rs) hm_145 rfl rfl ?_
    refine ga_iload (z := 1) hm_145 rfl rfl ?_
    refine ga_idiv (a := rs) (b := 1) hm_145 rfl (by omega) (by omega) (by omega) (by omega) ?_
    refine ga_istore (lv2 := [(6, .int (Int32.ofInt ((rs / 1)))), (7, .int (Int32.ofInt k)), (5, .int (Int32.ofInt 1)), (0, .ref a), (1, .int (Int32.ofInt w)), (2, .int (Int32.ofInt wy)), (3, .int (Int32.ofInt pc)), (4, .int (Int32.ofInt oc))]) hm_145 rfl (Nat.le_of_ble_eq_true rfl) rfl ?_
    refine ga_inc (a := k) (c := k - 1) (lv2 := [(7, .int (Int32.ofInt (k - 1))), (6, .int (Int32.ofInt ((rs / 1)))), (5, .int (Int32.ofInt 1)), (0, .ref a), (1, .int (Int32.ofInt w)), (2, .int (Int32.ofInt wy)), (3, .int (Int32.ofInt pc)), (4, .int (Int32.ofInt oc))]) hm_145 rfl rfl (Nat.le_of_ble_eq_true rfl) (by omega) rfl ?_
    refine fl_goto hm_145 rfl ?_
    obtain ⟨F43_, q44_⟩ : ∃ Fq_, Fq_ = (fl_u F1 (a + 1) k.toNat ((rs % 1))) := ⟨_, rfl⟩
    rw [← q44_]
    have g45_ : gi F43_ := by rw [q44_]; exact gi_u (hg_F1) (gb_a h_a.2.1.2.1) (by omega) (by omega)
    have g46_ : fs [(a, a, 0, 0), (a + 1, a + 1, 0, 100000)] F F43_ := by rw [q44_]; exact fs_u (g37_) (fs_z (fs_y (by omega)))
    exact ih35_ _ (by omega) (k - 1) ((rs / 1)) F43_ rfl g45_ (by rw [q44_]; exact fs_u (hf_F1) (fs_y (by omega))) (⟨by omega, by omega⟩) (by have h9_ : 0 ≤ rs / 1 := Int.ediv_nonneg (by omega) (by omega); have h8_ := Int.ediv_le_self (1) (show 0 ≤ rs by omega); omega) (by exact (congrArg (fun t => rs / t) (show (1 : Int) = (n : Int) by omega)).trans (by rw [show (pc - 1 - (k - 1)).toNat = (pc - 1 - k).toNat + 1 by omega]; exact dv_step hrs)) (by rw [q44_]; exact dg_st hob (by omega) ((congrArg (fun t => rs % t) (show (1 : Int) = (n : Int) by omega)).trans (md_dg hrs))) (fun j h1 h2 => by rw [q44_, fl_u_ne (by first | exact nc_ rfl | decide | omega)]; exact hmi j h1 h2)
  exact L34_ _ (pc - 1) (wy) F7_ rfl g8_ fs_refl (⟨by omega, by omega⟩) (⟨by omega, by omega⟩) (by rw [show (pc - 1 - (pc - 1)).toNat = 0 by omega, Nat.pow_zero, Nat.div_one]; omega) (fun j h1 h2 => absurd h1 (by omega)) (fun j h1 h2 => c6_ j (by omega))
/- CheapPlanner$Step.fits -/
abbrev pq_146 (G : Nat → Nat → Option Nat) (F : fl_N) (X : xi_H) (a b x : Nat) (tys tl : List Int) : Outcome → xi_H → Prop := gqi (fun z A => (fl_H sh_T G F ++ X = A ∧ (z = 0) ∧ (fts tl tys x = false)) ∨ (fl_H sh_T G F ++ X = A ∧ (z = 1) ∧ (fts tl tys x = true))) gqn
theorem mc_146 {G : Nat → Nat → Option Nat} (hG : gg G) (F : fl_N) (X : xi_H) (hgi : gi F) (a b x : Nat) (tys tl : List Int) (h_a : sp a) (h_b : nm b 3) (hty : rep (F (b + 2)) (F b 2) tys) (hob : rep (F 107) (F 105 2) tl) (ho : ∀ j : Nat, j < tys.length → F (a + 1) j = ((gvn x j : Nat) : Int) ∧ gvn x j < tl.length) : fl_M xi_ms 146 1 22 [.ref a, .ref b, .ref 105] (fl_H sh_T G F ++ X) (pq_146 G F X a b x tys tl) := by
  intro fr lo hfr hlo
  show fl_R xi_ms 146 fr lo 0 [(0, .ref a), (1, .ref b), (2, .ref 105)] [] _ _
  have hty1 := hty.1
  have hob1 := hob.1
  have hr_a := h_a.2.2
  have hr_b := h_b.2.2
  refine fl_iconst hm_146 rfl ?_
  refine ga_istore_n (lv2 := [(3, .int (Int32.ofInt 0)), (0, .ref a), (1, .ref b), (2, .ref 105)]) hm_146 rfl (Nat.le_of_ble_eq_true rfl) rfl ?_
  have b4_ : 0 ≤ F b 2 ∧ F b 2 ≤ (3 : Int) := gi_g hgi h_b.2.1.1
  have L2_ : ∀ (n1_ : Nat) (k : Int), (F b 2 - k : Int).toNat = n1_ → (0 ≤ k ∧ k ≤ F b 2) → (ftk tl tys x k.toNat = true) → fl_R xi_ms 146 fr lo 2 [(3, .int (Int32.ofInt k)), (0, .ref a), (1, .ref b), (2, .ref 105)] [] (fl_H sh_T G F ++ X) (pq_146 G F X a b x tys tl) := by
    intro n1_
    induction n1_ using Nat.strongRecOn with
    | ind n1_ ih3_ =>
    intro k hn5_ hk hft
    refine ga_iload_n (z := k) hm_146 rfl rfl ?_
    refine ga_aload_n (v := .ref b) hm_146 rfl rfl rfl ?_
    refine ga_geti (z := F b 2) hm_146 rfl h_b.1.1 rfl (rfl) ?_
    refine fl_icmp_ge (a := k) (b := F b 2) hm_146 rfl ⟨by omega, by omega⟩ ⟨by omega, by omega⟩ (fun h6_ => ?_) (fun h7_ => ?_)
    ·
      refine fl_iconst hm_146 rfl ?_
      refine gr_i (z := 1) hm_146 rfl rfl (ga_nb (by omega)) ?_
      exact Or.inr (⟨rfl, rfl, (by have e9_ : k.toNat = tys.length := (by omega); unfold ftk at hft; rw [e9_] at hft; exact hft)⟩)
    have ho1 := ho k.toNat (by omega)
    have hq1_ : tys.getD k.toNat 0 = F (b + 2) k.toNat := (rep_get hty (j := k.toNat) (by omega)).symm
    have hq2_ : tl.getD (gvn x k.toNat) 0 = F 107 (gvn x k.toNat) := (rep_get hob (j := gvn x k.toNat) (by omega)).symm
    have hq3_ : (F (a + 1) k.toNat).toNat = gvn x k.toNat := by rw [ho1.1]; rfl
    rw [← hq3_] at hq2_
    refine ga_aload_n (v := .ref 105) hm_146 rfl rfl rfl ?_
    refine ga_aload_n (v := .ref a) hm_146 rfl rfl rfl ?_
    refine ga_getr (b := a + 1) hm_146 rfl h_a.1.1 rfl ?_
    refine ga_iload_n (z := k) hm_146 rfl rfl ?_
    have b8_ : -1 ≤ F (a + 1) k.toNat ∧ F (a + 1) k.toNat ≤ 5 := gi_g hgi (gb_a h_a.2.1.2.1)
    refine ga_iald (z := k) (w := F (a + 1) k.toNat) hm_146 rfl h_a.1.2.1 (by omega) (by omega) (by omega) (rfl) ?_
    refine ga_aload_n (v := .ref b) hm_146 rfl rfl rfl ?_
    refine ga_getr (b := b + 2) hm_146 rfl h_b.1.1 rfl ?_
    refine ga_iload_n (z := k) hm_146 rfl rfl ?_
    have b9_ : -1 ≤ F (b + 2) k.toNat ∧ F (b + 2) k.toNat ≤ 3 := gi_g hgi (gb_a h_b.2.1.2.1)
    refine ga_iald (z := k) (w := F (b + 2) k.toNat) hm_146 rfl h_b.1.2.2 (by omega) (by omega) (by omega) (rfl) ?_
    refine gIi (nY := 3) (F := 0) (L := 0) (As := [.int (Int32.ofInt (F (a + 1) k.toNat)), .int (Int32.ofInt (F (b + 2) k.toNat))]) (b := 105) (rest := []) hm_146 rfl hm_110 rfl rfl (fl_ob sc_105) rfl rfl rfl rfl rfl (by omega) (by omega) ?_
    intro f10_ l11_ h12_ h13_
    show fl_R xi_ms 110 f10_ l11_ 0 [(0, .ref 105), (1, .int (Int32.ofInt (F (a + 1) k.toNat))), (2, .int (Int32.ofInt (F (b + 2) k.toNat)))] [] _ _
    refine ga_iload_n (z := F (b + 2) k.toNat) hm_110 rfl rfl ?_
    refine fl_iconst hm_110 rfl ?_
    refine fl_icmp_eq (a := F (b + 2) k.toNat) (b := -1) hm_110 rfl ⟨by omega, by omega⟩ ⟨by omega, by omega⟩ (fun h14_ => ?_) (fun h15_ => ?_)
    ·
      refine fl_iconst hm_110 rfl ?_
      refine fl_goto hm_110 rfl ?_
      refine gr_i hm_110 rfl rfl (ga_nb (by omega)) ?_
      clear h12_ h13_ f10_ l11_
      refine fl_if_ne hm_146 rfl ⟨by omega, by omega⟩ (fun _ => ?_) (fun h => absurd (by omega) h)
      refine ga_inc (a := k) (c := k + 1) (lv2 := [(3, .int (Int32.ofInt (k + 1))), (0, .ref a), (1, .ref b), (2, .ref 105)]) hm_146 rfl rfl (Nat.le_of_ble_eq_true rfl) rfl rfl ?_
      refine fl_goto hm_146 rfl ?_
      exact ih3_ _ (by omega) (k + 1) rfl (⟨by omega, by omega⟩) (by rw [show (k + 1).toNat = k.toNat + 1 by omega]; exact ftk_y hft (by rw [← hq3_]; omega))
    refine ga_aload_n (v := .ref 105) hm_110 rfl rfl rfl ?_
    refine ga_getr (b := 107) hm_110 rfl sc_105 rfl ?_
    refine ga_iload_n (z := F (a + 1) k.toNat) hm_110 rfl rfl ?_
    have b16_ : -1 ≤ F 107 (F (a + 1) k.toNat).toNat ∧ F 107 (F (a + 1) k.toNat).toNat ≤ 3 := gi_g hgi rfl
    refine ga_iald (z := F (a + 1) k.toNat) (w := F 107 (F (a + 1) k.toNat).toNat) hm_110 rfl sc_107 (by omega) (by omega) (by omega) (rfl) ?_
    refine ga_iload_n (z := F (b + 2) k.toNat) hm_110 rfl rfl ?_
    refine fx_icmp_ne (a := F 107 (F (a + 1) k.toNat).toNat) (b := F (b + 2) k.toNat) hm_110 rfl ⟨by omega, by omega⟩ ⟨by omega, by omega⟩ (fun h17_ => ?_) (fun h18_ => ?_)
    ·
      refine fl_iconst hm_110 rfl ?_
      refine gr_i hm_110 rfl rfl (ga_nb (by omega)) ?_
      clear h12_ h13_ f10_ l11_
      refine fl_if_ne hm_146 rfl ⟨by omega, by omega⟩ (fun h => absurd h (by omega)) (fun _ => ?_)
      refine fl_iconst hm_146 rfl ?_
      refine gr_i (z := 0) hm_146 rfl rfl (ga_nb (by omega)) ?_
      exact Or.inl ⟨rfl, rfl, (ftk_n (k := k.toNat) (by omega) (by rw [← hq3_]; omega))⟩
    refine fl_iconst hm_110 rfl ?_
    refine fl_goto hm_110 rfl ?_
    refine gr_i hm_110 rfl rfl (ga_nb (by omega)) ?_
    clear h12_ h13_ f10_ l11_
    refine fl_if_ne hm_146 rfl ⟨by omega, by omega⟩ (fun _ => ?_) (fun h => absurd (by omega) h)
    refine ga_inc (a := k) (c := k + 1) (lv2 := [(3, .int (Int32.ofInt (k + 1))), (0, .ref a), (1, .ref b), (2, .ref 105)]) hm_146 rfl rfl (Nat.le_of_ble_eq_true rfl) rfl rfl ?_
    refine fl_goto hm_146 rfl ?_
    exact ih3_ _ (by omega) (k + 1) rfl (⟨by omega, by omega⟩) (by rw [show (k + 1).toNat = k.toNat + 1 by omega]; exact ftk_y hft (by rw [← hq3_]; omega))
  exact L2_ _ (0) rfl (⟨by omega, by omega⟩) (rfl)
/- CheapPlanner$Ground.factOf -/
abbrev pq_102 (G : Nat → Nat → Option Nat) (F : fl_N) (X : xi_H) (b n o no : Nat) (t q i m : Int) (x : lt_T) : Outcome → xi_H → Prop := gqi (fun z A => fl_H sh_T G F ++ X = A ∧ (0 ≤ z ∧ z ≤ 39) ∧ (z = F 121 (plq x (F o)))) gqn
theorem mc_102 {G : Nat → Nat → Option Nat} (hG : gg G) (F : fl_N) (X : xi_H) (hgi : gi F) (b n o no : Nat) (t q i m : Int) (x : lt_T) (h_b : cl b n t q) (h_o : sh_T[o]? = some (0, 0, [no])) (hno : no ≤ 6) (hw : cw F b m) (hm : 0 ≤ m ∧ m ≤ (no : Int)) (ho : ∀ j : Nat, (j : Int) < m → 0 ≤ F o j ∧ F o j ≤ 5) (hi : 0 ≤ i ∧ i < F b 4) (hq : 0 ≤ F (b + 1) i.toNat) (hx : F (b + 1) i.toNat = x.1 ∧ F (b + 3) i.toNat = x.2.2.1 ∧ F (b + 4) i.toNat = x.2.2.2) : fl_M xi_ms 102 1 22 [.ref 120, .ref b, .int (Int32.ofInt i), .ref o] (fl_H sh_T G F ++ X) (pq_102 G F X b n o no t q i m x) := by
  intro fr lo hfr hlo
  show fl_R xi_ms 102 fr lo 0 [(0, .ref 120), (1, .ref b), (2, .int (Int32.ofInt i)), (3, .ref o)] [] _ _
  have hw1 := hw i.toNat (by omega)
  have hb4 : 0 ≤ F b 4 ∧ F b 4 ≤ (n : Int) := gi_g hgi h_b.2.1.1
  have hr_b := h_b.2.2
  refine ga_aload_n (v := .ref b) hm_102 rfl rfl rfl ?_
  refine ga_getr (b := b + 3) hm_102 rfl h_b.1.1 rfl ?_
  refine ga_iload_n (z := i) hm_102 rfl rfl ?_
  have b1_ : -1 ≤ F (b + 3) i.toNat ∧ F (b + 3) i.toNat ≤ t := gi_g hgi (gb_a h_b.2.1.2.2.2.2.1)
  refine ga_iald (z := i) (w := F (b + 3) i.toNat) hm_102 rfl h_b.1.2.2.2.1 (by omega) (by omega) (by omega) (rfl) ?_
  refine fl_iconst hm_102 rfl ?_
  refine fx_icmp_ne (a := F (b + 3) i.toNat) (b := -1) hm_102 rfl ⟨by omega, by omega⟩ ⟨by omega, by omega⟩ (fun h2_ => ?_) (fun h3_ => ?_)
  ·
    have ho1 := ho (F (b + 3) i.toNat).toNat (by omega)
    refine ga_aload_n (v := .ref o) hm_102 rfl rfl rfl ?_
    refine ga_aload_n (v := .ref b) hm_102 rfl rfl rfl ?_
    refine ga_getr (b := b + 3) hm_102 rfl h_b.1.1 rfl ?_
    refine ga_iload_n (z := i) hm_102 rfl rfl ?_
    refine ga_iald (z := i) (w := F (b + 3) i.toNat) hm_102 rfl h_b.1.2.2.2.1 (by omega) (by omega) (by omega) (rfl) ?_
    refine ga_iald (z := F (b + 3) i.toNat) (w := F o (F (b + 3) i.toNat).toNat) hm_102 rfl h_o (by omega) (by omega) (by omega) (rfl) ?_
    refine ga_istore (lv2 := [(4, .int (Int32.ofInt (F o (F (b + 3) i.toNat).toNat))), (0, .ref 120), (1, .ref b), (2, .int (Int32.ofInt i)), (3, .ref o)]) hm_102 rfl (Nat.le_of_ble_eq_true rfl) rfl ?_
    refine ga_aload_n (v := .ref b) hm_102 rfl rfl rfl ?_
    refine ga_getr (b := b + 4) hm_102 rfl h_b.1.1 rfl ?_
    refine ga_iload_n (z := i) hm_102 rfl rfl ?_
    have b4_ : -1 ≤ F (b + 4) i.toNat ∧ F (b + 4) i.toNat ≤ t := gi_g hgi (gb_a h_b.2.1.2.2.2.2.2)
    refine ga_iald (z := i) (w := F (b + 4) i.toNat) hm_102 rfl h_b.1.2.2.2.2 (by omega) (by omega) (by omega) (rfl) ?_
    refine fl_iconst hm_102 rfl ?_
    refine fx_icmp_ne (a := F (b + 4) i.toNat) (b := -1) hm_102 rfl ⟨by omega, by omega⟩ ⟨by omega, by omega⟩ (fun h5_ => ?_) (fun h6_ => ?_)
    ·
      have ho2 := ho (F (b + 4) i.toNat).toNat (by omega)
      refine ga_aload_n (v := .ref o) hm_102 rfl rfl rfl ?_
      refine ga_aload_n (v := .ref b) hm_102 rfl rfl rfl ?_
      refine ga_getr (b := b + 4) hm_102 rfl h_b.1.1 rfl ?_
      refine ga_iload_n (z := i) hm_102 rfl rfl ?_
      refine ga_iald (z := i) (w := F (b + 4) i.toNat) hm_102 rfl h_b.1.2.2.2.2 (by omega) (by omega) (by omega) (rfl) ?_
      refine ga_iald (z := F (b + 4) i.toNat) (w := F o (F (b + 4) i.toNat).toNat) hm_102 rfl h_o (by omega) (by omega) (by omega) (rfl) ?_
      refine ga_istore (lv2 := [(5, .int (Int32.ofInt (F o (F (b + 4) i.toNat).toNat))), (4, .int (Int32.ofInt (F o (F (b + 3) i.toNat).toNat))), (0, .ref 120), (1, .ref b), (2, .int (Int32.ofInt i)), (3, .ref o)]) hm_102 rfl (Nat.le_of_ble_eq_true rfl) rfl ?_
      refine ga_aload_n (v := .ref 120) hm_102 rfl rfl rfl ?_
      refine ga_getr (b := 121) hm_102 rfl sc_120 rfl ?_
      refine ga_aload_n (v := .ref b) hm_102 rfl rfl rfl ?_
      refine ga_getr (b := b + 1) hm_102 rfl h_b.1.1 rfl ?_
      refine ga_iload_n (z := i) hm_102 rfl rfl ?_
      have b7_ : q ≤ F (b + 1) i.toNat ∧ F (b + 1) i.toNat ≤ 5 := gi_g hgi (gb_a h_b.2.1.2.2.1)
      refine ga_iald (z := i) (w := F (b + 1) i.toNat) hm_102 rfl h_b.1.2.1 (by omega) (by omega) (by omega) (rfl) ?_
      refine ga_iload (z := F o (F (b + 3) i.toNat).toNat) hm_102 rfl rfl ?_
      refine ga_iload (z := F o (F (b + 4) i.toNat).toNat) hm_102 rfl rfl ?_
      refine gJi (nY := 3) (F := 0) (L := 0) (As := [.int (Int32.ofInt (F (b + 1) i.toNat)), .int (Int32.ofInt (F o (F (b + 3) i.toNat).toNat)), .int (Int32.ofInt (F o (F (b + 4) i.toNat).toNat))]) (rest := [.ref 121]) hm_102 rfl hm_107 rfl rfl (fl_pos sc_0) rfl rfl rfl rfl (by omega) (by omega) ?_
      intro f8_ l9_ h10_ h11_
      show fl_R xi_ms 107 f8_ l9_ 0 [(0, .int (Int32.ofInt (F (b + 1) i.toNat))), (1, .int (Int32.ofInt (F o (F (b + 3) i.toNat).toNat))), (2, .int (Int32.ofInt (F o (F (b + 4) i.toNat).toNat)))] [] _ _
      refine ga_iload_n (z := F (b + 1) i.toNat) hm_107 rfl rfl ?_
      refine fl_bipush hm_107 rfl rfl ?_
      refine ga_imul (a := F (b + 1) i.toNat) (b := 6) (c := 6 * (F (b + 1) i.toNat)) hm_107 rfl (by omega) ?_
      refine ga_iload_n (z := F o (F (b + 3) i.toNat).toNat) hm_107 rfl rfl ?_
      refine ga_iadd (a := 6 * (F (b + 1) i.toNat)) (b := F o (F (b + 3) i.toNat).toNat) (c := 6 * (F (b + 1) i.toNat) + F o (F (b + 3) i.toNat).toNat) hm_107 rfl (by omega) ?_
      refine fl_bipush hm_107 rfl rfl ?_
      refine ga_imul (a := 6 * (F (b + 1) i.toNat) + F o (F (b + 3) i.toNat).toNat) (b := 6) (c := 36 * (F (b + 1) i.toNat) + 6 * (F o (F (b + 3) i.toNat).toNat)) hm_107 rfl (by omega) ?_
      refine ga_iload_n (z := F o (F (b + 4) i.toNat).toNat) hm_107 rfl rfl ?_
      refine ga_iadd (a := 36 * (F (b + 1) i.toNat) + 6 * (F o (F (b + 3) i.toNat).toNat)) (b := F o (F (b + 4) i.toNat).toNat) (c := 36 * (F (b + 1) i.toNat) + 6 * (F o (F (b + 3) i.toNat).toNat) + F o (F (b + 4) i.toNat).toNat) hm_107 rfl (by omega) ?_
      refine gr_i hm_107 rfl rfl rfl ?_
      clear h10_ h11_ f8_ l9_
      have b12_ : 0 ≤ F 121 (36 * (F (b + 1) i.toNat) + 6 * (F o (F (b + 3) i.toNat).toNat) + F o (F (b + 4) i.toNat).toNat).toNat ∧ F 121 (36 * (F (b + 1) i.toNat) + 6 * (F o (F (b + 3) i.toNat).toNat) + F o (F (b + 4) i.toNat).toNat).toNat ≤ 39 := gi_g hgi rfl
      refine ga_iald (z := 36 * (F (b + 1) i.toNat) + 6 * (F o (F (b + 3) i.toNat).toNat) + F o (F (b + 4) i.toNat).toNat) (w := F 121 (36 * (F (b + 1) i.toNat) + 6 * (F o (F (b + 3) i.toNat).toNat) + F o (F (b + 4) i.toNat).toNat).toNat) hm_102 rfl sc_121 (by omega) (by omega) (by omega) (rfl) ?_
      refine gr_i (z := F 121 (36 * (F (b + 1) i.toNat) + 6 * (F o (F (b + 3) i.toNat).toNat) + F o (F (b + 4) i.toNat).toNat).toNat) hm_102 rfl rfl rfl ?_
      exact ⟨rfl, (⟨by omega, by omega⟩), (congrArg (F 121) (by unfold plq; rw [← hx.1, ← hx.2.1, ← hx.2.2]; (repeat' split) <;> first | rfl | omega | (exfalso; omega)))⟩
    refine fl_iconst hm_102 rfl ?_
    refine fl_goto hm_102 rfl ?_
    refine ga_istore (lv2 := [(5, .int (Int32.ofInt 0)), (4, .int (Int32.ofInt (F o (F (b + 3) i.toNat).toNat))), (0, .ref 120), (1, .ref b), (2, .int (Int32.ofInt i)), (3, .ref o)]) hm_102 rfl (Nat.le_of_ble_eq_true rfl) rfl ?_
    refine ga_aload_n (v := .ref 120) hm_102 rfl rfl rfl ?_
    refine ga_getr (b := 121) hm_102 rfl sc_120 rfl ?_
    refine ga_aload_n (v := .ref b) hm_102 rfl rfl rfl ?_
    refine ga_getr (b := b + 1) hm_102 rfl h_b.1.1 rfl ?_
    refine ga_iload_n (z := i) hm_102 rfl rfl ?_
    have b13_ : q ≤ F (b + 1) i.toNat ∧ F (b + 1) i.toNat ≤ 5 := gi_g hgi (gb_a h_b.2.1.2.2.1)
    refine ga_iald (z := i) (w := F (b + 1) i.toNat) hm_102 rfl h_b.1.2.1 (by omega) (by omega) (by omega) (rfl) ?_
    refine ga_iload (z := F o (F (b + 3) i.toNat).toNat) hm_102 rfl rfl ?_
    refine ga_iload (z := 0) hm_102 rfl rfl ?_
    refine gJi (nY := 3) (F := 0) (L := 0) (As := [.int (Int32.ofInt (F (b + 1) i.toNat)), .int (Int32.ofInt (F o (F (b + 3) i.toNat).toNat)), .int (Int32.ofInt 0)]) (rest := [.ref 121]) hm_102 rfl hm_107 rfl rfl (fl_pos sc_0) rfl rfl rfl rfl (by omega) (by omega) ?_
    intro f14_ l15_ h16_ h17_
    show fl_R xi_ms 107 f14_ l15_ 0 [(0, .int (Int32.ofInt (F (b + 1) i.toNat))), (1, .int (Int32.ofInt (F o (F (b + 3) i.toNat).toNat))), (2, .int (Int32.ofInt 0))] [] _ _
    refine ga_iload_n (z := F (b + 1) i.toNat) hm_107 rfl rfl ?_
    refine fl_bipush hm_107 rfl rfl ?_
    refine ga_imul (a := F (b + 1) i.toNat) (b := 6) (c := 6 * (F (b + 1) i.toNat)) hm_107 rfl (by omega) ?_
    refine ga_iload_n (z := F o (F (b + 3) i.toNat).toNat) hm_107 rfl rfl ?_
    refine ga_iadd (a := 6 * (F (b + 1) i.toNat)) (b := F o (F (b + 3) i.toNat).toNat) (c := 6 * (F (b + 1) i.toNat) + F o (F (b + 3) i.toNat).toNat) hm_107 rfl (by omega) ?_
    refine fl_bipush hm_107 rfl rfl ?_
    refine ga_imul (a := 6 * (F (b + 1) i.toNat) + F o (F (b + 3) i.toNat).toNat) (b := 6) (c := 36 * (F (b + 1) i.toNat) + 6 * (F o (F (b + 3) i.toNat).toNat)) hm_107 rfl (by omega) ?_
    refine ga_iload_n (z := 0) hm_107 rfl rfl ?_
    refine ga_iadd (a := 36 * (F (b + 1) i.toNat) + 6 * (F o (F (b + 3) i.toNat).toNat)) (b := 0) (c := 36 * (F (b + 1) i.toNat) + 6 * (F o (F (b + 3) i.toNat).toNat)) hm_107 rfl (by omega) ?_
    refine gr_i hm_107 rfl rfl rfl ?_
    clear h16_ h17_ f14_ l15_
    have b18_ : 0 ≤ F 121 (36 * (F (b + 1) i.toNat) + 6 * (F o (F (b + 3) i.toNat).toNat)).toNat ∧ F 121 (36 * (F (b + 1) i.toNat) + 6 * (F o (F (b + 3) i.toNat).toNat)).toNat ≤ 39 := gi_g hgi rfl
    refine ga_iald (z := 36 * (F (b + 1) i.toNat) + 6 * (F o (F (b + 3) i.toNat).toNat)) (w := F 121 (36 * (F (b + 1) i.toNat) + 6 * (F o (F (b + 3) i.toNat).toNat)).toNat) hm_102 rfl sc_121 (by omega) (by omega) (by omega) (rfl) ?_
    refine gr_i (z := F 121 (36 * (F (b + 1) i.toNat) + 6 * (F o (F (b + 3) i.toNat).toNat)).toNat) hm_102 rfl rfl rfl ?_
    exact ⟨rfl, (⟨by omega, by omega⟩), (congrArg (F 121) (by unfold plq; rw [← hx.1, ← hx.2.1, ← hx.2.2]; (repeat' split) <;> first | rfl | omega | (exfalso; omega)))⟩
  refine fl_iconst hm_102 rfl ?_
  refine fl_goto hm_102 rfl ?_
  refine ga_istore (lv2 := [(4, .int (Int32.ofInt 0)), (0, .ref 120), (1, .ref b), (2, .int (Int32.ofInt i)), (3, .ref o)]) hm_102 rfl (Nat.le_of_ble_eq_true rfl) rfl ?_
  refine ga_aload_n (v := .ref b) hm_102 rfl rfl rfl ?_
  refine ga_getr (b := b + 4) hm_102 rfl h_b.1.1 rfl ?_
  refine ga_iload_n (z := i) hm_102 rfl rfl ?_
  have b19_ : -1 ≤ F (b + 4) i.toNat ∧ F (b + 4) i.toNat ≤ t := gi_g hgi (gb_a h_b.2.1.2.2.2.2.2)
  refine ga_iald (z := i) (w := F (b + 4) i.toNat) hm_102 rfl h_b.1.2.2.2.2 (by omega) (by omega) (by omega) (rfl) ?_
  refine fl_iconst hm_102 rfl ?_
  refine fx_icmp_ne (a := F (b + 4) i.toNat) (b := -1) hm_102 rfl ⟨by omega, by omega⟩ ⟨by omega, by omega⟩ (fun h20_ => ?_) (fun h21_ => ?_)
  ·
    have ho2 := ho (F (b + 4) i.toNat).toNat (by omega)
    refine ga_aload_n (v := .ref o) hm_102 rfl rfl rfl ?_
    refine ga_aload_n (v := .ref b) hm_102 rfl rfl rfl ?_
    refine ga_getr (b := b + 4) hm_102 rfl h_b.1.1 rfl ?_
    refine ga_iload_n (z := i) hm_102 rfl rfl ?_
    refine ga_iald (z := i) (w := F (b + 4) i.toNat) hm_102 rfl h_b.1.2.2.2.2 (by omega) (by omega) (by omega) (rfl) ?_
    refine ga_iald (z := F (b + 4) i.toNat) (w := F o (F (b + 4) i.toNat).toNat) hm_102 rfl h_o (by omega) (by omega) (by omega) (rfl) ?_
    refine ga_istore (lv2 := [(5, .int (Int32.ofInt (F o (F (b + 4) i.toNat).toNat))), (4, .int (Int32.ofInt 0)), (0, .ref 120), (1, .ref b), (2, .int (Int32.ofInt i)), (3, .ref o)]) hm_102 rfl (Nat.le_of_ble_eq_true rfl) rfl ?_
    refine ga_aload_n (v := .ref 120) hm_102 rfl rfl rfl ?_
    refine ga_getr (b := 121) hm_102 rfl sc_120 rfl ?_
    refine ga_aload_n (v := .ref b) hm_102 rfl rfl rfl ?_
    refine ga_getr (b := b + 1) hm_102 rfl h_b.1.1 rfl ?_
    refine ga_iload_n (z := i) hm_102 rfl rfl ?_
    have b22_ : q ≤ F (b + 1) i.toNat ∧ F (b + 1) i.toNat ≤ 5 := gi_g hgi (gb_a h_b.2.1.2.2.1)
    refine ga_iald (z := i) (w := F (b + 1) i.toNat) hm_102 rfl h_b.1.2.1 (by omega) (by omega) (by omega) (rfl) ?_
    refine ga_iload (z := 0) hm_102 rfl rfl ?_
    refine ga_iload (z := F o (F (b + 4) i.toNat).toNat) hm_102 rfl rfl ?_
    refine gJi (nY := 3) (F := 0) (L := 0) (As := [.int (Int32.ofInt (F (b + 1) i.toNat)), .int (Int32.ofInt 0), .int (Int32.ofInt (F o (F (b + 4) i.toNat).toNat))]) (rest := [.ref 121]) hm_102 rfl hm_107 rfl rfl (fl_pos sc_0) rfl rfl rfl rfl (by omega) (by omega) ?_
    intro f23_ l24_ h25_ h26_
    show fl_R xi_ms 107 f23_ l24_ 0 [(0, .int (Int32.ofInt (F (b + 1) i.toNat))), (1, .int (Int32.ofInt 0)), (2, .int (Int32.ofInt (F o (F (b + 4) i.toNat).toNat)))] [] _ _
    refine ga_iload_n (z := F (b + 1) i.toNat) hm_107 rfl rfl ?_
    refine fl_bipush hm_107 rfl rfl ?_
    refine ga_imul (a := F (b + 1) i.toNat) (b := 6) (c := 6 * (F (b + 1) i.toNat)) hm_107 rfl (by omega) ?_
    refine ga_iload_n (z := 0) hm_107 rfl rfl ?_
    refine ga_iadd (a := 6 * (F (b + 1) i.toNat)) (b := 0) (c := 6 * (F (b + 1) i.toNat)) hm_107 rfl (by omega) ?_
    refine fl_bipush hm_107 rfl rfl ?_
    refine ga_imul (a := 6 * (F (b + 1) i.toNat)) (b := 6) (c := 36 * (F (b + 1) i.toNat)) hm_107 rfl (by omega) ?_
    refine ga_iload_n (z := F o (F (b + 4) i.toNat).toNat) hm_107 rfl rfl ?_
    refine ga_iadd (a := 36 * (F (b + 1) i.toNat)) (b := F o (F (b + 4) i.toNat).toNat) (c := 36 * (F (b + 1) i.toNat) + F o (F (b + 4) i.toNat).toNat) hm_107 rfl (by omega) ?_
    refine gr_i hm_107 rfl rfl rfl ?_
    clear h25_ h26_ f23_ l24_
    have b27_ : 0 ≤ F 121 (36 * (F (b + 1) i.toNat) + F o (F (b + 4) i.toNat).toNat).toNat ∧ F 121 (36 * (F (b + 1) i.toNat) + F o (F (b + 4) i.toNat).toNat).toNat ≤ 39 := gi_g hgi rfl
    refine ga_iald (z := 36 * (F (b + 1) i.toNat) + F o (F (b + 4) i.toNat).toNat) (w := F 121 (36 * (F (b + 1) i.toNat) + F o (F (b + 4) i.toNat).toNat).toNat) hm_102 rfl sc_121 (by omega) (by omega) (by omega) (rfl) ?_
    refine gr_i (z := F 121 (36 * (F (b + 1) i.toNat) + F o (F (b + 4) i.toNat).toNat).toNat) hm_102 rfl rfl rfl ?_
    exact ⟨rfl, (⟨by omega, by omega⟩), (congrArg (F 121) (by unfold plq; rw [← hx.1, ← hx.2.1, ← hx.2.2]; (repeat' split) <;> first | rfl | omega | (exfalso; omega)))⟩
  refine fl_iconst hm_102 rfl ?_
  refine fl_goto hm_102 rfl ?_
  refine ga_istore (lv2 := [(5, .int (Int32.ofInt 0)), (4, .int (Int32.ofInt 0)), (0, .ref 120), (1, .ref b), (2, .int (Int32.ofInt i)), (3, .ref o)]) hm_102 rfl (Nat.le_of_ble_eq_true rfl) rfl ?_
  refine ga_aload_n (v := .ref 120) hm_102 rfl rfl rfl ?_
  refine ga_getr (b := 121) hm_102 rfl sc_120 rfl ?_
  refine ga_aload_n (v := .ref b) hm_102 rfl rfl rfl ?_
  refine ga_getr (b := b + 1) hm_102 rfl h_b.1.1 rfl ?_
  refine ga_iload_n (z := i) hm_102 rfl rfl ?_
  have b28_ : q ≤ F (b + 1) i.toNat ∧ F (b + 1) i.toNat ≤ 5 := gi_g hgi (gb_a h_b.2.1.2.2.1)
  refine ga_iald (z := i) (w := F (b + 1) i.toNat) hm_102 rfl h_b.1.2.1 (by omega) (by omega) (by omega) (rfl) ?_
  refine ga_iload (z := 0) hm_102 rfl rfl ?_
  refine ga_iload (z := 0) hm_102 rfl rfl ?_
  refine gJi (nY := 3) (F := 0) (L := 0) (As := [.int (Int32.ofInt (F (b + 1) i.toNat)), .int (Int32.ofInt 0), .int (Int32.ofInt 0)]) (rest := [.ref 121]) hm_102 rfl hm_107 rfl rfl (fl_pos sc_0) rfl rfl rfl rfl (by omega) (by omega) ?_
  intro f29_ l30_ h31_ h32_
  show fl_R xi_ms 107 f29_ l30_ 0 [(0, .int (Int32.ofInt (F (b + 1) i.toNat))), (1, .int (Int32.ofInt 0)), (2, .int (Int32.ofInt 0))] [] _ _
  refine ga_iload_n (z := F (b + 1) i.toNat) hm_107 rfl rfl ?_
  refine fl_bipush hm_107 rfl rfl ?_
  refine ga_imul (a := F (b + 1) i.toNat) (b := 6) (c := 6 * (F (b + 1) i.toNat)) hm_107 rfl (by omega) ?_
  refine ga_iload_n (z := 0) hm_107 rfl rfl ?_
  refine ga_iadd (a := 6 * (F (b + 1) i.toNat)) (b := 0) (c := 6 * (F (b + 1) i.toNat)) hm_107 rfl (by omega) ?_
  refine fl_bipush hm_107 rfl rfl ?_
  refine ga_imul (a := 6 * (F (b + 1) i.toNat)) (b := 6) (c := 36 * (F (b + 1) i.toNat)) hm_107 rfl (by omega) ?_
  refine ga_iload_n (z := 0) hm_107 rfl rfl ?_
  refine ga_iadd (a := 36 * (F (b + 1) i.toNat)) (b := 0) (c := 36 * (F (b + 1) i.toNat)) hm_107 rfl (by omega) ?_
  refine gr_i hm_107 rfl rfl rfl ?_
  clear h31_ h32_ f29_ l30_
  have b33_ : 0 ≤ F 121 (36 * (F (b + 1) i.toNat)).toNat ∧ F 121 (36 * (F (b + 1) i.toNat)).toNat ≤ 39 := gi_g hgi rfl
  refine ga_iald (z := 36 * (F (b + 1) i.toNat)) (w := F 121 (36 * (F (b + 1) i.toNat)).toNat) hm_102 rfl sc_121 (by omega) (by omega) (by omega) (rfl) ?_
  refine gr_i (z := F 121 (36 * (F (b + 1) i.toNat)).toNat) hm_102 rfl rfl rfl ?_
  exact ⟨rfl, (⟨by omega, by omega⟩), (congrArg (F 121) (by unfold plq; rw [← hx.1, ← hx.2.1, ← hx.2.2]; (repeat' split) <;> first | rfl | omega | (exfalso; omega)))⟩
/- CheapPlanner$Needs.bindAtom -/
abbrev pq_113 (G : Nat → Nat → Option Nat) (F : fl_N) (X : xi_H) (d : Nat) (f nt : Int) : Outcome → xi_H → Prop := gqv (fun A => ∃ F' : fl_N, fl_H sh_T G F' ++ X = A ∧ gi F' ∧ fs [(d, d, 0, 1), (d, d, 4, 4), (d + 1, d + 1, 0, 100000)] F F' ∧ (F' d 4 ≤ F d 4 + 1) ∧ (F' d 0 = (if nt = 0 then lorr (F d 0) (lsl 1 f) else F d 0)) ∧ (F' d 1 = (if nt = 0 then F d 1 else lorr (F d 1) (lsl 1 f)))) gqn
theorem mc_113 {G : Nat → Nat → Option Nat} (hG : gg G) (F : fl_N) (X : xi_H) (hgi : gi F) (d : Nat) (f nt : Int) (h_d : nd d) (hf : 0 ≤ f ∧ f ≤ 39) (hnt : 0 ≤ nt ∧ nt ≤ 1) (h4 : F d 4 ≤ 3) : fl_M xi_ms 113 0 0 [.ref d, .int (Int32.ofInt f), .int (Int32.ofInt nt)] (fl_H sh_T G F ++ X) (pq_113 G F X d f nt) := by
  intro fr lo hfr hlo
  show fl_R xi_ms 113 fr lo 0 [(0, .ref d), (1, .int (Int32.ofInt f)), (2, .int (Int32.ofInt nt))] [] _ _
  have hr_d := h_d.2.2
  refine ga_iload_n (z := nt) hm_113 rfl rfl ?_
  refine fl_if_eq (a := nt) hm_113 rfl ⟨by omega, by omega⟩ (fun h1_ => ?_) (fun h2_ => ?_)
  ·
    refine ga_aload_n (v := .ref d) hm_113 rfl rfl rfl ?_
    refine ga_dup hm_113 rfl rfl ?_
    have b3_ : -9223372036854775808 ≤ F d 0 ∧ F d 0 ≤ 9223372036854775807 := gi_g hgi h_d.2.1.1
    refine ga_getl (z := F d 0) hm_113 rfl h_d.1.1 rfl (rfl) ?_
    refine ga_lconst (z := 1) hm_113 rfl rfl ?_
    refine ga_iload_n (z := f) hm_113 rfl rfl ?_
    refine ga_lx (z := (lsl 1 f)) hm_113 rfl rfl rfl (lsl_e _ _) (fun ⟨h4_, h5_⟩ => ?_)
    refine ga_lx (z := (lorr (F d 0) ((lsl 1 f)))) hm_113 rfl rfl rfl (lop_e 1 _ _) (fun ⟨h6_, h7_⟩ => ?_)
    refine ga_putl hm_113 rfl h_d.1.1 rfl rfl ?_
    refine ga_aload_n (v := .ref d) hm_113 rfl rfl rfl ?_
    refine ga_getr (b := d + 1) hm_113 rfl h_d.1.1 rfl ?_
    refine ga_aload_n (v := .ref d) hm_113 rfl rfl rfl ?_
    have b8_ : 0 ≤ F d 4 ∧ F d 4 ≤ 4 := gi_g hgi h_d.2.1.2.2.2.1
    refine ga_geti (z := F d 4) hm_113 rfl h_d.1.1 rfl (fl_u_ne (by first | exact nc_ rfl | decide | omega)) ?_
    refine ga_iload_n (z := f) hm_113 rfl rfl ?_
    refine fl_iast (z := F d 4) (v := f) hm_113 rfl h_d.1.2 (by omega) (by omega) (by omega) ?_
    refine ga_aload_n (v := .ref d) hm_113 rfl rfl rfl ?_
    refine ga_dup hm_113 rfl rfl ?_
    refine ga_geti (z := F d 4) hm_113 rfl h_d.1.1 rfl ((fl_u_ne (by first | exact nc_ rfl | decide | omega)).trans (fl_u_ne (by first | exact nc_ rfl | decide | omega))) ?_
    refine fl_iconst hm_113 rfl ?_
    refine ga_iadd (a := F d 4) (b := 1) (c := F d 4 + 1) hm_113 rfl (by omega) ?_
    refine ga_puti (z := F d 4 + 1) hm_113 rfl h_d.1.1 rfl rfl ?_
    obtain ⟨F9_, q10_⟩ : ∃ Fq_, Fq_ = (fl_u (fl_u (fl_u F d 0 ((lorr (F d 0) ((lsl 1 f))))) (d + 1) (F d 4).toNat f) d 4 (F d 4 + 1)) := ⟨_, rfl⟩
    rw [← q10_]
    have g11_ : gi F9_ := by rw [q10_]; exact gi_u (gi_u (gi_u (hgi) h_d.2.1.1 (by omega) (by omega)) (gb_a h_d.2.1.2.2.2.2) (by omega) (by omega)) h_d.2.1.2.2.2.1 (by omega) (by omega)
    have g12_ : fs [(d, d, 0, 1), (d, d, 4, 4), (d + 1, d + 1, 0, 100000)] F F9_ := by rw [q10_]; exact fs_u (fs_u (fs_u (fs_refl) (fs_y (by omega))) (fs_z (fs_z (fs_y (by omega))))) (fs_z (fs_y (by omega)))
    refine gr_v hm_113 rfl rfl ?_
    have e13_ : F9_ d 4 = F d 4 + 1 := by rw [q10_]; exact fl_u_eq
    have e14_ : F9_ d 0 = (lorr (F d 0) ((lsl 1 f))) := by rw [q10_]; exact (fl_u_ne (by first | exact nc_ rfl | decide | omega)).trans ((fl_u_ne (by first | exact nc_ rfl | decide | omega)).trans (fl_u_eq))
    have e15_ : F9_ d 1 = F d 1 := by rw [q10_]; exact (fl_u_ne (by first | exact nc_ rfl | decide | omega)).trans ((fl_u_ne (by first | exact nc_ rfl | decide | omega)).trans (fl_u_ne (by first | exact nc_ rfl | decide | omega)))
    have b16_ : -9223372036854775808 ≤ F d 1 ∧ F d 1 ≤ 9223372036854775807 := gi_g hgi h_d.2.1.2.1
    exact ⟨F9_, rfl, g11_, g12_, (by omega), (by rw [if_pos (by omega)]; exact e14_), (by rw [if_pos (by omega)]; exact e15_)⟩
  refine ga_aload_n (v := .ref d) hm_113 rfl rfl rfl ?_
  refine ga_dup hm_113 rfl rfl ?_
  have b17_ : -9223372036854775808 ≤ F d 1 ∧ F d 1 ≤ 9223372036854775807 := gi_g hgi h_d.2.1.2.1
  refine ga_getl (z := F d 1) hm_113 rfl h_d.1.1 rfl (rfl) ?_
  refine ga_lconst (z := 1) hm_113 rfl rfl ?_
  refine ga_iload_n (z := f) hm_113 rfl rfl ?_
  refine ga_lx (z := (lsl 1 f)) hm_113 rfl rfl rfl (lsl_e _ _) (fun ⟨h18_, h19_⟩ => ?_)
  refine ga_lx (z := (lorr (F d 1) ((lsl 1 f)))) hm_113 rfl rfl rfl (lop_e 1 _ _) (fun ⟨h20_, h21_⟩ => ?_)
  refine ga_putl hm_113 rfl h_d.1.1 rfl rfl ?_
  obtain ⟨F22_, q23_⟩ : ∃ Fq_, Fq_ = (fl_u F d 1 ((lorr (F d 1) ((lsl 1 f))))) := ⟨_, rfl⟩
  rw [← q23_]
  have g24_ : gi F22_ := by rw [q23_]; exact gi_u (hgi) h_d.2.1.2.1 (by omega) (by omega)
  have g25_ : fs [(d, d, 0, 1), (d, d, 4, 4), (d + 1, d + 1, 0, 100000)] F F22_ := by rw [q23_]; exact fs_u (fs_refl) (fs_y (by omega))
  refine gr_v hm_113 rfl rfl ?_
  have e26_ : F22_ d 4 = F d 4 := by rw [q23_]; exact fl_u_ne (by first | exact nc_ rfl | decide | omega)
  have b27_ : 0 ≤ F d 4 ∧ F d 4 ≤ 4 := gi_g hgi h_d.2.1.2.2.2.1
  have e28_ : F22_ d 0 = F d 0 := by rw [q23_]; exact fl_u_ne (by first | exact nc_ rfl | decide | omega)
  have b29_ : -9223372036854775808 ≤ F d 0 ∧ F d 0 ≤ 9223372036854775807 := gi_g hgi h_d.2.1.1
  have e30_ : F22_ d 1 = (lorr (F d 1) ((lsl 1 f))) := by rw [q23_]; exact fl_u_eq
  exact ⟨F22_, rfl, g24_, g25_, (by omega), (by rw [if_neg (by omega)]; exact e28_), (by rw [if_neg (by omega)]; exact e30_)⟩
/- CheapPlanner$Needs.bind -/
abbrev pq_112 (G : Nat → Nat → Option Nat) (F : fl_N) (X : xi_H) (d b o no : Nat) (q : Int) (t m : Int) (L : List lt_T) : Outcome → xi_H → Prop := gqv (fun A => ∃ F' : fl_N, fl_H sh_T G F' ++ X = A ∧ gi F' ∧ fs [(d, d, 0, 2), (d, d, 4, 4), (d + 1, d + 1, 0, 100000)] F F' ∧ (F' d 0 = msk (F 121) (F o) 0 L) ∧ (F' d 1 = msk (F 121) (F o) 1 L) ∧ (F' d 2 = (if eqh L (F o) = true then 1 else 0))) gqn
theorem mc_112 {G : Nat → Nat → Option Nat} (hG : gg G) (F : fl_N) (X : xi_H) (hgi : gi F) (d b o no : Nat) (q : Int) (t m : Int) (L : List lt_T) (h_d : nd d) (h_b : cl b 4 t q) (h_o : sh_T[o]? = some (0, 0, [no])) (hno : no ≤ 6) (hod : o + 1 = d ∨ (o = 125 ∧ d = 123)) (hw : cw F b m) (hm : 0 ≤ m ∧ m ≤ (no : Int)) (ho : ∀ j : Nat, (j : Int) < m → 0 ≤ F o j ∧ F o j ≤ 5) (hcr : clr F b L) : fl_M xi_ms 112 2 47 [.ref d, .ref b, .ref o, .ref 120] (fl_H sh_T G F ++ X) (pq_112 G F X d b o no q t m L) := by
  intro fr lo hfr hlo
  show fl_R xi_ms 112 fr lo 0 [(0, .ref d), (1, .ref b), (2, .ref o), (3, .ref 120)] [] _ _
  have hcr1 := hcr.1
  have hr_d := h_d.2.2
  have hr_b := h_b.2.2
  refine ga_aload_n (v := .ref d) hm_112 rfl rfl rfl ?_
  refine ga_lconst (z := 0) hm_112 rfl rfl ?_
  refine ga_putl hm_112 rfl h_d.1.1 rfl rfl ?_
  refine ga_aload_n (v := .ref d) hm_112 rfl rfl rfl ?_
  refine ga_lconst (z := 0) hm_112 rfl rfl ?_
  refine ga_putl hm_112 rfl h_d.1.1 rfl rfl ?_
  refine ga_aload_n (v := .ref d) hm_112 rfl rfl rfl ?_
  refine fl_iconst hm_112 rfl ?_
  refine ga_putz (z := 1) hm_112 rfl h_d.1.1 rfl rfl (by omega) ?_
  refine ga_aload_n (v := .ref d) hm_112 rfl rfl rfl ?_
  refine fl_iconst hm_112 rfl ?_
  refine ga_puti (z := 0) hm_112 rfl h_d.1.1 rfl rfl ?_
  refine fl_iconst hm_112 rfl ?_
  refine ga_istore (lv2 := [(4, .int (Int32.ofInt 0)), (0, .ref d), (1, .ref b), (2, .ref o), (3, .ref 120)]) hm_112 rfl (Nat.le_of_ble_eq_true rfl) rfl ?_
  obtain ⟨F1_, q2_⟩ : ∃ Fq_, Fq_ = (fl_u (fl_u (fl_u (fl_u F d 0 0) d 1 0) d 2 1) d 4 0) := ⟨_, rfl⟩
  rw [← q2_]
  have g3_ : gi F1_ := by rw [q2_]; exact gi_u (gi_u (gi_u (gi_u (hgi) h_d.2.1.1 (by omega) (by omega)) h_d.2.1.2.1 (by omega) (by omega)) h_d.2.1.2.2.1 (by omega) (by omega)) h_d.2.1.2.2.2.1 (by omega) (by omega)
  have g4_ : fs [(d, d, 0, 2), (d, d, 4, 4), (d + 1, d + 1, 0, 100000)] F F1_ := by rw [q2_]; exact fs_u (fs_u (fs_u (fs_u (fs_refl) (fs_y (by omega))) (fs_y (by omega))) (fs_y (by omega))) (fs_z (fs_y (by omega)))
  have L6_ : ∀ (n5_ : Nat) (k : Int) (F1 : fl_N), (F1 b 4 - k : Int).toNat = n5_ → (gi F1) → (fs [(d, d, 0, 2), (d, d, 4, 4), (d + 1, d + 1, 0, 100000)] F1_ F1) → (0 ≤ k ∧ k ≤ 4) → (F1 d 4 ≤ k) → (k ≤ (L.length : Int)) → (F1 d 0 = msk (F 121) (F o) 0 (L.take k.toNat)) → (F1 d 1 = msk (F 121) (F o) 1 (L.take k.toNat)) → (F1 d 2 = (if eqh (L.take k.toNat) (F o) = true then 1 else 0)) → fl_R xi_ms 112 fr lo 23 [(4, .int (Int32.ofInt k)), (0, .ref d), (1, .ref b), (2, .ref o), (3, .ref 120)] [] (fl_H sh_T G F1 ++ X) (pq_112 G F X d b o no q t m L) := by
    intro n5_
    induction n5_ using Nat.strongRecOn with
    | ind n5_ ih7_ =>
    intro k F1 hn8_ hg_F1 hf_F1 hk hc hkL hi0 hi1 hi2
    have g9_ : fs [(d, d, 0, 2), (d, d, 4, 4), (d + 1, d + 1, 0, 100000)] F F1 := fs_tr g4_ hf_F1 (by simp [fs_le]; try omega)
    refine ga_iload (z := k) hm_112 rfl rfl ?_
    refine ga_aload_n (v := .ref b) hm_112 rfl rfl rfl ?_
    have e10_ : F1_ b 4 = F b 4 := by rw [q2_]; exact (fl_u_ne (by first | exact nc_ rfl | decide | omega)).trans ((fl_u_ne (by first | exact nc_ rfl | decide | omega)).trans ((fl_u_ne (by first | exact nc_ rfl | decide | omega)).trans (fl_u_ne (by first | exact nc_ rfl | decide | omega))))
    have e11_ : F1 b 4 = F b 4 := (hf_F1 b 4 (by first | exact fs_c rfl | exact (fs_n (by omega) (fs_n (by omega) (fs_n (by omega) rfl))))).trans (e10_)
    have b12_ : 0 ≤ F b 4 ∧ F b 4 ≤ (4 : Int) := gi_g hgi h_b.2.1.1
    refine ga_geti (z := F b 4) hm_112 rfl h_b.1.1 rfl (e11_) ?_
    refine fl_icmp_ge (a := k) (b := F b 4) hm_112 rfl ⟨by omega, by omega⟩ ⟨by omega, by omega⟩ (fun h13_ => ?_) (fun h14_ => ?_)
    ·
      refine gr_v hm_112 rfl rfl ?_
      have b15_ : -9223372036854775808 ≤ F1 d 0 ∧ F1 d 0 ≤ 9223372036854775807 := gi_g hg_F1 h_d.2.1.1
      have b16_ : -9223372036854775808 ≤ F1 d 1 ∧ F1 d 1 ≤ 9223372036854775807 := gi_g hg_F1 h_d.2.1.2.1
      have b17_ : 0 ≤ F1 d 2 ∧ F1 d 2 ≤ 1 := gi_g hg_F1 h_d.2.1.2.2.1
      exact ⟨F1, rfl, hg_F1, g9_, (by rw [show L.take k.toNat = L from List.take_of_length_le (by omega)] at hi0; exact hi0), (by rw [show L.take k.toNat = L from List.take_of_length_le (by omega)] at hi1; exact hi1), (by rw [show L.take k.toNat = L from List.take_of_length_le (by omega)] at hi2; exact hi2)⟩
    obtain ⟨x_, hx_⟩ := gtk (L := L) (k := k.toNat) (by omega)
    have hxc_ := hcr.2 k.toNat x_ hx_
    refine ga_aload_n (v := .ref b) hm_112 rfl rfl rfl ?_
    refine ga_getr (b := b + 1) hm_112 rfl h_b.1.1 rfl ?_
    refine ga_iload (z := k) hm_112 rfl rfl ?_
    have e18_ : F1_ (b + 1) k.toNat = F (b + 1) k.toNat := by rw [q2_]; exact (fl_u_ne (by first | exact nc_ rfl | decide | omega)).trans ((fl_u_ne (by first | exact nc_ rfl | decide | omega)).trans ((fl_u_ne (by first | exact nc_ rfl | decide | omega)).trans (fl_u_ne (by first | exact nc_ rfl | decide | omega))))
    have e19_ : F1 (b + 1) k.toNat = F (b + 1) k.toNat := (hf_F1 (b + 1) k.toNat (by first | exact fs_c rfl | exact (fs_n (by omega) (fs_n (by omega) (fs_n (by omega) rfl))))).trans (e18_)
    have b20_ : q ≤ F (b + 1) k.toNat ∧ F (b + 1) k.toNat ≤ 5 := gi_g hgi (gb_a h_b.2.1.2.2.1)
    refine ga_iald (z := k) (w := F (b + 1) k.toNat) hm_112 rfl h_b.1.2.1 (by omega) (by omega) (by omega) (e19_) ?_
    refine fl_iconst hm_112 rfl ?_
    refine fx_icmp_ne (a := F (b + 1) k.toNat) (b := -1) hm_112 rfl ⟨by omega, by omega⟩ ⟨by omega, by omega⟩ (fun h21_ => ?_) (fun h22_ => ?_)
    ·
      refine ga_aload_n (v := .ref d) hm_112 rfl rfl rfl ?_
      refine ga_aload_n (v := .ref 120) hm_112 rfl rfl rfl ?_
      refine ga_aload_n (v := .ref b) hm_112 rfl rfl rfl ?_
      refine ga_iload (z := k) hm_112 rfl rfl ?_
      refine ga_aload_n (v := .ref o) hm_112 rfl rfl rfl ?_
      refine gVi (nY := 6) (F := 1) (L := 22) (As := [.ref b, .int (Int32.ofInt k), .ref o]) (b := 120) (rest := [.ref d]) hm_112 rfl hm_102 rfl rfl (fl_ob sc_120) rfl rfl rfl rfl rfl (by omega) (by omega) (mc_102 hG F1 X hg_F1 (b) (4) (o) (no) (t) (q) (k) (m) (x_) h_b h_o (by omega) ((cw_fs (by rw [q2_]; exact (cw_u (cw_u (cw_u (cw_u hw (by omega)) (by omega)) (by omega)) (by omega))) hf_F1 (by first | exact fs_rg rfl | exact fun r j hj => (fs_n (by omega) (fs_n (by omega) (fs_n (by omega) rfl)))))) (hm) (fun j hj => by rw [(Eq.trans (a := F1 (o) j) (b := F1_ (o) j) (hf_F1 (o) j (by first | exact fs_c rfl | exact (fs_n (by omega) (fs_n (by omega) (fs_n (by omega) rfl))))) (show F1_ (o) j = F (o) j from (by rw [q2_]; exact (fl_u_ne (by first | exact nc_ rfl | decide | omega)).trans ((fl_u_ne (by first | exact nc_ rfl | decide | omega)).trans ((fl_u_ne (by first | exact nc_ rfl | decide | omega)).trans ((fl_u_ne (by first | exact nc_ rfl | decide | omega))))))))]; exact ho j hj) (⟨by omega, by omega⟩) (by omega) (⟨Eq.trans ((Eq.trans (a := F1 (b + 1) k.toNat) (b := F1_ (b + 1) k.toNat) (hf_F1 (b + 1) k.toNat (by first | exact fs_c rfl | exact (fs_n (by omega) (fs_n (by omega) (fs_n (by omega) rfl))))) (show F1_ (b + 1) k.toNat = F (b + 1) k.toNat from (by rw [q2_]; exact (fl_u_ne (by first | exact nc_ rfl | decide | omega)).trans ((fl_u_ne (by first | exact nc_ rfl | decide | omega)).trans ((fl_u_ne (by first | exact nc_ rfl | decide | omega)).trans ((fl_u_ne (by first | exact nc_ rfl | decide | omega))))))))) hxc_.1, Eq.trans ((Eq.trans (a := F1 (b + 3) k.toNat) (b := F1_ (b + 3) k.toNat) (hf_F1 (b + 3) k.toNat (by first | exact fs_c rfl | exact (fs_n (by omega) (fs_n (by omega) (fs_n (by omega) rfl))))) (show F1_ (b + 3) k.toNat = F (b + 3) k.toNat from (by rw [q2_]; exact (fl_u_ne (by first | exact nc_ rfl | decide | omega)).trans ((fl_u_ne (by first | exact nc_ rfl | decide | omega)).trans ((fl_u_ne (by first | exact nc_ rfl | decide | omega)).trans ((fl_u_ne (by first | exact nc_ rfl | decide | omega))))))))) hxc_.2.2.1, Eq.trans ((Eq.trans (a := F1 (b + 4) k.toNat) (b := F1_ (b + 4) k.toNat) (hf_F1 (b + 4) k.toNat (by first | exact fs_c rfl | exact (fs_n (by omega) (fs_n (by omega) (fs_n (by omega) rfl))))) (show F1_ (b + 4) k.toNat = F (b + 4) k.toNat from (by rw [q2_]; exact (fl_u_ne (by first | exact nc_ rfl | decide | omega)).trans ((fl_u_ne (by first | exact nc_ rfl | decide | omega)).trans ((fl_u_ne (by first | exact nc_ rfl | decide | omega)).trans ((fl_u_ne (by first | exact nc_ rfl | decide | omega))))))))) hxc_.2.2.2⟩)) (fun _ _ h => False.elim h) ?_
      rintro z23_ A1_ ⟨hA_, c24_, c25_⟩
      subst hA_
      refine ga_aload_n (v := .ref b) hm_112 rfl rfl rfl ?_
      refine ga_getr (b := b + 2) hm_112 rfl h_b.1.1 rfl ?_
      refine ga_iload (z := k) hm_112 rfl rfl ?_
      have e26_ : F1_ (b + 2) k.toNat = F (b + 2) k.toNat := by rw [q2_]; exact (fl_u_ne (by first | exact nc_ rfl | decide | omega)).trans ((fl_u_ne (by first | exact nc_ rfl | decide | omega)).trans ((fl_u_ne (by first | exact nc_ rfl | decide | omega)).trans (fl_u_ne (by first | exact nc_ rfl | decide | omega))))
      have e27_ : F1 (b + 2) k.toNat = F (b + 2) k.toNat := (hf_F1 (b + 2) k.toNat (by first | exact fs_c rfl | exact (fs_n (by omega) (fs_n (by omega) (fs_n (by omega) rfl))))).trans (e26_)
      have b28_ : 0 ≤ F (b + 2) k.toNat ∧ F (b + 2) k.toNat ≤ 1 := gi_g hgi (gb_a h_b.2.1.2.2.2.1)
      refine ga_zald (z := k) (w := F (b + 2) k.toNat) hm_112 rfl h_b.1.2.2.1 (by omega) (by omega) (by omega) (e27_) ?_
      have b29_ : 0 ≤ F1 d 4 ∧ F1 d 4 ≤ 4 := gi_g hg_F1 h_d.2.1.2.2.2.1
      refine gVv (nY := 3) (F := 0) (L := 0) (As := [.int (Int32.ofInt z23_), .int (Int32.ofInt (F (b + 2) k.toNat))]) (b := d) (rest := []) hm_112 rfl hm_113 rfl rfl (fl_ob h_d.1.1) rfl rfl rfl rfl rfl (by omega) (by omega) (mc_113 hG F1 X hg_F1 (d) (z23_) (F (b + 2) k.toNat) h_d (⟨by omega, by omega⟩) (⟨by omega, by omega⟩) (by omega)) (fun _ _ h => False.elim h) ?_
      have b31_ : -9223372036854775808 ≤ F1 d 0 ∧ F1 d 0 ≤ 9223372036854775807 := gi_g hg_F1 h_d.2.1.1
      have b32_ : -9223372036854775808 ≤ F1 d 1 ∧ F1 d 1 ≤ 9223372036854775807 := gi_g hg_F1 h_d.2.1.2.1
      rintro A1_ ⟨F36_, hA_, g37_, s38_, c33_, c34_, c35_⟩
      subst hA_
      have g39_ : fs [(d, d, 0, 2), (d, d, 4, 4), (d + 1, d + 1, 0, 100000)] F F36_ := fs_tr g9_ s38_ (by simp [fs_le]; try omega)
      refine ga_inc (a := k) (c := k + 1) (lv2 := [(4, .int (Int32.ofInt (k + 1))), (0, .ref d), (1, .ref b), (2, .ref o), (3, .ref 120)]) hm_112 rfl rfl (Nat.le_of_ble_eq_true rfl) rfl rfl ?_
      refine fl_goto hm_112 rfl ?_
      have b40_ : 0 ≤ F36_ d 4 ∧ F36_ d 4 ≤ 4 := gi_g g37_ h_d.2.1.2.2.2.1
      have b41_ : -9223372036854775808 ≤ F36_ d 0 ∧ F36_ d 0 ≤ 9223372036854775807 := gi_g g37_ h_d.2.1.1
      have b42_ : -9223372036854775808 ≤ F36_ d 1 ∧ F36_ d 1 ≤ 9223372036854775807 := gi_g g37_ h_d.2.1.2.1
      have e43_ : F36_ d 2 = F1 d 2 := (s38_ d 2 (by first | exact fs_c rfl | exact (fs_n (by omega) (fs_n (by omega) (fs_n (by omega) rfl))))).trans (rfl)
      have b44_ : 0 ≤ F1 d 2 ∧ F1 d 2 ≤ 1 := gi_g hg_F1 h_d.2.1.2.2.1
      have e45_ : F36_ b 4 = F b 4 := (s38_ b 4 (by first | exact fs_c rfl | exact (fs_n (by omega) (fs_n (by omega) (fs_n (by omega) rfl))))).trans (e11_)
      exact ih7_ _ (by omega) (k + 1) F36_ rfl g37_ (fs_tr hf_F1 s38_ (by simp [fs_le]; try omega)) (⟨by omega, by omega⟩) (by omega) (by omega) (by rw [show (k + 1).toNat = k.toNat + 1 by omega]; rw [msk_s hx_]; refine Eq.trans (rfl) ?_; rw [c34_]; by_cases e8_ : x_.2.1 = 0; (rw [mk1_y (by omega) e8_, if_pos (by omega), c25_, (show F1 121 = F 121 from funext (fun j => (Eq.trans (a := F1 121 j) (b := F1_ 121 j) (hf_F1 121 j (by first | exact fs_c rfl | exact (fs_n (by omega) (fs_n (by omega) (fs_n (by omega) rfl))))) (show F1_ 121 j = F 121 j from (by rw [q2_]; exact (fl_u_ne (by first | exact nc_ rfl | decide | omega)).trans ((fl_u_ne (by first | exact nc_ rfl | decide | omega)).trans ((fl_u_ne (by first | exact nc_ rfl | decide | omega)).trans ((fl_u_ne (by first | exact nc_ rfl | decide | omega)))))))))), (show F1 o = F o from funext (fun j => (Eq.trans (a := F1 (o) j) (b := F1_ (o) j) (hf_F1 (o) j (by first | exact fs_c rfl | exact (fs_n (by omega) (fs_n (by omega) (fs_n (by omega) rfl))))) (show F1_ (o) j = F (o) j from (by rw [q2_]; exact (fl_u_ne (by first | exact nc_ rfl | decide | omega)).trans ((fl_u_ne (by first | exact nc_ rfl | decide | omega)).trans ((fl_u_ne (by first | exact nc_ rfl | decide | omega)).trans ((fl_u_ne (by first | exact nc_ rfl | decide | omega)))))))))), hi0]); (rw [mk1_n (Or.inr e8_), if_neg (by omega)]; exact hi0)) (by rw [show (k + 1).toNat = k.toNat + 1 by omega]; rw [msk_s hx_]; refine Eq.trans (rfl) ?_; rw [c35_]; by_cases e8_ : x_.2.1 = 1; (rw [mk1_y (by omega) e8_, if_neg (by omega), c25_, (show F1 121 = F 121 from funext (fun j => (Eq.trans (a := F1 121 j) (b := F1_ 121 j) (hf_F1 121 j (by first | exact fs_c rfl | exact (fs_n (by omega) (fs_n (by omega) (fs_n (by omega) rfl))))) (show F1_ 121 j = F 121 j from (by rw [q2_]; exact (fl_u_ne (by first | exact nc_ rfl | decide | omega)).trans ((fl_u_ne (by first | exact nc_ rfl | decide | omega)).trans ((fl_u_ne (by first | exact nc_ rfl | decide | omega)).trans ((fl_u_ne (by first | exact nc_ rfl | decide | omega)))))))))), (show F1 o = F o from funext (fun j => (Eq.trans (a := F1 (o) j) (b := F1_ (o) j) (hf_F1 (o) j (by first | exact fs_c rfl | exact (fs_n (by omega) (fs_n (by omega) (fs_n (by omega) rfl))))) (show F1_ (o) j = F (o) j from (by rw [q2_]; exact (fl_u_ne (by first | exact nc_ rfl | decide | omega)).trans ((fl_u_ne (by first | exact nc_ rfl | decide | omega)).trans ((fl_u_ne (by first | exact nc_ rfl | decide | omega)).trans ((fl_u_ne (by first | exact nc_ rfl | decide | omega)))))))))), hi1]); (rw [mk1_n (Or.inr e8_), if_pos (by omega)]; exact hi1)) (by rw [show (k + 1).toNat = k.toNat + 1 by omega]; rw [eqh_a hx_ (by omega)]; exact Eq.trans (e43_) hi2)
    have hw1 := hw k.toNat (by omega)
    have ho1 := ho (F (b + 3) k.toNat).toNat (by omega)
    have ho2 := ho (F (b + 4) k.toNat).toNat (by omega)
    refine ga_aload_n (v := .ref o) hm_112 rfl rfl rfl ?_
    refine ga_aload_n (v := .ref b) hm_112 rfl rfl rfl ?_
    refine ga_getr (b := b + 3) hm_112 rfl h_b.1.1 rfl ?_
    refine ga_iload (z := k) hm_112 rfl rfl ?_
    have e46_ : F1_ (b + 3) k.toNat = F (b + 3) k.toNat := by rw [q2_]; exact (fl_u_ne (by first | exact nc_ rfl | decide | omega)).trans ((fl_u_ne (by first | exact nc_ rfl | decide | omega)).trans ((fl_u_ne (by first | exact nc_ rfl | decide | omega)).trans (fl_u_ne (by first | exact nc_ rfl | decide | omega))))
    have e47_ : F1 (b + 3) k.toNat = F (b + 3) k.toNat := (hf_F1 (b + 3) k.toNat (by first | exact fs_c rfl | exact (fs_n (by omega) (fs_n (by omega) (fs_n (by omega) rfl))))).trans (e46_)
    have b48_ : -1 ≤ F (b + 3) k.toNat ∧ F (b + 3) k.toNat ≤ t := gi_g hgi (gb_a h_b.2.1.2.2.2.2.1)
    refine ga_iald (z := k) (w := F (b + 3) k.toNat) hm_112 rfl h_b.1.2.2.2.1 (by omega) (by omega) (by omega) (e47_) ?_
    have e49_ : F1_ o (F (b + 3) k.toNat).toNat = F o (F (b + 3) k.toNat).toNat := by rw [q2_]; exact (fl_u_ne (by first | exact nc_ rfl | decide | omega)).trans ((fl_u_ne (by first | exact nc_ rfl | decide | omega)).trans ((fl_u_ne (by first | exact nc_ rfl | decide | omega)).trans (fl_u_ne (by first | exact nc_ rfl | decide | omega))))
    have e50_ : F1 o (F (b + 3) k.toNat).toNat = F o (F (b + 3) k.toNat).toNat := (hf_F1 o (F (b + 3) k.toNat).toNat (by first | exact fs_c rfl | exact (fs_n (by omega) (fs_n (by omega) (fs_n (by omega) rfl))))).trans (e49_)
    refine ga_iald (z := F (b + 3) k.toNat) (w := F o (F (b + 3) k.toNat).toNat) hm_112 rfl h_o (by omega) (by omega) (by omega) (e50_) ?_
    refine ga_aload_n (v := .ref o) hm_112 rfl rfl rfl ?_
    refine ga_aload_n (v := .ref b) hm_112 rfl rfl rfl ?_
    refine ga_getr (b := b + 4) hm_112 rfl h_b.1.1 rfl ?_
    refine ga_iload (z := k) hm_112 rfl rfl ?_
    have e51_ : F1_ (b + 4) k.toNat = F (b + 4) k.toNat := by rw [q2_]; exact (fl_u_ne (by first | exact nc_ rfl | decide | omega)).trans ((fl_u_ne (by first | exact nc_ rfl | decide | omega)).trans ((fl_u_ne (by first | exact nc_ rfl | decide | omega)).trans (fl_u_ne (by first | exact nc_ rfl | decide | omega))))
    have e52_ : F1 (b + 4) k.toNat = F (b + 4) k.toNat := (hf_F1 (b + 4) k.toNat (by first | exact fs_c rfl | exact (fs_n (by omega) (fs_n (by omega) (fs_n (by omega) rfl))))).trans (e51_)
    have b53_ : -1 ≤ F (b + 4) k.toNat ∧ F (b + 4) k.toNat ≤ t := gi_g hgi (gb_a h_b.2.1.2.2.2.2.2)
    refine ga_iald (z := k) (w := F (b + 4) k.toNat) hm_112 rfl h_b.1.2.2.2.2 (by omega) (by omega) (by omega) (e52_) ?_
    have e54_ : F1_ o (F (b + 4) k.toNat).toNat = F o (F (b + 4) k.toNat).toNat := by rw [q2_]; exact (fl_u_ne (by first | exact nc_ rfl | decide | omega)).trans ((fl_u_ne (by first | exact nc_ rfl | decide | omega)).trans ((fl_u_ne (by first | exact nc_ rfl | decide | omega)).trans (fl_u_ne (by first | exact nc_ rfl | decide | omega))))
    have e55_ : F1 o (F (b + 4) k.toNat).toNat = F o (F (b + 4) k.toNat).toNat := (hf_F1 o (F (b + 4) k.toNat).toNat (by first | exact fs_c rfl | exact (fs_n (by omega) (fs_n (by omega) (fs_n (by omega) rfl))))).trans (e54_)
    refine ga_iald (z := F (b + 4) k.toNat) (w := F o (F (b + 4) k.toNat).toNat) hm_112 rfl h_o (by omega) (by omega) (by omega) (e55_) ?_
    refine fx_icmp_ne (a := F o (F (b + 3) k.toNat).toNat) (b := F o (F (b + 4) k.toNat).toNat) hm_112 rfl ⟨by omega, by omega⟩ ⟨by omega, by omega⟩ (fun h56_ => ?_) (fun h57_ => ?_)
    ·
      refine fl_iconst hm_112 rfl ?_
      refine ga_istore (lv2 := [(5, .int (Int32.ofInt 0)), (4, .int (Int32.ofInt k)), (0, .ref d), (1, .ref b), (2, .ref o), (3, .ref 120)]) hm_112 rfl (Nat.le_of_ble_eq_true rfl) rfl ?_
      refine ga_aload_n (v := .ref d) hm_112 rfl rfl rfl ?_
      refine ga_aload_n (v := .ref d) hm_112 rfl rfl rfl ?_
      have b58_ : 0 ≤ F1 d 2 ∧ F1 d 2 ≤ 1 := gi_g hg_F1 h_d.2.1.2.2.1
      refine ga_geti (z := F1 d 2) hm_112 rfl h_d.1.1 rfl (rfl) ?_
      refine fl_if_eq (a := F1 d 2) hm_112 rfl ⟨by omega, by omega⟩ (fun h59_ => ?_) (fun h60_ => ?_)
      ·
        refine fl_iconst hm_112 rfl ?_
        refine ga_putz (z := 0) hm_112 rfl h_d.1.1 rfl rfl (by omega) ?_
        refine fl_goto hm_112 rfl ?_
        refine ga_inc (a := k) (c := k + 1) (lv2 := [(4, .int (Int32.ofInt (k + 1))), (5, .int (Int32.ofInt 0)), (0, .ref d), (1, .ref b), (2, .ref o), (3, .ref 120)]) hm_112 rfl rfl (Nat.le_of_ble_eq_true rfl) rfl rfl ?_
        refine fl_goto hm_112 rfl ?_
        obtain ⟨F61_, q62_⟩ : ∃ Fq_, Fq_ = (fl_u F1 d 2 0) := ⟨_, rfl⟩
        rw [← q62_]
        have g63_ : gi F61_ := by rw [q62_]; exact gi_u (hg_F1) h_d.2.1.2.2.1 (by omega) (by omega)
        have g64_ : fs [(d, d, 0, 2), (d, d, 4, 4), (d + 1, d + 1, 0, 100000)] F F61_ := by rw [q62_]; exact fs_u (g9_) (fs_y (by omega))
        have e65_ : F61_ d 4 = F1 d 4 := by rw [q62_]; exact fl_u_ne (by first | exact nc_ rfl | decide | omega)
        have b66_ : 0 ≤ F1 d 4 ∧ F1 d 4 ≤ 4 := gi_g hg_F1 h_d.2.1.2.2.2.1
        have e67_ : F61_ d 0 = F1 d 0 := by rw [q62_]; exact fl_u_ne (by first | exact nc_ rfl | decide | omega)
        have b68_ : -9223372036854775808 ≤ F1 d 0 ∧ F1 d 0 ≤ 9223372036854775807 := gi_g hg_F1 h_d.2.1.1
        have e69_ : F61_ d 1 = F1 d 1 := by rw [q62_]; exact fl_u_ne (by first | exact nc_ rfl | decide | omega)
        have b70_ : -9223372036854775808 ≤ F1 d 1 ∧ F1 d 1 ≤ 9223372036854775807 := gi_g hg_F1 h_d.2.1.2.1
        have e71_ : F61_ d 2 = 0 := by rw [q62_]; exact fl_u_eq
        have e72_ : F61_ b 4 = F b 4 := by rw [q62_]; exact (fl_u_ne (by first | exact nc_ rfl | decide | omega)).trans (e11_)
        exact fl_R_sub (lv' := [(4, .int (Int32.ofInt (k + 1))), (0, .ref d), (1, .ref b), (2, .ref o), (3, .ref 120)]) rfl rfl (ih7_ _ (by omega) (k + 1) F61_ rfl g63_ (by rw [q62_]; exact fs_u (hf_F1) (fs_y (by omega))) (⟨by omega, by omega⟩) (by omega) (by omega) (by rw [show (k + 1).toNat = k.toNat + 1 by omega]; rw [msk_s hx_, mk1_n (Or.inl (by omega))]; exact Eq.trans (e67_) hi0) (by rw [show (k + 1).toNat = k.toNat + 1 by omega]; rw [msk_s hx_, mk1_n (Or.inl (by omega))]; exact Eq.trans (e69_) hi1) (by rw [show (k + 1).toNat = k.toNat + 1 by omega]; refine Eq.trans (e71_) (eqn_0 hx_ hi2 (by omega) (by rw [← hxc_.2.2.1, ← hxc_.2.2.2]; omega))))
      refine ga_iload (z := 0) hm_112 rfl rfl ?_
      refine ga_aload_n (v := .ref b) hm_112 rfl rfl rfl ?_
      refine ga_getr (b := b + 2) hm_112 rfl h_b.1.1 rfl ?_
      refine ga_iload (z := k) hm_112 rfl rfl ?_
      have e73_ : F1_ (b + 2) k.toNat = F (b + 2) k.toNat := by rw [q2_]; exact (fl_u_ne (by first | exact nc_ rfl | decide | omega)).trans ((fl_u_ne (by first | exact nc_ rfl | decide | omega)).trans ((fl_u_ne (by first | exact nc_ rfl | decide | omega)).trans (fl_u_ne (by first | exact nc_ rfl | decide | omega))))
      have e74_ : F1 (b + 2) k.toNat = F (b + 2) k.toNat := (hf_F1 (b + 2) k.toNat (by first | exact fs_c rfl | exact (fs_n (by omega) (fs_n (by omega) (fs_n (by omega) rfl))))).trans (e73_)
      have b75_ : 0 ≤ F (b + 2) k.toNat ∧ F (b + 2) k.toNat ≤ 1 := gi_g hgi (gb_a h_b.2.1.2.2.2.1)
      refine ga_zald (z := k) (w := F (b + 2) k.toNat) hm_112 rfl h_b.1.2.2.1 (by omega) (by omega) (by omega) (e74_) ?_
      refine fl_icmp_eq (a := 0) (b := F (b + 2) k.toNat) hm_112 rfl ⟨by omega, by omega⟩ ⟨by omega, by omega⟩ (fun h76_ => ?_) (fun h77_ => ?_)
      ·
        refine fl_iconst hm_112 rfl ?_
        refine ga_putz (z := 0) hm_112 rfl h_d.1.1 rfl rfl (by omega) ?_
        refine fl_goto hm_112 rfl ?_
        refine ga_inc (a := k) (c := k + 1) (lv2 := [(4, .int (Int32.ofInt (k + 1))), (5, .int (Int32.ofInt 0)), (0, .ref d), (1, .ref b), (2, .ref o), (3, .ref 120)]) hm_112 rfl rfl (Nat.le_of_ble_eq_true rfl) rfl rfl ?_
        refine fl_goto hm_112 rfl ?_
        obtain ⟨F78_, q79_⟩ : ∃ Fq_, Fq_ = (fl_u F1 d 2 0) := ⟨_, rfl⟩
        rw [← q79_]
        have g80_ : gi F78_ := by rw [q79_]; exact gi_u (hg_F1) h_d.2.1.2.2.1 (by omega) (by omega)
        have g81_ : fs [(d, d, 0, 2), (d, d, 4, 4), (d + 1, d + 1, 0, 100000)] F F78_ := by rw [q79_]; exact fs_u (g9_) (fs_y (by omega))
        have e82_ : F78_ d 4 = F1 d 4 := by rw [q79_]; exact fl_u_ne (by first | exact nc_ rfl | decide | omega)
        have b83_ : 0 ≤ F1 d 4 ∧ F1 d 4 ≤ 4 := gi_g hg_F1 h_d.2.1.2.2.2.1
        have e84_ : F78_ d 0 = F1 d 0 := by rw [q79_]; exact fl_u_ne (by first | exact nc_ rfl | decide | omega)
        have b85_ : -9223372036854775808 ≤ F1 d 0 ∧ F1 d 0 ≤ 9223372036854775807 := gi_g hg_F1 h_d.2.1.1
        have e86_ : F78_ d 1 = F1 d 1 := by rw [q79_]; exact fl_u_ne (by first | exact nc_ rfl | decide | omega)
        have b87_ : -9223372036854775808 ≤ F1 d 1 ∧ F1 d 1 ≤ 9223372036854775807 := gi_g hg_F1 h_d.2.1.2.1
        have e88_ : F78_ d 2 = 0 := by rw [q79_]; exact fl_u_eq
        have e89_ : F78_ b 4 = F b 4 := by rw [q79_]; exact (fl_u_ne (by first | exact nc_ rfl | decide | omega)).trans (e11_)
        exact fl_R_sub (lv' := [(4, .int (Int32.ofInt (k + 1))), (0, .ref d), (1, .ref b), (2, .ref o), (3, .ref 120)]) rfl rfl (ih7_ _ (by omega) (k + 1) F78_ rfl g80_ (by rw [q79_]; exact fs_u (hf_F1) (fs_y (by omega))) (⟨by omega, by omega⟩) (by omega) (by omega) (by rw [show (k + 1).toNat = k.toNat + 1 by omega]; rw [msk_s hx_, mk1_n (Or.inl (by omega))]; exact Eq.trans (e84_) hi0) (by rw [show (k + 1).toNat = k.toNat + 1 by omega]; rw [msk_s hx_, mk1_n (Or.inl (by omega))]; exact Eq.trans (e86_) hi1) (by rw [show (k + 1).toNat = k.toNat + 1 by omega]; refine Eq.trans (e88_) (eqn_0 hx_ hi2 (by omega) (by rw [← hxc_.2.2.1, ← hxc_.2.2.2]; omega))))
      refine fl_iconst hm_112 rfl ?_
      refine fl_goto hm_112 rfl ?_
      refine ga_putz (z := 1) hm_112 rfl h_d.1.1 rfl rfl (by omega) ?_
      refine fl_goto hm_112 rfl ?_
      refine ga_inc (a := k) (c := k + 1) (lv2 := [(4, .int (Int32.ofInt (k + 1))), (5, .int (Int32.ofInt 0)), (0, .ref d), (1, .ref b), (2, .ref o), (3, .ref 120)]) hm_112 rfl rfl (Nat.le_of_ble_eq_true rfl) rfl rfl ?_
      refine fl_goto hm_112 rfl ?_
      obtain ⟨F90_, q91_⟩ : ∃ Fq_, Fq_ = (fl_u F1 d 2 1) := ⟨_, rfl⟩
      rw [← q91_]
      have g92_ : gi F90_ := by rw [q91_]; exact gi_u (hg_F1) h_d.2.1.2.2.1 (by omega) (by omega)
      have g93_ : fs [(d, d, 0, 2), (d, d, 4, 4), (d + 1, d + 1, 0, 100000)] F F90_ := by rw [q91_]; exact fs_u (g9_) (fs_y (by omega))
      have e94_ : F90_ d 4 = F1 d 4 := by rw [q91_]; exact fl_u_ne (by first | exact nc_ rfl | decide | omega)
      have b95_ : 0 ≤ F1 d 4 ∧ F1 d 4 ≤ 4 := gi_g hg_F1 h_d.2.1.2.2.2.1
      have e96_ : F90_ d 0 = F1 d 0 := by rw [q91_]; exact fl_u_ne (by first | exact nc_ rfl | decide | omega)
      have b97_ : -9223372036854775808 ≤ F1 d 0 ∧ F1 d 0 ≤ 9223372036854775807 := gi_g hg_F1 h_d.2.1.1
      have e98_ : F90_ d 1 = F1 d 1 := by rw [q91_]; exact fl_u_ne (by first | exact nc_ rfl | decide | omega)
      have b99_ : -9223372036854775808 ≤ F1 d 1 ∧ F1 d 1 ≤ 9223372036854775807 := gi_g hg_F1 h_d.2.1.2.1
      have e100_ : F90_ d 2 = 1 := by rw [q91_]; exact fl_u_eq
      have e101_ : F90_ b 4 = F b 4 := by rw [q91_]; exact (fl_u_ne (by first | exact nc_ rfl | decide | omega)).trans (e11_)
      exact fl_R_sub (lv' := [(4, .int (Int32.ofInt (k + 1))), (0, .ref d), (1, .ref b), (2, .ref o), (3, .ref 120)]) rfl rfl (ih7_ _ (by omega) (k + 1) F90_ rfl g92_ (by rw [q91_]; exact fs_u (hf_F1) (fs_y (by omega))) (⟨by omega, by omega⟩) (by omega) (by omega) (by rw [show (k + 1).toNat = k.toNat + 1 by omega]; rw [msk_s hx_, mk1_n (Or.inl (by omega))]; exact Eq.trans (e96_) hi0) (by rw [show (k + 1).toNat = k.toNat + 1 by omega]; rw [msk_s hx_, mk1_n (Or.inl (by omega))]; exact Eq.trans (e98_) hi1) (by rw [show (k + 1).toNat = k.toNat + 1 by omega]; refine Eq.trans (e100_) (eqn_1 hx_ hi2 (by omega) (by omega) (by rw [← hxc_.2.2.1, ← hxc_.2.2.2]; omega))))
    refine fl_iconst hm_112 rfl ?_
    refine fl_goto hm_112 rfl ?_
    refine ga_istore (lv2 := [(5, .int (Int32.ofInt 1)), (4, .int (Int32.ofInt k)), (0, .ref d), (1, .ref b), (2, .ref o), (3, .ref 120)]) hm_112 rfl (Nat.le_of_ble_eq_true rfl) rfl ?_
    refine ga_aload_n (v := .ref d) hm_112 rfl rfl rfl ?_
    refine ga_aload_n (v := .ref d) hm_112 rfl rfl rfl ?_
    have b102_ : 0 ≤ F1 d 2 ∧ F1 d 2 ≤ 1 := gi_g hg_F1 h_d.2.1.2.2.1
    refine ga_geti (z := F1 d 2) hm_112 rfl h_d.1.1 rfl (rfl) ?_
    refine fl_if_eq (a := F1 d 2) hm_112 rfl ⟨by omega, by omega⟩ (fun h103_ => ?_) (fun h104_ => ?_)
    ·
      refine fl_iconst hm_112 rfl ?_
      refine ga_putz (z := 0) hm_112 rfl h_d.1.1 rfl rfl (by omega) ?_
      refine fl_goto hm_112 rfl ?_
      refine ga_inc (a := k) (c := k + 1) (lv2 := [(4, .int (Int32.ofInt (k + 1))), (5, .int (Int32.ofInt 1)), (0, .ref d), (1, .ref b), (2, .ref o), (3, .ref 120)]) hm_112 rfl rfl (Nat.le_of_ble_eq_true rfl) rfl rfl ?_
      refine fl_goto hm_112 rfl ?_
      obtain ⟨F105_, q106_⟩ : ∃ Fq_, Fq_ = (fl_u F1 d 2 0) := ⟨_, rfl⟩
      rw [← q106_]
      have g107_ : gi F105_ := by rw [q106_]; exact gi_u (hg_F1) h_d.2.1.2.2.1 (by omega) (by omega)
      have g108_ : fs [(d, d, 0, 2), (d, d, 4, 4), (d + 1, d + 1, 0, 100000)] F F105_ := by rw [q106_]; exact fs_u (g9_) (fs_y (by omega))
      have e109_ : F105_ d 4 = F1 d 4 := by rw [q106_]; exact fl_u_ne (by first | exact nc_ rfl | decide | omega)
      have b110_ : 0 ≤ F1 d 4 ∧ F1 d 4 ≤ 4 := gi_g hg_F1 h_d.2.1.2.2.2.1
      have e111_ : F105_ d 0 = F1 d 0 := by rw [q106_]; exact fl_u_ne (by first | exact nc_ rfl | decide | omega)
      have b112_ : -9223372036854775808 ≤ F1 d 0 ∧ F1 d 0 ≤ 9223372036854775807 := gi_g hg_F1 h_d.2.1.1
      have e113_ : F105_ d 1 = F1 d 1 := by rw [q106_]; exact fl_u_ne (by first | exact nc_ rfl | decide | omega)
      have b114_ : -9223372036854775808 ≤ F1 d 1 ∧ F1 d 1 ≤ 9223372036854775807 := gi_g hg_F1 h_d.2.1.2.1
      have e115_ : F105_ d 2 = 0 := by rw [q106_]; exact fl_u_eq
      have e116_ : F105_ b 4 = F b 4 := by rw [q106_]; exact (fl_u_ne (by first | exact nc_ rfl | decide | omega)).trans (e11_)
      exact fl_R_sub (lv' := [(4, .int (Int32.ofInt (k + 1))), (0, .ref d), (1, .ref b), (2, .ref o), (3, .ref 120)]) rfl rfl (ih7_ _ (by omega) (k + 1) F105_ rfl g107_ (by rw [q106_]; exact fs_u (hf_F1) (fs_y (by omega))) (⟨by omega, by omega⟩) (by omega) (by omega) (by rw [show (k + 1).toNat = k.toNat + 1 by omega]; rw [msk_s hx_, mk1_n (Or.inl (by omega))]; exact Eq.trans (e111_) hi0) (by rw [show (k + 1).toNat = k.toNat + 1 by omega]; rw [msk_s hx_, mk1_n (Or.inl (by omega))]; exact Eq.trans (e113_) hi1) (by rw [show (k + 1).toNat = k.toNat + 1 by omega]; refine Eq.trans (e115_) (eqn_0 hx_ hi2 (by omega) (by rw [← hxc_.2.2.1, ← hxc_.2.2.2]; omega))))
    refine ga_iload (z := 1) hm_112 rfl rfl ?_
    refine ga_aload_n (v := .ref b) hm_112 rfl rfl rfl ?_
    refine ga_getr (b := b + 2) hm_112 rfl h_b.1.1 rfl ?_
    refine ga_iload (z := k) hm_112 rfl rfl ?_
    have e117_ : F1_ (b + 2) k.toNat = F (b + 2) k.toNat := by rw [q2_]; exact (fl_u_ne (by first | exact nc_ rfl | decide | omega)).trans ((fl_u_ne (by first | exact nc_ rfl | decide | omega)).trans ((fl_u_ne (by first | exact nc_ rfl | decide | omega)).trans (fl_u_ne (by first | exact nc_ rfl | decide | omega))))
    have e118_ : F1 (b + 2) k.toNat = F (b + 2) k.toNat := (hf_F1 (b + 2) k.toNat (by first | exact fs_c rfl | exact (fs_n (by omega) (fs_n (by omega) (fs_n (by omega) rfl))))).trans (e117_)
    have b119_ : 0 ≤ F (b + 2) k.toNat ∧ F (b + 2) k.toNat ≤ 1 := gi_g hgi (gb_a h_b.2.1.2.2.2.1)
    refine ga_zald (z := k) (w := F (b + 2) k.toNat) hm_112 rfl h_b.1.2.2.1 (by omega) (by omega) (by omega) (e118_) ?_
    refine fl_icmp_eq (a := 1) (b := F (b + 2) k.toNat) hm_112 rfl ⟨by omega, by omega⟩ ⟨by omega, by omega⟩ (fun h120_ => ?_) (fun h121_ => ?_)
    ·
      refine fl_iconst hm_112 rfl ?_
      refine ga_putz (z := 0) hm_112 rfl h_d.1.1 rfl rfl (by omega) ?_
      refine fl_goto hm_112 rfl ?_
      refine ga_inc (a := k) (c := k + 1) (lv2 := [(4, .int (Int32.ofInt (k + 1))), (5, .int (Int32.ofInt 1)), (0, .ref d), (1, .ref b), (2, .ref o), (3, .ref 120)]) hm_112 rfl rfl (Nat.le_of_ble_eq_true rfl) rfl rfl ?_
      refine fl_goto hm_112 rfl ?_
      obtain ⟨F122_, q123_⟩ : ∃ Fq_, Fq_ = (fl_u F1 d 2 0) := ⟨_, rfl⟩
      rw [← q123_]
      have g124_ : gi F122_ := by rw [q123_]; exact gi_u (hg_F1) h_d.2.1.2.2.1 (by omega) (by omega)
      have g125_ : fs [(d, d, 0, 2), (d, d, 4, 4), (d + 1, d + 1, 0, 100000)] F F122_ := by rw [q123_]; exact fs_u (g9_) (fs_y (by omega))
      have e126_ : F122_ d 4 = F1 d 4 := by rw [q123_]; exact fl_u_ne (by first | exact nc_ rfl | decide | omega)
      have b127_ : 0 ≤ F1 d 4 ∧ F1 d 4 ≤ 4 := gi_g hg_F1 h_d.2.1.2.2.2.1
      have e128_ : F122_ d 0 = F1 d 0 := by rw [q123_]; exact fl_u_ne (by first | exact nc_ rfl | decide | omega)
      have b129_ : -9223372036854775808 ≤ F1 d 0 ∧ F1 d 0 ≤ 9223372036854775807 := gi_g hg_F1 h_d.2.1.1
      have e130_ : F122_ d 1 = F1 d 1 := by rw [q123_]; exact fl_u_ne (by first | exact nc_ rfl | decide | omega)
      have b131_ : -9223372036854775808 ≤ F1 d 1 ∧ F1 d 1 ≤ 9223372036854775807 := gi_g hg_F1 h_d.2.1.2.1
      have e132_ : F122_ d 2 = 0 := by rw [q123_]; exact fl_u_eq
      have e133_ : F122_ b 4 = F b 4 := by rw [q123_]; exact (fl_u_ne (by first | exact nc_ rfl | decide | omega)).trans (e11_)
      exact fl_R_sub (lv' := [(4, .int (Int32.ofInt (k + 1))), (0, .ref d), (1, .ref b), (2, .ref o), (3, .ref 120)]) rfl rfl (ih7_ _ (by omega) (k + 1) F122_ rfl g124_ (by rw [q123_]; exact fs_u (hf_F1) (fs_y (by omega))) (⟨by omega, by omega⟩) (by omega) (by omega) (by rw [show (k + 1).toNat = k.toNat + 1 by omega]; rw [msk_s hx_, mk1_n (Or.inl (by omega))]; exact Eq.trans (e128_) hi0) (by rw [show (k + 1).toNat = k.toNat + 1 by omega]; rw [msk_s hx_, mk1_n (Or.inl (by omega))]; exact Eq.trans (e130_) hi1) (by rw [show (k + 1).toNat = k.toNat + 1 by omega]; refine Eq.trans (e132_) (eqn_0 hx_ hi2 (by omega) (by rw [← hxc_.2.2.1, ← hxc_.2.2.2]; omega))))
    refine fl_iconst hm_112 rfl ?_
    refine fl_goto hm_112 rfl ?_
    refine ga_putz (z := 1) hm_112 rfl h_d.1.1 rfl rfl (by omega) ?_
    refine fl_goto hm_112 rfl ?_
    refine ga_inc (a := k) (c := k + 1) (lv2 := [(4, .int (Int32.ofInt (k + 1))), (5, .int (Int32.ofInt 1)), (0, .ref d), (1, .ref b), (2, .ref o), (3, .ref 120)]) hm_112 rfl rfl (Nat.le_of_ble_eq_true rfl) rfl rfl ?_
    refine fl_goto hm_112 rfl ?_
    obtain ⟨F134_, q135_⟩ : ∃ Fq_, Fq_ = (fl_u F1 d 2 1) := ⟨_, rfl⟩
    rw [← q135_]
    have g136_ : gi F134_ := by rw [q135_]; exact gi_u (hg_F1) h_d.2.1.2.2.1 (by omega) (by omega)
    have g137_ : fs [(d, d, 0, 2), (d, d, 4, 4), (d + 1, d + 1, 0, 100000)] F F134_ := by rw [q135_]; exact fs_u (g9_) (fs_y (by omega))
    have e138_ : F134_ d 4 = F1 d 4 := by rw [q135_]; exact fl_u_ne (by first | exact nc_ rfl | decide | omega)
    have b139_ : 0 ≤ F1 d 4 ∧ F1 d 4 ≤ 4 := gi_g hg_F1 h_d.2.1.2.2.2.1
    have e140_ : F134_ d 0 = F1 d 0 := by rw [q135_]; exact fl_u_ne (by first | exact nc_ rfl | decide | omega)
    have b141_ : -9223372036854775808 ≤ F1 d 0 ∧ F1 d 0 ≤ 9223372036854775807 := gi_g hg_F1 h_d.2.1.1
    have e142_ : F134_ d 1 = F1 d 1 := by rw [q135_]; exact fl_u_ne (by first | exact nc_ rfl | decide | omega)
    have b143_ : -9223372036854775808 ≤ F1 d 1 ∧ F1 d 1 ≤ 9223372036854775807 := gi_g hg_F1 h_d.2.1.2.1
    have e144_ : F134_ d 2 = 1 := by rw [q135_]; exact fl_u_eq
    have e145_ : F134_ b 4 = F b 4 := by rw [q135_]; exact (fl_u_ne (by first | exact nc_ rfl | decide | omega)).trans (e11_)
    exact fl_R_sub (lv' := [(4, .int (Int32.ofInt (k + 1))), (0, .ref d), (1, .ref b), (2, .ref o), (3, .ref 120)]) rfl rfl (ih7_ _ (by omega) (k + 1) F134_ rfl g136_ (by rw [q135_]; exact fs_u (hf_F1) (fs_y (by omega))) (⟨by omega, by omega⟩) (by omega) (by omega) (by rw [show (k + 1).toNat = k.toNat + 1 by omega]; rw [msk_s hx_, mk1_n (Or.inl (by omega))]; exact Eq.trans (e140_) hi0) (by rw [show (k + 1).toNat = k.toNat + 1 by omega]; rw [msk_s hx_, mk1_n (Or.inl (by omega))]; exact Eq.trans (e142_) hi1) (by rw [show (k + 1).toNat = k.toNat + 1 by omega]; refine Eq.trans (e144_) (eqn_1 hx_ hi2 (by omega) (by omega) (by rw [← hxc_.2.2.1, ← hxc_.2.2.2]; omega))))
  have e146_ : F1_ d 4 = 0 := by rw [q2_]; exact fl_u_eq
  have e147_ : F1_ d 0 = 0 := by rw [q2_]; exact (fl_u_ne (by first | exact nc_ rfl | decide | omega)).trans ((fl_u_ne (by first | exact nc_ rfl | decide | omega)).trans ((fl_u_ne (by first | exact nc_ rfl | decide | omega)).trans (fl_u_eq)))
  have e148_ : F1_ d 1 = 0 := by rw [q2_]; exact (fl_u_ne (by first | exact nc_ rfl | decide | omega)).trans ((fl_u_ne (by first | exact nc_ rfl | decide | omega)).trans (fl_u_eq))
  have e149_ : F1_ d 2 = 1 := by rw [q2_]; exact (fl_u_ne (by first | exact nc_ rfl | decide | omega)).trans (fl_u_eq)
  have e150_ : F1_ b 4 = F b 4 := by rw [q2_]; exact (fl_u_ne (by first | exact nc_ rfl | decide | omega)).trans ((fl_u_ne (by first | exact nc_ rfl | decide | omega)).trans ((fl_u_ne (by first | exact nc_ rfl | decide | omega)).trans (fl_u_ne (by first | exact nc_ rfl | decide | omega))))
  have b151_ : 0 ≤ F b 4 ∧ F b 4 ≤ (4 : Int) := gi_g hgi h_b.2.1.1
  exact L6_ _ (0) F1_ rfl g3_ fs_refl (⟨by omega, by omega⟩) (by omega) (by omega) (Eq.trans (e147_) rfl) (Eq.trans (e148_) rfl) (Eq.trans (e149_) rfl)
/- CheapPlanner$Step.bindEffect -/
abbrev pq_144 (G : Nat → Nat → Option Nat) (F : fl_N) (X : xi_H) (a b : Nat) (m : Int) (L : List lt_T) : Outcome → xi_H → Prop := gqv (fun A => ∃ F' : fl_N, fl_H sh_T G F' ++ X = A ∧ gi F' ∧ fs [(a, a, 2, 2), (a, a, 4, 5), (a, a, 7, 7), (a + 4, a + 4, 0, 100000)] F F' ∧ (F' a 2 = (if F b 5 = 0 then 1 else F b 5)) ∧ (F' a 4 = msk (F 121) (F (a + 1)) 1 L) ∧ (F' a 5 = msk (F 121) (F (a + 1)) 0 L)) gqn
theorem mc_144 {G : Nat → Nat → Option Nat} (hG : gg G) (F : fl_N) (X : xi_H) (hgi : gi F) (a b : Nat) (m : Int) (L : List lt_T) (h_a : sp a) (h_b : cl b 4 2 0) (hw : cw F b m) (hm : 0 ≤ m ∧ m ≤ 3) (ho : ∀ j : Nat, (j : Int) < m → 0 ≤ F (a + 1) j ∧ F (a + 1) j ≤ 5) (hcr : clr F b L) : fl_M xi_ms 144 2 47 [.ref a, .ref b, .ref 120] (fl_H sh_T G F ++ X) (pq_144 G F X a b m L) := by
  intro fr lo hfr hlo
  show fl_R xi_ms 144 fr lo 0 [(0, .ref a), (1, .ref b), (2, .ref 120)] [] _ _
  have hcr1 := hcr.1
  have hr_a := h_a.2.2
  have hr_b := h_b.2.2
  refine ga_aload_n (v := .ref a) hm_144 rfl rfl rfl ?_
  refine ga_aload_n (v := .ref b) hm_144 rfl rfl rfl ?_
  have b1_ : 0 ≤ F b 5 ∧ F b 5 ≤ 999 := gi_g hgi h_b.2.1.2.1
  refine ga_geti (z := F b 5) hm_144 rfl h_b.1.1 rfl (rfl) ?_
  refine fx_if_ne (a := F b 5) hm_144 rfl ⟨by omega, by omega⟩ (fun h2_ => ?_) (fun h3_ => ?_)
  ·
    refine ga_aload_n (v := .ref b) hm_144 rfl rfl rfl ?_
    refine ga_geti (z := F b 5) hm_144 rfl h_b.1.1 rfl (rfl) ?_
    refine ga_puti (z := F b 5) hm_144 rfl h_a.1.1 rfl rfl ?_
    refine ga_aload_n (v := .ref a) hm_144 rfl rfl rfl ?_
    refine ga_lconst (z := 0) hm_144 rfl rfl ?_
    refine ga_putl hm_144 rfl h_a.1.1 rfl rfl ?_
    refine ga_aload_n (v := .ref a) hm_144 rfl rfl rfl ?_
    refine ga_lconst (z := 0) hm_144 rfl rfl ?_
    refine ga_putl hm_144 rfl h_a.1.1 rfl rfl ?_
    refine ga_aload_n (v := .ref a) hm_144 rfl rfl rfl ?_
    refine fl_iconst hm_144 rfl ?_
    refine ga_puti (z := 0) hm_144 rfl h_a.1.1 rfl rfl ?_
    refine fl_iconst hm_144 rfl ?_
    refine ga_istore_n (lv2 := [(3, .int (Int32.ofInt 0)), (0, .ref a), (1, .ref b), (2, .ref 120)]) hm_144 rfl (Nat.le_of_ble_eq_true rfl) rfl ?_
    obtain ⟨F4_, q5_⟩ : ∃ Fq_, Fq_ = (fl_u (fl_u (fl_u (fl_u F a 2 (F b 5)) a 4 0) a 5 0) a 7 0) := ⟨_, rfl⟩
    rw [← q5_]
    have g6_ : gi F4_ := by rw [q5_]; exact gi_u (gi_u (gi_u (gi_u (hgi) h_a.2.1.2.2.1 (by omega) (by omega)) h_a.2.1.2.2.2.1 (by omega) (by omega)) h_a.2.1.2.2.2.2.1 (by omega) (by omega)) h_a.2.1.2.2.2.2.2.1 (by omega) (by omega)
    have g7_ : fs [(a, a, 2, 2), (a, a, 4, 5), (a, a, 7, 7), (a + 4, a + 4, 0, 100000)] F F4_ := by rw [q5_]; exact fs_u (fs_u (fs_u (fs_u (fs_refl) (fs_y (by omega))) (fs_z (fs_y (by omega)))) (fs_z (fs_y (by omega)))) (fs_z (fs_z (fs_y (by omega))))
    have L9_ : ∀ (n8_ : Nat) (k : Int) (F1 : fl_N), (F1 b 4 - k : Int).toNat = n8_ → (gi F1) → (fs [(a, a, 2, 2), (a, a, 4, 5), (a, a, 7, 7), (a + 4, a + 4, 0, 100000)] F4_ F1) → (0 ≤ k ∧ k ≤ 4) → (F1 a 7 ≤ k) → (k ≤ (L.length : Int)) → (F1 a 2 = (if F b 5 = 0 then 1 else F b 5)) → (F1 a 4 = msk (F 121) (F (a + 1)) 1 (L.take k.toNat)) → (F1 a 5 = msk (F 121) (F (a + 1)) 0 (L.take k.toNat)) → fl_R xi_ms 144 fr lo 36 [(3, .int (Int32.ofInt k)), (0, .ref a), (1, .ref b), (2, .ref 120)] [] (fl_H sh_T G F1 ++ X) (pq_144 G F X a b m L) := by
      intro n8_
      induction n8_ using Nat.strongRecOn with
      | ind n8_ ih10_ =>
      intro k F1 hn11_ hg_F1 hf_F1 hk hc hkL hc2 hg4 hg5
      have g12_ : fs [(a, a, 2, 2), (a, a, 4, 5), (a, a, 7, 7), (a + 4, a + 4, 0, 100000)] F F1 := fs_tr g7_ hf_F1 (by simp [fs_le]; try omega)
      refine ga_iload_n (z := k) hm_144 rfl rfl ?_
      refine ga_aload_n (v := .ref b) hm_144 rfl rfl rfl ?_
      have e13_ : F4_ b 4 = F b 4 := by rw [q5_]; exact (fl_u_ne (by first | exact nc_ rfl | decide | omega)).trans ((fl_u_ne (by first | exact nc_ rfl | decide | omega)).trans ((fl_u_ne (by first | exact nc_ rfl | decide | omega)).trans (fl_u_ne (by first | exact nc_ rfl | decide | omega))))
      have e14_ : F1 b 4 = F b 4 := (hf_F1 b 4 (by first | exact fs_c rfl | exact (fs_n (by omega) (fs_n (by omega) (fs_n (by omega) (fs_n (by omega) rfl)))))).trans (e13_)
      have b15_ : 0 ≤ F b 4 ∧ F b 4 ≤ (4 : Int) := gi_g hgi h_b.2.1.1
      refine ga_geti (z := F b 4) hm_144 rfl h_b.1.1 rfl (e14_) ?_
      refine fl_icmp_ge (a := k) (b := F b 4) hm_144 rfl ⟨by omega, by omega⟩ ⟨by omega, by omega⟩ (fun h16_ => ?_) (fun h17_ => ?_)
      ·
        refine gr_v hm_144 rfl rfl ?_
        have b18_ : 0 ≤ F1 a 2 ∧ F1 a 2 ≤ 999 := gi_g hg_F1 h_a.2.1.2.2.1
        have b19_ : -9223372036854775808 ≤ F1 a 4 ∧ F1 a 4 ≤ 9223372036854775807 := gi_g hg_F1 h_a.2.1.2.2.2.1
        have b20_ : -9223372036854775808 ≤ F1 a 5 ∧ F1 a 5 ≤ 9223372036854775807 := gi_g hg_F1 h_a.2.1.2.2.2.2.1
        exact ⟨F1, rfl, hg_F1, g12_, (hc2), (by rw [show L.take k.toNat = L from List.take_of_length_le (by omega)] at hg4; exact hg4), (by rw [show L.take k.toNat = L from List.take_of_length_le (by omega)] at hg5; exact hg5)⟩
      refine ga_aload_n (v := .ref 120) hm_144 rfl rfl rfl ?_
      refine ga_aload_n (v := .ref b) hm_144 rfl rfl rfl ?_
      obtain ⟨x_, hx_⟩ := gtk (L := L) (k := k.toNat) (by omega)
      have hxc_ := hcr.2 k.toNat x_ hx_
      have hxn_ : 0 ≤ F (b + 1) k.toNat := (show 0 ≤ F (b + 1) k.toNat ∧ F (b + 1) k.toNat ≤ 5 from gi_g hgi (gb_a h_b.2.1.2.2.1)).1
      refine ga_iload_n (z := k) hm_144 rfl rfl ?_
      refine ga_aload_n (v := .ref a) hm_144 rfl rfl rfl ?_
      refine ga_getr (b := a + 1) hm_144 rfl h_a.1.1 rfl ?_
      refine gVi (nY := 6) (F := 1) (L := 22) (As := [.ref b, .int (Int32.ofInt k), .ref (a + 1)]) (b := 120) (rest := []) hm_144 rfl hm_102 rfl rfl (fl_ob sc_120) rfl rfl rfl rfl rfl (by omega) (by omega) (mc_102 hG F1 X hg_F1 (b) (4) (a + 1) (3) (2) (0) (k) (m) (x_) h_b h_a.1.2.1 (by omega) ((cw_fs (by rw [q5_]; exact (cw_u (cw_u (cw_u (cw_u hw (by omega)) (by omega)) (by omega)) (by omega))) hf_F1 (by first | exact fs_rg rfl | exact fun r j hj => (fs_n (by omega) (fs_n (by omega) (fs_n (by omega) (fs_n (by omega) rfl))))))) (by omega) (fun j hj => by rw [(Eq.trans (a := F1 (a + 1) j) (b := F4_ (a + 1) j) (hf_F1 (a + 1) j (by first | exact fs_c rfl | exact (fs_n (by omega) (fs_n (by omega) (fs_n (by omega) (fs_n (by omega) rfl)))))) (show F4_ (a + 1) j = F (a + 1) j from (by rw [q5_]; exact (fl_u_ne (by first | exact nc_ rfl | decide | omega)).trans ((fl_u_ne (by first | exact nc_ rfl | decide | omega)).trans ((fl_u_ne (by first | exact nc_ rfl | decide | omega)).trans ((fl_u_ne (by first | exact nc_ rfl | decide | omega))))))))]; exact ho j hj) (⟨by omega, by omega⟩) ((show 0 ≤ F1 (b + 1) k.toNat ∧ F1 (b + 1) k.toNat ≤ 5 from gi_g hg_F1 (gb_a h_b.2.1.2.2.1)).1) (⟨Eq.trans ((Eq.trans (a := F1 (b + 1) k.toNat) (b := F4_ (b + 1) k.toNat) (hf_F1 (b + 1) k.toNat (by first | exact fs_c rfl | exact (fs_n (by omega) (fs_n (by omega) (fs_n (by omega) (fs_n (by omega) rfl)))))) (show F4_ (b + 1) k.toNat = F (b + 1) k.toNat from (by rw [q5_]; exact (fl_u_ne (by first | exact nc_ rfl | decide | omega)).trans ((fl_u_ne (by first | exact nc_ rfl | decide | omega)).trans ((fl_u_ne (by first | exact nc_ rfl | decide | omega)).trans ((fl_u_ne (by first | exact nc_ rfl | decide | omega))))))))) hxc_.1, Eq.trans ((Eq.trans (a := F1 (b + 3) k.toNat) (b := F4_ (b + 3) k.toNat) (hf_F1 (b + 3) k.toNat (by first | exact fs_c rfl | exact (fs_n (by omega) (fs_n (by omega) (fs_n (by omega) (fs_n (by omega) rfl)))))) (show F4_ (b + 3) k.toNat = F (b + 3) k.toNat from (by rw [q5_]; exact (fl_u_ne (by first | exact nc_ rfl | decide | omega)).trans ((fl_u_ne (by first | exact nc_ rfl | decide | omega)).trans ((fl_u_ne (by first | exact nc_ rfl | decide | omega)).trans ((fl_u_ne (by first | exact nc_ rfl | decide | omega))))))))) hxc_.2.2.1, Eq.trans ((Eq.trans (a := F1 (b + 4) k.toNat) (b := F4_ (b + 4) k.toNat) (hf_F1 (b + 4) k.toNat (by first | exact fs_c rfl | exact (fs_n (by omega) (fs_n (by omega) (fs_n (by omega) (fs_n (by omega) rfl)))))) (show F4_ (b + 4) k.toNat = F (b + 4) k.toNat from (by rw [q5_]; exact (fl_u_ne (by first | exact nc_ rfl | decide | omega)).trans ((fl_u_ne (by first | exact nc_ rfl | decide | omega)).trans ((fl_u_ne (by first | exact nc_ rfl | decide | omega)).trans ((fl_u_ne (by first | exact nc_ rfl | decide | omega))))))))) hxc_.2.2.2⟩)) (fun _ _ h => False.elim h) ?_
      rintro z21_ A1_ ⟨hA_, c22_, c23_⟩
      subst hA_
      refine ga_istore (lv2 := [(4, .int (Int32.ofInt z21_)), (3, .int (Int32.ofInt k)), (0, .ref a), (1, .ref b), (2, .ref 120)]) hm_144 rfl (Nat.le_of_ble_eq_true rfl) rfl ?_
      refine ga_aload_n (v := .ref b) hm_144 rfl rfl rfl ?_
      refine ga_getr (b := b + 2) hm_144 rfl h_b.1.1 rfl ?_
      refine ga_iload_n (z := k) hm_144 rfl rfl ?_
      have e24_ : F4_ (b + 2) k.toNat = F (b + 2) k.toNat := by rw [q5_]; exact (fl_u_ne (by first | exact nc_ rfl | decide | omega)).trans ((fl_u_ne (by first | exact nc_ rfl | decide | omega)).trans ((fl_u_ne (by first | exact nc_ rfl | decide | omega)).trans (fl_u_ne (by first | exact nc_ rfl | decide | omega))))
      have e25_ : F1 (b + 2) k.toNat = F (b + 2) k.toNat := (hf_F1 (b + 2) k.toNat (by first | exact fs_c rfl | exact (fs_n (by omega) (fs_n (by omega) (fs_n (by omega) (fs_n (by omega) rfl)))))).trans (e24_)
      have b26_ : 0 ≤ F (b + 2) k.toNat ∧ F (b + 2) k.toNat ≤ 1 := gi_g hgi (gb_a h_b.2.1.2.2.2.1)
      refine ga_zald (z := k) (w := F (b + 2) k.toNat) hm_144 rfl h_b.1.2.2.1 (by omega) (by omega) (by omega) (e25_) ?_
      refine fl_if_eq (a := F (b + 2) k.toNat) hm_144 rfl ⟨by omega, by omega⟩ (fun h27_ => ?_) (fun h28_ => ?_)
      ·
        refine ga_aload_n (v := .ref a) hm_144 rfl rfl rfl ?_
        refine ga_dup hm_144 rfl rfl ?_
        have b29_ : -9223372036854775808 ≤ F1 a 5 ∧ F1 a 5 ≤ 9223372036854775807 := gi_g hg_F1 h_a.2.1.2.2.2.2.1
        refine ga_getl (z := F1 a 5) hm_144 rfl h_a.1.1 rfl (rfl) ?_
        refine ga_lconst (z := 1) hm_144 rfl rfl ?_
        refine ga_iload (z := z21_) hm_144 rfl rfl ?_
        refine ga_lx (z := (lsl 1 z21_)) hm_144 rfl rfl rfl (lsl_e _ _) (fun ⟨h30_, h31_⟩ => ?_)
        refine ga_lx (z := (lorr (F1 a 5) ((lsl 1 z21_)))) hm_144 rfl rfl rfl (lop_e 1 _ _) (fun ⟨h32_, h33_⟩ => ?_)
        refine ga_putl hm_144 rfl h_a.1.1 rfl rfl ?_
        refine ga_aload_n (v := .ref a) hm_144 rfl rfl rfl ?_
        refine ga_getr (b := a + 4) hm_144 rfl h_a.1.1 rfl ?_
        refine ga_aload_n (v := .ref a) hm_144 rfl rfl rfl ?_
        have b34_ : 0 ≤ F1 a 7 ∧ F1 a 7 ≤ 4 := gi_g hg_F1 h_a.2.1.2.2.2.2.2.1
        refine ga_geti (z := F1 a 7) hm_144 rfl h_a.1.1 rfl (fl_u_ne (by first | exact nc_ rfl | decide | omega)) ?_
        refine ga_iload (z := z21_) hm_144 rfl rfl ?_
        refine fl_iast (z := F1 a 7) (v := z21_) hm_144 rfl h_a.1.2.2.2.2 (by omega) (by omega) (by omega) ?_
        refine ga_aload_n (v := .ref a) hm_144 rfl rfl rfl ?_
        refine ga_dup hm_144 rfl rfl ?_
        refine ga_geti (z := F1 a 7) hm_144 rfl h_a.1.1 rfl ((fl_u_ne (by first | exact nc_ rfl | decide | omega)).trans (fl_u_ne (by first | exact nc_ rfl | decide | omega))) ?_
        refine fl_iconst hm_144 rfl ?_
        refine ga_iadd (a := F1 a 7) (b := 1) (c := F1 a 7 + 1) hm_144 rfl (by omega) ?_
        refine ga_puti (z := F1 a 7 + 1) hm_144 rfl h_a.1.1 rfl rfl ?_
        refine ga_inc (a := k) (c := k + 1) (lv2 := [(3, .int (Int32.ofInt (k + 1))), (4, .int (Int32.ofInt z21_)), (0, .ref a), (1, .ref b), (2, .ref 120)]) hm_144 rfl rfl (Nat.le_of_ble_eq_true rfl) rfl rfl ?_
        refine fl_goto hm_144 rfl ?_
        obtain ⟨F35_, q36_⟩ : ∃ Fq_, Fq_ = (fl_u (fl_u (fl_u F1 a 5 ((lorr (F1 a 5) ((lsl 1 z21_))))) (a + 4) (F1 a 7).toNat z21_) a 7 (F1 a 7 + 1)) := ⟨_, rfl⟩
        rw [← q36_]
        have g37_ : gi F35_ := by rw [q36_]; exact gi_u (gi_u (gi_u (hg_F1) h_a.2.1.2.2.2.2.1 (by omega) (by omega)) (gb_a h_a.2.1.2.2.2.2.2.2.2.2.2.2.2) (by omega) (by omega)) h_a.2.1.2.2.2.2.2.1 (by omega) (by omega)
        have g38_ : fs [(a, a, 2, 2), (a, a, 4, 5), (a, a, 7, 7), (a + 4, a + 4, 0, 100000)] F F35_ := by rw [q36_]; exact fs_u (fs_u (fs_u (g12_) (fs_z (fs_y (by omega)))) (fs_z (fs_z (fs_z (fs_y (by omega)))))) (fs_z (fs_z (fs_y (by omega))))
        have e39_ : F35_ a 7 = F1 a 7 + 1 := by rw [q36_]; exact fl_u_eq
        have e40_ : F35_ a 2 = F1 a 2 := by rw [q36_]; exact (fl_u_ne (by first | exact nc_ rfl | decide | omega)).trans ((fl_u_ne (by first | exact nc_ rfl | decide | omega)).trans (fl_u_ne (by first | exact nc_ rfl | decide | omega)))
        have b41_ : 0 ≤ F1 a 2 ∧ F1 a 2 ≤ 999 := gi_g hg_F1 h_a.2.1.2.2.1
        have e42_ : F35_ a 4 = F1 a 4 := by rw [q36_]; exact (fl_u_ne (by first | exact nc_ rfl | decide | omega)).trans ((fl_u_ne (by first | exact nc_ rfl | decide | omega)).trans (fl_u_ne (by first | exact nc_ rfl | decide | omega)))
        have b43_ : -9223372036854775808 ≤ F1 a 4 ∧ F1 a 4 ≤ 9223372036854775807 := gi_g hg_F1 h_a.2.1.2.2.2.1
        have e44_ : F35_ a 5 = (lorr (F1 a 5) ((lsl 1 z21_))) := by rw [q36_]; exact (fl_u_ne (by first | exact nc_ rfl | decide | omega)).trans ((fl_u_ne (by first | exact nc_ rfl | decide | omega)).trans (fl_u_eq))
        have e45_ : F35_ b 4 = F b 4 := by rw [q36_]; exact (fl_u_ne (by first | exact nc_ rfl | decide | omega)).trans ((fl_u_ne (by first | exact nc_ rfl | decide | omega)).trans ((fl_u_ne (by first | exact nc_ rfl | decide | omega)).trans (e14_)))
        exact fl_R_sub (lv' := [(3, .int (Int32.ofInt (k + 1))), (0, .ref a), (1, .ref b), (2, .ref 120)]) rfl rfl (ih10_ _ (by omega) (k + 1) F35_ rfl g37_ (by rw [q36_]; exact fs_u (fs_u (fs_u (hf_F1) (fs_z (fs_y (by omega)))) (fs_z (fs_z (fs_z (fs_y (by omega)))))) (fs_z (fs_z (fs_y (by omega))))) (⟨by omega, by omega⟩) (by omega) (by omega) (Eq.trans (e40_) hc2) (by rw [show (k + 1).toNat = k.toNat + 1 by omega]; rw [msk_s hx_, mk1_n (Or.inr (by omega))]; exact Eq.trans (e42_) hg4) (by rw [show (k + 1).toNat = k.toNat + 1 by omega]; rw [msk_s hx_, mk1_y (by omega) (by omega)]; refine Eq.trans (e44_) ?_; rw [c23_, (show F1 121 = F 121 from funext (fun j => (Eq.trans (a := F1 121 j) (b := F4_ 121 j) (hf_F1 121 j (by first | exact fs_c rfl | exact (fs_n (by omega) (fs_n (by omega) (fs_n (by omega) (fs_n (by omega) rfl)))))) (show F4_ 121 j = F 121 j from (by rw [q5_]; exact (fl_u_ne (by first | exact nc_ rfl | decide | omega)).trans ((fl_u_ne (by first | exact nc_ rfl | decide | omega)).trans ((fl_u_ne (by first | exact nc_ rfl | decide | omega)).trans ((fl_u_ne (by first | exact nc_ rfl | decide | omega)))))))))), (show F1 (a + 1) = F (a + 1) from funext (fun j => (Eq.trans (a := F1 (a + 1) j) (b := F4_ (a + 1) j) (hf_F1 (a + 1) j (by first | exact fs_c rfl | exact (fs_n (by omega) (fs_n (by omega) (fs_n (by omega) (fs_n (by omega) rfl)))))) (show F4_ (a + 1) j = F (a + 1) j from (by rw [q5_]; exact (fl_u_ne (by first | exact nc_ rfl | decide | omega)).trans ((fl_u_ne (by first | exact nc_ rfl | decide | omega)).trans ((fl_u_ne (by first | exact nc_ rfl | decide | omega)).trans ((fl_u_ne (by first | exact nc_ rfl | decide | omega)))))))))), hg5]))
      refine ga_aload_n (v := .ref a) hm_144 rfl rfl rfl ?_
      refine ga_dup hm_144 rfl rfl ?_
      have b46_ : -9223372036854775808 ≤ F1 a 4 ∧ F1 a 4 ≤ 9223372036854775807 := gi_g hg_F1 h_a.2.1.2.2.2.1
      refine ga_getl (z := F1 a 4) hm_144 rfl h_a.1.1 rfl (rfl) ?_
      refine ga_lconst (z := 1) hm_144 rfl rfl ?_
      refine ga_iload (z := z21_) hm_144 rfl rfl ?_
      refine ga_lx (z := (lsl 1 z21_)) hm_144 rfl rfl rfl (lsl_e _ _) (fun ⟨h47_, h48_⟩ => ?_)
      refine ga_lx (z := (lorr (F1 a 4) ((lsl 1 z21_)))) hm_144 rfl rfl rfl (lop_e 1 _ _) (fun ⟨h49_, h50_⟩ => ?_)
      refine ga_putl hm_144 rfl h_a.1.1 rfl rfl ?_
      refine fl_goto hm_144 rfl ?_
      refine ga_inc (a := k) (c := k + 1) (lv2 := [(3, .int (Int32.ofInt (k + 1))), (4, .int (Int32.ofInt z21_)), (0, .ref a), (1, .ref b), (2, .ref 120)]) hm_144 rfl rfl (Nat.le_of_ble_eq_true rfl) rfl rfl ?_
      refine fl_goto hm_144 rfl ?_
      obtain ⟨F51_, q52_⟩ : ∃ Fq_, Fq_ = (fl_u F1 a 4 ((lorr (F1 a 4) ((lsl 1 z21_))))) := ⟨_, rfl⟩
      rw [← q52_]
      have g53_ : gi F51_ := by rw [q52_]; exact gi_u (hg_F1) h_a.2.1.2.2.2.1 (by omega) (by omega)
      have g54_ : fs [(a, a, 2, 2), (a, a, 4, 5), (a, a, 7, 7), (a + 4, a + 4, 0, 100000)] F F51_ := by rw [q52_]; exact fs_u (g12_) (fs_z (fs_y (by omega)))
      have e55_ : F51_ a 7 = F1 a 7 := by rw [q52_]; exact fl_u_ne (by first | exact nc_ rfl | decide | omega)
      have b56_ : 0 ≤ F1 a 7 ∧ F1 a 7 ≤ 4 := gi_g hg_F1 h_a.2.1.2.2.2.2.2.1
      have e57_ : F51_ a 2 = F1 a 2 := by rw [q52_]; exact fl_u_ne (by first | exact nc_ rfl | decide | omega)
      have b58_ : 0 ≤ F1 a 2 ∧ F1 a 2 ≤ 999 := gi_g hg_F1 h_a.2.1.2.2.1
      have e59_ : F51_ a 4 = (lorr (F1 a 4) ((lsl 1 z21_))) := by rw [q52_]; exact fl_u_eq
      have e60_ : F51_ a 5 = F1 a 5 := by rw [q52_]; exact fl_u_ne (by first | exact nc_ rfl | decide | omega)
      have b61_ : -9223372036854775808 ≤ F1 a 5 ∧ F1 a 5 ≤ 9223372036854775807 := gi_g hg_F1 h_a.2.1.2.2.2.2.1
      have e62_ : F51_ b 4 = F b 4 := by rw [q52_]; exact (fl_u_ne (by first | exact nc_ rfl | decide | omega)).trans (e14_)
      exact fl_R_sub (lv' := [(3, .int (Int32.ofInt (k + 1))), (0, .ref a), (1, .ref b), (2, .ref 120)]) rfl rfl (ih10_ _ (by omega) (k + 1) F51_ rfl g53_ (by rw [q52_]; exact fs_u (hf_F1) (fs_z (fs_y (by omega)))) (⟨by omega, by omega⟩) (by omega) (by omega) (Eq.trans (e57_) hc2) (by rw [show (k + 1).toNat = k.toNat + 1 by omega]; rw [msk_s hx_, mk1_y (by omega) (by omega)]; refine Eq.trans (e59_) ?_; rw [c23_, (show F1 121 = F 121 from funext (fun j => (Eq.trans (a := F1 121 j) (b := F4_ 121 j) (hf_F1 121 j (by first | exact fs_c rfl | exact (fs_n (by omega) (fs_n (by omega) (fs_n (by omega) (fs_n (by omega) rfl)))))) (show F4_ 121 j = F 121 j from (by rw [q5_]; exact (fl_u_ne (by first | exact nc_ rfl | decide | omega)).trans ((fl_u_ne (by first | exact nc_ rfl | decide | omega)).trans ((fl_u_ne (by first | exact nc_ rfl | decide | omega)).trans ((fl_u_ne (by first | exact nc_ rfl | decide | omega)))))))))), (show F1 (a + 1) = F (a + 1) from funext (fun j => (Eq.trans (a := F1 (a + 1) j) (b := F4_ (a + 1) j) (hf_F1 (a + 1) j (by first | exact fs_c rfl | exact (fs_n (by omega) (fs_n (by omega) (fs_n (by omega) (fs_n (by omega) rfl)))))) (show F4_ (a + 1) j = F (a + 1) j from (by rw [q5_]; exact (fl_u_ne (by first | exact nc_ rfl | decide | omega)).trans ((fl_u_ne (by first | exact nc_ rfl | decide | omega)).trans ((fl_u_ne (by first | exact nc_ rfl | decide | omega)).trans ((fl_u_ne (by first | exact nc_ rfl | decide | omega)))))))))), hg4]) (by rw [show (k + 1).toNat = k.toNat + 1 by omega]; rw [msk_s hx_, mk1_n (Or.inr (by omega))]; exact Eq.trans (e60_) hg5))
    have e63_ : F4_ a 7 = 0 := by rw [q5_]; exact fl_u_eq
    have e64_ : F4_ a 2 = F b 5 := by rw [q5_]; exact (fl_u_ne (by first | exact nc_ rfl | decide | omega)).trans ((fl_u_ne (by first | exact nc_ rfl | decide | omega)).trans ((fl_u_ne (by first | exact nc_ rfl | decide | omega)).trans (fl_u_eq)))
    have e65_ : F4_ a 4 = 0 := by rw [q5_]; exact (fl_u_ne (by first | exact nc_ rfl | decide | omega)).trans ((fl_u_ne (by first | exact nc_ rfl | decide | omega)).trans (fl_u_eq))
    have e66_ : F4_ a 5 = 0 := by rw [q5_]; exact (fl_u_ne (by first | exact nc_ rfl | decide | omega)).trans (fl_u_eq)
    have e67_ : F4_ b 4 = F b 4 := by rw [q5_]; exact (fl_u_ne (by first | exact nc_ rfl | decide | omega)).trans ((fl_u_ne (by first | exact nc_ rfl | decide | omega)).trans ((fl_u_ne (by first | exact nc_ rfl | decide | omega)).trans (fl_u_ne (by first | exact nc_ rfl | decide | omega))))
    have b68_ : 0 ≤ F b 4 ∧ F b 4 ≤ (4 : Int) := gi_g hgi h_b.2.1.1
    exact L9_ _ (0) F4_ rfl g6_ fs_refl (⟨by omega, by omega⟩) (by omega) (by omega) (by rw [if_neg (by omega)]; exact e64_) (Eq.trans (e65_) rfl) (Eq.trans (e66_) rfl)
  refine fl_iconst hm_144 rfl ?_
  refine fl_goto hm_144 rfl ?_
  refine ga_puti (z := 1) hm_144 rfl h_a.1.1 rfl rfl ?_
  refine ga_aload_n (v := .ref a) hm_144 rfl rfl rfl ?_
  refine ga_lconst (z := 0) hm_144 rfl rfl ?_
  refine ga_putl hm_144 rfl h_a.1.1 rfl rfl ?_
  refine ga_aload_n (v := .ref a) hm_144 rfl rfl rfl ?_
  refine ga_lconst (z := 0) hm_144 rfl rfl ?_
  refine ga_putl hm_144 rfl h_a.1.1 rfl rfl ?_
  refine ga_aload_n (v := .ref a) hm_144 rfl rfl rfl ?_
  refine fl_iconst hm_144 rfl ?_
  refine ga_puti (z := 0) hm_144 rfl h_a.1.1 rfl rfl ?_
  refine fl_iconst hm_144 rfl ?_
  refine ga_istore_n (lv2 := [(3, .int (Int32.ofInt 0)), (0, .ref a), (1, .ref b), (2, .ref 120)]) hm_144 rfl (Nat.le_of_ble_eq_true rfl) rfl ?_
  obtain ⟨F69_, q70_⟩ : ∃ Fq_, Fq_ = (fl_u (fl_u (fl_u (fl_u F a 2 1) a 4 0) a 5 0) a 7 0) := ⟨_, rfl⟩
  rw [← q70_]
  have g71_ : gi F69_ := by rw [q70_]; exact gi_u (gi_u (gi_u (gi_u (hgi) h_a.2.1.2.2.1 (by omega) (by omega)) h_a.2.1.2.2.2.1 (by omega) (by omega)) h_a.2.1.2.2.2.2.1 (by omega) (by omega)) h_a.2.1.2.2.2.2.2.1 (by omega) (by omega)
  have g72_ : fs [(a, a, 2, 2), (a, a, 4, 5), (a, a, 7, 7), (a + 4, a + 4, 0, 100000)] F F69_ := by rw [q70_]; exact fs_u (fs_u (fs_u (fs_u (fs_refl) (fs_y (by omega))) (fs_z (fs_y (by omega)))) (fs_z (fs_y (by omega)))) (fs_z (fs_z (fs_y (by omega))))
  have L74_ : ∀ (n73_ : Nat) (k : Int) (F1 : fl_N), (F1 b 4 - k : Int).toNat = n73_ → (gi F1) → (fs [(a, a, 2, 2), (a, a, 4, 5), (a, a, 7, 7), (a + 4, a + 4, 0, 100000)] F69_ F1) → (0 ≤ k ∧ k ≤ 4) → (F1 a 7 ≤ k) → (k ≤ (L.length : Int)) → (F1 a 2 = (if F b 5 = 0 then 1 else F b 5)) → (F1 a 4 = msk (F 121) (F (a + 1)) 1 (L.take k.toNat)) → (F1 a 5 = msk (F 121) (F (a + 1)) 0 (L.take k.toNat)) → fl_R xi_ms 144 fr lo 36 [(3, .int (Int32.ofInt k)), (0, .ref a), (1, .ref b), (2, .ref 120)] [] (fl_H sh_T G F1 ++ X) (pq_144 G F X a b m L) := by
    intro n73_
    induction n73_ using Nat.strongRecOn with
    | ind n73_ ih75_ =>
    intro k F1 hn76_ hg_F1 hf_F1 hk hc hkL hc2 hg4 hg5
    have g77_ : fs [(a, a, 2, 2), (a, a, 4, 5), (a, a, 7, 7), (a + 4, a + 4, 0, 100000)] F F1 := fs_tr g72_ hf_F1 (by simp [fs_le]; try omega)
    refine ga_iload_n (z := k) hm_144 rfl rfl ?_
    refine ga_aload_n (v := .ref b) hm_144 rfl rfl rfl ?_
    have e78_ : F69_ b 4 = F b 4 := by rw [q70_]; exact (fl_u_ne (by first | exact nc_ rfl | decide | omega)).trans ((fl_u_ne (by first | exact nc_ rfl | decide | omega)).trans ((fl_u_ne (by first | exact nc_ rfl | decide | omega)).trans (fl_u_ne (by first | exact nc_ rfl | decide | omega))))
    have e79_ : F1 b 4 = F b 4 := (hf_F1 b 4 (by first | exact fs_c rfl | exact (fs_n (by omega) (fs_n (by omega) (fs_n (by omega) (fs_n (by omega) rfl)))))).trans (e78_)
    have b80_ : 0 ≤ F b 4 ∧ F b 4 ≤ (4 : Int) := gi_g hgi h_b.2.1.1
    refine ga_geti (z := F b 4) hm_144 rfl h_b.1.1 rfl (e79_) ?_
    refine fl_icmp_ge (a := k) (b := F b 4) hm_144 rfl ⟨by omega, by omega⟩ ⟨by omega, by omega⟩ (fun h81_ => ?_) (fun h82_ => ?_)
    ·
      refine gr_v hm_144 rfl rfl ?_
      have b83_ : 0 ≤ F1 a 2 ∧ F1 a 2 ≤ 999 := gi_g hg_F1 h_a.2.1.2.2.1
      have b84_ : -9223372036854775808 ≤ F1 a 4 ∧ F1 a 4 ≤ 9223372036854775807 := gi_g hg_F1 h_a.2.1.2.2.2.1
      have b85_ : -9223372036854775808 ≤ F1 a 5 ∧ F1 a 5 ≤ 9223372036854775807 := gi_g hg_F1 h_a.2.1.2.2.2.2.1
      exact ⟨F1, rfl, hg_F1, g77_, (hc2), (by rw [show L.take k.toNat = L from List.take_of_length_le (by omega)] at hg4; exact hg4), (by rw [show L.take k.toNat = L from List.take_of_length_le (by omega)] at hg5; exact hg5)⟩
    refine ga_aload_n (v := .ref 120) hm_144 rfl rfl rfl ?_
    refine ga_aload_n (v := .ref b) hm_144 rfl rfl rfl ?_
    obtain ⟨x_, hx_⟩ := gtk (L := L) (k := k.toNat) (by omega)
    have hxc_ := hcr.2 k.toNat x_ hx_
    have hxn_ : 0 ≤ F (b + 1) k.toNat := (show 0 ≤ F (b + 1) k.toNat ∧ F (b + 1) k.toNat ≤ 5 from gi_g hgi (gb_a h_b.2.1.2.2.1)).1
    refine ga_iload_n (z := k) hm_144 rfl rfl ?_
    refine ga_aload_n (v := .ref a) hm_144 rfl rfl rfl ?_
    refine ga_getr (b := a + 1) hm_144 rfl h_a.1.1 rfl ?_
    refine gVi (nY := 6) (F := 1) (L := 22) (As := [.ref b, .int (Int32.ofInt k), .ref (a + 1)]) (b := 120) (rest := []) hm_144 rfl hm_102 rfl rfl (fl_ob sc_120) rfl rfl rfl rfl rfl (by omega) (by omega) (mc_102 hG F1 X hg_F1 (b) (4) (a + 1) (3) (2) (0) (k) (m) (x_) h_b h_a.1.2.1 (by omega) ((cw_fs (by rw [q70_]; exact (cw_u (cw_u (cw_u (cw_u hw (by omega)) (by omega)) (by omega)) (by omega))) hf_F1 (by first | exact fs_rg rfl | exact fun r j hj => (fs_n (by omega) (fs_n (by omega) (fs_n (by omega) (fs_n (by omega) rfl))))))) (by omega) (fun j hj => by rw [(Eq.trans (a := F1 (a + 1) j) (b := F69_ (a + 1) j) (hf_F1 (a + 1) j (by first | exact fs_c rfl | exact (fs_n (by omega) (fs_n (by omega) (fs_n (by omega) (fs_n (by omega) rfl)))))) (show F69_ (a + 1) j = F (a + 1) j from (by rw [q70_]; exact (fl_u_ne (by first | exact nc_ rfl | decide | omega)).trans ((fl_u_ne (by first | exact nc_ rfl | decide | omega)).trans ((fl_u_ne (by first | exact nc_ rfl | decide | omega)).trans ((fl_u_ne (by first | exact nc_ rfl | decide | omega))))))))]; exact ho j hj) (⟨by omega, by omega⟩) ((show 0 ≤ F1 (b + 1) k.toNat ∧ F1 (b + 1) k.toNat ≤ 5 from gi_g hg_F1 (gb_a h_b.2.1.2.2.1)).1) (⟨Eq.trans ((Eq.trans (a := F1 (b + 1) k.toNat) (b := F69_ (b + 1) k.toNat) (hf_F1 (b + 1) k.toNat (by first | exact fs_c rfl | exact (fs_n (by omega) (fs_n (by omega) (fs_n (by omega) (fs_n (by omega) rfl)))))) (show F69_ (b + 1) k.toNat = F (b + 1) k.toNat from (by rw [q70_]; exact (fl_u_ne (by first | exact nc_ rfl | decide | omega)).trans ((fl_u_ne (by first | exact nc_ rfl | decide | omega)).trans ((fl_u_ne (by first | exact nc_ rfl | decide | omega)).trans ((fl_u_ne (by first | exact nc_ rfl | decide | omega))))))))) hxc_.1, Eq.trans ((Eq.trans (a := F1 (b + 3) k.toNat) (b := F69_ (b + 3) k.toNat) (hf_F1 (b + 3) k.toNat (by first | exact fs_c rfl | exact (fs_n (by omega) (fs_n (by omega) (fs_n (by omega) (fs_n (by omega) rfl)))))) (show F69_ (b + 3) k.toNat = F (b + 3) k.toNat from (by rw [q70_]; exact (fl_u_ne (by first | exact nc_ rfl | decide | omega)).trans ((fl_u_ne (by first | exact nc_ rfl | decide | omega)).trans ((fl_u_ne (by first | exact nc_ rfl | decide | omega)).trans ((fl_u_ne (by first | exact nc_ rfl | decide | omega))))))))) hxc_.2.2.1, Eq.trans ((Eq.trans (a := F1 (b + 4) k.toNat) (b := F69_ (b + 4) k.toNat) (hf_F1 (b + 4) k.toNat (by first | exact fs_c rfl | exact (fs_n (by omega) (fs_n (by omega) (fs_n (by omega) (fs_n (by omega) rfl)))))) (show F69_ (b + 4) k.toNat = F (b + 4) k.toNat from (by rw [q70_]; exact (fl_u_ne (by first | exact nc_ rfl | decide | omega)).trans ((fl_u_ne (by first | exact nc_ rfl | decide | omega)).trans ((fl_u_ne (by first | exact nc_ rfl | decide | omega)).trans ((fl_u_ne (by first | exact nc_ rfl | decide | omega))))))))) hxc_.2.2.2⟩)) (fun _ _ h => False.elim h) ?_
    rintro z86_ A1_ ⟨hA_, c87_, c88_⟩
    subst hA_
    refine ga_istore (lv2 := [(4, .int (Int32.ofInt z86_)), (3, .int (Int32.ofInt k)), (0, .ref a), (1, .ref b), (2, .ref 120)]) hm_144 rfl (Nat.le_of_ble_eq_true rfl) rfl ?_
    refine ga_aload_n (v := .ref b) hm_144 rfl rfl rfl ?_
    refine ga_getr (b := b + 2) hm_144 rfl h_b.1.1 rfl ?_
    refine ga_iload_n (z := k) hm_144 rfl rfl ?_
    have e89_ : F69_ (b + 2) k.toNat = F (b + 2) k.toNat := by rw [q70_]; exact (fl_u_ne (by first | exact nc_ rfl | decide | omega)).trans ((fl_u_ne (by first | exact nc_ rfl | decide | omega)).trans ((fl_u_ne (by first | exact nc_ rfl | decide | omega)).trans (fl_u_ne (by first | exact nc_ rfl | decide | omega))))
    have e90_ : F1 (b + 2) k.toNat = F (b + 2) k.toNat := (hf_F1 (b + 2) k.toNat (by first | exact fs_c rfl | exact (fs_n (by omega) (fs_n (by omega) (fs_n (by omega) (fs_n (by omega) rfl)))))).trans (e89_)
    have b91_ : 0 ≤ F (b + 2) k.toNat ∧ F (b + 2) k.toNat ≤ 1 := gi_g hgi (gb_a h_b.2.1.2.2.2.1)
    refine ga_zald (z := k) (w := F (b + 2) k.toNat) hm_144 rfl h_b.1.2.2.1 (by omega) (by omega) (by omega) (e90_) ?_
    refine fl_if_eq (a := F (b + 2) k.toNat) hm_144 rfl ⟨by omega, by omega⟩ (fun h92_ => ?_) (fun h93_ => ?_)
    ·
      refine ga_aload_n (v := .ref a) hm_144 rfl rfl rfl ?_
      refine ga_dup hm_144 rfl rfl ?_
      have b94_ : -9223372036854775808 ≤ F1 a 5 ∧ F1 a 5 ≤ 9223372036854775807 := gi_g hg_F1 h_a.2.1.2.2.2.2.1
      refine ga_getl (z := F1 a 5) hm_144 rfl h_a.1.1 rfl (rfl) ?_
      refine ga_lconst (z := 1) hm_144 rfl rfl ?_
      refine ga_iload (z := z86_) hm_144 rfl rfl ?_
      refine ga_lx (z := (lsl 1 z86_)) hm_144 rfl rfl rfl (lsl_e _ _) (fun ⟨h95_, h96_⟩ => ?_)
      refine ga_lx (z := (lorr (F1 a 5) ((lsl 1 z86_)))) hm_144 rfl rfl rfl (lop_e 1 _ _) (fun ⟨h97_, h98_⟩ => ?_)
      refine ga_putl hm_144 rfl h_a.1.1 rfl rfl ?_
      refine ga_aload_n (v := .ref a) hm_144 rfl rfl rfl ?_
      refine ga_getr (b := a + 4) hm_144 rfl h_a.1.1 rfl ?_
      refine ga_aload_n (v := .ref a) hm_144 rfl rfl rfl ?_
      have b99_ : 0 ≤ F1 a 7 ∧ F1 a 7 ≤ 4 := gi_g hg_F1 h_a.2.1.2.2.2.2.2.1
      refine ga_geti (z := F1 a 7) hm_144 rfl h_a.1.1 rfl (fl_u_ne (by first | exact nc_ rfl | decide | omega)) ?_
      refine ga_iload (z := z86_) hm_144 rfl rfl ?_
      refine fl_iast (z := F1 a 7) (v := z86_) hm_144 rfl h_a.1.2.2.2.2 (by omega) (by omega) (by omega) ?_
      refine ga_aload_n (v := .ref a) hm_144 rfl rfl rfl ?_
      refine ga_dup hm_144 rfl rfl ?_
      refine ga_geti (z := F1 a 7) hm_144 rfl h_a.1.1 rfl ((fl_u_ne (by first | exact nc_ rfl | decide | omega)).trans (fl_u_ne (by first | exact nc_ rfl | decide | omega))) ?_
      refine fl_iconst hm_144 rfl ?_
      refine ga_iadd (a := F1 a 7) (b := 1) (c := F1 a 7 + 1) hm_144 rfl (by omega) ?_
      refine ga_puti (z := F1 a 7 + 1) hm_144 rfl h_a.1.1 rfl rfl ?_
      refine ga_inc (a := k) (c := k + 1) (lv2 := [(3, .int (Int32.ofInt (k + 1))), (4, .int (Int32.ofInt z86_)), (0, .ref a), (1, .ref b), (2, .ref 120)]) hm_144 rfl rfl (Nat.le_of_ble_eq_true rfl) rfl rfl ?_
      refine fl_goto hm_144 rfl ?_
      obtain ⟨F100_, q101_⟩ : ∃ Fq_, Fq_ = (fl_u (fl_u (fl_u F1 a 5 ((lorr (F1 a 5) ((lsl 1 z86_))))) (a + 4) (F1 a 7).toNat z86_) a 7 (F1 a 7 + 1)) := ⟨_, rfl⟩
      rw [← q101_]
      have g102_ : gi F100_ := by rw [q101_]; exact gi_u (gi_u (gi_u (hg_F1) h_a.2.1.2.2.2.2.1 (by omega) (by omega)) (gb_a h_a.2.1.2.2.2.2.2.2.2.2.2.2.2) (by omega) (by omega)) h_a.2.1.2.2.2.2.2.1 (by omega) (by omega)
      have g103_ : fs [(a, a, 2, 2), (a, a, 4, 5), (a, a, 7, 7), (a + 4, a + 4, 0, 100000)] F F100_ := by rw [q101_]; exact fs_u (fs_u (fs_u (g77_) (fs_z (fs_y (by omega)))) (fs_z (fs_z (fs_z (fs_y (by omega)))))) (fs_z (fs_z (fs_y (by omega))))
      have e104_ : F100_ a 7 = F1 a 7 + 1 := by rw [q101_]; exact fl_u_eq
      have e105_ : F100_ a 2 = F1 a 2 := by rw [q101_]; exact (fl_u_ne (by first | exact nc_ rfl | decide | omega)).trans ((fl_u_ne (by first | exact nc_ rfl | decide | omega)).trans (fl_u_ne (by first | exact nc_ rfl | decide | omega)))
      have b106_ : 0 ≤ F1 a 2 ∧ F1 a 2 ≤ 999 := gi_g hg_F1 h_a.2.1.2.2.1
      have e107_ : F100_ a 4 = F1 a 4 := by rw [q101_]; exact (fl_u_ne (by first | exact nc_ rfl | decide | omega)).trans ((fl_u_ne (by first | exact nc_ rfl | decide | omega)).trans (fl_u_ne (by first | exact nc_ rfl | decide | omega)))
      have b108_ : -9223372036854775808 ≤ F1 a 4 ∧ F1 a 4 ≤ 9223372036854775807 := gi_g hg_F1 h_a.2.1.2.2.2.1
      have e109_ : F100_ a 5 = (lorr (F1 a 5) ((lsl 1 z86_))) := by rw [q101_]; exact (fl_u_ne (by first | exact nc_ rfl | decide | omega)).trans ((fl_u_ne (by first | exact nc_ rfl | decide | omega)).trans (fl_u_eq))
      have e110_ : F100_ b 4 = F b 4 := by rw [q101_]; exact (fl_u_ne (by first | exact nc_ rfl | decide | omega)).trans ((fl_u_ne (by first | exact nc_ rfl | decide | omega)).trans ((fl_u_ne (by first | exact nc_ rfl | decide | omega)).trans (e79_)))
      exact fl_R_sub (lv' := [(3, .int (Int32.ofInt (k + 1))), (0, .ref a), (1, .ref b), (2, .ref 120)]) rfl rfl (ih75_ _ (by omega) (k + 1) F100_ rfl g102_ (by rw [q101_]; exact fs_u (fs_u (fs_u (hf_F1) (fs_z (fs_y (by omega)))) (fs_z (fs_z (fs_z (fs_y (by omega)))))) (fs_z (fs_z (fs_y (by omega))))) (⟨by omega, by omega⟩) (by omega) (by omega) (Eq.trans (e105_) hc2) (by rw [show (k + 1).toNat = k.toNat + 1 by omega]; rw [msk_s hx_, mk1_n (Or.inr (by omega))]; exact Eq.trans (e107_) hg4) (by rw [show (k + 1).toNat = k.toNat + 1 by omega]; rw [msk_s hx_, mk1_y (by omega) (by omega)]; refine Eq.trans (e109_) ?_; rw [c88_, (show F1 121 = F 121 from funext (fun j => (Eq.trans (a := F1 121 j) (b := F69_ 121 j) (hf_F1 121 j (by first | exact fs_c rfl | exact (fs_n (by omega) (fs_n (by omega) (fs_n (by omega) (fs_n (by omega) rfl)))))) (show F69_ 121 j = F 121 j from (by rw [q70_]; exact (fl_u_ne (by first | exact nc_ rfl | decide | omega)).trans ((fl_u_ne (by first | exact nc_ rfl | decide | omega)).trans ((fl_u_ne (by first | exact nc_ rfl | decide | omega)).trans ((fl_u_ne (by first | exact nc_ rfl | decide | omega)))))))))), (show F1 (a + 1) = F (a + 1) from funext (fun j => (Eq.trans (a := F1 (a + 1) j) (b := F69_ (a + 1) j) (hf_F1 (a + 1) j (by first | exact fs_c rfl | exact (fs_n (by omega) (fs_n (by omega) (fs_n (by omega) (fs_n (by omega) rfl)))))) (show F69_ (a + 1) j = F (a + 1) j from (by rw [q70_]; exact (fl_u_ne (by first | exact nc_ rfl | decide | omega)).trans ((fl_u_ne (by first | exact nc_ rfl | decide | omega)).trans ((fl_u_ne (by first | exact nc_ rfl | decide | omega)).trans ((fl_u_ne (by first | exact nc_ rfl | decide | omega)))))))))), hg5]))
    refine ga_aload_n (v := .ref a) hm_144 rfl rfl rfl ?_
    refine ga_dup hm_144 rfl rfl ?_
    have b111_ : -9223372036854775808 ≤ F1 a 4 ∧ F1 a 4 ≤ 9223372036854775807 := gi_g hg_F1 h_a.2.1.2.2.2.1
    refine ga_getl (z := F1 a 4) hm_144 rfl h_a.1.1 rfl (rfl) ?_
    refine ga_lconst (z := 1) hm_144 rfl rfl ?_
    refine ga_iload (z := z86_) hm_144 rfl rfl ?_
    refine ga_lx (z := (lsl 1 z86_)) hm_144 rfl rfl rfl (lsl_e _ _) (fun ⟨h112_, h113_⟩ => ?_)
    refine ga_lx (z := (lorr (F1 a 4) ((lsl 1 z86_)))) hm_144 rfl rfl rfl (lop_e 1 _ _) (fun ⟨h114_, h115_⟩ => ?_)
    refine ga_putl hm_144 rfl h_a.1.1 rfl rfl ?_
    refine fl_goto hm_144 rfl ?_
    refine ga_inc (a := k) (c := k + 1) (lv2 := [(3, .int (Int32.ofInt (k + 1))), (4, .int (Int32.ofInt z86_)), (0, .ref a), (1, .ref b), (2, .ref 120)]) hm_144 rfl rfl (Nat.le_of_ble_eq_true rfl) rfl rfl ?_
    refine fl_goto hm_144 rfl ?_
    obtain ⟨F116_, q117_⟩ : ∃ Fq_, Fq_ = (fl_u F1 a 4 ((lorr (F1 a 4) ((lsl 1 z86_))))) := ⟨_, rfl⟩
    rw [← q117_]
    have g118_ : gi F116_ := by rw [q117_]; exact gi_u (hg_F1) h_a.2.1.2.2.2.1 (by omega) (by omega)
    have g119_ : fs [(a, a, 2, 2), (a, a, 4, 5), (a, a, 7, 7), (a + 4, a + 4, 0, 100000)] F F116_ := by rw [q117_]; exact fs_u (g77_) (fs_z (fs_y (by omega)))
    have e120_ : F116_ a 7 = F1 a 7 := by rw [q117_]; exact fl_u_ne (by first | exact nc_ rfl | decide | omega)
    have b121_ : 0 ≤ F1 a 7 ∧ F1 a 7 ≤ 4 := gi_g hg_F1 h_a.2.1.2.2.2.2.2.1
    have e122_ : F116_ a 2 = F1 a 2 := by rw [q117_]; exact fl_u_ne (by first | exact nc_ rfl | decide | omega)
    have b123_ : 0 ≤ F1 a 2 ∧ F1 a 2 ≤ 999 := gi_g hg_F1 h_a.2.1.2.2.1
    have e124_ : F116_ a 4 = (lorr (F1 a 4) ((lsl 1 z86_))) := by rw [q117_]; exact fl_u_eq
    have e125_ : F116_ a 5 = F1 a 5 := by rw [q117_]; exact fl_u_ne (by first | exact nc_ rfl | decide | omega)
    have b126_ : -9223372036854775808 ≤ F1 a 5 ∧ F1 a 5 ≤ 9223372036854775807 := gi_g hg_F1 h_a.2.1.2.2.2.2.1
    have e127_ : F116_ b 4 = F b 4 := by rw [q117_]; exact (fl_u_ne (by first | exact nc_ rfl | decide | omega)).trans (e79_)
    exact fl_R_sub (lv' := [(3, .int (Int32.ofInt (k + 1))), (0, .ref a), (1, .ref b), (2, .ref 120)]) rfl rfl (ih75_ _ (by omega) (k + 1) F116_ rfl g118_ (by rw [q117_]; exact fs_u (hf_F1) (fs_z (fs_y (by omega)))) (⟨by omega, by omega⟩) (by omega) (by omega) (Eq.trans (e122_) hc2) (by rw [show (k + 1).toNat = k.toNat + 1 by omega]; rw [msk_s hx_, mk1_y (by omega) (by omega)]; refine Eq.trans (e124_) ?_; rw [c88_, (show F1 121 = F 121 from funext (fun j => (Eq.trans (a := F1 121 j) (b := F69_ 121 j) (hf_F1 121 j (by first | exact fs_c rfl | exact (fs_n (by omega) (fs_n (by omega) (fs_n (by omega) (fs_n (by omega) rfl)))))) (show F69_ 121 j = F 121 j from (by rw [q70_]; exact (fl_u_ne (by first | exact nc_ rfl | decide | omega)).trans ((fl_u_ne (by first | exact nc_ rfl | decide | omega)).trans ((fl_u_ne (by first | exact nc_ rfl | decide | omega)).trans ((fl_u_ne (by first | exact nc_ rfl | decide | omega)))))))))), (show F1 (a + 1) = F (a + 1) from funext (fun j => (Eq.trans (a := F1 (a + 1) j) (b := F69_ (a + 1) j) (hf_F1 (a + 1) j (by first | exact fs_c rfl | exact (fs_n (by omega) (fs_n (by omega) (fs_n (by omega) (fs_n (by omega) rfl)))))) (show F69_ (a + 1) j = F (a + 1) j from (by rw [q70_]; exact (fl_u_ne (by first | exact nc_ rfl | decide | omega)).trans ((fl_u_ne (by first | exact nc_ rfl | decide | omega)).trans ((fl_u_ne (by first | exact nc_ rfl | decide | omega)).trans ((fl_u_ne (by first | exact nc_ rfl | decide | omega)))))))))), hg4]) (by rw [show (k + 1).toNat = k.toNat + 1 by omega]; rw [msk_s hx_, mk1_n (Or.inr (by omega))]; exact Eq.trans (e125_) hg5))
  have e128_ : F69_ a 7 = 0 := by rw [q70_]; exact fl_u_eq
  have e129_ : F69_ a 2 = 1 := by rw [q70_]; exact (fl_u_ne (by first | exact nc_ rfl | decide | omega)).trans ((fl_u_ne (by first | exact nc_ rfl | decide | omega)).trans ((fl_u_ne (by first | exact nc_ rfl | decide | omega)).trans (fl_u_eq)))
  have e130_ : F69_ a 4 = 0 := by rw [q70_]; exact (fl_u_ne (by first | exact nc_ rfl | decide | omega)).trans ((fl_u_ne (by first | exact nc_ rfl | decide | omega)).trans (fl_u_eq))
  have e131_ : F69_ a 5 = 0 := by rw [q70_]; exact (fl_u_ne (by first | exact nc_ rfl | decide | omega)).trans (fl_u_eq)
  have e132_ : F69_ b 4 = F b 4 := by rw [q70_]; exact (fl_u_ne (by first | exact nc_ rfl | decide | omega)).trans ((fl_u_ne (by first | exact nc_ rfl | decide | omega)).trans ((fl_u_ne (by first | exact nc_ rfl | decide | omega)).trans (fl_u_ne (by first | exact nc_ rfl | decide | omega))))
  have b133_ : 0 ≤ F b 4 ∧ F b 4 ≤ (4 : Int) := gi_g hgi h_b.2.1.1
  exact L74_ _ (0) F69_ rfl g71_ fs_refl (⟨by omega, by omega⟩) (by omega) (by omega) (by rw [if_pos (by omega)]; exact e129_) (Eq.trans (e130_) rfl) (Eq.trans (e131_) rfl)
/- CheapPlanner$Ground.bindStep -/
abbrev pq_100 (G : Nat → Nat → Option Nat) (F : fl_N) (X : xi_H) (a n : Nat) (d : ad_T) : Outcome → xi_H → Prop := gqi (fun z A => ∃ F' : fl_N, fl_H sh_T G F' ++ X = A ∧ gi F' ∧ fs [(a, a, 2, 2), (a, a, 4, 5), (a, a, 7, 7), (a + 2, a + 2, 0, 4), (a + 3, a + 4, 0, 100000)] F F' ∧ (z = (if eqh d.2.1 (F (a + 1)) = true then 1 else 0)) ∧ (F' (a + 2) 2 = z) ∧ (F' a 2 = (if d.2.2.2 = 0 then 1 else d.2.2.2)) ∧ (F' (a + 2) 0 = msk (F 121) (F (a + 1)) 0 d.2.1) ∧ (F' (a + 2) 1 = msk (F 121) (F (a + 1)) 1 d.2.1) ∧ (F' a 4 = msk (F 121) (F (a + 1)) 1 d.2.2.1) ∧ (F' a 5 = msk (F 121) (F (a + 1)) 0 d.2.2.1)) gqn
theorem mc_100 {G : Nat → Nat → Option Nat} (hG : gg G) (F : fl_N) (X : xi_H) (hgi : gi F) (a n : Nat) (d : ad_T) (h_a : sp a) (hdi : di F n) (hn : (F a 0).toNat < n ∧ n ≤ 5) (hoa : ∀ j : Nat, (j : Int) < F (39 + 13 * (F a 0).toNat) 2 → 0 ≤ F (a + 1) j) (hac : acr F (39 + 13 * (F a 0).toNat) d) : fl_M xi_ms 100 3 72 [.ref 120, .ref a, .ref 7] (fl_H sh_T G F ++ X) (pq_100 G F X a n d) := by
  intro fr lo hfr hlo
  show fl_R xi_ms 100 fr lo 0 [(0, .ref 120), (1, .ref a), (2, .ref 7)] [] _ _
  have hd1 := hdi (F a 0).toNat hn.1
  have hba : 0 ≤ F a 0 ∧ F a 0 ≤ 4 := gi_g hgi h_a.2.1.1
  have hpm := pm_b hgi (j := (F a 0).toNat) (by omega)
  have hob : ∀ j : Nat, (j : Int) < F (39 + 13 * (F a 0).toNat) 2 → 0 ≤ F (a + 1) j ∧ F (a + 1) j ≤ 5 := fun j hj => ⟨hoa j hj, (gi_g (r := a + 1) (k := j) hgi (gb_a h_a.2.1.2.1)).2⟩
  have hr_a := h_a.2.2
  refine ga_aload_n (v := .ref a) hm_100 rfl rfl rfl ?_
  refine ga_getr (b := a + 2) hm_100 rfl h_a.1.1 rfl ?_
  refine ga_aload_n (v := .ref 7) hm_100 rfl rfl rfl ?_
  refine ga_getr (b := 19) hm_100 rfl sc_7 rfl ?_
  refine ga_aload_n (v := .ref a) hm_100 rfl rfl rfl ?_
  have b1_ : 0 ≤ F a 0 ∧ F a 0 ≤ 4 := gi_g hgi h_a.2.1.1
  refine ga_geti (z := F a 0) hm_100 rfl h_a.1.1 rfl (rfl) ?_
  obtain ⟨a2_, r3_, n4_, q5_⟩ := ra_19 (F a 0).toNat (by omega)
  refine fl_aald (z := F a 0) (q := a2_) hm_100 rfl sc_19 (hG _ _ _ sc_19) rfl (by omega) (by simp only [List.length_cons, List.length_nil]; omega) (by simp only [List.length_cons, List.length_nil]; omega) r3_ ?_
  refine ga_aload_n (v := .ref a) hm_100 rfl rfl rfl ?_
  refine ga_getr (b := a + 1) hm_100 rfl h_a.1.1 rfl ?_
  refine ga_aload_n (v := .ref 120) hm_100 rfl rfl rfl ?_
  refine gVv (nY := 6) (F := 2) (L := 47) (As := [.ref a2_, .ref (a + 1), .ref 120]) (b := a + 2) (rest := []) hm_100 rfl hm_112 rfl rfl (fl_ob h_a.1.2.2.1) rfl rfl rfl rfl rfl (by omega) (by omega) (mc_112 hG F X hgi (a + 2) (a2_) (a + 1) (3) (-1) (2) (F (39 + 13 * (F a 0).toNat) 2) (d.2.1) (nd_sp h_a) n4_ h_a.1.2.1 (by omega) (by omega) (by rw [show a2_ = 39 + 13 * (F a 0).toNat + 3 by omega]; exact hd1.1) (by omega) (hob) (by rw [show a2_ = 39 + 13 * (F a 0).toNat + 3 by omega]; exact hac.2.1)) (fun _ _ h => False.elim h) ?_
  rintro A1_ ⟨F10_, hA_, g11_, s12_, c7_, c8_, c9_⟩
  subst hA_
  have g13_ : fs [(a, a, 2, 2), (a, a, 4, 5), (a, a, 7, 7), (a + 2, a + 2, 0, 4), (a + 3, a + 4, 0, 100000)] F F10_ := fs_tr fs_refl s12_ (by simp [fs_le]; try omega)
  refine ga_aload_n (v := .ref a) hm_100 rfl rfl rfl ?_
  refine ga_aload_n (v := .ref 7) hm_100 rfl rfl rfl ?_
  refine ga_getr (b := 20) hm_100 rfl sc_7 rfl ?_
  refine ga_aload_n (v := .ref a) hm_100 rfl rfl rfl ?_
  have e14_ : F10_ a 0 = F a 0 := (s12_ a 0 (by first | exact fs_c rfl | exact (fs_n (by omega) (fs_n (by omega) (fs_n (by omega) rfl))))).trans (rfl)
  refine ga_geti (z := F a 0) hm_100 rfl h_a.1.1 rfl (e14_) ?_
  obtain ⟨a15_, r16_, n17_, q18_⟩ := ra_20 (F a 0).toNat (by omega)
  refine fl_aald (z := F a 0) (q := a15_) hm_100 rfl sc_20 (hG _ _ _ sc_20) rfl (by omega) (by simp only [List.length_cons, List.length_nil]; omega) (by simp only [List.length_cons, List.length_nil]; omega) r16_ ?_
  refine ga_aload_n (v := .ref 120) hm_100 rfl rfl rfl ?_
  refine gVv (nY := 5) (F := 2) (L := 47) (As := [.ref a15_, .ref 120]) (b := a) (rest := []) hm_100 rfl hm_144 rfl rfl (fl_ob h_a.1.1) rfl rfl rfl rfl rfl (by omega) (by omega) (mc_144 hG F10_ X g11_ (a) (a15_) (F (39 + 13 * (F a 0).toNat) 2) (d.2.2.1) h_a n17_ (by rw [show a15_ = 39 + 13 * (F a 0).toNat + 8 by omega]; exact (cw_fs hd1.2 s12_ (by first | exact fs_rg rfl | exact fun r j hj => (fs_n (by omega) (fs_n (by omega) (fs_n (by omega) rfl)))))) (by omega) (fun j hj => by rw [(show F10_ (a + 1) j = F (a + 1) j from (s12_ (a + 1) j (by first | exact fs_c rfl | exact (fs_n (by omega) (fs_n (by omega) (fs_n (by omega) rfl))))))]; exact hob j hj) (by rw [show a15_ = 39 + 13 * (F a 0).toNat + 8 by omega]; exact (clr_fs hac.2.2.1 s12_ (by first | exact fs_rg rfl | exact fun r j hj => (fs_n (by omega) (fs_n (by omega) (fs_n (by omega) rfl))))))) (fun _ _ h => False.elim h) ?_
  rintro A1_ ⟨F23_, hA_, g24_, s25_, c20_, c21_, c22_⟩
  subst hA_
  have g26_ : fs [(a, a, 2, 2), (a, a, 4, 5), (a, a, 7, 7), (a + 2, a + 2, 0, 4), (a + 3, a + 4, 0, 100000)] F F23_ := fs_tr g13_ s25_ (by simp [fs_le]; try omega)
  refine ga_aload_n (v := .ref a) hm_100 rfl rfl rfl ?_
  refine ga_getr (b := a + 2) hm_100 rfl h_a.1.1 rfl ?_
  refine gIi (nY := 1) (F := 0) (L := 0) (As := []) (b := a + 2) (rest := []) hm_100 rfl hm_114 rfl rfl (fl_ob h_a.1.2.2.1) rfl rfl rfl rfl rfl (by omega) (by omega) ?_
  intro f27_ l28_ h29_ h30_
  show fl_R xi_ms 114 f27_ l28_ 0 [(0, .ref (a + 2))] [] _ _
  refine ga_aload_n (v := .ref (a + 2)) hm_114 rfl rfl rfl ?_
  have e31_ : F23_ (a + 2) 2 = F10_ (a + 2) 2 := (s25_ (a + 2) 2 (by first | exact fs_c rfl | exact (fs_n (by omega) (fs_n (by omega) (fs_n (by omega) (fs_n (by omega) rfl)))))).trans (rfl)
  have b32_ : 0 ≤ F10_ (a + 2) 2 ∧ F10_ (a + 2) 2 ≤ 1 := gi_g g11_ h_a.2.1.2.2.2.2.2.2.2.2.1
  refine ga_geti (z := F10_ (a + 2) 2) hm_114 rfl h_a.1.2.2.1 rfl (e31_) ?_
  refine gr_i hm_114 rfl rfl (ga_nb (by omega)) ?_
  clear h29_ h30_ f27_ l28_
  refine gr_i (z := F10_ (a + 2) 2) hm_100 rfl rfl (ga_nb (by omega)) ?_
  have b33_ : 0 ≤ F23_ a 2 ∧ F23_ a 2 ≤ 999 := gi_g g24_ h_a.2.1.2.2.1
  have e34_ : F23_ (a + 2) 0 = F10_ (a + 2) 0 := (s25_ (a + 2) 0 (by first | exact fs_c rfl | exact (fs_n (by omega) (fs_n (by omega) (fs_n (by omega) (fs_n (by omega) rfl)))))).trans (rfl)
  have b35_ : -9223372036854775808 ≤ F10_ (a + 2) 0 ∧ F10_ (a + 2) 0 ≤ 9223372036854775807 := gi_g g11_ h_a.2.1.2.2.2.2.2.2.1
  have e36_ : F23_ (a + 2) 1 = F10_ (a + 2) 1 := (s25_ (a + 2) 1 (by first | exact fs_c rfl | exact (fs_n (by omega) (fs_n (by omega) (fs_n (by omega) (fs_n (by omega) rfl)))))).trans (rfl)
  have b37_ : -9223372036854775808 ≤ F10_ (a + 2) 1 ∧ F10_ (a + 2) 1 ≤ 9223372036854775807 := gi_g g11_ h_a.2.1.2.2.2.2.2.2.2.1
  have b38_ : -9223372036854775808 ≤ F23_ a 4 ∧ F23_ a 4 ≤ 9223372036854775807 := gi_g g24_ h_a.2.1.2.2.2.1
  have b39_ : -9223372036854775808 ≤ F23_ a 5 ∧ F23_ a 5 ≤ 9223372036854775807 := gi_g g24_ h_a.2.1.2.2.2.2.1
  exact ⟨F23_, rfl, g24_, g26_, (c9_), ((show F23_ (a + 2) 2 = F10_ (a + 2) 2 from (s25_ (a + 2) 2 (by first | exact fs_c rfl | exact (fs_n (by omega) (fs_n (by omega) (fs_n (by omega) (fs_n (by omega) rfl)))))))), (by refine Eq.trans (c20_) ?_; rw [show F10_ (a15_) 5 = d.2.2.2 from Eq.trans ((show F10_ (a15_) 5 = F (a15_) 5 from (s12_ (a15_) 5 (by first | exact fs_c rfl | exact (fs_n (by omega) (fs_n (by omega) (fs_n (by omega) rfl))))))) (by rw [show a15_ = 39 + 13 * (F a 0).toNat + 8 by omega]; exact hac.2.2.2)]), (Eq.trans ((show F23_ (a + 2) 0 = F10_ (a + 2) 0 from (s25_ (a + 2) 0 (by first | exact fs_c rfl | exact (fs_n (by omega) (fs_n (by omega) (fs_n (by omega) (fs_n (by omega) rfl)))))))) c7_), (Eq.trans ((show F23_ (a + 2) 1 = F10_ (a + 2) 1 from (s25_ (a + 2) 1 (by first | exact fs_c rfl | exact (fs_n (by omega) (fs_n (by omega) (fs_n (by omega) (fs_n (by omega) rfl)))))))) c8_), (by refine Eq.trans (c21_) ?_; rw [(show F10_ 121 = F 121 from funext (fun j => (show F10_ 121 j = F 121 j from (s12_ 121 j (by first | exact fs_c rfl | exact (fs_n (by omega) (fs_n (by omega) (fs_n (by omega) rfl)))))))), (show F10_ (a + 1) = F (a + 1) from funext (fun j => (show F10_ (a + 1) j = F (a + 1) j from (s12_ (a + 1) j (by first | exact fs_c rfl | exact (fs_n (by omega) (fs_n (by omega) (fs_n (by omega) rfl))))))))]), (by refine Eq.trans (c22_) ?_; rw [(show F10_ 121 = F 121 from funext (fun j => (show F10_ 121 j = F 121 j from (s12_ 121 j (by first | exact fs_c rfl | exact (fs_n (by omega) (fs_n (by omega) (fs_n (by omega) rfl)))))))), (show F10_ (a + 1) = F (a + 1) from funext (fun j => (show F10_ (a + 1) j = F (a + 1) j from (s12_ (a + 1) j (by first | exact fs_c rfl | exact (fs_n (by omega) (fs_n (by omega) (fs_n (by omega) rfl))))))))])⟩

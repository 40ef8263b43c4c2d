/- CheapPlannerModel.groundAction -/
abbrev pq_165 (G : Nat → Nat → Option Nat) (F : fl_N) (X : xi_H) (a : Int) (D : List ad_T) (tl : List Int) (ps : List (List Int)) (L0 : List (Nat × Nat)) : Outcome → xi_H → Prop := gqi (fun z A => (∃ F' : fl_N, fl_H sh_T G F' ++ X = A ∧ gi F' ∧ fs [(344, 344, 39, 39), (367, 372, 0, 100000), (384, 384, 0, 100000)] F F' ∧ (z = 0) ∧ (40 < (L0 ++ stE tl D a.toNat).length) ∧ (sob F')) ∨ (∃ F' : fl_N, fl_H sh_T G F' ++ X = A ∧ gi F' ∧ fs [(344, 344, 39, 39), (367, 372, 0, 100000), (384, 384, 0, 100000)] F F' ∧ (z = 1) ∧ (sob F') ∧ (F' 344 39 = ((L0 ++ stE tl D a.toNat).length : Int)) ∧ (rsts F' D (L0 ++ stE tl D a.toNat)))) gqn
theorem mc_165 {G : Nat → Nat → Option Nat} (hG : gg G) (F : fl_N) (X : xi_H) (hgi : gi F) (a : Int) (D : List ad_T) (tl : List Int) (ps : List (List Int)) (L0 : List (Nat × Nat)) (ha : 0 ≤ a ∧ a ≤ 4) (hc : 0 ≤ F 357 a.toNat) (hso : sob F) (hD : racr F a.toNat (dat D a.toNat)) (hob : F 344 33 = (tl.length : Int) ∧ rty (F 365) 0 tl) (hps : rprd F ps) (hlc : ∀ y ∈ (dat D a.toNat).2.1, lwf ps y ∧ lt3 y) (hle : ∀ y ∈ (dat D a.toNat).2.2.1, lwf ps y ∧ lt3 y) (hcn : F 344 39 = (L0.length : Int)) (hst : rsts F D L0) : fl_M xi_ms 165 3 75 [.ref 344, .int (Int32.ofInt a)] (fl_H sh_T G F ++ X) (pq_165 G F X a D tl ps L0) := by
  intro fr lo hfr hlo
  show fl_R xi_ms 165 fr lo 0 [(0, .ref 344), (1, .int (Int32.ofInt a))] [] _ _
  obtain ⟨d, hd⟩ : ∃ d, dat D a.toNat = d := ⟨_, rfl⟩
  have hDa := hD
  rw [hd] at hDa
  have hDn := hDa.1.1
  have hDc := hDa.2.1.1
  have hDe := hDa.2.2.1.1
  have hl3 : ∀ y ∈ d.2.1, lt3 y := fun y hy => (hlc y (by rw [hd]; exact hy)).2
  have hle3 : ∀ y ∈ d.2.2.1, lt3 y := fun y hy => (hle y (by rw [hd]; exact hy)).2
  have hob1 := hob.1
  have hb354 : 0 ≤ F 354 a.toNat ∧ F 354 a.toNat ≤ 3 := gi_g hgi rfl
  have hb33 : 0 ≤ F 344 33 ∧ F 344 33 ≤ 6 := gi_g hgi rfl
  refine ga_aload_n (v := .ref 344) hm_165 rfl rfl rfl ?_
  refine ga_getr (b := 354) hm_165 rfl sc_344 rfl ?_
  refine ga_iload_n (z := a) hm_165 rfl rfl ?_
  have b1_ : 0 ≤ F 354 a.toNat ∧ F 354 a.toNat ≤ 3 := gi_g hgi rfl
  refine ga_iald (z := a) (w := F 354 a.toNat) hm_165 rfl sc_354 (by omega) (by omega) (by omega) (rfl) ?_
  refine ga_istore_n (lv2 := [(2, .int (Int32.ofInt (F 354 a.toNat))), (0, .ref 344), (1, .int (Int32.ofInt a))]) hm_165 rfl (Nat.le_of_ble_eq_true rfl) rfl ?_
  refine fl_iconst hm_165 rfl ?_
  refine ga_istore_n (lv2 := [(3, .int (Int32.ofInt 0)), (2, .int (Int32.ofInt (F 354 a.toNat))), (0, .ref 344), (1, .int (Int32.ofInt a))]) hm_165 rfl (Nat.le_of_ble_eq_true rfl) rfl ?_
  have L3_ : ∀ (n2_ : Nat) (x : Int) (F1 : fl_N), (216 - x : Int).toNat = n2_ → (gi F1) → (fs [(344, 344, 39, 39), (367, 372, 0, 100000), (384, 384, 0, 100000)] F F1) → (0 ≤ x ∧ x ≤ 216) → (sob F1) → (F1 344 39 = ((L0 ++ stR tl D a.toNat x.toNat).length : Int)) → (rsts F1 D (L0 ++ stR tl D a.toNat x.toNat)) → fl_R xi_ms 165 fr lo 9 [(3, .int (Int32.ofInt x)), (2, .int (Int32.ofInt (F 354 a.toNat))), (0, .ref 344), (1, .int (Int32.ofInt a))] [] (fl_H sh_T G F1 ++ X) (pq_165 G F X a D tl ps L0) := by
    intro n2_
    induction n2_ using Nat.strongRecOn with
    | ind n2_ ih4_ =>
    intro x F1 hn5_ hg_F1 hf_F1 hx hs1 hc1 hs2
    have g6_ : fs [(344, 344, 39, 39), (367, 372, 0, 100000), (384, 384, 0, 100000)] F F1 := fs_tr fs_refl hf_F1 rfl
    refine ga_iload_n (z := x) hm_165 rfl rfl ?_
    refine fl_sipush hm_165 rfl rfl ?_
    refine fl_icmp_ge (a := x) (b := 216) hm_165 rfl ⟨by omega, by omega⟩ ⟨by omega, by omega⟩ (fun h7_ => ?_) (fun h8_ => ?_)
    ·
      refine fl_iconst hm_165 rfl ?_
      refine gr_i (z := 1) hm_165 rfl rfl (ga_nb (by omega)) ?_
      have b9_ : 0 ≤ F1 344 39 ∧ F1 344 39 ≤ 40 := gi_g hg_F1 rfl
      exact Or.inr (⟨F1, rfl, hg_F1, g6_, rfl, (hs1), (by rw [show x.toNat = 216 by omega, stR_end] at hc1; exact hc1), (by rw [show x.toNat = 216 by omega, stR_end] at hs2; exact hs2)⟩)
    refine ga_aload_n (v := .ref 344) hm_165 rfl rfl rfl ?_
    refine ga_getr (b := 384) hm_165 rfl sc_344 rfl ?_
    refine fl_iconst hm_165 rfl ?_
    refine ga_iload_n (z := x) hm_165 rfl rfl ?_
    refine fl_bipush hm_165 rfl rfl ?_
    refine ga_idiv (a := x) (b := 36) hm_165 rfl (by omega) (by omega) (by omega) (by omega) ?_
    refine fl_iast (z := 0) (v := (x / 36)) hm_165 rfl sc_384 (by omega) (by omega) (by omega) ?_
    refine ga_aload_n (v := .ref 344) hm_165 rfl rfl rfl ?_
    refine ga_getr (b := 384) hm_165 rfl sc_344 rfl ?_
    refine fl_iconst hm_165 rfl ?_
    refine ga_iload_n (z := x) hm_165 rfl rfl ?_
    refine fl_bipush hm_165 rfl rfl ?_
    refine ga_idiv (a := x) (b := 6) hm_165 rfl (by omega) (by omega) (by omega) (by omega) ?_
    refine fl_bipush hm_165 rfl rfl ?_
    refine ga_irem (a := (x / 6)) (b := 6) hm_165 rfl (by omega) (by omega) (by omega) (by omega) ?_
    refine fl_iast (z := 1) (v := (((x / 6)) % 6)) hm_165 rfl sc_384 (by omega) (by omega) (by omega) ?_
    refine ga_aload_n (v := .ref 344) hm_165 rfl rfl rfl ?_
    refine ga_getr (b := 384) hm_165 rfl sc_344 rfl ?_
    refine fl_iconst hm_165 rfl ?_
    refine ga_iload_n (z := x) hm_165 rfl rfl ?_
    refine fl_bipush hm_165 rfl rfl ?_
    refine ga_irem (a := x) (b := 6) hm_165 rfl (by omega) (by omega) (by omega) (by omega) ?_
    refine fl_iast (z := 2) (v := (x % 6)) hm_165 rfl sc_384 (by omega) (by omega) (by omega) ?_
    refine fl_iconst hm_165 rfl ?_
    refine ga_istore (lv2 := [(4, .int (Int32.ofInt 1)), (3, .int (Int32.ofInt x)), (2, .int (Int32.ofInt (F 354 a.toNat))), (0, .ref 344), (1, .int (Int32.ofInt a))]) hm_165 rfl (Nat.le_of_ble_eq_true rfl) rfl ?_
    refine fl_iconst hm_165 rfl ?_
    refine ga_istore (lv2 := [(5, .int (Int32.ofInt 0)), (4, .int (Int32.ofInt 1)), (3, .int (Int32.ofInt x)), (2, .int (Int32.ofInt (F 354 a.toNat))), (0, .ref 344), (1, .int (Int32.ofInt a))]) hm_165 rfl (Nat.le_of_ble_eq_true rfl) rfl ?_
    obtain ⟨F10_, q11_⟩ : ∃ Fq_, Fq_ = (fl_u (fl_u (fl_u F1 384 (0 : Int).toNat ((x / 36))) 384 (1 : Int).toNat ((((x / 6)) % 6))) 384 (2 : Int).toNat ((x % 6))) := ⟨_, rfl⟩
    rw [← q11_]
    have g12_ : gi F10_ := by rw [q11_]; exact gi_u (gi_u (gi_u (hg_F1) rfl (by omega) (by omega)) rfl (by omega) (by omega)) rfl (by omega) (by omega)
    have g13_ : fs [(344, 344, 39, 39), (367, 372, 0, 100000), (384, 384, 0, 100000)] F F10_ := by rw [q11_]; exact fs_u (fs_u (fs_u (g6_) rfl) rfl) rfl
    have L15_ : ∀ (n14_ : Nat) (gd : Int) (k : Int), (3 - k : Int).toNat = n14_ → (0 ≤ k ∧ k ≤ 3) → (gd = (if vfk tl d.1 x.toNat k.toNat = true then 1 else 0)) → (0 ≤ gd ∧ gd ≤ 1) → fl_R xi_ms 165 fr lo 55 [(5, .int (Int32.ofInt k)), (4, .int (Int32.ofInt gd)), (3, .int (Int32.ofInt x)), (2, .int (Int32.ofInt (F 354 a.toNat))), (0, .ref 344), (1, .int (Int32.ofInt a))] [] (fl_H sh_T G F10_ ++ X) (pq_165 G F X a D tl ps L0) := by
      intro n14_
      induction n14_ using Nat.strongRecOn with
      | ind n14_ ih16_ =>
      intro gd k hn17_ hk hgd hgb
      have e18_ : F10_ 384 0 = (x / 36) := by rw [q11_]; exact (fl_u_ne (by first | exact nc_ rfl | decide | omega)).trans ((fl_u_ne (by first | exact nc_ rfl | decide | omega)).trans (fl_u_eq))
      have e19_ : F10_ 384 1 = (((x / 6)) % 6) := by rw [q11_]; exact (fl_u_ne (by first | exact nc_ rfl | decide | omega)).trans (fl_u_eq)
      have e20_ : F10_ 384 2 = (x % 6) := by rw [q11_]; exact fl_u_eq
      have hgv := gvo_of (F := F10_) (x := x) (e18_) (e19_) (e20_) (by omega)
      refine ga_iload (z := k) hm_165 rfl rfl ?_
      refine fl_iconst hm_165 rfl ?_
      refine fl_icmp_ge (a := k) (b := 3) hm_165 rfl ⟨by omega, by omega⟩ ⟨by omega, by omega⟩ (fun h21_ => ?_) (fun h22_ => ?_)
      ·
        refine ga_iload (z := gd) hm_165 rfl rfl ?_
        refine fl_if_eq (a := gd) hm_165 rfl ⟨by omega, by omega⟩ (fun h23_ => ?_) (fun h24_ => ?_)
        ·
          refine ga_inc (a := x) (c := x + 1) (lv2 := [(3, .int (Int32.ofInt (x + 1))), (5, .int (Int32.ofInt k)), (4, .int (Int32.ofInt gd)), (2, .int (Int32.ofInt (F 354 a.toNat))), (0, .ref 344), (1, .int (Int32.ofInt a))]) hm_165 rfl rfl (Nat.le_of_ble_eq_true rfl) rfl rfl ?_
          refine fl_goto hm_165 rfl ?_
          have e25_ : F10_ 344 39 = F1 344 39 := by rw [q11_]; exact (fl_u_ne (by first | exact nc_ rfl | decide | omega)).trans ((fl_u_ne (by first | exact nc_ rfl | decide | omega)).trans (fl_u_ne (by first | exact nc_ rfl | decide | omega)))
          have b26_ : 0 ≤ F1 344 39 ∧ F1 344 39 ≤ 40 := gi_g hg_F1 rfl
          exact fl_R_sub (lv' := [(3, .int (Int32.ofInt (x + 1))), (2, .int (Int32.ofInt (F 354 a.toNat))), (0, .ref 344), (1, .int (Int32.ofInt a))]) rfl rfl (ih4_ _ (by omega) (x + 1) F10_ rfl g12_ (by rw [q11_]; exact fs_u (fs_u (fs_u (hf_F1) rfl) rfl) rfl) (⟨by omega, by omega⟩) (sob_cg hs1 (show F10_ 344 39 = F1 344 39 from (by rw [q11_]; exact (fl_u_ne (by first | exact nc_ rfl | decide | omega)).trans ((fl_u_ne (by first | exact nc_ rfl | decide | omega)).trans ((fl_u_ne (by first | exact nc_ rfl | decide | omega)))))) (fun j => (show F10_ 357 j = F1 357 j from (by rw [q11_]; exact (fl_u_ne (by first | exact nc_ rfl | decide | omega)).trans ((fl_u_ne (by first | exact nc_ rfl | decide | omega)).trans ((fl_u_ne (by first | exact nc_ rfl | decide | omega))))))) (fun j => (show F10_ 367 j = F1 367 j from (by rw [q11_]; exact (fl_u_ne (by first | exact nc_ rfl | decide | omega)).trans ((fl_u_ne (by first | exact nc_ rfl | decide | omega)).trans ((fl_u_ne (by first | exact nc_ rfl | decide | omega))))))) (fun j => (show F10_ 354 j = F1 354 j from (by rw [q11_]; exact (fl_u_ne (by first | exact nc_ rfl | decide | omega)).trans ((fl_u_ne (by first | exact nc_ rfl | decide | omega)).trans ((fl_u_ne (by first | exact nc_ rfl | decide | omega))))))) (fun j => (show F10_ 368 j = F1 368 j from (by rw [q11_]; exact (fl_u_ne (by first | exact nc_ rfl | decide | omega)).trans ((fl_u_ne (by first | exact nc_ rfl | decide | omega)).trans ((fl_u_ne (by first | exact nc_ rfl | decide | omega)))))))) (by rw [show (x + 1).toNat = x.toNat + 1 by omega]; rw [stR_n (hd ▸ ok_n1 (by omega) ((eq01 (show gd = (if vfk tl d.1 x.toNat 3 = true then 1 else 0) from (by rw [show k.toNat = 3 by omega] at hgd; exact hgd))).1 (by omega)))]; omega) (by rw [show (x + 1).toNat = x.toNat + 1 by omega]; rw [stR_n (hd ▸ ok_n1 (by omega) ((eq01 (show gd = (if vfk tl d.1 x.toNat 3 = true then 1 else 0) from (by rw [show k.toNat = 3 by omega] at hgd; exact hgd))).1 (by omega)))]; exact (rsts_cg hs2 (fun j => (show F10_ 366 j = F1 366 j from (by rw [q11_]; exact (fl_u_ne (by first | exact nc_ rfl | decide | omega)).trans ((fl_u_ne (by first | exact nc_ rfl | decide | omega)).trans ((fl_u_ne (by first | exact nc_ rfl | decide | omega))))))) (fun j hj => (show F10_ 368 j = F1 368 j from (by rw [q11_]; exact (fl_u_ne (by first | exact nc_ rfl | decide | omega)).trans ((fl_u_ne (by first | exact nc_ rfl | decide | omega)).trans ((fl_u_ne (by first | exact nc_ rfl | decide | omega))))))) (fun r j hr hj => (show F10_ (r) j = F1 (r) j from (by rw [q11_]; exact (fl_u_ne (by first | exact nc_ rfl | decide | omega)).trans ((fl_u_ne (by first | exact nc_ rfl | decide | omega)).trans ((fl_u_ne (by first | exact nc_ rfl | decide | omega))))))))))
        refine ga_aload_n (v := .ref 344) hm_165 rfl rfl rfl ?_
        refine ga_iload_n (z := a) hm_165 rfl rfl ?_
        refine fl_bipush hm_165 rfl rfl ?_
        refine ga_iload_n (z := a) hm_165 rfl rfl ?_
        refine ga_imul (a := 8) (b := a) (c := 8 * a) hm_165 rfl (by omega) ?_
        have e27_ : F1 358 a.toNat = F 358 a.toNat := (hf_F1 358 a.toNat (by first | exact fs_c rfl | exact (fs_n (by omega) (fs_n (by omega) (fs_n (by omega) rfl))))).trans (rfl)
        have e28_ : F10_ 358 a.toNat = F 358 a.toNat := by rw [q11_]; exact (fl_u_ne (by first | exact nc_ rfl | decide | omega)).trans ((fl_u_ne (by first | exact nc_ rfl | decide | omega)).trans ((fl_u_ne (by first | exact nc_ rfl | decide | omega)).trans (e27_)))
        refine gVi (nY := 6) (F := 1) (L := 23) (As := [.int (Int32.ofInt a), .int (Int32.ofInt (8 * a))]) (b := 344) (rest := []) hm_165 rfl hm_159 rfl rfl (fl_ob sc_344) rfl rfl rfl rfl rfl (by omega) (by omega) (mc_159 hG F10_ X g12_ (a) (8 * a) (d.2.1) (⟨by omega, by omega⟩) (by omega) (by rw [show (8 * a).toNat = 8 * a.toNat by omega]; exact (rcl_lfr hDa.2.1.2 (show lfr 0 0 0 F F10_ from (by rw [q11_]; exact (lfr_uo (lfr_uo (lfr_uo (lfr_fg lfr_r hf_F1 rfl) rfl) rfl) rfl))) (by omega))) (by omega) (fun y hy h1 => (hl3 y hy).2.2 h1)) (fun _ _ h => False.elim h) ?_
        rintro z29_ A1_ ⟨hA_, c30_, c31_⟩
        subst hA_
        refine fx_if_ne (a := z29_) hm_165 rfl ⟨by omega, by omega⟩ (fun h32_ => ?_) (fun h33_ => ?_)
        ·
          refine ga_aload_n (v := .ref 344) hm_165 rfl rfl rfl ?_
          have e34_ : F10_ 344 39 = F1 344 39 := by rw [q11_]; exact (fl_u_ne (by first | exact nc_ rfl | decide | omega)).trans ((fl_u_ne (by first | exact nc_ rfl | decide | omega)).trans (fl_u_ne (by first | exact nc_ rfl | decide | omega)))
          have b35_ : 0 ≤ F1 344 39 ∧ F1 344 39 ≤ 40 := gi_g hg_F1 rfl
          refine ga_geti (z := F1 344 39) hm_165 rfl sc_344 rfl (e34_) ?_
          refine fl_bipush hm_165 rfl rfl ?_
          refine fx_icmp_ne (a := F1 344 39) (b := 40) hm_165 rfl ⟨by omega, by omega⟩ ⟨by omega, by omega⟩ (fun h36_ => ?_) (fun h37_ => ?_)
          ·
            refine ga_aload_n (v := .ref 344) hm_165 rfl rfl rfl ?_
            refine ga_getr (b := 367) hm_165 rfl sc_344 rfl ?_
            refine ga_aload_n (v := .ref 344) hm_165 rfl rfl rfl ?_
            refine ga_geti (z := F1 344 39) hm_165 rfl sc_344 rfl (e34_) ?_
            refine ga_iload_n (z := a) hm_165 rfl rfl ?_
            refine fl_iast (z := F1 344 39) (v := a) hm_165 rfl sc_367 (by omega) (by omega) (by omega) ?_
            refine fl_iconst hm_165 rfl ?_
            refine ga_istore (lv2 := [(5, .int (Int32.ofInt 0)), (4, .int (Int32.ofInt gd)), (3, .int (Int32.ofInt x)), (2, .int (Int32.ofInt (F 354 a.toNat))), (0, .ref 344), (1, .int (Int32.ofInt a))]) hm_165 rfl (Nat.le_of_ble_eq_true rfl) rfl ?_
            obtain ⟨F38_, q39_⟩ : ∃ Fq_, Fq_ = (fl_u F10_ 367 (F1 344 39).toNat a) := ⟨_, rfl⟩
            rw [← q39_]
            have g40_ : gi F38_ := by rw [q39_]; exact gi_u (g12_) rfl (by omega) (by omega)
            have g41_ : fs [(344, 344, 39, 39), (367, 372, 0, 100000), (384, 384, 0, 100000)] F F38_ := by rw [q39_]; exact fs_u (g13_) (fs_z (fs_y (by omega)))
            have e45_ : F38_ 344 39 = F1 344 39 := by rw [q39_]; exact (fl_u_ne (by first | exact nc_ rfl | decide | omega)).trans (e34_)
            have L43_ : ∀ (n42_ : Nat) (k2 : Int) (F2 : fl_N), (3 - k2 : Int).toNat = n42_ → (gi F2) → (fs [(368, 368, 0, 100000)] F38_ F2) → (0 ≤ k2 ∧ k2 ≤ 3) → (∀ j : Nat, (j : Int) < 3 * F38_ 344 39 → F2 368 j = F38_ 368 j) → (∀ p : Nat, (p : Int) < k2 → (p : Int) < F 354 a.toNat → 0 ≤ F2 368 (3 * (F38_ 344 39).toNat + p)) → (∀ j : Nat, (j : Int) < k2 → F2 368 (3 * (F1 344 39).toNat + j) = (fun j : Nat => if j < d.1.length then ((gvn x.toNat j : Nat) : Int) else -1) j) → fl_R xi_ms 165 fr lo 181 [(5, .int (Int32.ofInt k2)), (4, .int (Int32.ofInt gd)), (3, .int (Int32.ofInt x)), (2, .int (Int32.ofInt (F 354 a.toNat))), (0, .ref 344), (1, .int (Int32.ofInt a))] [] (fl_H sh_T G F2 ++ X) (pq_165 G F X a D tl ps L0) := by
              intro n42_
              induction n42_ using Nat.strongRecOn with
              | ind n42_ ih44_ =>
              intro k2 F2 hn46_ hg_F2 hf_F2 hk2 ho2 hn2 hn3
              have g47_ : fs [(344, 344, 39, 39), (367, 372, 0, 100000), (384, 384, 0, 100000)] F F2 := fs_tr g41_ hf_F2 rfl
              refine ga_iload (z := k2) hm_165 rfl rfl ?_
              refine fl_iconst hm_165 rfl ?_
              refine fl_icmp_ge (a := k2) (b := 3) hm_165 rfl ⟨by omega, by omega⟩ ⟨by omega, by omega⟩ (fun h48_ => ?_) (fun h49_ => ?_)
              ·
                refine ga_aload_n (v := .ref 344) hm_165 rfl rfl rfl ?_
                refine ga_getr (b := 369) hm_165 rfl sc_344 rfl ?_
                refine ga_aload_n (v := .ref 344) hm_165 rfl rfl rfl ?_
                have e50_ : F2 344 39 = F1 344 39 := (hf_F2 344 39 rfl).trans (e45_)
                refine ga_geti (z := F1 344 39) hm_165 rfl sc_344 rfl (e50_) ?_
                refine ga_aload_n (v := .ref 344) hm_165 rfl rfl rfl ?_
                refine ga_iload_n (z := a) hm_165 rfl rfl ?_
                refine fl_bipush hm_165 rfl rfl ?_
                refine ga_iload_n (z := a) hm_165 rfl rfl ?_
                refine ga_imul (a := 8) (b := a) (c := 8 * a) hm_165 rfl (by omega) ?_
                refine ga_aload_n (v := .ref 344) hm_165 rfl rfl rfl ?_
                refine ga_getr (b := 358) hm_165 rfl sc_344 rfl ?_
                refine ga_iload_n (z := a) hm_165 rfl rfl ?_
                have e51_ : F38_ 358 a.toNat = F 358 a.toNat := by rw [q39_]; exact (fl_u_ne (by first | exact nc_ rfl | decide | omega)).trans (e28_)
                have e52_ : F2 358 a.toNat = F 358 a.toNat := (hf_F2 358 a.toNat (by first | exact fs_c rfl | exact (fs_n (by omega) rfl))).trans (e51_)
                have b53_ : 0 ≤ F 358 a.toNat ∧ F 358 a.toNat ≤ 4 := gi_g hgi rfl
                refine ga_iald (z := a) (w := F 358 a.toNat) hm_165 rfl sc_358 (by omega) (by omega) (by omega) (e52_) ?_
                refine fl_iconst hm_165 rfl ?_
                refine gVl (nY := 9) (F := 2) (L := 47) (As := [.int (Int32.ofInt a), .int (Int32.ofInt (8 * a)), .int (Int32.ofInt (F 358 a.toNat)), .int (Int32.ofInt 0)]) (b := 344) (rest := [.int (Int32.ofInt (F1 344 39)), .ref 369]) hm_165 rfl hm_156 rfl rfl (fl_ob sc_344) rfl rfl rfl rfl rfl (by omega) (by omega) (mc_156 hG F2 X hg_F2 (a) (8 * a) (F 358 a.toNat) (0) (d.2.1) (ps) (⟨by omega, by omega⟩) (by omega) (⟨by omega, by omega⟩) (⟨by omega, by omega⟩) (by rw [show (8 * a).toNat = 8 * a.toNat by omega]; exact (rcl_lfr hDa.2.1.2 (show lfr 0 0 0 F F2 from (lfr_fg (by rw [q39_]; exact (lfr_uo (by rw [q11_]; exact (lfr_uo (lfr_uo (lfr_uo (lfr_fg lfr_r hf_F1 rfl) rfl) rfl) rfl)) rfl)) hf_F2 rfl)) (by omega))) (by omega) (fun y hy => (hlc y (by rw [hd]; exact hy)).1) ((rprd_fs (by rw [q39_]; exact (rprd_u (by rw [q11_]; exact (rprd_u (rprd_u (rprd_u (rprd_fs hps hf_F1 (by first | exact fs_rg rfl | exact fun r j hj => (fs_n (by omega) (fs_n (by omega) (fs_n (by omega) rfl))))) (by first | decide | exact nc_ rfl | omega)) (by first | decide | exact nc_ rfl | omega)) (by first | decide | exact nc_ rfl | omega))) (by first | decide | exact nc_ rfl | omega))) hf_F2 (by first | exact fs_rg rfl | exact fun r j hj => (fs_n (by omega) rfl))))) (fun _ _ h => False.elim h) ?_
                rintro z54_ A1_ ⟨hA_, c55_, c56_⟩
                subst hA_
                refine fl_last (z := F1 344 39) (v := z54_) hm_165 rfl sc_369 (by omega) (by omega) (by omega) ?_
                refine ga_aload_n (v := .ref 344) hm_165 rfl rfl rfl ?_
                refine ga_getr (b := 370) hm_165 rfl sc_344 rfl ?_
                refine ga_aload_n (v := .ref 344) hm_165 rfl rfl rfl ?_
                refine ga_geti (z := F1 344 39) hm_165 rfl sc_344 rfl ((fl_u_ne (by first | exact nc_ rfl | decide | omega)).trans (e50_)) ?_
                refine ga_aload_n (v := .ref 344) hm_165 rfl rfl rfl ?_
                refine ga_iload_n (z := a) hm_165 rfl rfl ?_
                refine fl_bipush hm_165 rfl rfl ?_
                refine ga_iload_n (z := a) hm_165 rfl rfl ?_
                refine ga_imul (a := 8) (b := a) (c := 8 * a) hm_165 rfl (by omega) ?_
                refine ga_aload_n (v := .ref 344) hm_165 rfl rfl rfl ?_
                refine ga_getr (b := 358) hm_165 rfl sc_344 rfl ?_
                refine ga_iload_n (z := a) hm_165 rfl rfl ?_
                refine ga_iald (z := a) (w := F 358 a.toNat) hm_165 rfl sc_358 (by omega) (by omega) (by omega) ((fl_u_ne (by first | exact nc_ rfl | decide | omega)).trans (e52_)) ?_
                refine fl_iconst hm_165 rfl ?_
                obtain ⟨F57_, q58_⟩ : ∃ Fq_, Fq_ = (fl_u F2 369 (F1 344 39).toNat z54_) := ⟨_, rfl⟩
                rw [← q58_]
                have g59_ : gi F57_ := by rw [q58_]; exact gi_u (hg_F2) rfl (by omega) (by omega)
                have g60_ : fs [(344, 344, 39, 39), (367, 372, 0, 100000), (384, 384, 0, 100000)] F F57_ := by rw [q58_]; exact fs_u (g47_) (fs_z (fs_y (by omega)))
                have e61_ : F57_ 358 a.toNat = F 358 a.toNat := by rw [q58_]; exact (fl_u_ne (by first | exact nc_ rfl | decide | omega)).trans (e52_)
                refine gVl (nY := 9) (F := 2) (L := 47) (As := [.int (Int32.ofInt a), .int (Int32.ofInt (8 * a)), .int (Int32.ofInt (F 358 a.toNat)), .int (Int32.ofInt 1)]) (b := 344) (rest := [.int (Int32.ofInt (F1 344 39)), .ref 370]) hm_165 rfl hm_156 rfl rfl (fl_ob sc_344) rfl rfl rfl rfl rfl (by omega) (by omega) (mc_156 hG F57_ X g59_ (a) (8 * a) (F 358 a.toNat) (1) (d.2.1) (ps) (⟨by omega, by omega⟩) (by omega) (⟨by omega, by omega⟩) (⟨by omega, by omega⟩) (by rw [show (8 * a).toNat = 8 * a.toNat by omega]; exact (rcl_lfr hDa.2.1.2 (show lfr 0 0 0 F F57_ from (by rw [q58_]; exact (lfr_uo (lfr_fg (by rw [q39_]; exact (lfr_uo (by rw [q11_]; exact (lfr_uo (lfr_uo (lfr_uo (lfr_fg lfr_r hf_F1 rfl) rfl) rfl) rfl)) rfl)) hf_F2 rfl) rfl))) (by omega))) (by omega) (fun y hy => (hlc y (by rw [hd]; exact hy)).1) ((by rw [q58_]; exact (rprd_u (rprd_fs (by rw [q39_]; exact (rprd_u (by rw [q11_]; exact (rprd_u (rprd_u (rprd_u (rprd_fs hps hf_F1 (by first | exact fs_rg rfl | exact fun r j hj => (fs_n (by omega) (fs_n (by omega) (fs_n (by omega) rfl))))) (by first | decide | exact nc_ rfl | omega)) (by first | decide | exact nc_ rfl | omega)) (by first | decide | exact nc_ rfl | omega))) (by first | decide | exact nc_ rfl | omega))) hf_F2 (by first | exact fs_rg rfl | exact fun r j hj => (fs_n (by omega) rfl))) (by first | decide | exact nc_ rfl | omega))))) (fun _ _ h => False.elim h) ?_
                rintro z62_ A1_ ⟨hA_, c63_, c64_⟩
                subst hA_
                refine fl_last (z := F1 344 39) (v := z62_) hm_165 rfl sc_370 (by omega) (by omega) (by omega) ?_
                refine ga_aload_n (v := .ref 344) hm_165 rfl rfl rfl ?_
                refine ga_getr (b := 371) hm_165 rfl sc_344 rfl ?_
                refine ga_aload_n (v := .ref 344) hm_165 rfl rfl rfl ?_
                have e65_ : F57_ 344 39 = F1 344 39 := by rw [q58_]; exact (fl_u_ne (by first | exact nc_ rfl | decide | omega)).trans (e50_)
                refine ga_geti (z := F1 344 39) hm_165 rfl sc_344 rfl ((fl_u_ne (by first | exact nc_ rfl | decide | omega)).trans (e65_)) ?_
                refine ga_aload_n (v := .ref 344) hm_165 rfl rfl rfl ?_
                refine ga_iload_n (z := a) hm_165 rfl rfl ?_
                refine fl_bipush hm_165 rfl rfl ?_
                refine ga_iload_n (z := a) hm_165 rfl rfl ?_
                refine ga_imul (a := 8) (b := a) (c := 8 * a) hm_165 rfl (by omega) ?_
                refine fl_iconst hm_165 rfl ?_
                refine ga_iadd (a := 8 * a) (b := 4) (c := 8 * a + 4) hm_165 rfl (by omega) ?_
                refine ga_aload_n (v := .ref 344) hm_165 rfl rfl rfl ?_
                refine ga_getr (b := 359) hm_165 rfl sc_344 rfl ?_
                refine ga_iload_n (z := a) hm_165 rfl rfl ?_
                have e66_ : F1 359 a.toNat = F 359 a.toNat := (hf_F1 359 a.toNat (by first | exact fs_c rfl | exact (fs_n (by omega) (fs_n (by omega) (fs_n (by omega) rfl))))).trans (rfl)
                have e67_ : F10_ 359 a.toNat = F 359 a.toNat := by rw [q11_]; exact (fl_u_ne (by first | exact nc_ rfl | decide | omega)).trans ((fl_u_ne (by first | exact nc_ rfl | decide | omega)).trans ((fl_u_ne (by first | exact nc_ rfl | decide | omega)).trans (e66_)))
                have e68_ : F38_ 359 a.toNat = F 359 a.toNat := by rw [q39_]; exact (fl_u_ne (by first | exact nc_ rfl | decide | omega)).trans (e67_)
                have e69_ : F2 359 a.toNat = F 359 a.toNat := (hf_F2 359 a.toNat (by first | exact fs_c rfl | exact (fs_n (by omega) rfl))).trans (e68_)
                have e70_ : F57_ 359 a.toNat = F 359 a.toNat := by rw [q58_]; exact (fl_u_ne (by first | exact nc_ rfl | decide | omega)).trans (e69_)
                have b71_ : 0 ≤ F 359 a.toNat ∧ F 359 a.toNat ≤ 4 := gi_g hgi rfl
                refine ga_iald (z := a) (w := F 359 a.toNat) hm_165 rfl sc_359 (by omega) (by omega) (by omega) ((fl_u_ne (by first | exact nc_ rfl | decide | omega)).trans (e70_)) ?_
                refine fl_iconst hm_165 rfl ?_
                obtain ⟨F72_, q73_⟩ : ∃ Fq_, Fq_ = (fl_u F57_ 370 (F1 344 39).toNat z62_) := ⟨_, rfl⟩
                rw [← q73_]
                have g74_ : gi F72_ := by rw [q73_]; exact gi_u (g59_) rfl (by omega) (by omega)
                have g75_ : fs [(344, 344, 39, 39), (367, 372, 0, 100000), (384, 384, 0, 100000)] F F72_ := by rw [q73_]; exact fs_u (g60_) (fs_z (fs_y (by omega)))
                have e76_ : F72_ 359 a.toNat = F 359 a.toNat := by rw [q73_]; exact (fl_u_ne (by first | exact nc_ rfl | decide | omega)).trans (e70_)
                refine gVl (nY := 9) (F := 2) (L := 47) (As := [.int (Int32.ofInt a), .int (Int32.ofInt (8 * a + 4)), .int (Int32.ofInt (F 359 a.toNat)), .int (Int32.ofInt 0)]) (b := 344) (rest := [.int (Int32.ofInt (F1 344 39)), .ref 371]) hm_165 rfl hm_156 rfl rfl (fl_ob sc_344) rfl rfl rfl rfl rfl (by omega) (by omega) (mc_156 hG F72_ X g74_ (a) (8 * a + 4) (F 359 a.toNat) (0) (d.2.2.1) (ps) (⟨by omega, by omega⟩) (by omega) (⟨by omega, by omega⟩) (⟨by omega, by omega⟩) (by rw [show (8 * a + 4).toNat = 8 * a.toNat + 4 by omega]; exact (rcl_lfr hDa.2.2.1.2 (show lfr 0 0 0 F F72_ from (by rw [q73_]; exact (lfr_uo (by rw [q58_]; exact (lfr_uo (lfr_fg (by rw [q39_]; exact (lfr_uo (by rw [q11_]; exact (lfr_uo (lfr_uo (lfr_uo (lfr_fg lfr_r hf_F1 rfl) rfl) rfl) rfl)) rfl)) hf_F2 rfl) rfl)) rfl))) (by omega))) (by omega) (fun y hy => (hle y (by rw [hd]; exact hy)).1) ((by rw [q73_]; exact (rprd_u (by rw [q58_]; exact (rprd_u (rprd_fs (by rw [q39_]; exact (rprd_u (by rw [q11_]; exact (rprd_u (rprd_u (rprd_u (rprd_fs hps hf_F1 (by first | exact fs_rg rfl | exact fun r j hj => (fs_n (by omega) (fs_n (by omega) (fs_n (by omega) rfl))))) (by first | decide | exact nc_ rfl | omega)) (by first | decide | exact nc_ rfl | omega)) (by first | decide | exact nc_ rfl | omega))) (by first | decide | exact nc_ rfl | omega))) hf_F2 (by first | exact fs_rg rfl | exact fun r j hj => (fs_n (by omega) rfl))) (by first | decide | exact nc_ rfl | omega))) (by first | decide | exact nc_ rfl | omega))))) (fun _ _ h => False.elim h) ?_
                rintro z77_ A1_ ⟨hA_, c78_, c79_⟩
                subst hA_
                refine fl_last (z := F1 344 39) (v := z77_) hm_165 rfl sc_371 (by omega) (by omega) (by omega) ?_
                refine ga_aload_n (v := .ref 344) hm_165 rfl rfl rfl ?_
                refine ga_getr (b := 372) hm_165 rfl sc_344 rfl ?_
                refine ga_aload_n (v := .ref 344) hm_165 rfl rfl rfl ?_
                have e80_ : F72_ 344 39 = F1 344 39 := by rw [q73_]; exact (fl_u_ne (by first | exact nc_ rfl | decide | omega)).trans (e65_)
                refine ga_geti (z := F1 344 39) hm_165 rfl sc_344 rfl ((fl_u_ne (by first | exact nc_ rfl | decide | omega)).trans (e80_)) ?_
                refine ga_aload_n (v := .ref 344) hm_165 rfl rfl rfl ?_
                refine ga_iload_n (z := a) hm_165 rfl rfl ?_
                refine fl_bipush hm_165 rfl rfl ?_
                refine ga_iload_n (z := a) hm_165 rfl rfl ?_
                refine ga_imul (a := 8) (b := a) (c := 8 * a) hm_165 rfl (by omega) ?_
                refine fl_iconst hm_165 rfl ?_
                refine ga_iadd (a := 8 * a) (b := 4) (c := 8 * a + 4) hm_165 rfl (by omega) ?_
                refine ga_aload_n (v := .ref 344) hm_165 rfl rfl rfl ?_
                refine ga_getr (b := 359) hm_165 rfl sc_344 rfl ?_
                refine ga_iload_n (z := a) hm_165 rfl rfl ?_
                refine ga_iald (z := a) (w := F 359 a.toNat) hm_165 rfl sc_359 (by omega) (by omega) (by omega) ((fl_u_ne (by first | exact nc_ rfl | decide | omega)).trans (e76_)) ?_
                refine fl_iconst hm_165 rfl ?_
                obtain ⟨F81_, q82_⟩ : ∃ Fq_, Fq_ = (fl_u F72_ 371 (F1 344 39).toNat z77_) := ⟨_, rfl⟩
                rw [← q82_]
                have g83_ : gi F81_ := by rw [q82_]; exact gi_u (g74_) rfl (by omega) (by omega)
                have g84_ : fs [(344, 344, 39, 39), (367, 372, 0, 100000), (384, 384, 0, 100000)] F F81_ := by rw [q82_]; exact fs_u (g75_) (fs_z (fs_y (by omega)))
                have e85_ : F81_ 359 a.toNat = F 359 a.toNat := by rw [q82_]; exact (fl_u_ne (by first | exact nc_ rfl | decide | omega)).trans (e76_)
                refine gVl (nY := 9) (F := 2) (L := 47) (As := [.int (Int32.ofInt a), .int (Int32.ofInt (8 * a + 4)), .int (Int32.ofInt (F 359 a.toNat)), .int (Int32.ofInt 1)]) (b := 344) (rest := [.int (Int32.ofInt (F1 344 39)), .ref 372]) hm_165 rfl hm_156 rfl rfl (fl_ob sc_344) rfl rfl rfl rfl rfl (by omega) (by omega) (mc_156 hG F81_ X g83_ (a) (8 * a + 4) (F 359 a.toNat) (1) (d.2.2.1) (ps) (⟨by omega, by omega⟩) (by omega) (⟨by omega, by omega⟩) (⟨by omega, by omega⟩) (by rw [show (8 * a + 4).toNat = 8 * a.toNat + 4 by omega]; exact (rcl_lfr hDa.2.2.1.2 (show lfr 0 0 0 F F81_ from (by rw [q82_]; exact (lfr_uo (by rw [q73_]; exact (lfr_uo (by rw [q58_]; exact (lfr_uo (lfr_fg (by rw [q39_]; exact (lfr_uo (by rw [q11_]; exact (lfr_uo (lfr_uo (lfr_uo (lfr_fg lfr_r hf_F1 rfl) rfl) rfl) rfl)) rfl)) hf_F2 rfl) rfl)) rfl)) rfl))) (by omega))) (by omega) (fun y hy => (hle y (by rw [hd]; exact hy)).1) ((by rw [q82_]; exact (rprd_u (by rw [q73_]; exact (rprd_u (by rw [q58_]; exact (rprd_u (rprd_fs (by rw [q39_]; exact (rprd_u (by rw [q11_]; exact (rprd_u (rprd_u (rprd_u (rprd_fs hps hf_F1 (by first | exact fs_rg rfl | exact fun r j hj => (fs_n (by omega) (fs_n (by omega) (fs_n (by omega) rfl))))) (by first | decide | exact nc_ rfl | omega)) (by first | decide | exact nc_ rfl | omega)) (by first | decide | exact nc_ rfl | omega))) (by first | decide | exact nc_ rfl | omega))) hf_F2 (by first | exact fs_rg rfl | exact fun r j hj => (fs_n (by omega) rfl))) (by first | decide | exact nc_ rfl | omega))) (by first | decide | exact nc_ rfl | omega))) (by first | decide | exact nc_ rfl | omega))))) (fun _ _ h => False.elim h) ?_
                rintro z86_ A1_ ⟨hA_, c87_, c88_⟩
                subst hA_
                refine fl_last (z := F1 344 39) (v := z86_) hm_165 rfl sc_372 (by omega) (by omega) (by omega) ?_
                refine ga_aload_n (v := .ref 344) hm_165 rfl rfl rfl ?_
                refine ga_dup hm_165 rfl rfl ?_
                have e89_ : F81_ 344 39 = F1 344 39 := by rw [q82_]; exact (fl_u_ne (by first | exact nc_ rfl | decide | omega)).trans (e80_)
                refine ga_geti (z := F1 344 39) hm_165 rfl sc_344 rfl ((fl_u_ne (by first | exact nc_ rfl | decide | omega)).trans (e89_)) ?_
                refine fl_iconst hm_165 rfl ?_
                refine ga_iadd (a := F1 344 39) (b := 1) (c := F1 344 39 + 1) hm_165 rfl (by omega) ?_
                refine ga_puti (z := F1 344 39 + 1) hm_165 rfl sc_344 rfl rfl ?_
                refine ga_inc (a := x) (c := x + 1) (lv2 := [(3, .int (Int32.ofInt (x + 1))), (5, .int (Int32.ofInt k2)), (4, .int (Int32.ofInt gd)), (2, .int (Int32.ofInt (F 354 a.toNat))), (0, .ref 344), (1, .int (Int32.ofInt a))]) hm_165 rfl rfl (Nat.le_of_ble_eq_true rfl) rfl rfl ?_
                refine fl_goto hm_165 rfl ?_
                obtain ⟨F90_, q91_⟩ : ∃ Fq_, Fq_ = (fl_u (fl_u F81_ 372 (F1 344 39).toNat z86_) 344 39 (F1 344 39 + 1)) := ⟨_, rfl⟩
                rw [← q91_]
                have g92_ : gi F90_ := by rw [q91_]; exact gi_u (gi_u (g83_) rfl (by omega) (by omega)) rfl (by omega) (by omega)
                have g93_ : fs [(344, 344, 39, 39), (367, 372, 0, 100000), (384, 384, 0, 100000)] F F90_ := by rw [q91_]; exact fs_u (fs_u (g84_) (fs_z (fs_y (by omega)))) rfl
                have e94_ : F90_ 344 39 = F1 344 39 + 1 := by rw [q91_]; exact fl_u_eq
                have e95_ : F1 354 a.toNat = F 354 a.toNat := (hf_F1 354 a.toNat (by first | exact fs_c rfl | exact (fs_n (by omega) (fs_n (by omega) (fs_n (by omega) rfl))))).trans (rfl)
                have e96_ : F1 357 a.toNat = F 357 a.toNat := (hf_F1 357 a.toNat (by first | exact fs_c rfl | exact (fs_n (by omega) (fs_n (by omega) (fs_n (by omega) rfl))))).trans (rfl)
                have e97_ : F38_ 367 (F1 344 39).toNat = a := by rw [q39_]; exact fl_u_eq
                have e98_ : F2 367 (F1 344 39).toNat = a := (hf_F2 367 (F1 344 39).toNat (by first | exact fs_c rfl | exact (fs_n (by omega) rfl))).trans (e97_)
                have e99_ : F57_ 367 (F1 344 39).toNat = a := by rw [q58_]; exact (fl_u_ne (by first | exact nc_ rfl | decide | omega)).trans (e98_)
                have e100_ : F72_ 367 (F1 344 39).toNat = a := by rw [q73_]; exact (fl_u_ne (by first | exact nc_ rfl | decide | omega)).trans (e99_)
                have e101_ : F81_ 367 (F1 344 39).toNat = a := by rw [q82_]; exact (fl_u_ne (by first | exact nc_ rfl | decide | omega)).trans (e100_)
                have e102_ : F90_ 367 (F1 344 39).toNat = a := by rw [q91_]; exact (fl_u_ne (by first | exact nc_ rfl | decide | omega)).trans ((fl_u_ne (by first | exact nc_ rfl | decide | omega)).trans (e101_))
                have e103_ : F57_ 369 (F1 344 39).toNat = z54_ := by rw [q58_]; exact fl_u_eq
                have e104_ : F72_ 369 (F1 344 39).toNat = z54_ := by rw [q73_]; exact (fl_u_ne (by first | exact nc_ rfl | decide | omega)).trans (e103_)
                have e105_ : F81_ 369 (F1 344 39).toNat = z54_ := by rw [q82_]; exact (fl_u_ne (by first | exact nc_ rfl | decide | omega)).trans (e104_)
                have e106_ : F90_ 369 (F1 344 39).toNat = z54_ := by rw [q91_]; exact (fl_u_ne (by first | exact nc_ rfl | decide | omega)).trans ((fl_u_ne (by first | exact nc_ rfl | decide | omega)).trans (e105_))
                have e107_ : F72_ 370 (F1 344 39).toNat = z62_ := by rw [q73_]; exact fl_u_eq
                have e108_ : F81_ 370 (F1 344 39).toNat = z62_ := by rw [q82_]; exact (fl_u_ne (by first | exact nc_ rfl | decide | omega)).trans (e107_)
                have e109_ : F90_ 370 (F1 344 39).toNat = z62_ := by rw [q91_]; exact (fl_u_ne (by first | exact nc_ rfl | decide | omega)).trans ((fl_u_ne (by first | exact nc_ rfl | decide | omega)).trans (e108_))
                have e110_ : F81_ 371 (F1 344 39).toNat = z77_ := by rw [q82_]; exact fl_u_eq
                have e111_ : F90_ 371 (F1 344 39).toNat = z77_ := by rw [q91_]; exact (fl_u_ne (by first | exact nc_ rfl | decide | omega)).trans ((fl_u_ne (by first | exact nc_ rfl | decide | omega)).trans (e110_))
                have e112_ : F90_ 372 (F1 344 39).toNat = z86_ := by rw [q91_]; exact (fl_u_ne (by first | exact nc_ rfl | decide | omega)).trans (fl_u_eq)
                exact fl_R_sub (lv' := [(3, .int (Int32.ofInt (x + 1))), (2, .int (Int32.ofInt (F 354 a.toNat))), (0, .ref 344), (1, .int (Int32.ofInt a))]) rfl rfl (ih4_ _ (by omega) (x + 1) F90_ rfl g92_ (by rw [q91_]; exact fs_u (fs_u ((by rw [q82_]; exact fs_u ((by rw [q73_]; exact fs_u ((by rw [q58_]; exact fs_u ((fs_tr (by rw [q39_]; exact fs_u ((by rw [q11_]; exact fs_u (fs_u (fs_u (hf_F1) rfl) rfl) rfl)) (fs_z (fs_y (by omega)))) hf_F2 rfl)) (fs_z (fs_y (by omega))))) (fs_z (fs_y (by omega))))) (fs_z (fs_y (by omega))))) (fs_z (fs_y (by omega)))) rfl) (⟨by omega, by omega⟩) (sob_add hs1 (by omega) (by omega) (fun j hj => (Eq.trans (a := F90_ 367 j) (b := F81_ 367 j) (by rw [q91_]; exact (fl_u_ne (by first | exact nc_ rfl | decide | omega)).trans ((fl_u_ne (by first | exact nc_ rfl | decide | omega)))) (Eq.trans (a := F81_ 367 j) (b := F72_ 367 j) (by rw [q82_]; exact (fl_u_ne (by first | exact nc_ rfl | decide | omega))) (Eq.trans (a := F72_ 367 j) (b := F57_ 367 j) (by rw [q73_]; exact (fl_u_ne (by first | exact nc_ rfl | decide | omega))) (Eq.trans (a := F57_ 367 j) (b := F2 367 j) (by rw [q58_]; exact (fl_u_ne (by first | exact nc_ rfl | decide | omega))) (Eq.trans (a := F2 367 j) (b := F38_ 367 j) (hf_F2 367 j (by first | exact fs_c rfl | exact (fs_n (by omega) rfl))) (Eq.trans (a := F38_ 367 j) (b := F10_ 367 j) (by rw [q39_]; exact (fl_u_ne (by first | exact nc_ rfl | decide | omega))) (show F10_ 367 j = F1 367 j from (by rw [q11_]; exact (fl_u_ne (by first | exact nc_ rfl | decide | omega)).trans ((fl_u_ne (by first | exact nc_ rfl | decide | omega)).trans ((fl_u_ne (by first | exact nc_ rfl | decide | omega))))))))))))) (fun j => (Eq.trans (a := F90_ 357 j) (b := F81_ 357 j) (by rw [q91_]; exact (fl_u_ne (by first | exact nc_ rfl | decide | omega)).trans ((fl_u_ne (by first | exact nc_ rfl | decide | omega)))) (Eq.trans (a := F81_ 357 j) (b := F72_ 357 j) (by rw [q82_]; exact (fl_u_ne (by first | exact nc_ rfl | decide | omega))) (Eq.trans (a := F72_ 357 j) (b := F57_ 357 j) (by rw [q73_]; exact (fl_u_ne (by first | exact nc_ rfl | decide | omega))) (Eq.trans (a := F57_ 357 j) (b := F2 357 j) (by rw [q58_]; exact (fl_u_ne (by first | exact nc_ rfl | decide | omega))) (Eq.trans (a := F2 357 j) (b := F38_ 357 j) (hf_F2 357 j (by first | exact fs_c rfl | exact (fs_n (by omega) rfl))) (Eq.trans (a := F38_ 357 j) (b := F10_ 357 j) (by rw [q39_]; exact (fl_u_ne (by first | exact nc_ rfl | decide | omega))) (show F10_ 357 j = F1 357 j from (by rw [q11_]; exact (fl_u_ne (by first | exact nc_ rfl | decide | omega)).trans ((fl_u_ne (by first | exact nc_ rfl | decide | omega)).trans ((fl_u_ne (by first | exact nc_ rfl | decide | omega))))))))))))) (fun j => (Eq.trans (a := F90_ 354 j) (b := F81_ 354 j) (by rw [q91_]; exact (fl_u_ne (by first | exact nc_ rfl | decide | omega)).trans ((fl_u_ne (by first | exact nc_ rfl | decide | omega)))) (Eq.trans (a := F81_ 354 j) (b := F72_ 354 j) (by rw [q82_]; exact (fl_u_ne (by first | exact nc_ rfl | decide | omega))) (Eq.trans (a := F72_ 354 j) (b := F57_ 354 j) (by rw [q73_]; exact (fl_u_ne (by first | exact nc_ rfl | decide | omega))) (Eq.trans (a := F57_ 354 j) (b := F2 354 j) (by rw [q58_]; exact (fl_u_ne (by first | exact nc_ rfl | decide | omega))) (Eq.trans (a := F2 354 j) (b := F38_ 354 j) (hf_F2 354 j (by first | exact fs_c rfl | exact (fs_n (by omega) rfl))) (Eq.trans (a := F38_ 354 j) (b := F10_ 354 j) (by rw [q39_]; exact (fl_u_ne (by first | exact nc_ rfl | decide | omega))) (show F10_ 354 j = F1 354 j from (by rw [q11_]; exact (fl_u_ne (by first | exact nc_ rfl | decide | omega)).trans ((fl_u_ne (by first | exact nc_ rfl | decide | omega)).trans ((fl_u_ne (by first | exact nc_ rfl | decide | omega))))))))))))) (fun j hj => Eq.trans (Eq.trans (a := F90_ 368 j) (b := F81_ 368 j) (by rw [q91_]; exact (fl_u_ne (by first | exact nc_ rfl | decide | omega)).trans ((fl_u_ne (by first | exact nc_ rfl | decide | omega)))) (Eq.trans (a := F81_ 368 j) (b := F72_ 368 j) (by rw [q82_]; exact (fl_u_ne (by first | exact nc_ rfl | decide | omega))) (Eq.trans (a := F72_ 368 j) (b := F57_ 368 j) (by rw [q73_]; exact (fl_u_ne (by first | exact nc_ rfl | decide | omega))) (show F57_ 368 j = F2 368 j from (by rw [q58_]; exact (fl_u_ne (by first | exact nc_ rfl | decide | omega))))))) (Eq.trans (ho2 j (by omega)) (Eq.trans (a := F38_ 368 j) (b := F10_ 368 j) (by rw [q39_]; exact (fl_u_ne (by first | exact nc_ rfl | decide | omega))) (show F10_ 368 j = F1 368 j from (by rw [q11_]; exact (fl_u_ne (by first | exact nc_ rfl | decide | omega)).trans ((fl_u_ne (by first | exact nc_ rfl | decide | omega)).trans ((fl_u_ne (by first | exact nc_ rfl | decide | omega))))))))) (e102_) (by omega) (fun p hp hq => by have h9_ := hn2 p (by omega) (by omega); rw [show F90_ 368 _ = F2 368 _ from (Eq.trans (a := F90_ 368 (3 * (F1 344 39).toNat + p)) (b := F81_ 368 (3 * (F1 344 39).toNat + p)) (by rw [q91_]; exact (fl_u_ne (by first | exact nc_ rfl | decide | omega)).trans ((fl_u_ne (by first | exact nc_ rfl | decide | omega)))) (Eq.trans (a := F81_ 368 (3 * (F1 344 39).toNat + p)) (b := F72_ 368 (3 * (F1 344 39).toNat + p)) (by rw [q82_]; exact (fl_u_ne (by first | exact nc_ rfl | decide | omega))) (Eq.trans (a := F72_ 368 (3 * (F1 344 39).toNat + p)) (b := F57_ 368 (3 * (F1 344 39).toNat + p)) (by rw [q73_]; exact (fl_u_ne (by first | exact nc_ rfl | decide | omega))) (show F57_ 368 (3 * (F1 344 39).toNat + p) = F2 368 (3 * (F1 344 39).toNat + p) from (by rw [q58_]; exact (fl_u_ne (by first | exact nc_ rfl | decide | omega)))))))]; rwa [show (F38_ 344 39).toNat = (F1 344 39).toNat by omega] at h9_) (by omega) (fun s => by have h9_ : 0 ≤ F1 354 (F1 367 s).toNat ∧ F1 354 (F1 367 s).toNat ≤ 3 := gi_g hg_F1 rfl; omega)) (by rw [show (x + 1).toNat = x.toNat + 1 by omega]; rw [stR_y (hd ▸ ok_e (by omega) ((eq01 (show gd = (if vfk tl d.1 x.toNat 3 = true then 1 else 0) from (by rw [show k.toNat = 3 by omega] at hgd; exact hgd))).2 (by omega)) hl3 (fun j hj => Eq.trans (show obr F10_ a j = F10_ 384 j from if_neg (by omega)) (hgv j hj)) ((eq01 c31_).2 (by omega))), ← List.append_assoc, List.length_append, List.length_singleton]; omega) (by rw [show (x + 1).toNat = x.toNat + 1 by omega]; rw [stR_y (hd ▸ ok_e (by omega) ((eq01 (show gd = (if vfk tl d.1 x.toNat 3 = true then 1 else 0) from (by rw [show k.toNat = 3 by omega] at hgd; exact hgd))).2 (by omega)) hl3 (fun j hj => Eq.trans (show obr F10_ a j = F10_ 384 j from if_neg (by omega)) (hgv j hj)) ((eq01 c31_).2 (by omega))), ← List.append_assoc]; exact rsts_add (i := (F1 344 39).toNat) (rsts_cg hs2 (fun j => (Eq.trans (a := F90_ 366 j) (b := F81_ 366 j) (by rw [q91_]; exact (fl_u_ne (by first | exact nc_ rfl | decide | omega)).trans ((fl_u_ne (by first | exact nc_ rfl | decide | omega)))) (Eq.trans (a := F81_ 366 j) (b := F72_ 366 j) (by rw [q82_]; exact (fl_u_ne (by first | exact nc_ rfl | decide | omega))) (Eq.trans (a := F72_ 366 j) (b := F57_ 366 j) (by rw [q73_]; exact (fl_u_ne (by first | exact nc_ rfl | decide | omega))) (Eq.trans (a := F57_ 366 j) (b := F2 366 j) (by rw [q58_]; exact (fl_u_ne (by first | exact nc_ rfl | decide | omega))) (Eq.trans (a := F2 366 j) (b := F38_ 366 j) (hf_F2 366 j (by first | exact fs_c rfl | exact (fs_n (by omega) rfl))) (Eq.trans (a := F38_ 366 j) (b := F10_ 366 j) (by rw [q39_]; exact (fl_u_ne (by first | exact nc_ rfl | decide | omega))) (show F10_ 366 j = F1 366 j from (by rw [q11_]; exact (fl_u_ne (by first | exact nc_ rfl | decide | omega)).trans ((fl_u_ne (by first | exact nc_ rfl | decide | omega)).trans ((fl_u_ne (by first | exact nc_ rfl | decide | omega))))))))))))) (fun j hj => Eq.trans (Eq.trans (a := F90_ 368 j) (b := F81_ 368 j) (by rw [q91_]; exact (fl_u_ne (by first | exact nc_ rfl | decide | omega)).trans ((fl_u_ne (by first | exact nc_ rfl | decide | omega)))) (Eq.trans (a := F81_ 368 j) (b := F72_ 368 j) (by rw [q82_]; exact (fl_u_ne (by first | exact nc_ rfl | decide | omega))) (Eq.trans (a := F72_ 368 j) (b := F57_ 368 j) (by rw [q73_]; exact (fl_u_ne (by first | exact nc_ rfl | decide | omega))) (show F57_ 368 j = F2 368 j from (by rw [q58_]; exact (fl_u_ne (by first | exact nc_ rfl | decide | omega))))))) (Eq.trans (ho2 j (by omega)) (Eq.trans (a := F38_ 368 j) (b := F10_ 368 j) (by rw [q39_]; exact (fl_u_ne (by first | exact nc_ rfl | decide | omega))) (show F10_ 368 j = F1 368 j from (by rw [q11_]; exact (fl_u_ne (by first | exact nc_ rfl | decide | omega)).trans ((fl_u_ne (by first | exact nc_ rfl | decide | omega)).trans ((fl_u_ne (by first | exact nc_ rfl | decide | omega))))))))) (fun r j hr hj => (Eq.trans (a := F90_ (r) j) (b := F81_ (r) j) (by rw [q91_]; exact (fl_u_ne (by first | exact nc_ rfl | decide | omega)).trans ((fl_u_ne (by first | exact nc_ rfl | decide | omega)))) (Eq.trans (a := F81_ (r) j) (b := F72_ (r) j) (by rw [q82_]; exact (fl_u_ne (by first | exact nc_ rfl | decide | omega))) (Eq.trans (a := F72_ (r) j) (b := F57_ (r) j) (by rw [q73_]; exact (fl_u_ne (by first | exact nc_ rfl | decide | omega))) (Eq.trans (a := F57_ (r) j) (b := F2 (r) j) (by rw [q58_]; exact (fl_u_ne (by first | exact nc_ rfl | decide | omega))) (Eq.trans (a := F2 (r) j) (b := F38_ (r) j) (hf_F2 (r) j (by first | exact fs_c rfl | exact (fs_n (by omega) rfl))) (Eq.trans (a := F38_ (r) j) (b := F10_ (r) j) (by rw [q39_]; exact (fl_u_ne (by first | exact nc_ rfl | decide | omega))) (show F10_ (r) j = F1 (r) j from (by rw [q11_]; exact (fl_u_ne (by first | exact nc_ rfl | decide | omega)).trans ((fl_u_ne (by first | exact nc_ rfl | decide | omega)).trans ((fl_u_ne (by first | exact nc_ rfl | decide | omega)))))))))))))) (by omega) ⟨Eq.trans (e102_) (by omega), (fun j hj => by have h9_ := hn3 j (by omega) ; rw [show F90_ 368 (3 * (F1 344 39).toNat + j) = F2 368 (3 * (F1 344 39).toNat + j) from (Eq.trans (a := F90_ 368 (3 * (F1 344 39).toNat + j)) (b := F81_ 368 (3 * (F1 344 39).toNat + j)) (by rw [q91_]; exact (fl_u_ne (by first | exact nc_ rfl | decide | omega)).trans ((fl_u_ne (by first | exact nc_ rfl | decide | omega)))) (Eq.trans (a := F81_ 368 (3 * (F1 344 39).toNat + j)) (b := F72_ 368 (3 * (F1 344 39).toNat + j)) (by rw [q82_]; exact (fl_u_ne (by first | exact nc_ rfl | decide | omega))) (Eq.trans (a := F72_ 368 (3 * (F1 344 39).toNat + j)) (b := F57_ 368 (3 * (F1 344 39).toNat + j)) (by rw [q73_]; exact (fl_u_ne (by first | exact nc_ rfl | decide | omega))) (show F57_ 368 (3 * (F1 344 39).toNat + j) = F2 368 (3 * (F1 344 39).toNat + j) from (by rw [q58_]; exact (fl_u_ne (by first | exact nc_ rfl | decide | omega))))))), hd]; exact h9_), ⟨(Eq.trans (e106_) (Eq.trans c56_ (by rw [(show F2 366 = F90_ 366 from funext (fun j => ((Eq.trans (a := F90_ 366 j) (b := F81_ 366 j) (by rw [q91_]; exact (fl_u_ne (by first | exact nc_ rfl | decide | omega)).trans ((fl_u_ne (by first | exact nc_ rfl | decide | omega)))) (Eq.trans (a := F81_ 366 j) (b := F72_ 366 j) (by rw [q82_]; exact (fl_u_ne (by first | exact nc_ rfl | decide | omega))) (Eq.trans (a := F72_ 366 j) (b := F57_ 366 j) (by rw [q73_]; exact (fl_u_ne (by first | exact nc_ rfl | decide | omega))) (show F57_ 366 j = F2 366 j from (by rw [q58_]; exact (fl_u_ne (by first | exact nc_ rfl | decide | omega)))))))).symm)), hd]; exact msk_3 hl3 (fun j hj => Eq.trans (show obr F2 a j = F2 384 j from if_neg (by omega)) (Eq.trans ((Eq.trans (a := F2 384 j) (b := F38_ 384 j) (hf_F2 384 j (by first | exact fs_c rfl | exact (fs_n (by omega) rfl))) (show F38_ 384 j = F10_ 384 j from (by rw [q39_]; exact (fl_u_ne (by first | exact nc_ rfl | decide | omega)))))) (hgv j hj)))))), (Eq.trans (e109_) (Eq.trans c64_ (by rw [(show F57_ 366 = F90_ 366 from funext (fun j => ((Eq.trans (a := F90_ 366 j) (b := F81_ 366 j) (by rw [q91_]; exact (fl_u_ne (by first | exact nc_ rfl | decide | omega)).trans ((fl_u_ne (by first | exact nc_ rfl | decide | omega)))) (Eq.trans (a := F81_ 366 j) (b := F72_ 366 j) (by rw [q82_]; exact (fl_u_ne (by first | exact nc_ rfl | decide | omega))) (show F72_ 366 j = F57_ 366 j from (by rw [q73_]; exact (fl_u_ne (by first | exact nc_ rfl | decide | omega))))))).symm)), hd]; exact msk_3 hl3 (fun j hj => Eq.trans (show obr F57_ a j = F57_ 384 j from if_neg (by omega)) (Eq.trans ((Eq.trans (a := F57_ 384 j) (b := F2 384 j) (by rw [q58_]; exact (fl_u_ne (by first | exact nc_ rfl | decide | omega))) (Eq.trans (a := F2 384 j) (b := F38_ 384 j) (hf_F2 384 j (by first | exact fs_c rfl | exact (fs_n (by omega) rfl))) (show F38_ 384 j = F10_ 384 j from (by rw [q39_]; exact (fl_u_ne (by first | exact nc_ rfl | decide | omega))))))) (hgv j hj))))))⟩, (Eq.trans (e111_) (Eq.trans c79_ (by rw [(show F72_ 366 = F90_ 366 from funext (fun j => ((Eq.trans (a := F90_ 366 j) (b := F81_ 366 j) (by rw [q91_]; exact (fl_u_ne (by first | exact nc_ rfl | decide | omega)).trans ((fl_u_ne (by first | exact nc_ rfl | decide | omega)))) (show F81_ 366 j = F72_ 366 j from (by rw [q82_]; exact (fl_u_ne (by first | exact nc_ rfl | decide | omega)))))).symm)), hd]; exact msk_3 hle3 (fun j hj => Eq.trans (show obr F72_ a j = F72_ 384 j from if_neg (by omega)) (Eq.trans ((Eq.trans (a := F72_ 384 j) (b := F57_ 384 j) (by rw [q73_]; exact (fl_u_ne (by first | exact nc_ rfl | decide | omega))) (Eq.trans (a := F57_ 384 j) (b := F2 384 j) (by rw [q58_]; exact (fl_u_ne (by first | exact nc_ rfl | decide | omega))) (Eq.trans (a := F2 384 j) (b := F38_ 384 j) (hf_F2 384 j (by first | exact fs_c rfl | exact (fs_n (by omega) rfl))) (show F38_ 384 j = F10_ 384 j from (by rw [q39_]; exact (fl_u_ne (by first | exact nc_ rfl | decide | omega)))))))) (hgv j hj)))))), (Eq.trans (e112_) (Eq.trans c88_ (by rw [(show F81_ 366 = F90_ 366 from funext (fun j => ((show F90_ 366 j = F81_ 366 j from (by rw [q91_]; exact (fl_u_ne (by first | exact nc_ rfl | decide | omega)).trans ((fl_u_ne (by first | exact nc_ rfl | decide | omega)))))).symm)), hd]; exact msk_3 hle3 (fun j hj => Eq.trans (show obr F81_ a j = F81_ 384 j from if_neg (by omega)) (Eq.trans ((Eq.trans (a := F81_ 384 j) (b := F72_ 384 j) (by rw [q82_]; exact (fl_u_ne (by first | exact nc_ rfl | decide | omega))) (Eq.trans (a := F72_ 384 j) (b := F57_ 384 j) (by rw [q73_]; exact (fl_u_ne (by first | exact nc_ rfl | decide | omega))) (Eq.trans (a := F57_ 384 j) (b := F2 384 j) (by rw [q58_]; exact (fl_u_ne (by first | exact nc_ rfl | decide | omega))) (Eq.trans (a := F2 384 j) (b := F38_ 384 j) (hf_F2 384 j (by first | exact fs_c rfl | exact (fs_n (by omega) rfl))) (show F38_ 384 j = F10_ 384 j from (by rw [q39_]; exact (fl_u_ne (by first | exact nc_ rfl | decide | omega))))))))) (hgv j hj))))))⟩))
              refine ga_aload_n (v := .ref 344) hm_165 rfl rfl rfl ?_
              refine ga_getr (b := 368) hm_165 rfl sc_344 rfl ?_
              refine fl_iconst hm_165 rfl ?_
              refine ga_aload_n (v := .ref 344) hm_165 rfl rfl rfl ?_
              have e113_ : F2 344 39 = F1 344 39 := (hf_F2 344 39 rfl).trans (e45_)
              refine ga_geti (z := F1 344 39) hm_165 rfl sc_344 rfl (e113_) ?_
              refine ga_imul (a := 3) (b := F1 344 39) (c := 3 * (F1 344 39)) hm_165 rfl (by omega) ?_
              refine ga_iload (z := k2) hm_165 rfl rfl ?_
              refine ga_iadd (a := 3 * (F1 344 39)) (b := k2) (c := 3 * (F1 344 39) + k2) hm_165 rfl (by omega) ?_
              refine ga_iload (z := k2) hm_165 rfl rfl ?_
              refine ga_iload_n (z := F 354 a.toNat) hm_165 rfl rfl ?_
              refine fl_icmp_ge (a := k2) (b := F 354 a.toNat) hm_165 rfl ⟨by omega, by omega⟩ ⟨by omega, by omega⟩ (fun h114_ => ?_) (fun h115_ => ?_)
              ·
                refine fl_iconst hm_165 rfl ?_
                refine fl_iast (z := 3 * (F1 344 39) + k2) (v := -1) hm_165 rfl sc_368 (by omega) (by omega) (by omega) ?_
                refine ga_inc (a := k2) (c := k2 + 1) (lv2 := [(5, .int (Int32.ofInt (k2 + 1))), (4, .int (Int32.ofInt gd)), (3, .int (Int32.ofInt x)), (2, .int (Int32.ofInt (F 354 a.toNat))), (0, .ref 344), (1, .int (Int32.ofInt a))]) hm_165 rfl rfl (Nat.le_of_ble_eq_true rfl) rfl rfl ?_
                refine fl_goto hm_165 rfl ?_
                obtain ⟨F116_, q117_⟩ : ∃ Fq_, Fq_ = (fl_u F2 368 (3 * (F1 344 39) + k2).toNat (-1)) := ⟨_, rfl⟩
                rw [← q117_]
                have g118_ : gi F116_ := by rw [q117_]; exact gi_u (hg_F2) rfl (by omega) (by omega)
                have g119_ : fs [(344, 344, 39, 39), (367, 372, 0, 100000), (384, 384, 0, 100000)] F F116_ := by rw [q117_]; exact fs_u (g47_) (fs_z (fs_y (by omega)))
                exact ih44_ _ (by omega) (k2 + 1) F116_ rfl g118_ (by rw [q117_]; exact fs_u (hf_F2) (fs_y (by omega))) (⟨by omega, by omega⟩) (fun j hj => Eq.trans (show F116_ 368 j = F2 368 j from (by rw [q117_]; exact (fl_u_ne (by first | exact nc_ rfl | decide | omega)))) (ho2 j hj)) (by rw [q117_]; exact so_w hn2 (by omega) (by omega) (by omega)) (by rw [q117_]; exact so_3 (P := 3 * (F1 344 39) + k2) hn3 (by omega) (by omega) (by rw [if_neg (by omega)]))
              refine ga_aload_n (v := .ref 344) hm_165 rfl rfl rfl ?_
              refine ga_getr (b := 384) hm_165 rfl sc_344 rfl ?_
              refine ga_iload (z := k2) hm_165 rfl rfl ?_
              have e120_ : F38_ 384 k2.toNat = F10_ 384 k2.toNat := by rw [q39_]; exact fl_u_ne (by first | exact nc_ rfl | decide | omega)
              have e121_ : F2 384 k2.toNat = F10_ 384 k2.toNat := (hf_F2 384 k2.toNat (by first | exact fs_c rfl | exact (fs_n (by omega) rfl))).trans (e120_)
              have b122_ : 0 ≤ F10_ 384 k2.toNat ∧ F10_ 384 k2.toNat ≤ 5 := gi_g g12_ rfl
              refine ga_iald (z := k2) (w := F10_ 384 k2.toNat) hm_165 rfl sc_384 (by omega) (by omega) (by omega) (e121_) ?_
              refine fl_goto hm_165 rfl ?_
              refine fl_iast (z := 3 * (F1 344 39) + k2) (v := F10_ 384 k2.toNat) hm_165 rfl sc_368 (by omega) (by omega) (by omega) ?_
              refine ga_inc (a := k2) (c := k2 + 1) (lv2 := [(5, .int (Int32.ofInt (k2 + 1))), (4, .int (Int32.ofInt gd)), (3, .int (Int32.ofInt x)), (2, .int (Int32.ofInt (F 354 a.toNat))), (0, .ref 344), (1, .int (Int32.ofInt a))]) hm_165 rfl rfl (Nat.le_of_ble_eq_true rfl) rfl rfl ?_
              refine fl_goto hm_165 rfl ?_
              obtain ⟨F123_, q124_⟩ : ∃ Fq_, Fq_ = (fl_u F2 368 (3 * (F1 344 39) + k2).toNat (F10_ 384 k2.toNat)) := ⟨_, rfl⟩
              rw [← q124_]
              have g125_ : gi F123_ := by rw [q124_]; exact gi_u (hg_F2) rfl (by omega) (by omega)
              have g126_ : fs [(344, 344, 39, 39), (367, 372, 0, 100000), (384, 384, 0, 100000)] F F123_ := by rw [q124_]; exact fs_u (g47_) (fs_z (fs_y (by omega)))
              exact ih44_ _ (by omega) (k2 + 1) F123_ rfl g125_ (by rw [q124_]; exact fs_u (hf_F2) (fs_y (by omega))) (⟨by omega, by omega⟩) (fun j hj => Eq.trans (show F123_ 368 j = F2 368 j from (by rw [q124_]; exact (fl_u_ne (by first | exact nc_ rfl | decide | omega)))) (ho2 j hj)) (by rw [q124_]; exact so_w hn2 (by omega) (by omega) (by omega)) (by rw [q124_]; exact so_3 (P := 3 * (F1 344 39) + k2) hn3 (by omega) (by omega) (by rw [if_pos (by omega)]; exact Eq.trans (rfl) (hgv k2.toNat (by omega))))
            exact L43_ _ (0) F38_ rfl g40_ fs_refl (⟨by omega, by omega⟩) (fun _ _ => rfl) (fun p h1 _ => absurd h1 (by omega)) (fun p h1 => absurd h1 (by omega))
          refine fl_iconst hm_165 rfl ?_
          refine gr_i (z := 0) hm_165 rfl rfl (ga_nb (by omega)) ?_
          exact Or.inl ⟨F10_, rfl, g12_, g13_, rfl, (by have h9_ := stR_y (tl := tl) (D := D) (hd ▸ ok_e (by omega) ((eq01 (show gd = (if vfk tl d.1 x.toNat 3 = true then 1 else 0) from (by rw [show k.toNat = 3 by omega] at hgd; exact hgd))).2 (by omega)) hl3 (fun j hj => Eq.trans (show obr F10_ a j = F10_ 384 j from if_neg (by omega)) (hgv j hj)) ((eq01 c31_).2 (by omega))); have h8_ := stR_le (tl := tl) (D := D) (a := a.toNat) (show x.toNat + 1 ≤ 216 by omega); rw [stR_end, h9_] at h8_; simp only [List.length_append, List.length_singleton] at h8_ hc1 ⊢; omega), (sob_cg hs1 (show F10_ 344 39 = F1 344 39 from (by rw [q11_]; exact (fl_u_ne (by first | exact nc_ rfl | decide | omega)).trans ((fl_u_ne (by first | exact nc_ rfl | decide | omega)).trans ((fl_u_ne (by first | exact nc_ rfl | decide | omega)))))) (fun j => (show F10_ 357 j = F1 357 j from (by rw [q11_]; exact (fl_u_ne (by first | exact nc_ rfl | decide | omega)).trans ((fl_u_ne (by first | exact nc_ rfl | decide | omega)).trans ((fl_u_ne (by first | exact nc_ rfl | decide | omega))))))) (fun j => (show F10_ 367 j = F1 367 j from (by rw [q11_]; exact (fl_u_ne (by first | exact nc_ rfl | decide | omega)).trans ((fl_u_ne (by first | exact nc_ rfl | decide | omega)).trans ((fl_u_ne (by first | exact nc_ rfl | decide | omega))))))) (fun j => (show F10_ 354 j = F1 354 j from (by rw [q11_]; exact (fl_u_ne (by first | exact nc_ rfl | decide | omega)).trans ((fl_u_ne (by first | exact nc_ rfl | decide | omega)).trans ((fl_u_ne (by first | exact nc_ rfl | decide | omega))))))) (fun j => (show F10_ 368 j = F1 368 j from (by rw [q11_]; exact (fl_u_ne (by first | exact nc_ rfl | decide | omega)).trans ((fl_u_ne (by first | exact nc_ rfl | decide | omega)).trans ((fl_u_ne (by first | exact nc_ rfl | decide | omega))))))))⟩
        refine fl_goto hm_165 rfl ?_
        refine ga_inc (a := x) (c := x + 1) (lv2 := [(3, .int (Int32.ofInt (x + 1))), (5, .int (Int32.ofInt k)), (4, .int (Int32.ofInt gd)), (2, .int (Int32.ofInt (F 354 a.toNat))), (0, .ref 344), (1, .int (Int32.ofInt a))]) hm_165 rfl rfl (Nat.le_of_ble_eq_true rfl) rfl rfl ?_
        refine fl_goto hm_165 rfl ?_
        have e127_ : F10_ 344 39 = F1 344 39 := by rw [q11_]; exact (fl_u_ne (by first | exact nc_ rfl | decide | omega)).trans ((fl_u_ne (by first | exact nc_ rfl | decide | omega)).trans (fl_u_ne (by first | exact nc_ rfl | decide | omega)))
        have b128_ : 0 ≤ F1 344 39 ∧ F1 344 39 ≤ 40 := gi_g hg_F1 rfl
        exact fl_R_sub (lv' := [(3, .int (Int32.ofInt (x + 1))), (2, .int (Int32.ofInt (F 354 a.toNat))), (0, .ref 344), (1, .int (Int32.ofInt a))]) rfl rfl (ih4_ _ (by omega) (x + 1) F10_ rfl g12_ (by rw [q11_]; exact fs_u (fs_u (fs_u (hf_F1) rfl) rfl) rfl) (⟨by omega, by omega⟩) (sob_cg hs1 (show F10_ 344 39 = F1 344 39 from (by rw [q11_]; exact (fl_u_ne (by first | exact nc_ rfl | decide | omega)).trans ((fl_u_ne (by first | exact nc_ rfl | decide | omega)).trans ((fl_u_ne (by first | exact nc_ rfl | decide | omega)))))) (fun j => (show F10_ 357 j = F1 357 j from (by rw [q11_]; exact (fl_u_ne (by first | exact nc_ rfl | decide | omega)).trans ((fl_u_ne (by first | exact nc_ rfl | decide | omega)).trans ((fl_u_ne (by first | exact nc_ rfl | decide | omega))))))) (fun j => (show F10_ 367 j = F1 367 j from (by rw [q11_]; exact (fl_u_ne (by first | exact nc_ rfl | decide | omega)).trans ((fl_u_ne (by first | exact nc_ rfl | decide | omega)).trans ((fl_u_ne (by first | exact nc_ rfl | decide | omega))))))) (fun j => (show F10_ 354 j = F1 354 j from (by rw [q11_]; exact (fl_u_ne (by first | exact nc_ rfl | decide | omega)).trans ((fl_u_ne (by first | exact nc_ rfl | decide | omega)).trans ((fl_u_ne (by first | exact nc_ rfl | decide | omega))))))) (fun j => (show F10_ 368 j = F1 368 j from (by rw [q11_]; exact (fl_u_ne (by first | exact nc_ rfl | decide | omega)).trans ((fl_u_ne (by first | exact nc_ rfl | decide | omega)).trans ((fl_u_ne (by first | exact nc_ rfl | decide | omega)))))))) (by rw [show (x + 1).toNat = x.toNat + 1 by omega]; rw [stR_n (hd ▸ ok_e (by omega) ((eq01 (show gd = (if vfk tl d.1 x.toNat 3 = true then 1 else 0) from (by rw [show k.toNat = 3 by omega] at hgd; exact hgd))).2 (by omega)) hl3 (fun j hj => Eq.trans (show obr F10_ a j = F10_ 384 j from if_neg (by omega)) (hgv j hj)) ((eq01 c31_).1 (by omega)))]; omega) (by rw [show (x + 1).toNat = x.toNat + 1 by omega]; rw [stR_n (hd ▸ ok_e (by omega) ((eq01 (show gd = (if vfk tl d.1 x.toNat 3 = true then 1 else 0) from (by rw [show k.toNat = 3 by omega] at hgd; exact hgd))).2 (by omega)) hl3 (fun j hj => Eq.trans (show obr F10_ a j = F10_ 384 j from if_neg (by omega)) (hgv j hj)) ((eq01 c31_).1 (by omega)))]; exact (rsts_cg hs2 (fun j => (show F10_ 366 j = F1 366 j from (by rw [q11_]; exact (fl_u_ne (by first | exact nc_ rfl | decide | omega)).trans ((fl_u_ne (by first | exact nc_ rfl | decide | omega)).trans ((fl_u_ne (by first | exact nc_ rfl | decide | omega))))))) (fun j hj => (show F10_ 368 j = F1 368 j from (by rw [q11_]; exact (fl_u_ne (by first | exact nc_ rfl | decide | omega)).trans ((fl_u_ne (by first | exact nc_ rfl | decide | omega)).trans ((fl_u_ne (by first | exact nc_ rfl | decide | omega))))))) (fun r j hr hj => (show F10_ (r) j = F1 (r) j from (by rw [q11_]; exact (fl_u_ne (by first | exact nc_ rfl | decide | omega)).trans ((fl_u_ne (by first | exact nc_ rfl | decide | omega)).trans ((fl_u_ne (by first | exact nc_ rfl | decide | omega))))))))))
      refine ga_iload (z := gd) hm_165 rfl rfl ?_
      refine fl_if_eq (a := gd) hm_165 rfl ⟨by omega, by omega⟩ (fun h129_ => ?_) (fun h130_ => ?_)
      ·
        refine fl_iconst hm_165 rfl ?_
        refine ga_istore (lv2 := [(4, .int (Int32.ofInt 0)), (5, .int (Int32.ofInt k)), (3, .int (Int32.ofInt x)), (2, .int (Int32.ofInt (F 354 a.toNat))), (0, .ref 344), (1, .int (Int32.ofInt a))]) hm_165 rfl (Nat.le_of_ble_eq_true rfl) rfl ?_
        refine ga_inc (a := k) (c := k + 1) (lv2 := [(5, .int (Int32.ofInt (k + 1))), (4, .int (Int32.ofInt 0)), (3, .int (Int32.ofInt x)), (2, .int (Int32.ofInt (F 354 a.toNat))), (0, .ref 344), (1, .int (Int32.ofInt a))]) hm_165 rfl rfl (Nat.le_of_ble_eq_true rfl) rfl rfl ?_
        refine fl_goto hm_165 rfl ?_
        exact ih16_ _ (by omega) (0) (k + 1) rfl (⟨by omega, by omega⟩) (by rw [show (k + 1).toNat = k.toNat + 1 by omega]; have hv_ := hgv k.toNat (by omega); have ho_ : (F10_ 384 k.toNat).toNat = gvn x.toNat k.toNat := (by rw [hv_]; rfl); have h33_ : F10_ 344 33 = F 344 33 := (Eq.trans (a := F10_ 344 33) (b := F1 344 33) (by rw [q11_]; exact (fl_u_ne (by first | exact nc_ rfl | decide | omega)).trans ((fl_u_ne (by first | exact nc_ rfl | decide | omega)).trans ((fl_u_ne (by first | exact nc_ rfl | decide | omega))))) (show F1 344 33 = F 344 33 from (hf_F1 344 33 (by first | exact fs_c rfl | exact (fs_n (by omega) (fs_n (by omega) (fs_n (by omega) rfl))))))); have hT_ : k.toNat < d.1.length → F10_ 355 (3 * a + k).toNat = d.1.getD k.toNat 0 + 1 := (fun h_ => Eq.trans ((Eq.trans (a := F10_ 355 (3 * a + k).toNat) (b := F1 355 (3 * a + k).toNat) (by rw [q11_]; exact (fl_u_ne (by first | exact nc_ rfl | decide | omega)).trans ((fl_u_ne (by first | exact nc_ rfl | decide | omega)).trans ((fl_u_ne (by first | exact nc_ rfl | decide | omega))))) (show F1 355 (3 * a + k).toNat = F 355 (3 * a + k).toNat from (hf_F1 355 (3 * a + k).toNat (by first | exact fs_c rfl | exact (fs_n (by omega) (fs_n (by omega) (fs_n (by omega) rfl)))))))) (by have h9 := rty_get hDa.1.2 (j := k.toNat) h_; rwa [show 3 * a.toNat + k.toNat = (3 * a + k).toNat by omega] at h9)); have hB_ : gvn x.toNat k.toNat < tl.length → F10_ 365 (F10_ 384 k.toNat).toNat = tl.getD (gvn x.toNat k.toNat) 0 + 1 := (fun h_ => by rw [ho_]; exact Eq.trans ((Eq.trans (a := F10_ 365 (gvn x.toNat k.toNat)) (b := F1 365 (gvn x.toNat k.toNat)) (by rw [q11_]; exact (fl_u_ne (by first | exact nc_ rfl | decide | omega)).trans ((fl_u_ne (by first | exact nc_ rfl | decide | omega)).trans ((fl_u_ne (by first | exact nc_ rfl | decide | omega))))) (show F1 365 (gvn x.toNat k.toNat) = F 365 (gvn x.toNat k.toNat) from (hf_F1 365 (gvn x.toNat k.toNat) (by first | exact fs_c rfl | exact (fs_n (by omega) (fs_n (by omega) (fs_n (by omega) rfl)))))))) (by have h9 := rty_get hob.2 (j := gvn x.toNat k.toNat) h_; rwa [Nat.zero_add] at h9)); exact vfk_0 hgd (by omega)) (⟨by omega, by omega⟩)
      refine ga_iload (z := k) hm_165 rfl rfl ?_
      refine ga_iload_n (z := F 354 a.toNat) hm_165 rfl rfl ?_
      refine fl_icmp_ge (a := k) (b := F 354 a.toNat) hm_165 rfl ⟨by omega, by omega⟩ ⟨by omega, by omega⟩ (fun h131_ => ?_) (fun h132_ => ?_)
      ·
        refine ga_aload_n (v := .ref 344) hm_165 rfl rfl rfl ?_
        refine ga_getr (b := 384) hm_165 rfl sc_344 rfl ?_
        refine ga_iload (z := k) hm_165 rfl rfl ?_
        have b133_ : 0 ≤ F10_ 384 k.toNat ∧ F10_ 384 k.toNat ≤ 5 := gi_g g12_ rfl
        refine ga_iald (z := k) (w := F10_ 384 k.toNat) hm_165 rfl sc_384 (by omega) (by omega) (by omega) (rfl) ?_
        refine fx_if_ne (a := F10_ 384 k.toNat) hm_165 rfl ⟨by omega, by omega⟩ (fun h134_ => ?_) (fun h135_ => ?_)
        ·
          refine fl_iconst hm_165 rfl ?_
          refine ga_istore (lv2 := [(4, .int (Int32.ofInt 0)), (5, .int (Int32.ofInt k)), (3, .int (Int32.ofInt x)), (2, .int (Int32.ofInt (F 354 a.toNat))), (0, .ref 344), (1, .int (Int32.ofInt a))]) hm_165 rfl (Nat.le_of_ble_eq_true rfl) rfl ?_
          refine ga_inc (a := k) (c := k + 1) (lv2 := [(5, .int (Int32.ofInt (k + 1))), (4, .int (Int32.ofInt 0)), (3, .int (Int32.ofInt x)), (2, .int (Int32.ofInt (F 354 a.toNat))), (0, .ref 344), (1, .int (Int32.ofInt a))]) hm_165 rfl rfl (Nat.le_of_ble_eq_true rfl) rfl rfl ?_
          refine fl_goto hm_165 rfl ?_
          exact ih16_ _ (by omega) (0) (k + 1) rfl (⟨by omega, by omega⟩) (by rw [show (k + 1).toNat = k.toNat + 1 by omega]; have hv_ := hgv k.toNat (by omega); have ho_ : (F10_ 384 k.toNat).toNat = gvn x.toNat k.toNat := (by rw [hv_]; rfl); have h33_ : F10_ 344 33 = F 344 33 := (Eq.trans (a := F10_ 344 33) (b := F1 344 33) (by rw [q11_]; exact (fl_u_ne (by first | exact nc_ rfl | decide | omega)).trans ((fl_u_ne (by first | exact nc_ rfl | decide | omega)).trans ((fl_u_ne (by first | exact nc_ rfl | decide | omega))))) (show F1 344 33 = F 344 33 from (hf_F1 344 33 (by first | exact fs_c rfl | exact (fs_n (by omega) (fs_n (by omega) (fs_n (by omega) rfl))))))); have hT_ : k.toNat < d.1.length → F10_ 355 (3 * a + k).toNat = d.1.getD k.toNat 0 + 1 := (fun h_ => Eq.trans ((Eq.trans (a := F10_ 355 (3 * a + k).toNat) (b := F1 355 (3 * a + k).toNat) (by rw [q11_]; exact (fl_u_ne (by first | exact nc_ rfl | decide | omega)).trans ((fl_u_ne (by first | exact nc_ rfl | decide | omega)).trans ((fl_u_ne (by first | exact nc_ rfl | decide | omega))))) (show F1 355 (3 * a + k).toNat = F 355 (3 * a + k).toNat from (hf_F1 355 (3 * a + k).toNat (by first | exact fs_c rfl | exact (fs_n (by omega) (fs_n (by omega) (fs_n (by omega) rfl)))))))) (by have h9 := rty_get hDa.1.2 (j := k.toNat) h_; rwa [show 3 * a.toNat + k.toNat = (3 * a + k).toNat by omega] at h9)); have hB_ : gvn x.toNat k.toNat < tl.length → F10_ 365 (F10_ 384 k.toNat).toNat = tl.getD (gvn x.toNat k.toNat) 0 + 1 := (fun h_ => by rw [ho_]; exact Eq.trans ((Eq.trans (a := F10_ 365 (gvn x.toNat k.toNat)) (b := F1 365 (gvn x.toNat k.toNat)) (by rw [q11_]; exact (fl_u_ne (by first | exact nc_ rfl | decide | omega)).trans ((fl_u_ne (by first | exact nc_ rfl | decide | omega)).trans ((fl_u_ne (by first | exact nc_ rfl | decide | omega))))) (show F1 365 (gvn x.toNat k.toNat) = F 365 (gvn x.toNat k.toNat) from (hf_F1 365 (gvn x.toNat k.toNat) (by first | exact fs_c rfl | exact (fs_n (by omega) (fs_n (by omega) (fs_n (by omega) rfl)))))))) (by have h9 := rty_get hob.2 (j := gvn x.toNat k.toNat) h_; rwa [Nat.zero_add] at h9)); exact vfk_0 hgd (by omega)) (⟨by omega, by omega⟩)
        refine fl_iconst hm_165 rfl ?_
        refine fl_goto hm_165 rfl ?_
        refine ga_istore (lv2 := [(4, .int (Int32.ofInt 1)), (5, .int (Int32.ofInt k)), (3, .int (Int32.ofInt x)), (2, .int (Int32.ofInt (F 354 a.toNat))), (0, .ref 344), (1, .int (Int32.ofInt a))]) hm_165 rfl (Nat.le_of_ble_eq_true rfl) rfl ?_
        refine ga_inc (a := k) (c := k + 1) (lv2 := [(5, .int (Int32.ofInt (k + 1))), (4, .int (Int32.ofInt 1)), (3, .int (Int32.ofInt x)), (2, .int (Int32.ofInt (F 354 a.toNat))), (0, .ref 344), (1, .int (Int32.ofInt a))]) hm_165 rfl rfl (Nat.le_of_ble_eq_true rfl) rfl rfl ?_
        refine fl_goto hm_165 rfl ?_
        exact ih16_ _ (by omega) (1) (k + 1) rfl (⟨by omega, by omega⟩) (by rw [show (k + 1).toNat = k.toNat + 1 by omega]; have hv_ := hgv k.toNat (by omega); have ho_ : (F10_ 384 k.toNat).toNat = gvn x.toNat k.toNat := (by rw [hv_]; rfl); have h33_ : F10_ 344 33 = F 344 33 := (Eq.trans (a := F10_ 344 33) (b := F1 344 33) (by rw [q11_]; exact (fl_u_ne (by first | exact nc_ rfl | decide | omega)).trans ((fl_u_ne (by first | exact nc_ rfl | decide | omega)).trans ((fl_u_ne (by first | exact nc_ rfl | decide | omega))))) (show F1 344 33 = F 344 33 from (hf_F1 344 33 (by first | exact fs_c rfl | exact (fs_n (by omega) (fs_n (by omega) (fs_n (by omega) rfl))))))); have hT_ : k.toNat < d.1.length → F10_ 355 (3 * a + k).toNat = d.1.getD k.toNat 0 + 1 := (fun h_ => Eq.trans ((Eq.trans (a := F10_ 355 (3 * a + k).toNat) (b := F1 355 (3 * a + k).toNat) (by rw [q11_]; exact (fl_u_ne (by first | exact nc_ rfl | decide | omega)).trans ((fl_u_ne (by first | exact nc_ rfl | decide | omega)).trans ((fl_u_ne (by first | exact nc_ rfl | decide | omega))))) (show F1 355 (3 * a + k).toNat = F 355 (3 * a + k).toNat from (hf_F1 355 (3 * a + k).toNat (by first | exact fs_c rfl | exact (fs_n (by omega) (fs_n (by omega) (fs_n (by omega) rfl)))))))) (by have h9 := rty_get hDa.1.2 (j := k.toNat) h_; rwa [show 3 * a.toNat + k.toNat = (3 * a + k).toNat by omega] at h9)); have hB_ : gvn x.toNat k.toNat < tl.length → F10_ 365 (F10_ 384 k.toNat).toNat = tl.getD (gvn x.toNat k.toNat) 0 + 1 := (fun h_ => by rw [ho_]; exact Eq.trans ((Eq.trans (a := F10_ 365 (gvn x.toNat k.toNat)) (b := F1 365 (gvn x.toNat k.toNat)) (by rw [q11_]; exact (fl_u_ne (by first | exact nc_ rfl | decide | omega)).trans ((fl_u_ne (by first | exact nc_ rfl | decide | omega)).trans ((fl_u_ne (by first | exact nc_ rfl | decide | omega))))) (show F1 365 (gvn x.toNat k.toNat) = F 365 (gvn x.toNat k.toNat) from (hf_F1 365 (gvn x.toNat k.toNat) (by first | exact fs_c rfl | exact (fs_n (by omega) (fs_n (by omega) (fs_n (by omega) rfl)))))))) (by have h9 := rty_get hob.2 (j := gvn x.toNat k.toNat) h_; rwa [Nat.zero_add] at h9)); exact vfk_1 hgd (by omega) (by omega)) (⟨by omega, by omega⟩)
      refine ga_aload_n (v := .ref 344) hm_165 rfl rfl rfl ?_
      refine ga_getr (b := 384) hm_165 rfl sc_344 rfl ?_
      refine ga_iload (z := k) hm_165 rfl rfl ?_
      have b136_ : 0 ≤ F10_ 384 k.toNat ∧ F10_ 384 k.toNat ≤ 5 := gi_g g12_ rfl
      refine ga_iald (z := k) (w := F10_ 384 k.toNat) hm_165 rfl sc_384 (by omega) (by omega) (by omega) (rfl) ?_
      refine ga_aload_n (v := .ref 344) hm_165 rfl rfl rfl ?_
      have e137_ : F1 344 33 = F 344 33 := (hf_F1 344 33 rfl).trans (rfl)
      have e138_ : F10_ 344 33 = F 344 33 := by rw [q11_]; exact (fl_u_ne (by first | exact nc_ rfl | decide | omega)).trans ((fl_u_ne (by first | exact nc_ rfl | decide | omega)).trans ((fl_u_ne (by first | exact nc_ rfl | decide | omega)).trans (e137_)))
      have b139_ : 0 ≤ F 344 33 ∧ F 344 33 ≤ 6 := gi_g hgi rfl
      refine ga_geti (z := F 344 33) hm_165 rfl sc_344 rfl (e138_) ?_
      refine fl_icmp_ge (a := F10_ 384 k.toNat) (b := F 344 33) hm_165 rfl ⟨by omega, by omega⟩ ⟨by omega, by omega⟩ (fun h140_ => ?_) (fun h141_ => ?_)
      ·
        refine fl_iconst hm_165 rfl ?_
        refine ga_istore (lv2 := [(4, .int (Int32.ofInt 0)), (5, .int (Int32.ofInt k)), (3, .int (Int32.ofInt x)), (2, .int (Int32.ofInt (F 354 a.toNat))), (0, .ref 344), (1, .int (Int32.ofInt a))]) hm_165 rfl (Nat.le_of_ble_eq_true rfl) rfl ?_
        refine ga_inc (a := k) (c := k + 1) (lv2 := [(5, .int (Int32.ofInt (k + 1))), (4, .int (Int32.ofInt 0)), (3, .int (Int32.ofInt x)), (2, .int (Int32.ofInt (F 354 a.toNat))), (0, .ref 344), (1, .int (Int32.ofInt a))]) hm_165 rfl rfl (Nat.le_of_ble_eq_true rfl) rfl rfl ?_
        refine fl_goto hm_165 rfl ?_
        exact ih16_ _ (by omega) (0) (k + 1) rfl (⟨by omega, by omega⟩) (by rw [show (k + 1).toNat = k.toNat + 1 by omega]; have hv_ := hgv k.toNat (by omega); have ho_ : (F10_ 384 k.toNat).toNat = gvn x.toNat k.toNat := (by rw [hv_]; rfl); have h33_ : F10_ 344 33 = F 344 33 := (Eq.trans (a := F10_ 344 33) (b := F1 344 33) (by rw [q11_]; exact (fl_u_ne (by first | exact nc_ rfl | decide | omega)).trans ((fl_u_ne (by first | exact nc_ rfl | decide | omega)).trans ((fl_u_ne (by first | exact nc_ rfl | decide | omega))))) (show F1 344 33 = F 344 33 from (hf_F1 344 33 (by first | exact fs_c rfl | exact (fs_n (by omega) (fs_n (by omega) (fs_n (by omega) rfl))))))); have hT_ : k.toNat < d.1.length → F10_ 355 (3 * a + k).toNat = d.1.getD k.toNat 0 + 1 := (fun h_ => Eq.trans ((Eq.trans (a := F10_ 355 (3 * a + k).toNat) (b := F1 355 (3 * a + k).toNat) (by rw [q11_]; exact (fl_u_ne (by first | exact nc_ rfl | decide | omega)).trans ((fl_u_ne (by first | exact nc_ rfl | decide | omega)).trans ((fl_u_ne (by first | exact nc_ rfl | decide | omega))))) (show F1 355 (3 * a + k).toNat = F 355 (3 * a + k).toNat from (hf_F1 355 (3 * a + k).toNat (by first | exact fs_c rfl | exact (fs_n (by omega) (fs_n (by omega) (fs_n (by omega) rfl)))))))) (by have h9 := rty_get hDa.1.2 (j := k.toNat) h_; rwa [show 3 * a.toNat + k.toNat = (3 * a + k).toNat by omega] at h9)); have hB_ : gvn x.toNat k.toNat < tl.length → F10_ 365 (F10_ 384 k.toNat).toNat = tl.getD (gvn x.toNat k.toNat) 0 + 1 := (fun h_ => by rw [ho_]; exact Eq.trans ((Eq.trans (a := F10_ 365 (gvn x.toNat k.toNat)) (b := F1 365 (gvn x.toNat k.toNat)) (by rw [q11_]; exact (fl_u_ne (by first | exact nc_ rfl | decide | omega)).trans ((fl_u_ne (by first | exact nc_ rfl | decide | omega)).trans ((fl_u_ne (by first | exact nc_ rfl | decide | omega))))) (show F1 365 (gvn x.toNat k.toNat) = F 365 (gvn x.toNat k.toNat) from (hf_F1 365 (gvn x.toNat k.toNat) (by first | exact fs_c rfl | exact (fs_n (by omega) (fs_n (by omega) (fs_n (by omega) rfl)))))))) (by have h9 := rty_get hob.2 (j := gvn x.toNat k.toNat) h_; rwa [Nat.zero_add] at h9)); exact vfk_0 hgd (by omega)) (⟨by omega, by omega⟩)
      refine ga_aload_n (v := .ref 344) hm_165 rfl rfl rfl ?_
      refine ga_aload_n (v := .ref 344) hm_165 rfl rfl rfl ?_
      refine ga_getr (b := 384) hm_165 rfl sc_344 rfl ?_
      refine ga_iload (z := k) hm_165 rfl rfl ?_
      refine ga_iald (z := k) (w := F10_ 384 k.toNat) hm_165 rfl sc_384 (by omega) (by omega) (by omega) (rfl) ?_
      refine ga_aload_n (v := .ref 344) hm_165 rfl rfl rfl ?_
      refine ga_getr (b := 355) hm_165 rfl sc_344 rfl ?_
      refine fl_iconst hm_165 rfl ?_
      refine ga_iload_n (z := a) hm_165 rfl rfl ?_
      refine ga_imul (a := 3) (b := a) (c := 3 * a) hm_165 rfl (by omega) ?_
      refine ga_iload (z := k) hm_165 rfl rfl ?_
      refine ga_iadd (a := 3 * a) (b := k) (c := 3 * a + k) hm_165 rfl (by omega) ?_
      have e142_ : F1 355 (3 * a + k).toNat = F 355 (3 * a + k).toNat := (hf_F1 355 (3 * a + k).toNat (by first | exact fs_c rfl | exact (fs_n (by omega) (fs_n (by omega) (fs_n (by omega) rfl))))).trans (rfl)
      have e143_ : F10_ 355 (3 * a + k).toNat = F 355 (3 * a + k).toNat := by rw [q11_]; exact (fl_u_ne (by first | exact nc_ rfl | decide | omega)).trans ((fl_u_ne (by first | exact nc_ rfl | decide | omega)).trans ((fl_u_ne (by first | exact nc_ rfl | decide | omega)).trans (e142_)))
      have b144_ : 0 ≤ F 355 (3 * a + k).toNat ∧ F 355 (3 * a + k).toNat ≤ 4 := gi_g hgi rfl
      refine ga_iald (z := 3 * a + k) (w := F 355 (3 * a + k).toNat) hm_165 rfl sc_355 (by omega) (by omega) (by omega) (e143_) ?_
      refine gIi (nY := 3) (F := 0) (L := 0) (As := [.int (Int32.ofInt (F10_ 384 k.toNat)), .int (Int32.ofInt (F 355 (3 * a + k).toNat))]) (b := 344) (rest := []) hm_165 rfl hm_164 rfl rfl (fl_ob sc_344) rfl rfl rfl rfl rfl (by omega) (by omega) ?_
      intro f145_ l146_ h147_ h148_
      show fl_R xi_ms 164 f145_ l146_ 0 [(0, .ref 344), (1, .int (Int32.ofInt (F10_ 384 k.toNat))), (2, .int (Int32.ofInt (F 355 (3 * a + k).toNat)))] [] _ _
      refine ga_iload_n (z := F 355 (3 * a + k).toNat) hm_164 rfl rfl ?_
      refine fl_if_eq (a := F 355 (3 * a + k).toNat) hm_164 rfl ⟨by omega, by omega⟩ (fun h149_ => ?_) (fun h150_ => ?_)
      ·
        refine fl_iconst hm_164 rfl ?_
        refine fl_goto hm_164 rfl ?_
        refine gr_i hm_164 rfl rfl (ga_nb (by omega)) ?_
        clear h147_ h148_ f145_ l146_
        refine fl_if_eq hm_165 rfl ⟨by omega, by omega⟩ (fun h => absurd h (by omega)) (fun _ => ?_)
        refine fl_goto hm_165 rfl ?_
        refine fl_iconst hm_165 rfl ?_
        refine fl_goto hm_165 rfl ?_
        refine ga_istore (lv2 := [(4, .int (Int32.ofInt 1)), (5, .int (Int32.ofInt k)), (3, .int (Int32.ofInt x)), (2, .int (Int32.ofInt (F 354 a.toNat))), (0, .ref 344), (1, .int (Int32.ofInt a))]) hm_165 rfl (Nat.le_of_ble_eq_true rfl) rfl ?_
        refine ga_inc (a := k) (c := k + 1) (lv2 := [(5, .int (Int32.ofInt (k + 1))), (4, .int (Int32.ofInt 1)), (3, .int (Int32.ofInt x)), (2, .int (Int32.ofInt (F 354 a.toNat))), (0, .ref 344), (1, .int (Int32.ofInt a))]) hm_165 rfl rfl (Nat.le_of_ble_eq_true rfl) rfl rfl ?_
        refine fl_goto hm_165 rfl ?_
        exact ih16_ _ (by omega) (1) (k + 1) rfl (⟨by omega, by omega⟩) (by rw [show (k + 1).toNat = k.toNat + 1 by omega]; have hv_ := hgv k.toNat (by omega); have ho_ : (F10_ 384 k.toNat).toNat = gvn x.toNat k.toNat := (by rw [hv_]; rfl); have h33_ : F10_ 344 33 = F 344 33 := (Eq.trans (a := F10_ 344 33) (b := F1 344 33) (by rw [q11_]; exact (fl_u_ne (by first | exact nc_ rfl | decide | omega)).trans ((fl_u_ne (by first | exact nc_ rfl | decide | omega)).trans ((fl_u_ne (by first | exact nc_ rfl | decide | omega))))) (show F1 344 33 = F 344 33 from (hf_F1 344 33 (by first | exact fs_c rfl | exact (fs_n (by omega) (fs_n (by omega) (fs_n (by omega) rfl))))))); have hT_ : k.toNat < d.1.length → F10_ 355 (3 * a + k).toNat = d.1.getD k.toNat 0 + 1 := (fun h_ => Eq.trans ((Eq.trans (a := F10_ 355 (3 * a + k).toNat) (b := F1 355 (3 * a + k).toNat) (by rw [q11_]; exact (fl_u_ne (by first | exact nc_ rfl | decide | omega)).trans ((fl_u_ne (by first | exact nc_ rfl | decide | omega)).trans ((fl_u_ne (by first | exact nc_ rfl | decide | omega))))) (show F1 355 (3 * a + k).toNat = F 355 (3 * a + k).toNat from (hf_F1 355 (3 * a + k).toNat (by first | exact fs_c rfl | exact (fs_n (by omega) (fs_n (by omega) (fs_n (by omega) rfl)))))))) (by have h9 := rty_get hDa.1.2 (j := k.toNat) h_; rwa [show 3 * a.toNat + k.toNat = (3 * a + k).toNat by omega] at h9)); have hB_ : gvn x.toNat k.toNat < tl.length → F10_ 365 (F10_ 384 k.toNat).toNat = tl.getD (gvn x.toNat k.toNat) 0 + 1 := (fun h_ => by rw [ho_]; exact Eq.trans ((Eq.trans (a := F10_ 365 (gvn x.toNat k.toNat)) (b := F1 365 (gvn x.toNat k.toNat)) (by rw [q11_]; exact (fl_u_ne (by first | exact nc_ rfl | decide | omega)).trans ((fl_u_ne (by first | exact nc_ rfl | decide | omega)).trans ((fl_u_ne (by first | exact nc_ rfl | decide | omega))))) (show F1 365 (gvn x.toNat k.toNat) = F 365 (gvn x.toNat k.toNat) from (hf_F1 365 (gvn x.toNat k.toNat) (by first | exact fs_c rfl | exact (fs_n (by omega) (fs_n (by omega) (fs_n (by omega) rfl)))))))) (by have h9 := rty_get hob.2 (j := gvn x.toNat k.toNat) h_; rwa [Nat.zero_add] at h9)); exact vfk_1 hgd (by omega) (by omega)) (⟨by omega, by omega⟩)
      refine ga_aload_n (v := .ref 344) hm_164 rfl rfl rfl ?_
      refine ga_getr (b := 365) hm_164 rfl sc_344 rfl ?_
      refine ga_iload_n (z := F10_ 384 k.toNat) hm_164 rfl rfl ?_
      have e151_ : F1 365 (F10_ 384 k.toNat).toNat = F 365 (F10_ 384 k.toNat).toNat := (hf_F1 365 (F10_ 384 k.toNat).toNat (by first | exact fs_c rfl | exact (fs_n (by omega) (fs_n (by omega) (fs_n (by omega) rfl))))).trans (rfl)
      have e152_ : F10_ 365 (F10_ 384 k.toNat).toNat = F 365 (F10_ 384 k.toNat).toNat := (congrFun (congrFun q11_ 365) ((F10_ 384 k.toNat).toNat)).trans ((fl_u_ne (by first | exact nc_ rfl | decide | omega)).trans ((fl_u_ne (by first | exact nc_ rfl | decide | omega)).trans ((fl_u_ne (by first | exact nc_ rfl | decide | omega)).trans (e151_))))
      have b153_ : 0 ≤ F 365 (F10_ 384 k.toNat).toNat ∧ F 365 (F10_ 384 k.toNat).toNat ≤ 4 := gi_g hgi rfl
      refine ga_iald (z := F10_ 384 k.toNat) (w := F 365 (F10_ 384 k.toNat).toNat) hm_164 rfl sc_365 (by omega) (by omega) (by omega) (e152_) ?_
      refine ga_iload_n (z := F 355 (3 * a + k).toNat) hm_164 rfl rfl ?_
      refine fx_icmp_ne (a := F 365 (F10_ 384 k.toNat).toNat) (b := F 355 (3 * a + k).toNat) hm_164 rfl ⟨by omega, by omega⟩ ⟨by omega, by omega⟩ (fun h154_ => ?_) (fun h155_ => ?_)
      ·
        refine fl_iconst hm_164 rfl ?_
        refine gr_i hm_164 rfl rfl (ga_nb (by omega)) ?_
        clear h147_ h148_ f145_ l146_
        refine fl_if_eq hm_165 rfl ⟨by omega, by omega⟩ (fun _ => ?_) (fun h => absurd (by omega) h)
        refine fl_iconst hm_165 rfl ?_
        refine ga_istore (lv2 := [(4, .int (Int32.ofInt 0)), (5, .int (Int32.ofInt k)), (3, .int (Int32.ofInt x)), (2, .int (Int32.ofInt (F 354 a.toNat))), (0, .ref 344), (1, .int (Int32.ofInt a))]) hm_165 rfl (Nat.le_of_ble_eq_true rfl) rfl ?_
        refine ga_inc (a := k) (c := k + 1) (lv2 := [(5, .int (Int32.ofInt (k + 1))), (4, .int (Int32.ofInt 0)), (3, .int (Int32.ofInt x)), (2, .int (Int32.ofInt (F 354 a.toNat))), (0, .ref 344), (1, .int (Int32.ofInt a))]) hm_165 rfl rfl (Nat.le_of_ble_eq_true rfl) rfl rfl ?_
        refine fl_goto hm_165 rfl ?_
        exact ih16_ _ (by omega) (0) (k + 1) rfl (⟨by omega, by omega⟩) (by rw [show (k + 1).toNat = k.toNat + 1 by omega]; have hv_ := hgv k.toNat (by omega); have ho_ : (F10_ 384 k.toNat).toNat = gvn x.toNat k.toNat := (by rw [hv_]; rfl); have h33_ : F10_ 344 33 = F 344 33 := (Eq.trans (a := F10_ 344 33) (b := F1 344 33) (by rw [q11_]; exact (fl_u_ne (by first | exact nc_ rfl | decide | omega)).trans ((fl_u_ne (by first | exact nc_ rfl | decide | omega)).trans ((fl_u_ne (by first | exact nc_ rfl | decide | omega))))) (show F1 344 33 = F 344 33 from (hf_F1 344 33 (by first | exact fs_c rfl | exact (fs_n (by omega) (fs_n (by omega) (fs_n (by omega) rfl))))))); have hT_ : k.toNat < d.1.length → F10_ 355 (3 * a + k).toNat = d.1.getD k.toNat 0 + 1 := (fun h_ => Eq.trans ((Eq.trans (a := F10_ 355 (3 * a + k).toNat) (b := F1 355 (3 * a + k).toNat) (by rw [q11_]; exact (fl_u_ne (by first | exact nc_ rfl | decide | omega)).trans ((fl_u_ne (by first | exact nc_ rfl | decide | omega)).trans ((fl_u_ne (by first | exact nc_ rfl | decide | omega))))) (show F1 355 (3 * a + k).toNat = F 355 (3 * a + k).toNat from (hf_F1 355 (3 * a + k).toNat (by first | exact fs_c rfl | exact (fs_n (by omega) (fs_n (by omega) (fs_n (by omega) rfl)))))))) (by have h9 := rty_get hDa.1.2 (j := k.toNat) h_; rwa [show 3 * a.toNat + k.toNat = (3 * a + k).toNat by omega] at h9)); have hB_ : gvn x.toNat k.toNat < tl.length → F10_ 365 (F10_ 384 k.toNat).toNat = tl.getD (gvn x.toNat k.toNat) 0 + 1 := (fun h_ => by rw [ho_]; exact Eq.trans ((Eq.trans (a := F10_ 365 (gvn x.toNat k.toNat)) (b := F1 365 (gvn x.toNat k.toNat)) (by rw [q11_]; exact (fl_u_ne (by first | exact nc_ rfl | decide | omega)).trans ((fl_u_ne (by first | exact nc_ rfl | decide | omega)).trans ((fl_u_ne (by first | exact nc_ rfl | decide | omega))))) (show F1 365 (gvn x.toNat k.toNat) = F 365 (gvn x.toNat k.toNat) from (hf_F1 365 (gvn x.toNat k.toNat) (by first | exact fs_c rfl | exact (fs_n (by omega) (fs_n (by omega) (fs_n (by omega) rfl)))))))) (by have h9 := rty_get hob.2 (j := gvn x.toNat k.toNat) h_; rwa [Nat.zero_add] at h9)); exact vfk_0 hgd (by omega)) (⟨by omega, by omega⟩)
      refine fl_iconst hm_164 rfl ?_
      refine fl_goto hm_164 rfl ?_
      refine gr_i hm_164 rfl rfl (ga_nb (by omega)) ?_
      clear h147_ h148_ f145_ l146_
      refine fl_if_eq hm_165 rfl ⟨by omega, by omega⟩ (fun h => absurd h (by omega)) (fun _ => ?_)
      refine fl_goto hm_165 rfl ?_
      refine fl_iconst hm_165 rfl ?_
      refine fl_goto hm_165 rfl ?_
      refine ga_istore (lv2 := [(4, .int (Int32.ofInt 1)), (5, .int (Int32.ofInt k)), (3, .int (Int32.ofInt x)), (2, .int (Int32.ofInt (F 354 a.toNat))), (0, .ref 344), (1, .int (Int32.ofInt a))]) hm_165 rfl (Nat.le_of_ble_eq_true rfl) rfl ?_
      refine ga_inc (a := k) (c := k + 1) (lv2 := [(5, .int (Int32.ofInt (k + 1))), (4, .int (Int32.ofInt 1)), (3, .int (Int32.ofInt x)), (2, .int (Int32.ofInt (F 354 a.toNat))), (0, .ref 344), (1, .int (Int32.ofInt a))]) hm_165 rfl rfl (Nat.le_of_ble_eq_true rfl) rfl rfl ?_
      refine fl_goto hm_165 rfl ?_
      exact ih16_ _ (by omega) (1) (k + 1) rfl (⟨by omega, by omega⟩) (by rw [show (k + 1).toNat = k.toNat + 1 by omega]; have hv_ := hgv k.toNat (by omega); have ho_ : (F10_ 384 k.toNat).toNat = gvn x.toNat k.toNat := (by rw [hv_]; rfl); have h33_ : F10_ 344 33 = F 344 33 := (Eq.trans (a := F10_ 344 33) (b := F1 344 33) (by rw [q11_]; exact (fl_u_ne (by first | exact nc_ rfl | decide | omega)).trans ((fl_u_ne (by first | exact nc_ rfl | decide | omega)).trans ((fl_u_ne (by first | exact nc_ rfl | decide | omega))))) (show F1 344 33 = F 344 33 from (hf_F1 344 33 (by first | exact fs_c rfl | exact (fs_n (by omega) (fs_n (by omega) (fs_n (by omega) rfl))))))); have hT_ : k.toNat < d.1.length → F10_ 355 (3 * a + k).toNat = d.1.getD k.toNat 0 + 1 := (fun h_ => Eq.trans ((Eq.trans (a := F10_ 355 (3 * a + k).toNat) (b := F1 355 (3 * a + k).toNat) (by rw [q11_]; exact (fl_u_ne (by first | exact nc_ rfl | decide | omega)).trans ((fl_u_ne (by first | exact nc_ rfl | decide | omega)).trans ((fl_u_ne (by first | exact nc_ rfl | decide | omega))))) (show F1 355 (3 * a + k).toNat = F 355 (3 * a + k).toNat from (hf_F1 355 (3 * a + k).toNat (by first | exact fs_c rfl | exact (fs_n (by omega) (fs_n (by omega) (fs_n (by omega) rfl)))))))) (by have h9 := rty_get hDa.1.2 (j := k.toNat) h_; rwa [show 3 * a.toNat + k.toNat = (3 * a + k).toNat by omega] at h9)); have hB_ : gvn x.toNat k.toNat < tl.length → F10_ 365 (F10_ 384 k.toNat).toNat = tl.getD (gvn x.toNat k.toNat) 0 + 1 := (fun h_ => by rw [ho_]; exact Eq.trans ((Eq.trans (a := F10_ 365 (gvn x.toNat k.toNat)) (b := F1 365 (gvn x.toNat k.toNat)) (by rw [q11_]; exact (fl_u_ne (by first | exact nc_ rfl | decide | omega)).trans ((fl_u_ne (by first | exact nc_ rfl | decide | omega)).trans ((fl_u_ne (by first | exact nc_ rfl | decide | omega))))) (show F1 365 (gvn x.toNat k.toNat) = F 365 (gvn x.toNat k.toNat) from (hf_F1 365 (gvn x.toNat k.toNat) (by first | exact fs_c rfl | exact (fs_n (by omega) (fs_n (by omega) (fs_n (by omega) rfl)))))))) (by have h9 := rty_get hob.2 (j := gvn x.toNat k.toNat) h_; rwa [Nat.zero_add] at h9)); exact vfk_1 hgd (by omega) (by omega)) (⟨by omega, by omega⟩)
    exact L15_ _ (1) (0) rfl (⟨by omega, by omega⟩) (rfl) (⟨by omega, by omega⟩)
  have b156_ : 0 ≤ F 344 39 ∧ F 344 39 ≤ 40 := gi_g hgi rfl
  exact L3_ _ (0) F rfl hgi fs_refl (⟨by omega, by omega⟩) (hso) (by simpa [stR] using hcn) (by simpa [stR] using hst)

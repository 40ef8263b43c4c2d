/- CheapPlannerModel.fits -/
abbrev pq_164 (G : Nat → Nat → Option Nat) (F : fl_N) (X : xi_H) (o ty : Int) : Outcome → xi_H → Prop := gqi (fun z A => (fl_H sh_T G F ++ X = A ∧ (z = 0) ∧ (¬ ty = 0 ∧ ¬ F 365 o.toNat = ty)) ∨ (fl_H sh_T G F ++ X = A ∧ (z = 1) ∧ (ty = 0 ∨ F 365 o.toNat = ty))) gqn
theorem mc_164 {G : Nat → Nat → Option Nat} (hG : gg G) (F : fl_N) (X : xi_H) (hgi : gi F) (o ty : Int) (ho : 0 ≤ o ∧ o ≤ 5) (hty : 0 ≤ ty ∧ ty ≤ 4) : fl_M xi_ms 164 0 0 [.ref 344, .int (Int32.ofInt o), .int (Int32.ofInt ty)] (fl_H sh_T G F ++ X) (pq_164 G F X o ty) := by
  intro fr lo hfr hlo
  show fl_R xi_ms 164 fr lo 0 [(0, .ref 344), (1, .int (Int32.ofInt o)), (2, .int (Int32.ofInt ty))] [] _ _
  refine ga_iload_n (z := ty) hm_164 rfl rfl ?_
  refine fl_if_eq (a := ty) hm_164 rfl ⟨by omega, by omega⟩ (fun h1_ => ?_) (fun h2_ => ?_)
  ·
    refine fl_iconst hm_164 rfl ?_
    refine fl_goto hm_164 rfl ?_
    refine gr_i (z := 1) hm_164 rfl rfl (ga_nb (by omega)) ?_
    exact Or.inr (⟨rfl, rfl, (by omega)⟩)
  refine ga_aload_n (v := .ref 344) hm_164 rfl rfl rfl ?_
  refine ga_getr (b := 365) hm_164 rfl sc_344 rfl ?_
  refine ga_iload_n (z := o) hm_164 rfl rfl ?_
  have b3_ : 0 ≤ F 365 o.toNat ∧ F 365 o.toNat ≤ 4 := gi_g hgi rfl
  refine ga_iald (z := o) (w := F 365 o.toNat) hm_164 rfl sc_365 (by omega) (by omega) (by omega) (rfl) ?_
  refine ga_iload_n (z := ty) hm_164 rfl rfl ?_
  refine fx_icmp_ne (a := F 365 o.toNat) (b := ty) hm_164 rfl ⟨by omega, by omega⟩ ⟨by omega, by omega⟩ (fun h4_ => ?_) (fun h5_ => ?_)
  ·
    refine fl_iconst hm_164 rfl ?_
    refine gr_i (z := 0) hm_164 rfl rfl (ga_nb (by omega)) ?_
    exact Or.inl ⟨rfl, rfl, (by omega)⟩
  refine fl_iconst hm_164 rfl ?_
  refine fl_goto hm_164 rfl ?_
  refine gr_i (z := 1) hm_164 rfl rfl (ga_nb (by omega)) ?_
  exact Or.inr (⟨rfl, rfl, (by omega)⟩)
/- CheapPlannerModel.layFacts -/
abbrev pq_171 (G : Nat → Nat → Option Nat) (F : fl_N) (X : xi_H) (ps : List (List Int)) (tl : List Int) : Outcome → xi_H → Prop := gqv (fun A => ∃ F' : fl_N, fl_H sh_T G F' ++ X = A ∧ gi F' ∧ fs [(344, 344, 36, 36), (366, 366, 0, 100000)] F F' ∧ (F' 344 36 = (nfc ps tl 216 : Int)) ∧ (fnr F' 366 ps tl 216)) gqn
theorem mc_171 {G : Nat → Nat → Option Nat} (hG : gg G) (F : fl_N) (X : xi_H) (hgi : gi F) (ps : List (List Int)) (tl : List Int) (hps : rprd F ps ∧ F 344 17 = (ps.length : Int)) (hob : F 344 33 = (tl.length : Int) ∧ rty (F 365) 0 tl) : fl_M xi_ms 171 1 22 [.ref 344] (fl_H sh_T G F ++ X) (pq_171 G F X ps tl) := by
  intro fr lo hfr hlo
  show fl_R xi_ms 171 fr lo 0 [(0, .ref 344)] [] _ _
  have hps2 := hps.2
  have hob1 := hob.1
  have hb17 : 0 ≤ F 344 17 ∧ F 344 17 ≤ 6 := gi_g hgi rfl
  have hb33 : 0 ≤ F 344 33 ∧ F 344 33 ≤ 6 := gi_g hgi rfl
  refine ga_aload_n (v := .ref 344) hm_171 rfl rfl rfl ?_
  refine fl_iconst hm_171 rfl ?_
  refine ga_puti (z := 0) hm_171 rfl sc_344 rfl rfl ?_
  refine fl_iconst hm_171 rfl ?_
  refine ga_istore_n (lv2 := [(1, .int (Int32.ofInt 0)), (0, .ref 344)]) hm_171 rfl (Nat.le_of_ble_eq_true rfl) rfl ?_
  obtain ⟨F1_, q2_⟩ : ∃ Fq_, Fq_ = (fl_u F 344 36 0) := ⟨_, rfl⟩
  rw [← q2_]
  have g3_ : gi F1_ := by rw [q2_]; exact gi_u (hgi) rfl (by omega) (by omega)
  have g4_ : fs [(344, 344, 36, 36), (366, 366, 0, 100000)] F F1_ := by rw [q2_]; exact fs_u (fs_refl) rfl
  have L6_ : ∀ (n5_ : Nat) (p : Int) (F1 : fl_N), (6 - p : Int).toNat = n5_ → (gi F1) → (fs [(344, 344, 36, 36), (366, 366, 0, 100000)] F1_ F1) → (0 ≤ p ∧ p ≤ F 344 17) → (F1 344 36 = (nfc ps tl (36 * p.toNat) : Int)) → (fnr F1 366 ps tl (36 * p.toNat)) → fl_R xi_ms 171 fr lo 7 [(1, .int (Int32.ofInt p)), (0, .ref 344)] [] (fl_H sh_T G F1 ++ X) (pq_171 G F X ps tl) := by
    intro n5_
    induction n5_ using Nat.strongRecOn with
    | ind n5_ ih7_ =>
    intro p F1 hn8_ hg_F1 hf_F1 hp hf hn1
    have g9_ : fs [(344, 344, 36, 36), (366, 366, 0, 100000)] F F1 := fs_tr g4_ hf_F1 rfl
    refine ga_iload_n (z := p) hm_171 rfl rfl ?_
    refine ga_aload_n (v := .ref 344) hm_171 rfl rfl rfl ?_
    have e10_ : F1_ 344 17 = F 344 17 := by rw [q2_]; exact fl_u_ne (by first | exact nc_ rfl | decide | omega)
    have e11_ : F1 344 17 = F 344 17 := (hf_F1 344 17 rfl).trans (e10_)
    have b12_ : 0 ≤ F 344 17 ∧ F 344 17 ≤ 6 := gi_g hgi rfl
    refine ga_geti (z := F 344 17) hm_171 rfl sc_344 rfl (e11_) ?_
    refine fl_icmp_ge (a := p) (b := F 344 17) hm_171 rfl ⟨by omega, by omega⟩ ⟨by omega, by omega⟩ (fun h13_ => ?_) (fun h14_ => ?_)
    ·
      refine gr_v hm_171 rfl rfl ?_
      have b15_ : 0 ≤ F1 344 36 ∧ F1 344 36 ≤ 216 := gi_g hg_F1 rfl
      exact ⟨F1, rfl, hg_F1, g9_, (by rw [gf_end (m := p.toNat) (by omega) (by omega)]; exact hf), (fnr_sk hn1 (gf_end (m := p.toNat) (by omega) (by omega)))⟩
    refine ga_aload_n (v := .ref 344) hm_171 rfl rfl rfl ?_
    refine ga_getr (b := 351) hm_171 rfl sc_344 rfl ?_
    refine ga_iload_n (z := p) hm_171 rfl rfl ?_
    have e16_ : F1_ 351 p.toNat = F 351 p.toNat := by rw [q2_]; exact fl_u_ne (by first | exact nc_ rfl | decide | omega)
    have e17_ : F1 351 p.toNat = F 351 p.toNat := (hf_F1 351 p.toNat (by first | exact fs_c rfl | exact (fs_n (by omega) (fs_n (by omega) rfl)))).trans (e16_)
    have b18_ : 0 ≤ F 351 p.toNat ∧ F 351 p.toNat ≤ 2 := gi_g hgi rfl
    refine ga_iald (z := p) (w := F 351 p.toNat) hm_171 rfl sc_351 (by omega) (by omega) (by omega) (e17_) ?_
    refine ga_istore_n (lv2 := [(2, .int (Int32.ofInt (F 351 p.toNat))), (1, .int (Int32.ofInt p)), (0, .ref 344)]) hm_171 rfl (Nat.le_of_ble_eq_true rfl) rfl ?_
    obtain ⟨hz1_, hz2_, hz3_⟩ := hps.1 p.toNat (by omega)
    have hg0 : 0 < (ps.getD p.toNat []).length → F 352 (2 * p).toNat = (ps.getD p.toNat []).getD 0 0 + 1 := fun h => by have h9 := rty_get hz2_ (j := 0) h; rwa [show 2 * p.toNat + 0 = (2 * p).toNat by omega] at h9
    have hg1 : 1 < (ps.getD p.toNat []).length → F 352 (2 * p + 1).toNat = (ps.getD p.toNat []).getD 1 0 + 1 := fun h => by have h9 := rty_get hz2_ (j := 1) h; rwa [show 2 * p.toNat + 1 = (2 * p + 1).toNat by omega] at h9
    refine fl_iconst hm_171 rfl ?_
    refine ga_istore_n (lv2 := [(3, .int (Int32.ofInt 0)), (2, .int (Int32.ofInt (F 351 p.toNat))), (1, .int (Int32.ofInt p)), (0, .ref 344)]) hm_171 rfl (Nat.le_of_ble_eq_true rfl) rfl ?_
    have L20_ : ∀ (n19_ : Nat) (x : Int) (F2 : fl_N), (6 - x : Int).toNat = n19_ → (gi F2) → (fs [(344, 344, 36, 36), (366, 366, 0, 100000)] F1 F2) → (0 ≤ x ∧ x ≤ 6) → ((F 351 p.toNat < 1 ∧ x ≤ 1) ∨ (1 ≤ F 351 p.toNat ∧ x ≤ F 344 33)) → (F2 344 36 = (nfc ps tl (36 * p.toNat + 6 * x.toNat) : Int)) → (fnr F2 366 ps tl (36 * p.toNat + 6 * x.toNat)) → fl_R xi_ms 171 fr lo 24 [(3, .int (Int32.ofInt x)), (2, .int (Int32.ofInt (F 351 p.toNat))), (1, .int (Int32.ofInt p)), (0, .ref 344)] [] (fl_H sh_T G F2 ++ X) (pq_171 G F X ps tl) := by
      intro n19_
      induction n19_ using Nat.strongRecOn with
      | ind n19_ ih21_ =>
      intro x F2 hn22_ hg_F2 hf_F2 hx hxb hf2 hn2
      have g23_ : fs [(344, 344, 36, 36), (366, 366, 0, 100000)] F F2 := fs_tr g9_ hf_F2 rfl
      refine ga_iload_n (z := x) hm_171 rfl rfl ?_
      refine ga_iload_n (z := F 351 p.toNat) hm_171 rfl rfl ?_
      refine fl_if_le (a := F 351 p.toNat) hm_171 rfl ⟨by omega, by omega⟩ (fun h24_ => ?_) (fun h25_ => ?_)
      ·
        refine fl_iconst hm_171 rfl ?_
        refine fl_icmp_ge (a := x) (b := 1) hm_171 rfl ⟨by omega, by omega⟩ ⟨by omega, by omega⟩ (fun h26_ => ?_) (fun h27_ => ?_)
        ·
          refine ga_inc (a := p) (c := p + 1) (lv2 := [(1, .int (Int32.ofInt (p + 1))), (3, .int (Int32.ofInt x)), (2, .int (Int32.ofInt (F 351 p.toNat))), (0, .ref 344)]) hm_171 rfl rfl (Nat.le_of_ble_eq_true rfl) rfl rfl ?_
          refine fl_goto hm_171 rfl ?_
          have b28_ : 0 ≤ F2 344 36 ∧ F2 344 36 ≤ 216 := gi_g hg_F2 rfl
          have b29_ : 0 ≤ F1 344 36 ∧ F1 344 36 ≤ 216 := gi_g hg_F1 rfl
          exact fl_R_sub (lv' := [(1, .int (Int32.ofInt (p + 1))), (0, .ref 344)]) rfl rfl (ih7_ _ (by omega) (p + 1) F2 rfl hg_F2 (fs_tr hf_F1 hf_F2 rfl) (⟨by omega, by omega⟩) (by rw [show 36 * (p + 1).toNat = 36 * p.toNat + 36 by omega, gf_r1 (t := (ps.getD p.toNat [])) (m := x) rfl (by omega) (by omega)]; exact hf2) (by rw [show 36 * (p + 1).toNat = 36 * p.toNat + 36 by omega]; exact fnr_sk hn2 (gf_r1 (t := (ps.getD p.toNat [])) (m := x) rfl (by omega) (by omega))))
        refine fl_iconst hm_171 rfl ?_
        refine ga_istore (lv2 := [(4, .int (Int32.ofInt 0)), (3, .int (Int32.ofInt x)), (2, .int (Int32.ofInt (F 351 p.toNat))), (1, .int (Int32.ofInt p)), (0, .ref 344)]) hm_171 rfl (Nat.le_of_ble_eq_true rfl) rfl ?_
        have L31_ : ∀ (n30_ : Nat) (y : Int) (F3 : fl_N), (6 - y : Int).toNat = n30_ → (gi F3) → (fs [(344, 344, 36, 36), (366, 366, 0, 100000)] F2 F3) → (0 ≤ y ∧ y ≤ 6) → ((F 351 p.toNat < 2 ∧ y ≤ 1) ∨ (2 ≤ F 351 p.toNat ∧ y ≤ F 344 33)) → (F3 344 36 = (nfc ps tl (36 * p.toNat + 6 * x.toNat + y.toNat) : Int)) → (fnr F3 366 ps tl (36 * p.toNat + 6 * x.toNat + y.toNat)) → fl_R xi_ms 171 fr lo 43 [(4, .int (Int32.ofInt y)), (3, .int (Int32.ofInt x)), (2, .int (Int32.ofInt (F 351 p.toNat))), (1, .int (Int32.ofInt p)), (0, .ref 344)] [] (fl_H sh_T G F3 ++ X) (pq_171 G F X ps tl) := by
          intro n30_
          induction n30_ using Nat.strongRecOn with
          | ind n30_ ih32_ =>
          intro y F3 hn33_ hg_F3 hf_F3 hy hyb hf3 hn3
          have g34_ : fs [(344, 344, 36, 36), (366, 366, 0, 100000)] F F3 := fs_tr g23_ hf_F3 rfl
          have hfq := nfc_q ps tl (36 * p.toNat + 6 * x.toNat + y.toNat)
          refine ga_iload (z := y) hm_171 rfl rfl ?_
          refine ga_iload_n (z := F 351 p.toNat) hm_171 rfl rfl ?_
          refine fl_iconst hm_171 rfl ?_
          refine fl_icmp_le (a := F 351 p.toNat) (b := 1) hm_171 rfl ⟨by omega, by omega⟩ ⟨by omega, by omega⟩ (fun h35_ => ?_) (fun h36_ => ?_)
          ·
            refine fl_iconst hm_171 rfl ?_
            refine fl_icmp_ge (a := y) (b := 1) hm_171 rfl ⟨by omega, by omega⟩ ⟨by omega, by omega⟩ (fun h37_ => ?_) (fun h38_ => ?_)
            ·
              refine ga_inc (a := x) (c := x + 1) (lv2 := [(3, .int (Int32.ofInt (x + 1))), (4, .int (Int32.ofInt y)), (2, .int (Int32.ofInt (F 351 p.toNat))), (1, .int (Int32.ofInt p)), (0, .ref 344)]) hm_171 rfl rfl (Nat.le_of_ble_eq_true rfl) rfl rfl ?_
              refine fl_goto hm_171 rfl ?_
              have b39_ : 0 ≤ F 344 33 ∧ F 344 33 ≤ 6 := gi_g hgi rfl
              have b40_ : 0 ≤ F3 344 36 ∧ F3 344 36 ≤ 216 := gi_g hg_F3 rfl
              have b41_ : 0 ≤ F2 344 36 ∧ F2 344 36 ≤ 216 := gi_g hg_F2 rfl
              exact fl_R_sub (lv' := [(3, .int (Int32.ofInt (x + 1))), (2, .int (Int32.ofInt (F 351 p.toNat))), (1, .int (Int32.ofInt p)), (0, .ref 344)]) rfl rfl (ih21_ _ (by omega) (x + 1) F3 rfl hg_F3 (fs_tr hf_F2 hf_F3 rfl) (⟨by omega, by omega⟩) (by omega) (by rw [gf_r2 (t := (ps.getD p.toNat [])) (m := y) rfl (by omega) (by omega) (by omega)]; exact hf3) (fnr_sk hn3 (gf_r2 (t := (ps.getD p.toNat [])) (m := y) rfl (by omega) (by omega) (by omega))))
            refine ga_iload_n (z := F 351 p.toNat) hm_171 rfl rfl ?_
            refine fl_iconst hm_171 rfl ?_
            refine fl_icmp_lt (a := F 351 p.toNat) (b := 1) hm_171 rfl ⟨by omega, by omega⟩ ⟨by omega, by omega⟩ (fun h42_ => ?_) (fun h43_ => ?_)
            ·
              refine ga_iload_n (z := F 351 p.toNat) hm_171 rfl rfl ?_
              refine fl_iconst hm_171 rfl ?_
              refine fl_icmp_lt (a := F 351 p.toNat) (b := 2) hm_171 rfl ⟨by omega, by omega⟩ ⟨by omega, by omega⟩ (fun h44_ => ?_) (fun h45_ => ?_)
              ·
                refine fl_iconst hm_171 rfl ?_
                refine fl_goto hm_171 rfl ?_
                refine ga_istore (lv2 := [(5, .int (Int32.ofInt 1)), (4, .int (Int32.ofInt y)), (3, .int (Int32.ofInt x)), (2, .int (Int32.ofInt (F 351 p.toNat))), (1, .int (Int32.ofInt p)), (0, .ref 344)]) hm_171 rfl (Nat.le_of_ble_eq_true rfl) rfl ?_
                refine ga_aload_n (v := .ref 344) hm_171 rfl rfl rfl ?_
                refine ga_getr (b := 366) hm_171 rfl sc_344 rfl ?_
                refine fl_bipush hm_171 rfl rfl ?_
                refine ga_iload_n (z := p) hm_171 rfl rfl ?_
                refine ga_imul (a := 36) (b := p) (c := 36 * p) hm_171 rfl (by omega) ?_
                refine fl_bipush hm_171 rfl rfl ?_
                refine ga_iload_n (z := x) hm_171 rfl rfl ?_
                refine ga_imul (a := 6) (b := x) (c := 6 * x) hm_171 rfl (by omega) ?_
                refine ga_iadd (a := 36 * p) (b := 6 * x) (c := 36 * p + 6 * x) hm_171 rfl (by omega) ?_
                refine ga_iload (z := y) hm_171 rfl rfl ?_
                refine ga_iadd (a := 36 * p + 6 * x) (b := y) (c := 36 * p + 6 * x + y) hm_171 rfl (by omega) ?_
                refine ga_iload (z := 1) hm_171 rfl rfl ?_
                refine fl_if_eq hm_171 rfl ⟨by omega, by omega⟩ (fun h => absurd h (by omega)) (fun _ => ?_)
                refine ga_aload_n (v := .ref 344) hm_171 rfl rfl rfl ?_
                have b46_ : 0 ≤ F3 344 36 ∧ F3 344 36 ≤ 216 := gi_g hg_F3 rfl
                refine ga_geti (z := F3 344 36) hm_171 rfl sc_344 rfl (rfl) ?_
                refine fl_goto hm_171 rfl ?_
                refine fl_iast (z := 36 * p + 6 * x + y) (v := F3 344 36) hm_171 rfl sc_366 (by omega) (by omega) (by omega) ?_
                refine ga_aload_n (v := .ref 344) hm_171 rfl rfl rfl ?_
                refine ga_dup hm_171 rfl rfl ?_
                refine ga_geti (z := F3 344 36) hm_171 rfl sc_344 rfl (fl_u_ne (by first | exact nc_ rfl | decide | omega)) ?_
                refine ga_iload (z := 1) hm_171 rfl rfl ?_
                refine fl_if_eq hm_171 rfl ⟨by omega, by omega⟩ (fun h => absurd h (by omega)) (fun _ => ?_)
                refine fl_iconst hm_171 rfl ?_
                refine fl_goto hm_171 rfl ?_
                refine ga_iadd (a := F3 344 36) (b := 1) (c := F3 344 36 + 1) hm_171 rfl (by omega) ?_
                refine ga_puti (z := F3 344 36 + 1) hm_171 rfl sc_344 rfl rfl ?_
                refine ga_inc (a := y) (c := y + 1) (lv2 := [(4, .int (Int32.ofInt (y + 1))), (5, .int (Int32.ofInt 1)), (3, .int (Int32.ofInt x)), (2, .int (Int32.ofInt (F 351 p.toNat))), (1, .int (Int32.ofInt p)), (0, .ref 344)]) hm_171 rfl rfl (Nat.le_of_ble_eq_true rfl) rfl rfl ?_
                refine fl_goto hm_171 rfl ?_
                obtain ⟨F47_, q48_⟩ : ∃ Fq_, Fq_ = (fl_u (fl_u F3 366 (36 * p + 6 * x + y).toNat (F3 344 36)) 344 36 (F3 344 36 + 1)) := ⟨_, rfl⟩
                rw [← q48_]
                have g49_ : gi F47_ := by rw [q48_]; exact gi_u (gi_u (hg_F3) rfl (by omega) (by omega)) rfl (by omega) (by omega)
                have g50_ : fs [(344, 344, 36, 36), (366, 366, 0, 100000)] F F47_ := by rw [q48_]; exact fs_u (fs_u (g34_) (fs_z (fs_y (by omega)))) rfl
                have b51_ : 0 ≤ F 344 33 ∧ F 344 33 ≤ 6 := gi_g hgi rfl
                have e52_ : F47_ 344 36 = F3 344 36 + 1 := by rw [q48_]; exact fl_u_eq
                have e53_ : F47_ 366 (36 * p + 6 * x + y).toNat = F3 344 36 := by rw [q48_]; exact (fl_u_ne (by first | exact nc_ rfl | decide | omega)).trans (fl_u_eq)
                exact fl_R_sub (lv' := [(4, .int (Int32.ofInt (y + 1))), (3, .int (Int32.ofInt x)), (2, .int (Int32.ofInt (F 351 p.toNat))), (1, .int (Int32.ofInt p)), (0, .ref 344)]) rfl rfl (ih32_ _ (by omega) (y + 1) F47_ rfl g49_ (by rw [q48_]; exact fs_u (fs_u (hf_F3) (fs_z (fs_y (by omega)))) rfl) (⟨by omega, by omega⟩) (by omega) (by rw [show 36 * p.toNat + 6 * x.toNat + (y + 1).toNat = 36 * p.toNat + 6 * x.toNat + y.toNat + 1 by omega]; have h9_ := nfc_y (gf_y (ps := ps) (tl := tl) (p := p.toNat) (f1 := x) (f2 := y) (t := (ps.getD p.toNat [])) (by omega) rfl (by omega) (by omega) (by omega) (by omega)); omega) (by rw [show 36 * p.toNat + 6 * x.toNat + (y + 1).toNat = 36 * p.toNat + 6 * x.toNat + y.toNat + 1 by omega]; exact fnr_y hn3 (fun h9_ => by rw [show 36 * p.toNat + 6 * x.toNat + y.toNat = (36 * p + 6 * x + y).toNat by omega]; exact Eq.trans (e53_) (by rw [show (36 * p + 6 * x + y).toNat = 36 * p.toNat + 6 * x.toNat + y.toNat by omega]; exact hf3)) (fun j hj => (show F47_ 366 j = F3 366 j from (by rw [q48_]; exact (fl_u_ne (by first | exact nc_ rfl | decide | omega)).trans ((fl_u_ne (by first | exact nc_ rfl | decide | omega))))))))
              exfalso; omega
            exfalso; omega
          exfalso; omega
        have b54_ : 0 ≤ F 344 33 ∧ F 344 33 ≤ 6 := gi_g hgi rfl
        have b55_ : 0 ≤ F2 344 36 ∧ F2 344 36 ≤ 216 := gi_g hg_F2 rfl
        exact L31_ _ (0) F2 rfl hg_F2 fs_refl (⟨by omega, by omega⟩) (by omega) (by simpa using hf2) (by simpa using hn2)
      refine ga_aload_n (v := .ref 344) hm_171 rfl rfl rfl ?_
      have e56_ : F1_ 344 33 = F 344 33 := by rw [q2_]; exact fl_u_ne (by first | exact nc_ rfl | decide | omega)
      have e57_ : F1 344 33 = F 344 33 := (hf_F1 344 33 rfl).trans (e56_)
      have e58_ : F2 344 33 = F 344 33 := (hf_F2 344 33 rfl).trans (e57_)
      have b59_ : 0 ≤ F 344 33 ∧ F 344 33 ≤ 6 := gi_g hgi rfl
      refine ga_geti (z := F 344 33) hm_171 rfl sc_344 rfl (e58_) ?_
      refine fl_goto hm_171 rfl ?_
      refine fl_icmp_ge (a := x) (b := F 344 33) hm_171 rfl ⟨by omega, by omega⟩ ⟨by omega, by omega⟩ (fun h60_ => ?_) (fun h61_ => ?_)
      ·
        refine ga_inc (a := p) (c := p + 1) (lv2 := [(1, .int (Int32.ofInt (p + 1))), (3, .int (Int32.ofInt x)), (2, .int (Int32.ofInt (F 351 p.toNat))), (0, .ref 344)]) hm_171 rfl rfl (Nat.le_of_ble_eq_true rfl) rfl rfl ?_
        refine fl_goto hm_171 rfl ?_
        have b62_ : 0 ≤ F2 344 36 ∧ F2 344 36 ≤ 216 := gi_g hg_F2 rfl
        have b63_ : 0 ≤ F1 344 36 ∧ F1 344 36 ≤ 216 := gi_g hg_F1 rfl
        exact fl_R_sub (lv' := [(1, .int (Int32.ofInt (p + 1))), (0, .ref 344)]) rfl rfl (ih7_ _ (by omega) (p + 1) F2 rfl hg_F2 (fs_tr hf_F1 hf_F2 rfl) (⟨by omega, by omega⟩) (by rw [show 36 * (p + 1).toNat = 36 * p.toNat + 36 by omega, gf_r1 (t := (ps.getD p.toNat [])) (m := x) rfl (by omega) (by omega)]; exact hf2) (by rw [show 36 * (p + 1).toNat = 36 * p.toNat + 36 by omega]; exact fnr_sk hn2 (gf_r1 (t := (ps.getD p.toNat [])) (m := x) rfl (by omega) (by omega))))
      refine fl_iconst hm_171 rfl ?_
      refine ga_istore (lv2 := [(4, .int (Int32.ofInt 0)), (3, .int (Int32.ofInt x)), (2, .int (Int32.ofInt (F 351 p.toNat))), (1, .int (Int32.ofInt p)), (0, .ref 344)]) hm_171 rfl (Nat.le_of_ble_eq_true rfl) rfl ?_
      have L65_ : ∀ (n64_ : Nat) (y : Int) (F3 : fl_N), (6 - y : Int).toNat = n64_ → (gi F3) → (fs [(344, 344, 36, 36), (366, 366, 0, 100000)] F2 F3) → (0 ≤ y ∧ y ≤ 6) → ((F 351 p.toNat < 2 ∧ y ≤ 1) ∨ (2 ≤ F 351 p.toNat ∧ y ≤ F 344 33)) → (F3 344 36 = (nfc ps tl (36 * p.toNat + 6 * x.toNat + y.toNat) : Int)) → (fnr F3 366 ps tl (36 * p.toNat + 6 * x.toNat + y.toNat)) → fl_R xi_ms 171 fr lo 43 [(4, .int (Int32.ofInt y)), (3, .int (Int32.ofInt x)), (2, .int (Int32.ofInt (F 351 p.toNat))), (1, .int (Int32.ofInt p)), (0, .ref 344)] [] (fl_H sh_T G F3 ++ X) (pq_171 G F X ps tl) := by
        intro n64_
        induction n64_ using Nat.strongRecOn with
        | ind n64_ ih66_ =>
        intro y F3 hn67_ hg_F3 hf_F3 hy hyb hf3 hn3
        have g68_ : fs [(344, 344, 36, 36), (366, 366, 0, 100000)] F F3 := fs_tr g23_ hf_F3 rfl
        have hfq := nfc_q ps tl (36 * p.toNat + 6 * x.toNat + y.toNat)
        refine ga_iload (z := y) hm_171 rfl rfl ?_
        refine ga_iload_n (z := F 351 p.toNat) hm_171 rfl rfl ?_
        refine fl_iconst hm_171 rfl ?_
        refine fl_icmp_le (a := F 351 p.toNat) (b := 1) hm_171 rfl ⟨by omega, by omega⟩ ⟨by omega, by omega⟩ (fun h69_ => ?_) (fun h70_ => ?_)
        ·
          refine fl_iconst hm_171 rfl ?_
          refine fl_icmp_ge (a := y) (b := 1) hm_171 rfl ⟨by omega, by omega⟩ ⟨by omega, by omega⟩ (fun h71_ => ?_) (fun h72_ => ?_)
          ·
            refine ga_inc (a := x) (c := x + 1) (lv2 := [(3, .int (Int32.ofInt (x + 1))), (4, .int (Int32.ofInt y)), (2, .int (Int32.ofInt (F 351 p.toNat))), (1, .int (Int32.ofInt p)), (0, .ref 344)]) hm_171 rfl rfl (Nat.le_of_ble_eq_true rfl) rfl rfl ?_
            refine fl_goto hm_171 rfl ?_
            have b73_ : 0 ≤ F3 344 36 ∧ F3 344 36 ≤ 216 := gi_g hg_F3 rfl
            have b74_ : 0 ≤ F2 344 36 ∧ F2 344 36 ≤ 216 := gi_g hg_F2 rfl
            exact fl_R_sub (lv' := [(3, .int (Int32.ofInt (x + 1))), (2, .int (Int32.ofInt (F 351 p.toNat))), (1, .int (Int32.ofInt p)), (0, .ref 344)]) rfl rfl (ih21_ _ (by omega) (x + 1) F3 rfl hg_F3 (fs_tr hf_F2 hf_F3 rfl) (⟨by omega, by omega⟩) (by omega) (by rw [gf_r2 (t := (ps.getD p.toNat [])) (m := y) rfl (by omega) (by omega) (by omega)]; exact hf3) (fnr_sk hn3 (gf_r2 (t := (ps.getD p.toNat [])) (m := y) rfl (by omega) (by omega) (by omega))))
          refine ga_iload_n (z := F 351 p.toNat) hm_171 rfl rfl ?_
          refine fl_iconst hm_171 rfl ?_
          refine fl_icmp_lt (a := F 351 p.toNat) (b := 1) hm_171 rfl ⟨by omega, by omega⟩ ⟨by omega, by omega⟩ (fun h75_ => ?_) (fun h76_ => ?_)
          · exfalso; omega
          refine ga_aload_n (v := .ref 344) hm_171 rfl rfl rfl ?_
          refine ga_iload_n (z := x) hm_171 rfl rfl ?_
          refine ga_aload_n (v := .ref 344) hm_171 rfl rfl rfl ?_
          refine ga_getr (b := 352) hm_171 rfl sc_344 rfl ?_
          refine fl_iconst hm_171 rfl ?_
          refine ga_iload_n (z := p) hm_171 rfl rfl ?_
          refine ga_imul (a := 2) (b := p) (c := 2 * p) hm_171 rfl (by omega) ?_
          have e77_ : F1_ 352 (2 * p).toNat = F 352 (2 * p).toNat := by rw [q2_]; exact fl_u_ne (by first | exact nc_ rfl | decide | omega)
          have e78_ : F1 352 (2 * p).toNat = F 352 (2 * p).toNat := (hf_F1 352 (2 * p).toNat (by first | exact fs_c rfl | exact (fs_n (by omega) (fs_n (by omega) rfl)))).trans (e77_)
          have e79_ : F2 352 (2 * p).toNat = F 352 (2 * p).toNat := (hf_F2 352 (2 * p).toNat (by first | exact fs_c rfl | exact (fs_n (by omega) (fs_n (by omega) rfl)))).trans (e78_)
          have e80_ : F3 352 (2 * p).toNat = F 352 (2 * p).toNat := (hf_F3 352 (2 * p).toNat (by first | exact fs_c rfl | exact (fs_n (by omega) (fs_n (by omega) rfl)))).trans (e79_)
          have b81_ : 0 ≤ F 352 (2 * p).toNat ∧ F 352 (2 * p).toNat ≤ 4 := gi_g hgi rfl
          refine ga_iald (z := 2 * p) (w := F 352 (2 * p).toNat) hm_171 rfl sc_352 (by omega) (by omega) (by omega) (e80_) ?_
          refine gIi (nY := 3) (F := 0) (L := 0) (As := [.int (Int32.ofInt x), .int (Int32.ofInt (F 352 (2 * p).toNat))]) (b := 344) (rest := []) hm_171 rfl hm_164 rfl rfl (fl_ob sc_344) rfl rfl rfl rfl rfl (by omega) (by omega) ?_
          intro f82_ l83_ h84_ h85_
          show fl_R xi_ms 164 f82_ l83_ 0 [(0, .ref 344), (1, .int (Int32.ofInt x)), (2, .int (Int32.ofInt (F 352 (2 * p).toNat)))] [] _ _
          refine ga_iload_n (z := F 352 (2 * p).toNat) hm_164 rfl rfl ?_
          refine fl_if_eq (a := F 352 (2 * p).toNat) hm_164 rfl ⟨by omega, by omega⟩ (fun h86_ => ?_) (fun h87_ => ?_)
          ·
            refine fl_iconst hm_164 rfl ?_
            refine fl_goto hm_164 rfl ?_
            refine gr_i hm_164 rfl rfl (ga_nb (by omega)) ?_
            clear h84_ h85_ f82_ l83_
            refine fl_if_eq hm_171 rfl ⟨by omega, by omega⟩ (fun h => absurd h (by omega)) (fun _ => ?_)
            refine ga_iload_n (z := F 351 p.toNat) hm_171 rfl rfl ?_
            refine fl_iconst hm_171 rfl ?_
            refine fl_icmp_lt (a := F 351 p.toNat) (b := 2) hm_171 rfl ⟨by omega, by omega⟩ ⟨by omega, by omega⟩ (fun h88_ => ?_) (fun h89_ => ?_)
            ·
              refine fl_iconst hm_171 rfl ?_
              refine fl_goto hm_171 rfl ?_
              refine ga_istore (lv2 := [(5, .int (Int32.ofInt 1)), (4, .int (Int32.ofInt y)), (3, .int (Int32.ofInt x)), (2, .int (Int32.ofInt (F 351 p.toNat))), (1, .int (Int32.ofInt p)), (0, .ref 344)]) hm_171 rfl (Nat.le_of_ble_eq_true rfl) rfl ?_
              refine ga_aload_n (v := .ref 344) hm_171 rfl rfl rfl ?_
              refine ga_getr (b := 366) hm_171 rfl sc_344 rfl ?_
              refine fl_bipush hm_171 rfl rfl ?_
              refine ga_iload_n (z := p) hm_171 rfl rfl ?_
              refine ga_imul (a := 36) (b := p) (c := 36 * p) hm_171 rfl (by omega) ?_
              refine fl_bipush hm_171 rfl rfl ?_
              refine ga_iload_n (z := x) hm_171 rfl rfl ?_
              refine ga_imul (a := 6) (b := x) (c := 6 * x) hm_171 rfl (by omega) ?_
              refine ga_iadd (a := 36 * p) (b := 6 * x) (c := 36 * p + 6 * x) hm_171 rfl (by omega) ?_
              refine ga_iload (z := y) hm_171 rfl rfl ?_
              refine ga_iadd (a := 36 * p + 6 * x) (b := y) (c := 36 * p + 6 * x + y) hm_171 rfl (by omega) ?_
              refine ga_iload (z := 1) hm_171 rfl rfl ?_
              refine fl_if_eq hm_171 rfl ⟨by omega, by omega⟩ (fun h => absurd h (by omega)) (fun _ => ?_)
              refine ga_aload_n (v := .ref 344) hm_171 rfl rfl rfl ?_
              have b90_ : 0 ≤ F3 344 36 ∧ F3 344 36 ≤ 216 := gi_g hg_F3 rfl
              refine ga_geti (z := F3 344 36) hm_171 rfl sc_344 rfl (rfl) ?_
              refine fl_goto hm_171 rfl ?_
              refine fl_iast (z := 36 * p + 6 * x + y) (v := F3 344 36) hm_171 rfl sc_366 (by omega) (by omega) (by omega) ?_
              refine ga_aload_n (v := .ref 344) hm_171 rfl rfl rfl ?_
              refine ga_dup hm_171 rfl rfl ?_
              refine ga_geti (z := F3 344 36) hm_171 rfl sc_344 rfl (fl_u_ne (by first | exact nc_ rfl | decide | omega)) ?_
              refine ga_iload (z := 1) hm_171 rfl rfl ?_
              refine fl_if_eq hm_171 rfl ⟨by omega, by omega⟩ (fun h => absurd h (by omega)) (fun _ => ?_)
              refine fl_iconst hm_171 rfl ?_
              refine fl_goto hm_171 rfl ?_
              refine ga_iadd (a := F3 344 36) (b := 1) (c := F3 344 36 + 1) hm_171 rfl (by omega) ?_
              refine ga_puti (z := F3 344 36 + 1) hm_171 rfl sc_344 rfl rfl ?_
              refine ga_inc (a := y) (c := y + 1) (lv2 := [(4, .int (Int32.ofInt (y + 1))), (5, .int (Int32.ofInt 1)), (3, .int (Int32.ofInt x)), (2, .int (Int32.ofInt (F 351 p.toNat))), (1, .int (Int32.ofInt p)), (0, .ref 344)]) hm_171 rfl rfl (Nat.le_of_ble_eq_true rfl) rfl rfl ?_
              refine fl_goto hm_171 rfl ?_
              obtain ⟨F91_, q92_⟩ : ∃ Fq_, Fq_ = (fl_u (fl_u F3 366 (36 * p + 6 * x + y).toNat (F3 344 36)) 344 36 (F3 344 36 + 1)) := ⟨_, rfl⟩
              rw [← q92_]
              have g93_ : gi F91_ := by rw [q92_]; exact gi_u (gi_u (hg_F3) rfl (by omega) (by omega)) rfl (by omega) (by omega)
              have g94_ : fs [(344, 344, 36, 36), (366, 366, 0, 100000)] F F91_ := by rw [q92_]; exact fs_u (fs_u (g68_) (fs_z (fs_y (by omega)))) rfl
              have e95_ : F91_ 344 36 = F3 344 36 + 1 := by rw [q92_]; exact fl_u_eq
              have e96_ : F91_ 366 (36 * p + 6 * x + y).toNat = F3 344 36 := by rw [q92_]; exact (fl_u_ne (by first | exact nc_ rfl | decide | omega)).trans (fl_u_eq)
              exact fl_R_sub (lv' := [(4, .int (Int32.ofInt (y + 1))), (3, .int (Int32.ofInt x)), (2, .int (Int32.ofInt (F 351 p.toNat))), (1, .int (Int32.ofInt p)), (0, .ref 344)]) rfl rfl (ih66_ _ (by omega) (y + 1) F91_ rfl g93_ (by rw [q92_]; exact fs_u (fs_u (hf_F3) (fs_z (fs_y (by omega)))) rfl) (⟨by omega, by omega⟩) (by omega) (by rw [show 36 * p.toNat + 6 * x.toNat + (y + 1).toNat = 36 * p.toNat + 6 * x.toNat + y.toNat + 1 by omega]; have hq0_ := hg0 (by omega); have hx0_ := (show F 365 x.toNat = tl.getD x.toNat 0 + 1 from by have h := rty_get hob.2 (j := x.toNat) (by omega); rwa [Nat.zero_add] at h); have h9_ := nfc_y (gf_y (ps := ps) (tl := tl) (p := p.toNat) (f1 := x) (f2 := y) (t := (ps.getD p.toNat [])) (by omega) rfl (by omega) (by omega) (by omega) (by omega)); omega) (by rw [show 36 * p.toNat + 6 * x.toNat + (y + 1).toNat = 36 * p.toNat + 6 * x.toNat + y.toNat + 1 by omega]; exact fnr_y hn3 (fun h9_ => by rw [show 36 * p.toNat + 6 * x.toNat + y.toNat = (36 * p + 6 * x + y).toNat by omega]; exact Eq.trans (e96_) (by rw [show (36 * p + 6 * x + y).toNat = 36 * p.toNat + 6 * x.toNat + y.toNat by omega]; exact hf3)) (fun j hj => (show F91_ 366 j = F3 366 j from (by rw [q92_]; exact (fl_u_ne (by first | exact nc_ rfl | decide | omega)).trans ((fl_u_ne (by first | exact nc_ rfl | decide | omega))))))))
            exfalso; omega
          refine ga_aload_n (v := .ref 344) hm_164 rfl rfl rfl ?_
          refine ga_getr (b := 365) hm_164 rfl sc_344 rfl ?_
          refine ga_iload_n (z := x) hm_164 rfl rfl ?_
          have e97_ : F1_ 365 x.toNat = F 365 x.toNat := by rw [q2_]; exact fl_u_ne (by first | exact nc_ rfl | decide | omega)
          have e98_ : F1 365 x.toNat = F 365 x.toNat := (hf_F1 365 x.toNat (by first | exact fs_c rfl | exact (fs_n (by omega) (fs_n (by omega) rfl)))).trans (e97_)
          have e99_ : F2 365 x.toNat = F 365 x.toNat := (hf_F2 365 x.toNat (by first | exact fs_c rfl | exact (fs_n (by omega) (fs_n (by omega) rfl)))).trans (e98_)
          have e100_ : F3 365 x.toNat = F 365 x.toNat := (hf_F3 365 x.toNat (by first | exact fs_c rfl | exact (fs_n (by omega) (fs_n (by omega) rfl)))).trans (e99_)
          have b101_ : 0 ≤ F 365 x.toNat ∧ F 365 x.toNat ≤ 4 := gi_g hgi rfl
          refine ga_iald (z := x) (w := F 365 x.toNat) hm_164 rfl sc_365 (by omega) (by omega) (by omega) (e100_) ?_
          refine ga_iload_n (z := F 352 (2 * p).toNat) hm_164 rfl rfl ?_
          refine fx_icmp_ne (a := F 365 x.toNat) (b := F 352 (2 * p).toNat) hm_164 rfl ⟨by omega, by omega⟩ ⟨by omega, by omega⟩ (fun h102_ => ?_) (fun h103_ => ?_)
          ·
            refine fl_iconst hm_164 rfl ?_
            refine gr_i hm_164 rfl rfl (ga_nb (by omega)) ?_
            clear h84_ h85_ f82_ l83_
            refine fl_if_eq hm_171 rfl ⟨by omega, by omega⟩ (fun _ => ?_) (fun h => absurd (by omega) h)
            refine fl_iconst hm_171 rfl ?_
            refine ga_istore (lv2 := [(5, .int (Int32.ofInt 0)), (4, .int (Int32.ofInt y)), (3, .int (Int32.ofInt x)), (2, .int (Int32.ofInt (F 351 p.toNat))), (1, .int (Int32.ofInt p)), (0, .ref 344)]) hm_171 rfl (Nat.le_of_ble_eq_true rfl) rfl ?_
            refine ga_aload_n (v := .ref 344) hm_171 rfl rfl rfl ?_
            refine ga_getr (b := 366) hm_171 rfl sc_344 rfl ?_
            refine fl_bipush hm_171 rfl rfl ?_
            refine ga_iload_n (z := p) hm_171 rfl rfl ?_
            refine ga_imul (a := 36) (b := p) (c := 36 * p) hm_171 rfl (by omega) ?_
            refine fl_bipush hm_171 rfl rfl ?_
            refine ga_iload_n (z := x) hm_171 rfl rfl ?_
            refine ga_imul (a := 6) (b := x) (c := 6 * x) hm_171 rfl (by omega) ?_
            refine ga_iadd (a := 36 * p) (b := 6 * x) (c := 36 * p + 6 * x) hm_171 rfl (by omega) ?_
            refine ga_iload (z := y) hm_171 rfl rfl ?_
            refine ga_iadd (a := 36 * p + 6 * x) (b := y) (c := 36 * p + 6 * x + y) hm_171 rfl (by omega) ?_
            refine ga_iload (z := 0) hm_171 rfl rfl ?_
            refine fl_if_eq hm_171 rfl ⟨by omega, by omega⟩ (fun _ => ?_) (fun h => absurd (by omega) h)
            refine fl_iconst hm_171 rfl ?_
            refine fl_iast (z := 36 * p + 6 * x + y) (v := 0) hm_171 rfl sc_366 (by omega) (by omega) (by omega) ?_
            refine ga_aload_n (v := .ref 344) hm_171 rfl rfl rfl ?_
            refine ga_dup hm_171 rfl rfl ?_
            have b104_ : 0 ≤ F3 344 36 ∧ F3 344 36 ≤ 216 := gi_g hg_F3 rfl
            refine ga_geti (z := F3 344 36) hm_171 rfl sc_344 rfl (fl_u_ne (by first | exact nc_ rfl | decide | omega)) ?_
            refine ga_iload (z := 0) hm_171 rfl rfl ?_
            refine fl_if_eq hm_171 rfl ⟨by omega, by omega⟩ (fun _ => ?_) (fun h => absurd (by omega) h)
            refine fl_iconst hm_171 rfl ?_
            refine ga_iadd (a := F3 344 36) (b := 0) (c := F3 344 36) hm_171 rfl (by omega) ?_
            refine ga_puti (z := F3 344 36) hm_171 rfl sc_344 rfl rfl ?_
            refine ga_inc (a := y) (c := y + 1) (lv2 := [(4, .int (Int32.ofInt (y + 1))), (5, .int (Int32.ofInt 0)), (3, .int (Int32.ofInt x)), (2, .int (Int32.ofInt (F 351 p.toNat))), (1, .int (Int32.ofInt p)), (0, .ref 344)]) hm_171 rfl rfl (Nat.le_of_ble_eq_true rfl) rfl rfl ?_
            refine fl_goto hm_171 rfl ?_
            obtain ⟨F105_, q106_⟩ : ∃ Fq_, Fq_ = (fl_u (fl_u F3 366 (36 * p + 6 * x + y).toNat 0) 344 36 (F3 344 36)) := ⟨_, rfl⟩
            rw [← q106_]
            have g107_ : gi F105_ := by rw [q106_]; exact gi_u (gi_u (hg_F3) rfl (by omega) (by omega)) rfl (by omega) (by omega)
            have g108_ : fs [(344, 344, 36, 36), (366, 366, 0, 100000)] F F105_ := by rw [q106_]; exact fs_u (fs_u (g68_) (fs_z (fs_y (by omega)))) rfl
            have e109_ : F105_ 344 36 = F3 344 36 := by rw [q106_]; exact fl_u_eq
            have e110_ : F105_ 366 (36 * p + 6 * x + y).toNat = 0 := by rw [q106_]; exact (fl_u_ne (by first | exact nc_ rfl | decide | omega)).trans (fl_u_eq)
            exact fl_R_sub (lv' := [(4, .int (Int32.ofInt (y + 1))), (3, .int (Int32.ofInt x)), (2, .int (Int32.ofInt (F 351 p.toNat))), (1, .int (Int32.ofInt p)), (0, .ref 344)]) rfl rfl (ih66_ _ (by omega) (y + 1) F105_ rfl g107_ (by rw [q106_]; exact fs_u (fs_u (hf_F3) (fs_z (fs_y (by omega)))) rfl) (⟨by omega, by omega⟩) (by omega) (by rw [show 36 * p.toNat + 6 * x.toNat + (y + 1).toNat = 36 * p.toNat + 6 * x.toNat + y.toNat + 1 by omega]; have hq0_ := hg0 (by omega); have hx0_ := (show F 365 x.toNat = tl.getD x.toNat 0 + 1 from by have h := rty_get hob.2 (j := x.toNat) (by omega); rwa [Nat.zero_add] at h); have h9_ := nfc_n (gf_n (ps := ps) (tl := tl) (p := p.toNat) (f1 := x) (f2 := y) (t := (ps.getD p.toNat [])) rfl (by omega) (by omega) (by omega)); omega) (by rw [show 36 * p.toNat + 6 * x.toNat + (y + 1).toNat = 36 * p.toNat + 6 * x.toNat + y.toNat + 1 by omega]; have hq0_ := hg0 (by omega); have hx0_ := (show F 365 x.toNat = tl.getD x.toNat 0 + 1 from by have h := rty_get hob.2 (j := x.toNat) (by omega); rwa [Nat.zero_add] at h); exact fnr_y hn3 (fun h9_ => by rw [(gf_n (ps := ps) (tl := tl) (p := p.toNat) (f1 := x) (f2 := y) (t := (ps.getD p.toNat [])) rfl (by omega) (by omega) (by omega))] at h9_; cases h9_) (fun j hj => (show F105_ 366 j = F3 366 j from (by rw [q106_]; exact (fl_u_ne (by first | exact nc_ rfl | decide | omega)).trans ((fl_u_ne (by first | exact nc_ rfl | decide | omega))))))))
          refine fl_iconst hm_164 rfl ?_
          refine fl_goto hm_164 rfl ?_
          refine gr_i hm_164 rfl rfl (ga_nb (by omega)) ?_
          clear h84_ h85_ f82_ l83_
          refine fl_if_eq hm_171 rfl ⟨by omega, by omega⟩ (fun h => absurd h (by omega)) (fun _ => ?_)
          refine ga_iload_n (z := F 351 p.toNat) hm_171 rfl rfl ?_
          refine fl_iconst hm_171 rfl ?_
          refine fl_icmp_lt (a := F 351 p.toNat) (b := 2) hm_171 rfl ⟨by omega, by omega⟩ ⟨by omega, by omega⟩ (fun h111_ => ?_) (fun h112_ => ?_)
          ·
            refine fl_iconst hm_171 rfl ?_
            refine fl_goto hm_171 rfl ?_
            refine ga_istore (lv2 := [(5, .int (Int32.ofInt 1)), (4, .int (Int32.ofInt y)), (3, .int (Int32.ofInt x)), (2, .int (Int32.ofInt (F 351 p.toNat))), (1, .int (Int32.ofInt p)), (0, .ref 344)]) hm_171 rfl (Nat.le_of_ble_eq_true rfl) rfl ?_
            refine ga_aload_n (v := .ref 344) hm_171 rfl rfl rfl ?_
            refine ga_getr (b := 366) hm_171 rfl sc_344 rfl ?_
            refine fl_bipush hm_171 rfl rfl ?_
            refine ga_iload_n (z := p) hm_171 rfl rfl ?_
            refine ga_imul (a := 36) (b := p) (c := 36 * p) hm_171 rfl (by omega) ?_
            refine fl_bipush hm_171 rfl rfl ?_
            refine ga_iload_n (z := x) hm_171 rfl rfl ?_
            refine ga_imul (a := 6) (b := x) (c := 6 * x) hm_171 rfl (by omega) ?_
            refine ga_iadd (a := 36 * p) (b := 6 * x) (c := 36 * p + 6 * x) hm_171 rfl (by omega) ?_
            refine ga_iload (z := y) hm_171 rfl rfl ?_
            refine ga_iadd (a := 36 * p + 6 * x) (b := y) (c := 36 * p + 6 * x + y) hm_171 rfl (by omega) ?_
            refine ga_iload (z := 1) hm_171 rfl rfl ?_
            refine fl_if_eq hm_171 rfl ⟨by omega, by omega⟩ (fun h => absurd h (by omega)) (fun _ => ?_)
            refine ga_aload_n (v := .ref 344) hm_171 rfl rfl rfl ?_
            have b113_ : 0 ≤ F3 344 36 ∧ F3 344 36 ≤ 216 := gi_g hg_F3 rfl
            refine ga_geti (z := F3 344 36) hm_171 rfl sc_344 rfl (rfl) ?_
            refine fl_goto hm_171 rfl ?_
            refine fl_iast (z := 36 * p + 6 * x + y) (v := F3 344 36) hm_171 rfl sc_366 (by omega) (by omega) (by omega) ?_
            refine ga_aload_n (v := .ref 344) hm_171 rfl rfl rfl ?_
            refine ga_dup hm_171 rfl rfl ?_
            refine ga_geti (z := F3 344 36) hm_171 rfl sc_344 rfl (fl_u_ne (by first | exact nc_ rfl | decide | omega)) ?_
            refine ga_iload (z := 1) hm_171 rfl rfl ?_
            refine fl_if_eq hm_171 rfl ⟨by omega, by omega⟩ (fun h => absurd h (by omega)) (fun _ => ?_)
            refine fl_iconst hm_171 rfl ?_
            refine fl_goto hm_171 rfl ?_
            refine ga_iadd (a := F3 344 36) (b := 1) (c := F3 344 36 + 1) hm_171 rfl (by omega) ?_
            refine ga_puti (z := F3 344 36 + 1) hm_171 rfl sc_344 rfl rfl ?_
            refine ga_inc (a := y) (c := y + 1) (lv2 := [(4, .int (Int32.ofInt (y + 1))), (5, .int (Int32.ofInt 1)), (3, .int (Int32.ofInt x)), (2, .int (Int32.ofInt (F 351 p.toNat))), (1, .int (Int32.ofInt p)), (0, .ref 344)]) hm_171 rfl rfl (Nat.le_of_ble_eq_true rfl) rfl rfl ?_
            refine fl_goto hm_171 rfl ?_
            obtain ⟨F114_, q115_⟩ : ∃ Fq_, Fq_ = (fl_u (fl_u F3 366 (36 * p + 6 * x + y).toNat (F3 344 36)) 344 36 (F3 344 36 + 1)) := ⟨_, rfl⟩
            rw [← q115_]
            have g116_ : gi F114_ := by rw [q115_]; exact gi_u (gi_u (hg_F3) rfl (by omega) (by omega)) rfl (by omega) (by omega)
            have g117_ : fs [(344, 344, 36, 36), (366, 366, 0, 100000)] F F114_ := by rw [q115_]; exact fs_u (fs_u (g68_) (fs_z (fs_y (by omega)))) rfl
            have e118_ : F114_ 344 36 = F3 344 36 + 1 := by rw [q115_]; exact fl_u_eq
            have e119_ : F114_ 366 (36 * p + 6 * x + y).toNat = F3 344 36 := by rw [q115_]; exact (fl_u_ne (by first | exact nc_ rfl | decide | omega)).trans (fl_u_eq)
            exact fl_R_sub (lv' := [(4, .int (Int32.ofInt (y + 1))), (3, .int (Int32.ofInt x)), (2, .int (Int32.ofInt (F 351 p.toNat))), (1, .int (Int32.ofInt p)), (0, .ref 344)]) rfl rfl (ih66_ _ (by omega) (y + 1) F114_ rfl g116_ (by rw [q115_]; exact fs_u (fs_u (hf_F3) (fs_z (fs_y (by omega)))) rfl) (⟨by omega, by omega⟩) (by omega) (by rw [show 36 * p.toNat + 6 * x.toNat + (y + 1).toNat = 36 * p.toNat + 6 * x.toNat + y.toNat + 1 by omega]; have hq0_ := hg0 (by omega); have hx0_ := (show F 365 x.toNat = tl.getD x.toNat 0 + 1 from by have h := rty_get hob.2 (j := x.toNat) (by omega); rwa [Nat.zero_add] at h); have h9_ := nfc_y (gf_y (ps := ps) (tl := tl) (p := p.toNat) (f1 := x) (f2 := y) (t := (ps.getD p.toNat [])) (by omega) rfl (by omega) (by omega) (by omega) (by omega)); omega) (by rw [show 36 * p.toNat + 6 * x.toNat + (y + 1).toNat = 36 * p.toNat + 6 * x.toNat + y.toNat + 1 by omega]; exact fnr_y hn3 (fun h9_ => by rw [show 36 * p.toNat + 6 * x.toNat + y.toNat = (36 * p + 6 * x + y).toNat by omega]; exact Eq.trans (e119_) (by rw [show (36 * p + 6 * x + y).toNat = 36 * p.toNat + 6 * x.toNat + y.toNat by omega]; exact hf3)) (fun j hj => (show F114_ 366 j = F3 366 j from (by rw [q115_]; exact (fl_u_ne (by first | exact nc_ rfl | decide | omega)).trans ((fl_u_ne (by first | exact nc_ rfl | decide | omega))))))))
          exfalso; omega
        refine ga_aload_n (v := .ref 344) hm_171 rfl rfl rfl ?_
        have e120_ : F3 344 33 = F 344 33 := (hf_F3 344 33 rfl).trans (e58_)
        refine ga_geti (z := F 344 33) hm_171 rfl sc_344 rfl (e120_) ?_
        refine fl_goto hm_171 rfl ?_
        refine fl_icmp_ge (a := y) (b := F 344 33) hm_171 rfl ⟨by omega, by omega⟩ ⟨by omega, by omega⟩ (fun h121_ => ?_) (fun h122_ => ?_)
        ·
          refine ga_inc (a := x) (c := x + 1) (lv2 := [(3, .int (Int32.ofInt (x + 1))), (4, .int (Int32.ofInt y)), (2, .int (Int32.ofInt (F 351 p.toNat))), (1, .int (Int32.ofInt p)), (0, .ref 344)]) hm_171 rfl rfl (Nat.le_of_ble_eq_true rfl) rfl rfl ?_
          refine fl_goto hm_171 rfl ?_
          have b123_ : 0 ≤ F3 344 36 ∧ F3 344 36 ≤ 216 := gi_g hg_F3 rfl
          have b124_ : 0 ≤ F2 344 36 ∧ F2 344 36 ≤ 216 := gi_g hg_F2 rfl
          exact fl_R_sub (lv' := [(3, .int (Int32.ofInt (x + 1))), (2, .int (Int32.ofInt (F 351 p.toNat))), (1, .int (Int32.ofInt p)), (0, .ref 344)]) rfl rfl (ih21_ _ (by omega) (x + 1) F3 rfl hg_F3 (fs_tr hf_F2 hf_F3 rfl) (⟨by omega, by omega⟩) (by omega) (by rw [gf_r2 (t := (ps.getD p.toNat [])) (m := y) rfl (by omega) (by omega) (by omega)]; exact hf3) (fnr_sk hn3 (gf_r2 (t := (ps.getD p.toNat [])) (m := y) rfl (by omega) (by omega) (by omega))))
        refine ga_iload_n (z := F 351 p.toNat) hm_171 rfl rfl ?_
        refine fl_iconst hm_171 rfl ?_
        refine fl_icmp_lt (a := F 351 p.toNat) (b := 1) hm_171 rfl ⟨by omega, by omega⟩ ⟨by omega, by omega⟩ (fun h125_ => ?_) (fun h126_ => ?_)
        · exfalso; omega
        refine ga_aload_n (v := .ref 344) hm_171 rfl rfl rfl ?_
        refine ga_iload_n (z := x) hm_171 rfl rfl ?_
        refine ga_aload_n (v := .ref 344) hm_171 rfl rfl rfl ?_
        refine ga_getr (b := 352) hm_171 rfl sc_344 rfl ?_
        refine fl_iconst hm_171 rfl ?_
        refine ga_iload_n (z := p) hm_171 rfl rfl ?_
        refine ga_imul (a := 2) (b := p) (c := 2 * p) hm_171 rfl (by omega) ?_
        have e127_ : F1_ 352 (2 * p).toNat = F 352 (2 * p).toNat := by rw [q2_]; exact fl_u_ne (by first | exact nc_ rfl | decide | omega)
        have e128_ : F1 352 (2 * p).toNat = F 352 (2 * p).toNat := (hf_F1 352 (2 * p).toNat (by first | exact fs_c rfl | exact (fs_n (by omega) (fs_n (by omega) rfl)))).trans (e127_)
        have e129_ : F2 352 (2 * p).toNat = F 352 (2 * p).toNat := (hf_F2 352 (2 * p).toNat (by first | exact fs_c rfl | exact (fs_n (by omega) (fs_n (by omega) rfl)))).trans (e128_)
        have e130_ : F3 352 (2 * p).toNat = F 352 (2 * p).toNat := (hf_F3 352 (2 * p).toNat (by first | exact fs_c rfl | exact (fs_n (by omega) (fs_n (by omega) rfl)))).trans (e129_)
        have b131_ : 0 ≤ F 352 (2 * p).toNat ∧ F 352 (2 * p).toNat ≤ 4 := gi_g hgi rfl
        refine ga_iald (z := 2 * p) (w := F 352 (2 * p).toNat) hm_171 rfl sc_352 (by omega) (by omega) (by omega) (e130_) ?_
        refine gIi (nY := 3) (F := 0) (L := 0) (As := [.int (Int32.ofInt x), .int (Int32.ofInt (F 352 (2 * p).toNat))]) (b := 344) (rest := []) hm_171 rfl hm_164 rfl rfl (fl_ob sc_344) rfl rfl rfl rfl rfl (by omega) (by omega) ?_
        intro f132_ l133_ h134_ h135_
        show fl_R xi_ms 164 f132_ l133_ 0 [(0, .ref 344), (1, .int (Int32.ofInt x)), (2, .int (Int32.ofInt (F 352 (2 * p).toNat)))] [] _ _
        refine ga_iload_n (z := F 352 (2 * p).toNat) hm_164 rfl rfl ?_
        refine fl_if_eq (a := F 352 (2 * p).toNat) hm_164 rfl ⟨by omega, by omega⟩ (fun h136_ => ?_) (fun h137_ => ?_)
        ·
          refine fl_iconst hm_164 rfl ?_
          refine fl_goto hm_164 rfl ?_
          refine gr_i hm_164 rfl rfl (ga_nb (by omega)) ?_
          clear h134_ h135_ f132_ l133_
          refine fl_if_eq hm_171 rfl ⟨by omega, by omega⟩ (fun h => absurd h (by omega)) (fun _ => ?_)
          refine ga_iload_n (z := F 351 p.toNat) hm_171 rfl rfl ?_
          refine fl_iconst hm_171 rfl ?_
          refine fl_icmp_lt (a := F 351 p.toNat) (b := 2) hm_171 rfl ⟨by omega, by omega⟩ ⟨by omega, by omega⟩ (fun h138_ => ?_) (fun h139_ => ?_)
          · exfalso; omega
          refine ga_aload_n (v := .ref 344) hm_171 rfl rfl rfl ?_
          refine ga_iload (z := y) hm_171 rfl rfl ?_
          refine ga_aload_n (v := .ref 344) hm_171 rfl rfl rfl ?_
          refine ga_getr (b := 352) hm_171 rfl sc_344 rfl ?_
          refine fl_iconst hm_171 rfl ?_
          refine ga_iload_n (z := p) hm_171 rfl rfl ?_
          refine ga_imul (a := 2) (b := p) (c := 2 * p) hm_171 rfl (by omega) ?_
          refine fl_iconst hm_171 rfl ?_
          refine ga_iadd (a := 2 * p) (b := 1) (c := 2 * p + 1) hm_171 rfl (by omega) ?_
          have e140_ : F1_ 352 (2 * p + 1).toNat = F 352 (2 * p + 1).toNat := by rw [q2_]; exact fl_u_ne (by first | exact nc_ rfl | decide | omega)
          have e141_ : F1 352 (2 * p + 1).toNat = F 352 (2 * p + 1).toNat := (hf_F1 352 (2 * p + 1).toNat (by first | exact fs_c rfl | exact (fs_n (by omega) (fs_n (by omega) rfl)))).trans (e140_)
          have e142_ : F2 352 (2 * p + 1).toNat = F 352 (2 * p + 1).toNat := (hf_F2 352 (2 * p + 1).toNat (by first | exact fs_c rfl | exact (fs_n (by omega) (fs_n (by omega) rfl)))).trans (e141_)
          have e143_ : F3 352 (2 * p + 1).toNat = F 352 (2 * p + 1).toNat := (hf_F3 352 (2 * p + 1).toNat (by first | exact fs_c rfl | exact (fs_n (by omega) (fs_n (by omega) rfl)))).trans (e142_)
          have b144_ : 0 ≤ F 352 (2 * p + 1).toNat ∧ F 352 (2 * p + 1).toNat ≤ 4 := gi_g hgi rfl
          refine ga_iald (z := 2 * p + 1) (w := F 352 (2 * p + 1).toNat) hm_171 rfl sc_352 (by omega) (by omega) (by omega) (e143_) ?_
          refine gIi (nY := 3) (F := 0) (L := 0) (As := [.int (Int32.ofInt y), .int (Int32.ofInt (F 352 (2 * p + 1).toNat))]) (b := 344) (rest := []) hm_171 rfl hm_164 rfl rfl (fl_ob sc_344) rfl rfl rfl rfl rfl (by omega) (by omega) ?_
          intro f145_ l146_ h147_ h148_
          show fl_R xi_ms 164 f145_ l146_ 0 [(0, .ref 344), (1, .int (Int32.ofInt y)), (2, .int (Int32.ofInt (F 352 (2 * p + 1).toNat)))] [] _ _
          refine ga_iload_n (z := F 352 (2 * p + 1).toNat) hm_164 rfl rfl ?_
          refine fl_if_eq (a := F 352 (2 * p + 1).toNat) hm_164 rfl ⟨by omega, by omega⟩ (fun h149_ => ?_) (fun h150_ => ?_)
          ·
            refine fl_iconst hm_164 rfl ?_
            refine fl_goto hm_164 rfl ?_
            refine gr_i hm_164 rfl rfl (ga_nb (by omega)) ?_
            clear h147_ h148_ f145_ l146_
            refine fl_if_eq hm_171 rfl ⟨by omega, by omega⟩ (fun h => absurd h (by omega)) (fun _ => ?_)
            refine fl_iconst hm_171 rfl ?_
            refine fl_goto hm_171 rfl ?_
            refine ga_istore (lv2 := [(5, .int (Int32.ofInt 1)), (4, .int (Int32.ofInt y)), (3, .int (Int32.ofInt x)), (2, .int (Int32.ofInt (F 351 p.toNat))), (1, .int (Int32.ofInt p)), (0, .ref 344)]) hm_171 rfl (Nat.le_of_ble_eq_true rfl) rfl ?_
            refine ga_aload_n (v := .ref 344) hm_171 rfl rfl rfl ?_
            refine ga_getr (b := 366) hm_171 rfl sc_344 rfl ?_
            refine fl_bipush hm_171 rfl rfl ?_
            refine ga_iload_n (z := p) hm_171 rfl rfl ?_
            refine ga_imul (a := 36) (b := p) (c := 36 * p) hm_171 rfl (by omega) ?_
            refine fl_bipush hm_171 rfl rfl ?_
            refine ga_iload_n (z := x) hm_171 rfl rfl ?_
            refine ga_imul (a := 6) (b := x) (c := 6 * x) hm_171 rfl (by omega) ?_
            refine ga_iadd (a := 36 * p) (b := 6 * x) (c := 36 * p + 6 * x) hm_171 rfl (by omega) ?_
            refine ga_iload (z := y) hm_171 rfl rfl ?_
            refine ga_iadd (a := 36 * p + 6 * x) (b := y) (c := 36 * p + 6 * x + y) hm_171 rfl (by omega) ?_
            refine ga_iload (z := 1) hm_171 rfl rfl ?_
            refine fl_if_eq hm_171 rfl ⟨by omega, by omega⟩ (fun h => absurd h (by omega)) (fun _ => ?_)
            refine ga_aload_n (v := .ref 344) hm_171 rfl rfl rfl ?_
            have b151_ : 0 ≤ F3 344 36 ∧ F3 344 36 ≤ 216 := gi_g hg_F3 rfl
            refine ga_geti (z := F3 344 36) hm_171 rfl sc_344 rfl (rfl) ?_
            refine fl_goto hm_171 rfl ?_
            refine fl_iast (z := 36 * p + 6 * x + y) (v := F3 344 36) hm_171 rfl sc_366 (by omega) (by omega) (by omega) ?_
            refine ga_aload_n (v := .ref 344) hm_171 rfl rfl rfl ?_
            refine ga_dup hm_171 rfl rfl ?_
            refine ga_geti (z := F3 344 36) hm_171 rfl sc_344 rfl (fl_u_ne (by first | exact nc_ rfl | decide | omega)) ?_
            refine ga_iload (z := 1) hm_171 rfl rfl ?_
            refine fl_if_eq hm_171 rfl ⟨by omega, by omega⟩ (fun h => absurd h (by omega)) (fun _ => ?_)
            refine fl_iconst hm_171 rfl ?_
            refine fl_goto hm_171 rfl ?_
            refine ga_iadd (a := F3 344 36) (b := 1) (c := F3 344 36 + 1) hm_171 rfl (by omega) ?_
            refine ga_puti (z := F3 344 36 + 1) hm_171 rfl sc_344 rfl rfl ?_
            refine ga_inc (a := y) (c := y + 1) (lv2 := [(4, .int (Int32.ofInt (y + 1))), (5, .int (Int32.ofInt 1)), (3, .int (Int32.ofInt x)), (2, .int (Int32.ofInt (F 351 p.toNat))), (1, .int (Int32.ofInt p)), (0, .ref 344)]) hm_171 rfl rfl (Nat.le_of_ble_eq_true rfl) rfl rfl ?_
            refine fl_goto hm_171 rfl ?_
            obtain ⟨F152_, q153_⟩ : ∃ Fq_, Fq_ = (fl_u (fl_u F3 366 (36 * p + 6 * x + y).toNat (F3 344 36)) 344 36 (F3 344 36 + 1)) := ⟨_, rfl⟩
            rw [← q153_]
            have g154_ : gi F152_ := by rw [q153_]; exact gi_u (gi_u (hg_F3) rfl (by omega) (by omega)) rfl (by omega) (by omega)
            have g155_ : fs [(344, 344, 36, 36), (366, 366, 0, 100000)] F F152_ := by rw [q153_]; exact fs_u (fs_u (g68_) (fs_z (fs_y (by omega)))) rfl
            have e156_ : F152_ 344 36 = F3 344 36 + 1 := by rw [q153_]; exact fl_u_eq
            have e157_ : F152_ 366 (36 * p + 6 * x + y).toNat = F3 344 36 := by rw [q153_]; exact (fl_u_ne (by first | exact nc_ rfl | decide | omega)).trans (fl_u_eq)
            exact fl_R_sub (lv' := [(4, .int (Int32.ofInt (y + 1))), (3, .int (Int32.ofInt x)), (2, .int (Int32.ofInt (F 351 p.toNat))), (1, .int (Int32.ofInt p)), (0, .ref 344)]) rfl rfl (ih66_ _ (by omega) (y + 1) F152_ rfl g154_ (by rw [q153_]; exact fs_u (fs_u (hf_F3) (fs_z (fs_y (by omega)))) rfl) (⟨by omega, by omega⟩) (by omega) (by rw [show 36 * p.toNat + 6 * x.toNat + (y + 1).toNat = 36 * p.toNat + 6 * x.toNat + y.toNat + 1 by omega]; have hq0_ := hg0 (by omega); have hx0_ := (show F 365 x.toNat = tl.getD x.toNat 0 + 1 from by have h := rty_get hob.2 (j := x.toNat) (by omega); rwa [Nat.zero_add] at h); have hq1_ := hg1 (by omega); have hy0_ := (show F 365 y.toNat = tl.getD y.toNat 0 + 1 from by have h := rty_get hob.2 (j := y.toNat) (by omega); rwa [Nat.zero_add] at h); have h9_ := nfc_y (gf_y (ps := ps) (tl := tl) (p := p.toNat) (f1 := x) (f2 := y) (t := (ps.getD p.toNat [])) (by omega) rfl (by omega) (by omega) (by omega) (by omega)); omega) (by rw [show 36 * p.toNat + 6 * x.toNat + (y + 1).toNat = 36 * p.toNat + 6 * x.toNat + y.toNat + 1 by omega]; exact fnr_y hn3 (fun h9_ => by rw [show 36 * p.toNat + 6 * x.toNat + y.toNat = (36 * p + 6 * x + y).toNat by omega]; exact Eq.trans (e157_) (by rw [show (36 * p + 6 * x + y).toNat = 36 * p.toNat + 6 * x.toNat + y.toNat by omega]; exact hf3)) (fun j hj => (show F152_ 366 j = F3 366 j from (by rw [q153_]; exact (fl_u_ne (by first | exact nc_ rfl | decide | omega)).trans ((fl_u_ne (by first | exact nc_ rfl | decide | omega))))))))
          refine ga_aload_n (v := .ref 344) hm_164 rfl rfl rfl ?_
          refine ga_getr (b := 365) hm_164 rfl sc_344 rfl ?_
          refine ga_iload_n (z := y) hm_164 rfl rfl ?_
          have e158_ : F1_ 365 y.toNat = F 365 y.toNat := by rw [q2_]; exact fl_u_ne (by first | exact nc_ rfl | decide | omega)
          have e159_ : F1 365 y.toNat = F 365 y.toNat := (hf_F1 365 y.toNat (by first | exact fs_c rfl | exact (fs_n (by omega) (fs_n (by omega) rfl)))).trans (e158_)
          have e160_ : F2 365 y.toNat = F 365 y.toNat := (hf_F2 365 y.toNat (by first | exact fs_c rfl | exact (fs_n (by omega) (fs_n (by omega) rfl)))).trans (e159_)
          have e161_ : F3 365 y.toNat = F 365 y.toNat := (hf_F3 365 y.toNat (by first | exact fs_c rfl | exact (fs_n (by omega) (fs_n (by omega) rfl)))).trans (e160_)
          have b162_ : 0 ≤ F 365 y.toNat ∧ F 365 y.toNat ≤ 4 := gi_g hgi rfl
          refine ga_iald (z := y) (w := F 365 y.toNat) hm_164 rfl sc_365 (by omega) (by omega) (by omega) (e161_) ?_
          refine ga_iload_n (z := F 352 (2 * p + 1).toNat) hm_164 rfl rfl ?_
          refine fx_icmp_ne (a := F 365 y.toNat) (b := F 352 (2 * p + 1).toNat) hm_164 rfl ⟨by omega, by omega⟩ ⟨by omega, by omega⟩ (fun h163_ => ?_) (fun h164_ => ?_)
          ·
            refine fl_iconst hm_164 rfl ?_
            refine gr_i hm_164 rfl rfl (ga_nb (by omega)) ?_
            clear h147_ h148_ f145_ l146_
            refine fl_if_eq hm_171 rfl ⟨by omega, by omega⟩ (fun _ => ?_) (fun h => absurd (by omega) h)
            refine fl_iconst hm_171 rfl ?_
            refine ga_istore (lv2 := [(5, .int (Int32.ofInt 0)), (4, .int (Int32.ofInt y)), (3, .int (Int32.ofInt x)), (2, .int (Int32.ofInt (F 351 p.toNat))), (1, .int (Int32.ofInt p)), (0, .ref 344)]) hm_171 rfl (Nat.le_of_ble_eq_true rfl) rfl ?_
            refine ga_aload_n (v := .ref 344) hm_171 rfl rfl rfl ?_
            refine ga_getr (b := 366) hm_171 rfl sc_344 rfl ?_
            refine fl_bipush hm_171 rfl rfl ?_
            refine ga_iload_n (z := p) hm_171 rfl rfl ?_
            refine ga_imul (a := 36) (b := p) (c := 36 * p) hm_171 rfl (by omega) ?_
            refine fl_bipush hm_171 rfl rfl ?_
            refine ga_iload_n (z := x) hm_171 rfl rfl ?_
            refine ga_imul (a := 6) (b := x) (c := 6 * x) hm_171 rfl (by omega) ?_
            refine ga_iadd (a := 36 * p) (b := 6 * x) (c := 36 * p + 6 * x) hm_171 rfl (by omega) ?_
            refine ga_iload (z := y) hm_171 rfl rfl ?_
            refine ga_iadd (a := 36 * p + 6 * x) (b := y) (c := 36 * p + 6 * x + y) hm_171 rfl (by omega) ?_
            refine ga_iload (z := 0) hm_171 rfl rfl ?_
            refine fl_if_eq hm_171 rfl ⟨by omega, by omega⟩ (fun _ => ?_) (fun h => absurd (by omega) h)
            refine fl_iconst hm_171 rfl ?_
            refine fl_iast (z := 36 * p + 6 * x + y) (v := 0) hm_171 rfl sc_366 (by omega) (by omega) (by omega) ?_
            refine ga_aload_n (v := .ref 344) hm_171 rfl rfl rfl ?_
            refine ga_dup hm_171 rfl rfl ?_
            have b165_ : 0 ≤ F3 344 36 ∧ F3 344 36 ≤ 216 := gi_g hg_F3 rfl
            refine ga_geti (z := F3 344 36) hm_171 rfl sc_344 rfl (fl_u_ne (by first | exact nc_ rfl | decide | omega)) ?_
            refine ga_iload (z := 0) hm_171 rfl rfl ?_
            refine fl_if_eq hm_171 rfl ⟨by omega, by omega⟩ (fun _ => ?_) (fun h => absurd (by omega) h)
            refine fl_iconst hm_171 rfl ?_
            refine ga_iadd (a := F3 344 36) (b := 0) (c := F3 344 36) hm_171 rfl (by omega) ?_
            refine ga_puti (z := F3 344 36) hm_171 rfl sc_344 rfl rfl ?_
            refine ga_inc (a := y) (c := y + 1) (lv2 := [(4, .int (Int32.ofInt (y + 1))), (5, .int (Int32.ofInt 0)), (3, .int (Int32.ofInt x)), (2, .int (Int32.ofInt (F 351 p.toNat))), (1, .int (Int32.ofInt p)), (0, .ref 344)]) hm_171 rfl rfl (Nat.le_of_ble_eq_true rfl) rfl rfl ?_
            refine fl_goto hm_171 rfl ?_
            obtain ⟨F166_, q167_⟩ : ∃ Fq_, Fq_ = (fl_u (fl_u F3 366 (36 * p + 6 * x + y).toNat 0) 344 36 (F3 344 36)) := ⟨_, rfl⟩
            rw [← q167_]
            have g168_ : gi F166_ := by rw [q167_]; exact gi_u (gi_u (hg_F3) rfl (by omega) (by omega)) rfl (by omega) (by omega)
            have g169_ : fs [(344, 344, 36, 36), (366, 366, 0, 100000)] F F166_ := by rw [q167_]; exact fs_u (fs_u (g68_) (fs_z (fs_y (by omega)))) rfl
            have e170_ : F166_ 344 36 = F3 344 36 := by rw [q167_]; exact fl_u_eq
            have e171_ : F166_ 366 (36 * p + 6 * x + y).toNat = 0 := by rw [q167_]; exact (fl_u_ne (by first | exact nc_ rfl | decide | omega)).trans (fl_u_eq)
            exact fl_R_sub (lv' := [(4, .int (Int32.ofInt (y + 1))), (3, .int (Int32.ofInt x)), (2, .int (Int32.ofInt (F 351 p.toNat))), (1, .int (Int32.ofInt p)), (0, .ref 344)]) rfl rfl (ih66_ _ (by omega) (y + 1) F166_ rfl g168_ (by rw [q167_]; exact fs_u (fs_u (hf_F3) (fs_z (fs_y (by omega)))) rfl) (⟨by omega, by omega⟩) (by omega) (by rw [show 36 * p.toNat + 6 * x.toNat + (y + 1).toNat = 36 * p.toNat + 6 * x.toNat + y.toNat + 1 by omega]; have hq0_ := hg0 (by omega); have hx0_ := (show F 365 x.toNat = tl.getD x.toNat 0 + 1 from by have h := rty_get hob.2 (j := x.toNat) (by omega); rwa [Nat.zero_add] at h); have hq1_ := hg1 (by omega); have hy0_ := (show F 365 y.toNat = tl.getD y.toNat 0 + 1 from by have h := rty_get hob.2 (j := y.toNat) (by omega); rwa [Nat.zero_add] at h); have h9_ := nfc_n (gf_n (ps := ps) (tl := tl) (p := p.toNat) (f1 := x) (f2 := y) (t := (ps.getD p.toNat [])) rfl (by omega) (by omega) (by omega)); omega) (by rw [show 36 * p.toNat + 6 * x.toNat + (y + 1).toNat = 36 * p.toNat + 6 * x.toNat + y.toNat + 1 by omega]; have hq0_ := hg0 (by omega); have hx0_ := (show F 365 x.toNat = tl.getD x.toNat 0 + 1 from by have h := rty_get hob.2 (j := x.toNat) (by omega); rwa [Nat.zero_add] at h); have hq1_ := hg1 (by omega); have hy0_ := (show F 365 y.toNat = tl.getD y.toNat 0 + 1 from by have h := rty_get hob.2 (j := y.toNat) (by omega); rwa [Nat.zero_add] at h); exact fnr_y hn3 (fun h9_ => by rw [(gf_n (ps := ps) (tl := tl) (p := p.toNat) (f1 := x) (f2 := y) (t := (ps.getD p.toNat [])) rfl (by omega) (by omega) (by omega))] at h9_; cases h9_) (fun j hj => (show F166_ 366 j = F3 366 j from (by rw [q167_]; exact (fl_u_ne (by first | exact nc_ rfl | decide | omega)).trans ((fl_u_ne (by first | exact nc_ rfl | decide | omega))))))))
          refine fl_iconst hm_164 rfl ?_
          refine fl_goto hm_164 rfl ?_
          refine gr_i hm_164 rfl rfl (ga_nb (by omega)) ?_
          clear h147_ h148_ f145_ l146_
          refine fl_if_eq hm_171 rfl ⟨by omega, by omega⟩ (fun h => absurd h (by omega)) (fun _ => ?_)
          refine fl_iconst hm_171 rfl ?_
          refine fl_goto hm_171 rfl ?_
          refine ga_istore (lv2 := [(5, .int (Int32.ofInt 1)), (4, .int (Int32.ofInt y)), (3, .int (Int32.ofInt x)), (2, .int (Int32.ofInt (F 351 p.toNat))), (1, .int (Int32.ofInt p)), (0, .ref 344)]) hm_171 rfl (Nat.le_of_ble_eq_true rfl) rfl ?_
          refine ga_aload_n (v := .ref 344) hm_171 rfl rfl rfl ?_
          refine ga_getr (b := 366) hm_171 rfl sc_344 rfl ?_
          refine fl_bipush hm_171 rfl rfl ?_
          refine ga_iload_n (z := p) hm_171 rfl rfl ?_
          refine ga_imul (a := 36) (b := p) (c := 36 * p) hm_171 rfl (by omega) ?_
          refine fl_bipush hm_171 rfl rfl ?_
          refine ga_iload_n (z := x) hm_171 rfl rfl ?_
          refine ga_imul (a := 6) (b := x) (c := 6 * x) hm_171 rfl (by omega) ?_
          refine ga_iadd (a := 36 * p) (b := 6 * x) (c := 36 * p + 6 * x) hm_171 rfl (by omega) ?_
          refine ga_iload (z := y) hm_171 rfl rfl ?_
          refine ga_iadd (a := 36 * p + 6 * x) (b := y) (c := 36 * p + 6 * x + y) hm_171 rfl (by omega) ?_
          refine ga_iload (z := 1) hm_171 rfl rfl ?_
          refine fl_if_eq hm_171 rfl ⟨by omega, by omega⟩ (fun h => absurd h (by omega)) (fun _ => ?_)
          refine ga_aload_n (v := .ref 344) hm_171 rfl rfl rfl ?_
          have b172_ : 0 ≤ F3 344 36 ∧ F3 344 36 ≤ 216 := gi_g hg_F3 rfl
          refine ga_geti (z := F3 344 36) hm_171 rfl sc_344 rfl (rfl) ?_
          refine fl_goto hm_171 rfl ?_
          refine fl_iast (z := 36 * p + 6 * x + y) (v := F3 344 36) hm_171 rfl sc_366 (by omega) (by omega) (by omega) ?_
          refine ga_aload_n (v := .ref 344) hm_171 rfl rfl rfl ?_
          refine ga_dup hm_171 rfl rfl ?_
          refine ga_geti (z := F3 344 36) hm_171 rfl sc_344 rfl (fl_u_ne (by first | exact nc_ rfl | decide | omega)) ?_
          refine ga_iload (z := 1) hm_171 rfl rfl ?_
          refine fl_if_eq hm_171 rfl ⟨by omega, by omega⟩ (fun h => absurd h (by omega)) (fun _ => ?_)
          refine fl_iconst hm_171 rfl ?_
          refine fl_goto hm_171 rfl ?_
          refine ga_iadd (a := F3 344 36) (b := 1) (c := F3 344 36 + 1) hm_171 rfl (by omega) ?_
          refine ga_puti (z := F3 344 36 + 1) hm_171 rfl sc_344 rfl rfl ?_
          refine ga_inc (a := y) (c := y + 1) (lv2 := [(4, .int (Int32.ofInt (y + 1))), (5, .int (Int32.ofInt 1)), (3, .int (Int32.ofInt x)), (2, .int (Int32.ofInt (F 351 p.toNat))), (1, .int (Int32.ofInt p)), (0, .ref 344)]) hm_171 rfl rfl (Nat.le_of_ble_eq_true rfl) rfl rfl ?_
          refine fl_goto hm_171 rfl ?_
          obtain ⟨F173_, q174_⟩ : ∃ Fq_, Fq_ = (fl_u (fl_u F3 366 (36 * p + 6 * x + y).toNat (F3 344 36)) 344 36 (F3 344 36 + 1)) := ⟨_, rfl⟩
          rw [← q174_]
          have g175_ : gi F173_ := by rw [q174_]; exact gi_u (gi_u (hg_F3) rfl (by omega) (by omega)) rfl (by omega) (by omega)
          have g176_ : fs [(344, 344, 36, 36), (366, 366, 0, 100000)] F F173_ := by rw [q174_]; exact fs_u (fs_u (g68_) (fs_z (fs_y (by omega)))) rfl
          have e177_ : F173_ 344 36 = F3 344 36 + 1 := by rw [q174_]; exact fl_u_eq
          have e178_ : F173_ 366 (36 * p + 6 * x + y).toNat = F3 344 36 := by rw [q174_]; exact (fl_u_ne (by first | exact nc_ rfl | decide | omega)).trans (fl_u_eq)
          exact fl_R_sub (lv' := [(4, .int (Int32.ofInt (y + 1))), (3, .int (Int32.ofInt x)), (2, .int (Int32.ofInt (F 351 p.toNat))), (1, .int (Int32.ofInt p)), (0, .ref 344)]) rfl rfl (ih66_ _ (by omega) (y + 1) F173_ rfl g175_ (by rw [q174_]; exact fs_u (fs_u (hf_F3) (fs_z (fs_y (by omega)))) rfl) (⟨by omega, by omega⟩) (by omega) (by rw [show 36 * p.toNat + 6 * x.toNat + (y + 1).toNat = 36 * p.toNat + 6 * x.toNat + y.toNat + 1 by omega]; have hq0_ := hg0 (by omega); have hx0_ := (show F 365 x.toNat = tl.getD x.toNat 0 + 1 from by have h := rty_get hob.2 (j := x.toNat) (by omega); rwa [Nat.zero_add] at h); have hq1_ := hg1 (by omega); have hy0_ := (show F 365 y.toNat = tl.getD y.toNat 0 + 1 from by have h := rty_get hob.2 (j := y.toNat) (by omega); rwa [Nat.zero_add] at h); have h9_ := nfc_y (gf_y (ps := ps) (tl := tl) (p := p.toNat) (f1 := x) (f2 := y) (t := (ps.getD p.toNat [])) (by omega) rfl (by omega) (by omega) (by omega) (by omega)); omega) (by rw [show 36 * p.toNat + 6 * x.toNat + (y + 1).toNat = 36 * p.toNat + 6 * x.toNat + y.toNat + 1 by omega]; exact fnr_y hn3 (fun h9_ => by rw [show 36 * p.toNat + 6 * x.toNat + y.toNat = (36 * p + 6 * x + y).toNat by omega]; exact Eq.trans (e178_) (by rw [show (36 * p + 6 * x + y).toNat = 36 * p.toNat + 6 * x.toNat + y.toNat by omega]; exact hf3)) (fun j hj => (show F173_ 366 j = F3 366 j from (by rw [q174_]; exact (fl_u_ne (by first | exact nc_ rfl | decide | omega)).trans ((fl_u_ne (by first | exact nc_ rfl | decide | omega))))))))
        refine ga_aload_n (v := .ref 344) hm_164 rfl rfl rfl ?_
        refine ga_getr (b := 365) hm_164 rfl sc_344 rfl ?_
        refine ga_iload_n (z := x) hm_164 rfl rfl ?_
        have e179_ : F1_ 365 x.toNat = F 365 x.toNat := by rw [q2_]; exact fl_u_ne (by first | exact nc_ rfl | decide | omega)
        have e180_ : F1 365 x.toNat = F 365 x.toNat := (hf_F1 365 x.toNat (by first | exact fs_c rfl | exact (fs_n (by omega) (fs_n (by omega) rfl)))).trans (e179_)
        have e181_ : F2 365 x.toNat = F 365 x.toNat := (hf_F2 365 x.toNat (by first | exact fs_c rfl | exact (fs_n (by omega) (fs_n (by omega) rfl)))).trans (e180_)
        have e182_ : F3 365 x.toNat = F 365 x.toNat := (hf_F3 365 x.toNat (by first | exact fs_c rfl | exact (fs_n (by omega) (fs_n (by omega) rfl)))).trans (e181_)
        have b183_ : 0 ≤ F 365 x.toNat ∧ F 365 x.toNat ≤ 4 := gi_g hgi rfl
        refine ga_iald (z := x) (w := F 365 x.toNat) hm_164 rfl sc_365 (by omega) (by omega) (by omega) (e182_) ?_
        refine ga_iload_n (z := F 352 (2 * p).toNat) hm_164 rfl rfl ?_
        refine fx_icmp_ne (a := F 365 x.toNat) (b := F 352 (2 * p).toNat) hm_164 rfl ⟨by omega, by omega⟩ ⟨by omega, by omega⟩ (fun h184_ => ?_) (fun h185_ => ?_)
        ·
          refine fl_iconst hm_164 rfl ?_
          refine gr_i hm_164 rfl rfl (ga_nb (by omega)) ?_
          clear h134_ h135_ f132_ l133_
          refine fl_if_eq hm_171 rfl ⟨by omega, by omega⟩ (fun _ => ?_) (fun h => absurd (by omega) h)
          refine fl_iconst hm_171 rfl ?_
          refine ga_istore (lv2 := [(5, .int (Int32.ofInt 0)), (4, .int (Int32.ofInt y)), (3, .int (Int32.ofInt x)), (2, .int (Int32.ofInt (F 351 p.toNat))), (1, .int (Int32.ofInt p)), (0, .ref 344)]) hm_171 rfl (Nat.le_of_ble_eq_true rfl) rfl ?_
          refine ga_aload_n (v := .ref 344) hm_171 rfl rfl rfl ?_
          refine ga_getr (b := 366) hm_171 rfl sc_344 rfl ?_
          refine fl_bipush hm_171 rfl rfl ?_
          refine ga_iload_n (z := p) hm_171 rfl rfl ?_
          refine ga_imul (a := 36) (b := p) (c := 36 * p) hm_171 rfl (by omega) ?_
          refine fl_bipush hm_171 rfl rfl ?_
          refine ga_iload_n (z := x) hm_171 rfl rfl ?_
          refine ga_imul (a := 6) (b := x) (c := 6 * x) hm_171 rfl (by omega) ?_
          refine ga_iadd (a := 36 * p) (b := 6 * x) (c := 36 * p + 6 * x) hm_171 rfl (by omega) ?_
          refine ga_iload (z := y) hm_171 rfl rfl ?_
          refine ga_iadd (a := 36 * p + 6 * x) (b := y) (c := 36 * p + 6 * x + y) hm_171 rfl (by omega) ?_
          refine ga_iload (z := 0) hm_171 rfl rfl ?_
          refine fl_if_eq hm_171 rfl ⟨by omega, by omega⟩ (fun _ => ?_) (fun h => absurd (by omega) h)
          refine fl_iconst hm_171 rfl ?_
          refine fl_iast (z := 36 * p + 6 * x + y) (v := 0) hm_171 rfl sc_366 (by omega) (by omega) (by omega) ?_
          refine ga_aload_n (v := .ref 344) hm_171 rfl rfl rfl ?_
          refine ga_dup hm_171 rfl rfl ?_
          have b186_ : 0 ≤ F3 344 36 ∧ F3 344 36 ≤ 216 := gi_g hg_F3 rfl
          refine ga_geti (z := F3 344 36) hm_171 rfl sc_344 rfl (fl_u_ne (by first | exact nc_ rfl | decide | omega)) ?_
          refine ga_iload (z := 0) hm_171 rfl rfl ?_
          refine fl_if_eq hm_171 rfl ⟨by omega, by omega⟩ (fun _ => ?_) (fun h => absurd (by omega) h)
          refine fl_iconst hm_171 rfl ?_
          refine ga_iadd (a := F3 344 36) (b := 0) (c := F3 344 36) hm_171 rfl (by omega) ?_
          refine ga_puti (z := F3 344 36) hm_171 rfl sc_344 rfl rfl ?_
          refine ga_inc (a := y) (c := y + 1) (lv2 := [(4, .int (Int32.ofInt (y + 1))), (5, .int (Int32.ofInt 0)), (3, .int (Int32.ofInt x)), (2, .int (Int32.ofInt (F 351 p.toNat))), (1, .int (Int32.ofInt p)), (0, .ref 344)]) hm_171 rfl rfl (Nat.le_of_ble_eq_true rfl) rfl rfl ?_
          refine fl_goto hm_171 rfl ?_
          obtain ⟨F187_, q188_⟩ : ∃ Fq_, Fq_ = (fl_u (fl_u F3 366 (36 * p + 6 * x + y).toNat 0) 344 36 (F3 344 36)) := ⟨_, rfl⟩
          rw [← q188_]
          have g189_ : gi F187_ := by rw [q188_]; exact gi_u (gi_u (hg_F3) rfl (by omega) (by omega)) rfl (by omega) (by omega)
          have g190_ : fs [(344, 344, 36, 36), (366, 366, 0, 100000)] F F187_ := by rw [q188_]; exact fs_u (fs_u (g68_) (fs_z (fs_y (by omega)))) rfl
          have e191_ : F187_ 344 36 = F3 344 36 := by rw [q188_]; exact fl_u_eq
          have e192_ : F187_ 366 (36 * p + 6 * x + y).toNat = 0 := by rw [q188_]; exact (fl_u_ne (by first | exact nc_ rfl | decide | omega)).trans (fl_u_eq)
          exact fl_R_sub (lv' := [(4, .int (Int32.ofInt (y + 1))), (3, .int (Int32.ofInt x)), (2, .int (Int32.ofInt (F 351 p.toNat))), (1, .int (Int32.ofInt p)), (0, .ref 344)]) rfl rfl (ih66_ _ (by omega) (y + 1) F187_ rfl g189_ (by rw [q188_]; exact fs_u (fs_u (hf_F3) (fs_z (fs_y (by omega)))) rfl) (⟨by omega, by omega⟩) (by omega) (by rw [show 36 * p.toNat + 6 * x.toNat + (y + 1).toNat = 36 * p.toNat + 6 * x.toNat + y.toNat + 1 by omega]; have hq0_ := hg0 (by omega); have hx0_ := (show F 365 x.toNat = tl.getD x.toNat 0 + 1 from by have h := rty_get hob.2 (j := x.toNat) (by omega); rwa [Nat.zero_add] at h); have hq1_ := hg1 (by omega); have hy0_ := (show F 365 y.toNat = tl.getD y.toNat 0 + 1 from by have h := rty_get hob.2 (j := y.toNat) (by omega); rwa [Nat.zero_add] at h); have h9_ := nfc_n (gf_n (ps := ps) (tl := tl) (p := p.toNat) (f1 := x) (f2 := y) (t := (ps.getD p.toNat [])) rfl (by omega) (by omega) (by omega)); omega) (by rw [show 36 * p.toNat + 6 * x.toNat + (y + 1).toNat = 36 * p.toNat + 6 * x.toNat + y.toNat + 1 by omega]; have hq0_ := hg0 (by omega); have hx0_ := (show F 365 x.toNat = tl.getD x.toNat 0 + 1 from by have h := rty_get hob.2 (j := x.toNat) (by omega); rwa [Nat.zero_add] at h); have hq1_ := hg1 (by omega); have hy0_ := (show F 365 y.toNat = tl.getD y.toNat 0 + 1 from by have h := rty_get hob.2 (j := y.toNat) (by omega); rwa [Nat.zero_add] at h); exact fnr_y hn3 (fun h9_ => by rw [(gf_n (ps := ps) (tl := tl) (p := p.toNat) (f1 := x) (f2 := y) (t := (ps.getD p.toNat [])) rfl (by omega) (by omega) (by omega))] at h9_; cases h9_) (fun j hj => (show F187_ 366 j = F3 366 j from (by rw [q188_]; exact (fl_u_ne (by first | exact nc_ rfl | decide | omega)).trans ((fl_u_ne (by first | exact nc_ rfl | decide | omega))))))))
        refine fl_iconst hm_164 rfl ?_
        refine fl_goto hm_164 rfl ?_
        refine gr_i hm_164 rfl rfl (ga_nb (by omega)) ?_
        clear h134_ h135_ f132_ l133_
        refine fl_if_eq hm_171 rfl ⟨by omega, by omega⟩ (fun h => absurd h (by omega)) (fun _ => ?_)
        refine ga_iload_n (z := F 351 p.toNat) hm_171 rfl rfl ?_
        refine fl_iconst hm_171 rfl ?_
        refine fl_icmp_lt (a := F 351 p.toNat) (b := 2) hm_171 rfl ⟨by omega, by omega⟩ ⟨by omega, by omega⟩ (fun h193_ => ?_) (fun h194_ => ?_)
        · exfalso; omega
        refine ga_aload_n (v := .ref 344) hm_171 rfl rfl rfl ?_
        refine ga_iload (z := y) hm_171 rfl rfl ?_
        refine ga_aload_n (v := .ref 344) hm_171 rfl rfl rfl ?_
        refine ga_getr (b := 352) hm_171 rfl sc_344 rfl ?_
        refine fl_iconst hm_171 rfl ?_
        refine ga_iload_n (z := p) hm_171 rfl rfl ?_
        refine ga_imul (a := 2) (b := p) (c := 2 * p) hm_171 rfl (by omega) ?_
        refine fl_iconst hm_171 rfl ?_
        refine ga_iadd (a := 2 * p) (b := 1) (c := 2 * p + 1) hm_171 rfl (by omega) ?_
        have e195_ : F1_ 352 (2 * p + 1).toNat = F 352 (2 * p + 1).toNat := by rw [q2_]; exact fl_u_ne (by first | exact nc_ rfl | decide | omega)
        have e196_ : F1 352 (2 * p + 1).toNat = F 352 (2 * p + 1).toNat := (hf_F1 352 (2 * p + 1).toNat (by first | exact fs_c rfl | exact (fs_n (by omega) (fs_n (by omega) rfl)))).trans (e195_)
        have e197_ : F2 352 (2 * p + 1).toNat = F 352 (2 * p + 1).toNat := (hf_F2 352 (2 * p + 1).toNat (by first | exact fs_c rfl | exact (fs_n (by omega) (fs_n (by omega) rfl)))).trans (e196_)
        have e198_ : F3 352 (2 * p + 1).toNat = F 352 (2 * p + 1).toNat := (hf_F3 352 (2 * p + 1).toNat (by first | exact fs_c rfl | exact (fs_n (by omega) (fs_n (by omega) rfl)))).trans (e197_)
        have b199_ : 0 ≤ F 352 (2 * p + 1).toNat ∧ F 352 (2 * p + 1).toNat ≤ 4 := gi_g hgi rfl
        refine ga_iald (z := 2 * p + 1) (w := F 352 (2 * p + 1).toNat) hm_171 rfl sc_352 (by omega) (by omega) (by omega) (e198_) ?_
        refine gIi (nY := 3) (F := 0) (L := 0) (As := [.int (Int32.ofInt y), .int (Int32.ofInt (F 352 (2 * p + 1).toNat))]) (b := 344) (rest := []) hm_171 rfl hm_164 rfl rfl (fl_ob sc_344) rfl rfl rfl rfl rfl (by omega) (by omega) ?_
        intro f200_ l201_ h202_ h203_
        show fl_R xi_ms 164 f200_ l201_ 0 [(0, .ref 344), (1, .int (Int32.ofInt y)), (2, .int (Int32.ofInt (F 352 (2 * p + 1).toNat)))] [] _ _
        refine ga_iload_n (z := F 352 (2 * p + 1).toNat) hm_164 rfl rfl ?_
        refine fl_if_eq (a := F 352 (2 * p + 1).toNat) hm_164 rfl ⟨by omega, by omega⟩ (fun h204_ => ?_) (fun h205_ => ?_)
        ·
          refine fl_iconst hm_164 rfl ?_
          refine fl_goto hm_164 rfl ?_
          refine gr_i hm_164 rfl rfl (ga_nb (by omega)) ?_
          clear h202_ h203_ f200_ l201_
          refine fl_if_eq hm_171 rfl ⟨by omega, by omega⟩ (fun h => absurd h (by omega)) (fun _ => ?_)
          refine fl_iconst hm_171 rfl ?_
          refine fl_goto hm_171 rfl ?_
          refine ga_istore (lv2 := [(5, .int (Int32.ofInt 1)), (4, .int (Int32.ofInt y)), (3, .int (Int32.ofInt x)), (2, .int (Int32.ofInt (F 351 p.toNat))), (1, .int (Int32.ofInt p)), (0, .ref 344)]) hm_171 rfl (Nat.le_of_ble_eq_true rfl) rfl ?_
          refine ga_aload_n (v := .ref 344) hm_171 rfl rfl rfl ?_
          refine ga_getr (b := 366) hm_171 rfl sc_344 rfl ?_
          refine fl_bipush hm_171 rfl rfl ?_
          refine ga_iload_n (z := p) hm_171 rfl rfl ?_
          refine ga_imul (a := 36) (b := p) (c := 36 * p) hm_171 rfl (by omega) ?_
          refine fl_bipush hm_171 rfl rfl ?_
          refine ga_iload_n (z := x) hm_171 rfl rfl ?_
          refine ga_imul (a := 6) (b := x) (c := 6 * x) hm_171 rfl (by omega) ?_
          refine ga_iadd (a := 36 * p) (b := 6 * x) (c := 36 * p + 6 * x) hm_171 rfl (by omega) ?_
          refine ga_iload (z := y) hm_171 rfl rfl ?_
          refine ga_iadd (a := 36 * p + 6 * x) (b := y) (c := 36 * p + 6 * x + y) hm_171 rfl (by omega) ?_
          refine ga_iload (z := 1) hm_171 rfl rfl ?_
          refine fl_if_eq hm_171 rfl ⟨by omega, by omega⟩ (fun h => absurd h (by omega)) (fun _ => ?_)
          refine ga_aload_n (v := .ref 344) hm_171 rfl rfl rfl ?_
          have b206_ : 0 ≤ F3 344 36 ∧ F3 344 36 ≤ 216 := gi_g hg_F3 rfl
          refine ga_geti (z := F3 344 36) hm_171 rfl sc_344 rfl (rfl) ?_
          refine fl_goto hm_171 rfl ?_
          refine fl_iast (z := 36 * p + 6 * x + y) (v := F3 344 36) hm_171 rfl sc_366 (by omega) (by omega) (by omega) ?_
          refine ga_aload_n (v := .ref 344) hm_171 rfl rfl rfl ?_
          refine ga_dup hm_171 rfl rfl ?_
          refine ga_geti (z := F3 344 36) hm_171 rfl sc_344 rfl (fl_u_ne (by first | exact nc_ rfl | decide | omega)) ?_
          refine ga_iload (z := 1) hm_171 rfl rfl ?_
          refine fl_if_eq hm_171 rfl ⟨by omega, by omega⟩ (fun h => absurd h (by omega)) (fun _ => ?_)
          refine fl_iconst hm_171 rfl ?_
          refine fl_goto hm_171 rfl ?_
          refine ga_iadd (a := F3 344 36) (b := 1) (c := F3 344 36 + 1) hm_171 rfl (by omega) ?_
          refine ga_puti (z := F3 344 36 + 1) hm_171 rfl sc_344 rfl rfl ?_
          refine ga_inc (a := y) (c := y + 1) (lv2 := [(4, .int (Int32.ofInt (y + 1))), (5, .int (Int32.ofInt 1)), (3, .int (Int32.ofInt x)), (2, .int (Int32.ofInt (F 351 p.toNat))), (1, .int (Int32.ofInt p)), (0, .ref 344)]) hm_171 rfl rfl (Nat.le_of_ble_eq_true rfl) rfl rfl ?_
          refine fl_goto hm_171 rfl ?_
          obtain ⟨F207_, q208_⟩ : ∃ Fq_, Fq_ = (fl_u (fl_u F3 366 (36 * p + 6 * x + y).toNat (F3 344 36)) 344 36 (F3 344 36 + 1)) := ⟨_, rfl⟩
          rw [← q208_]
          have g209_ : gi F207_ := by rw [q208_]; exact gi_u (gi_u (hg_F3) rfl (by omega) (by omega)) rfl (by omega) (by omega)
          have g210_ : fs [(344, 344, 36, 36), (366, 366, 0, 100000)] F F207_ := by rw [q208_]; exact fs_u (fs_u (g68_) (fs_z (fs_y (by omega)))) rfl
          have e211_ : F207_ 344 36 = F3 344 36 + 1 := by rw [q208_]; exact fl_u_eq
          have e212_ : F207_ 366 (36 * p + 6 * x + y).toNat = F3 344 36 := by rw [q208_]; exact (fl_u_ne (by first | exact nc_ rfl | decide | omega)).trans (fl_u_eq)
          exact fl_R_sub (lv' := [(4, .int (Int32.ofInt (y + 1))), (3, .int (Int32.ofInt x)), (2, .int (Int32.ofInt (F 351 p.toNat))), (1, .int (Int32.ofInt p)), (0, .ref 344)]) rfl rfl (ih66_ _ (by omega) (y + 1) F207_ rfl g209_ (by rw [q208_]; exact fs_u (fs_u (hf_F3) (fs_z (fs_y (by omega)))) rfl) (⟨by omega, by omega⟩) (by omega) (by rw [show 36 * p.toNat + 6 * x.toNat + (y + 1).toNat = 36 * p.toNat + 6 * x.toNat + y.toNat + 1 by omega]; have hq0_ := hg0 (by omega); have hx0_ := (show F 365 x.toNat = tl.getD x.toNat 0 + 1 from by have h := rty_get hob.2 (j := x.toNat) (by omega); rwa [Nat.zero_add] at h); have hq1_ := hg1 (by omega); have hy0_ := (show F 365 y.toNat = tl.getD y.toNat 0 + 1 from by have h := rty_get hob.2 (j := y.toNat) (by omega); rwa [Nat.zero_add] at h); have h9_ := nfc_y (gf_y (ps := ps) (tl := tl) (p := p.toNat) (f1 := x) (f2 := y) (t := (ps.getD p.toNat [])) (by omega) rfl (by omega) (by omega) (by omega) (by omega)); omega) (by rw [show 36 * p.toNat + 6 * x.toNat + (y + 1).toNat = 36 * p.toNat + 6 * x.toNat + y.toNat + 1 by omega]; exact fnr_y hn3 (fun h9_ => by rw [show 36 * p.toNat + 6 * x.toNat + y.toNat = (36 * p + 6 * x + y).toNat by omega]; exact Eq.trans (e212_) (by rw [show (36 * p + 6 * x + y).toNat = 36 * p.toNat + 6 * x.toNat + y.toNat by omega]; exact hf3)) (fun j hj => (show F207_ 366 j = F3 366 j from (by rw [q208_]; exact (fl_u_ne (by first | exact nc_ rfl | decide | omega)).trans ((fl_u_ne (by first | exact nc_ rfl | decide | omega))))))))
        refine ga_aload_n (v := .ref 344) hm_164 rfl rfl rfl ?_
        refine ga_getr (b := 365) hm_164 rfl sc_344 rfl ?_
        refine ga_iload_n (z := y) hm_164 rfl rfl ?_
        have e213_ : F1_ 365 y.toNat = F 365 y.toNat := by rw [q2_]; exact fl_u_ne (by first | exact nc_ rfl | decide | omega)
        have e214_ : F1 365 y.toNat = F 365 y.toNat := (hf_F1 365 y.toNat (by first | exact fs_c rfl | exact (fs_n (by omega) (fs_n (by omega) rfl)))).trans (e213_)
        have e215_ : F2 365 y.toNat = F 365 y.toNat := (hf_F2 365 y.toNat (by first | exact fs_c rfl | exact (fs_n (by omega) (fs_n (by omega) rfl)))).trans (e214_)
        have e216_ : F3 365 y.toNat = F 365 y.toNat := (hf_F3 365 y.toNat (by first | exact fs_c rfl | exact (fs_n (by omega) (fs_n (by omega) rfl)))).trans (e215_)
        have b217_ : 0 ≤ F 365 y.toNat ∧ F 365 y.toNat ≤ 4 := gi_g hgi rfl
        refine ga_iald (z := y) (w := F 365 y.toNat) hm_164 rfl sc_365 (by omega) (by omega) (by omega) (e216_) ?_
        refine ga_iload_n (z := F 352 (2 * p + 1).toNat) hm_164 rfl rfl ?_
        refine fx_icmp_ne (a := F 365 y.toNat) (b := F 352 (2 * p + 1).toNat) hm_164 rfl ⟨by omega, by omega⟩ ⟨by omega, by omega⟩ (fun h218_ => ?_) (fun h219_ => ?_)
        ·
          refine fl_iconst hm_164 rfl ?_
          refine gr_i hm_164 rfl rfl (ga_nb (by omega)) ?_
          clear h202_ h203_ f200_ l201_
          refine fl_if_eq hm_171 rfl ⟨by omega, by omega⟩ (fun _ => ?_) (fun h => absurd (by omega) h)
          refine fl_iconst hm_171 rfl ?_
          refine ga_istore (lv2 := [(5, .int (Int32.ofInt 0)), (4, .int (Int32.ofInt y)), (3, .int (Int32.ofInt x)), (2, .int (Int32.ofInt (F 351 p.toNat))), (1, .int (Int32.ofInt p)), (0, .ref 344)]) hm_171 rfl (Nat.le_of_ble_eq_true rfl) rfl ?_
          refine ga_aload_n (v := .ref 344) hm_171 rfl rfl rfl ?_
          refine ga_getr (b := 366) hm_171 rfl sc_344 rfl ?_
          refine fl_bipush hm_171 rfl rfl ?_
          refine ga_iload_n (z := p) hm_171 rfl rfl ?_
          refine ga_imul (a := 36) (b := p) (c := 36 * p) hm_171 rfl (by omega) ?_
          refine fl_bipush hm_171 rfl rfl ?_
          refine ga_iload_n (z := x) hm_171 rfl rfl ?_
          refine ga_imul (a := 6) (b := x) (c := 6 * x) hm_171 rfl (by omega) ?_
          refine ga_iadd (a := 36 * p) (b := 6 * x) (c := 36 * p + 6 * x) hm_171 rfl (by omega) ?_
          refine ga_iload (z := y) hm_171 rfl rfl ?_
          refine ga_iadd (a := 36 * p + 6 * x) (b := y) (c := 36 * p + 6 * x + y) hm_171 rfl (by omega) ?_
          refine ga_iload (z := 0) hm_171 rfl rfl ?_
          refine fl_if_eq hm_171 rfl ⟨by omega, by omega⟩ (fun _ => ?_) (fun h => absurd (by omega) h)
          refine fl_iconst hm_171 rfl ?_
          refine fl_iast (z := 36 * p + 6 * x + y) (v := 0) hm_171 rfl sc_366 (by omega) (by omega) (by omega) ?_
          refine ga_aload_n (v := .ref 344) hm_171 rfl rfl rfl ?_
          refine ga_dup hm_171 rfl rfl ?_
          have b220_ : 0 ≤ F3 344 36 ∧ F3 344 36 ≤ 216 := gi_g hg_F3 rfl
          refine ga_geti (z := F3 344 36) hm_171 rfl sc_344 rfl (fl_u_ne (by first | exact nc_ rfl | decide | omega)) ?_
          refine ga_iload (z := 0) hm_171 rfl rfl ?_
          refine fl_if_eq hm_171 rfl ⟨by omega, by omega⟩ (fun _ => ?_) (fun h => absurd (by omega) h)
          refine fl_iconst hm_171 rfl ?_
          refine ga_iadd (a := F3 344 36) (b := 0) (c := F3 344 36) hm_171 rfl (by omega) ?_
          refine ga_puti (z := F3 344 36) hm_171 rfl sc_344 rfl rfl ?_
          refine ga_inc (a := y) (c := y + 1) (lv2 := [(4, .int (Int32.ofInt (y + 1))), (5, .int (Int32.ofInt 0)), (3, .int (Int32.ofInt x)), (2, .int (Int32.ofInt (F 351 p.toNat))), (1, .int (Int32.ofInt p)), (0, .ref 344)]) hm_171 rfl rfl (Nat.le_of_ble_eq_true rfl) rfl rfl ?_
          refine fl_goto hm_171 rfl ?_
          obtain ⟨F221_, q222_⟩ : ∃ Fq_, Fq_ = (fl_u (fl_u F3 366 (36 * p + 6 * x + y).toNat 0) 344 36 (F3 344 36)) := ⟨_, rfl⟩
          rw [← q222_]
          have g223_ : gi F221_ := by rw [q222_]; exact gi_u (gi_u (hg_F3) rfl (by omega) (by omega)) rfl (by omega) (by omega)
          have g224_ : fs [(344, 344, 36, 36), (366, 366, 0, 100000)] F F221_ := by rw [q222_]; exact fs_u (fs_u (g68_) (fs_z (fs_y (by omega)))) rfl
          have e225_ : F221_ 344 36 = F3 344 36 := by rw [q222_]; exact fl_u_eq
          have e226_ : F221_ 366 (36 * p + 6 * x + y).toNat = 0 := by rw [q222_]; exact (fl_u_ne (by first | exact nc_ rfl | decide | omega)).trans (fl_u_eq)
          exact fl_R_sub (lv' := [(4, .int (Int32.ofInt (y + 1))), (3, .int (Int32.ofInt x)), (2, .int (Int32.ofInt (F 351 p.toNat))), (1, .int (Int32.ofInt p)), (0, .ref 344)]) rfl rfl (ih66_ _ (by omega) (y + 1) F221_ rfl g223_ (by rw [q222_]; exact fs_u (fs_u (hf_F3) (fs_z (fs_y (by omega)))) rfl) (⟨by omega, by omega⟩) (by omega) (by rw [show 36 * p.toNat + 6 * x.toNat + (y + 1).toNat = 36 * p.toNat + 6 * x.toNat + y.toNat + 1 by omega]; have hq0_ := hg0 (by omega); have hx0_ := (show F 365 x.toNat = tl.getD x.toNat 0 + 1 from by have h := rty_get hob.2 (j := x.toNat) (by omega); rwa [Nat.zero_add] at h); have hq1_ := hg1 (by omega); have hy0_ := (show F 365 y.toNat = tl.getD y.toNat 0 + 1 from by have h := rty_get hob.2 (j := y.toNat) (by omega); rwa [Nat.zero_add] at h); have h9_ := nfc_n (gf_n (ps := ps) (tl := tl) (p := p.toNat) (f1 := x) (f2 := y) (t := (ps.getD p.toNat [])) rfl (by omega) (by omega) (by omega)); omega) (by rw [show 36 * p.toNat + 6 * x.toNat + (y + 1).toNat = 36 * p.toNat + 6 * x.toNat + y.toNat + 1 by omega]; have hq0_ := hg0 (by omega); have hx0_ := (show F 365 x.toNat = tl.getD x.toNat 0 + 1 from by have h := rty_get hob.2 (j := x.toNat) (by omega); rwa [Nat.zero_add] at h); have hq1_ := hg1 (by omega); have hy0_ := (show F 365 y.toNat = tl.getD y.toNat 0 + 1 from by have h := rty_get hob.2 (j := y.toNat) (by omega); rwa [Nat.zero_add] at h); exact fnr_y hn3 (fun h9_ => by rw [(gf_n (ps := ps) (tl := tl) (p := p.toNat) (f1 := x) (f2 := y) (t := (ps.getD p.toNat [])) rfl (by omega) (by omega) (by omega))] at h9_; cases h9_) (fun j hj => (show F221_ 366 j = F3 366 j from (by rw [q222_]; exact (fl_u_ne (by first | exact nc_ rfl | decide | omega)).trans ((fl_u_ne (by first | exact nc_ rfl | decide | omega))))))))
        refine fl_iconst hm_164 rfl ?_
        refine fl_goto hm_164 rfl ?_
        refine gr_i hm_164 rfl rfl (ga_nb (by omega)) ?_
        clear h202_ h203_ f200_ l201_
        refine fl_if_eq hm_171 rfl ⟨by omega, by omega⟩ (fun h => absurd h (by omega)) (fun _ => ?_)
        refine fl_iconst hm_171 rfl ?_
        refine fl_goto hm_171 rfl ?_
        refine ga_istore (lv2 := [(5, .int (Int32.ofInt 1)), (4, .int (Int32.ofInt y)), (3, .int (Int32.ofInt x)), (2, .int (Int32.ofInt (F 351 p.toNat))), (1, .int (Int32.ofInt p)), (0, .ref 344)]) hm_171 rfl (Nat.le_of_ble_eq_true rfl) rfl ?_
        refine ga_aload_n (v := .ref 344) hm_171 rfl rfl rfl ?_
        refine ga_getr (b := 366) hm_171 rfl sc_344 rfl ?_
        refine fl_bipush hm_171 rfl rfl ?_
        refine ga_iload_n (z := p) hm_171 rfl rfl ?_
        refine ga_imul (a := 36) (b := p) (c := 36 * p) hm_171 rfl (by omega) ?_
        refine fl_bipush hm_171 rfl rfl ?_
        refine ga_iload_n (z := x) hm_171 rfl rfl ?_
        refine ga_imul (a := 6) (b := x) (c := 6 * x) hm_171 rfl (by omega) ?_
        refine ga_iadd (a := 36 * p) (b := 6 * x) (c := 36 * p + 6 * x) hm_171 rfl (by omega) ?_
        refine ga_iload (z := y) hm_171 rfl rfl ?_
        refine ga_iadd (a := 36 * p + 6 * x) (b := y) (c := 36 * p + 6 * x + y) hm_171 rfl (by omega) ?_
        refine ga_iload (z := 1) hm_171 rfl rfl ?_
        refine fl_if_eq hm_171 rfl ⟨by omega, by omega⟩ (fun h => absurd h (by omega)) (fun _ => ?_)
        refine ga_aload_n (v := .ref 344) hm_171 rfl rfl rfl ?_
        have b227_ : 0 ≤ F3 344 36 ∧ F3 344 36 ≤ 216 := gi_g hg_F3 rfl
        refine ga_geti (z := F3 344 36) hm_171 rfl sc_344 rfl (rfl) ?_
        refine fl_goto hm_171 rfl ?_
        refine fl_iast (z := 36 * p + 6 * x + y) (v := F3 344 36) hm_171 rfl sc_366 (by omega) (by omega) (by omega) ?_
        refine ga_aload_n (v := .ref 344) hm_171 rfl rfl rfl ?_
        refine ga_dup hm_171 rfl rfl ?_
        refine ga_geti (z := F3 344 36) hm_171 rfl sc_344 rfl (fl_u_ne (by first | exact nc_ rfl | decide | omega)) ?_
        refine ga_iload (z := 1) hm_171 rfl rfl ?_
        refine fl_if_eq hm_171 rfl ⟨by omega, by omega⟩ (fun h => absurd h (by omega)) (fun _ => ?_)
        refine fl_iconst hm_171 rfl ?_
        refine fl_goto hm_171 rfl ?_
        refine ga_iadd (a := F3 344 36) (b := 1) (c := F3 344 36 + 1) hm_171 rfl (by omega) ?_
        refine ga_puti (z := F3 344 36 + 1) hm_171 rfl sc_344 rfl rfl ?_
        refine ga_inc (a := y) (c := y + 1) (lv2 := [(4, .int (Int32.ofInt (y + 1))), (5, .int (Int32.ofInt 1)), (3, .int (Int32.ofInt x)), (2, .int (Int32.ofInt (F 351 p.toNat))), (1, .int (Int32.ofInt p)), (0, .ref 344)]) hm_171 rfl rfl (Nat.le_of_ble_eq_true rfl) rfl rfl ?_
        refine fl_goto hm_171 rfl ?_
        obtain ⟨F228_, q229_⟩ : ∃ Fq_, Fq_ = (fl_u (fl_u F3 366 (36 * p + 6 * x + y).toNat (F3 344 36)) 344 36 (F3 344 36 + 1)) := ⟨_, rfl⟩
        rw [← q229_]
        have g230_ : gi F228_ := by rw [q229_]; exact gi_u (gi_u (hg_F3) rfl (by omega) (by omega)) rfl (by omega) (by omega)
        have g231_ : fs [(344, 344, 36, 36), (366, 366, 0, 100000)] F F228_ := by rw [q229_]; exact fs_u (fs_u (g68_) (fs_z (fs_y (by omega)))) rfl
        have e232_ : F228_ 344 36 = F3 344 36 + 1 := by rw [q229_]; exact fl_u_eq
        have e233_ : F228_ 366 (36 * p + 6 * x + y).toNat = F3 344 36 := by rw [q229_]; exact (fl_u_ne (by first | exact nc_ rfl | decide | omega)).trans (fl_u_eq)
        exact fl_R_sub (lv' := [(4, .int (Int32.ofInt (y + 1))), (3, .int (Int32.ofInt x)), (2, .int (Int32.ofInt (F 351 p.toNat))), (1, .int (Int32.ofInt p)), (0, .ref 344)]) rfl rfl (ih66_ _ (by omega) (y + 1) F228_ rfl g230_ (by rw [q229_]; exact fs_u (fs_u (hf_F3) (fs_z (fs_y (by omega)))) rfl) (⟨by omega, by omega⟩) (by omega) (by rw [show 36 * p.toNat + 6 * x.toNat + (y + 1).toNat = 36 * p.toNat + 6 * x.toNat + y.toNat + 1 by omega]; have hq0_ := hg0 (by omega); have hx0_ := (show F 365 x.toNat = tl.getD x.toNat 0 + 1 from by have h := rty_get hob.2 (j := x.toNat) (by omega); rwa [Nat.zero_add] at h); have hq1_ := hg1 (by omega); have hy0_ := (show F 365 y.toNat = tl.getD y.toNat 0 + 1 from by have h := rty_get hob.2 (j := y.toNat) (by omega); rwa [Nat.zero_add] at h); have h9_ := nfc_y (gf_y (ps := ps) (tl := tl) (p := p.toNat) (f1 := x) (f2 := y) (t := (ps.getD p.toNat [])) (by omega) rfl (by omega) (by omega) (by omega) (by omega)); omega) (by rw [show 36 * p.toNat + 6 * x.toNat + (y + 1).toNat = 36 * p.toNat + 6 * x.toNat + y.toNat + 1 by omega]; exact fnr_y hn3 (fun h9_ => by rw [show 36 * p.toNat + 6 * x.toNat + y.toNat = (36 * p + 6 * x + y).toNat by omega]; exact Eq.trans (e233_) (by rw [show (36 * p + 6 * x + y).toNat = 36 * p.toNat + 6 * x.toNat + y.toNat by omega]; exact hf3)) (fun j hj => (show F228_ 366 j = F3 366 j from (by rw [q229_]; exact (fl_u_ne (by first | exact nc_ rfl | decide | omega)).trans ((fl_u_ne (by first | exact nc_ rfl | decide | omega))))))))
      have b234_ : 0 ≤ F2 344 36 ∧ F2 344 36 ≤ 216 := gi_g hg_F2 rfl
      exact L65_ _ (0) F2 rfl hg_F2 fs_refl (⟨by omega, by omega⟩) (by omega) (by simpa using hf2) (by simpa using hn2)
    have b235_ : 0 ≤ F 344 33 ∧ F 344 33 ≤ 6 := gi_g hgi rfl
    have b236_ : 0 ≤ F1 344 36 ∧ F1 344 36 ≤ 216 := gi_g hg_F1 rfl
    exact L20_ _ (0) F1 rfl hg_F1 fs_refl (⟨by omega, by omega⟩) (by omega) (by simpa using hf) (by simpa using hn1)
  have b237_ : 0 ≤ F 344 17 ∧ F 344 17 ≤ 6 := gi_g hgi rfl
  have e238_ : F1_ 344 36 = 0 := by rw [q2_]; exact fl_u_eq
  exact L6_ _ (0) F1_ rfl g3_ fs_refl (⟨by omega, by omega⟩) (by show _ = ((0 : Nat) : Int); omega) (fnr_0)

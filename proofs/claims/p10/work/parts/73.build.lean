/-! the ground: all of it -/
theorem nm_ap {j : Nat} (hj : j < 5) : nm (39 + 13 * j) 3 := by
  match j, hj with
  | 0, _ => exact nm_39
  | 1, _ => exact nm_52
  | 2, _ => exact nm_65
  | 3, _ => exact nm_78
  | 4, _ => exact nm_91
  | n + 5, h => exact absurd h (by omega)
def c68 (F : fl_N) : Prop := cw F 108 6
def c63 (F : fl_N) : Prop := cw F 113 6

/- CheapPlanner$Ground.numberFactsOf -/
abbrev pq_106 (G : Nat → Nat → Option Nat) (F : fl_N) (X : xi_H) (b : Nat) (pr : Int) (ps : List (List Int)) (tl : List Int) : Outcome → xi_H → Prop := gqi (fun z A => (∃ F' : fl_N, fl_H sh_T G F' ++ X = A ∧ gi F' ∧ fs [(120, 120, 1, 1), (121, 121, 0, 100000)] F F' ∧ (z = 0) ∧ (40 < nfc ps tl (36 * pr.toNat + 36))) ∨ (∃ F' : fl_N, fl_H sh_T G F' ++ X = A ∧ gi F' ∧ fs [(120, 120, 1, 1), (121, 121, 0, 100000)] F F' ∧ (z = 1) ∧ (F' 120 1 = (nfc ps tl (36 * pr.toNat + 36) : Int)) ∧ (fnr F' 121 ps tl (36 * pr.toNat + 36)))) gqn
theorem mc_106 {G : Nat → Nat → Option Nat} (hG : gg G) (F : fl_N) (X : xi_H) (hgi : gi F) (b : Nat) (pr : Int) (ps : List (List Int)) (tl : List Int) (h_b : nm b 2) (hpr : 0 ≤ pr ∧ pr ≤ 5) (ht : rep (F (b + 2)) (F b 2) (ps.getD pr.toNat [])) (hpl : pr.toNat < ps.length) (hob : rep (F 107) (F 105 2) tl) (hc : F 120 1 = (nfc ps tl (36 * pr.toNat) : Int)) (hn : fnr F 121 ps tl (36 * pr.toNat)) : fl_M xi_ms 106 1 22 [.ref 120, .int (Int32.ofInt pr), .ref b, .ref 105] (fl_H sh_T G F ++ X) (pq_106 G F X b pr ps tl) := by
  intro fr lo hfr hlo
  show fl_R xi_ms 106 fr lo 0 [(0, .ref 120), (1, .int (Int32.ofInt pr)), (2, .ref b), (3, .ref 105)] [] _ _
  have hr_b := h_b.2.2
  refine ga_aload_n (v := .ref b) hm_106 rfl rfl rfl ?_
  have b1_ : 0 ≤ F b 2 ∧ F b 2 ≤ (2 : Int) := gi_g hgi h_b.2.1.1
  refine ga_geti (z := F b 2) hm_106 rfl h_b.1.1 rfl (rfl) ?_
  refine fl_if_le (a := F b 2) hm_106 rfl ⟨by omega, by omega⟩ (fun h2_ => ?_) (fun h3_ => ?_)
  ·
    refine fl_iconst hm_106 rfl ?_
    refine ga_istore (lv2 := [(4, .int (Int32.ofInt 1)), (0, .ref 120), (1, .int (Int32.ofInt pr)), (2, .ref b), (3, .ref 105)]) hm_106 rfl (Nat.le_of_ble_eq_true rfl) rfl ?_
    refine ga_aload_n (v := .ref b) hm_106 rfl rfl rfl ?_
    refine ga_geti (z := F b 2) hm_106 rfl h_b.1.1 rfl (rfl) ?_
    refine fl_iconst hm_106 rfl ?_
    refine fl_icmp_le (a := F b 2) (b := 1) hm_106 rfl ⟨by omega, by omega⟩ ⟨by omega, by omega⟩ (fun h4_ => ?_) (fun h5_ => ?_)
    ·
      refine fl_iconst hm_106 rfl ?_
      refine ga_istore (lv2 := [(5, .int (Int32.ofInt 1)), (4, .int (Int32.ofInt 1)), (0, .ref 120), (1, .int (Int32.ofInt pr)), (2, .ref b), (3, .ref 105)]) hm_106 rfl (Nat.le_of_ble_eq_true rfl) rfl ?_
      refine fl_iconst hm_106 rfl ?_
      refine ga_istore (lv2 := [(6, .int (Int32.ofInt 0)), (5, .int (Int32.ofInt 1)), (4, .int (Int32.ofInt 1)), (0, .ref 120), (1, .int (Int32.ofInt pr)), (2, .ref b), (3, .ref 105)]) hm_106 rfl (Nat.le_of_ble_eq_true rfl) rfl ?_
      have L7_ : ∀ (n6_ : Nat) (f1 : Int) (F1 : fl_N), (6 - f1 : Int).toNat = n6_ → (gi F1) → (fs [(120, 120, 1, 1), (121, 121, 0, 100000)] F F1) → (0 ≤ f1 ∧ f1 ≤ 6) → (f1 ≤ 1) → (F1 120 1 = (nfc ps tl (36 * pr.toNat + 6 * f1.toNat) : Int)) → (fnr F1 121 ps tl (36 * pr.toNat + 6 * f1.toNat)) → fl_R xi_ms 106 fr lo 38 [(6, .int (Int32.ofInt f1)), (5, .int (Int32.ofInt 1)), (4, .int (Int32.ofInt 1)), (0, .ref 120), (1, .int (Int32.ofInt pr)), (2, .ref b), (3, .ref 105)] [] (fl_H sh_T G F1 ++ X) (pq_106 G F X b pr ps tl) := by
        intro n6_
        induction n6_ using Nat.strongRecOn with
        | ind n6_ ih8_ =>
        intro f1 F1 hn9_ hg_F1 hf_F1 hf1 hfc hc1 hn1
        have g10_ : fs [(120, 120, 1, 1), (121, 121, 0, 100000)] F F1 := fs_tr fs_refl hf_F1 rfl
        have ht1 := ht.1
        have ho1_ := hob.1
        refine ga_iload (z := f1) hm_106 rfl rfl ?_
        refine ga_iload (z := 1) hm_106 rfl rfl ?_
        refine fl_icmp_ge (a := f1) (b := 1) hm_106 rfl ⟨by omega, by omega⟩ ⟨by omega, by omega⟩ (fun h11_ => ?_) (fun h12_ => ?_)
        ·
          refine fl_iconst hm_106 rfl ?_
          refine gr_i (z := 1) hm_106 rfl rfl (ga_nb (by omega)) ?_
          have b13_ : 0 ≤ F1 120 1 ∧ F1 120 1 ≤ 40 := gi_g hg_F1 rfl
          exact Or.inr (⟨F1, rfl, hg_F1, g10_, rfl, (by rw [gf_r1 (t := (ps.getD pr.toNat [])) (m := f1) rfl (by omega) (by omega)]; exact hc1), (fnr_sk hn1 (gf_r1 (t := (ps.getD pr.toNat [])) (m := f1) rfl (by omega) (by omega)))⟩)
        refine fl_iconst hm_106 rfl ?_
        refine ga_istore (lv2 := [(7, .int (Int32.ofInt 0)), (6, .int (Int32.ofInt f1)), (5, .int (Int32.ofInt 1)), (4, .int (Int32.ofInt 1)), (0, .ref 120), (1, .int (Int32.ofInt pr)), (2, .ref b), (3, .ref 105)]) hm_106 rfl (Nat.le_of_ble_eq_true rfl) rfl ?_
        have L15_ : ∀ (n14_ : Nat) (f2 : Int) (F2 : fl_N), (6 - f2 : Int).toNat = n14_ → (gi F2) → (fs [(120, 120, 1, 1), (121, 121, 0, 100000)] F1 F2) → (0 ≤ f2 ∧ f2 ≤ 6) → (f2 ≤ 1) → (F2 120 1 = (nfc ps tl (36 * pr.toNat + 6 * f1.toNat + f2.toNat) : Int)) → (fnr F2 121 ps tl (36 * pr.toNat + 6 * f1.toNat + f2.toNat)) → fl_R xi_ms 106 fr lo 48 [(7, .int (Int32.ofInt f2)), (6, .int (Int32.ofInt f1)), (5, .int (Int32.ofInt 1)), (4, .int (Int32.ofInt 1)), (0, .ref 120), (1, .int (Int32.ofInt pr)), (2, .ref b), (3, .ref 105)] [] (fl_H sh_T G F2 ++ X) (pq_106 G F X b pr ps tl) := by
          intro n14_
          induction n14_ using Nat.strongRecOn with
          | ind n14_ ih16_ =>
          intro f2 F2 hn17_ hg_F2 hf_F2 hf2 hsc hc2 hn2
          have g18_ : fs [(120, 120, 1, 1), (121, 121, 0, 100000)] F F2 := fs_tr g10_ hf_F2 rfl
          refine ga_iload (z := f2) hm_106 rfl rfl ?_
          refine ga_iload (z := 1) hm_106 rfl rfl ?_
          refine fl_icmp_ge (a := f2) (b := 1) hm_106 rfl ⟨by omega, by omega⟩ ⟨by omega, by omega⟩ (fun h19_ => ?_) (fun h20_ => ?_)
          ·
            refine ga_inc (a := f1) (c := f1 + 1) (lv2 := [(6, .int (Int32.ofInt (f1 + 1))), (7, .int (Int32.ofInt f2)), (5, .int (Int32.ofInt 1)), (4, .int (Int32.ofInt 1)), (0, .ref 120), (1, .int (Int32.ofInt pr)), (2, .ref b), (3, .ref 105)]) hm_106 rfl rfl (Nat.le_of_ble_eq_true rfl) rfl rfl ?_
            refine fl_goto hm_106 rfl ?_
            have b21_ : 0 ≤ F2 120 1 ∧ F2 120 1 ≤ 40 := gi_g hg_F2 rfl
            have b22_ : 0 ≤ F1 120 1 ∧ F1 120 1 ≤ 40 := gi_g hg_F1 rfl
            exact fl_R_sub (lv' := [(6, .int (Int32.ofInt (f1 + 1))), (5, .int (Int32.ofInt 1)), (4, .int (Int32.ofInt 1)), (0, .ref 120), (1, .int (Int32.ofInt pr)), (2, .ref b), (3, .ref 105)]) rfl rfl (ih8_ _ (by omega) (f1 + 1) F2 rfl hg_F2 (fs_tr hf_F1 hf_F2 rfl) (⟨by omega, by omega⟩) (by omega) (by rw [gf_r2 (t := (ps.getD pr.toNat [])) (m := f2) rfl (by omega) (by omega) (by omega)]; exact hc2) (fnr_sk hn2 (gf_r2 (t := (ps.getD pr.toNat [])) (m := f2) rfl (by omega) (by omega) (by omega))))
          
          refine ga_aload_n (v := .ref b) hm_106 rfl rfl rfl ?_
          have e23_ : F1 b 2 = F b 2 := (hf_F1 b 2 (by first | exact fs_c rfl | exact (fs_n (by omega) (fs_n (by omega) rfl)))).trans (rfl)
          have e24_ : F2 b 2 = F b 2 := (hf_F2 b 2 (by first | exact fs_c rfl | exact (fs_n (by omega) (fs_n (by omega) rfl)))).trans (e23_)
          refine ga_geti (z := F b 2) hm_106 rfl h_b.1.1 rfl (e24_) ?_
          refine fl_iconst hm_106 rfl ?_
          refine fl_icmp_lt (a := F b 2) (b := 1) hm_106 rfl ⟨by omega, by omega⟩ ⟨by omega, by omega⟩ (fun h25_ => ?_) (fun h26_ => ?_)
          ·
            refine ga_aload_n (v := .ref b) hm_106 rfl rfl rfl ?_
            refine ga_geti (z := F b 2) hm_106 rfl h_b.1.1 rfl (e24_) ?_
            refine fl_iconst hm_106 rfl ?_
            refine fl_icmp_lt (a := F b 2) (b := 2) hm_106 rfl ⟨by omega, by omega⟩ ⟨by omega, by omega⟩ (fun h27_ => ?_) (fun h28_ => ?_)
            ·
              refine fl_iconst hm_106 rfl ?_
              refine fl_goto hm_106 rfl ?_
              refine ga_istore (lv2 := [(8, .int (Int32.ofInt 1)), (7, .int (Int32.ofInt f2)), (6, .int (Int32.ofInt f1)), (5, .int (Int32.ofInt 1)), (4, .int (Int32.ofInt 1)), (0, .ref 120), (1, .int (Int32.ofInt pr)), (2, .ref b), (3, .ref 105)]) hm_106 rfl (Nat.le_of_ble_eq_true rfl) rfl ?_
              refine ga_iload (z := 1) hm_106 rfl rfl ?_
              refine fl_if_eq hm_106 rfl ⟨by omega, by omega⟩ (fun h => absurd h (by omega)) (fun _ => ?_)
              refine ga_aload_n (v := .ref 120) hm_106 rfl rfl rfl ?_
              have b29_ : 0 ≤ F2 120 1 ∧ F2 120 1 ≤ 40 := gi_g hg_F2 rfl
              refine ga_geti (z := F2 120 1) hm_106 rfl sc_120 rfl (rfl) ?_
              refine fl_bipush hm_106 rfl rfl ?_
              refine fl_icmp_lt (a := F2 120 1) (b := 40) hm_106 rfl ⟨by omega, by omega⟩ ⟨by omega, by omega⟩ (fun h30_ => ?_) (fun h31_ => ?_)
              ·
                refine ga_iload (z := 1) hm_106 rfl rfl ?_
                refine fl_if_eq hm_106 rfl ⟨by omega, by omega⟩ (fun h => absurd h (by omega)) (fun _ => ?_)
                refine ga_aload_n (v := .ref 120) hm_106 rfl rfl rfl ?_
                refine ga_getr (b := 121) hm_106 rfl sc_120 rfl ?_
                refine ga_iload_n (z := pr) hm_106 rfl rfl ?_
                refine ga_iload (z := f1) hm_106 rfl rfl ?_
                refine ga_iload (z := f2) hm_106 rfl rfl ?_
                refine gJi (nY := 3) (F := 0) (L := 0) (As := [.int (Int32.ofInt pr), .int (Int32.ofInt f1), .int (Int32.ofInt f2)]) (rest := [.ref 121]) hm_106 rfl hm_107 rfl rfl (fl_pos sc_0) rfl rfl rfl rfl (by omega) (by omega) ?_
                intro f32_ l33_ h34_ h35_
                show fl_R xi_ms 107 f32_ l33_ 0 [(0, .int (Int32.ofInt pr)), (1, .int (Int32.ofInt f1)), (2, .int (Int32.ofInt f2))] [] _ _
                refine ga_iload_n (z := pr) hm_107 rfl rfl ?_
                refine fl_bipush hm_107 rfl rfl ?_
                refine ga_imul (a := pr) (b := 6) (c := 6 * pr) hm_107 rfl (by omega) ?_
                refine ga_iload_n (z := f1) hm_107 rfl rfl ?_
                refine ga_iadd (a := 6 * pr) (b := f1) (c := 6 * pr + f1) hm_107 rfl (by omega) ?_
                refine fl_bipush hm_107 rfl rfl ?_
                refine ga_imul (a := 6 * pr + f1) (b := 6) (c := 36 * pr + 6 * f1) hm_107 rfl (by omega) ?_
                refine ga_iload_n (z := f2) hm_107 rfl rfl ?_
                refine ga_iadd (a := 36 * pr + 6 * f1) (b := f2) (c := 36 * pr + 6 * f1 + f2) hm_107 rfl (by omega) ?_
                refine gr_i hm_107 rfl rfl rfl ?_
                clear h34_ h35_ f32_ l33_
                refine ga_aload_n (v := .ref 120) hm_106 rfl rfl rfl ?_
                refine ga_geti (z := F2 120 1) hm_106 rfl sc_120 rfl (rfl) ?_
                refine fl_iast (z := 36 * pr + 6 * f1 + f2) (v := F2 120 1) hm_106 rfl sc_121 (by omega) (by omega) (by omega) ?_
                refine ga_aload_n (v := .ref 120) hm_106 rfl rfl rfl ?_
                refine ga_dup hm_106 rfl rfl ?_
                refine ga_geti (z := F2 120 1) hm_106 rfl sc_120 rfl (fl_u_ne (by first | exact nc_ rfl | decide | omega)) ?_
                refine fl_iconst hm_106 rfl ?_
                refine ga_iadd (a := F2 120 1) (b := 1) (c := F2 120 1 + 1) hm_106 rfl (by omega) ?_
                refine ga_puti (z := F2 120 1 + 1) hm_106 rfl sc_120 rfl rfl ?_
                refine ga_inc (a := f2) (c := f2 + 1) (lv2 := [(7, .int (Int32.ofInt (f2 + 1))), (8, .int (Int32.ofInt 1)), (6, .int (Int32.ofInt f1)), (5, .int (Int32.ofInt 1)), (4, .int (Int32.ofInt 1)), (0, .ref 120), (1, .int (Int32.ofInt pr)), (2, .ref b), (3, .ref 105)]) hm_106 rfl rfl (Nat.le_of_ble_eq_true rfl) rfl rfl ?_
                refine fl_goto hm_106 rfl ?_
                obtain ⟨F36_, q37_⟩ : ∃ Fq_, Fq_ = (fl_u (fl_u F2 121 (36 * pr + 6 * f1 + f2).toNat (F2 120 1)) 120 1 (F2 120 1 + 1)) := ⟨_, rfl⟩
                rw [← q37_]
                have g38_ : gi F36_ := by rw [q37_]; exact gi_u (gi_u (hg_F2) rfl (by omega) (by omega)) rfl (by omega) (by omega)
                have g39_ : fs [(120, 120, 1, 1), (121, 121, 0, 100000)] F F36_ := by rw [q37_]; exact fs_u (fs_u (g18_) (fs_z (fs_y (by omega)))) rfl
                have e40_ : F36_ 120 1 = F2 120 1 + 1 := by rw [q37_]; exact fl_u_eq
                have e41_ : F36_ 121 (36 * pr + 6 * f1 + f2).toNat = F2 120 1 := by rw [q37_]; exact (fl_u_ne (by first | exact nc_ rfl | decide | omega)).trans (fl_u_eq)
                exact fl_R_sub (lv' := [(7, .int (Int32.ofInt (f2 + 1))), (6, .int (Int32.ofInt f1)), (5, .int (Int32.ofInt 1)), (4, .int (Int32.ofInt 1)), (0, .ref 120), (1, .int (Int32.ofInt pr)), (2, .ref b), (3, .ref 105)]) rfl rfl (ih16_ _ (by omega) (f2 + 1) F36_ rfl g38_ (by rw [q37_]; exact fs_u (fs_u (hf_F2) (fs_z (fs_y (by omega)))) rfl) (⟨by omega, by omega⟩) (by omega) (by rw [show 36 * pr.toNat + 6 * f1.toNat + (f2 + 1).toNat = 36 * pr.toNat + 6 * f1.toNat + f2.toNat + 1 by omega, nfc_y (gf_y (ps := ps) (tl := tl) (p := pr.toNat) (f1 := f1) (f2 := f2) (t := (ps.getD pr.toNat [])) (by omega) rfl (by omega) (by omega) (by omega) (by omega))]; omega) (by rw [show 36 * pr.toNat + 6 * f1.toNat + (f2 + 1).toNat = 36 * pr.toNat + 6 * f1.toNat + f2.toNat + 1 by omega]; exact fnr_y hn2 (fun h9_ => by rw [show 36 * pr.toNat + 6 * f1.toNat + f2.toNat = (36 * pr + 6 * f1 + f2).toNat by omega]; exact Eq.trans (e41_) (by rw [show (36 * pr + 6 * f1 + f2).toNat = 36 * pr.toNat + 6 * f1.toNat + f2.toNat by omega]; exact hc2)) (fun j hj => (show F36_ 121 j = F2 121 j from (by rw [q37_]; exact (fl_u_ne (by first | exact nc_ rfl | decide | omega)).trans ((fl_u_ne (by first | exact nc_ rfl | decide | omega))))))))
              refine fl_iconst hm_106 rfl ?_
              refine gr_i (z := 0) hm_106 rfl rfl (ga_nb (by omega)) ?_
              exact Or.inl ⟨F2, rfl, hg_F2, g18_, rfl, (by have h9_ := nfc_y (gf_y (ps := ps) (tl := tl) (p := pr.toNat) (f1 := f1) (f2 := f2) (t := (ps.getD pr.toNat [])) (by omega) rfl (by omega) (by omega) (by omega) (by omega)); have h8_ := nfc_le ps tl (show 36 * pr.toNat + 6 * f1.toNat + f2.toNat + 1 ≤ 36 * pr.toNat + 36 by omega); omega)⟩
            exfalso; omega
          exfalso; omega
        have b42_ : 0 ≤ F1 120 1 ∧ F1 120 1 ≤ 40 := gi_g hg_F1 rfl
        exact L15_ _ (0) F1 rfl hg_F1 fs_refl (⟨by omega, by omega⟩) (by omega) (by simpa using hc1) (by simpa using hn1)
      have b43_ : 0 ≤ F 120 1 ∧ F 120 1 ≤ 40 := gi_g hgi rfl
      exact L7_ _ (0) F rfl hgi fs_refl (⟨by omega, by omega⟩) (by omega) (by simpa using hc) (by simpa using hn)
    exfalso; omega
  refine ga_aload_n (v := .ref 105) hm_106 rfl rfl rfl ?_
  have b44_ : 0 ≤ F 105 2 ∧ F 105 2 ≤ 6 := gi_g hgi rfl
  refine ga_geti (z := F 105 2) hm_106 rfl sc_105 rfl (rfl) ?_
  refine fl_goto hm_106 rfl ?_
  refine ga_istore (lv2 := [(4, .int (Int32.ofInt (F 105 2))), (0, .ref 120), (1, .int (Int32.ofInt pr)), (2, .ref b), (3, .ref 105)]) hm_106 rfl (Nat.le_of_ble_eq_true rfl) rfl ?_
  refine ga_aload_n (v := .ref b) hm_106 rfl rfl rfl ?_
  refine ga_geti (z := F b 2) hm_106 rfl h_b.1.1 rfl (rfl) ?_
  refine fl_iconst hm_106 rfl ?_
  refine fl_icmp_le (a := F b 2) (b := 1) hm_106 rfl ⟨by omega, by omega⟩ ⟨by omega, by omega⟩ (fun h45_ => ?_) (fun h46_ => ?_)
  ·
    refine fl_iconst hm_106 rfl ?_
    refine ga_istore (lv2 := [(5, .int (Int32.ofInt 1)), (4, .int (Int32.ofInt (F 105 2))), (0, .ref 120), (1, .int (Int32.ofInt pr)), (2, .ref b), (3, .ref 105)]) hm_106 rfl (Nat.le_of_ble_eq_true rfl) rfl ?_
    refine fl_iconst hm_106 rfl ?_
    refine ga_istore (lv2 := [(6, .int (Int32.ofInt 0)), (5, .int (Int32.ofInt 1)), (4, .int (Int32.ofInt (F 105 2))), (0, .ref 120), (1, .int (Int32.ofInt pr)), (2, .ref b), (3, .ref 105)]) hm_106 rfl (Nat.le_of_ble_eq_true rfl) rfl ?_
    have L48_ : ∀ (n47_ : Nat) (f1 : Int) (F1 : fl_N), (6 - f1 : Int).toNat = n47_ → (gi F1) → (fs [(120, 120, 1, 1), (121, 121, 0, 100000)] F F1) → (0 ≤ f1 ∧ f1 ≤ 6) → (f1 ≤ F 105 2) → (F1 120 1 = (nfc ps tl (36 * pr.toNat + 6 * f1.toNat) : Int)) → (fnr F1 121 ps tl (36 * pr.toNat + 6 * f1.toNat)) → fl_R xi_ms 106 fr lo 38 [(6, .int (Int32.ofInt f1)), (5, .int (Int32.ofInt 1)), (4, .int (Int32.ofInt (F 105 2))), (0, .ref 120), (1, .int (Int32.ofInt pr)), (2, .ref b), (3, .ref 105)] [] (fl_H sh_T G F1 ++ X) (pq_106 G F X b pr ps tl) := by
      intro n47_
      induction n47_ using Nat.strongRecOn with
      | ind n47_ ih49_ =>
      intro f1 F1 hn50_ hg_F1 hf_F1 hf1 hfc hc1 hn1
      have g51_ : fs [(120, 120, 1, 1), (121, 121, 0, 100000)] F F1 := fs_tr fs_refl hf_F1 rfl
      have ht1 := ht.1
      have ho1_ := hob.1
      have hq0 : (ps.getD pr.toNat []).getD 0 0 = F (b + 2) 0 := (rep_get ht (j := 0) (by omega)).symm
      refine ga_iload (z := f1) hm_106 rfl rfl ?_
      refine ga_iload (z := F 105 2) hm_106 rfl rfl ?_
      refine fl_icmp_ge (a := f1) (b := F 105 2) hm_106 rfl ⟨by omega, by omega⟩ ⟨by omega, by omega⟩ (fun h52_ => ?_) (fun h53_ => ?_)
      ·
        refine fl_iconst hm_106 rfl ?_
        refine gr_i (z := 1) hm_106 rfl rfl (ga_nb (by omega)) ?_
        have b54_ : 0 ≤ F1 120 1 ∧ F1 120 1 ≤ 40 := gi_g hg_F1 rfl
        exact Or.inr (⟨F1, rfl, hg_F1, g51_, rfl, (by rw [gf_r1 (t := (ps.getD pr.toNat [])) (m := f1) rfl (by omega) (by omega)]; exact hc1), (fnr_sk hn1 (gf_r1 (t := (ps.getD pr.toNat [])) (m := f1) rfl (by omega) (by omega)))⟩)
      refine fl_iconst hm_106 rfl ?_
      refine ga_istore (lv2 := [(7, .int (Int32.ofInt 0)), (6, .int (Int32.ofInt f1)), (5, .int (Int32.ofInt 1)), (4, .int (Int32.ofInt (F 105 2))), (0, .ref 120), (1, .int (Int32.ofInt pr)), (2, .ref b), (3, .ref 105)]) hm_106 rfl (Nat.le_of_ble_eq_true rfl) rfl ?_
      have L56_ : ∀ (n55_ : Nat) (f2 : Int) (F2 : fl_N), (6 - f2 : Int).toNat = n55_ → (gi F2) → (fs [(120, 120, 1, 1), (121, 121, 0, 100000)] F1 F2) → (0 ≤ f2 ∧ f2 ≤ 6) → (f2 ≤ 1) → (F2 120 1 = (nfc ps tl (36 * pr.toNat + 6 * f1.toNat + f2.toNat) : Int)) → (fnr F2 121 ps tl (36 * pr.toNat + 6 * f1.toNat + f2.toNat)) → fl_R xi_ms 106 fr lo 48 [(7, .int (Int32.ofInt f2)), (6, .int (Int32.ofInt f1)), (5, .int (Int32.ofInt 1)), (4, .int (Int32.ofInt (F 105 2))), (0, .ref 120), (1, .int (Int32.ofInt pr)), (2, .ref b), (3, .ref 105)] [] (fl_H sh_T G F2 ++ X) (pq_106 G F X b pr ps tl) := by
        intro n55_
        induction n55_ using Nat.strongRecOn with
        | ind n55_ ih57_ =>
        intro f2 F2 hn58_ hg_F2 hf_F2 hf2 hsc hc2 hn2
        have g59_ : fs [(120, 120, 1, 1), (121, 121, 0, 100000)] F F2 := fs_tr g51_ hf_F2 rfl
        refine ga_iload (z := f2) hm_106 rfl rfl ?_
        refine ga_iload (z := 1) hm_106 rfl rfl ?_
        refine fl_icmp_ge (a := f2) (b := 1) hm_106 rfl ⟨by omega, by omega⟩ ⟨by omega, by omega⟩ (fun h60_ => ?_) (fun h61_ => ?_)
        ·
          refine ga_inc (a := f1) (c := f1 + 1) (lv2 := [(6, .int (Int32.ofInt (f1 + 1))), (7, .int (Int32.ofInt f2)), (5, .int (Int32.ofInt 1)), (4, .int (Int32.ofInt (F 105 2))), (0, .ref 120), (1, .int (Int32.ofInt pr)), (2, .ref b), (3, .ref 105)]) hm_106 rfl rfl (Nat.le_of_ble_eq_true rfl) rfl rfl ?_
          refine fl_goto hm_106 rfl ?_
          have b62_ : 0 ≤ F2 120 1 ∧ F2 120 1 ≤ 40 := gi_g hg_F2 rfl
          have b63_ : 0 ≤ F1 120 1 ∧ F1 120 1 ≤ 40 := gi_g hg_F1 rfl
          exact fl_R_sub (lv' := [(6, .int (Int32.ofInt (f1 + 1))), (5, .int (Int32.ofInt 1)), (4, .int (Int32.ofInt (F 105 2))), (0, .ref 120), (1, .int (Int32.ofInt pr)), (2, .ref b), (3, .ref 105)]) rfl rfl (ih49_ _ (by omega) (f1 + 1) F2 rfl hg_F2 (fs_tr hf_F1 hf_F2 rfl) (⟨by omega, by omega⟩) (by omega) (by rw [gf_r2 (t := (ps.getD pr.toNat [])) (m := f2) rfl (by omega) (by omega) (by omega)]; exact hc2) (fnr_sk hn2 (gf_r2 (t := (ps.getD pr.toNat [])) (m := f2) rfl (by omega) (by omega) (by omega))))
        have hto1 : tl.getD f1.toNat 0 = F 107 f1.toNat := (rep_get hob (j := f1.toNat) (by omega)).symm
        refine ga_aload_n (v := .ref b) hm_106 rfl rfl rfl ?_
        have e64_ : F1 b 2 = F b 2 := (hf_F1 b 2 (by first | exact fs_c rfl | exact (fs_n (by omega) (fs_n (by omega) rfl)))).trans (rfl)
        have e65_ : F2 b 2 = F b 2 := (hf_F2 b 2 (by first | exact fs_c rfl | exact (fs_n (by omega) (fs_n (by omega) rfl)))).trans (e64_)
        refine ga_geti (z := F b 2) hm_106 rfl h_b.1.1 rfl (e65_) ?_
        refine fl_iconst hm_106 rfl ?_
        refine fl_icmp_lt (a := F b 2) (b := 1) hm_106 rfl ⟨by omega, by omega⟩ ⟨by omega, by omega⟩ (fun h66_ => ?_) (fun h67_ => ?_)
        · exfalso; omega
        refine ga_aload_n (v := .ref 105) hm_106 rfl rfl rfl ?_
        refine ga_iload (z := f1) hm_106 rfl rfl ?_
        refine ga_aload_n (v := .ref b) hm_106 rfl rfl rfl ?_
        refine ga_getr (b := b + 2) hm_106 rfl h_b.1.1 rfl ?_
        refine fl_iconst hm_106 rfl ?_
        have e68_ : F1 (b + 2) 0 = F (b + 2) 0 := (hf_F1 (b + 2) 0 (by first | exact fs_c rfl | exact (fs_n (by omega) (fs_n (by omega) rfl)))).trans (rfl)
        have e69_ : F2 (b + 2) 0 = F (b + 2) 0 := (hf_F2 (b + 2) 0 (by first | exact fs_c rfl | exact (fs_n (by omega) (fs_n (by omega) rfl)))).trans (e68_)
        have b70_ : -1 ≤ F (b + 2) 0 ∧ F (b + 2) 0 ≤ 3 := gi_g hgi (gb_a h_b.2.1.2.1)
        refine ga_iald (z := 0) (w := F (b + 2) 0) hm_106 rfl h_b.1.2.2 (by omega) (by omega) (by omega) (e69_) ?_
        refine gIi (nY := 3) (F := 0) (L := 0) (As := [.int (Int32.ofInt f1), .int (Int32.ofInt (F (b + 2) 0))]) (b := 105) (rest := []) hm_106 rfl hm_110 rfl rfl (fl_ob sc_105) rfl rfl rfl rfl rfl (by omega) (by omega) ?_
        intro f71_ l72_ h73_ h74_
        show fl_R xi_ms 110 f71_ l72_ 0 [(0, .ref 105), (1, .int (Int32.ofInt f1)), (2, .int (Int32.ofInt (F (b + 2) 0)))] [] _ _
        refine ga_iload_n (z := F (b + 2) 0) hm_110 rfl rfl ?_
        refine fl_iconst hm_110 rfl ?_
        refine fl_icmp_eq (a := F (b + 2) 0) (b := -1) hm_110 rfl ⟨by omega, by omega⟩ ⟨by omega, by omega⟩ (fun h75_ => ?_) (fun h76_ => ?_)
        ·
          refine fl_iconst hm_110 rfl ?_
          refine fl_goto hm_110 rfl ?_
          refine gr_i hm_110 rfl rfl (ga_nb (by omega)) ?_
          clear h73_ h74_ f71_ l72_
          refine fl_if_eq hm_106 rfl ⟨by omega, by omega⟩ (fun h => absurd h (by omega)) (fun _ => ?_)
          refine ga_aload_n (v := .ref b) hm_106 rfl rfl rfl ?_
          refine ga_geti (z := F b 2) hm_106 rfl h_b.1.1 rfl (e65_) ?_
          refine fl_iconst hm_106 rfl ?_
          refine fl_icmp_lt (a := F b 2) (b := 2) hm_106 rfl ⟨by omega, by omega⟩ ⟨by omega, by omega⟩ (fun h77_ => ?_) (fun h78_ => ?_)
          ·
            refine fl_iconst hm_106 rfl ?_
            refine fl_goto hm_106 rfl ?_
            refine ga_istore (lv2 := [(8, .int (Int32.ofInt 1)), (7, .int (Int32.ofInt f2)), (6, .int (Int32.ofInt f1)), (5, .int (Int32.ofInt 1)), (4, .int (Int32.ofInt (F 105 2))), (0, .ref 120), (1, .int (Int32.ofInt pr)), (2, .ref b), (3, .ref 105)]) hm_106 rfl (Nat.le_of_ble_eq_true rfl) rfl ?_
            refine ga_iload (z := 1) hm_106 rfl rfl ?_
            refine fl_if_eq hm_106 rfl ⟨by omega, by omega⟩ (fun h => absurd h (by omega)) (fun _ => ?_)
            refine ga_aload_n (v := .ref 120) hm_106 rfl rfl rfl ?_
            have b79_ : 0 ≤ F2 120 1 ∧ F2 120 1 ≤ 40 := gi_g hg_F2 rfl
            refine ga_geti (z := F2 120 1) hm_106 rfl sc_120 rfl (rfl) ?_
            refine fl_bipush hm_106 rfl rfl ?_
            refine fl_icmp_lt (a := F2 120 1) (b := 40) hm_106 rfl ⟨by omega, by omega⟩ ⟨by omega, by omega⟩ (fun h80_ => ?_) (fun h81_ => ?_)
            ·
              refine ga_iload (z := 1) hm_106 rfl rfl ?_
              refine fl_if_eq hm_106 rfl ⟨by omega, by omega⟩ (fun h => absurd h (by omega)) (fun _ => ?_)
              refine ga_aload_n (v := .ref 120) hm_106 rfl rfl rfl ?_
              refine ga_getr (b := 121) hm_106 rfl sc_120 rfl ?_
              refine ga_iload_n (z := pr) hm_106 rfl rfl ?_
              refine ga_iload (z := f1) hm_106 rfl rfl ?_
              refine ga_iload (z := f2) hm_106 rfl rfl ?_
              refine gJi (nY := 3) (F := 0) (L := 0) (As := [.int (Int32.ofInt pr), .int (Int32.ofInt f1), .int (Int32.ofInt f2)]) (rest := [.ref 121]) hm_106 rfl hm_107 rfl rfl (fl_pos sc_0) rfl rfl rfl rfl (by omega) (by omega) ?_
              intro f82_ l83_ h84_ h85_
              show fl_R xi_ms 107 f82_ l83_ 0 [(0, .int (Int32.ofInt pr)), (1, .int (Int32.ofInt f1)), (2, .int (Int32.ofInt f2))] [] _ _
              refine ga_iload_n (z := pr) hm_107 rfl rfl ?_
              refine fl_bipush hm_107 rfl rfl ?_
              refine ga_imul (a := pr) (b := 6) (c := 6 * pr) hm_107 rfl (by omega) ?_
              refine ga_iload_n (z := f1) hm_107 rfl rfl ?_
              refine ga_iadd (a := 6 * pr) (b := f1) (c := 6 * pr + f1) hm_107 rfl (by omega) ?_
              refine fl_bipush hm_107 rfl rfl ?_
              refine ga_imul (a := 6 * pr + f1) (b := 6) (c := 36 * pr + 6 * f1) hm_107 rfl (by omega) ?_
              refine ga_iload_n (z := f2) hm_107 rfl rfl ?_
              refine ga_iadd (a := 36 * pr + 6 * f1) (b := f2) (c := 36 * pr + 6 * f1 + f2) hm_107 rfl (by omega) ?_
              refine gr_i hm_107 rfl rfl rfl ?_
              clear h84_ h85_ f82_ l83_
              refine ga_aload_n (v := .ref 120) hm_106 rfl rfl rfl ?_
              refine ga_geti (z := F2 120 1) hm_106 rfl sc_120 rfl (rfl) ?_
              refine fl_iast (z := 36 * pr + 6 * f1 + f2) (v := F2 120 1) hm_106 rfl sc_121 (by omega) (by omega) (by omega) ?_
              refine ga_aload_n (v := .ref 120) hm_106 rfl rfl rfl ?_
              refine ga_dup hm_106 rfl rfl ?_
              refine ga_geti (z := F2 120 1) hm_106 rfl sc_120 rfl (fl_u_ne (by first | exact nc_ rfl | decide | omega)) ?_
              refine fl_iconst hm_106 rfl ?_
              refine ga_iadd (a := F2 120 1) (b := 1) (c := F2 120 1 + 1) hm_106 rfl (by omega) ?_
              refine ga_puti (z := F2 120 1 + 1) hm_106 rfl sc_120 rfl rfl ?_
              refine ga_inc (a := f2) (c := f2 + 1) (lv2 := [(7, .int (Int32.ofInt (f2 + 1))), (8, .int (Int32.ofInt 1)), (6, .int (Int32.ofInt f1)), (5, .int (Int32.ofInt 1)), (4, .int (Int32.ofInt (F 105 2))), (0, .ref 120), (1, .int (Int32.ofInt pr)), (2, .ref b), (3, .ref 105)]) hm_106 rfl rfl (Nat.le_of_ble_eq_true rfl) rfl rfl ?_
              refine fl_goto hm_106 rfl ?_
              obtain ⟨F86_, q87_⟩ : ∃ Fq_, Fq_ = (fl_u (fl_u F2 121 (36 * pr + 6 * f1 + f2).toNat (F2 120 1)) 120 1 (F2 120 1 + 1)) := ⟨_, rfl⟩
              rw [← q87_]
              have g88_ : gi F86_ := by rw [q87_]; exact gi_u (gi_u (hg_F2) rfl (by omega) (by omega)) rfl (by omega) (by omega)
              have g89_ : fs [(120, 120, 1, 1), (121, 121, 0, 100000)] F F86_ := by rw [q87_]; exact fs_u (fs_u (g59_) (fs_z (fs_y (by omega)))) rfl
              have e90_ : F86_ 120 1 = F2 120 1 + 1 := by rw [q87_]; exact fl_u_eq
              have e91_ : F86_ 121 (36 * pr + 6 * f1 + f2).toNat = F2 120 1 := by rw [q87_]; exact (fl_u_ne (by first | exact nc_ rfl | decide | omega)).trans (fl_u_eq)
              exact fl_R_sub (lv' := [(7, .int (Int32.ofInt (f2 + 1))), (6, .int (Int32.ofInt f1)), (5, .int (Int32.ofInt 1)), (4, .int (Int32.ofInt (F 105 2))), (0, .ref 120), (1, .int (Int32.ofInt pr)), (2, .ref b), (3, .ref 105)]) rfl rfl (ih57_ _ (by omega) (f2 + 1) F86_ rfl g88_ (by rw [q87_]; exact fs_u (fs_u (hf_F2) (fs_z (fs_y (by omega)))) rfl) (⟨by omega, by omega⟩) (by omega) (by rw [show 36 * pr.toNat + 6 * f1.toNat + (f2 + 1).toNat = 36 * pr.toNat + 6 * f1.toNat + f2.toNat + 1 by omega, nfc_y (gf_y (ps := ps) (tl := tl) (p := pr.toNat) (f1 := f1) (f2 := f2) (t := (ps.getD pr.toNat [])) (by omega) rfl (by omega) (by omega) (by omega) (by omega))]; omega) (by rw [show 36 * pr.toNat + 6 * f1.toNat + (f2 + 1).toNat = 36 * pr.toNat + 6 * f1.toNat + f2.toNat + 1 by omega]; exact fnr_y hn2 (fun h9_ => by rw [show 36 * pr.toNat + 6 * f1.toNat + f2.toNat = (36 * pr + 6 * f1 + f2).toNat by omega]; exact Eq.trans (e91_) (by rw [show (36 * pr + 6 * f1 + f2).toNat = 36 * pr.toNat + 6 * f1.toNat + f2.toNat by omega]; exact hc2)) (fun j hj => (show F86_ 121 j = F2 121 j from (by rw [q87_]; exact (fl_u_ne (by first | exact nc_ rfl | decide | omega)).trans ((fl_u_ne (by first | exact nc_ rfl | decide | omega))))))))
            refine fl_iconst hm_106 rfl ?_
            refine gr_i (z := 0) hm_106 rfl rfl (ga_nb (by omega)) ?_
            exact Or.inl ⟨F2, rfl, hg_F2, g59_, rfl, (by have h9_ := nfc_y (gf_y (ps := ps) (tl := tl) (p := pr.toNat) (f1 := f1) (f2 := f2) (t := (ps.getD pr.toNat [])) (by omega) rfl (by omega) (by omega) (by omega) (by omega)); have h8_ := nfc_le ps tl (show 36 * pr.toNat + 6 * f1.toNat + f2.toNat + 1 ≤ 36 * pr.toNat + 36 by omega); omega)⟩
          exfalso; omega
        refine ga_aload_n (v := .ref 105) hm_110 rfl rfl rfl ?_
        refine ga_getr (b := 107) hm_110 rfl sc_105 rfl ?_
        refine ga_iload_n (z := f1) hm_110 rfl rfl ?_
        have e92_ : F1 107 f1.toNat = F 107 f1.toNat := (hf_F1 107 f1.toNat (by first | exact fs_c rfl | exact (fs_n (by omega) (fs_n (by omega) rfl)))).trans (rfl)
        have e93_ : F2 107 f1.toNat = F 107 f1.toNat := (hf_F2 107 f1.toNat (by first | exact fs_c rfl | exact (fs_n (by omega) (fs_n (by omega) rfl)))).trans (e92_)
        have b94_ : -1 ≤ F 107 f1.toNat ∧ F 107 f1.toNat ≤ 3 := gi_g hgi rfl
        refine ga_iald (z := f1) (w := F 107 f1.toNat) hm_110 rfl sc_107 (by omega) (by omega) (by omega) (e93_) ?_
        refine ga_iload_n (z := F (b + 2) 0) hm_110 rfl rfl ?_
        refine fx_icmp_ne (a := F 107 f1.toNat) (b := F (b + 2) 0) hm_110 rfl ⟨by omega, by omega⟩ ⟨by omega, by omega⟩ (fun h95_ => ?_) (fun h96_ => ?_)
        ·
          refine fl_iconst hm_110 rfl ?_
          refine gr_i hm_110 rfl rfl (ga_nb (by omega)) ?_
          clear h73_ h74_ f71_ l72_
          refine fl_if_eq hm_106 rfl ⟨by omega, by omega⟩ (fun _ => ?_) (fun h => absurd (by omega) h)
          refine fl_iconst hm_106 rfl ?_
          refine ga_istore (lv2 := [(8, .int (Int32.ofInt 0)), (7, .int (Int32.ofInt f2)), (6, .int (Int32.ofInt f1)), (5, .int (Int32.ofInt 1)), (4, .int (Int32.ofInt (F 105 2))), (0, .ref 120), (1, .int (Int32.ofInt pr)), (2, .ref b), (3, .ref 105)]) hm_106 rfl (Nat.le_of_ble_eq_true rfl) rfl ?_
          refine ga_iload (z := 0) hm_106 rfl rfl ?_
          refine fl_if_eq hm_106 rfl ⟨by omega, by omega⟩ (fun _ => ?_) (fun h => absurd (by omega) h)
          refine ga_iload (z := 0) hm_106 rfl rfl ?_
          refine fl_if_eq hm_106 rfl ⟨by omega, by omega⟩ (fun _ => ?_) (fun h => absurd (by omega) h)
          refine ga_inc (a := f2) (c := f2 + 1) (lv2 := [(7, .int (Int32.ofInt (f2 + 1))), (8, .int (Int32.ofInt 0)), (6, .int (Int32.ofInt f1)), (5, .int (Int32.ofInt 1)), (4, .int (Int32.ofInt (F 105 2))), (0, .ref 120), (1, .int (Int32.ofInt pr)), (2, .ref b), (3, .ref 105)]) hm_106 rfl rfl (Nat.le_of_ble_eq_true rfl) rfl rfl ?_
          refine fl_goto hm_106 rfl ?_
          have b97_ : 0 ≤ F2 120 1 ∧ F2 120 1 ≤ 40 := gi_g hg_F2 rfl
          exact fl_R_sub (lv' := [(7, .int (Int32.ofInt (f2 + 1))), (6, .int (Int32.ofInt f1)), (5, .int (Int32.ofInt 1)), (4, .int (Int32.ofInt (F 105 2))), (0, .ref 120), (1, .int (Int32.ofInt pr)), (2, .ref b), (3, .ref 105)]) rfl rfl (ih57_ _ (by omega) (f2 + 1) F2 rfl hg_F2 hf_F2 (⟨by omega, by omega⟩) (by omega) (by rw [show 36 * pr.toNat + 6 * f1.toNat + (f2 + 1).toNat = 36 * pr.toNat + 6 * f1.toNat + f2.toNat + 1 by omega, nfc_n (gf_n (ps := ps) (tl := tl) (p := pr.toNat) (f1 := f1) (f2 := f2) (t := (ps.getD pr.toNat [])) rfl (by omega) (by omega) (by omega))]; exact hc2) (by rw [show 36 * pr.toNat + 6 * f1.toNat + (f2 + 1).toNat = 36 * pr.toNat + 6 * f1.toNat + f2.toNat + 1 by omega]; exact fnr_y hn2 (fun h9_ => by rw [(gf_n (ps := ps) (tl := tl) (p := pr.toNat) (f1 := f1) (f2 := f2) (t := (ps.getD pr.toNat [])) rfl (by omega) (by omega) (by omega))] at h9_; cases h9_) (fun j hj => rfl)))
        refine fl_iconst hm_110 rfl ?_
        refine fl_goto hm_110 rfl ?_
        refine gr_i hm_110 rfl rfl (ga_nb (by omega)) ?_
        clear h73_ h74_ f71_ l72_
        refine fl_if_eq hm_106 rfl ⟨by omega, by omega⟩ (fun h => absurd h (by omega)) (fun _ => ?_)
        refine ga_aload_n (v := .ref b) hm_106 rfl rfl rfl ?_
        refine ga_geti (z := F b 2) hm_106 rfl h_b.1.1 rfl (e65_) ?_
        refine fl_iconst hm_106 rfl ?_
        refine fl_icmp_lt (a := F b 2) (b := 2) hm_106 rfl ⟨by omega, by omega⟩ ⟨by omega, by omega⟩ (fun h98_ => ?_) (fun h99_ => ?_)
        ·
          refine fl_iconst hm_106 rfl ?_
          refine fl_goto hm_106 rfl ?_
          refine ga_istore (lv2 := [(8, .int (Int32.ofInt 1)), (7, .int (Int32.ofInt f2)), (6, .int (Int32.ofInt f1)), (5, .int (Int32.ofInt 1)), (4, .int (Int32.ofInt (F 105 2))), (0, .ref 120), (1, .int (Int32.ofInt pr)), (2, .ref b), (3, .ref 105)]) hm_106 rfl (Nat.le_of_ble_eq_true rfl) rfl ?_
          refine ga_iload (z := 1) hm_106 rfl rfl ?_
          refine fl_if_eq hm_106 rfl ⟨by omega, by omega⟩ (fun h => absurd h (by omega)) (fun _ => ?_)
          refine ga_aload_n (v := .ref 120) hm_106 rfl rfl rfl ?_
          have b100_ : 0 ≤ F2 120 1 ∧ F2 120 1 ≤ 40 := gi_g hg_F2 rfl
          refine ga_geti (z := F2 120 1) hm_106 rfl sc_120 rfl (rfl) ?_
          refine fl_bipush hm_106 rfl rfl ?_
          refine fl_icmp_lt (a := F2 120 1) (b := 40) hm_106 rfl ⟨by omega, by omega⟩ ⟨by omega, by omega⟩ (fun h101_ => ?_) (fun h102_ => ?_)
          ·
            refine ga_iload (z := 1) hm_106 rfl rfl ?_
            refine fl_if_eq hm_106 rfl ⟨by omega, by omega⟩ (fun h => absurd h (by omega)) (fun _ => ?_)
            refine ga_aload_n (v := .ref 120) hm_106 rfl rfl rfl ?_
            refine ga_getr (b := 121) hm_106 rfl sc_120 rfl ?_
            refine ga_iload_n (z := pr) hm_106 rfl rfl ?_
            refine ga_iload (z := f1) hm_106 rfl rfl ?_
            refine ga_iload (z := f2) hm_106 rfl rfl ?_
            refine gJi (nY := 3) (F := 0) (L := 0) (As := [.int (Int32.ofInt pr), .int (Int32.ofInt f1), .int (Int32.ofInt f2)]) (rest := [.ref 121]) hm_106 rfl hm_107 rfl rfl (fl_pos sc_0) rfl rfl rfl rfl (by omega) (by omega) ?_
            intro f103_ l104_ h105_ h106_
            show fl_R xi_ms 107 f103_ l104_ 0 [(0, .int (Int32.ofInt pr)), (1, .int (Int32.ofInt f1)), (2, .int (Int32.ofInt f2))] [] _ _
            refine ga_iload_n (z := pr) hm_107 rfl rfl ?_
            refine fl_bipush hm_107 rfl rfl ?_
            refine ga_imul (a := pr) (b := 6) (c := 6 * pr) hm_107 rfl (by omega) ?_
            refine ga_iload_n (z := f1) hm_107 rfl rfl ?_
            refine ga_iadd (a := 6 * pr) (b := f1) (c := 6 * pr + f1) hm_107 rfl (by omega) ?_
            refine fl_bipush hm_107 rfl rfl ?_
            refine ga_imul (a := 6 * pr + f1) (b := 6) (c := 36 * pr + 6 * f1) hm_107 rfl (by omega) ?_
            refine ga_iload_n (z := f2) hm_107 rfl rfl ?_
            refine ga_iadd (a := 36 * pr + 6 * f1) (b := f2) (c := 36 * pr + 6 * f1 + f2) hm_107 rfl (by omega) ?_
            refine gr_i hm_107 rfl rfl rfl ?_
            clear h105_ h106_ f103_ l104_
            refine ga_aload_n (v := .ref 120) hm_106 rfl rfl rfl ?_
            refine ga_geti (z := F2 120 1) hm_106 rfl sc_120 rfl (rfl) ?_
            refine fl_iast (z := 36 * pr + 6 * f1 + f2) (v := F2 120 1) hm_106 rfl sc_121 (by omega) (by omega) (by omega) ?_
            refine ga_aload_n (v := .ref 120) hm_106 rfl rfl rfl ?_
            refine ga_dup hm_106 rfl rfl ?_
            refine ga_geti (z := F2 120 1) hm_106 rfl sc_120 rfl (fl_u_ne (by first | exact nc_ rfl | decide | omega)) ?_
            refine fl_iconst hm_106 rfl ?_
            refine ga_iadd (a := F2 120 1) (b := 1) (c := F2 120 1 + 1) hm_106 rfl (by omega) ?_
            refine ga_puti (z := F2 120 1 + 1) hm_106 rfl sc_120 rfl rfl ?_
            refine ga_inc (a := f2) (c := f2 + 1) (lv2 := [(7, .int (Int32.ofInt (f2 + 1))), (8, .int (Int32.ofInt 1)), (6, .int (Int32.ofInt f1)), (5, .int (Int32.ofInt 1)), (4, .int (Int32.ofInt (F 105 2))), (0, .ref 120), (1, .int (Int32.ofInt pr)), (2, .ref b), (3, .ref 105)]) hm_106 rfl rfl (Nat.le_of_ble_eq_true rfl) rfl rfl ?_
            refine fl_goto hm_106 rfl ?_
            obtain ⟨F107_, q108_⟩ : ∃ Fq_, Fq_ = (fl_u (fl_u F2 121 (36 * pr + 6 * f1 + f2).toNat (F2 120 1)) 120 1 (F2 120 1 + 1)) := ⟨_, rfl⟩
            rw [← q108_]
            have g109_ : gi F107_ := by rw [q108_]; exact gi_u (gi_u (hg_F2) rfl (by omega) (by omega)) rfl (by omega) (by omega)
            have g110_ : fs [(120, 120, 1, 1), (121, 121, 0, 100000)] F F107_ := by rw [q108_]; exact fs_u (fs_u (g59_) (fs_z (fs_y (by omega)))) rfl
            have e111_ : F107_ 120 1 = F2 120 1 + 1 := by rw [q108_]; exact fl_u_eq
            have e112_ : F107_ 121 (36 * pr + 6 * f1 + f2).toNat = F2 120 1 := by rw [q108_]; exact (fl_u_ne (by first | exact nc_ rfl | decide | omega)).trans (fl_u_eq)
            exact fl_R_sub (lv' := [(7, .int (Int32.ofInt (f2 + 1))), (6, .int (Int32.ofInt f1)), (5, .int (Int32.ofInt 1)), (4, .int (Int32.ofInt (F 105 2))), (0, .ref 120), (1, .int (Int32.ofInt pr)), (2, .ref b), (3, .ref 105)]) rfl rfl (ih57_ _ (by omega) (f2 + 1) F107_ rfl g109_ (by rw [q108_]; exact fs_u (fs_u (hf_F2) (fs_z (fs_y (by omega)))) rfl) (⟨by omega, by omega⟩) (by omega) (by rw [show 36 * pr.toNat + 6 * f1.toNat + (f2 + 1).toNat = 36 * pr.toNat + 6 * f1.toNat + f2.toNat + 1 by omega, nfc_y (gf_y (ps := ps) (tl := tl) (p := pr.toNat) (f1 := f1) (f2 := f2) (t := (ps.getD pr.toNat [])) (by omega) rfl (by omega) (by omega) (by omega) (by omega))]; omega) (by rw [show 36 * pr.toNat + 6 * f1.toNat + (f2 + 1).toNat = 36 * pr.toNat + 6 * f1.toNat + f2.toNat + 1 by omega]; exact fnr_y hn2 (fun h9_ => by rw [show 36 * pr.toNat + 6 * f1.toNat + f2.toNat = (36 * pr + 6 * f1 + f2).toNat by omega]; exact Eq.trans (e112_) (by rw [show (36 * pr + 6 * f1 + f2).toNat = 36 * pr.toNat + 6 * f1.toNat + f2.toNat by omega]; exact hc2)) (fun j hj => (show F107_ 121 j = F2 121 j from (by rw [q108_]; exact (fl_u_ne (by first | exact nc_ rfl | decide | omega)).trans ((fl_u_ne (by first | exact nc_ rfl | decide | omega))))))))
          refine fl_iconst hm_106 rfl ?_
          refine gr_i (z := 0) hm_106 rfl rfl (ga_nb (by omega)) ?_
          exact Or.inl ⟨F2, rfl, hg_F2, g59_, rfl, (by have h9_ := nfc_y (gf_y (ps := ps) (tl := tl) (p := pr.toNat) (f1 := f1) (f2 := f2) (t := (ps.getD pr.toNat [])) (by omega) rfl (by omega) (by omega) (by omega) (by omega)); have h8_ := nfc_le ps tl (show 36 * pr.toNat + 6 * f1.toNat + f2.toNat + 1 ≤ 36 * pr.toNat + 36 by omega); omega)⟩
        exfalso; omega
      have b113_ : 0 ≤ F1 120 1 ∧ F1 120 1 ≤ 40 := gi_g hg_F1 rfl
      exact L56_ _ (0) F1 rfl hg_F1 fs_refl (⟨by omega, by omega⟩) (by omega) (by simpa using hc1) (by simpa using hn1)
    have b114_ : 0 ≤ F 120 1 ∧ F 120 1 ≤ 40 := gi_g hgi rfl
    exact L48_ _ (0) F rfl hgi fs_refl (⟨by omega, by omega⟩) (by omega) (by simpa using hc) (by simpa using hn)
  refine ga_aload_n (v := .ref 105) hm_106 rfl rfl rfl ?_
  refine ga_geti (z := F 105 2) hm_106 rfl sc_105 rfl (rfl) ?_
  refine fl_goto hm_106 rfl ?_
  refine ga_istore (lv2 := [(5, .int (Int32.ofInt (F 105 2))), (4, .int (Int32.ofInt (F 105 2))), (0, .ref 120), (1, .int (Int32.ofInt pr)), (2, .ref b), (3, .ref 105)]) hm_106 rfl (Nat.le_of_ble_eq_true rfl) rfl ?_
  refine fl_iconst hm_106 rfl ?_
  refine ga_istore (lv2 := [(6, .int (Int32.ofInt 0)), (5, .int (Int32.ofInt (F 105 2))), (4, .int (Int32.ofInt (F 105 2))), (0, .ref 120), (1, .int (Int32.ofInt pr)), (2, .ref b), (3, .ref 105)]) hm_106 rfl (Nat.le_of_ble_eq_true rfl) rfl ?_
  have L116_ : ∀ (n115_ : Nat) (f1 : Int) (F1 : fl_N), (6 - f1 : Int).toNat = n115_ → (gi F1) → (fs [(120, 120, 1, 1), (121, 121, 0, 100000)] F F1) → (0 ≤ f1 ∧ f1 ≤ 6) → (f1 ≤ F 105 2) → (F1 120 1 = (nfc ps tl (36 * pr.toNat + 6 * f1.toNat) : Int)) → (fnr F1 121 ps tl (36 * pr.toNat + 6 * f1.toNat)) → fl_R xi_ms 106 fr lo 38 [(6, .int (Int32.ofInt f1)), (5, .int (Int32.ofInt (F 105 2))), (4, .int (Int32.ofInt (F 105 2))), (0, .ref 120), (1, .int (Int32.ofInt pr)), (2, .ref b), (3, .ref 105)] [] (fl_H sh_T G F1 ++ X) (pq_106 G F X b pr ps tl) := by
    intro n115_
    induction n115_ using Nat.strongRecOn with
    | ind n115_ ih117_ =>
    intro f1 F1 hn118_ hg_F1 hf_F1 hf1 hfc hc1 hn1
    have g119_ : fs [(120, 120, 1, 1), (121, 121, 0, 100000)] F F1 := fs_tr fs_refl hf_F1 rfl
    have ht1 := ht.1
    have ho1_ := hob.1
    have hq0 : (ps.getD pr.toNat []).getD 0 0 = F (b + 2) 0 := (rep_get ht (j := 0) (by omega)).symm
    have hq1 : (ps.getD pr.toNat []).getD 1 0 = F (b + 2) 1 := (rep_get ht (j := 1) (by omega)).symm
    refine ga_iload (z := f1) hm_106 rfl rfl ?_
    refine ga_iload (z := F 105 2) hm_106 rfl rfl ?_
    refine fl_icmp_ge (a := f1) (b := F 105 2) hm_106 rfl ⟨by omega, by omega⟩ ⟨by omega, by omega⟩ (fun h120_ => ?_) (fun h121_ => ?_)
    ·
      refine fl_iconst hm_106 rfl ?_
      refine gr_i (z := 1) hm_106 rfl rfl (ga_nb (by omega)) ?_
      have b122_ : 0 ≤ F1 120 1 ∧ F1 120 1 ≤ 40 := gi_g hg_F1 rfl
      exact Or.inr (⟨F1, rfl, hg_F1, g119_, rfl, (by rw [gf_r1 (t := (ps.getD pr.toNat [])) (m := f1) rfl (by omega) (by omega)]; exact hc1), (fnr_sk hn1 (gf_r1 (t := (ps.getD pr.toNat [])) (m := f1) rfl (by omega) (by omega)))⟩)
    refine fl_iconst hm_106 rfl ?_
    refine ga_istore (lv2 := [(7, .int (Int32.ofInt 0)), (6, .int (Int32.ofInt f1)), (5, .int (Int32.ofInt (F 105 2))), (4, .int (Int32.ofInt (F 105 2))), (0, .ref 120), (1, .int (Int32.ofInt pr)), (2, .ref b), (3, .ref 105)]) hm_106 rfl (Nat.le_of_ble_eq_true rfl) rfl ?_
    have L124_ : ∀ (n123_ : Nat) (f2 : Int) (F2 : fl_N), (6 - f2 : Int).toNat = n123_ → (gi F2) → (fs [(120, 120, 1, 1), (121, 121, 0, 100000)] F1 F2) → (0 ≤ f2 ∧ f2 ≤ 6) → (f2 ≤ F 105 2) → (F2 120 1 = (nfc ps tl (36 * pr.toNat + 6 * f1.toNat + f2.toNat) : Int)) → (fnr F2 121 ps tl (36 * pr.toNat + 6 * f1.toNat + f2.toNat)) → fl_R xi_ms 106 fr lo 48 [(7, .int (Int32.ofInt f2)), (6, .int (Int32.ofInt f1)), (5, .int (Int32.ofInt (F 105 2))), (4, .int (Int32.ofInt (F 105 2))), (0, .ref 120), (1, .int (Int32.ofInt pr)), (2, .ref b), (3, .ref 105)] [] (fl_H sh_T G F2 ++ X) (pq_106 G F X b pr ps tl) := by
      intro n123_
      induction n123_ using Nat.strongRecOn with
      | ind n123_ ih125_ =>
      intro f2 F2 hn126_ hg_F2 hf_F2 hf2 hsc hc2 hn2
      have g127_ : fs [(120, 120, 1, 1), (121, 121, 0, 100000)] F F2 := fs_tr g119_ hf_F2 rfl
      refine ga_iload (z := f2) hm_106 rfl rfl ?_
      refine ga_iload (z := F 105 2) hm_106 rfl rfl ?_
      refine fl_icmp_ge (a := f2) (b := F 105 2) hm_106 rfl ⟨by omega, by omega⟩ ⟨by omega, by omega⟩ (fun h128_ => ?_) (fun h129_ => ?_)
      ·
        refine ga_inc (a := f1) (c := f1 + 1) (lv2 := [(6, .int (Int32.ofInt (f1 + 1))), (7, .int (Int32.ofInt f2)), (5, .int (Int32.ofInt (F 105 2))), (4, .int (Int32.ofInt (F 105 2))), (0, .ref 120), (1, .int (Int32.ofInt pr)), (2, .ref b), (3, .ref 105)]) hm_106 rfl rfl (Nat.le_of_ble_eq_true rfl) rfl rfl ?_
        refine fl_goto hm_106 rfl ?_
        have b130_ : 0 ≤ F2 120 1 ∧ F2 120 1 ≤ 40 := gi_g hg_F2 rfl
        have b131_ : 0 ≤ F1 120 1 ∧ F1 120 1 ≤ 40 := gi_g hg_F1 rfl
        exact fl_R_sub (lv' := [(6, .int (Int32.ofInt (f1 + 1))), (5, .int (Int32.ofInt (F 105 2))), (4, .int (Int32.ofInt (F 105 2))), (0, .ref 120), (1, .int (Int32.ofInt pr)), (2, .ref b), (3, .ref 105)]) rfl rfl (ih117_ _ (by omega) (f1 + 1) F2 rfl hg_F2 (fs_tr hf_F1 hf_F2 rfl) (⟨by omega, by omega⟩) (by omega) (by rw [gf_r2 (t := (ps.getD pr.toNat [])) (m := f2) rfl (by omega) (by omega) (by omega)]; exact hc2) (fnr_sk hn2 (gf_r2 (t := (ps.getD pr.toNat [])) (m := f2) rfl (by omega) (by omega) (by omega))))
      have hto1 : tl.getD f1.toNat 0 = F 107 f1.toNat := (rep_get hob (j := f1.toNat) (by omega)).symm
      have hto2 : tl.getD f2.toNat 0 = F 107 f2.toNat := (rep_get hob (j := f2.toNat) (by omega)).symm
      refine ga_aload_n (v := .ref b) hm_106 rfl rfl rfl ?_
      have e132_ : F1 b 2 = F b 2 := (hf_F1 b 2 (by first | exact fs_c rfl | exact (fs_n (by omega) (fs_n (by omega) rfl)))).trans (rfl)
      have e133_ : F2 b 2 = F b 2 := (hf_F2 b 2 (by first | exact fs_c rfl | exact (fs_n (by omega) (fs_n (by omega) rfl)))).trans (e132_)
      refine ga_geti (z := F b 2) hm_106 rfl h_b.1.1 rfl (e133_) ?_
      refine fl_iconst hm_106 rfl ?_
      refine fl_icmp_lt (a := F b 2) (b := 1) hm_106 rfl ⟨by omega, by omega⟩ ⟨by omega, by omega⟩ (fun h134_ => ?_) (fun h135_ => ?_)
      · exfalso; omega
      refine ga_aload_n (v := .ref 105) hm_106 rfl rfl rfl ?_
      refine ga_iload (z := f1) hm_106 rfl rfl ?_
      refine ga_aload_n (v := .ref b) hm_106 rfl rfl rfl ?_
      refine ga_getr (b := b + 2) hm_106 rfl h_b.1.1 rfl ?_
      refine fl_iconst hm_106 rfl ?_
      have e136_ : F1 (b + 2) 0 = F (b + 2) 0 := (hf_F1 (b + 2) 0 (by first | exact fs_c rfl | exact (fs_n (by omega) (fs_n (by omega) rfl)))).trans (rfl)
      have e137_ : F2 (b + 2) 0 = F (b + 2) 0 := (hf_F2 (b + 2) 0 (by first | exact fs_c rfl | exact (fs_n (by omega) (fs_n (by omega) rfl)))).trans (e136_)
      have b138_ : -1 ≤ F (b + 2) 0 ∧ F (b + 2) 0 ≤ 3 := gi_g hgi (gb_a h_b.2.1.2.1)
      refine ga_iald (z := 0) (w := F (b + 2) 0) hm_106 rfl h_b.1.2.2 (by omega) (by omega) (by omega) (e137_) ?_
      refine gIi (nY := 3) (F := 0) (L := 0) (As := [.int (Int32.ofInt f1), .int (Int32.ofInt (F (b + 2) 0))]) (b := 105) (rest := []) hm_106 rfl hm_110 rfl rfl (fl_ob sc_105) rfl rfl rfl rfl rfl (by omega) (by omega) ?_
      intro f139_ l140_ h141_ h142_
      show fl_R xi_ms 110 f139_ l140_ 0 [(0, .ref 105), (1, .int (Int32.ofInt f1)), (2, .int (Int32.ofInt (F (b + 2) 0)))] [] _ _
      refine ga_iload_n (z := F (b + 2) 0) hm_110 rfl rfl ?_
      refine fl_iconst hm_110 rfl ?_
      refine fl_icmp_eq (a := F (b + 2) 0) (b := -1) hm_110 rfl ⟨by omega, by omega⟩ ⟨by omega, by omega⟩ (fun h143_ => ?_) (fun h144_ => ?_)
      ·
        refine fl_iconst hm_110 rfl ?_
        refine fl_goto hm_110 rfl ?_
        refine gr_i hm_110 rfl rfl (ga_nb (by omega)) ?_
        clear h141_ h142_ f139_ l140_
        refine fl_if_eq hm_106 rfl ⟨by omega, by omega⟩ (fun h => absurd h (by omega)) (fun _ => ?_)
        refine ga_aload_n (v := .ref b) hm_106 rfl rfl rfl ?_
        refine ga_geti (z := F b 2) hm_106 rfl h_b.1.1 rfl (e133_) ?_
        refine fl_iconst hm_106 rfl ?_
        refine fl_icmp_lt (a := F b 2) (b := 2) hm_106 rfl ⟨by omega, by omega⟩ ⟨by omega, by omega⟩ (fun h145_ => ?_) (fun h146_ => ?_)
        · exfalso; omega
        refine ga_aload_n (v := .ref 105) hm_106 rfl rfl rfl ?_
        refine ga_iload (z := f2) hm_106 rfl rfl ?_
        refine ga_aload_n (v := .ref b) hm_106 rfl rfl rfl ?_
        refine ga_getr (b := b + 2) hm_106 rfl h_b.1.1 rfl ?_
        refine fl_iconst hm_106 rfl ?_
        have e147_ : F1 (b + 2) 1 = F (b + 2) 1 := (hf_F1 (b + 2) 1 (by first | exact fs_c rfl | exact (fs_n (by omega) (fs_n (by omega) rfl)))).trans (rfl)
        have e148_ : F2 (b + 2) 1 = F (b + 2) 1 := (hf_F2 (b + 2) 1 (by first | exact fs_c rfl | exact (fs_n (by omega) (fs_n (by omega) rfl)))).trans (e147_)
        have b149_ : -1 ≤ F (b + 2) 1 ∧ F (b + 2) 1 ≤ 3 := gi_g hgi (gb_a h_b.2.1.2.1)
        refine ga_iald (z := 1) (w := F (b + 2) 1) hm_106 rfl h_b.1.2.2 (by omega) (by omega) (by omega) (e148_) ?_
        refine gIi (nY := 3) (F := 0) (L := 0) (As := [.int (Int32.ofInt f2), .int (Int32.ofInt (F (b + 2) 1))]) (b := 105) (rest := []) hm_106 rfl hm_110 rfl rfl (fl_ob sc_105) rfl rfl rfl rfl rfl (by omega) (by omega) ?_
        intro f150_ l151_ h152_ h153_
        show fl_R xi_ms 110 f150_ l151_ 0 [(0, .ref 105), (1, .int (Int32.ofInt f2)), (2, .int (Int32.ofInt (F (b + 2) 1)))] [] _ _
        refine ga_iload_n (z := F (b + 2) 1) hm_110 rfl rfl ?_
        refine fl_iconst hm_110 rfl ?_
        refine fl_icmp_eq (a := F (b + 2) 1) (b := -1) hm_110 rfl ⟨by omega, by omega⟩ ⟨by omega, by omega⟩ (fun h154_ => ?_) (fun h155_ => ?_)
        ·
          refine fl_iconst hm_110 rfl ?_
          refine fl_goto hm_110 rfl ?_
          refine gr_i hm_110 rfl rfl (ga_nb (by omega)) ?_
          clear h152_ h153_ f150_ l151_
          refine fl_if_eq hm_106 rfl ⟨by omega, by omega⟩ (fun h => absurd h (by omega)) (fun _ => ?_)
          refine fl_iconst hm_106 rfl ?_
          refine fl_goto hm_106 rfl ?_
          refine ga_istore (lv2 := [(8, .int (Int32.ofInt 1)), (7, .int (Int32.ofInt f2)), (6, .int (Int32.ofInt f1)), (5, .int (Int32.ofInt (F 105 2))), (4, .int (Int32.ofInt (F 105 2))), (0, .ref 120), (1, .int (Int32.ofInt pr)), (2, .ref b), (3, .ref 105)]) hm_106 rfl (Nat.le_of_ble_eq_true rfl) rfl ?_
          refine ga_iload (z := 1) hm_106 rfl rfl ?_
          refine fl_if_eq hm_106 rfl ⟨by omega, by omega⟩ (fun h => absurd h (by omega)) (fun _ => ?_)
          refine ga_aload_n (v := .ref 120) hm_106 rfl rfl rfl ?_
          have b156_ : 0 ≤ F2 120 1 ∧ F2 120 1 ≤ 40 := gi_g hg_F2 rfl
          refine ga_geti (z := F2 120 1) hm_106 rfl sc_120 rfl (rfl) ?_
          refine fl_bipush hm_106 rfl rfl ?_
          refine fl_icmp_lt (a := F2 120 1) (b := 40) hm_106 rfl ⟨by omega, by omega⟩ ⟨by omega, by omega⟩ (fun h157_ => ?_) (fun h158_ => ?_)
          ·
            refine ga_iload (z := 1) hm_106 rfl rfl ?_
            refine fl_if_eq hm_106 rfl ⟨by omega, by omega⟩ (fun h => absurd h (by omega)) (fun _ => ?_)
            refine ga_aload_n (v := .ref 120) hm_106 rfl rfl rfl ?_
            refine ga_getr (b := 121) hm_106 rfl sc_120 rfl ?_
            refine ga_iload_n (z := pr) hm_106 rfl rfl ?_
            refine ga_iload (z := f1) hm_106 rfl rfl ?_
            refine ga_iload (z := f2) hm_106 rfl rfl ?_
            refine gJi (nY := 3) (F := 0) (L := 0) (As := [.int (Int32.ofInt pr), .int (Int32.ofInt f1), .int (Int32.ofInt f2)]) (rest := [.ref 121]) hm_106 rfl hm_107 rfl rfl (fl_pos sc_0) rfl rfl rfl rfl (by omega) (by omega) ?_
            intro f159_ l160_ h161_ h162_
            show fl_R xi_ms 107 f159_ l160_ 0 [(0, .int (Int32.ofInt pr)), (1, .int (Int32.ofInt f1)), (2, .int (Int32.ofInt f2))] [] _ _
            refine ga_iload_n (z := pr) hm_107 rfl rfl ?_
            refine fl_bipush hm_107 rfl rfl ?_
            refine ga_imul (a := pr) (b := 6) (c := 6 * pr) hm_107 rfl (by omega) ?_
            refine ga_iload_n (z := f1) hm_107 rfl rfl ?_
            refine ga_iadd (a := 6 * pr) (b := f1) (c := 6 * pr + f1) hm_107 rfl (by omega) ?_
            refine fl_bipush hm_107 rfl rfl ?_
            refine ga_imul (a := 6 * pr + f1) (b := 6) (c := 36 * pr + 6 * f1) hm_107 rfl (by omega) ?_
            refine ga_iload_n (z := f2) hm_107 rfl rfl ?_
            refine ga_iadd (a := 36 * pr + 6 * f1) (b := f2) (c := 36 * pr + 6 * f1 + f2) hm_107 rfl (by omega) ?_
            refine gr_i hm_107 rfl rfl rfl ?_
            clear h161_ h162_ f159_ l160_
            refine ga_aload_n (v := .ref 120) hm_106 rfl rfl rfl ?_
            refine ga_geti (z := F2 120 1) hm_106 rfl sc_120 rfl (rfl) ?_
            refine fl_iast (z := 36 * pr + 6 * f1 + f2) (v := F2 120 1) hm_106 rfl sc_121 (by omega) (by omega) (by omega) ?_
            refine ga_aload_n (v := .ref 120) hm_106 rfl rfl rfl ?_
            refine ga_dup hm_106 rfl rfl ?_
            refine ga_geti (z := F2 120 1) hm_106 rfl sc_120 rfl (fl_u_ne (by first | exact nc_ rfl | decide | omega)) ?_
            refine fl_iconst hm_106 rfl ?_
            refine ga_iadd (a := F2 120 1) (b := 1) (c := F2 120 1 + 1) hm_106 rfl (by omega) ?_
            refine ga_puti (z := F2 120 1 + 1) hm_106 rfl sc_120 rfl rfl ?_
            refine ga_inc (a := f2) (c := f2 + 1) (lv2 := [(7, .int (Int32.ofInt (f2 + 1))), (8, .int (Int32.ofInt 1)), (6, .int (Int32.ofInt f1)), (5, .int (Int32.ofInt (F 105 2))), (4, .int (Int32.ofInt (F 105 2))), (0, .ref 120), (1, .int (Int32.ofInt pr)), (2, .ref b), (3, .ref 105)]) hm_106 rfl rfl (Nat.le_of_ble_eq_true rfl) rfl rfl ?_
            refine fl_goto hm_106 rfl ?_
            obtain ⟨F163_, q164_⟩ : ∃ Fq_, Fq_ = (fl_u (fl_u F2 121 (36 * pr + 6 * f1 + f2).toNat (F2 120 1)) 120 1 (F2 120 1 + 1)) := ⟨_, rfl⟩
            rw [← q164_]
            have g165_ : gi F163_ := by rw [q164_]; exact gi_u (gi_u (hg_F2) rfl (by omega) (by omega)) rfl (by omega) (by omega)
            have g166_ : fs [(120, 120, 1, 1), (121, 121, 0, 100000)] F F163_ := by rw [q164_]; exact fs_u (fs_u (g127_) (fs_z (fs_y (by omega)))) rfl
            have e167_ : F163_ 120 1 = F2 120 1 + 1 := by rw [q164_]; exact fl_u_eq
            have e168_ : F163_ 121 (36 * pr + 6 * f1 + f2).toNat = F2 120 1 := by rw [q164_]; exact (fl_u_ne (by first | exact nc_ rfl | decide | omega)).trans (fl_u_eq)
            exact fl_R_sub (lv' := [(7, .int (Int32.ofInt (f2 + 1))), (6, .int (Int32.ofInt f1)), (5, .int (Int32.ofInt (F 105 2))), (4, .int (Int32.ofInt (F 105 2))), (0, .ref 120), (1, .int (Int32.ofInt pr)), (2, .ref b), (3, .ref 105)]) rfl rfl (ih125_ _ (by omega) (f2 + 1) F163_ rfl g165_ (by rw [q164_]; exact fs_u (fs_u (hf_F2) (fs_z (fs_y (by omega)))) rfl) (⟨by omega, by omega⟩) (by omega) (by rw [show 36 * pr.toNat + 6 * f1.toNat + (f2 + 1).toNat = 36 * pr.toNat + 6 * f1.toNat + f2.toNat + 1 by omega, nfc_y (gf_y (ps := ps) (tl := tl) (p := pr.toNat) (f1 := f1) (f2 := f2) (t := (ps.getD pr.toNat [])) (by omega) rfl (by omega) (by omega) (by omega) (by omega))]; omega) (by rw [show 36 * pr.toNat + 6 * f1.toNat + (f2 + 1).toNat = 36 * pr.toNat + 6 * f1.toNat + f2.toNat + 1 by omega]; exact fnr_y hn2 (fun h9_ => by rw [show 36 * pr.toNat + 6 * f1.toNat + f2.toNat = (36 * pr + 6 * f1 + f2).toNat by omega]; exact Eq.trans (e168_) (by rw [show (36 * pr + 6 * f1 + f2).toNat = 36 * pr.toNat + 6 * f1.toNat + f2.toNat by omega]; exact hc2)) (fun j hj => (show F163_ 121 j = F2 121 j from (by rw [q164_]; exact (fl_u_ne (by first | exact nc_ rfl | decide | omega)).trans ((fl_u_ne (by first | exact nc_ rfl | decide | omega))))))))
          refine fl_iconst hm_106 rfl ?_
          refine gr_i (z := 0) hm_106 rfl rfl (ga_nb (by omega)) ?_
          exact Or.inl ⟨F2, rfl, hg_F2, g127_, rfl, (by have h9_ := nfc_y (gf_y (ps := ps) (tl := tl) (p := pr.toNat) (f1 := f1) (f2 := f2) (t := (ps.getD pr.toNat [])) (by omega) rfl (by omega) (by omega) (by omega) (by omega)); have h8_ := nfc_le ps tl (show 36 * pr.toNat + 6 * f1.toNat + f2.toNat + 1 ≤ 36 * pr.toNat + 36 by omega); omega)⟩
        refine ga_aload_n (v := .ref 105) hm_110 rfl rfl rfl ?_
        refine ga_getr (b := 107) hm_110 rfl sc_105 rfl ?_
        refine ga_iload_n (z := f2) hm_110 rfl rfl ?_
        have e169_ : F1 107 f2.toNat = F 107 f2.toNat := (hf_F1 107 f2.toNat (by first | exact fs_c rfl | exact (fs_n (by omega) (fs_n (by omega) rfl)))).trans (rfl)
        have e170_ : F2 107 f2.toNat = F 107 f2.toNat := (hf_F2 107 f2.toNat (by first | exact fs_c rfl | exact (fs_n (by omega) (fs_n (by omega) rfl)))).trans (e169_)
        have b171_ : -1 ≤ F 107 f2.toNat ∧ F 107 f2.toNat ≤ 3 := gi_g hgi rfl
        refine ga_iald (z := f2) (w := F 107 f2.toNat) hm_110 rfl sc_107 (by omega) (by omega) (by omega) (e170_) ?_
        refine ga_iload_n (z := F (b + 2) 1) hm_110 rfl rfl ?_
        refine fx_icmp_ne (a := F 107 f2.toNat) (b := F (b + 2) 1) hm_110 rfl ⟨by omega, by omega⟩ ⟨by omega, by omega⟩ (fun h172_ => ?_) (fun h173_ => ?_)
        ·
          refine fl_iconst hm_110 rfl ?_
          refine gr_i hm_110 rfl rfl (ga_nb (by omega)) ?_
          clear h152_ h153_ f150_ l151_
          refine fl_if_eq hm_106 rfl ⟨by omega, by omega⟩ (fun _ => ?_) (fun h => absurd (by omega) h)
          refine fl_iconst hm_106 rfl ?_
          refine ga_istore (lv2 := [(8, .int (Int32.ofInt 0)), (7, .int (Int32.ofInt f2)), (6, .int (Int32.ofInt f1)), (5, .int (Int32.ofInt (F 105 2))), (4, .int (Int32.ofInt (F 105 2))), (0, .ref 120), (1, .int (Int32.ofInt pr)), (2, .ref b), (3, .ref 105)]) hm_106 rfl (Nat.le_of_ble_eq_true rfl) rfl ?_
          refine ga_iload (z := 0) hm_106 rfl rfl ?_
          refine fl_if_eq hm_106 rfl ⟨by omega, by omega⟩ (fun _ => ?_) (fun h => absurd (by omega) h)
          refine ga_iload (z := 0) hm_106 rfl rfl ?_
          refine fl_if_eq hm_106 rfl ⟨by omega, by omega⟩ (fun _ => ?_) (fun h => absurd (by omega) h)
          refine ga_inc (a := f2) (c := f2 + 1) (lv2 := [(7, .int (Int32.ofInt (f2 + 1))), (8, .int (Int32.ofInt 0)), (6, .int (Int32.ofInt f1)), (5, .int (Int32.ofInt (F 105 2))), (4, .int (Int32.ofInt (F 105 2))), (0, .ref 120), (1, .int (Int32.ofInt pr)), (2, .ref b), (3, .ref 105)]) hm_106 rfl rfl (Nat.le_of_ble_eq_true rfl) rfl rfl ?_
          refine fl_goto hm_106 rfl ?_
          have b174_ : 0 ≤ F2 120 1 ∧ F2 120 1 ≤ 40 := gi_g hg_F2 rfl
          exact fl_R_sub (lv' := [(7, .int (Int32.ofInt (f2 + 1))), (6, .int (Int32.ofInt f1)), (5, .int (Int32.ofInt (F 105 2))), (4, .int (Int32.ofInt (F 105 2))), (0, .ref 120), (1, .int (Int32.ofInt pr)), (2, .ref b), (3, .ref 105)]) rfl rfl (ih125_ _ (by omega) (f2 + 1) F2 rfl hg_F2 hf_F2 (⟨by omega, by omega⟩) (by omega) (by rw [show 36 * pr.toNat + 6 * f1.toNat + (f2 + 1).toNat = 36 * pr.toNat + 6 * f1.toNat + f2.toNat + 1 by omega, nfc_n (gf_n (ps := ps) (tl := tl) (p := pr.toNat) (f1 := f1) (f2 := f2) (t := (ps.getD pr.toNat [])) rfl (by omega) (by omega) (by omega))]; exact hc2) (by rw [show 36 * pr.toNat + 6 * f1.toNat + (f2 + 1).toNat = 36 * pr.toNat + 6 * f1.toNat + f2.toNat + 1 by omega]; exact fnr_y hn2 (fun h9_ => by rw [(gf_n (ps := ps) (tl := tl) (p := pr.toNat) (f1 := f1) (f2 := f2) (t := (ps.getD pr.toNat [])) rfl (by omega) (by omega) (by omega))] at h9_; cases h9_) (fun j hj => rfl)))
        refine fl_iconst hm_110 rfl ?_
        refine fl_goto hm_110 rfl ?_
        refine gr_i hm_110 rfl rfl (ga_nb (by omega)) ?_
        clear h152_ h153_ f150_ l151_
        refine fl_if_eq hm_106 rfl ⟨by omega, by omega⟩ (fun h => absurd h (by omega)) (fun _ => ?_)
        refine fl_iconst hm_106 rfl ?_
        refine fl_goto hm_106 rfl ?_
        refine ga_istore (lv2 := [(8, .int (Int32.ofInt 1)), (7, .int (Int32.ofInt f2)), (6, .int (Int32.ofInt f1)), (5, .int (Int32.ofInt (F 105 2))), (4, .int (Int32.ofInt (F 105 2))), (0, .ref 120), (1, .int (Int32.ofInt pr)), (2, .ref b), (3, .ref 105)]) hm_106 rfl (Nat.le_of_ble_eq_true rfl) rfl ?_
        refine ga_iload (z := 1) hm_106 rfl rfl ?_
        refine fl_if_eq hm_106 rfl ⟨by omega, by omega⟩ (fun h => absurd h (by omega)) (fun _ => ?_)
        refine ga_aload_n (v := .ref 120) hm_106 rfl rfl rfl ?_
        have b175_ : 0 ≤ F2 120 1 ∧ F2 120 1 ≤ 40 := gi_g hg_F2 rfl
        refine ga_geti (z := F2 120 1) hm_106 rfl sc_120 rfl (rfl) ?_
        refine fl_bipush hm_106 rfl rfl ?_
        refine fl_icmp_lt (a := F2 120 1) (b := 40) hm_106 rfl ⟨by omega, by omega⟩ ⟨by omega, by omega⟩ (fun h176_ => ?_) (fun h177_ => ?_)
        ·
          refine ga_iload (z := 1) hm_106 rfl rfl ?_
          refine fl_if_eq hm_106 rfl ⟨by omega, by omega⟩ (fun h => absurd h (by omega)) (fun _ => ?_)
          refine ga_aload_n (v := .ref 120) hm_106 rfl rfl rfl ?_
          refine ga_getr (b := 121) hm_106 rfl sc_120 rfl ?_
          refine ga_iload_n (z := pr) hm_106 rfl rfl ?_
          refine ga_iload (z := f1) hm_106 rfl rfl ?_
          refine ga_iload (z := f2) hm_106 rfl rfl ?_
          refine gJi (nY := 3) (F := 0) (L := 0) (As := [.int (Int32.ofInt pr), .int (Int32.ofInt f1), .int (Int32.ofInt f2)]) (rest := [.ref 121]) hm_106 rfl hm_107 rfl rfl (fl_pos sc_0) rfl rfl rfl rfl (by omega) (by omega) ?_
          intro f178_ l179_ h180_ h181_
          show fl_R xi_ms 107 f178_ l179_ 0 [(0, .int (Int32.ofInt pr)), (1, .int (Int32.ofInt f1)), (2, .int (Int32.ofInt f2))] [] _ _
          refine ga_iload_n (z := pr) hm_107 rfl rfl ?_
          refine fl_bipush hm_107 rfl rfl ?_
          refine ga_imul (a := pr) (b := 6) (c := 6 * pr) hm_107 rfl (by omega) ?_
          refine ga_iload_n (z := f1) hm_107 rfl rfl ?_
          refine ga_iadd (a := 6 * pr) (b := f1) (c := 6 * pr + f1) hm_107 rfl (by omega) ?_
          refine fl_bipush hm_107 rfl rfl ?_
          refine ga_imul (a := 6 * pr + f1) (b := 6) (c := 36 * pr + 6 * f1) hm_107 rfl (by omega) ?_
          refine ga_iload_n (z := f2) hm_107 rfl rfl ?_
          refine ga_iadd (a := 36 * pr + 6 * f1) (b := f2) (c := 36 * pr + 6 * f1 + f2) hm_107 rfl (by omega) ?_
          refine gr_i hm_107 rfl rfl rfl ?_
          clear h180_ h181_ f178_ l179_
          refine ga_aload_n (v := .ref 120) hm_106 rfl rfl rfl ?_
          refine ga_geti (z := F2 120 1) hm_106 rfl sc_120 rfl (rfl) ?_
          refine fl_iast (z := 36 * pr + 6 * f1 + f2) (v := F2 120 1) hm_106 rfl sc_121 (by omega) (by omega) (by omega) ?_
          refine ga_aload_n (v := .ref 120) hm_106 rfl rfl rfl ?_
          refine ga_dup hm_106 rfl rfl ?_
          refine ga_geti (z := F2 120 1) hm_106 rfl sc_120 rfl (fl_u_ne (by first | exact nc_ rfl | decide | omega)) ?_
          refine fl_iconst hm_106 rfl ?_
          refine ga_iadd (a := F2 120 1) (b := 1) (c := F2 120 1 + 1) hm_106 rfl (by omega) ?_
          refine ga_puti (z := F2 120 1 + 1) hm_106 rfl sc_120 rfl rfl ?_
          refine ga_inc (a := f2) (c := f2 + 1) (lv2 := [(7, .int (Int32.ofInt (f2 + 1))), (8, .int (Int32.ofInt 1)), (6, .int (Int32.ofInt f1)), (5, .int (Int32.ofInt (F 105 2))), (4, .int (Int32.ofInt (F 105 2))), (0, .ref 120), (1, .int (Int32.ofInt pr)), (2, .ref b), (3, .ref 105)]) hm_106 rfl rfl (Nat.le_of_ble_eq_true rfl) rfl rfl ?_
          refine fl_goto hm_106 rfl ?_
          obtain ⟨F182_, q183_⟩ : ∃ Fq_, Fq_ = (fl_u (fl_u F2 121 (36 * pr + 6 * f1 + f2).toNat (F2 120 1)) 120 1 (F2 120 1 + 1)) := ⟨_, rfl⟩
          rw [← q183_]
          have g184_ : gi F182_ := by rw [q183_]; exact gi_u (gi_u (hg_F2) rfl (by omega) (by omega)) rfl (by omega) (by omega)
          have g185_ : fs [(120, 120, 1, 1), (121, 121, 0, 100000)] F F182_ := by rw [q183_]; exact fs_u (fs_u (g127_) (fs_z (fs_y (by omega)))) rfl
          have e186_ : F182_ 120 1 = F2 120 1 + 1 := by rw [q183_]; exact fl_u_eq
          have e187_ : F182_ 121 (36 * pr + 6 * f1 + f2).toNat = F2 120 1 := by rw [q183_]; exact (fl_u_ne (by first | exact nc_ rfl | decide | omega)).trans (fl_u_eq)
          exact fl_R_sub (lv' := [(7, .int (Int32.ofInt (f2 + 1))), (6, .int (Int32.ofInt f1)), (5, .int (Int32.ofInt (F 105 2))), (4, .int (Int32.ofInt (F 105 2))), (0, .ref 120), (1, .int (Int32.ofInt pr)), (2, .ref b), (3, .ref 105)]) rfl rfl (ih125_ _ (by omega) (f2 + 1) F182_ rfl g184_ (by rw [q183_]; exact fs_u (fs_u (hf_F2) (fs_z (fs_y (by omega)))) rfl) (⟨by omega, by omega⟩) (by omega) (by rw [show 36 * pr.toNat + 6 * f1.toNat + (f2 + 1).toNat = 36 * pr.toNat + 6 * f1.toNat + f2.toNat + 1 by omega, nfc_y (gf_y (ps := ps) (tl := tl) (p := pr.toNat) (f1 := f1) (f2 := f2) (t := (ps.getD pr.toNat [])) (by omega) rfl (by omega) (by omega) (by omega) (by omega))]; omega) (by rw [show 36 * pr.toNat + 6 * f1.toNat + (f2 + 1).toNat = 36 * pr.toNat + 6 * f1.toNat + f2.toNat + 1 by omega]; exact fnr_y hn2 (fun h9_ => by rw [show 36 * pr.toNat + 6 * f1.toNat + f2.toNat = (36 * pr + 6 * f1 + f2).toNat by omega]; exact Eq.trans (e187_) (by rw [show (36 * pr + 6 * f1 + f2).toNat = 36 * pr.toNat + 6 * f1.toNat + f2.toNat by omega]; exact hc2)) (fun j hj => (show F182_ 121 j = F2 121 j from (by rw [q183_]; exact (fl_u_ne (by first | exact nc_ rfl | decide | omega)).trans ((fl_u_ne (by first | exact nc_ rfl | decide | omega))))))))
        refine fl_iconst hm_106 rfl ?_
        refine gr_i (z := 0) hm_106 rfl rfl (ga_nb (by omega)) ?_
        exact Or.inl ⟨F2, rfl, hg_F2, g127_, rfl, (by have h9_ := nfc_y (gf_y (ps := ps) (tl := tl) (p := pr.toNat) (f1 := f1) (f2 := f2) (t := (ps.getD pr.toNat [])) (by omega) rfl (by omega) (by omega) (by omega) (by omega)); have h8_ := nfc_le ps tl (show 36 * pr.toNat + 6 * f1.toNat + f2.toNat + 1 ≤ 36 * pr.toNat + 36 by omega); omega)⟩
      refine ga_aload_n (v := .ref 105) hm_110 rfl rfl rfl ?_
      refine ga_getr (b := 107) hm_110 rfl sc_105 rfl ?_
      refine ga_iload_n (z := f1) hm_110 rfl rfl ?_
      have e188_ : F1 107 f1.toNat = F 107 f1.toNat := (hf_F1 107 f1.toNat (by first | exact fs_c rfl | exact (fs_n (by omega) (fs_n (by omega) rfl)))).trans (rfl)
      have e189_ : F2 107 f1.toNat = F 107 f1.toNat := (hf_F2 107 f1.toNat (by first | exact fs_c rfl | exact (fs_n (by omega) (fs_n (by omega) rfl)))).trans (e188_)
      have b190_ : -1 ≤ F 107 f1.toNat ∧ F 107 f1.toNat ≤ 3 := gi_g hgi rfl
      refine ga_iald (z := f1) (w := F 107 f1.toNat) hm_110 rfl sc_107 (by omega) (by omega) (by omega) (e189_) ?_
      refine ga_iload_n (z := F (b + 2) 0) hm_110 rfl rfl ?_
      refine fx_icmp_ne (a := F 107 f1.toNat) (b := F (b + 2) 0) hm_110 rfl ⟨by omega, by omega⟩ ⟨by omega, by omega⟩ (fun h191_ => ?_) (fun h192_ => ?_)
      ·
        refine fl_iconst hm_110 rfl ?_
        refine gr_i hm_110 rfl rfl (ga_nb (by omega)) ?_
        clear h141_ h142_ f139_ l140_
        refine fl_if_eq hm_106 rfl ⟨by omega, by omega⟩ (fun _ => ?_) (fun h => absurd (by omega) h)
        refine fl_iconst hm_106 rfl ?_
        refine ga_istore (lv2 := [(8, .int (Int32.ofInt 0)), (7, .int (Int32.ofInt f2)), (6, .int (Int32.ofInt f1)), (5, .int (Int32.ofInt (F 105 2))), (4, .int (Int32.ofInt (F 105 2))), (0, .ref 120), (1, .int (Int32.ofInt pr)), (2, .ref b), (3, .ref 105)]) hm_106 rfl (Nat.le_of_ble_eq_true rfl) rfl ?_
        refine ga_iload (z := 0) hm_106 rfl rfl ?_
        refine fl_if_eq hm_106 rfl ⟨by omega, by omega⟩ (fun _ => ?_) (fun h => absurd (by omega) h)
        refine ga_iload (z := 0) hm_106 rfl rfl ?_
        refine fl_if_eq hm_106 rfl ⟨by omega, by omega⟩ (fun _ => ?_) (fun h => absurd (by omega) h)
        refine ga_inc (a := f2) (c := f2 + 1) (lv2 := [(7, .int (Int32.ofInt (f2 + 1))), (8, .int (Int32.ofInt 0)), (6, .int (Int32.ofInt f1)), (5, .int (Int32.ofInt (F 105 2))), (4, .int (Int32.ofInt (F 105 2))), (0, .ref 120), (1, .int (Int32.ofInt pr)), (2, .ref b), (3, .ref 105)]) hm_106 rfl rfl (Nat.le_of_ble_eq_true rfl) rfl rfl ?_
        refine fl_goto hm_106 rfl ?_
        have b193_ : 0 ≤ F2 120 1 ∧ F2 120 1 ≤ 40 := gi_g hg_F2 rfl
        exact fl_R_sub (lv' := [(7, .int (Int32.ofInt (f2 + 1))), (6, .int (Int32.ofInt f1)), (5, .int (Int32.ofInt (F 105 2))), (4, .int (Int32.ofInt (F 105 2))), (0, .ref 120), (1, .int (Int32.ofInt pr)), (2, .ref b), (3, .ref 105)]) rfl rfl (ih125_ _ (by omega) (f2 + 1) F2 rfl hg_F2 hf_F2 (⟨by omega, by omega⟩) (by omega) (by rw [show 36 * pr.toNat + 6 * f1.toNat + (f2 + 1).toNat = 36 * pr.toNat + 6 * f1.toNat + f2.toNat + 1 by omega, nfc_n (gf_n (ps := ps) (tl := tl) (p := pr.toNat) (f1 := f1) (f2 := f2) (t := (ps.getD pr.toNat [])) rfl (by omega) (by omega) (by omega))]; exact hc2) (by rw [show 36 * pr.toNat + 6 * f1.toNat + (f2 + 1).toNat = 36 * pr.toNat + 6 * f1.toNat + f2.toNat + 1 by omega]; exact fnr_y hn2 (fun h9_ => by rw [(gf_n (ps := ps) (tl := tl) (p := pr.toNat) (f1 := f1) (f2 := f2) (t := (ps.getD pr.toNat [])) rfl (by omega) (by omega) (by omega))] at h9_; cases h9_) (fun j hj => rfl)))
      refine fl_iconst hm_110 rfl ?_
      refine fl_goto hm_110 rfl ?_
      refine gr_i hm_110 rfl rfl (ga_nb (by omega)) ?_
      clear h141_ h142_ f139_ l140_
      refine fl_if_eq hm_106 rfl ⟨by omega, by omega⟩ (fun h => absurd h (by omega)) (fun _ => ?_)
      refine ga_aload_n (v := .ref b) hm_106 rfl rfl rfl ?_
      refine ga_geti (z := F b 2) hm_106 rfl h_b.1.1 rfl (e133_) ?_
      refine fl_iconst hm_106 rfl ?_
      refine fl_icmp_lt (a := F b 2) (b := 2) hm_106 rfl ⟨by omega, by omega⟩ ⟨by omega, by omega⟩ (fun h194_ => ?_) (fun h195_ => ?_)
      · exfalso; omega
      refine ga_aload_n (v := .ref 105) hm_106 rfl rfl rfl ?_
      refine ga_iload (z := f2) hm_106 rfl rfl ?_
      refine ga_aload_n (v := .ref b) hm_106 rfl rfl rfl ?_
      refine ga_getr (b := b + 2) hm_106 rfl h_b.1.1 rfl ?_
      refine fl_iconst hm_106 rfl ?_
      have e196_ : F1 (b + 2) 1 = F (b + 2) 1 := (hf_F1 (b + 2) 1 (by first | exact fs_c rfl | exact (fs_n (by omega) (fs_n (by omega) rfl)))).trans (rfl)
      have e197_ : F2 (b + 2) 1 = F (b + 2) 1 := (hf_F2 (b + 2) 1 (by first | exact fs_c rfl | exact (fs_n (by omega) (fs_n (by omega) rfl)))).trans (e196_)
      have b198_ : -1 ≤ F (b + 2) 1 ∧ F (b + 2) 1 ≤ 3 := gi_g hgi (gb_a h_b.2.1.2.1)
      refine ga_iald (z := 1) (w := F (b + 2) 1) hm_106 rfl h_b.1.2.2 (by omega) (by omega) (by omega) (e197_) ?_
      refine gIi (nY := 3) (F := 0) (L := 0) (As := [.int (Int32.ofInt f2), .int (Int32.ofInt (F (b + 2) 1))]) (b := 105) (rest := []) hm_106 rfl hm_110 rfl rfl (fl_ob sc_105) rfl rfl rfl rfl rfl (by omega) (by omega) ?_
      intro f199_ l200_ h201_ h202_
      show fl_R xi_ms 110 f199_ l200_ 0 [(0, .ref 105), (1, .int (Int32.ofInt f2)), (2, .int (Int32.ofInt (F (b + 2) 1)))] [] _ _
      refine ga_iload_n (z := F (b + 2) 1) hm_110 rfl rfl ?_
      refine fl_iconst hm_110 rfl ?_
      refine fl_icmp_eq (a := F (b + 2) 1) (b := -1) hm_110 rfl ⟨by omega, by omega⟩ ⟨by omega, by omega⟩ (fun h203_ => ?_) (fun h204_ => ?_)
      ·
        refine fl_iconst hm_110 rfl ?_
        refine fl_goto hm_110 rfl ?_
        refine gr_i hm_110 rfl rfl (ga_nb (by omega)) ?_
        clear h201_ h202_ f199_ l200_
        refine fl_if_eq hm_106 rfl ⟨by omega, by omega⟩ (fun h => absurd h (by omega)) (fun _ => ?_)
        refine fl_iconst hm_106 rfl ?_
        refine fl_goto hm_106 rfl ?_
        refine ga_istore (lv2 := [(8, .int (Int32.ofInt 1)), (7, .int (Int32.ofInt f2)), (6, .int (Int32.ofInt f1)), (5, .int (Int32.ofInt (F 105 2))), (4, .int (Int32.ofInt (F 105 2))), (0, .ref 120), (1, .int (Int32.ofInt pr)), (2, .ref b), (3, .ref 105)]) hm_106 rfl (Nat.le_of_ble_eq_true rfl) rfl ?_
        refine ga_iload (z := 1) hm_106 rfl rfl ?_
        refine fl_if_eq hm_106 rfl ⟨by omega, by omega⟩ (fun h => absurd h (by omega)) (fun _ => ?_)
        refine ga_aload_n (v := .ref 120) hm_106 rfl rfl rfl ?_
        have b205_ : 0 ≤ F2 120 1 ∧ F2 120 1 ≤ 40 := gi_g hg_F2 rfl
        refine ga_geti (z := F2 120 1) hm_106 rfl sc_120 rfl (rfl) ?_
        refine fl_bipush hm_106 rfl rfl ?_
        refine fl_icmp_lt (a := F2 120 1) (b := 40) hm_106 rfl ⟨by omega, by omega⟩ ⟨by omega, by omega⟩ (fun h206_ => ?_) (fun h207_ => ?_)
        ·
          refine ga_iload (z := 1) hm_106 rfl rfl ?_
          refine fl_if_eq hm_106 rfl ⟨by omega, by omega⟩ (fun h => absurd h (by omega)) (fun _ => ?_)
          refine ga_aload_n (v := .ref 120) hm_106 rfl rfl rfl ?_
          refine ga_getr (b := 121) hm_106 rfl sc_120 rfl ?_
          refine ga_iload_n (z := pr) hm_106 rfl rfl ?_
          refine ga_iload (z := f1) hm_106 rfl rfl ?_
          refine ga_iload (z := f2) hm_106 rfl rfl ?_
          refine gJi (nY := 3) (F := 0) (L := 0) (As := [.int (Int32.ofInt pr), .int (Int32.ofInt f1), .int (Int32.ofInt f2)]) (rest := [.ref 121]) hm_106 rfl hm_107 rfl rfl (fl_pos sc_0) rfl rfl rfl rfl (by omega) (by omega) ?_
          intro f208_ l209_ h210_ h211_
          show fl_R xi_ms 107 f208_ l209_ 0 [(0, .int (Int32.ofInt pr)), (1, .int (Int32.ofInt f1)), (2, .int (Int32.ofInt f2))] [] _ _
          refine ga_iload_n (z := pr) hm_107 rfl rfl ?_
          refine fl_bipush hm_107 rfl rfl ?_
          refine ga_imul (a := pr) (b := 6) (c := 6 * pr) hm_107 rfl (by omega) ?_
          refine ga_iload_n (z := f1) hm_107 rfl rfl ?_
          refine ga_iadd (a := 6 * pr) (b := f1) (c := 6 * pr + f1) hm_107 rfl (by omega) ?_
          refine fl_bipush hm_107 rfl rfl ?_
          refine ga_imul (a := 6 * pr + f1) (b := 6) (c := 36 * pr + 6 * f1) hm_107 rfl (by omega) ?_
          refine ga_iload_n (z := f2) hm_107 rfl rfl ?_
          refine ga_iadd (a := 36 * pr + 6 * f1) (b := f2) (c := 36 * pr + 6 * f1 + f2) hm_107 rfl (by omega) ?_
          refine gr_i hm_107 rfl rfl rfl ?_
          clear h210_ h211_ f208_ l209_
          refine ga_aload_n (v := .ref 120) hm_106 rfl rfl rfl ?_
          refine ga_geti (z := F2 120 1) hm_106 rfl sc_120 rfl (rfl) ?_
          refine fl_iast (z := 36 * pr + 6 * f1 + f2) (v := F2 120 1) hm_106 rfl sc_121 (by omega) (by omega) (by omega) ?_
          refine ga_aload_n (v := .ref 120) hm_106 rfl rfl rfl ?_
          refine ga_dup hm_106 rfl rfl ?_
          refine ga_geti (z := F2 120 1) hm_106 rfl sc_120 rfl (fl_u_ne (by first | exact nc_ rfl | decide | omega)) ?_
          refine fl_iconst hm_106 rfl ?_
          refine ga_iadd (a := F2 120 1) (b := 1) (c := F2 120 1 + 1) hm_106 rfl (by omega) ?_
          refine ga_puti (z := F2 120 1 + 1) hm_106 rfl sc_120 rfl rfl ?_
          refine ga_inc (a := f2) (c := f2 + 1) (lv2 := [(7, .int (Int32.ofInt (f2 + 1))), (8, .int (Int32.ofInt 1)), (6, .int (Int32.ofInt f1)), (5, .int (Int32.ofInt (F 105 2))), (4, .int (Int32.ofInt (F 105 2))), (0, .ref 120), (1, .int (Int32.ofInt pr)), (2, .ref b), (3, .ref 105)]) hm_106 rfl rfl (Nat.le_of_ble_eq_true rfl) rfl rfl ?_
          refine fl_goto hm_106 rfl ?_
          obtain ⟨F212_, q213_⟩ : ∃ Fq_, Fq_ = (fl_u (fl_u F2 121 (36 * pr + 6 * f1 + f2).toNat (F2 120 1)) 120 1 (F2 120 1 + 1)) := ⟨_, rfl⟩
          rw [← q213_]
          have g214_ : gi F212_ := by rw [q213_]; exact gi_u (gi_u (hg_F2) rfl (by omega) (by omega)) rfl (by omega) (by omega)
          have g215_ : fs [(120, 120, 1, 1), (121, 121, 0, 100000)] F F212_ := by rw [q213_]; exact fs_u (fs_u (g127_) (fs_z (fs_y (by omega)))) rfl
          have e216_ : F212_ 120 1 = F2 120 1 + 1 := by rw [q213_]; exact fl_u_eq
          have e217_ : F212_ 121 (36 * pr + 6 * f1 + f2).toNat = F2 120 1 := by rw [q213_]; exact (fl_u_ne (by first | exact nc_ rfl | decide | omega)).trans (fl_u_eq)
          exact fl_R_sub (lv' := [(7, .int (Int32.ofInt (f2 + 1))), (6, .int (Int32.ofInt f1)), (5, .int (Int32.ofInt (F 105 2))), (4, .int (Int32.ofInt (F 105 2))), (0, .ref 120), (1, .int (Int32.ofInt pr)), (2, .ref b), (3, .ref 105)]) rfl rfl (ih125_ _ (by omega) (f2 + 1) F212_ rfl g214_ (by rw [q213_]; exact fs_u (fs_u (hf_F2) (fs_z (fs_y (by omega)))) rfl) (⟨by omega, by omega⟩) (by omega) (by rw [show 36 * pr.toNat + 6 * f1.toNat + (f2 + 1).toNat = 36 * pr.toNat + 6 * f1.toNat + f2.toNat + 1 by omega, nfc_y (gf_y (ps := ps) (tl := tl) (p := pr.toNat) (f1 := f1) (f2 := f2) (t := (ps.getD pr.toNat [])) (by omega) rfl (by omega) (by omega) (by omega) (by omega))]; omega) (by rw [show 36 * pr.toNat + 6 * f1.toNat + (f2 + 1).toNat = 36 * pr.toNat + 6 * f1.toNat + f2.toNat + 1 by omega]; exact fnr_y hn2 (fun h9_ => by rw [show 36 * pr.toNat + 6 * f1.toNat + f2.toNat = (36 * pr + 6 * f1 + f2).toNat by omega]; exact Eq.trans (e217_) (by rw [show (36 * pr + 6 * f1 + f2).toNat = 36 * pr.toNat + 6 * f1.toNat + f2.toNat by omega]; exact hc2)) (fun j hj => (show F212_ 121 j = F2 121 j from (by rw [q213_]; exact (fl_u_ne (by first | exact nc_ rfl | decide | omega)).trans ((fl_u_ne (by first | exact nc_ rfl | decide | omega))))))))
        refine fl_iconst hm_106 rfl ?_
        refine gr_i (z := 0) hm_106 rfl rfl (ga_nb (by omega)) ?_
        exact Or.inl ⟨F2, rfl, hg_F2, g127_, rfl, (by have h9_ := nfc_y (gf_y (ps := ps) (tl := tl) (p := pr.toNat) (f1 := f1) (f2 := f2) (t := (ps.getD pr.toNat [])) (by omega) rfl (by omega) (by omega) (by omega) (by omega)); have h8_ := nfc_le ps tl (show 36 * pr.toNat + 6 * f1.toNat + f2.toNat + 1 ≤ 36 * pr.toNat + 36 by omega); omega)⟩
      refine ga_aload_n (v := .ref 105) hm_110 rfl rfl rfl ?_
      refine ga_getr (b := 107) hm_110 rfl sc_105 rfl ?_
      refine ga_iload_n (z := f2) hm_110 rfl rfl ?_
      have e218_ : F1 107 f2.toNat = F 107 f2.toNat := (hf_F1 107 f2.toNat (by first | exact fs_c rfl | exact (fs_n (by omega) (fs_n (by omega) rfl)))).trans (rfl)
      have e219_ : F2 107 f2.toNat = F 107 f2.toNat := (hf_F2 107 f2.toNat (by first | exact fs_c rfl | exact (fs_n (by omega) (fs_n (by omega) rfl)))).trans (e218_)
      have b220_ : -1 ≤ F 107 f2.toNat ∧ F 107 f2.toNat ≤ 3 := gi_g hgi rfl
      refine ga_iald (z := f2) (w := F 107 f2.toNat) hm_110 rfl sc_107 (by omega) (by omega) (by omega) (e219_) ?_
      refine ga_iload_n (z := F (b + 2) 1) hm_110 rfl rfl ?_
      refine fx_icmp_ne (a := F 107 f2.toNat) (b := F (b + 2) 1) hm_110 rfl ⟨by omega, by omega⟩ ⟨by omega, by omega⟩ (fun h221_ => ?_) (fun h222_ => ?_)
      ·
        refine fl_iconst hm_110 rfl ?_
        refine gr_i hm_110 rfl rfl (ga_nb (by omega)) ?_
        clear h201_ h202_ f199_ l200_
        refine fl_if_eq hm_106 rfl ⟨by omega, by omega⟩ (fun _ => ?_) (fun h => absurd (by omega) h)
        refine fl_iconst hm_106 rfl ?_
        refine ga_istore (lv2 := [(8, .int (Int32.ofInt 0)), (7, .int (Int32.ofInt f2)), (6, .int (Int32.ofInt f1)), (5, .int (Int32.ofInt (F 105 2))), (4, .int (Int32.ofInt (F 105 2))), (0, .ref 120), (1, .int (Int32.ofInt pr)), (2, .ref b), (3, .ref 105)]) hm_106 rfl (Nat.le_of_ble_eq_true rfl) rfl ?_
        refine ga_iload (z := 0) hm_106 rfl rfl ?_
        refine fl_if_eq hm_106 rfl ⟨by omega, by omega⟩ (fun _ => ?_) (fun h => absurd (by omega) h)
        refine ga_iload (z := 0) hm_106 rfl rfl ?_
        refine fl_if_eq hm_106 rfl ⟨by omega, by omega⟩ (fun _ => ?_) (fun h => absurd (by omega) h)
        refine ga_inc (a := f2) (c := f2 + 1) (lv2 := [(7, .int (Int32.ofInt (f2 + 1))), (8, .int (Int32.ofInt 0)), (6, .int (Int32.ofInt f1)), (5, .int (Int32.ofInt (F 105 2))), (4, .int (Int32.ofInt (F 105 2))), (0, .ref 120), (1, .int (Int32.ofInt pr)), (2, .ref b), (3, .ref 105)]) hm_106 rfl rfl (Nat.le_of_ble_eq_true rfl) rfl rfl ?_
        refine fl_goto hm_106 rfl ?_
        have b223_ : 0 ≤ F2 120 1 ∧ F2 120 1 ≤ 40 := gi_g hg_F2 rfl
        exact fl_R_sub (lv' := [(7, .int (Int32.ofInt (f2 + 1))), (6, .int (Int32.ofInt f1)), (5, .int (Int32.ofInt (F 105 2))), (4, .int (Int32.ofInt (F 105 2))), (0, .ref 120), (1, .int (Int32.ofInt pr)), (2, .ref b), (3, .ref 105)]) rfl rfl (ih125_ _ (by omega) (f2 + 1) F2 rfl hg_F2 hf_F2 (⟨by omega, by omega⟩) (by omega) (by rw [show 36 * pr.toNat + 6 * f1.toNat + (f2 + 1).toNat = 36 * pr.toNat + 6 * f1.toNat + f2.toNat + 1 by omega, nfc_n (gf_n (ps := ps) (tl := tl) (p := pr.toNat) (f1 := f1) (f2 := f2) (t := (ps.getD pr.toNat [])) rfl (by omega) (by omega) (by omega))]; exact hc2) (by rw [show 36 * pr.toNat + 6 * f1.toNat + (f2 + 1).toNat = 36 * pr.toNat + 6 * f1.toNat + f2.toNat + 1 by omega]; exact fnr_y hn2 (fun h9_ => by rw [(gf_n (ps := ps) (tl := tl) (p := pr.toNat) (f1 := f1) (f2 := f2) (t := (ps.getD pr.toNat [])) rfl (by omega) (by omega) (by omega))] at h9_; cases h9_) (fun j hj => rfl)))
      refine fl_iconst hm_110 rfl ?_
      refine fl_goto hm_110 rfl ?_
      refine gr_i hm_110 rfl rfl (ga_nb (by omega)) ?_
      clear h201_ h202_ f199_ l200_
      refine fl_if_eq hm_106 rfl ⟨by omega, by omega⟩ (fun h => absurd h (by omega)) (fun _ => ?_)
      refine fl_iconst hm_106 rfl ?_
      refine fl_goto hm_106 rfl ?_
      refine ga_istore (lv2 := [(8, .int (Int32.ofInt 1)), (7, .int (Int32.ofInt f2)), (6, .int (Int32.ofInt f1)), (5, .int (Int32.ofInt (F 105 2))), (4, .int (Int32.ofInt (F 105 2))), (0, .ref 120), (1, .int (Int32.ofInt pr)), (2, .ref b), (3, .ref 105)]) hm_106 rfl (Nat.le_of_ble_eq_true rfl) rfl ?_
      refine ga_iload (z := 1) hm_106 rfl rfl ?_
      refine fl_if_eq hm_106 rfl ⟨by omega, by omega⟩ (fun h => absurd h (by omega)) (fun _ => ?_)
      refine ga_aload_n (v := .ref 120) hm_106 rfl rfl rfl ?_
      have b224_ : 0 ≤ F2 120 1 ∧ F2 120 1 ≤ 40 := gi_g hg_F2 rfl
      refine ga_geti (z := F2 120 1) hm_106 rfl sc_120 rfl (rfl) ?_
      refine fl_bipush hm_106 rfl rfl ?_
      refine fl_icmp_lt (a := F2 120 1) (b := 40) hm_106 rfl ⟨by omega, by omega⟩ ⟨by omega, by omega⟩ (fun h225_ => ?_) (fun h226_ => ?_)
      ·
        refine ga_iload (z := 1) hm_106 rfl rfl ?_
        refine fl_if_eq hm_106 rfl ⟨by omega, by omega⟩ (fun h => absurd h (by omega)) (fun _ => ?_)
        refine ga_aload_n (v := .ref 120) hm_106 rfl rfl rfl ?_
        refine ga_getr (b := 121) hm_106 rfl sc_120 rfl ?_
        refine ga_iload_n (z := pr) hm_106 rfl rfl ?_
        refine ga_iload (z := f1) hm_106 rfl rfl ?_
        refine ga_iload (z := f2) hm_106 rfl rfl ?_
        refine gJi (nY := 3) (F := 0) (L := 0) (As := [.int (Int32.ofInt pr), .int (Int32.ofInt f1), .int (Int32.ofInt f2)]) (rest := [.ref 121]) hm_106 rfl hm_107 rfl rfl (fl_pos sc_0) rfl rfl rfl rfl (by omega) (by omega) ?_
        intro f227_ l228_ h229_ h230_
        show fl_R xi_ms 107 f227_ l228_ 0 [(0, .int (Int32.ofInt pr)), (1, .int (Int32.ofInt f1)), (2, .int (Int32.ofInt f2))] [] _ _
        refine ga_iload_n (z := pr) hm_107 rfl rfl ?_
        refine fl_bipush hm_107 rfl rfl ?_
        refine ga_imul (a := pr) (b := 6) (c := 6 * pr) hm_107 rfl (by omega) ?_
        refine ga_iload_n (z := f1) hm_107 rfl rfl ?_
        refine ga_iadd (a := 6 * pr) (b := f1) (c := 6 * pr + f1) hm_107 rfl (by omega) ?_
        refine fl_bipush hm_107 rfl rfl ?_
        refine ga_imul (a := 6 * pr + f1) (b := 6) (c := 36 * pr + 6 * f1) hm_107 rfl (by omega) ?_
        refine ga_iload_n (z := f2) hm_107 rfl rfl ?_
        refine ga_iadd (a := 36 * pr + 6 * f1) (b := f2) (c := 36 * pr + 6 * f1 + f2) hm_107 rfl (by omega) ?_
        refine gr_i hm_107 rfl rfl rfl ?_
        clear h229_ h230_ f227_ l228_
        refine ga_aload_n (v := .ref 120) hm_106 rfl rfl rfl ?_
        refine ga_geti (z := F2 120 1) hm_106 rfl sc_120 rfl (rfl) ?_
        refine fl_iast (z := 36 * pr + 6 * f1 + f2) (v := F2 120 1) hm_106 rfl sc_121 (by omega) (by omega) (by omega) ?_
        refine ga_aload_n (v := .ref 120) hm_106 rfl rfl rfl ?_
        refine ga_dup hm_106 rfl rfl ?_
        refine ga_geti (z := F2 120 1) hm_106 rfl sc_120 rfl (fl_u_ne (by first | exact nc_ rfl | decide | omega)) ?_
        refine fl_iconst hm_106 rfl ?_
        refine ga_iadd (a := F2 120 1) (b := 1) (c := F2 120 1 + 1) hm_106 rfl (by omega) ?_
        refine ga_puti (z := F2 120 1 + 1) hm_106 rfl sc_120 rfl rfl ?_
        refine ga_inc (a := f2) (c := f2 + 1) (lv2 := [(7, .int (Int32.ofInt (f2 + 1))), (8, .int (Int32.ofInt 1)), (6, .int (Int32.ofInt f1)), (5, .int (Int32.ofInt (F 105 2))), (4, .int (Int32.ofInt (F 105 2))), (0, .ref 120), (1, .int (Int32.ofInt pr)), (2, .ref b), (3, .ref 105)]) hm_106 rfl rfl (Nat.le_of_ble_eq_true rfl) rfl rfl ?_
        refine fl_goto hm_106 rfl ?_
        obtain ⟨F231_, q232_⟩ : ∃ Fq_, Fq_ = (fl_u (fl_u F2 121 (36 * pr + 6 * f1 + f2).toNat (F2 120 1)) 120 1 (F2 120 1 + 1)) := ⟨_, rfl⟩
        rw [← q232_]
        have g233_ : gi F231_ := by rw [q232_]; exact gi_u (gi_u (hg_F2) rfl (by omega) (by omega)) rfl (by omega) (by omega)
        have g234_ : fs [(120, 120, 1, 1), (121, 121, 0, 100000)] F F231_ := by rw [q232_]; exact fs_u (fs_u (g127_) (fs_z (fs_y (by omega)))) rfl
        have e235_ : F231_ 120 1 = F2 120 1 + 1 := by rw [q232_]; exact fl_u_eq
        have e236_ : F231_ 121 (36 * pr + 6 * f1 + f2).toNat = F2 120 1 := by rw [q232_]; exact (fl_u_ne (by first | exact nc_ rfl | decide | omega)).trans (fl_u_eq)
        exact fl_R_sub (lv' := [(7, .int (Int32.ofInt (f2 + 1))), (6, .int (Int32.ofInt f1)), (5, .int (Int32.ofInt (F 105 2))), (4, .int (Int32.ofInt (F 105 2))), (0, .ref 120), (1, .int (Int32.ofInt pr)), (2, .ref b), (3, .ref 105)]) rfl rfl (ih125_ _ (by omega) (f2 + 1) F231_ rfl g233_ (by rw [q232_]; exact fs_u (fs_u (hf_F2) (fs_z (fs_y (by omega)))) rfl) (⟨by omega, by omega⟩) (by omega) (by rw [show 36 * pr.toNat + 6 * f1.toNat + (f2 + 1).toNat = 36 * pr.toNat + 6 * f1.toNat + f2.toNat + 1 by omega, nfc_y (gf_y (ps := ps) (tl := tl) (p := pr.toNat) (f1 := f1) (f2 := f2) (t := (ps.getD pr.toNat [])) (by omega) rfl (by omega) (by omega) (by omega) (by omega))]; omega) (by rw [show 36 * pr.toNat + 6 * f1.toNat + (f2 + 1).toNat = 36 * pr.toNat + 6 * f1.toNat + f2.toNat + 1 by omega]; exact fnr_y hn2 (fun h9_ => by rw [show 36 * pr.toNat + 6 * f1.toNat + f2.toNat = (36 * pr + 6 * f1 + f2).toNat by omega]; exact Eq.trans (e236_) (by rw [show (36 * pr + 6 * f1 + f2).toNat = 36 * pr.toNat + 6 * f1.toNat + f2.toNat by omega]; exact hc2)) (fun j hj => (show F231_ 121 j = F2 121 j from (by rw [q232_]; exact (fl_u_ne (by first | exact nc_ rfl | decide | omega)).trans ((fl_u_ne (by first | exact nc_ rfl | decide | omega))))))))
      refine fl_iconst hm_106 rfl ?_
      refine gr_i (z := 0) hm_106 rfl rfl (ga_nb (by omega)) ?_
      exact Or.inl ⟨F2, rfl, hg_F2, g127_, rfl, (by have h9_ := nfc_y (gf_y (ps := ps) (tl := tl) (p := pr.toNat) (f1 := f1) (f2 := f2) (t := (ps.getD pr.toNat [])) (by omega) rfl (by omega) (by omega) (by omega) (by omega)); have h8_ := nfc_le ps tl (show 36 * pr.toNat + 6 * f1.toNat + f2.toNat + 1 ≤ 36 * pr.toNat + 36 by omega); omega)⟩
    have b237_ : 0 ≤ F1 120 1 ∧ F1 120 1 ≤ 40 := gi_g hg_F1 rfl
    exact L124_ _ (0) F1 rfl hg_F1 fs_refl (⟨by omega, by omega⟩) (by omega) (by simpa using hc1) (by simpa using hn1)
  have b238_ : 0 ≤ F 120 1 ∧ F 120 1 ≤ 40 := gi_g hgi rfl
  exact L116_ _ (0) F rfl hgi fs_refl (⟨by omega, by omega⟩) (by omega) (by simpa using hc) (by simpa using hn)
/- CheapPlanner$Ground.numberFacts -/
abbrev pq_105 (G : Nat → Nat → Option Nat) (F : fl_N) (X : xi_H) (pl tl : List Int) (ps : List (List Int)) : Outcome → xi_H → Prop := gqi (fun z A => (∃ F' : fl_N, fl_H sh_T G F' ++ X = A ∧ gi F' ∧ fs [(120, 120, 1, 1), (121, 121, 0, 100000)] F F' ∧ (z = 0) ∧ (40 < nfc ps tl 216)) ∨ (∃ F' : fl_N, fl_H sh_T G F' ++ X = A ∧ gi F' ∧ fs [(120, 120, 1, 1), (121, 121, 0, 100000)] F F' ∧ (z = 1) ∧ (F' 120 1 = (nfc ps tl 216 : Int)) ∧ (fnr F' 121 ps tl 216))) gqn
theorem mc_105 {G : Nat → Nat → Option Nat} (hG : gg G) (F : fl_N) (X : xi_H) (hgi : gi F) (pl tl : List Int) (ps : List (List Int)) (hpl : rep (F 12) (F 11 2) pl) (hps : prd F ps) (hpn : pl.length = ps.length) (hob : rep (F 107) (F 105 2) tl) : fl_M xi_ms 105 2 50 [.ref 120, .ref 7, .ref 105] (fl_H sh_T G F ++ X) (pq_105 G F X pl tl ps) := by
  intro fr lo hfr hlo
  show fl_R xi_ms 105 fr lo 0 [(0, .ref 120), (1, .ref 7), (2, .ref 105)] [] _ _
  have hpl1 := hpl.1
  have hb11 : 0 ≤ F 11 2 ∧ F 11 2 ≤ 6 := gi_g hgi rfl
  refine ga_aload_n (v := .ref 120) hm_105 rfl rfl rfl ?_
  refine fl_iconst hm_105 rfl ?_
  refine ga_puti (z := 0) hm_105 rfl sc_120 rfl rfl ?_
  refine fl_iconst hm_105 rfl ?_
  refine ga_istore_n (lv2 := [(3, .int (Int32.ofInt 0)), (0, .ref 120), (1, .ref 7), (2, .ref 105)]) hm_105 rfl (Nat.le_of_ble_eq_true rfl) rfl ?_
  obtain ⟨F1_, q2_⟩ : ∃ Fq_, Fq_ = (fl_u F 120 1 0) := ⟨_, rfl⟩
  rw [← q2_]
  have g3_ : gi F1_ := by rw [q2_]; exact gi_u (hgi) rfl (by omega) (by omega)
  have g4_ : fs [(120, 120, 1, 1), (121, 121, 0, 100000)] F F1_ := by rw [q2_]; exact fs_u (fs_refl) rfl
  have L6_ : ∀ (n5_ : Nat) (k : Int) (F1 : fl_N), (6 - k : Int).toNat = n5_ → (gi F1) → (fs [(120, 120, 1, 1), (121, 121, 0, 100000)] F1_ F1) → (0 ≤ k ∧ k ≤ F 11 2) → (F1 120 1 = (nfc ps tl (36 * k.toNat) : Int)) → (fnr F1 121 ps tl (36 * k.toNat)) → fl_R xi_ms 105 fr lo 7 [(3, .int (Int32.ofInt k)), (0, .ref 120), (1, .ref 7), (2, .ref 105)] [] (fl_H sh_T G F1 ++ X) (pq_105 G F X pl tl ps) := by
    intro n5_
    induction n5_ using Nat.strongRecOn with
    | ind n5_ ih7_ =>
    intro k F1 hn8_ hg_F1 hf_F1 hk hc1 hn1
    have g9_ : fs [(120, 120, 1, 1), (121, 121, 0, 100000)] F F1 := fs_tr g4_ hf_F1 rfl
    refine ga_iload_n (z := k) hm_105 rfl rfl ?_
    refine ga_aload_n (v := .ref 7) hm_105 rfl rfl rfl ?_
    refine ga_getr (b := 11) hm_105 rfl sc_7 rfl ?_
    have e10_ : F1_ 11 2 = F 11 2 := by rw [q2_]; exact fl_u_ne (by first | exact nc_ rfl | decide | omega)
    have e11_ : F1 11 2 = F 11 2 := (hf_F1 11 2 rfl).trans (e10_)
    have b12_ : 0 ≤ F 11 2 ∧ F 11 2 ≤ 6 := gi_g hgi rfl
    refine ga_geti (z := F 11 2) hm_105 rfl sc_11 rfl (e11_) ?_
    refine fl_icmp_ge (a := k) (b := F 11 2) hm_105 rfl ⟨by omega, by omega⟩ ⟨by omega, by omega⟩ (fun h13_ => ?_) (fun h14_ => ?_)
    ·
      refine fl_iconst hm_105 rfl ?_
      refine gr_i (z := 1) hm_105 rfl rfl (ga_nb (by omega)) ?_
      have b15_ : 0 ≤ F1 120 1 ∧ F1 120 1 ≤ 40 := gi_g hg_F1 rfl
      exact Or.inr (⟨F1, rfl, hg_F1, g9_, rfl, (by rw [gf_end (m := k.toNat) (by omega) (by omega)]; exact hc1), (fnr_sk hn1 (gf_end (m := k.toNat) (by omega) (by omega)))⟩)
    refine ga_aload_n (v := .ref 120) hm_105 rfl rfl rfl ?_
    refine ga_iload_n (z := k) hm_105 rfl rfl ?_
    refine ga_aload_n (v := .ref 7) hm_105 rfl rfl rfl ?_
    refine ga_getr (b := 14) hm_105 rfl sc_7 rfl ?_
    refine ga_iload_n (z := k) hm_105 rfl rfl ?_
    obtain ⟨a16_, r17_, n18_, q19_⟩ := ra_14 (k).toNat (by omega)
    refine fl_aald (z := k) (q := a16_) hm_105 rfl sc_14 (hG _ _ _ sc_14) rfl (by omega) (by simp only [List.length_cons, List.length_nil]; omega) (by simp only [List.length_cons, List.length_nil]; omega) r17_ ?_
    refine ga_aload_n (v := .ref 105) hm_105 rfl rfl rfl ?_
    have hpz := hps k.toNat (by omega)
    rw [← q19_] at hpz
    refine gVi (nY := 9) (F := 1) (L := 22) (As := [.int (Int32.ofInt k), .ref a16_, .ref 105]) (b := 120) (rest := []) hm_105 rfl hm_106 rfl rfl (fl_ob sc_120) rfl rfl rfl rfl rfl (by omega) (by omega) (mc_106 hG F1 X hg_F1 (a16_) (k) (ps) (tl) n18_ (⟨by omega, by omega⟩) ((rep_fs (by rw [q2_]; exact (rep_u hpz (by omega) (by omega))) hf_F1 (fun _ => (by first | exact fs_c rfl | exact (fs_n (by omega) (fs_n (by omega) rfl)))) (by first | exact fs_c rfl | exact (fs_n (by omega) (fs_n (by omega) rfl))))) (by omega) ((rep_fs (by rw [q2_]; exact (rep_u hob (by omega) (by omega))) hf_F1 (fun _ => (by first | exact fs_c rfl | exact (fs_n (by omega) (fs_n (by omega) rfl)))) (by first | exact fs_c rfl | exact (fs_n (by omega) (fs_n (by omega) rfl))))) (hc1) (hn1)) (fun _ _ h => False.elim h) ?_
    rintro z20_ A1_ (⟨F22_, hA_, g23_, s24_, hz_, c21_⟩ | ⟨F27_, hA_, g28_, s29_, hz_, c25_, c26_⟩)
    ·
      subst hA_
      subst hz_
      have g30_ : fs [(120, 120, 1, 1), (121, 121, 0, 100000)] F F22_ := fs_tr g9_ s24_ rfl
      refine fl_if_ne hm_105 rfl ⟨by omega, by omega⟩ (fun h => absurd h (by omega)) (fun _ => ?_)
      refine fl_iconst hm_105 rfl ?_
      refine gr_i (z := 0) hm_105 rfl rfl (ga_nb (by omega)) ?_
      exact Or.inl ⟨F22_, rfl, g23_, g30_, rfl, (by have h9_ := c21_; have h8_ := nfc_le ps tl (show 36 * k.toNat + 36 ≤ 216 by omega); omega)⟩
    subst hA_
    subst hz_
    have g31_ : fs [(120, 120, 1, 1), (121, 121, 0, 100000)] F F27_ := fs_tr g9_ s29_ rfl
    refine fl_if_ne hm_105 rfl ⟨by omega, by omega⟩ (fun _ => ?_) (fun h => absurd (by omega) h)
    refine ga_inc (a := k) (c := k + 1) (lv2 := [(3, .int (Int32.ofInt (k + 1))), (0, .ref 120), (1, .ref 7), (2, .ref 105)]) hm_105 rfl rfl (Nat.le_of_ble_eq_true rfl) rfl rfl ?_
    refine fl_goto hm_105 rfl ?_
    have b32_ : 0 ≤ F27_ 120 1 ∧ F27_ 120 1 ≤ 40 := gi_g g28_ rfl
    have b33_ : 0 ≤ F1 120 1 ∧ F1 120 1 ≤ 40 := gi_g hg_F1 rfl
    exact ih7_ _ (by omega) (k + 1) F27_ rfl g28_ (fs_tr hf_F1 s29_ rfl) (⟨by omega, by omega⟩) (by rw [show 36 * (k + 1).toNat = 36 * k.toNat + 36 by omega]; exact c25_) (by rw [show 36 * (k + 1).toNat = 36 * k.toNat + 36 by omega]; exact c26_)
  have b34_ : 0 ≤ F 11 2 ∧ F 11 2 ≤ 6 := gi_g hgi rfl
  have e35_ : F1_ 120 1 = 0 := by rw [q2_]; exact fl_u_eq
  exact L6_ _ (0) F1_ rfl g3_ fs_refl (⟨by omega, by omega⟩) (by show _ = ((0 : Nat) : Int); omega) (fnr_0)
/- CheapPlanner$Ground.makeStepsOf -/
abbrev pq_104 (G : Nat → Nat → Option Nat) (F : fl_N) (X : xi_H) (p n : Nat) (ac : Int) (D : List ad_T) (tl : List Int) (L0 : List (Nat × Nat)) : Outcome → xi_H → Prop := gqi (fun z A => (∃ F' : fl_N, fl_H sh_T G F' ++ X = A ∧ gi F' ∧ fs [(120, 120, 3, 3), (126, 330, 0, 100000)] F F' ∧ (z = 0) ∧ (40 < (L0 ++ stE tl D ac.toNat).length)) ∨ (∃ F' : fl_N, fl_H sh_T G F' ++ X = A ∧ gi F' ∧ fs [(120, 120, 3, 3), (126, 330, 0, 100000)] F F' ∧ (z = 1) ∧ (F' 120 3 ≤ 40) ∧ (F' 120 3 = ((L0 ++ stE tl D ac.toNat).length : Int)) ∧ (sts F' D (L0 ++ stE tl D ac.toNat)))) gqn
theorem mc_104 {G : Nat → Nat → Option Nat} (hG : gg G) (F : fl_N) (X : xi_H) (hgi : gi F) (p n : Nat) (ac : Int) (D : List ad_T) (tl : List Int) (L0 : List (Nat × Nat)) (h_p : nm p 3) (hpp : p = 39 + 13 * ac.toNat) (hac : 0 ≤ ac ∧ ac ≤ 4) (hdi : di F n) (hn : ac.toNat < n ∧ n ≤ 5) (h40 : F 120 3 ≤ 40) (hD : dar F D) (hDl : ac.toNat < D.length) (hob : rep (F 107) (F 105 2) tl) (h1t : 0 < tl.length) (hcn : F 120 3 = (L0.length : Int)) (hst : sts F D L0) : fl_M xi_ms 104 4 94 [.ref 120, .int (Int32.ofInt ac), .ref 7, .ref 105] (fl_H sh_T G F ++ X) (pq_104 G F X p n ac D tl L0) := by
  intro fr lo hfr hlo
  show fl_R xi_ms 104 fr lo 0 [(0, .ref 120), (1, .int (Int32.ofInt ac)), (2, .ref 7), (3, .ref 105)] [] _ _
  have hob1 := hob.1
  have hb105 : 0 ≤ F 105 2 ∧ F 105 2 ≤ 6 := gi_g hgi rfl
  obtain ⟨d, hd⟩ : ∃ d, d = dat D ac.toNat := ⟨_, rfl⟩
  have had : acr F p d := by rw [hd, hpp]; exact hD _ _ (dat_get hDl)
  have hty1 := had.1.1
  have hbp : 0 ≤ F p 2 ∧ F p 2 ≤ 3 := by rw [hpp]; exact pm_b hgi (by omega)
  have hlw := cw_lit (M := d.1.length) (by have h9_ := (hdi ac.toNat hn.1).1; rw [← hpp] at h9_; exact h9_) had.2.1 (by omega)
  have hr_p := h_p.2.2
  refine ga_aload_n (v := .ref 7) hm_104 rfl rfl rfl ?_
  refine ga_getr (b := 18) hm_104 rfl sc_7 rfl ?_
  refine ga_iload_n (z := ac) hm_104 rfl rfl ?_
  obtain ⟨a1_, r2_, n3_, q4_⟩ := ra_18 (ac).toNat (by omega)
  refine fl_aald (z := ac) (q := a1_) hm_104 rfl sc_18 (hG _ _ _ sc_18) rfl (by omega) (by simp only [List.length_cons, List.length_nil]; omega) (by simp only [List.length_cons, List.length_nil]; omega) r2_ ?_
  have x5_ : p = a1_ := by omega
  subst x5_
  refine ga_astore (lv2 := [(4, .ref p), (0, .ref 120), (1, .int (Int32.ofInt ac)), (2, .ref 7), (3, .ref 105)]) hm_104 rfl (Nat.le_of_ble_eq_true rfl) rfl ?_
  refine fl_iconst hm_104 rfl ?_
  refine ga_istore (lv2 := [(5, .int (Int32.ofInt 1)), (4, .ref p), (0, .ref 120), (1, .int (Int32.ofInt ac)), (2, .ref 7), (3, .ref 105)]) hm_104 rfl (Nat.le_of_ble_eq_true rfl) rfl ?_
  refine fl_iconst hm_104 rfl ?_
  refine ga_istore (lv2 := [(6, .int (Int32.ofInt 0)), (5, .int (Int32.ofInt 1)), (4, .ref p), (0, .ref 120), (1, .int (Int32.ofInt ac)), (2, .ref 7), (3, .ref 105)]) hm_104 rfl (Nat.le_of_ble_eq_true rfl) rfl ?_
  have b9_ : 0 ≤ F p 2 ∧ F p 2 ≤ (3 : Int) := gi_g hgi h_p.2.1.1
  have L7_ : ∀ (n6_ : Nat) (k : Int) (wy : Int), (F p 2 - k : Int).toNat = n6_ → (0 ≤ k ∧ k ≤ F p 2) → (wy = ((tl.length ^ k.toNat : Nat) : Int)) → fl_R xi_ms 104 fr lo 14 [(6, .int (Int32.ofInt k)), (5, .int (Int32.ofInt wy)), (4, .ref p), (0, .ref 120), (1, .int (Int32.ofInt ac)), (2, .ref 7), (3, .ref 105)] [] (fl_H sh_T G F ++ X) (pq_104 G F X p n ac D tl L0) := by
    intro n6_
    induction n6_ using Nat.strongRecOn with
    | ind n6_ ih8_ =>
    intro k wy hn10_ hk hwy
    refine ga_iload (z := k) hm_104 rfl rfl ?_
    refine ga_aload (v := .ref p) hm_104 rfl rfl rfl ?_
    refine ga_geti (z := F p 2) hm_104 rfl h_p.1.1 rfl (rfl) ?_
    refine fl_icmp_ge (a := k) (b := F p 2) hm_104 rfl ⟨by omega, by omega⟩ ⟨by omega, by omega⟩ (fun h11_ => ?_) (fun h12_ => ?_)
    ·
      refine fl_iconst hm_104 rfl ?_
      refine ga_istore (lv2 := [(6, .int (Int32.ofInt 0)), (5, .int (Int32.ofInt wy)), (4, .ref p), (0, .ref 120), (1, .int (Int32.ofInt ac)), (2, .ref 7), (3, .ref 105)]) hm_104 rfl (Nat.le_of_ble_eq_true rfl) rfl ?_
      have L14_ : ∀ (n13_ : Nat) (w2 : Int) (F1 : fl_N), (wy - w2 : Int).toNat = n13_ → (gi F1) → (fs [(120, 120, 3, 3), (126, 330, 0, 100000)] F F1) → (0 ≤ w2 ∧ w2 ≤ wy) → (F1 120 3 ≤ 40) → (F1 120 3 = ((L0 ++ stL tl D ac.toNat w2.toNat).length : Int)) → (sts F1 D (L0 ++ stL tl D ac.toNat w2.toNat)) → fl_R xi_ms 104 fr lo 42 [(6, .int (Int32.ofInt w2)), (5, .int (Int32.ofInt wy)), (4, .ref p), (0, .ref 120), (1, .int (Int32.ofInt ac)), (2, .ref 7), (3, .ref 105)] [] (fl_H sh_T G F1 ++ X) (pq_104 G F X p n ac D tl L0) := by
        intro n13_
        induction n13_ using Nat.strongRecOn with
        | ind n13_ ih15_ =>
        intro w2 F1 hn16_ hg_F1 hf_F1 hw2 h41 hc1 hs1
        have g17_ : fs [(120, 120, 3, 3), (126, 330, 0, 100000)] F F1 := fs_tr fs_refl hf_F1 rfl
        have hwp := pw_le (n := tl.length) (k := k.toNat) (by omega) (by omega)
        refine ga_iload (z := w2) hm_104 rfl rfl ?_
        refine ga_iload (z := wy) hm_104 rfl rfl ?_
        refine fl_icmp_ge (a := w2) (b := wy) hm_104 rfl ⟨by omega, by omega⟩ ⟨by omega, by omega⟩ (fun h18_ => ?_) (fun h19_ => ?_)
        ·
          refine fl_iconst hm_104 rfl ?_
          refine gr_i (z := 1) hm_104 rfl rfl (ga_nb (by omega)) ?_
          have b20_ : 0 ≤ F1 120 3 ∧ F1 120 3 ≤ 41 := gi_g hg_F1 rfl
          exact Or.inr (⟨F1, rfl, hg_F1, g17_, rfl, (by omega), (by rw [stL_end hd.symm (by omega) (by omega) (by omega) (by rw [show k.toNat = d.1.length by omega] at hwy; omega)] at hc1; exact hc1), (by rw [stL_end hd.symm (by omega) (by omega) (by omega) (by rw [show k.toNat = d.1.length by omega] at hwy; omega)] at hs1; exact hs1)⟩)
        refine ga_aload_n (v := .ref 120) hm_104 rfl rfl rfl ?_
        refine ga_getr (b := 122) hm_104 rfl sc_120 rfl ?_
        refine ga_aload_n (v := .ref 120) hm_104 rfl rfl rfl ?_
        have b21_ : 0 ≤ F1 120 3 ∧ F1 120 3 ≤ 41 := gi_g hg_F1 rfl
        refine ga_geti (z := F1 120 3) hm_104 rfl sc_120 rfl (rfl) ?_
        obtain ⟨a22_, r23_, n24_, q25_⟩ := ra_122 (F1 120 3).toNat (by omega)
        refine fl_aald (z := F1 120 3) (q := a22_) hm_104 rfl sc_122 (hG _ _ _ sc_122) rfl (by omega) (by simp only [List.length_cons, List.length_nil]; omega) (by simp only [List.length_cons, List.length_nil]; omega) r23_ ?_
        refine ga_astore (lv2 := [(7, .ref a22_), (6, .int (Int32.ofInt w2)), (5, .int (Int32.ofInt wy)), (4, .ref p), (0, .ref 120), (1, .int (Int32.ofInt ac)), (2, .ref 7), (3, .ref 105)]) hm_104 rfl (Nat.le_of_ble_eq_true rfl) rfl ?_
        refine ga_aload (v := .ref a22_) hm_104 rfl rfl rfl ?_
        refine ga_iload_n (z := ac) hm_104 rfl rfl ?_
        refine ga_iload (z := w2) hm_104 rfl rfl ?_
        refine ga_aload (v := .ref p) hm_104 rfl rfl rfl ?_
        have e26_ : F1 p 2 = F p 2 := (hf_F1 p 2 (by first | exact fs_c rfl | exact (fs_n (by omega) (fs_n (by omega) rfl)))).trans (rfl)
        refine ga_geti (z := F p 2) hm_104 rfl h_p.1.1 rfl (e26_) ?_
        refine ga_aload_n (v := .ref 105) hm_104 rfl rfl rfl ?_
        have e27_ : F1 105 2 = F 105 2 := (hf_F1 105 2 rfl).trans (rfl)
        have b28_ : 0 ≤ F 105 2 ∧ F 105 2 ≤ 6 := gi_g hgi rfl
        refine ga_geti (z := F 105 2) hm_104 rfl sc_105 rfl (e27_) ?_
        refine gVv (nY := 8) (F := 1) (L := 23) (As := [.int (Int32.ofInt ac), .int (Int32.ofInt w2), .int (Int32.ofInt (F p 2)), .int (Int32.ofInt (F 105 2))]) (b := a22_) (rest := []) hm_104 rfl hm_145 rfl rfl (fl_ob n24_.1.1) rfl rfl rfl rfl rfl (by omega) (by omega) (mc_145 hG F1 X hg_F1 (a22_) (ac) (w2) (F p 2) (F 105 2) (tl.length) n24_ (⟨by omega, by omega⟩) (⟨by omega, by omega⟩) (⟨by omega, by omega⟩) (⟨by omega, by omega, by omega⟩)) (fun _ _ h => False.elim h) ?_
        rintro A1_ ⟨F32_, hA_, g33_, s34_, c30_, c31_⟩
        subst hA_
        have g35_ : fs [(120, 120, 3, 3), (126, 330, 0, 100000)] F F32_ := fs_tr g17_ s34_ (by simp [fs_le]; try omega)
        refine ga_aload (v := .ref a22_) hm_104 rfl rfl rfl ?_
        refine ga_aload (v := .ref p) hm_104 rfl rfl rfl ?_
        refine ga_aload_n (v := .ref 105) hm_104 rfl rfl rfl ?_
        refine gVi (nY := 4) (F := 1) (L := 22) (As := [.ref p, .ref 105]) (b := a22_) (rest := []) hm_104 rfl hm_146 rfl rfl (fl_ob n24_.1.1) rfl rfl rfl rfl rfl (by omega) (by omega) (mc_146 hG F32_ X g33_ (a22_) (p) (bx tl.length (F p 2).toNat w2.toNat) (d.1) (tl) n24_ h_p ((rep_fs (rep_fs had.1 hf_F1 (fun _ => (by first | exact fs_c rfl | exact (fs_n (by omega) (fs_n (by omega) rfl)))) (by first | exact fs_c rfl | exact (fs_n (by omega) (fs_n (by omega) rfl)))) s34_ (fun _ => (by first | exact fs_c rfl | exact (fs_n (by omega) (fs_n (by omega) rfl)))) (by first | exact fs_c rfl | exact (fs_n (by omega) (fs_n (by omega) rfl))))) ((rep_fs (rep_fs hob hf_F1 (fun _ => (by first | exact fs_c rfl | exact (fs_n (by omega) (fs_n (by omega) rfl)))) (by first | exact fs_c rfl | exact (fs_n (by omega) (fs_n (by omega) rfl)))) s34_ (fun _ => (by first | exact fs_c rfl | exact (fs_n (by omega) (fs_n (by omega) rfl)))) (by first | exact fs_c rfl | exact (fs_n (by omega) (fs_n (by omega) rfl))))) (fun j hj => ⟨c31_.1 j (by omega), gv_lt (by omega) (by omega) (by omega) (by omega)⟩)) (fun _ _ h => False.elim h) ?_
        rintro z36_ A1_ (⟨hA_, hz_, c37_⟩ | ⟨hA_, hz_, c38_⟩)
        ·
          subst hA_
          subst hz_
          refine fl_if_eq hm_104 rfl ⟨by omega, by omega⟩ (fun _ => ?_) (fun h => absurd (by omega) h)
          refine ga_aload_n (v := .ref 120) hm_104 rfl rfl rfl ?_
          have e39_ : F32_ 120 3 = F1 120 3 := (s34_ 120 3 (by first | exact fs_c rfl | exact (fs_n (by omega) (fs_n (by omega) rfl)))).trans (rfl)
          refine ga_geti (z := F1 120 3) hm_104 rfl sc_120 rfl (e39_) ?_
          refine fl_bipush hm_104 rfl rfl ?_
          refine fl_icmp_le (a := F1 120 3) (b := 40) hm_104 rfl ⟨by omega, by omega⟩ ⟨by omega, by omega⟩ (fun h40_ => ?_) (fun h41_ => ?_)
          ·
            refine ga_inc (a := w2) (c := w2 + 1) (lv2 := [(6, .int (Int32.ofInt (w2 + 1))), (7, .ref a22_), (5, .int (Int32.ofInt wy)), (4, .ref p), (0, .ref 120), (1, .int (Int32.ofInt ac)), (2, .ref 7), (3, .ref 105)]) hm_104 rfl rfl (Nat.le_of_ble_eq_true rfl) rfl rfl ?_
            refine fl_goto hm_104 rfl ?_
            exact fl_R_sub (lv' := [(6, .int (Int32.ofInt (w2 + 1))), (5, .int (Int32.ofInt wy)), (4, .ref p), (0, .ref 120), (1, .int (Int32.ofInt ac)), (2, .ref 7), (3, .ref 105)]) rfl rfl (ih15_ _ (by omega) (w2 + 1) F32_ rfl g33_ (fs_tr hf_F1 s34_ (by simp [fs_le]; try omega)) (⟨by omega, by omega⟩) (by omega) (by rw [show (w2 + 1).toNat = w2.toNat + 1 by omega]; rw [stL_n hd.symm ((show bx tl.length (F p 2).toNat w2.toNat = bx tl.length d.1.length w2.toNat by rw [show (F p 2).toNat = d.1.length by omega]) ▸ oks_f c37_)]; omega) (by rw [show (w2 + 1).toNat = w2.toNat + 1 by omega]; rw [stL_n hd.symm ((show bx tl.length (F p 2).toNat w2.toNat = bx tl.length d.1.length w2.toNat by rw [show (F p 2).toNat = d.1.length by omega]) ▸ oks_f c37_)]; exact (sts_cg hs1 (fun r j hr => (show F32_ (r) j = F1 (r) j from (s34_ (r) j (by first | exact fs_c rfl | exact (fs_n (by omega) (fs_n (by omega) rfl)))))) (fun j => (show F32_ 121 j = F1 121 j from (s34_ 121 j (by first | exact fs_c rfl | exact (fs_n (by omega) (fs_n (by omega) rfl)))))))))
          refine fl_iconst hm_104 rfl ?_
          refine gr_i (z := 0) hm_104 rfl rfl (ga_nb (by omega)) ?_
          exact Or.inl ⟨F32_, rfl, g33_, g35_, rfl, (by exfalso; omega)⟩
        subst hA_
        subst hz_
        refine fl_if_eq hm_104 rfl ⟨by omega, by omega⟩ (fun h => absurd h (by omega)) (fun _ => ?_)
        refine ga_aload_n (v := .ref 120) hm_104 rfl rfl rfl ?_
        refine ga_aload (v := .ref a22_) hm_104 rfl rfl rfl ?_
        refine ga_aload_n (v := .ref 7) hm_104 rfl rfl rfl ?_
        have e42_ : F32_ p 2 = F p 2 := (s34_ p 2 (by first | exact fs_c rfl | exact (fs_n (by omega) (fs_n (by omega) rfl)))).trans (e26_)
        refine gVi (nY := 3) (F := 3) (L := 72) (As := [.ref a22_, .ref 7]) (b := 120) (rest := []) hm_104 rfl hm_100 rfl rfl (fl_ob sc_120) rfl rfl rfl rfl rfl (by omega) (by omega) (mc_100 hG F32_ X g33_ (a22_) (n) (d) n24_ ((di_fs (di_fs hdi hf_F1 (by first | exact fs_rg rfl | exact fun r j hj => (fs_n (by omega) (fs_n (by omega) rfl)))) s34_ (by first | exact fs_rg rfl | exact fun r j hj => (fs_n (by omega) (fs_n (by omega) rfl))))) (⟨by omega, by omega⟩) (fun j hj => by have h9_ := c31_.1 j (by rw [show 39 + 13 * (F32_ a22_ 0).toNat = p by omega] at hj; omega); omega) (by rw [show 39 + 13 * (F32_ a22_ 0).toNat = p by omega]; exact (acr_fs (acr_fs had hf_F1 (by first | exact fs_rg rfl | exact fun r j hj => (fs_n (by omega) (fs_n (by omega) rfl)))) s34_ (by first | exact fs_rg rfl | exact fun r j hj => (fs_n (by omega) (fs_n (by omega) rfl)))))) (fun _ _ h => False.elim h) ?_
        rintro z43_ A1_ ⟨F51_, hA_, g52_, s53_, c44_, c45_, c46_, c47_, c48_, c49_, c50_⟩
        subst hA_
        have g54_ : fs [(120, 120, 3, 3), (126, 330, 0, 100000)] F F51_ := fs_tr g35_ s53_ (by simp [fs_le]; try omega)
        refine fl_if_eq (a := z43_) hm_104 rfl ⟨by omega, by omega⟩ (fun h55_ => ?_) (fun h56_ => ?_)
        ·
          refine ga_aload_n (v := .ref 120) hm_104 rfl rfl rfl ?_
          have e57_ : F32_ 120 3 = F1 120 3 := (s34_ 120 3 (by first | exact fs_c rfl | exact (fs_n (by omega) (fs_n (by omega) rfl)))).trans (rfl)
          have e58_ : F51_ 120 3 = F1 120 3 := (s53_ 120 3 (by first | exact fs_c rfl | exact (fs_n (by omega) (fs_n (by omega) (fs_n (by omega) (fs_n (by omega) (fs_n (by omega) rfl))))))).trans (e57_)
          refine ga_geti (z := F1 120 3) hm_104 rfl sc_120 rfl (e58_) ?_
          refine fl_bipush hm_104 rfl rfl ?_
          refine fl_icmp_le (a := F1 120 3) (b := 40) hm_104 rfl ⟨by omega, by omega⟩ ⟨by omega, by omega⟩ (fun h59_ => ?_) (fun h60_ => ?_)
          ·
            refine ga_inc (a := w2) (c := w2 + 1) (lv2 := [(6, .int (Int32.ofInt (w2 + 1))), (7, .ref a22_), (5, .int (Int32.ofInt wy)), (4, .ref p), (0, .ref 120), (1, .int (Int32.ofInt ac)), (2, .ref 7), (3, .ref 105)]) hm_104 rfl rfl (Nat.le_of_ble_eq_true rfl) rfl rfl ?_
            refine fl_goto hm_104 rfl ?_
            exact fl_R_sub (lv' := [(6, .int (Int32.ofInt (w2 + 1))), (5, .int (Int32.ofInt wy)), (4, .ref p), (0, .ref 120), (1, .int (Int32.ofInt ac)), (2, .ref 7), (3, .ref 105)]) rfl rfl (ih15_ _ (by omega) (w2 + 1) F51_ rfl g52_ (fs_tr (fs_tr hf_F1 s34_ (by simp [fs_le]; try omega)) s53_ (by simp [fs_le]; try omega)) (⟨by omega, by omega⟩) (by omega) (by rw [show (w2 + 1).toNat = w2.toNat + 1 by omega]; rw [stL_n hd.symm ((show bx tl.length (F p 2).toNat w2.toNat = bx tl.length d.1.length w2.toNat by rw [show (F p 2).toNat = d.1.length by omega]) ▸ oks_e c38_ hlw (fun j hj => Eq.trans (rfl) (c31_.1 j (by omega))) ((eq01 c44_).1 (by omega)))]; omega) (by rw [show (w2 + 1).toNat = w2.toNat + 1 by omega]; rw [stL_n hd.symm ((show bx tl.length (F p 2).toNat w2.toNat = bx tl.length d.1.length w2.toNat by rw [show (F p 2).toNat = d.1.length by omega]) ▸ oks_e c38_ hlw (fun j hj => Eq.trans (rfl) (c31_.1 j (by omega))) ((eq01 c44_).1 (by omega)))]; exact (sts_cg hs1 (fun r j hr => (Eq.trans (a := F51_ (r) j) (b := F32_ (r) j) (s53_ (r) j (by first | exact fs_c rfl | exact (fs_n (by omega) (fs_n (by omega) (fs_n (by omega) (fs_n (by omega) (fs_n (by omega) rfl))))))) (show F32_ (r) j = F1 (r) j from (s34_ (r) j (by first | exact fs_c rfl | exact (fs_n (by omega) (fs_n (by omega) rfl))))))) (fun j => (Eq.trans (a := F51_ 121 j) (b := F32_ 121 j) (s53_ 121 j (by first | exact fs_c rfl | exact (fs_n (by omega) (fs_n (by omega) (fs_n (by omega) (fs_n (by omega) (fs_n (by omega) rfl))))))) (show F32_ 121 j = F1 121 j from (s34_ 121 j (by first | exact fs_c rfl | exact (fs_n (by omega) (fs_n (by omega) rfl))))))))))
          refine fl_iconst hm_104 rfl ?_
          refine gr_i (z := 0) hm_104 rfl rfl (ga_nb (by omega)) ?_
          exact Or.inl ⟨F51_, rfl, g52_, g54_, rfl, (by exfalso; omega)⟩
        refine ga_aload_n (v := .ref 120) hm_104 rfl rfl rfl ?_
        refine ga_dup hm_104 rfl rfl ?_
        have e61_ : F32_ 120 3 = F1 120 3 := (s34_ 120 3 (by first | exact fs_c rfl | exact (fs_n (by omega) (fs_n (by omega) rfl)))).trans (rfl)
        have e62_ : F51_ 120 3 = F1 120 3 := (s53_ 120 3 (by first | exact fs_c rfl | exact (fs_n (by omega) (fs_n (by omega) (fs_n (by omega) (fs_n (by omega) (fs_n (by omega) rfl))))))).trans (e61_)
        refine ga_geti (z := F1 120 3) hm_104 rfl sc_120 rfl (e62_) ?_
        refine fl_iconst hm_104 rfl ?_
        refine ga_iadd (a := F1 120 3) (b := 1) (c := F1 120 3 + 1) hm_104 rfl (by omega) ?_
        refine ga_puti (z := F1 120 3 + 1) hm_104 rfl sc_120 rfl rfl ?_
        refine ga_aload_n (v := .ref 120) hm_104 rfl rfl rfl ?_
        refine ga_geti (z := F1 120 3 + 1) hm_104 rfl sc_120 rfl (fl_u_eq) ?_
        refine fl_bipush hm_104 rfl rfl ?_
        refine fl_icmp_le (a := F1 120 3 + 1) (b := 40) hm_104 rfl ⟨by omega, by omega⟩ ⟨by omega, by omega⟩ (fun h63_ => ?_) (fun h64_ => ?_)
        ·
          refine ga_inc (a := w2) (c := w2 + 1) (lv2 := [(6, .int (Int32.ofInt (w2 + 1))), (7, .ref a22_), (5, .int (Int32.ofInt wy)), (4, .ref p), (0, .ref 120), (1, .int (Int32.ofInt ac)), (2, .ref 7), (3, .ref 105)]) hm_104 rfl rfl (Nat.le_of_ble_eq_true rfl) rfl rfl ?_
          refine fl_goto hm_104 rfl ?_
          obtain ⟨F65_, q66_⟩ : ∃ Fq_, Fq_ = (fl_u F51_ 120 3 (F1 120 3 + 1)) := ⟨_, rfl⟩
          rw [← q66_]
          have g67_ : gi F65_ := by rw [q66_]; exact gi_u (g52_) rfl (by omega) (by omega)
          have g68_ : fs [(120, 120, 3, 3), (126, 330, 0, 100000)] F F65_ := by rw [q66_]; exact fs_u (g54_) rfl
          have e69_ : F65_ 120 3 = F1 120 3 + 1 := by rw [q66_]; exact fl_u_eq
          exact fl_R_sub (lv' := [(6, .int (Int32.ofInt (w2 + 1))), (5, .int (Int32.ofInt wy)), (4, .ref p), (0, .ref 120), (1, .int (Int32.ofInt ac)), (2, .ref 7), (3, .ref 105)]) rfl rfl (ih15_ _ (by omega) (w2 + 1) F65_ rfl g67_ (by rw [q66_]; exact fs_u ((fs_tr (fs_tr hf_F1 s34_ (by simp [fs_le]; try omega)) s53_ (by simp [fs_le]; try omega))) rfl) (⟨by omega, by omega⟩) (by omega) (by rw [show (w2 + 1).toNat = w2.toNat + 1 by omega]; rw [stL_y hd.symm ((show bx tl.length (F p 2).toNat w2.toNat = bx tl.length d.1.length w2.toNat by rw [show (F p 2).toNat = d.1.length by omega]) ▸ oks_e c38_ hlw (fun j hj => Eq.trans (rfl) (c31_.1 j (by omega))) ((eq01 c44_).2 (by omega))), ← List.append_assoc, List.length_append, List.length_singleton]; omega) (by rw [show (w2 + 1).toNat = w2.toNat + 1 by omega]; rw [stL_y hd.symm ((show bx tl.length (F p 2).toNat w2.toNat = bx tl.length d.1.length w2.toNat by rw [show (F p 2).toNat = d.1.length by omega]) ▸ oks_e c38_ hlw (fun j hj => Eq.trans (rfl) (c31_.1 j (by omega))) ((eq01 c44_).2 (by omega))), ← List.append_assoc]; exact sts_add (A := a22_) (sts_cg hs1 (fun r j hr => (Eq.trans (a := F65_ (r) j) (b := F51_ (r) j) (by rw [q66_]; exact (fl_u_ne (by first | exact nc_ rfl | decide | omega))) (Eq.trans (a := F51_ (r) j) (b := F32_ (r) j) (s53_ (r) j (by first | exact fs_c rfl | exact (fs_n (by omega) (fs_n (by omega) (fs_n (by omega) (fs_n (by omega) (fs_n (by omega) rfl))))))) (show F32_ (r) j = F1 (r) j from (s34_ (r) j (by first | exact fs_c rfl | exact (fs_n (by omega) (fs_n (by omega) rfl)))))))) (fun j => (Eq.trans (a := F65_ 121 j) (b := F51_ 121 j) (by rw [q66_]; exact (fl_u_ne (by first | exact nc_ rfl | decide | omega))) (Eq.trans (a := F51_ 121 j) (b := F32_ 121 j) (s53_ 121 j (by first | exact fs_c rfl | exact (fs_n (by omega) (fs_n (by omega) (fs_n (by omega) (fs_n (by omega) (fs_n (by omega) rfl))))))) (show F32_ 121 j = F1 121 j from (s34_ 121 j (by first | exact fs_c rfl | exact (fs_n (by omega) (fs_n (by omega) rfl))))))))) (by omega) (stc_mk (F2 := F32_) hd.symm (Eq.trans ((Eq.trans (a := F65_ (a22_) 0) (b := F51_ (a22_) 0) (by rw [q66_]; exact (fl_u_ne (by first | exact nc_ rfl | decide | omega))) (show F51_ (a22_) 0 = F32_ (a22_) 0 from (s53_ (a22_) 0 (by first | exact fs_c rfl | exact (fs_n (by omega) (fs_n (by omega) (fs_n (by omega) (fs_n (by omega) (fs_n (by omega) rfl)))))))))) (by have h9_ := c30_; omega)) (by have h9_ := c31_; rw [show (F p 2).toNat = d.1.length by omega] at h9_; exact h9_) (fun j => (Eq.trans (a := F65_ (a22_ + 1) j) (b := F51_ (a22_ + 1) j) (by rw [q66_]; exact (fl_u_ne (by first | exact nc_ rfl | decide | omega))) (show F51_ (a22_ + 1) j = F32_ (a22_ + 1) j from (s53_ (a22_ + 1) j (by first | exact fs_c rfl | exact (fs_n (by omega) (fs_n (by omega) (fs_n (by omega) (fs_n (by omega) (fs_n (by omega) rfl)))))))))) (fun j => (Eq.trans (a := F65_ 121 j) (b := F51_ 121 j) (by rw [q66_]; exact (fl_u_ne (by first | exact nc_ rfl | decide | omega))) (show F51_ 121 j = F32_ 121 j from (s53_ 121 j (by first | exact fs_c rfl | exact (fs_n (by omega) (fs_n (by omega) (fs_n (by omega) (fs_n (by omega) (fs_n (by omega) rfl)))))))))) (Eq.trans ((show F65_ (a22_) 2 = F51_ (a22_) 2 from (by rw [q66_]; exact (fl_u_ne (by first | exact nc_ rfl | decide | omega))))) c46_) (Eq.trans ((show F65_ (a22_ + 2) 0 = F51_ (a22_ + 2) 0 from (by rw [q66_]; exact (fl_u_ne (by first | exact nc_ rfl | decide | omega))))) c47_) (Eq.trans ((show F65_ (a22_ + 2) 1 = F51_ (a22_ + 2) 1 from (by rw [q66_]; exact (fl_u_ne (by first | exact nc_ rfl | decide | omega))))) c48_) (Eq.trans (Eq.trans ((show F65_ (a22_ + 2) 2 = F51_ (a22_ + 2) 2 from (by rw [q66_]; exact (fl_u_ne (by first | exact nc_ rfl | decide | omega))))) c45_) (by omega)) (Eq.trans ((show F65_ (a22_) 4 = F51_ (a22_) 4 from (by rw [q66_]; exact (fl_u_ne (by first | exact nc_ rfl | decide | omega))))) c49_) (Eq.trans ((show F65_ (a22_) 5 = F51_ (a22_) 5 from (by rw [q66_]; exact (fl_u_ne (by first | exact nc_ rfl | decide | omega))))) c50_))))
        refine fl_iconst hm_104 rfl ?_
        obtain ⟨F70_, q71_⟩ : ∃ Fq_, Fq_ = (fl_u F51_ 120 3 (F1 120 3 + 1)) := ⟨_, rfl⟩
        rw [← q71_]
        have g72_ : gi F70_ := by rw [q71_]; exact gi_u (g52_) rfl (by omega) (by omega)
        have g73_ : fs [(120, 120, 3, 3), (126, 330, 0, 100000)] F F70_ := by rw [q71_]; exact fs_u (g54_) rfl
        refine gr_i (z := 0) hm_104 rfl rfl (ga_nb (by omega)) ?_
        exact Or.inl ⟨F70_, rfl, g72_, g73_, rfl, (by have h9_ := stL_y hd.symm ((show bx tl.length (F p 2).toNat w2.toNat = bx tl.length d.1.length w2.toNat by rw [show (F p 2).toNat = d.1.length by omega]) ▸ oks_e c38_ hlw (fun j hj => Eq.trans (rfl) (c31_.1 j (by omega))) ((eq01 c44_).2 (by omega))); have h8_ := stL_le (tl := tl) (m := w2.toNat + 1) hd.symm (by omega) (by omega) (by omega) (by rw [show k.toNat = d.1.length by omega] at hwy; omega); rw [h9_] at h8_; simp only [List.length_append, List.length_singleton] at h8_ hc1 ⊢; omega)⟩
      have b74_ : 0 ≤ F 120 3 ∧ F 120 3 ≤ 41 := gi_g hgi rfl
      exact L14_ _ (0) F rfl hgi fs_refl (⟨by omega, by omega⟩) (by omega) (by simpa [stL, stK] using hcn) (by simpa [stL, stK] using hst)
    refine ga_iload (z := wy) hm_104 rfl rfl ?_
    refine ga_aload_n (v := .ref 105) hm_104 rfl rfl rfl ?_
    have b75_ : 0 ≤ F 105 2 ∧ F 105 2 ≤ 6 := gi_g hgi rfl
    refine ga_geti (z := F 105 2) hm_104 rfl sc_105 rfl (rfl) ?_
    refine ga_imul (a := wy) (b := F 105 2) (c := (wy * (F 105 2))) hm_104 rfl rfl ?_
    refine ga_istore (lv2 := [(5, .int (Int32.ofInt ((wy * (F 105 2))))), (6, .int (Int32.ofInt k)), (4, .ref p), (0, .ref 120), (1, .int (Int32.ofInt ac)), (2, .ref 7), (3, .ref 105)]) hm_104 rfl (Nat.le_of_ble_eq_true rfl) rfl ?_
    refine ga_inc (a := k) (c := k + 1) (lv2 := [(6, .int (Int32.ofInt (k + 1))), (5, .int (Int32.ofInt ((wy * (F 105 2))))), (4, .ref p), (0, .ref 120), (1, .int (Int32.ofInt ac)), (2, .ref 7), (3, .ref 105)]) hm_104 rfl rfl (Nat.le_of_ble_eq_true rfl) rfl rfl ?_
    refine fl_goto hm_104 rfl ?_
    exact ih8_ _ (by omega) (k + 1) ((wy * (F 105 2))) rfl (⟨by omega, by omega⟩) (pw_step hwy (by omega) (by omega))
  exact L7_ _ (0) (1) rfl (⟨by omega, by omega⟩) (by simp)
/- CheapPlanner$Ground.makeSteps -/
abbrev pq_103 (G : Nat → Nat → Option Nat) (F : fl_N) (X : xi_H) (D : List ad_T) (tl : List Int) : Outcome → xi_H → Prop := gqi (fun z A => (∃ F' : fl_N, fl_H sh_T G F' ++ X = A ∧ gi F' ∧ fs [(120, 120, 3, 3), (126, 330, 0, 100000)] F F' ∧ (z = 0) ∧ (40 < (stP tl D D.length).length)) ∨ (∃ F' : fl_N, fl_H sh_T G F' ++ X = A ∧ gi F' ∧ fs [(120, 120, 3, 3), (126, 330, 0, 100000)] F F' ∧ (z = 1) ∧ (F' 120 3 ≤ 40) ∧ (F' 120 3 = ((stP tl D D.length).length : Int)) ∧ (sts F' D (stP tl D D.length)))) gqn
theorem mc_103 {G : Nat → Nat → Option Nat} (hG : gg G) (F : fl_N) (X : xi_H) (hgi : gi F) (D : List ad_T) (tl : List Int) (hdi : di F (F 15 2).toNat) (hD : dar F D) (hDl : (D.length : Int) = F 15 2) (hob : rep (F 107) (F 105 2) tl) (h1t : 0 < tl.length) : fl_M xi_ms 103 5 121 [.ref 120, .ref 7, .ref 105] (fl_H sh_T G F ++ X) (pq_103 G F X D tl) := by
  intro fr lo hfr hlo
  show fl_R xi_ms 103 fr lo 0 [(0, .ref 120), (1, .ref 7), (2, .ref 105)] [] _ _
  have hb15 : 0 ≤ F 15 2 ∧ F 15 2 ≤ 5 := gi_g hgi rfl
  refine ga_aload_n (v := .ref 120) hm_103 rfl rfl rfl ?_
  refine fl_iconst hm_103 rfl ?_
  refine ga_puti (z := 0) hm_103 rfl sc_120 rfl rfl ?_
  refine fl_iconst hm_103 rfl ?_
  refine ga_istore_n (lv2 := [(3, .int (Int32.ofInt 0)), (0, .ref 120), (1, .ref 7), (2, .ref 105)]) hm_103 rfl (Nat.le_of_ble_eq_true rfl) rfl ?_
  obtain ⟨F1_, q2_⟩ : ∃ Fq_, Fq_ = (fl_u F 120 3 0) := ⟨_, rfl⟩
  rw [← q2_]
  have g3_ : gi F1_ := by rw [q2_]; exact gi_u (hgi) rfl (by omega) (by omega)
  have g4_ : fs [(120, 120, 3, 3), (126, 330, 0, 100000)] F F1_ := by rw [q2_]; exact fs_u (fs_refl) rfl
  have L6_ : ∀ (n5_ : Nat) (k : Int) (F1 : fl_N), (F 15 2 - k : Int).toNat = n5_ → (gi F1) → (fs [(120, 120, 3, 3), (126, 330, 0, 100000)] F1_ F1) → (0 ≤ k ∧ k ≤ F 15 2) → (F1 120 3 ≤ 40) → (F1 120 3 = ((stP tl D k.toNat).length : Int)) → (sts F1 D (stP tl D k.toNat)) → fl_R xi_ms 103 fr lo 7 [(3, .int (Int32.ofInt k)), (0, .ref 120), (1, .ref 7), (2, .ref 105)] [] (fl_H sh_T G F1 ++ X) (pq_103 G F X D tl) := by
    intro n5_
    induction n5_ using Nat.strongRecOn with
    | ind n5_ ih7_ =>
    intro k F1 hn8_ hg_F1 hf_F1 hk h41 hc1 hs1
    have g9_ : fs [(120, 120, 3, 3), (126, 330, 0, 100000)] F F1 := fs_tr g4_ hf_F1 rfl
    refine ga_iload_n (z := k) hm_103 rfl rfl ?_
    refine ga_aload_n (v := .ref 7) hm_103 rfl rfl rfl ?_
    refine ga_getr (b := 15) hm_103 rfl sc_7 rfl ?_
    have e10_ : F1_ 15 2 = F 15 2 := by rw [q2_]; exact fl_u_ne (by first | exact nc_ rfl | decide | omega)
    have e11_ : F1 15 2 = F 15 2 := (hf_F1 15 2 rfl).trans (e10_)
    have b12_ : 0 ≤ F 15 2 ∧ F 15 2 ≤ 5 := gi_g hgi rfl
    refine ga_geti (z := F 15 2) hm_103 rfl sc_15 rfl (e11_) ?_
    refine fl_icmp_ge (a := k) (b := F 15 2) hm_103 rfl ⟨by omega, by omega⟩ ⟨by omega, by omega⟩ (fun h13_ => ?_) (fun h14_ => ?_)
    ·
      refine fl_iconst hm_103 rfl ?_
      refine gr_i (z := 1) hm_103 rfl rfl (ga_nb (by omega)) ?_
      have b15_ : 0 ≤ F1 120 3 ∧ F1 120 3 ≤ 41 := gi_g hg_F1 rfl
      exact Or.inr (⟨F1, rfl, hg_F1, g9_, rfl, (by omega), (by rw [show k.toNat = D.length by omega] at hc1; exact hc1), (by rw [show k.toNat = D.length by omega] at hs1; exact hs1)⟩)
    refine ga_aload_n (v := .ref 120) hm_103 rfl rfl rfl ?_
    refine ga_iload_n (z := k) hm_103 rfl rfl ?_
    refine ga_aload_n (v := .ref 7) hm_103 rfl rfl rfl ?_
    refine ga_aload_n (v := .ref 105) hm_103 rfl rfl rfl ?_
    have b16_ : 0 ≤ F1 120 3 ∧ F1 120 3 ≤ 41 := gi_g hg_F1 rfl
    refine gVi (nY := 8) (F := 4) (L := 94) (As := [.int (Int32.ofInt k), .ref 7, .ref 105]) (b := 120) (rest := []) hm_103 rfl hm_104 rfl rfl (fl_ob sc_120) rfl rfl rfl rfl rfl (by omega) (by omega) (mc_104 hG F1 X hg_F1 ((39 + 13 * k.toNat)) ((F 15 2).toNat) (k) (D) (tl) ((stP tl D k.toNat)) (nm_ap (by omega)) (rfl) (⟨by omega, by omega⟩) ((di_fs (by rw [q2_]; exact (di_u hdi (by omega))) hf_F1 (by first | exact fs_rg rfl | exact fun r j hj => (fs_n (by omega) (fs_n (by omega) rfl))))) (⟨by omega, by omega⟩) (by omega) ((dar_fs (by rw [q2_]; exact (dar_u hD (by omega))) hf_F1 (by first | exact fs_rg rfl | exact fun r j hj => (fs_n (by omega) (fs_n (by omega) rfl))))) (by omega) ((rep_fs (by rw [q2_]; exact (rep_u hob (by omega) (by omega))) hf_F1 (fun _ => (by first | exact fs_c rfl | exact (fs_n (by omega) (fs_n (by omega) rfl)))) (by first | exact fs_c rfl | exact (fs_n (by omega) (fs_n (by omega) rfl))))) (h1t) (hc1) (hs1)) (fun _ _ h => False.elim h) ?_
    rintro z17_ A1_ (⟨F19_, hA_, g20_, s21_, hz_, c18_⟩ | ⟨F25_, hA_, g26_, s27_, hz_, c22_, c23_, c24_⟩)
    ·
      subst hA_
      subst hz_
      have g28_ : fs [(120, 120, 3, 3), (126, 330, 0, 100000)] F F19_ := fs_tr g9_ s21_ rfl
      refine fl_if_ne hm_103 rfl ⟨by omega, by omega⟩ (fun h => absurd h (by omega)) (fun _ => ?_)
      refine fl_iconst hm_103 rfl ?_
      refine gr_i (z := 0) hm_103 rfl rfl (ga_nb (by omega)) ?_
      exact Or.inl ⟨F19_, rfl, g20_, g28_, rfl, (by have h9_ := c18_; rw [← stP_s] at h9_; have h8_ := stP_le (tl := tl) (D := D) (show k.toNat + 1 ≤ D.length by omega); omega)⟩
    subst hA_
    subst hz_
    have g29_ : fs [(120, 120, 3, 3), (126, 330, 0, 100000)] F F25_ := fs_tr g9_ s27_ rfl
    refine fl_if_ne hm_103 rfl ⟨by omega, by omega⟩ (fun _ => ?_) (fun h => absurd (by omega) h)
    refine ga_inc (a := k) (c := k + 1) (lv2 := [(3, .int (Int32.ofInt (k + 1))), (0, .ref 120), (1, .ref 7), (2, .ref 105)]) hm_103 rfl rfl (Nat.le_of_ble_eq_true rfl) rfl rfl ?_
    refine fl_goto hm_103 rfl ?_
    have b30_ : 0 ≤ F25_ 120 3 ∧ F25_ 120 3 ≤ 41 := gi_g g26_ rfl
    exact ih7_ _ (by omega) (k + 1) F25_ rfl g26_ (fs_tr hf_F1 s27_ rfl) (⟨by omega, by omega⟩) (by omega) (by rw [show (k + 1).toNat = k.toNat + 1 by omega, stP_s]; exact c23_) (by rw [show (k + 1).toNat = k.toNat + 1 by omega, stP_s]; exact c24_)
  have b31_ : 0 ≤ F 15 2 ∧ F 15 2 ≤ 5 := gi_g hgi rfl
  have e32_ : F1_ 120 3 = 0 := by rw [q2_]; exact fl_u_eq
  exact L6_ _ (0) F1_ rfl g3_ fs_refl (⟨by omega, by omega⟩) (by omega) (by show _ = (([] : List (Nat × Nat)).length : Int); simp; omega) (sts_nil)
/- CheapPlanner$Ground.build -/
abbrev pq_101 (G : Nat → Nat → Option Nat) (F : fl_N) (X : xi_H) (pl tl : List Int) (ps : List (List Int)) (D : List ad_T) (Li Lg : List lt_T) : Outcome → xi_H → Prop := gqi (fun z A => (∃ F' : fl_N, fl_H sh_T G F' ++ X = A ∧ gi F' ∧ fs [(120, 120, 1, 1), (120, 120, 3, 4), (121, 121, 0, 100000), (123, 123, 0, 4), (124, 124, 0, 100000), (126, 330, 0, 100000)] F F' ∧ (z = 0) ∧ (40 < nfc ps tl 216 ∨ 40 < (stP tl D D.length).length)) ∨ (∃ F' : fl_N, fl_H sh_T G F' ++ X = A ∧ gi F' ∧ fs [(120, 120, 1, 1), (120, 120, 3, 4), (121, 121, 0, 100000), (123, 123, 0, 4), (124, 124, 0, 100000), (126, 330, 0, 100000)] F F' ∧ (z = 1) ∧ (F' 120 1 = (nfc ps tl 216 : Int) ∧ nfc ps tl 216 ≤ 40) ∧ (fnr F' 121 ps tl 216) ∧ (F' 120 3 = ((stP tl D D.length).length : Int) ∧ F' 120 3 ≤ 40) ∧ (sts F' D (stP tl D D.length)) ∧ (F' 120 4 = msk (F' 121) (F' 125) 0 Li) ∧ (F' 123 0 = msk (F' 121) (F' 125) 0 Lg ∧ F' 123 1 = msk (F' 121) (F' 125) 1 Lg ∧ F' 123 2 = (if eqh Lg (F' 125) = true then 1 else 0)))) gqn
theorem mc_101 {G : Nat → Nat → Option Nat} (hG : gg G) (F : fl_N) (X : xi_H) (hgi : gi F) (pl tl : List Int) (ps : List (List Int)) (D : List ad_T) (Li Lg : List lt_T) (hdi : di F (F 15 2).toNat) (hw8 : c68 F) (hw3 : c63 F) (hpl : rep (F 12) (F 11 2) pl) (hps : prd F ps) (hpn : pl.length = ps.length) (hD : dar F D) (hDl : (D.length : Int) = F 15 2) (hob : rep (F 107) (F 105 2) tl) (h1t : 0 < tl.length) (hci : clr F 108 Li) (hcg : clr F 113 Lg) (hin : ∀ x ∈ Li, ¬ x.1 = -1 ∧ x.2.1 = 0) : fl_M xi_ms 101 6 144 [.ref 120, .ref 7, .ref 104] (fl_H sh_T G F ++ X) (pq_101 G F X pl tl ps D Li Lg) := by
  intro fr lo hfr hlo
  show fl_R xi_ms 101 fr lo 0 [(0, .ref 120), (1, .ref 7), (2, .ref 104)] [] _ _
  have hb15 : 0 ≤ F 15 2 ∧ F 15 2 ≤ 5 := gi_g hgi rfl
  have hci1 := hci.1
  refine ga_aload_n (v := .ref 120) hm_101 rfl rfl rfl ?_
  refine ga_aload_n (v := .ref 7) hm_101 rfl rfl rfl ?_
  refine ga_aload_n (v := .ref 104) hm_101 rfl rfl rfl ?_
  refine ga_getr (b := 105) hm_101 rfl sc_104 rfl ?_
  refine gVi (nY := 4) (F := 2) (L := 50) (As := [.ref 7, .ref 105]) (b := 120) (rest := []) hm_101 rfl hm_105 rfl rfl (fl_ob sc_120) rfl rfl rfl rfl rfl (by omega) (by omega) (mc_105 hG F X hgi (pl) (tl) (ps) (hpl) (hps) (hpn) (hob)) (fun _ _ h => False.elim h) ?_
  rintro z1_ A1_ (⟨F3_, hA_, g4_, s5_, hz_, c2_⟩ | ⟨F8_, hA_, g9_, s10_, hz_, c6_, c7_⟩)
  ·
    subst hA_
    subst hz_
    have g11_ : fs [(120, 120, 1, 1), (120, 120, 3, 4), (121, 121, 0, 100000), (123, 123, 0, 4), (124, 124, 0, 100000), (126, 330, 0, 100000)] F F3_ := fs_tr fs_refl s5_ rfl
    refine fl_if_eq hm_101 rfl ⟨by omega, by omega⟩ (fun _ => ?_) (fun h => absurd (by omega) h)
    refine fl_iconst hm_101 rfl ?_
    refine gr_i (z := 0) hm_101 rfl rfl (ga_nb (by omega)) ?_
    exact Or.inl ⟨F3_, rfl, g4_, g11_, rfl, (Or.inl c2_)⟩
  subst hA_
  subst hz_
  have g12_ : fs [(120, 120, 1, 1), (120, 120, 3, 4), (121, 121, 0, 100000), (123, 123, 0, 4), (124, 124, 0, 100000), (126, 330, 0, 100000)] F F8_ := fs_tr fs_refl s10_ rfl
  refine fl_if_eq hm_101 rfl ⟨by omega, by omega⟩ (fun h => absurd h (by omega)) (fun _ => ?_)
  refine ga_aload_n (v := .ref 120) hm_101 rfl rfl rfl ?_
  refine ga_aload_n (v := .ref 7) hm_101 rfl rfl rfl ?_
  refine ga_aload_n (v := .ref 104) hm_101 rfl rfl rfl ?_
  refine ga_getr (b := 105) hm_101 rfl sc_104 rfl ?_
  have e13_ : F8_ 15 2 = F 15 2 := (s10_ 15 2 rfl).trans (rfl)
  refine gVi (nY := 4) (F := 5) (L := 121) (As := [.ref 7, .ref 105]) (b := 120) (rest := []) hm_101 rfl hm_103 rfl rfl (fl_ob sc_120) rfl rfl rfl rfl rfl (by omega) (by omega) (mc_103 hG F8_ X g9_ (D) (tl) (by rw [e13_]; exact (di_fs hdi s10_ (by first | exact fs_rg rfl | exact fun r j hj => (fs_n (by omega) (fs_n (by omega) rfl))))) ((dar_fs hD s10_ (by first | exact fs_rg rfl | exact fun r j hj => (fs_n (by omega) (fs_n (by omega) rfl))))) (Eq.trans hDl ((show F8_ 15 2 = F 15 2 from (s10_ 15 2 (by first | exact fs_c rfl | exact (fs_n (by omega) (fs_n (by omega) rfl)))))).symm) ((rep_fs hob s10_ (fun _ => (by first | exact fs_c rfl | exact (fs_n (by omega) (fs_n (by omega) rfl)))) (by first | exact fs_c rfl | exact (fs_n (by omega) (fs_n (by omega) rfl))))) (h1t)) (fun _ _ h => False.elim h) ?_
  rintro z14_ A1_ (⟨F16_, hA_, g17_, s18_, hz_, c15_⟩ | ⟨F22_, hA_, g23_, s24_, hz_, c19_, c20_, c21_⟩)
  ·
    subst hA_
    subst hz_
    have g25_ : fs [(120, 120, 1, 1), (120, 120, 3, 4), (121, 121, 0, 100000), (123, 123, 0, 4), (124, 124, 0, 100000), (126, 330, 0, 100000)] F F16_ := fs_tr g12_ s18_ rfl
    refine fl_if_ne hm_101 rfl ⟨by omega, by omega⟩ (fun h => absurd h (by omega)) (fun _ => ?_)
    refine fl_iconst hm_101 rfl ?_
    refine gr_i (z := 0) hm_101 rfl rfl (ga_nb (by omega)) ?_
    exact Or.inl ⟨F16_, rfl, g17_, g25_, rfl, (Or.inr c15_)⟩
  subst hA_
  subst hz_
  have g26_ : fs [(120, 120, 1, 1), (120, 120, 3, 4), (121, 121, 0, 100000), (123, 123, 0, 4), (124, 124, 0, 100000), (126, 330, 0, 100000)] F F22_ := fs_tr g12_ s24_ rfl
  refine fl_if_ne hm_101 rfl ⟨by omega, by omega⟩ (fun _ => ?_) (fun h => absurd (by omega) h)
  refine ga_aload_n (v := .ref 120) hm_101 rfl rfl rfl ?_
  refine ga_lconst (z := 0) hm_101 rfl rfl ?_
  refine ga_putl hm_101 rfl sc_120 rfl rfl ?_
  refine fl_iconst hm_101 rfl ?_
  refine ga_istore_n (lv2 := [(3, .int (Int32.ofInt 0)), (0, .ref 120), (1, .ref 7), (2, .ref 104)]) hm_101 rfl (Nat.le_of_ble_eq_true rfl) rfl ?_
  obtain ⟨F27_, q28_⟩ : ∃ Fq_, Fq_ = (fl_u F22_ 120 4 0) := ⟨_, rfl⟩
  rw [← q28_]
  have g29_ : gi F27_ := by rw [q28_]; exact gi_u (g23_) rfl (by omega) (by omega)
  have g30_ : fs [(120, 120, 1, 1), (120, 120, 3, 4), (121, 121, 0, 100000), (123, 123, 0, 4), (124, 124, 0, 100000), (126, 330, 0, 100000)] F F27_ := by rw [q28_]; exact fs_u (g26_) rfl
  have L32_ : ∀ (n31_ : Nat) (k : Int) (F1 : fl_N), (12 - k : Int).toNat = n31_ → (gi F1) → (fs [(120, 120, 4, 4)] F27_ F1) → (0 ≤ k ∧ k ≤ 12) → (k ≤ (Li.length : Int)) → (F1 121 = F27_ 121) → (F1 125 = F27_ 125) → (F1 120 4 = msk (F27_ 121) (F27_ 125) 0 (Li.take k.toNat)) → fl_R xi_ms 101 fr lo 33 [(3, .int (Int32.ofInt k)), (0, .ref 120), (1, .ref 7), (2, .ref 104)] [] (fl_H sh_T G F1 ++ X) (pq_101 G F X pl tl ps D Li Lg) := by
    intro n31_
    induction n31_ using Nat.strongRecOn with
    | ind n31_ ih33_ =>
    intro k F1 hn34_ hg_F1 hf_F1 hk hkL hf1_ hf2_ hb4
    have g35_ : fs [(120, 120, 1, 1), (120, 120, 3, 4), (121, 121, 0, 100000), (123, 123, 0, 4), (124, 124, 0, 100000), (126, 330, 0, 100000)] F F1 := fs_tr g30_ hf_F1 rfl
    refine ga_iload_n (z := k) hm_101 rfl rfl ?_
    refine ga_aload_n (v := .ref 104) hm_101 rfl rfl rfl ?_
    refine ga_getr (b := 108) hm_101 rfl sc_104 rfl ?_
    have e36_ : F8_ 108 4 = F 108 4 := (s10_ 108 4 rfl).trans (rfl)
    have e37_ : F22_ 108 4 = F 108 4 := (s24_ 108 4 rfl).trans (e36_)
    have e38_ : F27_ 108 4 = F 108 4 := by rw [q28_]; exact (fl_u_ne (by first | exact nc_ rfl | decide | omega)).trans (e37_)
    have e39_ : F1 108 4 = F 108 4 := (hf_F1 108 4 rfl).trans (e38_)
    have b40_ : 0 ≤ F 108 4 ∧ F 108 4 ≤ 12 := gi_g hgi rfl
    refine ga_geti (z := F 108 4) hm_101 rfl sc_108 rfl (e39_) ?_
    refine fl_icmp_ge (a := k) (b := F 108 4) hm_101 rfl ⟨by omega, by omega⟩ ⟨by omega, by omega⟩ (fun h41_ => ?_) (fun h42_ => ?_)
    ·
      refine ga_aload_n (v := .ref 120) hm_101 rfl rfl rfl ?_
      refine ga_getr (b := 123) hm_101 rfl sc_120 rfl ?_
      refine ga_aload_n (v := .ref 104) hm_101 rfl rfl rfl ?_
      refine ga_getr (b := 113) hm_101 rfl sc_104 rfl ?_
      refine ga_aload_n (v := .ref 120) hm_101 rfl rfl rfl ?_
      refine ga_getr (b := 125) hm_101 rfl sc_120 rfl ?_
      refine ga_aload_n (v := .ref 120) hm_101 rfl rfl rfl ?_
      refine gVv (nY := 6) (F := 2) (L := 47) (As := [.ref 113, .ref 125, .ref 120]) (b := 123) (rest := []) hm_101 rfl hm_112 rfl rfl (fl_ob sc_123) rfl rfl rfl rfl rfl (by omega) (by omega) (mc_112 hG F1 X hg_F1 (123) (113) (125) (6) (-1) (5) (6) (Lg) nd_123 cl_113 sc_125 (by omega) (Or.inr ⟨rfl, rfl⟩) ((cw_fs (by rw [q28_]; exact (cw_u (cw_fs (cw_fs hw3 s10_ (by first | exact fs_rg rfl | exact fun r j hj => (fs_n (by omega) (fs_n (by omega) rfl)))) s24_ (by first | exact fs_rg rfl | exact fun r j hj => (fs_n (by omega) (fs_n (by omega) rfl)))) (by omega))) hf_F1 (by first | exact fs_rg rfl | exact fun r j hj => (fs_n (by omega) rfl)))) (⟨by omega, by omega⟩) (fun j _ => gi_g (r := 125) (k := j) hg_F1 rfl) ((clr_fs (by rw [q28_]; exact (clr_u (clr_fs (clr_fs hcg s10_ (by first | exact fs_rg rfl | exact fun r j hj => (fs_n (by omega) (fs_n (by omega) rfl)))) s24_ (by first | exact fs_rg rfl | exact fun r j hj => (fs_n (by omega) (fs_n (by omega) rfl)))) (by omega))) hf_F1 (by first | exact fs_rg rfl | exact fun r j hj => (fs_n (by omega) rfl))))) (fun _ _ h => False.elim h) ?_
      rintro A1_ ⟨F47_, hA_, g48_, s49_, c44_, c45_, c46_⟩
      subst hA_
      have g50_ : fs [(120, 120, 1, 1), (120, 120, 3, 4), (121, 121, 0, 100000), (123, 123, 0, 4), (124, 124, 0, 100000), (126, 330, 0, 100000)] F F47_ := fs_tr g35_ s49_ rfl
      refine fl_iconst hm_101 rfl ?_
      refine gr_i (z := 1) hm_101 rfl rfl (ga_nb (by omega)) ?_
      have e51_ : F22_ 120 1 = F8_ 120 1 := (s24_ 120 1 rfl).trans (rfl)
      have e52_ : F27_ 120 1 = F8_ 120 1 := by rw [q28_]; exact (fl_u_ne (by first | exact nc_ rfl | decide | omega)).trans (e51_)
      have e53_ : F1 120 1 = F8_ 120 1 := (hf_F1 120 1 rfl).trans (e52_)
      have e54_ : F47_ 120 1 = F8_ 120 1 := (s49_ 120 1 rfl).trans (e53_)
      have b55_ : 0 ≤ F8_ 120 1 ∧ F8_ 120 1 ≤ 40 := gi_g g9_ rfl
      have e56_ : F27_ 120 3 = F22_ 120 3 := by rw [q28_]; exact fl_u_ne (by first | exact nc_ rfl | decide | omega)
      have e57_ : F1 120 3 = F22_ 120 3 := (hf_F1 120 3 rfl).trans (e56_)
      have e58_ : F47_ 120 3 = F22_ 120 3 := (s49_ 120 3 rfl).trans (e57_)
      have b59_ : 0 ≤ F22_ 120 3 ∧ F22_ 120 3 ≤ 41 := gi_g g23_ rfl
      have e60_ : F47_ 120 4 = F1 120 4 := (s49_ 120 4 rfl).trans (rfl)
      have b61_ : -9223372036854775808 ≤ F1 120 4 ∧ F1 120 4 ≤ 9223372036854775807 := gi_g hg_F1 rfl
      have b62_ : -9223372036854775808 ≤ F47_ 123 0 ∧ F47_ 123 0 ≤ 9223372036854775807 := gi_g g48_ rfl
      have b63_ : -9223372036854775808 ≤ F47_ 123 1 ∧ F47_ 123 1 ≤ 9223372036854775807 := gi_g g48_ rfl
      have b64_ : 0 ≤ F47_ 123 2 ∧ F47_ 123 2 ≤ 1 := gi_g g48_ rfl
      exact Or.inr (⟨F47_, rfl, g48_, g50_, rfl, (⟨Eq.trans ((Eq.trans (a := F47_ 120 1) (b := F1 120 1) (s49_ 120 1 (by first | exact fs_c rfl | exact (fs_n (by omega) (fs_n (by omega) (fs_n (by omega) rfl))))) (Eq.trans (a := F1 120 1) (b := F27_ 120 1) (hf_F1 120 1 (by first | exact fs_c rfl | exact (fs_n (by omega) rfl))) (Eq.trans (a := F27_ 120 1) (b := F22_ 120 1) (by rw [q28_]; exact (fl_u_ne (by first | exact nc_ rfl | decide | omega))) (show F22_ 120 1 = F8_ 120 1 from (s24_ 120 1 (by first | exact fs_c rfl | exact (fs_n (by omega) (fs_n (by omega) rfl))))))))) c6_, by have h9_ : 0 ≤ F8_ 120 1 ∧ F8_ 120 1 ≤ 40 := gi_g g9_ rfl; have h8_ := c6_; omega⟩), (fnr_cg c7_ (fun j => (Eq.trans (a := F47_ 121 j) (b := F1 121 j) (s49_ 121 j (by first | exact fs_c rfl | exact (fs_n (by omega) (fs_n (by omega) (fs_n (by omega) rfl))))) (Eq.trans (a := F1 121 j) (b := F27_ 121 j) (hf_F1 121 j (by first | exact fs_c rfl | exact (fs_n (by omega) rfl))) (Eq.trans (a := F27_ 121 j) (b := F22_ 121 j) (by rw [q28_]; exact (fl_u_ne (by first | exact nc_ rfl | decide | omega))) (show F22_ 121 j = F8_ 121 j from (s24_ 121 j (by first | exact fs_c rfl | exact (fs_n (by omega) (fs_n (by omega) rfl)))))))))), (⟨Eq.trans ((Eq.trans (a := F47_ 120 3) (b := F1 120 3) (s49_ 120 3 (by first | exact fs_c rfl | exact (fs_n (by omega) (fs_n (by omega) (fs_n (by omega) rfl))))) (Eq.trans (a := F1 120 3) (b := F27_ 120 3) (hf_F1 120 3 (by first | exact fs_c rfl | exact (fs_n (by omega) rfl))) (show F27_ 120 3 = F22_ 120 3 from (by rw [q28_]; exact (fl_u_ne (by first | exact nc_ rfl | decide | omega))))))) c20_, by rw [(Eq.trans (a := F47_ 120 3) (b := F1 120 3) (s49_ 120 3 (by first | exact fs_c rfl | exact (fs_n (by omega) (fs_n (by omega) (fs_n (by omega) rfl))))) (Eq.trans (a := F1 120 3) (b := F27_ 120 3) (hf_F1 120 3 (by first | exact fs_c rfl | exact (fs_n (by omega) rfl))) (show F27_ 120 3 = F22_ 120 3 from (by rw [q28_]; exact (fl_u_ne (by first | exact nc_ rfl | decide | omega))))))]; exact c19_⟩), (sts_cg c21_ (fun r j hr => (Eq.trans (a := F47_ (r) j) (b := F1 (r) j) (s49_ (r) j (by first | exact fs_c rfl | exact (fs_n (by omega) (fs_n (by omega) (fs_n (by omega) rfl))))) (Eq.trans (a := F1 (r) j) (b := F27_ (r) j) (hf_F1 (r) j (by first | exact fs_c rfl | exact (fs_n (by omega) rfl))) (show F27_ (r) j = F22_ (r) j from (by rw [q28_]; exact (fl_u_ne (by first | exact nc_ rfl | decide | omega))))))) (fun j => (Eq.trans (a := F47_ 121 j) (b := F1 121 j) (s49_ 121 j (by first | exact fs_c rfl | exact (fs_n (by omega) (fs_n (by omega) (fs_n (by omega) rfl))))) (Eq.trans (a := F1 121 j) (b := F27_ 121 j) (hf_F1 121 j (by first | exact fs_c rfl | exact (fs_n (by omega) rfl))) (show F27_ 121 j = F22_ 121 j from (by rw [q28_]; exact (fl_u_ne (by first | exact nc_ rfl | decide | omega)))))))), (by rw [(show F47_ 121 = F1 121 from funext (fun j => (show F47_ 121 j = F1 121 j from (s49_ 121 j (by first | exact fs_c rfl | exact (fs_n (by omega) (fs_n (by omega) (fs_n (by omega) rfl)))))))), (show F47_ 125 = F1 125 from funext (fun j => (show F47_ 125 j = F1 125 j from (s49_ 125 j (by first | exact fs_c rfl | exact (fs_n (by omega) (fs_n (by omega) (fs_n (by omega) rfl)))))))), hf1_, hf2_]; refine Eq.trans ((show F47_ 120 4 = F1 120 4 from (s49_ 120 4 (by first | exact fs_c rfl | exact (fs_n (by omega) (fs_n (by omega) (fs_n (by omega) rfl))))))) ?_; rw [show Li.take k.toNat = Li from List.take_of_length_le (by omega)] at hb4; exact hb4), (by rw [(show F47_ 121 = F1 121 from funext (fun j => (show F47_ 121 j = F1 121 j from (s49_ 121 j (by first | exact fs_c rfl | exact (fs_n (by omega) (fs_n (by omega) (fs_n (by omega) rfl)))))))), (show F47_ 125 = F1 125 from funext (fun j => (show F47_ 125 j = F1 125 j from (s49_ 125 j (by first | exact fs_c rfl | exact (fs_n (by omega) (fs_n (by omega) (fs_n (by omega) rfl))))))))]; exact ⟨c44_, c45_, c46_⟩)⟩)
    obtain ⟨x_, hx_⟩ := gtk (L := Li) (k := k.toNat) (by omega)
    have hxc_ := hci.2 k.toNat x_ hx_
    refine ga_aload_n (v := .ref 120) hm_101 rfl rfl rfl ?_
    refine ga_dup hm_101 rfl rfl ?_
    have b65_ : -9223372036854775808 ≤ F1 120 4 ∧ F1 120 4 ≤ 9223372036854775807 := gi_g hg_F1 rfl
    refine ga_getl (z := F1 120 4) hm_101 rfl sc_120 rfl (rfl) ?_
    refine ga_lconst (z := 1) hm_101 rfl rfl ?_
    refine ga_aload_n (v := .ref 120) hm_101 rfl rfl rfl ?_
    refine ga_aload_n (v := .ref 104) hm_101 rfl rfl rfl ?_
    refine ga_getr (b := 108) hm_101 rfl sc_104 rfl ?_
    refine ga_iload_n (z := k) hm_101 rfl rfl ?_
    refine ga_aload_n (v := .ref 120) hm_101 rfl rfl rfl ?_
    refine ga_getr (b := 125) hm_101 rfl sc_120 rfl ?_
    refine gVi (nY := 6) (F := 1) (L := 22) (As := [.ref 108, .int (Int32.ofInt k), .ref 125]) (b := 120) (rest := [.long (Int64.ofInt 1), .long (Int64.ofInt (F1 120 4)), .ref 120]) hm_101 rfl hm_102 rfl rfl (fl_ob sc_120) rfl rfl rfl rfl rfl (by omega) (by omega) (mc_102 hG F1 X hg_F1 (108) (12) (125) (6) (5) (0) (k) (6) (x_) cl_108 sc_125 (by omega) ((cw_fs (by rw [q28_]; exact (cw_u (cw_fs (cw_fs hw8 s10_ (by first | exact fs_rg rfl | exact fun r j hj => (fs_n (by omega) (fs_n (by omega) rfl)))) s24_ (by first | exact fs_rg rfl | exact fun r j hj => (fs_n (by omega) (fs_n (by omega) rfl)))) (by omega))) hf_F1 (by first | exact fs_rg rfl | exact fun r j hj => (fs_n (by omega) rfl)))) (⟨by omega, by omega⟩) (fun j _ => gi_g (r := 125) (k := j) hg_F1 rfl) (⟨by omega, by omega⟩) ((gi_g (r := 109) (k := k.toNat) hg_F1 rfl).1) (⟨Eq.trans ((Eq.trans (a := F1 109 k.toNat) (b := F27_ 109 k.toNat) (hf_F1 109 k.toNat (by first | exact fs_c rfl | exact (fs_n (by omega) rfl))) (Eq.trans (a := F27_ 109 k.toNat) (b := F22_ 109 k.toNat) (by rw [q28_]; exact (fl_u_ne (by first | exact nc_ rfl | decide | omega))) (Eq.trans (a := F22_ 109 k.toNat) (b := F8_ 109 k.toNat) (s24_ 109 k.toNat (by first | exact fs_c rfl | exact (fs_n (by omega) (fs_n (by omega) rfl)))) (show F8_ 109 k.toNat = F 109 k.toNat from (s10_ 109 k.toNat (by first | exact fs_c rfl | exact (fs_n (by omega) (fs_n (by omega) rfl))))))))) hxc_.1, Eq.trans ((Eq.trans (a := F1 111 k.toNat) (b := F27_ 111 k.toNat) (hf_F1 111 k.toNat (by first | exact fs_c rfl | exact (fs_n (by omega) rfl))) (Eq.trans (a := F27_ 111 k.toNat) (b := F22_ 111 k.toNat) (by rw [q28_]; exact (fl_u_ne (by first | exact nc_ rfl | decide | omega))) (Eq.trans (a := F22_ 111 k.toNat) (b := F8_ 111 k.toNat) (s24_ 111 k.toNat (by first | exact fs_c rfl | exact (fs_n (by omega) (fs_n (by omega) rfl)))) (show F8_ 111 k.toNat = F 111 k.toNat from (s10_ 111 k.toNat (by first | exact fs_c rfl | exact (fs_n (by omega) (fs_n (by omega) rfl))))))))) hxc_.2.2.1, Eq.trans ((Eq.trans (a := F1 112 k.toNat) (b := F27_ 112 k.toNat) (hf_F1 112 k.toNat (by first | exact fs_c rfl | exact (fs_n (by omega) rfl))) (Eq.trans (a := F27_ 112 k.toNat) (b := F22_ 112 k.toNat) (by rw [q28_]; exact (fl_u_ne (by first | exact nc_ rfl | decide | omega))) (Eq.trans (a := F22_ 112 k.toNat) (b := F8_ 112 k.toNat) (s24_ 112 k.toNat (by first | exact fs_c rfl | exact (fs_n (by omega) (fs_n (by omega) rfl)))) (show F8_ 112 k.toNat = F 112 k.toNat from (s10_ 112 k.toNat (by first | exact fs_c rfl | exact (fs_n (by omega) (fs_n (by omega) rfl))))))))) hxc_.2.2.2⟩)) (fun _ _ h => False.elim h) ?_
    rintro z66_ A1_ ⟨hA_, c67_, c68_⟩
    subst hA_
    refine ga_lx (z := (lsl 1 z66_)) hm_101 rfl rfl rfl (lsl_e _ _) (fun ⟨h69_, h70_⟩ => ?_)
    refine ga_lx (z := (lorr (F1 120 4) ((lsl 1 z66_)))) hm_101 rfl rfl rfl (lop_e 1 _ _) (fun ⟨h71_, h72_⟩ => ?_)
    refine ga_putl hm_101 rfl sc_120 rfl rfl ?_
    refine ga_inc (a := k) (c := k + 1) (lv2 := [(3, .int (Int32.ofInt (k + 1))), (0, .ref 120), (1, .ref 7), (2, .ref 104)]) hm_101 rfl rfl (Nat.le_of_ble_eq_true rfl) rfl rfl ?_
    refine fl_goto hm_101 rfl ?_
    obtain ⟨F73_, q74_⟩ : ∃ Fq_, Fq_ = (fl_u F1 120 4 ((lorr (F1 120 4) ((lsl 1 z66_))))) := ⟨_, rfl⟩
    rw [← q74_]
    have g75_ : gi F73_ := by rw [q74_]; exact gi_u (hg_F1) rfl (by omega) (by omega)
    have g76_ : fs [(120, 120, 1, 1), (120, 120, 3, 4), (121, 121, 0, 100000), (123, 123, 0, 4), (124, 124, 0, 100000), (126, 330, 0, 100000)] F F73_ := by rw [q74_]; exact fs_u (g35_) rfl
    have e77_ : F73_ 120 4 = (lorr (F1 120 4) ((lsl 1 z66_))) := by rw [q74_]; exact fl_u_eq
    exact ih33_ _ (by omega) (k + 1) F73_ rfl g75_ (by rw [q74_]; exact fs_u (hf_F1) rfl) (⟨by omega, by omega⟩) (by omega) (Eq.trans ((show F73_ 121 = F1 121 from funext (fun j => (show F73_ 121 j = F1 121 j from (by rw [q74_]; exact (fl_u_ne (by first | exact nc_ rfl | decide | omega))))))) hf1_) (Eq.trans ((show F73_ 125 = F1 125 from funext (fun j => (show F73_ 125 j = F1 125 j from (by rw [q74_]; exact (fl_u_ne (by first | exact nc_ rfl | decide | omega))))))) hf2_) (by rw [show (k + 1).toNat = k.toNat + 1 by omega]; rw [msk_s hx_, mk1_y (hin x_ (List.mem_of_getElem? hx_)).1 (hin x_ (List.mem_of_getElem? hx_)).2]; refine Eq.trans (e77_) ?_; rw [c68_, hf1_, hf2_, hb4])
  have e78_ : F27_ 120 4 = 0 := by rw [q28_]; exact fl_u_eq
  exact L32_ _ (0) F27_ rfl g29_ fs_refl (⟨by omega, by omega⟩) (by omega) (rfl) (rfl) (Eq.trans (e78_) rfl)

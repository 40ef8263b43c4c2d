/- CheapPlanner.tell -/
abbrev pq_83v (G : Nat → Nat → Option Nat) (F : fl_N) (X : xi_H) (c : Int) (L : List Int) : Outcome → xi_H → Prop := gqv (fun A => ∃ F' : fl_N, fl_H sh_T G F' ++ X = A ∧ gi F' ∧ fs [(0, 0, 12, 12), (343, 343, 0, 100000)] F F' ∧ (rep (F' 343) (F' 0 12) (L ++ [c]))) gqn
theorem mc_83v {G : Nat → Nat → Option Nat} (hG : gg G) (F : fl_N) (X : xi_H) (hgi : gi F) (c : Int) (L : List Int) (hc : 0 ≤ c ∧ c ≤ 65535) (htd : rep (F 343) (F 0 12) L) (hrm : (L.length : Int) < 6000) : fl_M xi_ms 83 0 0 [.ref 0, .int (Int32.ofInt c)] (fl_H sh_T G F ++ X) (pq_83v G F X c L) := by
  intro fr lo hfr hlo
  show fl_R xi_ms 83 fr lo 0 [(0, .ref 0), (1, .int (Int32.ofInt c))] [] _ _
  have htd1 := htd.1
  refine ga_aload_n (v := .ref 0) hm_83 rfl rfl rfl ?_
  have b1_ : 0 ≤ F 0 12 ∧ F 0 12 ≤ 6000 := gi_g hgi rfl
  refine ga_geti (z := F 0 12) hm_83 rfl sc_0 rfl (rfl) ?_
  refine ga_aload_n (v := .ref 0) hm_83 rfl rfl rfl ?_
  refine ga_getr (b := 343) hm_83 rfl sc_0 rfl ?_
  refine fl_alen hm_83 rfl ⟨_, fl_at sc_343⟩ rfl ?_
  refine fl_icmp_ge (a := F 0 12) (b := 6000) hm_83 rfl ⟨by omega, by omega⟩ ⟨by omega, by omega⟩ (fun h2_ => ?_) (fun h3_ => ?_)
  ·
    refine gr_v hm_83 rfl rfl ?_
    exact ⟨F, rfl, hgi, fs_refl, (by exfalso; omega)⟩
  refine ga_aload_n (v := .ref 0) hm_83 rfl rfl rfl ?_
  refine ga_getr (b := 343) hm_83 rfl sc_0 rfl ?_
  refine ga_aload_n (v := .ref 0) hm_83 rfl rfl rfl ?_
  refine ga_geti (z := F 0 12) hm_83 rfl sc_0 rfl (rfl) ?_
  refine ga_iload_n (z := c) hm_83 rfl rfl ?_
  refine fl_cast (z := F 0 12) (v := c) hm_83 rfl sc_343 (by omega) (by omega) (by omega) (ga_vc (by omega) (by omega)) ?_
  refine ga_aload_n (v := .ref 0) hm_83 rfl rfl rfl ?_
  refine ga_dup hm_83 rfl rfl ?_
  refine ga_geti (z := F 0 12) hm_83 rfl sc_0 rfl (fl_u_ne (by first | exact nc_ rfl | decide | omega)) ?_
  refine fl_iconst hm_83 rfl ?_
  refine ga_iadd (a := F 0 12) (b := 1) (c := F 0 12 + 1) hm_83 rfl (by omega) ?_
  refine ga_puti (z := F 0 12 + 1) hm_83 rfl sc_0 rfl rfl ?_
  obtain ⟨F4_, q5_⟩ : ∃ Fq_, Fq_ = (fl_u (fl_u F 343 (F 0 12).toNat c) 0 12 (F 0 12 + 1)) := ⟨_, rfl⟩
  rw [← q5_]
  have g6_ : gi F4_ := by rw [q5_]; exact gi_u (gi_u (hgi) rfl (by omega) (by omega)) rfl (by omega) (by omega)
  have g7_ : fs [(0, 0, 12, 12), (343, 343, 0, 100000)] F F4_ := by rw [q5_]; exact fs_u (fs_u (fs_refl) (fs_z (fs_y (by omega)))) rfl
  refine gr_v hm_83 rfl rfl ?_
  have e8_ : F4_ 0 12 = F 0 12 + 1 := by rw [q5_]; exact fl_u_eq
  have e9_ : F4_ 343 (F 0 12).toNat = c := by rw [q5_]; exact (fl_u_ne (by first | exact nc_ rfl | decide | omega)).trans (fl_u_eq)
  exact ⟨F4_, rfl, g6_, g7_, (rep_sn htd (e8_) (e9_) (fun j hj => (show F4_ 343 j = F 343 j from (by rw [q5_]; exact (fl_u_ne (by first | exact nc_ rfl | decide | omega)).trans ((fl_u_ne (by first | exact nc_ rfl | decide | omega)))))))⟩
/- CheapPlanner.tellName -/
abbrev pq_84v (G : Nat → Nat → Option Nat) (F : fl_N) (X : xi_H) (v : Int) (w L : List Int) : Outcome → xi_H → Prop := gqv (fun A => ∃ F' : fl_N, fl_H sh_T G F' ++ X = A ∧ gi F' ∧ fs [(0, 0, 12, 12), (343, 343, 0, 100000)] F F' ∧ (rep (F' 343) (F' 0 12) (L ++ w.reverse))) gqn
theorem mc_84v {G : Nat → Nat → Option Nat} (hG : gg G) (F : fl_N) (X : xi_H) (hgi : gi F) (v : Int) (w L : List Int) (hv : -9223372036854775808 ≤ v ∧ v ≤ 9223372036854775807) (hw : nm6 v w) (htd : rep (F 343) (F 0 12) L) (hrm : (L.length : Int) + 6 ≤ 6000) : fl_M xi_ms 84 1 21 [.ref 0, .long (Int64.ofInt v)] (fl_H sh_T G F ++ X) (pq_84v G F X v w L) := by
  intro fr lo hfr hlo
  show fl_R xi_ms 84 fr lo 0 [(0, .ref 0), (1, .long (Int64.ofInt v))] [] _ _
  refine fl_bipush hm_84 rfl rfl ?_
  refine ga_istore_n (lv2 := [(3, .int (Int32.ofInt 40)), (0, .ref 0), (1, .long (Int64.ofInt v))]) hm_84 rfl (Nat.le_of_ble_eq_true rfl) rfl ?_
  have L2_ : ∀ (n1_ : Nat) (sh : Int) (F1 : fl_N), (sh + 8 : Int).toNat = n1_ → (gi F1) → (fs [(0, 0, 12, 12), (343, 343, 0, 100000)] F F1) → (-8 ≤ sh ∧ sh ≤ 40) → (sh % 8 = 0) → (rep (F1 343) (F1 0 12) (L ++ (w.drop ((sh + 8) / 8).toNat).reverse)) → fl_R xi_ms 84 fr lo 3 [(3, .int (Int32.ofInt sh)), (0, .ref 0), (1, .long (Int64.ofInt v))] [] (fl_H sh_T G F1 ++ X) (pq_84v G F X v w L) := by
    intro n1_
    induction n1_ using Nat.strongRecOn with
    | ind n1_ ih3_ =>
    intro sh F1 hn4_ hg_F1 hf_F1 hs hs8 ht1
    have g5_ : fs [(0, 0, 12, 12), (343, 343, 0, 100000)] F F1 := fs_tr fs_refl hf_F1 rfl
    refine ga_iload_n (z := sh) hm_84 rfl rfl ?_
    refine fl_if_lt (a := sh) hm_84 rfl ⟨by omega, by omega⟩ (fun h6_ => ?_) (fun h7_ => ?_)
    ·
      refine gr_v hm_84 rfl rfl ?_
      have b8_ : 0 ≤ F1 0 12 ∧ F1 0 12 ≤ 6000 := gi_g hg_F1 rfl
      exact ⟨F1, rfl, hg_F1, g5_, (by have h9_ := ht1; rw [show ((sh + 8) / 8).toNat = 0 by omega] at h9_; exact h9_)⟩
    refine ga_lload_n (z := v) hm_84 rfl rfl ?_
    refine ga_iload_n (z := sh) hm_84 rfl rfl ?_
    refine ga_lx (z := (lus v sh)) hm_84 rfl rfl rfl (lop_e 4 _ _) (fun ⟨h9_, h10_⟩ => ?_)
    refine ga_l2i hm_84 rfl ?_
    refine fl_sipush hm_84 rfl rfl ?_
    refine ga_ix (z := (iam ((lus v sh)) 255)) hm_84 rfl rfl rfl (lop_e 6 _ _) (fun ⟨h11_, h12_⟩ => ?_)
    have b13_ := iam_b8 ((lus v sh))
    refine ga_istore (lv2 := [(4, .int (Int32.ofInt ((iam ((lus v sh)) 255)))), (3, .int (Int32.ofInt sh)), (0, .ref 0), (1, .long (Int64.ofInt v))]) hm_84 rfl (Nat.le_of_ble_eq_true rfl) rfl ?_
    refine ga_iload (z := (iam ((lus v sh)) 255)) hm_84 rfl rfl ?_
    refine fl_if_eq (a := (iam ((lus v sh)) 255)) hm_84 rfl ⟨by omega, by omega⟩ (fun h14_ => ?_) (fun h15_ => ?_)
    ·
      refine ga_inc (a := sh) (c := sh - 8) (lv2 := [(3, .int (Int32.ofInt (sh - 8))), (4, .int (Int32.ofInt ((iam ((lus v sh)) 255)))), (0, .ref 0), (1, .long (Int64.ofInt v))]) hm_84 rfl rfl (Nat.le_of_ble_eq_true rfl) (by omega) rfl ?_
      refine fl_goto hm_84 rfl ?_
      have b16_ : 0 ≤ F1 0 12 ∧ F1 0 12 ≤ 6000 := gi_g hg_F1 rfl
      exact fl_R_sub (lv' := [(3, .int (Int32.ofInt (sh - 8))), (0, .ref 0), (1, .long (Int64.ofInt v))]) rfl rfl (ih3_ _ (by omega) (sh - 8) F1 rfl hg_F1 hf_F1 (⟨by omega, by omega⟩) (by omega) (by rw [tn_n (L := L) hw (by omega) (by omega) hs8 (by omega)]; exact ht1))
    refine ga_aload_n (v := .ref 0) hm_84 rfl rfl rfl ?_
    refine ga_iload (z := (iam ((lus v sh)) 255)) hm_84 rfl rfl ?_
    refine ga_i2c hm_84 rfl (by omega) (by omega) ?_
    refine gVv (nY := 2) (F := 0) (L := 0) (As := [.int (Int32.ofInt ((iam ((lus v sh)) 255)))]) (b := 0) (rest := []) hm_84 rfl hm_83 rfl rfl (fl_ob sc_0) rfl rfl rfl rfl rfl (by omega) (by omega) (mc_83v hG F1 X hg_F1 ((iam ((lus v sh)) 255)) ((L ++ (w.drop ((sh + 8) / 8).toNat).reverse)) (⟨by omega, by omega⟩) (ht1) (tn_r (L := L) hw (by omega) (by omega) hs8 (by omega) hrm)) (fun _ _ h => False.elim h) ?_
    rintro A1_ ⟨F19_, hA_, g20_, s21_, c18_⟩
    subst hA_
    have g22_ : fs [(0, 0, 12, 12), (343, 343, 0, 100000)] F F19_ := fs_tr g5_ s21_ rfl
    refine ga_inc (a := sh) (c := sh - 8) (lv2 := [(3, .int (Int32.ofInt (sh - 8))), (4, .int (Int32.ofInt ((iam ((lus v sh)) 255)))), (0, .ref 0), (1, .long (Int64.ofInt v))]) hm_84 rfl rfl (Nat.le_of_ble_eq_true rfl) (by omega) rfl ?_
    refine fl_goto hm_84 rfl ?_
    have b23_ : 0 ≤ F19_ 0 12 ∧ F19_ 0 12 ≤ 6000 := gi_g g20_ rfl
    have b24_ : 0 ≤ F1 0 12 ∧ F1 0 12 ≤ 6000 := gi_g hg_F1 rfl
    exact fl_R_sub (lv' := [(3, .int (Int32.ofInt (sh - 8))), (0, .ref 0), (1, .long (Int64.ofInt v))]) rfl rfl (ih3_ _ (by omega) (sh - 8) F19_ rfl g20_ (fs_tr hf_F1 s21_ rfl) (⟨by omega, by omega⟩) (by omega) (by rw [tn_y (L := L) hw (by omega) (by omega) hs8 (by omega)]; exact c18_))
  have b25_ : 0 ≤ F 0 12 ∧ F 0 12 ≤ 6000 := gi_g hgi rfl
  exact L2_ _ (40) F rfl hgi fs_refl (⟨by omega, by omega⟩) (by omega) (by rw [List.drop_eq_nil_of_le (by have h9_ := hw.2.2; omega)]; show rep _ _ (L ++ []); rw [List.append_nil]; exact htd)
/- CheapPlanner.tellStep -/
abbrev pq_85v (G : Nat → Nat → Option Nat) (F : fl_N) (X : xi_H) (a : Nat) (L : List Int) : Outcome → xi_H → Prop := gqv (fun A => ∃ F' : fl_N, fl_H sh_T G F' ++ X = A ∧ gi F' ∧ fs [(0, 0, 12, 12), (343, 343, 0, 100000)] F F' ∧ (rep (F' 343) (F' 0 12) (L ++ sTx F a))) gqn
theorem mc_85v {G : Nat → Nat → Option Nat} (hG : gg G) (F : fl_N) (X : xi_H) (hgi : gi F) (a : Nat) (L : List Int) (h_a : sp a) (hnm : sNm F a) (htd : rep (F 343) (F 0 12) L) (hrm : (L.length : Int) + 30 ≤ 6000) : fl_M xi_ms 85 2 45 [.ref 0, .ref a] (fl_H sh_T G F ++ X) (pq_85v G F X a L) := by
  intro fr lo hfr hlo
  show fl_R xi_ms 85 fr lo 0 [(0, .ref 0), (1, .ref a)] [] _ _
  have hn0_ := nmx_e hnm.1
  have hl0_ := hn0_.1.2.2
  have hl3_ := fun k (hk : k ≤ 3) => sTp_le hnm k hk
  have hr_a := h_a.2.2
  refine ga_aload_n (v := .ref 0) hm_85 rfl rfl rfl ?_
  refine fl_bipush hm_85 rfl rfl ?_
  refine gVv (nY := 2) (F := 0) (L := 0) (As := [.int (Int32.ofInt 40)]) (b := 0) (rest := []) hm_85 rfl hm_83 rfl rfl (fl_ob sc_0) rfl rfl rfl rfl rfl (by omega) (by omega) (mc_83v hG F X hgi (40) (L) (⟨by omega, by omega⟩) (htd) (by omega)) (fun _ _ h => False.elim h) ?_
  rintro A1_ ⟨F3_, hA_, g4_, s5_, c2_⟩
  subst hA_
  have g6_ : fs [(0, 0, 12, 12), (343, 343, 0, 100000)] F F3_ := fs_tr fs_refl s5_ rfl
  refine ga_aload_n (v := .ref 0) hm_85 rfl rfl rfl ?_
  refine ga_aload_n (v := .ref 0) hm_85 rfl rfl rfl ?_
  refine ga_getr (b := 7) hm_85 rfl sc_0 rfl ?_
  refine ga_getr (b := 15) hm_85 rfl sc_7 rfl ?_
  refine ga_getr (b := 16) hm_85 rfl sc_15 rfl ?_
  refine ga_aload_n (v := .ref a) hm_85 rfl rfl rfl ?_
  have e7_ : F3_ a 0 = F a 0 := (s5_ a 0 (by first | exact fs_c rfl | exact (fs_n (by omega) (fs_n (by omega) rfl)))).trans (rfl)
  have b8_ : 0 ≤ F a 0 ∧ F a 0 ≤ 4 := gi_g hgi h_a.2.1.1
  refine ga_geti (z := F a 0) hm_85 rfl h_a.1.1 rfl (e7_) ?_
  have e9_ : F3_ 16 (F a 0).toNat = F 16 (F a 0).toNat := (s5_ 16 (F a 0).toNat (by first | exact fs_c rfl | exact (fs_n (by omega) (fs_n (by omega) rfl)))).trans (rfl)
  have b10_ : -9223372036854775808 ≤ F 16 (F a 0).toNat ∧ F 16 (F a 0).toNat ≤ 9223372036854775807 := gi_g hgi rfl
  refine ga_lald (z := F a 0) (w := F 16 (F a 0).toNat) hm_85 rfl sc_16 (by omega) (by omega) (by omega) (e9_) ?_
  refine gVv (nY := 5) (F := 1) (L := 21) (As := [.long (Int64.ofInt (F 16 (F a 0).toNat))]) (b := 0) (rest := []) hm_85 rfl hm_84 rfl rfl (fl_ob sc_0) rfl rfl rfl rfl rfl (by omega) (by omega) (mc_84v hG F3_ X g4_ (F 16 (F a 0).toNat) ((nmx (F 16 (F a 0).toNat))) ((L ++ [40])) (⟨by omega, by omega⟩) (hn0_.1) (c2_) (by rw [List.length_append]; show ((L.length + 1 : Nat) : Int) + 6 ≤ 6000; omega)) (fun _ _ h => False.elim h) ?_
  rintro A1_ ⟨F13_, hA_, g14_, s15_, c12_⟩
  subst hA_
  have g16_ : fs [(0, 0, 12, 12), (343, 343, 0, 100000)] F F13_ := fs_tr g6_ s15_ rfl
  refine fl_iconst hm_85 rfl ?_
  refine ga_istore_n (lv2 := [(2, .int (Int32.ofInt 0)), (0, .ref 0), (1, .ref a)]) hm_85 rfl (Nat.le_of_ble_eq_true rfl) rfl ?_
  have L18_ : ∀ (n17_ : Nat) (k : Int) (F1 : fl_N), (3 - k : Int).toNat = n17_ → (gi F1) → (fs [(0, 0, 12, 12), (343, 343, 0, 100000)] F13_ F1) → (0 ≤ k ∧ k ≤ 3) → (rep (F1 343) (F1 0 12) (L ++ sTp F a k.toNat)) → fl_R xi_ms 85 fr lo 27 [(2, .int (Int32.ofInt k)), (0, .ref 0), (1, .ref a)] [] (fl_H sh_T G F1 ++ X) (pq_85v G F X a L) := by
    intro n17_
    induction n17_ using Nat.strongRecOn with
    | ind n17_ ih19_ =>
    intro k F1 hn20_ hg_F1 hf_F1 hk ht1
    have g21_ : fs [(0, 0, 12, 12), (343, 343, 0, 100000)] F F1 := fs_tr g16_ hf_F1 rfl
    refine ga_iload_n (z := k) hm_85 rfl rfl ?_
    refine fl_iconst hm_85 rfl ?_
    refine fl_icmp_ge (a := k) (b := 3) hm_85 rfl ⟨by omega, by omega⟩ ⟨by omega, by omega⟩ (fun h22_ => ?_) (fun h23_ => ?_)
    ·
      refine ga_aload_n (v := .ref 0) hm_85 rfl rfl rfl ?_
      refine fl_bipush hm_85 rfl rfl ?_
      refine gVv (nY := 2) (F := 0) (L := 0) (As := [.int (Int32.ofInt 41)]) (b := 0) (rest := []) hm_85 rfl hm_83 rfl rfl (fl_ob sc_0) rfl rfl rfl rfl rfl (by omega) (by omega) (mc_83v hG F1 X hg_F1 (41) ((L ++ sTp F a 3)) (⟨by omega, by omega⟩) (by have h9_ := ht1; rw [show k.toNat = 3 by omega] at h9_; exact h9_) (by have h8_ := hl3_ 3 (by omega); rw [List.length_append]; omega)) (fun _ _ h => False.elim h) ?_
      rintro A1_ ⟨F26_, hA_, g27_, s28_, c25_⟩
      subst hA_
      have g29_ : fs [(0, 0, 12, 12), (343, 343, 0, 100000)] F F26_ := fs_tr g21_ s28_ rfl
      refine ga_aload_n (v := .ref 0) hm_85 rfl rfl rfl ?_
      refine fl_bipush hm_85 rfl rfl ?_
      refine gVv (nY := 2) (F := 0) (L := 0) (As := [.int (Int32.ofInt 10)]) (b := 0) (rest := []) hm_85 rfl hm_83 rfl rfl (fl_ob sc_0) rfl rfl rfl rfl rfl (by omega) (by omega) (mc_83v hG F26_ X g27_ (10) ((L ++ sTp F a 3 ++ [41])) (⟨by omega, by omega⟩) (c25_) (by have h8_ := hl3_ 3 (by omega); rw [List.length_append, List.length_append]; show ((L.length + (sTp F a 3).length + 1 : Nat) : Int) < 6000; omega)) (fun _ _ h => False.elim h) ?_
      rintro A1_ ⟨F32_, hA_, g33_, s34_, c31_⟩
      subst hA_
      have g35_ : fs [(0, 0, 12, 12), (343, 343, 0, 100000)] F F32_ := fs_tr g29_ s34_ rfl
      refine gr_v hm_85 rfl rfl ?_
      have b36_ : 0 ≤ F32_ 0 12 ∧ F32_ 0 12 ≤ 6000 := gi_g g33_ rfl
      exact ⟨F32_, rfl, g33_, g35_, (by have h9_ := c31_; unfold sTx; rw [← List.append_assoc]; rw [List.append_assoc _ [41] [10]] at h9_; exact h9_)⟩
    refine ga_aload_n (v := .ref a) hm_85 rfl rfl rfl ?_
    refine ga_getr (b := a + 1) hm_85 rfl h_a.1.1 rfl ?_
    refine ga_iload_n (z := k) hm_85 rfl rfl ?_
    have e37_ : F3_ (a + 1) k.toNat = F (a + 1) k.toNat := (s5_ (a + 1) k.toNat (by first | exact fs_c rfl | exact (fs_n (by omega) (fs_n (by omega) rfl)))).trans (rfl)
    have e38_ : F13_ (a + 1) k.toNat = F (a + 1) k.toNat := (s15_ (a + 1) k.toNat (by first | exact fs_c rfl | exact (fs_n (by omega) (fs_n (by omega) rfl)))).trans (e37_)
    have e39_ : F1 (a + 1) k.toNat = F (a + 1) k.toNat := (hf_F1 (a + 1) k.toNat (by first | exact fs_c rfl | exact (fs_n (by omega) (fs_n (by omega) rfl)))).trans (e38_)
    have b40_ : -1 ≤ F (a + 1) k.toNat ∧ F (a + 1) k.toNat ≤ 5 := gi_g hgi (gb_a h_a.2.1.2.1)
    refine ga_iald (z := k) (w := F (a + 1) k.toNat) hm_85 rfl h_a.1.2.1 (by omega) (by omega) (by omega) (e39_) ?_
    refine fl_if_lt (a := F (a + 1) k.toNat) hm_85 rfl ⟨by omega, by omega⟩ (fun h41_ => ?_) (fun h42_ => ?_)
    ·
      refine ga_inc (a := k) (c := k + 1) (lv2 := [(2, .int (Int32.ofInt (k + 1))), (0, .ref 0), (1, .ref a)]) hm_85 rfl rfl (Nat.le_of_ble_eq_true rfl) rfl rfl ?_
      refine fl_goto hm_85 rfl ?_
      have b43_ : 0 ≤ F1 0 12 ∧ F1 0 12 ≤ 6000 := gi_g hg_F1 rfl
      exact ih19_ _ (by omega) (k + 1) F1 rfl hg_F1 hf_F1 (⟨by omega, by omega⟩) (by rw [show (k + 1).toNat = k.toNat + 1 by omega, sTp_s, if_neg (by omega), List.append_nil]; exact ht1)
    refine ga_aload_n (v := .ref 0) hm_85 rfl rfl rfl ?_
    refine fl_bipush hm_85 rfl rfl ?_
    refine gVv (nY := 2) (F := 0) (L := 0) (As := [.int (Int32.ofInt 32)]) (b := 0) (rest := []) hm_85 rfl hm_83 rfl rfl (fl_ob sc_0) rfl rfl rfl rfl rfl (by omega) (by omega) (mc_83v hG F1 X hg_F1 (32) ((L ++ sTp F a k.toNat)) (⟨by omega, by omega⟩) (ht1) (by have h8_ := hl3_ k.toNat (by omega); rw [List.length_append]; omega)) (fun _ _ h => False.elim h) ?_
    rintro A1_ ⟨F46_, hA_, g47_, s48_, c45_⟩
    subst hA_
    have g49_ : fs [(0, 0, 12, 12), (343, 343, 0, 100000)] F F46_ := fs_tr g21_ s48_ rfl
    refine ga_aload_n (v := .ref 0) hm_85 rfl rfl rfl ?_
    refine ga_aload_n (v := .ref 0) hm_85 rfl rfl rfl ?_
    refine ga_getr (b := 104) hm_85 rfl sc_0 rfl ?_
    refine ga_getr (b := 105) hm_85 rfl sc_104 rfl ?_
    refine ga_getr (b := 106) hm_85 rfl sc_105 rfl ?_
    refine ga_aload_n (v := .ref a) hm_85 rfl rfl rfl ?_
    refine ga_getr (b := a + 1) hm_85 rfl h_a.1.1 rfl ?_
    refine ga_iload_n (z := k) hm_85 rfl rfl ?_
    have e50_ : F46_ (a + 1) k.toNat = F (a + 1) k.toNat := (s48_ (a + 1) k.toNat (by first | exact fs_c rfl | exact (fs_n (by omega) (fs_n (by omega) rfl)))).trans (e39_)
    refine ga_iald (z := k) (w := F (a + 1) k.toNat) hm_85 rfl h_a.1.2.1 (by omega) (by omega) (by omega) (e50_) ?_
    have e51_ : F3_ 106 (F (a + 1) k.toNat).toNat = F 106 (F (a + 1) k.toNat).toNat := (s5_ 106 (F (a + 1) k.toNat).toNat (by first | exact fs_c rfl | exact (fs_n (by omega) (fs_n (by omega) rfl)))).trans (rfl)
    have e52_ : F13_ 106 (F (a + 1) k.toNat).toNat = F 106 (F (a + 1) k.toNat).toNat := (s15_ 106 (F (a + 1) k.toNat).toNat (by first | exact fs_c rfl | exact (fs_n (by omega) (fs_n (by omega) rfl)))).trans (e51_)
    have e53_ : F1 106 (F (a + 1) k.toNat).toNat = F 106 (F (a + 1) k.toNat).toNat := (hf_F1 106 (F (a + 1) k.toNat).toNat (by first | exact fs_c rfl | exact (fs_n (by omega) (fs_n (by omega) rfl)))).trans (e52_)
    have e54_ : F46_ 106 (F (a + 1) k.toNat).toNat = F 106 (F (a + 1) k.toNat).toNat := (s48_ 106 (F (a + 1) k.toNat).toNat (by first | exact fs_c rfl | exact (fs_n (by omega) (fs_n (by omega) rfl)))).trans (e53_)
    have b55_ : -9223372036854775808 ≤ F 106 (F (a + 1) k.toNat).toNat ∧ F 106 (F (a + 1) k.toNat).toNat ≤ 9223372036854775807 := gi_g hgi rfl
    refine ga_lald (z := F (a + 1) k.toNat) (w := F 106 (F (a + 1) k.toNat).toNat) hm_85 rfl sc_106 (by omega) (by omega) (by omega) (e54_) ?_
    refine gVv (nY := 5) (F := 1) (L := 21) (As := [.long (Int64.ofInt (F 106 (F (a + 1) k.toNat).toNat))]) (b := 0) (rest := []) hm_85 rfl hm_84 rfl rfl (fl_ob sc_0) rfl rfl rfl rfl rfl (by omega) (by omega) (mc_84v hG F46_ X g47_ (F 106 (F (a + 1) k.toNat).toNat) ((nmx (F 106 (F (a + 1) k.toNat).toNat))) (((L ++ sTp F a k.toNat) ++ [32])) (⟨by omega, by omega⟩) ((nmx_e (hnm.2 k.toNat (by omega) (by omega))).1) (c45_) (by have h8_ := hl3_ k.toNat (by omega); rw [List.length_append, List.length_append]; show ((L.length + (sTp F a k.toNat).length + 1 : Nat) : Int) + 6 ≤ 6000; omega)) (fun _ _ h => False.elim h) ?_
    rintro A1_ ⟨F58_, hA_, g59_, s60_, c57_⟩
    subst hA_
    have g61_ : fs [(0, 0, 12, 12), (343, 343, 0, 100000)] F F58_ := fs_tr g49_ s60_ rfl
    refine ga_inc (a := k) (c := k + 1) (lv2 := [(2, .int (Int32.ofInt (k + 1))), (0, .ref 0), (1, .ref a)]) hm_85 rfl rfl (Nat.le_of_ble_eq_true rfl) rfl rfl ?_
    refine fl_goto hm_85 rfl ?_
    have b62_ : 0 ≤ F58_ 0 12 ∧ F58_ 0 12 ≤ 6000 := gi_g g59_ rfl
    have b63_ : 0 ≤ F1 0 12 ∧ F1 0 12 ≤ 6000 := gi_g hg_F1 rfl
    exact ih19_ _ (by omega) (k + 1) F58_ rfl g59_ (fs_tr (fs_tr hf_F1 s48_ rfl) s60_ rfl) (⟨by omega, by omega⟩) (by have h9_ := c57_; rw [show (k + 1).toNat = k.toNat + 1 by omega, sTp_s, if_pos (by omega), ← List.append_assoc]; rw [List.append_assoc _ [32] _] at h9_; exact h9_)
  have b64_ : 0 ≤ F13_ 0 12 ∧ F13_ 0 12 ≤ 6000 := gi_g g14_ rfl
  exact L18_ _ (0) F13_ rfl g14_ fs_refl (⟨by omega, by omega⟩) (by have h9_ := c12_; rw [List.append_assoc] at h9_; show rep _ _ (L ++ sTp F a 0); unfold sTp; rw [show (List.range 0).flatMap _ = ([] : List Int) from rfl, List.append_nil]; exact h9_)
/- CheapPlannerModel.tell -/
abbrev pq_190v (G : Nat → Nat → Option Nat) (F : fl_N) (X : xi_H) (c i : Int) (L : List Int) : Outcome → xi_H → Prop := gqv (fun A => ∃ F' : fl_N, fl_H sh_T G F' ++ X = A ∧ gi F' ∧ fs [(344, 344, 67, 67), (344, 344, 69, 69)] F F' ∧ (0 ≤ F' 344 69 ∧ F' 344 69 ≤ 65535) ∧ (tdr F' i (L ++ [c]))) gqn
theorem mc_190v {G : Nat → Nat → Option Nat} (hG : gg G) (F : fl_N) (X : xi_H) (hgi : gi F) (c i : Int) (L : List Int) (hc : 0 ≤ c ∧ c ≤ 65535) (hfo : 0 ≤ F 344 69 ∧ F 344 69 ≤ 65535) (htd : tdr F i L) (hL : (L.length : Int) ≤ 100000) : fl_M xi_ms 190 0 0 [.ref 344, .int (Int32.ofInt c)] (fl_H sh_T G F ++ X) (pq_190v G F X c i L) := by
  intro fr lo hfr hlo
  show fl_R xi_ms 190 fr lo 0 [(0, .ref 344), (1, .int (Int32.ofInt c))] [] _ _
  have htd1 := htd.1
  have htd2 := htd.2.1
  refine ga_aload_n (v := .ref 344) hm_190 rfl rfl rfl ?_
  have b1_ : -2147483648 ≤ F 344 67 ∧ F 344 67 ≤ 2147483647 := gi_g hgi rfl
  refine ga_geti (z := F 344 67) hm_190 rfl sc_344 rfl (rfl) ?_
  refine ga_aload_n (v := .ref 344) hm_190 rfl rfl rfl ?_
  have b2_ : -2147483648 ≤ F 344 68 ∧ F 344 68 ≤ 2147483647 := gi_g hgi rfl
  refine ga_geti (z := F 344 68) hm_190 rfl sc_344 rfl (rfl) ?_
  refine fx_icmp_ne (a := F 344 67) (b := F 344 68) hm_190 rfl ⟨by omega, by omega⟩ ⟨by omega, by omega⟩ (fun h3_ => ?_) (fun h4_ => ?_)
  ·
    refine ga_aload_n (v := .ref 344) hm_190 rfl rfl rfl ?_
    refine ga_dup hm_190 rfl rfl ?_
    refine ga_geti (z := F 344 67) hm_190 rfl sc_344 rfl (rfl) ?_
    refine fl_iconst hm_190 rfl ?_
    refine ga_iadd (a := F 344 67) (b := 1) (c := F 344 67 + 1) hm_190 rfl (by omega) ?_
    refine ga_puti (z := F 344 67 + 1) hm_190 rfl sc_344 rfl rfl ?_
    obtain ⟨F5_, q6_⟩ : ∃ Fq_, Fq_ = (fl_u F 344 67 (F 344 67 + 1)) := ⟨_, rfl⟩
    rw [← q6_]
    have g7_ : gi F5_ := by rw [q6_]; exact gi_u (hgi) rfl (by omega) (by omega)
    have g8_ : fs [(344, 344, 67, 67), (344, 344, 69, 69)] F F5_ := by rw [q6_]; exact fs_u (fs_refl) rfl
    refine gr_v hm_190 rfl rfl ?_
    have e9_ : F5_ 344 69 = F 344 69 := by rw [q6_]; exact fl_u_ne (by first | exact nc_ rfl | decide | omega)
    have b10_ : -2147483648 ≤ F 344 69 ∧ F 344 69 ≤ 2147483647 := gi_g hgi rfl
    have e11_ : F5_ 344 67 = F 344 67 + 1 := by rw [q6_]; exact fl_u_eq
    have e12_ : F5_ 344 68 = F 344 68 := by rw [q6_]; exact fl_u_ne (by first | exact nc_ rfl | decide | omega)
    exact ⟨F5_, rfl, g7_, g8_, (⟨by omega, by omega⟩), (tdr_sn htd (by omega) ((show F5_ 344 68 = F 344 68 from (by rw [q6_]; exact (fl_u_ne (by first | exact nc_ rfl | decide | omega))))) (by first | exact Or.inl ⟨by omega, by omega⟩ | exact Or.inr ⟨by omega, by omega⟩))⟩
  refine ga_aload_n (v := .ref 344) hm_190 rfl rfl rfl ?_
  refine ga_iload_n (z := c) hm_190 rfl rfl ?_
  refine ga_puti (z := c) hm_190 rfl sc_344 rfl rfl ?_
  refine ga_aload_n (v := .ref 344) hm_190 rfl rfl rfl ?_
  refine ga_dup hm_190 rfl rfl ?_
  refine ga_geti (z := F 344 67) hm_190 rfl sc_344 rfl (fl_u_ne (by first | exact nc_ rfl | decide | omega)) ?_
  refine fl_iconst hm_190 rfl ?_
  refine ga_iadd (a := F 344 67) (b := 1) (c := F 344 67 + 1) hm_190 rfl (by omega) ?_
  refine ga_puti (z := F 344 67 + 1) hm_190 rfl sc_344 rfl rfl ?_
  obtain ⟨F13_, q14_⟩ : ∃ Fq_, Fq_ = (fl_u (fl_u F 344 69 c) 344 67 (F 344 67 + 1)) := ⟨_, rfl⟩
  rw [← q14_]
  have g15_ : gi F13_ := by rw [q14_]; exact gi_u (gi_u (hgi) rfl (by omega) (by omega)) rfl (by omega) (by omega)
  have g16_ : fs [(344, 344, 67, 67), (344, 344, 69, 69)] F F13_ := by rw [q14_]; exact fs_u (fs_u (fs_refl) rfl) rfl
  refine gr_v hm_190 rfl rfl ?_
  have e17_ : F13_ 344 69 = c := by rw [q14_]; exact (fl_u_ne (by first | exact nc_ rfl | decide | omega)).trans (fl_u_eq)
  have e18_ : F13_ 344 67 = F 344 67 + 1 := by rw [q14_]; exact fl_u_eq
  have e19_ : F13_ 344 68 = F 344 68 := by rw [q14_]; exact (fl_u_ne (by first | exact nc_ rfl | decide | omega)).trans (fl_u_ne (by first | exact nc_ rfl | decide | omega))
  exact ⟨F13_, rfl, g15_, g16_, (⟨by omega, by omega⟩), (tdr_sn htd (by omega) ((show F13_ 344 68 = F 344 68 from (by rw [q14_]; exact (fl_u_ne (by first | exact nc_ rfl | decide | omega)).trans ((fl_u_ne (by first | exact nc_ rfl | decide | omega)))))) (by first | exact Or.inl ⟨by omega, by omega⟩ | exact Or.inr ⟨by omega, by omega⟩))⟩
/- CheapPlannerModel.tellName -/
abbrev pq_191v (G : Nat → Nat → Option Nat) (F : fl_N) (X : xi_H) (v i : Int) (w L : List Int) : Outcome → xi_H → Prop := gqv (fun A => ∃ F' : fl_N, fl_H sh_T G F' ++ X = A ∧ gi F' ∧ fs [(344, 344, 67, 67), (344, 344, 69, 69)] F F' ∧ (0 ≤ F' 344 69 ∧ F' 344 69 ≤ 65535) ∧ (tdr F' i (L ++ w.reverse))) gqn
theorem mc_191v {G : Nat → Nat → Option Nat} (hG : gg G) (F : fl_N) (X : xi_H) (hgi : gi F) (v i : Int) (w L : List Int) (hv : 0 ≤ v ∧ v ≤ 2565726408) (hfo : 0 ≤ F 344 69 ∧ F 344 69 ≤ 65535) (hw : nm37 v w) (htd : tdr F i L) (hL : (L.length : Int) ≤ 90000) : fl_M xi_ms 191 1 21 [.ref 344, .long (Int64.ofInt v)] (fl_H sh_T G F ++ X) (pq_191v G F X v i w L) := by
  intro fr lo hfr hlo
  show fl_R xi_ms 191 fr lo 0 [(0, .ref 344), (1, .long (Int64.ofInt v))] [] _ _
  refine ga_lconst (z := 1) hm_191 rfl rfl ?_
  refine ga_lstore_n (lv2 := [(3, .long (Int64.ofInt 1)), (0, .ref 344), (1, .long (Int64.ofInt v))]) hm_191 rfl (Nat.le_of_ble_eq_true rfl) rfl ?_
  have L2_ : ∀ (n1_ : Nat) (un : Int), (v - un : Int).toNat = n1_ → (1 ≤ un ∧ un ≤ 2565726408) → (∃ m : Nat, m < w.length ∧ un = 37 ^ m) → fl_R xi_ms 191 fr lo 2 [(3, .long (Int64.ofInt un)), (0, .ref 344), (1, .long (Int64.ofInt v))] [] (fl_H sh_T G F ++ X) (pq_191v G F X v i w L) := by
    intro n1_
    induction n1_ using Nat.strongRecOn with
    | ind n1_ ih3_ =>
    intro un hn4_ hu hum
    refine ga_lload_n (z := v) hm_191 rfl rfl ?_
    refine ga_lload_n (z := un) hm_191 rfl rfl ?_
    refine ga_ldiv (a := v) (b := un) hm_191 rfl (by omega) (by omega) (by omega) (by omega) ?_
    have b5_ : 0 ≤ v / un ∧ v / un ≤ v := ⟨Int.ediv_nonneg (by omega) (by omega), Int.ediv_le_self _ (by omega)⟩
    refine ga_ldcl (z := 37) hm_191 rfl (by decide) ?_
    refine ga_lcmp (a := (v / un)) (b := 37) hm_191 rfl ⟨by omega, by omega⟩ ⟨by omega, by omega⟩ (fun h6_ => ?_) (fun h7_ => ?_) (fun h8_ => ?_)
    ·
      refine fl_if_lt hm_191 rfl ⟨by omega, by omega⟩ (fun _ => ?_) (fun h => absurd (by omega) h)
      refine ga_lload_n (z := un) hm_191 rfl rfl ?_
      refine ga_lstore (lv2 := [(5, .long (Int64.ofInt un)), (3, .long (Int64.ofInt un)), (0, .ref 344), (1, .long (Int64.ofInt v))]) hm_191 rfl (Nat.le_of_ble_eq_true rfl) rfl ?_
      have L10_ : ∀ (n9_ : Nat) (u : Int) (F1 : fl_N), (u : Int).toNat = n9_ → (gi F1) → (fs [(344, 344, 67, 67), (344, 344, 69, 69)] F F1) → (0 ≤ u ∧ u ≤ 2565726408) → (0 ≤ F1 344 69 ∧ F1 344 69 ≤ 65535) → (tnr F1 i L w u) → fl_R xi_ms 191 fr lo 24 [(5, .long (Int64.ofInt u)), (3, .long (Int64.ofInt un)), (0, .ref 344), (1, .long (Int64.ofInt v))] [] (fl_H sh_T G F1 ++ X) (pq_191v G F X v i w L) := by
        intro n9_
        induction n9_ using Nat.strongRecOn with
        | ind n9_ ih11_ =>
        intro u F1 hn12_ hg_F1 hf_F1 hu2 ho1 htx
        have g13_ : fs [(344, 344, 67, 67), (344, 344, 69, 69)] F F1 := fs_tr fs_refl hf_F1 rfl
        refine ga_lload (z := u) hm_191 rfl rfl ?_
        refine ga_lconst (z := 0) hm_191 rfl rfl ?_
        refine ga_lcmp (a := u) (b := 0) hm_191 rfl ⟨by omega, by omega⟩ ⟨by omega, by omega⟩ (fun h14_ => ?_) (fun h15_ => ?_) (fun h16_ => ?_)
        ·
          refine fl_if_le hm_191 rfl ⟨by omega, by omega⟩ (fun _ => ?_) (fun h => absurd (by omega) h)
          refine gr_v hm_191 rfl rfl ?_
          have b17_ : -2147483648 ≤ F1 344 69 ∧ F1 344 69 ≤ 2147483647 := gi_g hg_F1 rfl
          exact ⟨F1, rfl, hg_F1, g13_, (⟨by omega, by omega⟩), (tnr_e htx (by omega))⟩
        ·
          refine fl_if_le hm_191 rfl ⟨by omega, by omega⟩ (fun _ => ?_) (fun h => absurd (by omega) h)
          refine gr_v hm_191 rfl rfl ?_
          have b18_ : -2147483648 ≤ F1 344 69 ∧ F1 344 69 ≤ 2147483647 := gi_g hg_F1 rfl
          exact ⟨F1, rfl, hg_F1, g13_, (⟨by omega, by omega⟩), (tnr_e htx (by omega))⟩
        ·
          refine fl_if_le hm_191 rfl ⟨by omega, by omega⟩ (fun h => absurd h (by omega)) (fun _ => ?_)
          obtain ⟨m_, hm1_, hm2_, htm_⟩ : ∃ m : Nat, m < w.length ∧ u = 37 ^ m ∧ tdr F1 i (L ++ (w.drop (m + 1)).reverse) := by
            rcases htx with ⟨h9_, -⟩ | h9_
            · omega
            · exact h9_
          refine ga_lload_n (z := v) hm_191 rfl rfl ?_
          refine ga_lload (z := u) hm_191 rfl rfl ?_
          refine ga_ldiv (a := v) (b := u) hm_191 rfl (by omega) (by omega) (by omega) (by omega) ?_
          have b19_ : 0 ≤ v / u ∧ v / u ≤ v := ⟨Int.ediv_nonneg (by omega) (by omega), Int.ediv_le_self _ (by omega)⟩
          refine ga_ldcl (z := 37) hm_191 rfl (by decide) ?_
          refine ga_lrem (a := (v / u)) (b := 37) hm_191 rfl (by omega) (by omega) (by omega) (by omega) ?_
          refine ga_l2i hm_191 rfl ?_
          refine ga_istore (lv2 := [(7, .int (Int32.ofInt ((((v / u)) % 37)))), (5, .long (Int64.ofInt u)), (3, .long (Int64.ofInt un)), (0, .ref 344), (1, .long (Int64.ofInt v))]) hm_191 rfl (Nat.le_of_ble_eq_true rfl) rfl ?_
          refine ga_aload_n (v := .ref 344) hm_191 rfl rfl rfl ?_
          refine ga_iload (z := (((v / u)) % 37)) hm_191 rfl rfl ?_
          refine fl_bipush hm_191 rfl rfl ?_
          refine fl_icmp_le (a := (((v / u)) % 37)) (b := 26) hm_191 rfl ⟨by omega, by omega⟩ ⟨by omega, by omega⟩ (fun h20_ => ?_) (fun h21_ => ?_)
          ·
            refine ga_iload (z := (((v / u)) % 37)) hm_191 rfl rfl ?_
            refine fl_bipush hm_191 rfl rfl ?_
            refine ga_iadd (a := (((v / u)) % 37)) (b := 96) (c := (((v / u)) % 37) + 96) hm_191 rfl (by omega) ?_
            have b22_ : -2147483648 ≤ F1 344 69 ∧ F1 344 69 ≤ 2147483647 := gi_g hg_F1 rfl
            refine gVv (nY := 2) (F := 0) (L := 0) (As := [.int (Int32.ofInt ((((v / u)) % 37) + 96))]) (b := 344) (rest := []) hm_191 rfl hm_190 rfl rfl (fl_ob sc_344) rfl rfl rfl rfl rfl (by omega) (by omega) (mc_190v hG F1 X hg_F1 ((((v / u)) % 37) + 96) (i) ((L ++ (w.drop (m_ + 1)).reverse)) (⟨by omega, by omega⟩) (⟨by omega, by omega⟩) (htm_) (by rw [List.length_append]; have h8_ := drop_le (w := w) (j := m_ + 1); have h7_ := hw.2.2.2; omega)) (fun _ _ h => False.elim h) ?_
            rintro A1_ ⟨F26_, hA_, g27_, s28_, c24_, c25_⟩
            subst hA_
            have g29_ : fs [(344, 344, 67, 67), (344, 344, 69, 69)] F F26_ := fs_tr g13_ s28_ rfl
            refine ga_lload (z := u) hm_191 rfl rfl ?_
            refine ga_ldcl (z := 37) hm_191 rfl (by decide) ?_
            refine ga_ldiv (a := u) (b := 37) hm_191 rfl (by omega) (by omega) (by omega) (by omega) ?_
            refine ga_lstore (lv2 := [(5, .long (Int64.ofInt ((u / 37)))), (7, .int (Int32.ofInt ((((v / u)) % 37)))), (3, .long (Int64.ofInt un)), (0, .ref 344), (1, .long (Int64.ofInt v))]) hm_191 rfl (Nat.le_of_ble_eq_true rfl) rfl ?_
            refine fl_goto hm_191 rfl ?_
            have b30_ : -2147483648 ≤ F26_ 344 69 ∧ F26_ 344 69 ≤ 2147483647 := gi_g g27_ rfl
            exact fl_R_sub (lv' := [(5, .long (Int64.ofInt ((u / 37)))), (3, .long (Int64.ofInt un)), (0, .ref 344), (1, .long (Int64.ofInt v))]) rfl rfl (ih11_ _ (by omega) ((u / 37)) F26_ rfl g27_ (fs_tr hf_F1 s28_ rfl) (⟨by omega, by omega⟩) (⟨by omega, by omega⟩) (tnr_s hm1_ hm2_ c25_ (by have h9_ := tl_c hw hm1_ hm2_; omega)))
          refine ga_iload (z := (((v / u)) % 37)) hm_191 rfl rfl ?_
          refine fl_bipush hm_191 rfl rfl ?_
          refine ga_iadd (a := (((v / u)) % 37)) (b := 21) (c := (((v / u)) % 37) + 21) hm_191 rfl (by omega) ?_
          refine fl_goto hm_191 rfl ?_
          have b31_ : -2147483648 ≤ F1 344 69 ∧ F1 344 69 ≤ 2147483647 := gi_g hg_F1 rfl
          refine gVv (nY := 2) (F := 0) (L := 0) (As := [.int (Int32.ofInt ((((v / u)) % 37) + 21))]) (b := 344) (rest := []) hm_191 rfl hm_190 rfl rfl (fl_ob sc_344) rfl rfl rfl rfl rfl (by omega) (by omega) (mc_190v hG F1 X hg_F1 ((((v / u)) % 37) + 21) (i) ((L ++ (w.drop (m_ + 1)).reverse)) (⟨by omega, by omega⟩) (⟨by omega, by omega⟩) (htm_) (by rw [List.length_append]; have h8_ := drop_le (w := w) (j := m_ + 1); have h7_ := hw.2.2.2; omega)) (fun _ _ h => False.elim h) ?_
          rintro A1_ ⟨F35_, hA_, g36_, s37_, c33_, c34_⟩
          subst hA_
          have g38_ : fs [(344, 344, 67, 67), (344, 344, 69, 69)] F F35_ := fs_tr g13_ s37_ rfl
          refine ga_lload (z := u) hm_191 rfl rfl ?_
          refine ga_ldcl (z := 37) hm_191 rfl (by decide) ?_
          refine ga_ldiv (a := u) (b := 37) hm_191 rfl (by omega) (by omega) (by omega) (by omega) ?_
          refine ga_lstore (lv2 := [(5, .long (Int64.ofInt ((u / 37)))), (7, .int (Int32.ofInt ((((v / u)) % 37)))), (3, .long (Int64.ofInt un)), (0, .ref 344), (1, .long (Int64.ofInt v))]) hm_191 rfl (Nat.le_of_ble_eq_true rfl) rfl ?_
          refine fl_goto hm_191 rfl ?_
          have b39_ : -2147483648 ≤ F35_ 344 69 ∧ F35_ 344 69 ≤ 2147483647 := gi_g g36_ rfl
          exact fl_R_sub (lv' := [(5, .long (Int64.ofInt ((u / 37)))), (3, .long (Int64.ofInt un)), (0, .ref 344), (1, .long (Int64.ofInt v))]) rfl rfl (ih11_ _ (by omega) ((u / 37)) F35_ rfl g36_ (fs_tr hf_F1 s37_ rfl) (⟨by omega, by omega⟩) (⟨by omega, by omega⟩) (tnr_s hm1_ hm2_ c34_ (by have h9_ := tl_c hw hm1_ hm2_; omega)))
      have b40_ : -2147483648 ≤ F 344 69 ∧ F 344 69 ≤ 2147483647 := gi_g hgi rfl
      exact L10_ _ (un) F rfl hgi fs_refl (⟨by omega, by omega⟩) (⟨by omega, by omega⟩) (by obtain ⟨m, h1_, h2_⟩ := hum; exact tnr_0 (tu_e hw h1_ h2_ (by omega)) h2_ htd)
    ·
      refine fl_if_lt hm_191 rfl ⟨by omega, by omega⟩ (fun h => absurd h (by omega)) (fun _ => ?_)
      have hun : 37 * un ≤ v := dv_37 (by omega) (by omega) (by omega)
      refine ga_lload_n (z := un) hm_191 rfl rfl ?_
      refine ga_ldcl (z := 37) hm_191 rfl (by decide) ?_
      refine ga_lmul (a := un) (b := 37) hm_191 rfl ?_
      refine ga_lstore_n (lv2 := [(3, .long (Int64.ofInt ((un * 37)))), (0, .ref 344), (1, .long (Int64.ofInt v))]) hm_191 rfl (Nat.le_of_ble_eq_true rfl) rfl ?_
      refine fl_goto hm_191 rfl ?_
      exact ih3_ _ (by omega) ((un * 37)) rfl (⟨by omega, by omega⟩) (by obtain ⟨m, h1_, h2_⟩ := hum; have h9_ := tu_s hw h1_ h2_ (by omega); exact ⟨m + 1, h9_.1, by first | exact h9_.2 | (rw [← h9_.2]; omega)⟩)
    ·
      refine fl_if_lt hm_191 rfl ⟨by omega, by omega⟩ (fun h => absurd h (by omega)) (fun _ => ?_)
      have hun : 37 * un ≤ v := dv_37 (by omega) (by omega) (by omega)
      refine ga_lload_n (z := un) hm_191 rfl rfl ?_
      refine ga_ldcl (z := 37) hm_191 rfl (by decide) ?_
      refine ga_lmul (a := un) (b := 37) hm_191 rfl ?_
      refine ga_lstore_n (lv2 := [(3, .long (Int64.ofInt ((un * 37)))), (0, .ref 344), (1, .long (Int64.ofInt v))]) hm_191 rfl (Nat.le_of_ble_eq_true rfl) rfl ?_
      refine fl_goto hm_191 rfl ?_
      exact ih3_ _ (by omega) ((un * 37)) rfl (⟨by omega, by omega⟩) (by obtain ⟨m, h1_, h2_⟩ := hum; have h9_ := tu_s hw h1_ h2_ (by omega); exact ⟨m + 1, h9_.1, by first | exact h9_.2 | (rw [← h9_.2]; omega)⟩)
  exact L2_ _ (1) rfl (⟨by omega, by omega⟩) (⟨0, by have h9_ := hw.2.2.1; exact List.length_pos_iff.mpr h9_, rfl⟩)

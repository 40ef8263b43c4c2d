/- CheapPlanner$Estimate.worthOf -/
abbrev pq_99 (G : Nat → Nat → Option Nat) (F : fl_N) (X : xi_H) (b : Nat) (ad : Int) : Outcome → xi_H → Prop := gqi (fun z A => fl_H sh_T G F ++ X = A ∧ (-2147483648 ≤ z ∧ z ≤ 2147483647)) gqn
theorem mc_99 {G : Nat → Nat → Option Nat} (hG : gg G) (F : fl_N) (X : xi_H) (hgi : gi F) (b : Nat) (ad : Int) (h_b : nd b) (had : 0 ≤ ad ∧ ad ≤ 1) : fl_M xi_ms 99 1 21 [.ref 340, .ref b, .int (Int32.ofInt ad)] (fl_H sh_T G F ++ X) (pq_99 G F X b ad) := by
  intro fr lo hfr hlo
  show fl_R xi_ms 99 fr lo 0 [(0, .ref 340), (1, .ref b), (2, .int (Int32.ofInt ad))] [] _ _
  have hr_b := h_b.2.2
  refine fl_iconst hm_99 rfl ?_
  refine ga_istore_n (lv2 := [(3, .int (Int32.ofInt 0)), (0, .ref 340), (1, .ref b), (2, .int (Int32.ofInt ad))]) hm_99 rfl (Nat.le_of_ble_eq_true rfl) rfl ?_
  refine fl_iconst hm_99 rfl ?_
  refine ga_istore (lv2 := [(4, .int (Int32.ofInt 0)), (3, .int (Int32.ofInt 0)), (0, .ref 340), (1, .ref b), (2, .int (Int32.ofInt ad))]) hm_99 rfl (Nat.le_of_ble_eq_true rfl) rfl ?_
  have L2_ : ∀ (n1_ : Nat) (k : Int) (al : Int), (F b 4 - k : Int).toNat = n1_ → (0 ≤ k ∧ k ≤ 4) → (-2147483648 ≤ al ∧ al ≤ 2147483647) → fl_R xi_ms 99 fr lo 5 [(4, .int (Int32.ofInt k)), (3, .int (Int32.ofInt al)), (0, .ref 340), (1, .ref b), (2, .int (Int32.ofInt ad))] [] (fl_H sh_T G F ++ X) (pq_99 G F X b ad) := by
    intro n1_
    induction n1_ using Nat.strongRecOn with
    | ind n1_ ih3_ =>
    intro k al hn4_ hk hal
    refine ga_iload (z := k) hm_99 rfl rfl ?_
    refine ga_aload_n (v := .ref b) hm_99 rfl rfl rfl ?_
    have b5_ : 0 ≤ F b 4 ∧ F b 4 ≤ 4 := gi_g hgi h_b.2.1.2.2.2.1
    refine ga_geti (z := F b 4) hm_99 rfl h_b.1.1 rfl (rfl) ?_
    refine fl_icmp_ge (a := k) (b := F b 4) hm_99 rfl ⟨by omega, by omega⟩ ⟨by omega, by omega⟩ (fun h6_ => ?_) (fun h7_ => ?_)
    ·
      refine ga_ldci (z := 100000) hm_99 rfl (by decide) ?_
      refine ga_iload_n (z := al) hm_99 rfl rfl ?_
      refine gJi (nY := 2) (F := 0) (L := 0) (As := [.int (Int32.ofInt 100000), .int (Int32.ofInt al)]) (rest := []) hm_99 rfl hm_196 rfl rfl (fl_pos sc_0) rfl rfl rfl rfl (by omega) (by omega) ?_
      intro f8_ l9_ h10_ h11_
      show fl_R xi_ms 196 f8_ l9_ 0 [(0, .int (Int32.ofInt 100000)), (1, .int (Int32.ofInt al))] [] _ _
      refine ga_iload_n (z := 100000) hm_196 rfl rfl ?_
      refine ga_iload_n (z := al) hm_196 rfl rfl ?_
      refine fl_icmp_gt (a := 100000) (b := al) hm_196 rfl ⟨by omega, by omega⟩ ⟨by omega, by omega⟩ (fun h12_ => ?_) (fun h13_ => ?_)
      ·
        refine ga_iload_n (z := al) hm_196 rfl rfl ?_
        refine gr_i hm_196 rfl rfl rfl ?_
        clear h10_ h11_ f8_ l9_
        refine gr_i (z := al) hm_99 rfl rfl rfl ?_
        exact ⟨rfl, (⟨by omega, by omega⟩)⟩
      refine ga_iload_n (z := 100000) hm_196 rfl rfl ?_
      refine fl_goto hm_196 rfl ?_
      refine gr_i hm_196 rfl rfl rfl ?_
      clear h10_ h11_ f8_ l9_
      refine gr_i (z := 100000) hm_99 rfl rfl rfl ?_
      exact ⟨rfl, (⟨by omega, by omega⟩)⟩
    refine ga_aload_n (v := .ref 340) hm_99 rfl rfl rfl ?_
    refine ga_getr (b := 341) hm_99 rfl sc_340 rfl ?_
    refine ga_aload_n (v := .ref b) hm_99 rfl rfl rfl ?_
    refine ga_getr (b := b + 1) hm_99 rfl h_b.1.1 rfl ?_
    refine ga_iload (z := k) hm_99 rfl rfl ?_
    have b14_ : 0 ≤ F (b + 1) k.toNat ∧ F (b + 1) k.toNat ≤ 39 := gi_g hgi (gb_a h_b.2.1.2.2.2.2)
    refine ga_iald (z := k) (w := F (b + 1) k.toNat) hm_99 rfl h_b.1.2 (by omega) (by omega) (by omega) (rfl) ?_
    have b15_ : -2147483648 ≤ F 341 (F (b + 1) k.toNat).toNat ∧ F 341 (F (b + 1) k.toNat).toNat ≤ 2147483647 := gi_g hgi rfl
    refine ga_iald (z := F (b + 1) k.toNat) (w := F 341 (F (b + 1) k.toNat).toNat) hm_99 rfl sc_341 (by omega) (by omega) (by omega) (rfl) ?_
    refine ga_istore (lv2 := [(5, .int (Int32.ofInt (F 341 (F (b + 1) k.toNat).toNat))), (4, .int (Int32.ofInt k)), (3, .int (Int32.ofInt al)), (0, .ref 340), (1, .ref b), (2, .int (Int32.ofInt ad))]) hm_99 rfl (Nat.le_of_ble_eq_true rfl) rfl ?_
    refine ga_iload (z := F 341 (F (b + 1) k.toNat).toNat) hm_99 rfl rfl ?_
    refine ga_ldci (z := 2147483647) hm_99 rfl (by decide) ?_
    refine fx_icmp_ne (a := F 341 (F (b + 1) k.toNat).toNat) (b := 2147483647) hm_99 rfl ⟨by omega, by omega⟩ ⟨by omega, by omega⟩ (fun h16_ => ?_) (fun h17_ => ?_)
    ·
      refine ga_iload_n (z := ad) hm_99 rfl rfl ?_
      refine fl_if_eq (a := ad) hm_99 rfl ⟨by omega, by omega⟩ (fun h18_ => ?_) (fun h19_ => ?_)
      ·
        refine ga_iload_n (z := al) hm_99 rfl rfl ?_
        refine ga_iload (z := F 341 (F (b + 1) k.toNat).toNat) hm_99 rfl rfl ?_
        refine gJi (nY := 2) (F := 0) (L := 0) (As := [.int (Int32.ofInt al), .int (Int32.ofInt (F 341 (F (b + 1) k.toNat).toNat))]) (rest := []) hm_99 rfl hm_195 rfl rfl (fl_pos sc_0) rfl rfl rfl rfl (by omega) (by omega) ?_
        intro f20_ l21_ h22_ h23_
        show fl_R xi_ms 195 f20_ l21_ 0 [(0, .int (Int32.ofInt al)), (1, .int (Int32.ofInt (F 341 (F (b + 1) k.toNat).toNat)))] [] _ _
        refine ga_iload_n (z := al) hm_195 rfl rfl ?_
        refine ga_iload_n (z := F 341 (F (b + 1) k.toNat).toNat) hm_195 rfl rfl ?_
        refine fl_icmp_lt (a := al) (b := F 341 (F (b + 1) k.toNat).toNat) hm_195 rfl ⟨by omega, by omega⟩ ⟨by omega, by omega⟩ (fun h24_ => ?_) (fun h25_ => ?_)
        ·
          refine ga_iload_n (z := F 341 (F (b + 1) k.toNat).toNat) hm_195 rfl rfl ?_
          refine gr_i hm_195 rfl rfl rfl ?_
          clear h22_ h23_ f20_ l21_
          refine ga_istore_n (lv2 := [(3, .int (Int32.ofInt (F 341 (F (b + 1) k.toNat).toNat))), (5, .int (Int32.ofInt (F 341 (F (b + 1) k.toNat).toNat))), (4, .int (Int32.ofInt k)), (0, .ref 340), (1, .ref b), (2, .int (Int32.ofInt ad))]) hm_99 rfl (Nat.le_of_ble_eq_true rfl) rfl ?_
          refine ga_inc (a := k) (c := k + 1) (lv2 := [(4, .int (Int32.ofInt (k + 1))), (3, .int (Int32.ofInt (F 341 (F (b + 1) k.toNat).toNat))), (5, .int (Int32.ofInt (F 341 (F (b + 1) k.toNat).toNat))), (0, .ref 340), (1, .ref b), (2, .int (Int32.ofInt ad))]) hm_99 rfl rfl (Nat.le_of_ble_eq_true rfl) rfl rfl ?_
          refine fl_goto hm_99 rfl ?_
          exact fl_R_sub (lv' := [(4, .int (Int32.ofInt (k + 1))), (3, .int (Int32.ofInt (F 341 (F (b + 1) k.toNat).toNat))), (0, .ref 340), (1, .ref b), (2, .int (Int32.ofInt ad))]) rfl rfl (ih3_ _ (by omega) (k + 1) (F 341 (F (b + 1) k.toNat).toNat) rfl (⟨by omega, by omega⟩) (⟨by omega, by omega⟩))
        refine ga_iload_n (z := al) hm_195 rfl rfl ?_
        refine fl_goto hm_195 rfl ?_
        refine gr_i hm_195 rfl rfl rfl ?_
        clear h22_ h23_ f20_ l21_
        refine ga_istore_n (lv2 := [(3, .int (Int32.ofInt al)), (5, .int (Int32.ofInt (F 341 (F (b + 1) k.toNat).toNat))), (4, .int (Int32.ofInt k)), (0, .ref 340), (1, .ref b), (2, .int (Int32.ofInt ad))]) hm_99 rfl (Nat.le_of_ble_eq_true rfl) rfl ?_
        refine ga_inc (a := k) (c := k + 1) (lv2 := [(4, .int (Int32.ofInt (k + 1))), (3, .int (Int32.ofInt al)), (5, .int (Int32.ofInt (F 341 (F (b + 1) k.toNat).toNat))), (0, .ref 340), (1, .ref b), (2, .int (Int32.ofInt ad))]) hm_99 rfl rfl (Nat.le_of_ble_eq_true rfl) rfl rfl ?_
        refine fl_goto hm_99 rfl ?_
        exact fl_R_sub (lv' := [(4, .int (Int32.ofInt (k + 1))), (3, .int (Int32.ofInt al)), (0, .ref 340), (1, .ref b), (2, .int (Int32.ofInt ad))]) rfl rfl (ih3_ _ (by omega) (k + 1) (al) rfl (⟨by omega, by omega⟩) (⟨by omega, by omega⟩))
      refine ga_iload_n (z := al) hm_99 rfl rfl ?_
      refine ga_iload (z := F 341 (F (b + 1) k.toNat).toNat) hm_99 rfl rfl ?_
      refine ga_iany hm_99 rfl rfl rfl (fun z26_ ⟨h27_, h28_⟩ => ?_)
      refine fl_goto hm_99 rfl ?_
      refine ga_istore_n (lv2 := [(3, .int (Int32.ofInt z26_)), (5, .int (Int32.ofInt (F 341 (F (b + 1) k.toNat).toNat))), (4, .int (Int32.ofInt k)), (0, .ref 340), (1, .ref b), (2, .int (Int32.ofInt ad))]) hm_99 rfl (Nat.le_of_ble_eq_true rfl) rfl ?_
      refine ga_inc (a := k) (c := k + 1) (lv2 := [(4, .int (Int32.ofInt (k + 1))), (3, .int (Int32.ofInt z26_)), (5, .int (Int32.ofInt (F 341 (F (b + 1) k.toNat).toNat))), (0, .ref 340), (1, .ref b), (2, .int (Int32.ofInt ad))]) hm_99 rfl rfl (Nat.le_of_ble_eq_true rfl) rfl rfl ?_
      refine fl_goto hm_99 rfl ?_
      exact fl_R_sub (lv' := [(4, .int (Int32.ofInt (k + 1))), (3, .int (Int32.ofInt z26_)), (0, .ref 340), (1, .ref b), (2, .int (Int32.ofInt ad))]) rfl rfl (ih3_ _ (by omega) (k + 1) (z26_) rfl (⟨by omega, by omega⟩) (⟨by omega, by omega⟩))
    refine ga_ldci (z := 2147483647) hm_99 rfl (by decide) ?_
    refine gr_i (z := 2147483647) hm_99 rfl rfl rfl ?_
    exact ⟨rfl, (⟨by omega, by omega⟩)⟩
  have b29_ : 0 ≤ F b 4 ∧ F b 4 ≤ 4 := gi_g hgi h_b.2.1.2.2.2.1
  exact L2_ _ (0) (0) rfl (⟨by omega, by omega⟩) (⟨by omega, by omega⟩)
/- CheapPlanner$Estimate.lowerComers -/
abbrev pq_98 (G : Nat → Nat → Option Nat) (F : fl_N) (X : xi_H) (a : Nat) (w : Int) : Outcome → xi_H → Prop := gqi (fun z A => ∃ F' : fl_N, fl_H sh_T G F' ++ X = A ∧ gi F' ∧ fs [(341, 341, 0, 100000)] F F' ∧ (0 ≤ z ∧ z ≤ 1)) gqn
theorem mc_98 {G : Nat → Nat → Option Nat} (hG : gg G) (F : fl_N) (X : xi_H) (hgi : gi F) (a : Nat) (w : Int) (h_a : sp a) (hw : -2147483648 ≤ w ∧ w ≤ 2147483647) : fl_M xi_ms 98 0 0 [.ref 340, .ref a, .int (Int32.ofInt w)] (fl_H sh_T G F ++ X) (pq_98 G F X a w) := by
  intro fr lo hfr hlo
  show fl_R xi_ms 98 fr lo 0 [(0, .ref 340), (1, .ref a), (2, .int (Int32.ofInt w))] [] _ _
  have hr_a := h_a.2.2
  refine fl_iconst hm_98 rfl ?_
  refine ga_istore_n (lv2 := [(3, .int (Int32.ofInt 0)), (0, .ref 340), (1, .ref a), (2, .int (Int32.ofInt w))]) hm_98 rfl (Nat.le_of_ble_eq_true rfl) rfl ?_
  refine fl_iconst hm_98 rfl ?_
  refine ga_istore (lv2 := [(4, .int (Int32.ofInt 0)), (3, .int (Int32.ofInt 0)), (0, .ref 340), (1, .ref a), (2, .int (Int32.ofInt w))]) hm_98 rfl (Nat.le_of_ble_eq_true rfl) rfl ?_
  have L2_ : ∀ (n1_ : Nat) (k : Int) (ch : Int) (F1 : fl_N), (F1 a 7 - k : Int).toNat = n1_ → (gi F1) → (fs [(341, 341, 0, 100000)] F F1) → (0 ≤ k ∧ k ≤ 4) → (0 ≤ ch ∧ ch ≤ 1) → fl_R xi_ms 98 fr lo 5 [(4, .int (Int32.ofInt k)), (3, .int (Int32.ofInt ch)), (0, .ref 340), (1, .ref a), (2, .int (Int32.ofInt w))] [] (fl_H sh_T G F1 ++ X) (pq_98 G F X a w) := by
    intro n1_
    induction n1_ using Nat.strongRecOn with
    | ind n1_ ih3_ =>
    intro k ch F1 hn4_ hg_F1 hf_F1 hk hch
    have g5_ : fs [(341, 341, 0, 100000)] F F1 := fs_tr fs_refl hf_F1 rfl
    refine ga_iload (z := k) hm_98 rfl rfl ?_
    refine ga_aload_n (v := .ref a) hm_98 rfl rfl rfl ?_
    have e6_ : F1 a 7 = F a 7 := (hf_F1 a 7 (by first | exact fs_c rfl | exact (fs_n (by omega) rfl))).trans (rfl)
    have b7_ : 0 ≤ F a 7 ∧ F a 7 ≤ 4 := gi_g hgi h_a.2.1.2.2.2.2.2.1
    refine ga_geti (z := F a 7) hm_98 rfl h_a.1.1 rfl (e6_) ?_
    refine fl_icmp_ge (a := k) (b := F a 7) hm_98 rfl ⟨by omega, by omega⟩ ⟨by omega, by omega⟩ (fun h8_ => ?_) (fun h9_ => ?_)
    ·
      refine ga_iload_n (z := ch) hm_98 rfl rfl ?_
      refine gr_i (z := ch) hm_98 rfl rfl (ga_nb (by omega)) ?_
      exact ⟨F1, rfl, hg_F1, g5_, (⟨by omega, by omega⟩)⟩
    refine ga_aload_n (v := .ref a) hm_98 rfl rfl rfl ?_
    refine ga_getr (b := a + 4) hm_98 rfl h_a.1.1 rfl ?_
    refine ga_iload (z := k) hm_98 rfl rfl ?_
    have e10_ : F1 (a + 4) k.toNat = F (a + 4) k.toNat := (hf_F1 (a + 4) k.toNat (by first | exact fs_c rfl | exact (fs_n (by omega) rfl))).trans (rfl)
    have b11_ : 0 ≤ F (a + 4) k.toNat ∧ F (a + 4) k.toNat ≤ 39 := gi_g hgi (gb_a h_a.2.1.2.2.2.2.2.2.2.2.2.2.2)
    refine ga_iald (z := k) (w := F (a + 4) k.toNat) hm_98 rfl h_a.1.2.2.2.2 (by omega) (by omega) (by omega) (e10_) ?_
    refine ga_istore (lv2 := [(5, .int (Int32.ofInt (F (a + 4) k.toNat))), (4, .int (Int32.ofInt k)), (3, .int (Int32.ofInt ch)), (0, .ref 340), (1, .ref a), (2, .int (Int32.ofInt w))]) hm_98 rfl (Nat.le_of_ble_eq_true rfl) rfl ?_
    refine ga_iload_n (z := w) hm_98 rfl rfl ?_
    refine ga_aload_n (v := .ref 340) hm_98 rfl rfl rfl ?_
    refine ga_getr (b := 341) hm_98 rfl sc_340 rfl ?_
    refine ga_iload (z := F (a + 4) k.toNat) hm_98 rfl rfl ?_
    have b12_ : -2147483648 ≤ F1 341 (F (a + 4) k.toNat).toNat ∧ F1 341 (F (a + 4) k.toNat).toNat ≤ 2147483647 := gi_g hg_F1 rfl
    refine ga_iald (z := F (a + 4) k.toNat) (w := F1 341 (F (a + 4) k.toNat).toNat) hm_98 rfl sc_341 (by omega) (by omega) (by omega) (rfl) ?_
    refine fl_icmp_ge (a := w) (b := F1 341 (F (a + 4) k.toNat).toNat) hm_98 rfl ⟨by omega, by omega⟩ ⟨by omega, by omega⟩ (fun h13_ => ?_) (fun h14_ => ?_)
    ·
      refine ga_inc (a := k) (c := k + 1) (lv2 := [(4, .int (Int32.ofInt (k + 1))), (5, .int (Int32.ofInt (F (a + 4) k.toNat))), (3, .int (Int32.ofInt ch)), (0, .ref 340), (1, .ref a), (2, .int (Int32.ofInt w))]) hm_98 rfl rfl (Nat.le_of_ble_eq_true rfl) rfl rfl ?_
      refine fl_goto hm_98 rfl ?_
      exact fl_R_sub (lv' := [(4, .int (Int32.ofInt (k + 1))), (3, .int (Int32.ofInt ch)), (0, .ref 340), (1, .ref a), (2, .int (Int32.ofInt w))]) rfl rfl (ih3_ _ (by omega) (k + 1) (ch) F1 rfl hg_F1 hf_F1 (⟨by omega, by omega⟩) (⟨by omega, by omega⟩))
    refine ga_aload_n (v := .ref 340) hm_98 rfl rfl rfl ?_
    refine ga_getr (b := 341) hm_98 rfl sc_340 rfl ?_
    refine ga_iload (z := F (a + 4) k.toNat) hm_98 rfl rfl ?_
    refine ga_iload_n (z := w) hm_98 rfl rfl ?_
    refine fl_iast (z := F (a + 4) k.toNat) (v := w) hm_98 rfl sc_341 (by omega) (by omega) (by omega) ?_
    refine fl_iconst hm_98 rfl ?_
    refine ga_istore_n (lv2 := [(3, .int (Int32.ofInt 1)), (5, .int (Int32.ofInt (F (a + 4) k.toNat))), (4, .int (Int32.ofInt k)), (0, .ref 340), (1, .ref a), (2, .int (Int32.ofInt w))]) hm_98 rfl (Nat.le_of_ble_eq_true rfl) rfl ?_
    refine ga_inc (a := k) (c := k + 1) (lv2 := [(4, .int (Int32.ofInt (k + 1))), (3, .int (Int32.ofInt 1)), (5, .int (Int32.ofInt (F (a + 4) k.toNat))), (0, .ref 340), (1, .ref a), (2, .int (Int32.ofInt w))]) hm_98 rfl rfl (Nat.le_of_ble_eq_true rfl) rfl rfl ?_
    refine fl_goto hm_98 rfl ?_
    obtain ⟨F15_, q16_⟩ : ∃ Fq_, Fq_ = (fl_u F1 341 (F (a + 4) k.toNat).toNat w) := ⟨_, rfl⟩
    rw [← q16_]
    have g17_ : gi F15_ := by rw [q16_]; exact gi_u (hg_F1) rfl (by omega) (by omega)
    have g18_ : fs [(341, 341, 0, 100000)] F F15_ := by rw [q16_]; exact fs_u (g5_) (fs_y (by omega))
    have e19_ : F15_ a 7 = F a 7 := by rw [q16_]; exact (fl_u_ne (by first | exact nc_ rfl | decide | omega)).trans (e6_)
    exact fl_R_sub (lv' := [(4, .int (Int32.ofInt (k + 1))), (3, .int (Int32.ofInt 1)), (0, .ref 340), (1, .ref a), (2, .int (Int32.ofInt w))]) rfl rfl (ih3_ _ (by omega) (k + 1) (1) F15_ rfl g17_ (by rw [q16_]; exact fs_u (hf_F1) (fs_y (by omega))) (⟨by omega, by omega⟩) (⟨by omega, by omega⟩))
  have b20_ : 0 ≤ F a 7 ∧ F a 7 ≤ 4 := gi_g hgi h_a.2.1.2.2.2.2.2.1
  exact L2_ _ (0) (0) F rfl hgi fs_refl (⟨by omega, by omega⟩) (⟨by omega, by omega⟩)
/- CheapPlanner$Estimate.lowerAll -/
abbrev pq_97 (G : Nat → Nat → Option Nat) (F : fl_N) (X : xi_H) (ad : Int) : Outcome → xi_H → Prop := gqi (fun z A => ∃ F' : fl_N, fl_H sh_T G F' ++ X = A ∧ gi F' ∧ fs [(341, 341, 0, 100000)] F F' ∧ (0 ≤ z ∧ z ≤ 1)) gqn
theorem mc_97 {G : Nat → Nat → Option Nat} (hG : gg G) (F : fl_N) (X : xi_H) (hgi : gi F) (ad : Int) (had : 0 ≤ ad ∧ ad ≤ 1) : fl_M xi_ms 97 2 46 [.ref 340, .int (Int32.ofInt ad)] (fl_H sh_T G F ++ X) (pq_97 G F X ad) := by
  intro fr lo hfr hlo
  show fl_R xi_ms 97 fr lo 0 [(0, .ref 340), (1, .int (Int32.ofInt ad))] [] _ _
  refine fl_iconst hm_97 rfl ?_
  refine ga_istore_n (lv2 := [(2, .int (Int32.ofInt 0)), (0, .ref 340), (1, .int (Int32.ofInt ad))]) hm_97 rfl (Nat.le_of_ble_eq_true rfl) rfl ?_
  refine fl_iconst hm_97 rfl ?_
  refine ga_istore_n (lv2 := [(3, .int (Int32.ofInt 0)), (2, .int (Int32.ofInt 0)), (0, .ref 340), (1, .int (Int32.ofInt ad))]) hm_97 rfl (Nat.le_of_ble_eq_true rfl) rfl ?_
  have L2_ : ∀ (n1_ : Nat) (k : Int) (ch : Int) (F1 : fl_N), (F1 120 3 - k : Int).toNat = n1_ → (gi F1) → (fs [(341, 341, 0, 100000)] F F1) → (0 ≤ k ∧ k ≤ 41) → (0 ≤ ch ∧ ch ≤ 1) → fl_R xi_ms 97 fr lo 4 [(3, .int (Int32.ofInt k)), (2, .int (Int32.ofInt ch)), (0, .ref 340), (1, .int (Int32.ofInt ad))] [] (fl_H sh_T G F1 ++ X) (pq_97 G F X ad) := by
    intro n1_
    induction n1_ using Nat.strongRecOn with
    | ind n1_ ih3_ =>
    intro k ch F1 hn4_ hg_F1 hf_F1 hk hch
    have g5_ : fs [(341, 341, 0, 100000)] F F1 := fs_tr fs_refl hf_F1 rfl
    refine ga_iload_n (z := k) hm_97 rfl rfl ?_
    refine ga_aload_n (v := .ref 340) hm_97 rfl rfl rfl ?_
    refine ga_getr (b := 120) hm_97 rfl sc_340 rfl ?_
    have e6_ : F1 120 3 = F 120 3 := (hf_F1 120 3 rfl).trans (rfl)
    have b7_ : 0 ≤ F 120 3 ∧ F 120 3 ≤ 41 := gi_g hgi rfl
    refine ga_geti (z := F 120 3) hm_97 rfl sc_120 rfl (e6_) ?_
    refine fl_icmp_ge (a := k) (b := F 120 3) hm_97 rfl ⟨by omega, by omega⟩ ⟨by omega, by omega⟩ (fun h8_ => ?_) (fun h9_ => ?_)
    ·
      refine ga_iload_n (z := ch) hm_97 rfl rfl ?_
      refine gr_i (z := ch) hm_97 rfl rfl (ga_nb (by omega)) ?_
      exact ⟨F1, rfl, hg_F1, g5_, (⟨by omega, by omega⟩)⟩
    refine ga_aload_n (v := .ref 340) hm_97 rfl rfl rfl ?_
    refine ga_getr (b := 120) hm_97 rfl sc_340 rfl ?_
    refine ga_getr (b := 122) hm_97 rfl sc_120 rfl ?_
    refine ga_iload_n (z := k) hm_97 rfl rfl ?_
    obtain ⟨a10_, r11_, n12_, q13_⟩ := ra_122 (k).toNat (by omega)
    refine fl_aald (z := k) (q := a10_) hm_97 rfl sc_122 (hG _ _ _ sc_122) rfl (by omega) (by simp only [List.length_cons, List.length_nil]; omega) (by simp only [List.length_cons, List.length_nil]; omega) r11_ ?_
    refine ga_astore (lv2 := [(4, .ref a10_), (3, .int (Int32.ofInt k)), (2, .int (Int32.ofInt ch)), (0, .ref 340), (1, .int (Int32.ofInt ad))]) hm_97 rfl (Nat.le_of_ble_eq_true rfl) rfl ?_
    refine ga_aload_n (v := .ref 340) hm_97 rfl rfl rfl ?_
    refine ga_aload (v := .ref a10_) hm_97 rfl rfl rfl ?_
    refine ga_getr (b := a10_ + 2) hm_97 rfl n12_.1.1 rfl ?_
    refine ga_iload_n (z := ad) hm_97 rfl rfl ?_
    refine gVi (nY := 6) (F := 1) (L := 21) (As := [.ref (a10_ + 2), .int (Int32.ofInt ad)]) (b := 340) (rest := []) hm_97 rfl hm_99 rfl rfl (fl_ob sc_340) rfl rfl rfl rfl rfl (by omega) (by omega) (mc_99 hG F1 X hg_F1 (a10_ + 2) (ad) (nd_sp n12_) (⟨by omega, by omega⟩)) (fun _ _ h => False.elim h) ?_
    rintro z14_ A1_ ⟨hA_, c15_⟩
    subst hA_
    refine ga_istore (lv2 := [(5, .int (Int32.ofInt z14_)), (4, .ref a10_), (3, .int (Int32.ofInt k)), (2, .int (Int32.ofInt ch)), (0, .ref 340), (1, .int (Int32.ofInt ad))]) hm_97 rfl (Nat.le_of_ble_eq_true rfl) rfl ?_
    refine ga_iload (z := z14_) hm_97 rfl rfl ?_
    refine ga_ldci (z := 2147483647) hm_97 rfl (by decide) ?_
    refine fl_icmp_eq (a := z14_) (b := 2147483647) hm_97 rfl ⟨by omega, by omega⟩ ⟨by omega, by omega⟩ (fun h16_ => ?_) (fun h17_ => ?_)
    ·
      refine ga_inc (a := k) (c := k + 1) (lv2 := [(3, .int (Int32.ofInt (k + 1))), (5, .int (Int32.ofInt z14_)), (4, .ref a10_), (2, .int (Int32.ofInt ch)), (0, .ref 340), (1, .int (Int32.ofInt ad))]) hm_97 rfl rfl (Nat.le_of_ble_eq_true rfl) rfl rfl ?_
      refine fl_goto hm_97 rfl ?_
      exact fl_R_sub (lv' := [(3, .int (Int32.ofInt (k + 1))), (2, .int (Int32.ofInt ch)), (0, .ref 340), (1, .int (Int32.ofInt ad))]) rfl rfl (ih3_ _ (by omega) (k + 1) (ch) F1 rfl hg_F1 hf_F1 (⟨by omega, by omega⟩) (⟨by omega, by omega⟩))
    refine ga_aload_n (v := .ref 340) hm_97 rfl rfl rfl ?_
    refine ga_aload (v := .ref a10_) hm_97 rfl rfl rfl ?_
    refine ga_ldci (z := 100000) hm_97 rfl (by decide) ?_
    refine ga_iload (z := z14_) hm_97 rfl rfl ?_
    refine ga_aload (v := .ref a10_) hm_97 rfl rfl rfl ?_
    have e18_ : F1 a10_ 2 = F a10_ 2 := (hf_F1 a10_ 2 (by first | exact fs_c rfl | exact (fs_n (by omega) rfl))).trans (rfl)
    have b19_ : 0 ≤ F a10_ 2 ∧ F a10_ 2 ≤ 999 := gi_g hgi n12_.2.1.2.2.1
    refine ga_geti (z := F a10_ 2) hm_97 rfl n12_.1.1 rfl (e18_) ?_
    refine ga_iany hm_97 rfl rfl rfl (fun z20_ ⟨h21_, h22_⟩ => ?_)
    refine gJi (nY := 2) (F := 0) (L := 0) (As := [.int (Int32.ofInt 100000), .int (Int32.ofInt z20_)]) (rest := [.ref a10_, .ref 340]) hm_97 rfl hm_196 rfl rfl (fl_pos sc_0) rfl rfl rfl rfl (by omega) (by omega) ?_
    intro f23_ l24_ h25_ h26_
    show fl_R xi_ms 196 f23_ l24_ 0 [(0, .int (Int32.ofInt 100000)), (1, .int (Int32.ofInt z20_))] [] _ _
    refine ga_iload_n (z := 100000) hm_196 rfl rfl ?_
    refine ga_iload_n (z := z20_) hm_196 rfl rfl ?_
    refine fl_icmp_gt (a := 100000) (b := z20_) hm_196 rfl ⟨by omega, by omega⟩ ⟨by omega, by omega⟩ (fun h27_ => ?_) (fun h28_ => ?_)
    ·
      refine ga_iload_n (z := z20_) hm_196 rfl rfl ?_
      refine gr_i hm_196 rfl rfl rfl ?_
      clear h25_ h26_ f23_ l24_
      refine gVi (nY := 6) (F := 0) (L := 0) (As := [.ref a10_, .int (Int32.ofInt z20_)]) (b := 340) (rest := []) hm_97 rfl hm_98 rfl rfl (fl_ob sc_340) rfl rfl rfl rfl rfl (by omega) (by omega) (mc_98 hG F1 X hg_F1 (a10_) (z20_) n12_ (⟨by omega, by omega⟩)) (fun _ _ h => False.elim h) ?_
      rintro z29_ A1_ ⟨F31_, hA_, g32_, s33_, c30_⟩
      subst hA_
      have g34_ : fs [(341, 341, 0, 100000)] F F31_ := fs_tr g5_ s33_ rfl
      refine fl_if_eq (a := z29_) hm_97 rfl ⟨by omega, by omega⟩ (fun h35_ => ?_) (fun h36_ => ?_)
      ·
        refine ga_inc (a := k) (c := k + 1) (lv2 := [(3, .int (Int32.ofInt (k + 1))), (5, .int (Int32.ofInt z14_)), (4, .ref a10_), (2, .int (Int32.ofInt ch)), (0, .ref 340), (1, .int (Int32.ofInt ad))]) hm_97 rfl rfl (Nat.le_of_ble_eq_true rfl) rfl rfl ?_
        refine fl_goto hm_97 rfl ?_
        have e37_ : F31_ 120 3 = F 120 3 := (s33_ 120 3 rfl).trans (e6_)
        exact fl_R_sub (lv' := [(3, .int (Int32.ofInt (k + 1))), (2, .int (Int32.ofInt ch)), (0, .ref 340), (1, .int (Int32.ofInt ad))]) rfl rfl (ih3_ _ (by omega) (k + 1) (ch) F31_ rfl g32_ (fs_tr hf_F1 s33_ rfl) (⟨by omega, by omega⟩) (⟨by omega, by omega⟩))
      refine fl_iconst hm_97 rfl ?_
      refine ga_istore_n (lv2 := [(2, .int (Int32.ofInt 1)), (5, .int (Int32.ofInt z14_)), (4, .ref a10_), (3, .int (Int32.ofInt k)), (0, .ref 340), (1, .int (Int32.ofInt ad))]) hm_97 rfl (Nat.le_of_ble_eq_true rfl) rfl ?_
      refine ga_inc (a := k) (c := k + 1) (lv2 := [(3, .int (Int32.ofInt (k + 1))), (2, .int (Int32.ofInt 1)), (5, .int (Int32.ofInt z14_)), (4, .ref a10_), (0, .ref 340), (1, .int (Int32.ofInt ad))]) hm_97 rfl rfl (Nat.le_of_ble_eq_true rfl) rfl rfl ?_
      refine fl_goto hm_97 rfl ?_
      have e38_ : F31_ 120 3 = F 120 3 := (s33_ 120 3 rfl).trans (e6_)
      exact fl_R_sub (lv' := [(3, .int (Int32.ofInt (k + 1))), (2, .int (Int32.ofInt 1)), (0, .ref 340), (1, .int (Int32.ofInt ad))]) rfl rfl (ih3_ _ (by omega) (k + 1) (1) F31_ rfl g32_ (fs_tr hf_F1 s33_ rfl) (⟨by omega, by omega⟩) (⟨by omega, by omega⟩))
    refine ga_iload_n (z := 100000) hm_196 rfl rfl ?_
    refine fl_goto hm_196 rfl ?_
    refine gr_i hm_196 rfl rfl rfl ?_
    clear h25_ h26_ f23_ l24_
    refine gVi (nY := 6) (F := 0) (L := 0) (As := [.ref a10_, .int (Int32.ofInt 100000)]) (b := 340) (rest := []) hm_97 rfl hm_98 rfl rfl (fl_ob sc_340) rfl rfl rfl rfl rfl (by omega) (by omega) (mc_98 hG F1 X hg_F1 (a10_) (100000) n12_ (⟨by omega, by omega⟩)) (fun _ _ h => False.elim h) ?_
    rintro z39_ A1_ ⟨F41_, hA_, g42_, s43_, c40_⟩
    subst hA_
    have g44_ : fs [(341, 341, 0, 100000)] F F41_ := fs_tr g5_ s43_ rfl
    refine fl_if_eq (a := z39_) hm_97 rfl ⟨by omega, by omega⟩ (fun h45_ => ?_) (fun h46_ => ?_)
    ·
      refine ga_inc (a := k) (c := k + 1) (lv2 := [(3, .int (Int32.ofInt (k + 1))), (5, .int (Int32.ofInt z14_)), (4, .ref a10_), (2, .int (Int32.ofInt ch)), (0, .ref 340), (1, .int (Int32.ofInt ad))]) hm_97 rfl rfl (Nat.le_of_ble_eq_true rfl) rfl rfl ?_
      refine fl_goto hm_97 rfl ?_
      have e47_ : F41_ 120 3 = F 120 3 := (s43_ 120 3 rfl).trans (e6_)
      exact fl_R_sub (lv' := [(3, .int (Int32.ofInt (k + 1))), (2, .int (Int32.ofInt ch)), (0, .ref 340), (1, .int (Int32.ofInt ad))]) rfl rfl (ih3_ _ (by omega) (k + 1) (ch) F41_ rfl g42_ (fs_tr hf_F1 s43_ rfl) (⟨by omega, by omega⟩) (⟨by omega, by omega⟩))
    refine fl_iconst hm_97 rfl ?_
    refine ga_istore_n (lv2 := [(2, .int (Int32.ofInt 1)), (5, .int (Int32.ofInt z14_)), (4, .ref a10_), (3, .int (Int32.ofInt k)), (0, .ref 340), (1, .int (Int32.ofInt ad))]) hm_97 rfl (Nat.le_of_ble_eq_true rfl) rfl ?_
    refine ga_inc (a := k) (c := k + 1) (lv2 := [(3, .int (Int32.ofInt (k + 1))), (2, .int (Int32.ofInt 1)), (5, .int (Int32.ofInt z14_)), (4, .ref a10_), (0, .ref 340), (1, .int (Int32.ofInt ad))]) hm_97 rfl rfl (Nat.le_of_ble_eq_true rfl) rfl rfl ?_
    refine fl_goto hm_97 rfl ?_
    have e48_ : F41_ 120 3 = F 120 3 := (s43_ 120 3 rfl).trans (e6_)
    exact fl_R_sub (lv' := [(3, .int (Int32.ofInt (k + 1))), (2, .int (Int32.ofInt 1)), (0, .ref 340), (1, .int (Int32.ofInt ad))]) rfl rfl (ih3_ _ (by omega) (k + 1) (1) F41_ rfl g42_ (fs_tr hf_F1 s43_ rfl) (⟨by omega, by omega⟩) (⟨by omega, by omega⟩))
  have b49_ : 0 ≤ F 120 3 ∧ F 120 3 ≤ 41 := gi_g hgi rfl
  exact L2_ _ (0) (0) F rfl hgi fs_refl (⟨by omega, by omega⟩) (⟨by omega, by omega⟩)
/- CheapPlanner$Estimate.fromFirstState -/
abbrev pq_96 (G : Nat → Nat → Option Nat) (F : fl_N) (X : xi_H) (ad : Int) : Outcome → xi_H → Prop := gqi (fun z A => ∃ F' : fl_N, fl_H sh_T G F' ++ X = A ∧ gi F' ∧ fs [(341, 341, 0, 100000)] F F' ∧ (-2147483648 ≤ z ∧ z ≤ 2147483647)) gqn
theorem mc_96 {G : Nat → Nat → Option Nat} (hG : gg G) (F : fl_N) (X : xi_H) (hgi : gi F) (ad : Int) (had : 0 ≤ ad ∧ ad ≤ 1) : fl_M xi_ms 96 3 71 [.ref 340, .int (Int32.ofInt ad)] (fl_H sh_T G F ++ X) (pq_96 G F X ad) := by
  intro fr lo hfr hlo
  show fl_R xi_ms 96 fr lo 0 [(0, .ref 340), (1, .int (Int32.ofInt ad))] [] _ _
  refine fl_iconst hm_96 rfl ?_
  refine ga_istore_n (lv2 := [(2, .int (Int32.ofInt 0)), (0, .ref 340), (1, .int (Int32.ofInt ad))]) hm_96 rfl (Nat.le_of_ble_eq_true rfl) rfl ?_
  have L2_ : ∀ (n1_ : Nat) (k : Int) (F1 : fl_N), (F1 120 1 - k : Int).toNat = n1_ → (gi F1) → (fs [(341, 341, 0, 100000)] F F1) → (0 ≤ k ∧ k ≤ 40) → fl_R xi_ms 96 fr lo 2 [(2, .int (Int32.ofInt k)), (0, .ref 340), (1, .int (Int32.ofInt ad))] [] (fl_H sh_T G F1 ++ X) (pq_96 G F X ad) := by
    intro n1_
    induction n1_ using Nat.strongRecOn with
    | ind n1_ ih3_ =>
    intro k F1 hn4_ hg_F1 hf_F1 hk
    have g5_ : fs [(341, 341, 0, 100000)] F F1 := fs_tr fs_refl hf_F1 rfl
    refine ga_iload_n (z := k) hm_96 rfl rfl ?_
    refine ga_aload_n (v := .ref 340) hm_96 rfl rfl rfl ?_
    refine ga_getr (b := 120) hm_96 rfl sc_340 rfl ?_
    have e6_ : F1 120 1 = F 120 1 := (hf_F1 120 1 rfl).trans (rfl)
    have b7_ : 0 ≤ F 120 1 ∧ F 120 1 ≤ 40 := gi_g hgi rfl
    refine ga_geti (z := F 120 1) hm_96 rfl sc_120 rfl (e6_) ?_
    refine fl_icmp_ge (a := k) (b := F 120 1) hm_96 rfl ⟨by omega, by omega⟩ ⟨by omega, by omega⟩ (fun h8_ => ?_) (fun h9_ => ?_)
    ·
      refine fl_iconst hm_96 rfl ?_
      refine ga_istore_n (lv2 := [(2, .int (Int32.ofInt 1)), (0, .ref 340), (1, .int (Int32.ofInt ad))]) hm_96 rfl (Nat.le_of_ble_eq_true rfl) rfl ?_
      refine fl_iconst hm_96 rfl ?_
      refine ga_istore_n (lv2 := [(3, .int (Int32.ofInt 0)), (2, .int (Int32.ofInt 1)), (0, .ref 340), (1, .int (Int32.ofInt ad))]) hm_96 rfl (Nat.le_of_ble_eq_true rfl) rfl ?_
      have L11_ : ∀ (n10_ : Nat) (k2 : Int) (ch : Int) (F2 : fl_N), (41 - k2 : Int).toNat = n10_ → (gi F2) → (fs [(341, 341, 0, 100000)] F1 F2) → (0 ≤ k2 ∧ k2 ≤ 41) → (0 ≤ ch ∧ ch ≤ 1) → fl_R xi_ms 96 fr lo 51 [(3, .int (Int32.ofInt k2)), (2, .int (Int32.ofInt ch)), (0, .ref 340), (1, .int (Int32.ofInt ad))] [] (fl_H sh_T G F2 ++ X) (pq_96 G F X ad) := by
        intro n10_
        induction n10_ using Nat.strongRecOn with
        | ind n10_ ih12_ =>
        intro k2 ch F2 hn13_ hg_F2 hf_F2 hk2 hch
        have g14_ : fs [(341, 341, 0, 100000)] F F2 := fs_tr g5_ hf_F2 rfl
        refine ga_iload_n (z := k2) hm_96 rfl rfl ?_
        refine fl_bipush hm_96 rfl rfl ?_
        refine fl_icmp_gt (a := k2) (b := 40) hm_96 rfl ⟨by omega, by omega⟩ ⟨by omega, by omega⟩ (fun h15_ => ?_) (fun h16_ => ?_)
        ·
          refine ga_aload_n (v := .ref 340) hm_96 rfl rfl rfl ?_
          refine ga_aload_n (v := .ref 340) hm_96 rfl rfl rfl ?_
          refine ga_getr (b := 120) hm_96 rfl sc_340 rfl ?_
          refine ga_getr (b := 123) hm_96 rfl sc_120 rfl ?_
          refine ga_iload_n (z := ad) hm_96 rfl rfl ?_
          refine gVi (nY := 6) (F := 1) (L := 21) (As := [.ref 123, .int (Int32.ofInt ad)]) (b := 340) (rest := []) hm_96 rfl hm_99 rfl rfl (fl_ob sc_340) rfl rfl rfl rfl rfl (by omega) (by omega) (mc_99 hG F2 X hg_F2 (123) (ad) nd_123 (⟨by omega, by omega⟩)) (fun _ _ h => False.elim h) ?_
          rintro z17_ A1_ ⟨hA_, c18_⟩
          subst hA_
          refine ga_istore_n (lv2 := [(3, .int (Int32.ofInt z17_)), (2, .int (Int32.ofInt ch)), (0, .ref 340), (1, .int (Int32.ofInt ad))]) hm_96 rfl (Nat.le_of_ble_eq_true rfl) rfl ?_
          refine ga_iload_n (z := z17_) hm_96 rfl rfl ?_
          refine ga_ldci (z := 2147483647) hm_96 rfl (by decide) ?_
          refine fx_icmp_ne (a := z17_) (b := 2147483647) hm_96 rfl ⟨by omega, by omega⟩ ⟨by omega, by omega⟩ (fun h19_ => ?_) (fun h20_ => ?_)
          ·
            refine ga_iload_n (z := z17_) hm_96 rfl rfl ?_
            refine gr_i (z := z17_) hm_96 rfl rfl rfl ?_
            exact ⟨F2, rfl, hg_F2, g14_, (⟨by omega, by omega⟩)⟩
          refine fl_iconst hm_96 rfl ?_
          refine fl_goto hm_96 rfl ?_
          refine gr_i (z := -1) hm_96 rfl rfl rfl ?_
          exact ⟨F2, rfl, hg_F2, g14_, (⟨by omega, by omega⟩)⟩
        refine ga_iload_n (z := ch) hm_96 rfl rfl ?_
        refine fl_if_eq (a := ch) hm_96 rfl ⟨by omega, by omega⟩ (fun h21_ => ?_) (fun h22_ => ?_)
        ·
          refine ga_aload_n (v := .ref 340) hm_96 rfl rfl rfl ?_
          refine ga_aload_n (v := .ref 340) hm_96 rfl rfl rfl ?_
          refine ga_getr (b := 120) hm_96 rfl sc_340 rfl ?_
          refine ga_getr (b := 123) hm_96 rfl sc_120 rfl ?_
          refine ga_iload_n (z := ad) hm_96 rfl rfl ?_
          refine gVi (nY := 6) (F := 1) (L := 21) (As := [.ref 123, .int (Int32.ofInt ad)]) (b := 340) (rest := []) hm_96 rfl hm_99 rfl rfl (fl_ob sc_340) rfl rfl rfl rfl rfl (by omega) (by omega) (mc_99 hG F2 X hg_F2 (123) (ad) nd_123 (⟨by omega, by omega⟩)) (fun _ _ h => False.elim h) ?_
          rintro z23_ A1_ ⟨hA_, c24_⟩
          subst hA_
          refine ga_istore_n (lv2 := [(3, .int (Int32.ofInt z23_)), (2, .int (Int32.ofInt ch)), (0, .ref 340), (1, .int (Int32.ofInt ad))]) hm_96 rfl (Nat.le_of_ble_eq_true rfl) rfl ?_
          refine ga_iload_n (z := z23_) hm_96 rfl rfl ?_
          refine ga_ldci (z := 2147483647) hm_96 rfl (by decide) ?_
          refine fx_icmp_ne (a := z23_) (b := 2147483647) hm_96 rfl ⟨by omega, by omega⟩ ⟨by omega, by omega⟩ (fun h25_ => ?_) (fun h26_ => ?_)
          ·
            refine ga_iload_n (z := z23_) hm_96 rfl rfl ?_
            refine gr_i (z := z23_) hm_96 rfl rfl rfl ?_
            exact ⟨F2, rfl, hg_F2, g14_, (⟨by omega, by omega⟩)⟩
          refine fl_iconst hm_96 rfl ?_
          refine fl_goto hm_96 rfl ?_
          refine gr_i (z := -1) hm_96 rfl rfl rfl ?_
          exact ⟨F2, rfl, hg_F2, g14_, (⟨by omega, by omega⟩)⟩
        refine ga_aload_n (v := .ref 340) hm_96 rfl rfl rfl ?_
        refine ga_iload_n (z := ad) hm_96 rfl rfl ?_
        refine gVi (nY := 6) (F := 2) (L := 46) (As := [.int (Int32.ofInt ad)]) (b := 340) (rest := []) hm_96 rfl hm_97 rfl rfl (fl_ob sc_340) rfl rfl rfl rfl rfl (by omega) (by omega) (mc_97 hG F2 X hg_F2 (ad) (⟨by omega, by omega⟩)) (fun _ _ h => False.elim h) ?_
        rintro z27_ A1_ ⟨F29_, hA_, g30_, s31_, c28_⟩
        subst hA_
        have g32_ : fs [(341, 341, 0, 100000)] F F29_ := fs_tr g14_ s31_ rfl
        refine ga_istore_n (lv2 := [(2, .int (Int32.ofInt z27_)), (3, .int (Int32.ofInt k2)), (0, .ref 340), (1, .int (Int32.ofInt ad))]) hm_96 rfl (Nat.le_of_ble_eq_true rfl) rfl ?_
        refine ga_inc (a := k2) (c := k2 + 1) (lv2 := [(3, .int (Int32.ofInt (k2 + 1))), (2, .int (Int32.ofInt z27_)), (0, .ref 340), (1, .int (Int32.ofInt ad))]) hm_96 rfl rfl (Nat.le_of_ble_eq_true rfl) rfl rfl ?_
        refine fl_goto hm_96 rfl ?_
        exact ih12_ _ (by omega) (k2 + 1) (z27_) F29_ rfl g30_ (fs_tr hf_F2 s31_ rfl) (⟨by omega, by omega⟩) (⟨by omega, by omega⟩)
      exact L11_ _ (0) (1) F1 rfl hg_F1 fs_refl (⟨by omega, by omega⟩) (⟨by omega, by omega⟩)
    refine ga_aload_n (v := .ref 340) hm_96 rfl rfl rfl ?_
    refine ga_getr (b := 341) hm_96 rfl sc_340 rfl ?_
    refine ga_iload_n (z := k) hm_96 rfl rfl ?_
    refine ga_aload_n (v := .ref 340) hm_96 rfl rfl rfl ?_
    refine ga_getr (b := 120) hm_96 rfl sc_340 rfl ?_
    have e33_ : F1 120 4 = F 120 4 := (hf_F1 120 4 rfl).trans (rfl)
    have b34_ : -9223372036854775808 ≤ F 120 4 ∧ F 120 4 ≤ 9223372036854775807 := gi_g hgi rfl
    refine ga_getl (z := F 120 4) hm_96 rfl sc_120 rfl (e33_) ?_
    refine ga_iload_n (z := k) hm_96 rfl rfl ?_
    refine ga_lany hm_96 rfl rfl rfl (fun z35_ ⟨h36_, h37_⟩ => ?_)
    refine ga_lconst (z := 1) hm_96 rfl rfl ?_
    refine ga_lany hm_96 rfl rfl rfl (fun z38_ ⟨h39_, h40_⟩ => ?_)
    refine ga_lconst (z := 0) hm_96 rfl rfl ?_
    refine ga_lcmpq (a := z38_) (b := 0) hm_96 rfl rfl ⟨by omega, by omega⟩ ⟨by omega, by omega⟩ (fun h41_ => ?_) (fun h42_ => ?_)
    ·
      refine ga_ldci (z := 2147483647) hm_96 rfl (by decide) ?_
      refine fl_iast (z := k) (v := 2147483647) hm_96 rfl sc_341 (by omega) (by omega) (by omega) ?_
      refine ga_inc (a := k) (c := k + 1) (lv2 := [(2, .int (Int32.ofInt (k + 1))), (0, .ref 340), (1, .int (Int32.ofInt ad))]) hm_96 rfl rfl (Nat.le_of_ble_eq_true rfl) rfl rfl ?_
      refine fl_goto hm_96 rfl ?_
      obtain ⟨F43_, q44_⟩ : ∃ Fq_, Fq_ = (fl_u F1 341 k.toNat 2147483647) := ⟨_, rfl⟩
      rw [← q44_]
      have g45_ : gi F43_ := by rw [q44_]; exact gi_u (hg_F1) rfl (by omega) (by omega)
      have g46_ : fs [(341, 341, 0, 100000)] F F43_ := by rw [q44_]; exact fs_u (g5_) (fs_y (by omega))
      have e47_ : F43_ 120 1 = F 120 1 := by rw [q44_]; exact (fl_u_ne (by first | exact nc_ rfl | decide | omega)).trans (e6_)
      exact ih3_ _ (by omega) (k + 1) F43_ rfl g45_ (by rw [q44_]; exact fs_u (hf_F1) (fs_y (by omega))) (⟨by omega, by omega⟩)
    refine fl_iconst hm_96 rfl ?_
    refine fl_goto hm_96 rfl ?_
    refine fl_iast (z := k) (v := 0) hm_96 rfl sc_341 (by omega) (by omega) (by omega) ?_
    refine ga_inc (a := k) (c := k + 1) (lv2 := [(2, .int (Int32.ofInt (k + 1))), (0, .ref 340), (1, .int (Int32.ofInt ad))]) hm_96 rfl rfl (Nat.le_of_ble_eq_true rfl) rfl rfl ?_
    refine fl_goto hm_96 rfl ?_
    obtain ⟨F48_, q49_⟩ : ∃ Fq_, Fq_ = (fl_u F1 341 k.toNat 0) := ⟨_, rfl⟩
    rw [← q49_]
    have g50_ : gi F48_ := by rw [q49_]; exact gi_u (hg_F1) rfl (by omega) (by omega)
    have g51_ : fs [(341, 341, 0, 100000)] F F48_ := by rw [q49_]; exact fs_u (g5_) (fs_y (by omega))
    have e52_ : F48_ 120 1 = F 120 1 := by rw [q49_]; exact (fl_u_ne (by first | exact nc_ rfl | decide | omega)).trans (e6_)
    exact ih3_ _ (by omega) (k + 1) F48_ rfl g50_ (by rw [q49_]; exact fs_u (hf_F1) (fs_y (by omega))) (⟨by omega, by omega⟩)
  have b53_ : 0 ≤ F 120 1 ∧ F 120 1 ≤ 40 := gi_g hgi rfl
  exact L2_ _ (0) F rfl hgi fs_refl (⟨by omega, by omega⟩)
/- CheapPlanner.tellName -/
abbrev pq_84 (G : Nat → Nat → Option Nat) (F : fl_N) (X : xi_H) (v : Int) : Outcome → xi_H → Prop := gqv (fun A => ∃ F' : fl_N, fl_H sh_T G F' ++ X = A ∧ gi F' ∧ fs [(0, 0, 12, 12), (343, 343, 0, 100000)] F F') gqn
theorem mc_84 {G : Nat → Nat → Option Nat} (hG : gg G) (F : fl_N) (X : xi_H) (hgi : gi F) (v : Int) (hv : -9223372036854775808 ≤ v ∧ v ≤ 9223372036854775807) : fl_M xi_ms 84 1 21 [.ref 0, .long (Int64.ofInt v)] (fl_H sh_T G F ++ X) (pq_84 G F X v) := by
  intro fr lo hfr hlo
  show fl_R xi_ms 84 fr lo 0 [(0, .ref 0), (1, .long (Int64.ofInt v))] [] _ _
  refine fl_bipush hm_84 rfl rfl ?_
  refine ga_istore_n (lv2 := [(3, .int (Int32.ofInt 40)), (0, .ref 0), (1, .long (Int64.ofInt v))]) hm_84 rfl (Nat.le_of_ble_eq_true rfl) rfl ?_
  have L2_ : ∀ (n1_ : Nat) (sh : Int) (F1 : fl_N), (sh + 8 : Int).toNat = n1_ → (gi F1) → (fs [(0, 0, 12, 12), (343, 343, 0, 100000)] F F1) → (-8 ≤ sh ∧ sh ≤ 40) → fl_R xi_ms 84 fr lo 3 [(3, .int (Int32.ofInt sh)), (0, .ref 0), (1, .long (Int64.ofInt v))] [] (fl_H sh_T G F1 ++ X) (pq_84 G F X v) := by
    intro n1_
    induction n1_ using Nat.strongRecOn with
    | ind n1_ ih3_ =>
    intro sh F1 hn4_ hg_F1 hf_F1 hs
    have g5_ : fs [(0, 0, 12, 12), (343, 343, 0, 100000)] F F1 := fs_tr fs_refl hf_F1 rfl
    refine ga_iload_n (z := sh) hm_84 rfl rfl ?_
    refine fl_if_lt (a := sh) hm_84 rfl ⟨by omega, by omega⟩ (fun h6_ => ?_) (fun h7_ => ?_)
    ·
      refine gr_v hm_84 rfl rfl ?_
      exact ⟨F1, rfl, hg_F1, g5_⟩
    refine ga_lload_n (z := v) hm_84 rfl rfl ?_
    refine ga_iload_n (z := sh) hm_84 rfl rfl ?_
    refine ga_lany hm_84 rfl rfl rfl (fun z8_ ⟨h9_, h10_⟩ => ?_)
    refine ga_l2i hm_84 rfl ?_
    refine fl_sipush hm_84 rfl rfl ?_
    refine ga_iand (m := 255) hm_84 rfl (by omega) (fun z11_ h12_ h13_ => ?_)
    refine ga_istore (lv2 := [(4, .int (Int32.ofInt z11_)), (3, .int (Int32.ofInt sh)), (0, .ref 0), (1, .long (Int64.ofInt v))]) hm_84 rfl (Nat.le_of_ble_eq_true rfl) rfl ?_
    refine ga_iload (z := z11_) hm_84 rfl rfl ?_
    refine fl_if_eq (a := z11_) hm_84 rfl ⟨by omega, by omega⟩ (fun h14_ => ?_) (fun h15_ => ?_)
    ·
      refine ga_inc (a := sh) (c := sh - 8) (lv2 := [(3, .int (Int32.ofInt (sh - 8))), (4, .int (Int32.ofInt z11_)), (0, .ref 0), (1, .long (Int64.ofInt v))]) hm_84 rfl rfl (Nat.le_of_ble_eq_true rfl) (by omega) rfl ?_
      refine fl_goto hm_84 rfl ?_
      exact fl_R_sub (lv' := [(3, .int (Int32.ofInt (sh - 8))), (0, .ref 0), (1, .long (Int64.ofInt v))]) rfl rfl (ih3_ _ (by omega) (sh - 8) F1 rfl hg_F1 hf_F1 (⟨by omega, by omega⟩))
    refine ga_aload_n (v := .ref 0) hm_84 rfl rfl rfl ?_
    refine ga_iload (z := z11_) hm_84 rfl rfl ?_
    refine ga_i2c hm_84 rfl (by omega) (by omega) ?_
    refine gIv (nY := 2) (F := 0) (L := 0) (As := [.int (Int32.ofInt z11_)]) (b := 0) (rest := []) hm_84 rfl hm_83 rfl rfl (fl_ob sc_0) rfl rfl rfl rfl rfl (by omega) (by omega) ?_
    intro f16_ l17_ h18_ h19_
    show fl_R xi_ms 83 f16_ l17_ 0 [(0, .ref 0), (1, .int (Int32.ofInt z11_))] [] _ _
    refine ga_aload_n (v := .ref 0) hm_83 rfl rfl rfl ?_
    have b20_ : 0 ≤ F1 0 12 ∧ F1 0 12 ≤ 6000 := gi_g hg_F1 rfl
    refine ga_geti (z := F1 0 12) hm_83 rfl sc_0 rfl (rfl) ?_
    refine ga_aload_n (v := .ref 0) hm_83 rfl rfl rfl ?_
    refine ga_getr (b := 343) hm_83 rfl sc_0 rfl ?_
    refine fl_alen hm_83 rfl ⟨_, fl_at sc_343⟩ rfl ?_
    refine fl_icmp_ge (a := F1 0 12) (b := 6000) hm_83 rfl ⟨by omega, by omega⟩ ⟨by omega, by omega⟩ (fun h21_ => ?_) (fun h22_ => ?_)
    ·
      refine gr_v hm_83 rfl rfl ?_
      clear h18_ h19_ f16_ l17_
      refine ga_inc (a := sh) (c := sh - 8) (lv2 := [(3, .int (Int32.ofInt (sh - 8))), (4, .int (Int32.ofInt z11_)), (0, .ref 0), (1, .long (Int64.ofInt v))]) hm_84 rfl rfl (Nat.le_of_ble_eq_true rfl) (by omega) rfl ?_
      refine fl_goto hm_84 rfl ?_
      exact fl_R_sub (lv' := [(3, .int (Int32.ofInt (sh - 8))), (0, .ref 0), (1, .long (Int64.ofInt v))]) rfl rfl (ih3_ _ (by omega) (sh - 8) F1 rfl hg_F1 hf_F1 (⟨by omega, by omega⟩))
    refine ga_aload_n (v := .ref 0) hm_83 rfl rfl rfl ?_
    refine ga_getr (b := 343) hm_83 rfl sc_0 rfl ?_
    refine ga_aload_n (v := .ref 0) hm_83 rfl rfl rfl ?_
    refine ga_geti (z := F1 0 12) hm_83 rfl sc_0 rfl (rfl) ?_
    refine ga_iload_n (z := z11_) hm_83 rfl rfl ?_
    refine fl_cast (z := F1 0 12) (v := z11_) hm_83 rfl sc_343 (by omega) (by omega) (by omega) (ga_vc (by omega) (by omega)) ?_
    refine ga_aload_n (v := .ref 0) hm_83 rfl rfl rfl ?_
    refine ga_dup hm_83 rfl rfl ?_
    refine ga_geti (z := F1 0 12) hm_83 rfl sc_0 rfl (fl_u_ne (by first | exact nc_ rfl | decide | omega)) ?_
    refine fl_iconst hm_83 rfl ?_
    refine ga_iadd (a := F1 0 12) (b := 1) (c := F1 0 12 + 1) hm_83 rfl (by omega) ?_
    refine ga_puti (z := F1 0 12 + 1) hm_83 rfl sc_0 rfl rfl ?_
    refine gr_v hm_83 rfl rfl ?_
    clear h18_ h19_ f16_ l17_
    refine ga_inc (a := sh) (c := sh - 8) (lv2 := [(3, .int (Int32.ofInt (sh - 8))), (4, .int (Int32.ofInt z11_)), (0, .ref 0), (1, .long (Int64.ofInt v))]) hm_84 rfl rfl (Nat.le_of_ble_eq_true rfl) (by omega) rfl ?_
    refine fl_goto hm_84 rfl ?_
    obtain ⟨F23_, q24_⟩ : ∃ Fq_, Fq_ = (fl_u (fl_u F1 343 (F1 0 12).toNat z11_) 0 12 (F1 0 12 + 1)) := ⟨_, rfl⟩
    rw [← q24_]
    have g25_ : gi F23_ := by rw [q24_]; exact gi_u (gi_u (hg_F1) rfl (by omega) (by omega)) rfl (by omega) (by omega)
    have g26_ : fs [(0, 0, 12, 12), (343, 343, 0, 100000)] F F23_ := by rw [q24_]; exact fs_u (fs_u (g5_) (fs_z (fs_y (by omega)))) rfl
    exact fl_R_sub (lv' := [(3, .int (Int32.ofInt (sh - 8))), (0, .ref 0), (1, .long (Int64.ofInt v))]) rfl rfl (ih3_ _ (by omega) (sh - 8) F23_ rfl g25_ (by rw [q24_]; exact fs_u (fs_u (hf_F1) (fs_z (fs_y (by omega)))) rfl) (⟨by omega, by omega⟩))
  exact L2_ _ (40) F rfl hgi fs_refl (⟨by omega, by omega⟩)
/- CheapPlanner.tellStep -/
abbrev pq_85 (G : Nat → Nat → Option Nat) (F : fl_N) (X : xi_H) (a : Nat) : Outcome → xi_H → Prop := gqv (fun A => ∃ F' : fl_N, fl_H sh_T G F' ++ X = A ∧ gi F' ∧ fs [(0, 0, 12, 12), (343, 343, 0, 100000)] F F') gqn
theorem mc_85 {G : Nat → Nat → Option Nat} (hG : gg G) (F : fl_N) (X : xi_H) (hgi : gi F) (a : Nat) (h_a : sp a) : fl_M xi_ms 85 2 45 [.ref 0, .ref a] (fl_H sh_T G F ++ X) (pq_85 G F X a) := by
  intro fr lo hfr hlo
  show fl_R xi_ms 85 fr lo 0 [(0, .ref 0), (1, .ref a)] [] _ _
  have hr_a := h_a.2.2
  refine ga_aload_n (v := .ref 0) hm_85 rfl rfl rfl ?_
  refine fl_bipush hm_85 rfl rfl ?_
  refine gIv (nY := 2) (F := 0) (L := 0) (As := [.int (Int32.ofInt 40)]) (b := 0) (rest := []) hm_85 rfl hm_83 rfl rfl (fl_ob sc_0) rfl rfl rfl rfl rfl (by omega) (by omega) ?_
  intro f1_ l2_ h3_ h4_
  show fl_R xi_ms 83 f1_ l2_ 0 [(0, .ref 0), (1, .int (Int32.ofInt 40))] [] _ _
  refine ga_aload_n (v := .ref 0) hm_83 rfl rfl rfl ?_
  have b5_ : 0 ≤ F 0 12 ∧ F 0 12 ≤ 6000 := gi_g hgi rfl
  refine ga_geti (z := F 0 12) hm_83 rfl sc_0 rfl (rfl) ?_
  refine ga_aload_n (v := .ref 0) hm_83 rfl rfl rfl ?_
  refine ga_getr (b := 343) hm_83 rfl sc_0 rfl ?_
  refine fl_alen hm_83 rfl ⟨_, fl_at sc_343⟩ rfl ?_
  refine fl_icmp_ge (a := F 0 12) (b := 6000) hm_83 rfl ⟨by omega, by omega⟩ ⟨by omega, by omega⟩ (fun h6_ => ?_) (fun h7_ => ?_)
  ·
    refine gr_v hm_83 rfl rfl ?_
    clear h3_ h4_ f1_ l2_
    refine ga_aload_n (v := .ref 0) hm_85 rfl rfl rfl ?_
    refine ga_aload_n (v := .ref 0) hm_85 rfl rfl rfl ?_
    refine ga_getr (b := 7) hm_85 rfl sc_0 rfl ?_
    refine ga_getr (b := 15) hm_85 rfl sc_7 rfl ?_
    refine ga_getr (b := 16) hm_85 rfl sc_15 rfl ?_
    refine ga_aload_n (v := .ref a) hm_85 rfl rfl rfl ?_
    have b8_ : 0 ≤ F a 0 ∧ F a 0 ≤ 4 := gi_g hgi h_a.2.1.1
    refine ga_geti (z := F a 0) hm_85 rfl h_a.1.1 rfl (rfl) ?_
    have b9_ : -9223372036854775808 ≤ F 16 (F a 0).toNat ∧ F 16 (F a 0).toNat ≤ 9223372036854775807 := gi_g hgi rfl
    refine ga_lald (z := F a 0) (w := F 16 (F a 0).toNat) hm_85 rfl sc_16 (by omega) (by omega) (by omega) (rfl) ?_
    refine gVv (nY := 5) (F := 1) (L := 21) (As := [.long (Int64.ofInt (F 16 (F a 0).toNat))]) (b := 0) (rest := []) hm_85 rfl hm_84 rfl rfl (fl_ob sc_0) rfl rfl rfl rfl rfl (by omega) (by omega) (mc_84 hG F X hgi (F 16 (F a 0).toNat) (⟨by omega, by omega⟩)) (fun _ _ h => False.elim h) ?_
    rintro A1_ ⟨F11_, hA_, g12_, s13_⟩
    subst hA_
    have g14_ : fs [(0, 0, 12, 12), (343, 343, 0, 100000)] F F11_ := fs_tr fs_refl s13_ rfl
    refine fl_iconst hm_85 rfl ?_
    refine ga_istore_n (lv2 := [(2, .int (Int32.ofInt 0)), (0, .ref 0), (1, .ref a)]) hm_85 rfl (Nat.le_of_ble_eq_true rfl) rfl ?_
    have L16_ : ∀ (n15_ : Nat) (k : Int) (F1 : fl_N), (3 - k : Int).toNat = n15_ → (gi F1) → (fs [(0, 0, 12, 12), (343, 343, 0, 100000)] F11_ F1) → (0 ≤ k ∧ k ≤ 3) → fl_R xi_ms 85 fr lo 27 [(2, .int (Int32.ofInt k)), (0, .ref 0), (1, .ref a)] [] (fl_H sh_T G F1 ++ X) (pq_85 G F X a) := by
      intro n15_
      induction n15_ using Nat.strongRecOn with
      | ind n15_ ih17_ =>
      intro k F1 hn18_ hg_F1 hf_F1 hk
      have g19_ : fs [(0, 0, 12, 12), (343, 343, 0, 100000)] F F1 := fs_tr g14_ hf_F1 rfl
      refine ga_iload_n (z := k) hm_85 rfl rfl ?_
      refine fl_iconst hm_85 rfl ?_
      refine fl_icmp_ge (a := k) (b := 3) hm_85 rfl ⟨by omega, by omega⟩ ⟨by omega, by omega⟩ (fun h20_ => ?_) (fun h21_ => ?_)
      ·
        refine ga_aload_n (v := .ref 0) hm_85 rfl rfl rfl ?_
        refine fl_bipush hm_85 rfl rfl ?_
        refine gIv (nY := 2) (F := 0) (L := 0) (As := [.int (Int32.ofInt 41)]) (b := 0) (rest := []) hm_85 rfl hm_83 rfl rfl (fl_ob sc_0) rfl rfl rfl rfl rfl (by omega) (by omega) ?_
        intro f22_ l23_ h24_ h25_
        show fl_R xi_ms 83 f22_ l23_ 0 [(0, .ref 0), (1, .int (Int32.ofInt 41))] [] _ _
        refine ga_aload_n (v := .ref 0) hm_83 rfl rfl rfl ?_
        have b26_ : 0 ≤ F1 0 12 ∧ F1 0 12 ≤ 6000 := gi_g hg_F1 rfl
        refine ga_geti (z := F1 0 12) hm_83 rfl sc_0 rfl (rfl) ?_
        refine ga_aload_n (v := .ref 0) hm_83 rfl rfl rfl ?_
        refine ga_getr (b := 343) hm_83 rfl sc_0 rfl ?_
        refine fl_alen hm_83 rfl ⟨_, fl_at sc_343⟩ rfl ?_
        refine fl_icmp_ge (a := F1 0 12) (b := 6000) hm_83 rfl ⟨by omega, by omega⟩ ⟨by omega, by omega⟩ (fun h27_ => ?_) (fun h28_ => ?_)
        ·
          refine gr_v hm_83 rfl rfl ?_
          clear h24_ h25_ f22_ l23_
          refine ga_aload_n (v := .ref 0) hm_85 rfl rfl rfl ?_
          refine fl_bipush hm_85 rfl rfl ?_
          refine gIv (nY := 2) (F := 0) (L := 0) (As := [.int (Int32.ofInt 10)]) (b := 0) (rest := []) hm_85 rfl hm_83 rfl rfl (fl_ob sc_0) rfl rfl rfl rfl rfl (by omega) (by omega) ?_
          intro f29_ l30_ h31_ h32_
          show fl_R xi_ms 83 f29_ l30_ 0 [(0, .ref 0), (1, .int (Int32.ofInt 10))] [] _ _
          refine ga_aload_n (v := .ref 0) hm_83 rfl rfl rfl ?_
          refine ga_geti (z := F1 0 12) hm_83 rfl sc_0 rfl (rfl) ?_
          refine ga_aload_n (v := .ref 0) hm_83 rfl rfl rfl ?_
          refine ga_getr (b := 343) hm_83 rfl sc_0 rfl ?_
          refine fl_alen hm_83 rfl ⟨_, fl_at sc_343⟩ rfl ?_
          refine fl_icmp_ge (a := F1 0 12) (b := 6000) hm_83 rfl ⟨by omega, by omega⟩ ⟨by omega, by omega⟩ (fun h33_ => ?_) (fun h34_ => ?_)
          ·
            refine gr_v hm_83 rfl rfl ?_
            clear h31_ h32_ f29_ l30_
            refine gr_v hm_85 rfl rfl ?_
            exact ⟨F1, rfl, hg_F1, g19_⟩
          exfalso; omega
        refine ga_aload_n (v := .ref 0) hm_83 rfl rfl rfl ?_
        refine ga_getr (b := 343) hm_83 rfl sc_0 rfl ?_
        refine ga_aload_n (v := .ref 0) hm_83 rfl rfl rfl ?_
        refine ga_geti (z := F1 0 12) hm_83 rfl sc_0 rfl (rfl) ?_
        refine ga_iload_n (z := 41) hm_83 rfl rfl ?_
        refine fl_cast (z := F1 0 12) (v := 41) hm_83 rfl sc_343 (by omega) (by omega) (by omega) (ga_vc (by omega) (by omega)) ?_
        refine ga_aload_n (v := .ref 0) hm_83 rfl rfl rfl ?_
        refine ga_dup hm_83 rfl rfl ?_
        refine ga_geti (z := F1 0 12) hm_83 rfl sc_0 rfl (fl_u_ne (by first | exact nc_ rfl | decide | omega)) ?_
        refine fl_iconst hm_83 rfl ?_
        refine ga_iadd (a := F1 0 12) (b := 1) (c := F1 0 12 + 1) hm_83 rfl (by omega) ?_
        refine ga_puti (z := F1 0 12 + 1) hm_83 rfl sc_0 rfl rfl ?_
        refine gr_v hm_83 rfl rfl ?_
        clear h24_ h25_ f22_ l23_
        refine ga_aload_n (v := .ref 0) hm_85 rfl rfl rfl ?_
        refine fl_bipush hm_85 rfl rfl ?_
        refine gIv (nY := 2) (F := 0) (L := 0) (As := [.int (Int32.ofInt 10)]) (b := 0) (rest := []) hm_85 rfl hm_83 rfl rfl (fl_ob sc_0) rfl rfl rfl rfl rfl (by omega) (by omega) ?_
        intro f35_ l36_ h37_ h38_
        show fl_R xi_ms 83 f35_ l36_ 0 [(0, .ref 0), (1, .int (Int32.ofInt 10))] [] _ _
        refine ga_aload_n (v := .ref 0) hm_83 rfl rfl rfl ?_
        refine ga_geti (z := F1 0 12 + 1) hm_83 rfl sc_0 rfl (fl_u_eq) ?_
        refine ga_aload_n (v := .ref 0) hm_83 rfl rfl rfl ?_
        refine ga_getr (b := 343) hm_83 rfl sc_0 rfl ?_
        refine fl_alen hm_83 rfl ⟨_, fl_at sc_343⟩ rfl ?_
        refine fl_icmp_ge (a := F1 0 12 + 1) (b := 6000) hm_83 rfl ⟨by omega, by omega⟩ ⟨by omega, by omega⟩ (fun h39_ => ?_) (fun h40_ => ?_)
        ·
          refine gr_v hm_83 rfl rfl ?_
          clear h37_ h38_ f35_ l36_
          obtain ⟨F41_, q42_⟩ : ∃ Fq_, Fq_ = (fl_u (fl_u F1 343 (F1 0 12).toNat 41) 0 12 (F1 0 12 + 1)) := ⟨_, rfl⟩
          rw [← q42_]
          have g43_ : gi F41_ := by rw [q42_]; exact gi_u (gi_u (hg_F1) rfl (by omega) (by omega)) rfl (by omega) (by omega)
          have g44_ : fs [(0, 0, 12, 12), (343, 343, 0, 100000)] F F41_ := by rw [q42_]; exact fs_u (fs_u (g19_) (fs_z (fs_y (by omega)))) rfl
          refine gr_v hm_85 rfl rfl ?_
          exact ⟨F41_, rfl, g43_, g44_⟩
        refine ga_aload_n (v := .ref 0) hm_83 rfl rfl rfl ?_
        refine ga_getr (b := 343) hm_83 rfl sc_0 rfl ?_
        refine ga_aload_n (v := .ref 0) hm_83 rfl rfl rfl ?_
        refine ga_geti (z := F1 0 12 + 1) hm_83 rfl sc_0 rfl (fl_u_eq) ?_
        refine ga_iload_n (z := 10) hm_83 rfl rfl ?_
        refine fl_cast (z := F1 0 12 + 1) (v := 10) hm_83 rfl sc_343 (by omega) (by omega) (by omega) (ga_vc (by omega) (by omega)) ?_
        refine ga_aload_n (v := .ref 0) hm_83 rfl rfl rfl ?_
        refine ga_dup hm_83 rfl rfl ?_
        refine ga_geti (z := F1 0 12 + 1) hm_83 rfl sc_0 rfl ((fl_u_ne (by first | exact nc_ rfl | decide | omega)).trans (fl_u_eq)) ?_
        refine fl_iconst hm_83 rfl ?_
        refine ga_iadd (a := F1 0 12 + 1) (b := 1) (c := F1 0 12 + 2) hm_83 rfl (by omega) ?_
        refine ga_puti (z := F1 0 12 + 2) hm_83 rfl sc_0 rfl rfl ?_
        refine gr_v hm_83 rfl rfl ?_
        clear h37_ h38_ f35_ l36_
        obtain ⟨F45_, q46_⟩ : ∃ Fq_, Fq_ = (fl_u (fl_u (fl_u (fl_u F1 343 (F1 0 12).toNat 41) 0 12 (F1 0 12 + 1)) 343 (F1 0 12 + 1).toNat 10) 0 12 (F1 0 12 + 2)) := ⟨_, rfl⟩
        rw [← q46_]
        have g47_ : gi F45_ := by rw [q46_]; exact gi_u (gi_u (gi_u (gi_u (hg_F1) rfl (by omega) (by omega)) rfl (by omega) (by omega)) rfl (by omega) (by omega)) rfl (by omega) (by omega)
        have g48_ : fs [(0, 0, 12, 12), (343, 343, 0, 100000)] F F45_ := by rw [q46_]; exact fs_u (fs_u (fs_u (fs_u (g19_) (fs_z (fs_y (by omega)))) rfl) (fs_z (fs_y (by omega)))) rfl
        refine gr_v hm_85 rfl rfl ?_
        exact ⟨F45_, rfl, g47_, g48_⟩
      refine ga_aload_n (v := .ref a) hm_85 rfl rfl rfl ?_
      refine ga_getr (b := a + 1) hm_85 rfl h_a.1.1 rfl ?_
      refine ga_iload_n (z := k) hm_85 rfl rfl ?_
      have e49_ : F11_ (a + 1) k.toNat = F (a + 1) k.toNat := (s13_ (a + 1) k.toNat (by first | exact fs_c rfl | exact (fs_n (by omega) (fs_n (by omega) rfl)))).trans (rfl)
      have e50_ : F1 (a + 1) k.toNat = F (a + 1) k.toNat := (hf_F1 (a + 1) k.toNat (by first | exact fs_c rfl | exact (fs_n (by omega) (fs_n (by omega) rfl)))).trans (e49_)
      have b51_ : -1 ≤ F (a + 1) k.toNat ∧ F (a + 1) k.toNat ≤ 5 := gi_g hgi (gb_a h_a.2.1.2.1)
      refine ga_iald (z := k) (w := F (a + 1) k.toNat) hm_85 rfl h_a.1.2.1 (by omega) (by omega) (by omega) (e50_) ?_
      refine fl_if_lt (a := F (a + 1) k.toNat) hm_85 rfl ⟨by omega, by omega⟩ (fun h52_ => ?_) (fun h53_ => ?_)
      ·
        refine ga_inc (a := k) (c := k + 1) (lv2 := [(2, .int (Int32.ofInt (k + 1))), (0, .ref 0), (1, .ref a)]) hm_85 rfl rfl (Nat.le_of_ble_eq_true rfl) rfl rfl ?_
        refine fl_goto hm_85 rfl ?_
        exact ih17_ _ (by omega) (k + 1) F1 rfl hg_F1 hf_F1 (⟨by omega, by omega⟩)
      refine ga_aload_n (v := .ref 0) hm_85 rfl rfl rfl ?_
      refine fl_bipush hm_85 rfl rfl ?_
      refine gIv (nY := 2) (F := 0) (L := 0) (As := [.int (Int32.ofInt 32)]) (b := 0) (rest := []) hm_85 rfl hm_83 rfl rfl (fl_ob sc_0) rfl rfl rfl rfl rfl (by omega) (by omega) ?_
      intro f54_ l55_ h56_ h57_
      show fl_R xi_ms 83 f54_ l55_ 0 [(0, .ref 0), (1, .int (Int32.ofInt 32))] [] _ _
      refine ga_aload_n (v := .ref 0) hm_83 rfl rfl rfl ?_
      have b58_ : 0 ≤ F1 0 12 ∧ F1 0 12 ≤ 6000 := gi_g hg_F1 rfl
      refine ga_geti (z := F1 0 12) hm_83 rfl sc_0 rfl (rfl) ?_
      refine ga_aload_n (v := .ref 0) hm_83 rfl rfl rfl ?_
      refine ga_getr (b := 343) hm_83 rfl sc_0 rfl ?_
      refine fl_alen hm_83 rfl ⟨_, fl_at sc_343⟩ rfl ?_
      refine fl_icmp_ge (a := F1 0 12) (b := 6000) hm_83 rfl ⟨by omega, by omega⟩ ⟨by omega, by omega⟩ (fun h59_ => ?_) (fun h60_ => ?_)
      ·
        refine gr_v hm_83 rfl rfl ?_
        clear h56_ h57_ f54_ l55_
        refine ga_aload_n (v := .ref 0) hm_85 rfl rfl rfl ?_
        refine ga_aload_n (v := .ref 0) hm_85 rfl rfl rfl ?_
        refine ga_getr (b := 104) hm_85 rfl sc_0 rfl ?_
        refine ga_getr (b := 105) hm_85 rfl sc_104 rfl ?_
        refine ga_getr (b := 106) hm_85 rfl sc_105 rfl ?_
        refine ga_aload_n (v := .ref a) hm_85 rfl rfl rfl ?_
        refine ga_getr (b := a + 1) hm_85 rfl h_a.1.1 rfl ?_
        refine ga_iload_n (z := k) hm_85 rfl rfl ?_
        refine ga_iald (z := k) (w := F (a + 1) k.toNat) hm_85 rfl h_a.1.2.1 (by omega) (by omega) (by omega) (e50_) ?_
        have e61_ : F11_ 106 (F (a + 1) k.toNat).toNat = F 106 (F (a + 1) k.toNat).toNat := (s13_ 106 (F (a + 1) k.toNat).toNat (by first | exact fs_c rfl | exact (fs_n (by omega) (fs_n (by omega) rfl)))).trans (rfl)
        have e62_ : F1 106 (F (a + 1) k.toNat).toNat = F 106 (F (a + 1) k.toNat).toNat := (hf_F1 106 (F (a + 1) k.toNat).toNat (by first | exact fs_c rfl | exact (fs_n (by omega) (fs_n (by omega) rfl)))).trans (e61_)
        have b63_ : -9223372036854775808 ≤ F 106 (F (a + 1) k.toNat).toNat ∧ F 106 (F (a + 1) k.toNat).toNat ≤ 9223372036854775807 := gi_g hgi rfl
        refine ga_lald (z := F (a + 1) k.toNat) (w := F 106 (F (a + 1) k.toNat).toNat) hm_85 rfl sc_106 (by omega) (by omega) (by omega) (e62_) ?_
        refine gVv (nY := 5) (F := 1) (L := 21) (As := [.long (Int64.ofInt (F 106 (F (a + 1) k.toNat).toNat))]) (b := 0) (rest := []) hm_85 rfl hm_84 rfl rfl (fl_ob sc_0) rfl rfl rfl rfl rfl (by omega) (by omega) (mc_84 hG F1 X hg_F1 (F 106 (F (a + 1) k.toNat).toNat) (⟨by omega, by omega⟩)) (fun _ _ h => False.elim h) ?_
        rintro A1_ ⟨F65_, hA_, g66_, s67_⟩
        subst hA_
        have g68_ : fs [(0, 0, 12, 12), (343, 343, 0, 100000)] F F65_ := fs_tr g19_ s67_ rfl
        refine ga_inc (a := k) (c := k + 1) (lv2 := [(2, .int (Int32.ofInt (k + 1))), (0, .ref 0), (1, .ref a)]) hm_85 rfl rfl (Nat.le_of_ble_eq_true rfl) rfl rfl ?_
        refine fl_goto hm_85 rfl ?_
        exact ih17_ _ (by omega) (k + 1) F65_ rfl g66_ (fs_tr hf_F1 s67_ rfl) (⟨by omega, by omega⟩)
      refine ga_aload_n (v := .ref 0) hm_83 rfl rfl rfl ?_
      refine ga_getr (b := 343) hm_83 rfl sc_0 rfl ?_
      refine ga_aload_n (v := .ref 0) hm_83 rfl rfl rfl ?_
      refine ga_geti (z := F1 0 12) hm_83 rfl sc_0 rfl (rfl) ?_
      refine ga_iload_n (z := 32) hm_83 rfl rfl ?_
      refine fl_cast (z := F1 0 12) (v := 32) hm_83 rfl sc_343 (by omega) (by omega) (by omega) (ga_vc (by omega) (by omega)) ?_
      refine ga_aload_n (v := .ref 0) hm_83 rfl rfl rfl ?_
      refine ga_dup hm_83 rfl rfl ?_
      refine ga_geti (z := F1 0 12) hm_83 rfl sc_0 rfl (fl_u_ne (by first | exact nc_ rfl | decide | omega)) ?_
      refine fl_iconst hm_83 rfl ?_
      refine ga_iadd (a := F1 0 12) (b := 1) (c := F1 0 12 + 1) hm_83 rfl (by omega) ?_
      refine ga_puti (z := F1 0 12 + 1) hm_83 rfl sc_0 rfl rfl ?_
      refine gr_v hm_83 rfl rfl ?_
      clear h56_ h57_ f54_ l55_
      refine ga_aload_n (v := .ref 0) hm_85 rfl rfl rfl ?_
      refine ga_aload_n (v := .ref 0) hm_85 rfl rfl rfl ?_
      refine ga_getr (b := 104) hm_85 rfl sc_0 rfl ?_
      refine ga_getr (b := 105) hm_85 rfl sc_104 rfl ?_
      refine ga_getr (b := 106) hm_85 rfl sc_105 rfl ?_
      refine ga_aload_n (v := .ref a) hm_85 rfl rfl rfl ?_
      refine ga_getr (b := a + 1) hm_85 rfl h_a.1.1 rfl ?_
      refine ga_iload_n (z := k) hm_85 rfl rfl ?_
      refine ga_iald (z := k) (w := F (a + 1) k.toNat) hm_85 rfl h_a.1.2.1 (by omega) (by omega) (by omega) ((fl_u_ne (by first | exact nc_ rfl | decide | omega)).trans ((fl_u_ne (by first | exact nc_ rfl | decide | omega)).trans (e50_))) ?_
      have e69_ : F11_ 106 (F (a + 1) k.toNat).toNat = F 106 (F (a + 1) k.toNat).toNat := (s13_ 106 (F (a + 1) k.toNat).toNat (by first | exact fs_c rfl | exact (fs_n (by omega) (fs_n (by omega) rfl)))).trans (rfl)
      have e70_ : F1 106 (F (a + 1) k.toNat).toNat = F 106 (F (a + 1) k.toNat).toNat := (hf_F1 106 (F (a + 1) k.toNat).toNat (by first | exact fs_c rfl | exact (fs_n (by omega) (fs_n (by omega) rfl)))).trans (e69_)
      have b71_ : -9223372036854775808 ≤ F 106 (F (a + 1) k.toNat).toNat ∧ F 106 (F (a + 1) k.toNat).toNat ≤ 9223372036854775807 := gi_g hgi rfl
      refine ga_lald (z := F (a + 1) k.toNat) (w := F 106 (F (a + 1) k.toNat).toNat) hm_85 rfl sc_106 (by omega) (by omega) (by omega) ((fl_u_ne (by first | exact nc_ rfl | decide | omega)).trans ((fl_u_ne (by first | exact nc_ rfl | decide | omega)).trans (e70_))) ?_
      obtain ⟨F72_, q73_⟩ : ∃ Fq_, Fq_ = (fl_u (fl_u F1 343 (F1 0 12).toNat 32) 0 12 (F1 0 12 + 1)) := ⟨_, rfl⟩
      rw [← q73_]
      have g74_ : gi F72_ := by rw [q73_]; exact gi_u (gi_u (hg_F1) rfl (by omega) (by omega)) rfl (by omega) (by omega)
      have g75_ : fs [(0, 0, 12, 12), (343, 343, 0, 100000)] F F72_ := by rw [q73_]; exact fs_u (fs_u (g19_) (fs_z (fs_y (by omega)))) rfl
      refine gVv (nY := 5) (F := 1) (L := 21) (As := [.long (Int64.ofInt (F 106 (F (a + 1) k.toNat).toNat))]) (b := 0) (rest := []) hm_85 rfl hm_84 rfl rfl (fl_ob sc_0) rfl rfl rfl rfl rfl (by omega) (by omega) (mc_84 hG F72_ X g74_ (F 106 (F (a + 1) k.toNat).toNat) (⟨by omega, by omega⟩)) (fun _ _ h => False.elim h) ?_
      rintro A1_ ⟨F77_, hA_, g78_, s79_⟩
      subst hA_
      have g80_ : fs [(0, 0, 12, 12), (343, 343, 0, 100000)] F F77_ := fs_tr g75_ s79_ rfl
      refine ga_inc (a := k) (c := k + 1) (lv2 := [(2, .int (Int32.ofInt (k + 1))), (0, .ref 0), (1, .ref a)]) hm_85 rfl rfl (Nat.le_of_ble_eq_true rfl) rfl rfl ?_
      refine fl_goto hm_85 rfl ?_
      exact ih17_ _ (by omega) (k + 1) F77_ rfl g78_ (fs_tr (by rw [q73_]; exact fs_u (fs_u (hf_F1) (fs_z (fs_y (by omega)))) rfl) s79_ rfl) (⟨by omega, by omega⟩)
    exact L16_ _ (0) F11_ rfl g12_ fs_refl (⟨by omega, by omega⟩)
  refine ga_aload_n (v := .ref 0) hm_83 rfl rfl rfl ?_
  refine ga_getr (b := 343) hm_83 rfl sc_0 rfl ?_
  refine ga_aload_n (v := .ref 0) hm_83 rfl rfl rfl ?_
  refine ga_geti (z := F 0 12) hm_83 rfl sc_0 rfl (rfl) ?_
  refine ga_iload_n (z := 40) hm_83 rfl rfl ?_
  refine fl_cast (z := F 0 12) (v := 40) hm_83 rfl sc_343 (by omega) (by omega) (by omega) (ga_vc (by omega) (by omega)) ?_
  refine ga_aload_n (v := .ref 0) hm_83 rfl rfl rfl ?_
  refine ga_dup hm_83 rfl rfl ?_
  refine ga_geti (z := F 0 12) hm_83 rfl sc_0 rfl (fl_u_ne (by first | exact nc_ rfl | decide | omega)) ?_
  refine fl_iconst hm_83 rfl ?_
  refine ga_iadd (a := F 0 12) (b := 1) (c := F 0 12 + 1) hm_83 rfl (by omega) ?_
  refine ga_puti (z := F 0 12 + 1) hm_83 rfl sc_0 rfl rfl ?_
  refine gr_v hm_83 rfl rfl ?_
  clear h3_ h4_ f1_ l2_
  refine ga_aload_n (v := .ref 0) hm_85 rfl rfl rfl ?_
  refine ga_aload_n (v := .ref 0) hm_85 rfl rfl rfl ?_
  refine ga_getr (b := 7) hm_85 rfl sc_0 rfl ?_
  refine ga_getr (b := 15) hm_85 rfl sc_7 rfl ?_
  refine ga_getr (b := 16) hm_85 rfl sc_15 rfl ?_
  refine ga_aload_n (v := .ref a) hm_85 rfl rfl rfl ?_
  have b81_ : 0 ≤ F a 0 ∧ F a 0 ≤ 4 := gi_g hgi h_a.2.1.1
  refine ga_geti (z := F a 0) hm_85 rfl h_a.1.1 rfl ((fl_u_ne (by first | exact nc_ rfl | decide | omega)).trans (fl_u_ne (by first | exact nc_ rfl | decide | omega))) ?_
  have b82_ : -9223372036854775808 ≤ F 16 (F a 0).toNat ∧ F 16 (F a 0).toNat ≤ 9223372036854775807 := gi_g hgi rfl
  refine ga_lald (z := F a 0) (w := F 16 (F a 0).toNat) hm_85 rfl sc_16 (by omega) (by omega) (by omega) ((fl_u_ne (by first | exact nc_ rfl | decide | omega)).trans (fl_u_ne (by first | exact nc_ rfl | decide | omega))) ?_
  obtain ⟨F83_, q84_⟩ : ∃ Fq_, Fq_ = (fl_u (fl_u F 343 (F 0 12).toNat 40) 0 12 (F 0 12 + 1)) := ⟨_, rfl⟩
  rw [← q84_]
  have g85_ : gi F83_ := by rw [q84_]; exact gi_u (gi_u (hgi) rfl (by omega) (by omega)) rfl (by omega) (by omega)
  have g86_ : fs [(0, 0, 12, 12), (343, 343, 0, 100000)] F F83_ := by rw [q84_]; exact fs_u (fs_u (fs_refl) (fs_z (fs_y (by omega)))) rfl
  refine gVv (nY := 5) (F := 1) (L := 21) (As := [.long (Int64.ofInt (F 16 (F a 0).toNat))]) (b := 0) (rest := []) hm_85 rfl hm_84 rfl rfl (fl_ob sc_0) rfl rfl rfl rfl rfl (by omega) (by omega) (mc_84 hG F83_ X g85_ (F 16 (F a 0).toNat) (⟨by omega, by omega⟩)) (fun _ _ h => False.elim h) ?_
  rintro A1_ ⟨F88_, hA_, g89_, s90_⟩
  subst hA_
  have g91_ : fs [(0, 0, 12, 12), (343, 343, 0, 100000)] F F88_ := fs_tr g86_ s90_ rfl
  refine fl_iconst hm_85 rfl ?_
  refine ga_istore_n (lv2 := [(2, .int (Int32.ofInt 0)), (0, .ref 0), (1, .ref a)]) hm_85 rfl (Nat.le_of_ble_eq_true rfl) rfl ?_
  have L93_ : ∀ (n92_ : Nat) (k : Int) (F1 : fl_N), (3 - k : Int).toNat = n92_ → (gi F1) → (fs [(0, 0, 12, 12), (343, 343, 0, 100000)] F88_ F1) → (0 ≤ k ∧ k ≤ 3) → fl_R xi_ms 85 fr lo 27 [(2, .int (Int32.ofInt k)), (0, .ref 0), (1, .ref a)] [] (fl_H sh_T G F1 ++ X) (pq_85 G F X a) := by
    intro n92_
    induction n92_ using Nat.strongRecOn with
    | ind n92_ ih94_ =>
    intro k F1 hn95_ hg_F1 hf_F1 hk
    have g96_ : fs [(0, 0, 12, 12), (343, 343, 0, 100000)] F F1 := fs_tr g91_ hf_F1 rfl
    refine ga_iload_n (z := k) hm_85 rfl rfl ?_
    refine fl_iconst hm_85 rfl ?_
    refine fl_icmp_ge (a := k) (b := 3) hm_85 rfl ⟨by omega, by omega⟩ ⟨by omega, by omega⟩ (fun h97_ => ?_) (fun h98_ => ?_)
    ·
      refine ga_aload_n (v := .ref 0) hm_85 rfl rfl rfl ?_
      refine fl_bipush hm_85 rfl rfl ?_
      refine gIv (nY := 2) (F := 0) (L := 0) (As := [.int (Int32.ofInt 41)]) (b := 0) (rest := []) hm_85 rfl hm_83 rfl rfl (fl_ob sc_0) rfl rfl rfl rfl rfl (by omega) (by omega) ?_
      intro f99_ l100_ h101_ h102_
      show fl_R xi_ms 83 f99_ l100_ 0 [(0, .ref 0), (1, .int (Int32.ofInt 41))] [] _ _
      refine ga_aload_n (v := .ref 0) hm_83 rfl rfl rfl ?_
      have b103_ : 0 ≤ F1 0 12 ∧ F1 0 12 ≤ 6000 := gi_g hg_F1 rfl
      refine ga_geti (z := F1 0 12) hm_83 rfl sc_0 rfl (rfl) ?_
      refine ga_aload_n (v := .ref 0) hm_83 rfl rfl rfl ?_
      refine ga_getr (b := 343) hm_83 rfl sc_0 rfl ?_
      refine fl_alen hm_83 rfl ⟨_, fl_at sc_343⟩ rfl ?_
      refine fl_icmp_ge (a := F1 0 12) (b := 6000) hm_83 rfl ⟨by omega, by omega⟩ ⟨by omega, by omega⟩ (fun h104_ => ?_) (fun h105_ => ?_)
      ·
        refine gr_v hm_83 rfl rfl ?_
        clear h101_ h102_ f99_ l100_
        refine ga_aload_n (v := .ref 0) hm_85 rfl rfl rfl ?_
        refine fl_bipush hm_85 rfl rfl ?_
        refine gIv (nY := 2) (F := 0) (L := 0) (As := [.int (Int32.ofInt 10)]) (b := 0) (rest := []) hm_85 rfl hm_83 rfl rfl (fl_ob sc_0) rfl rfl rfl rfl rfl (by omega) (by omega) ?_
        intro f106_ l107_ h108_ h109_
        show fl_R xi_ms 83 f106_ l107_ 0 [(0, .ref 0), (1, .int (Int32.ofInt 10))] [] _ _
        refine ga_aload_n (v := .ref 0) hm_83 rfl rfl rfl ?_
        refine ga_geti (z := F1 0 12) hm_83 rfl sc_0 rfl (rfl) ?_
        refine ga_aload_n (v := .ref 0) hm_83 rfl rfl rfl ?_
        refine ga_getr (b := 343) hm_83 rfl sc_0 rfl ?_
        refine fl_alen hm_83 rfl ⟨_, fl_at sc_343⟩ rfl ?_
        refine fl_icmp_ge (a := F1 0 12) (b := 6000) hm_83 rfl ⟨by omega, by omega⟩ ⟨by omega, by omega⟩ (fun h110_ => ?_) (fun h111_ => ?_)
        ·
          refine gr_v hm_83 rfl rfl ?_
          clear h108_ h109_ f106_ l107_
          refine gr_v hm_85 rfl rfl ?_
          exact ⟨F1, rfl, hg_F1, g96_⟩
        exfalso; omega
      refine ga_aload_n (v := .ref 0) hm_83 rfl rfl rfl ?_
      refine ga_getr (b := 343) hm_83 rfl sc_0 rfl ?_
      refine ga_aload_n (v := .ref 0) hm_83 rfl rfl rfl ?_
      refine ga_geti (z := F1 0 12) hm_83 rfl sc_0 rfl (rfl) ?_
      refine ga_iload_n (z := 41) hm_83 rfl rfl ?_
      refine fl_cast (z := F1 0 12) (v := 41) hm_83 rfl sc_343 (by omega) (by omega) (by omega) (ga_vc (by omega) (by omega)) ?_
      refine ga_aload_n (v := .ref 0) hm_83 rfl rfl rfl ?_
      refine ga_dup hm_83 rfl rfl ?_
      refine ga_geti (z := F1 0 12) hm_83 rfl sc_0 rfl (fl_u_ne (by first | exact nc_ rfl | decide | omega)) ?_
      refine fl_iconst hm_83 rfl ?_
      refine ga_iadd (a := F1 0 12) (b := 1) (c := F1 0 12 + 1) hm_83 rfl (by omega) ?_
      refine ga_puti (z := F1 0 12 + 1) hm_83 rfl sc_0 rfl rfl ?_
      refine gr_v hm_83 rfl rfl ?_
      clear h101_ h102_ f99_ l100_
      refine ga_aload_n (v := .ref 0) hm_85 rfl rfl rfl ?_
      refine fl_bipush hm_85 rfl rfl ?_
      refine gIv (nY := 2) (F := 0) (L := 0) (As := [.int (Int32.ofInt 10)]) (b := 0) (rest := []) hm_85 rfl hm_83 rfl rfl (fl_ob sc_0) rfl rfl rfl rfl rfl (by omega) (by omega) ?_
      intro f112_ l113_ h114_ h115_
      show fl_R xi_ms 83 f112_ l113_ 0 [(0, .ref 0), (1, .int (Int32.ofInt 10))] [] _ _
      refine ga_aload_n (v := .ref 0) hm_83 rfl rfl rfl ?_
      refine ga_geti (z := F1 0 12 + 1) hm_83 rfl sc_0 rfl (fl_u_eq) ?_
      refine ga_aload_n (v := .ref 0) hm_83 rfl rfl rfl ?_
      refine ga_getr (b := 343) hm_83 rfl sc_0 rfl ?_
      refine fl_alen hm_83 rfl ⟨_, fl_at sc_343⟩ rfl ?_
      refine fl_icmp_ge (a := F1 0 12 + 1) (b := 6000) hm_83 rfl ⟨by omega, by omega⟩ ⟨by omega, by omega⟩ (fun h116_ => ?_) (fun h117_ => ?_)
      ·
        refine gr_v hm_83 rfl rfl ?_
        clear h114_ h115_ f112_ l113_
        obtain ⟨F118_, q119_⟩ : ∃ Fq_, Fq_ = (fl_u (fl_u F1 343 (F1 0 12).toNat 41) 0 12 (F1 0 12 + 1)) := ⟨_, rfl⟩
        rw [← q119_]
        have g120_ : gi F118_ := by rw [q119_]; exact gi_u (gi_u (hg_F1) rfl (by omega) (by omega)) rfl (by omega) (by omega)
        have g121_ : fs [(0, 0, 12, 12), (343, 343, 0, 100000)] F F118_ := by rw [q119_]; exact fs_u (fs_u (g96_) (fs_z (fs_y (by omega)))) rfl
        refine gr_v hm_85 rfl rfl ?_
        exact ⟨F118_, rfl, g120_, g121_⟩
      refine ga_aload_n (v := .ref 0) hm_83 rfl rfl rfl ?_
      refine ga_getr (b := 343) hm_83 rfl sc_0 rfl ?_
      refine ga_aload_n (v := .ref 0) hm_83 rfl rfl rfl ?_
      refine ga_geti (z := F1 0 12 + 1) hm_83 rfl sc_0 rfl (fl_u_eq) ?_
      refine ga_iload_n (z := 10) hm_83 rfl rfl ?_
      refine fl_cast (z := F1 0 12 + 1) (v := 10) hm_83 rfl sc_343 (by omega) (by omega) (by omega) (ga_vc (by omega) (by omega)) ?_
      refine ga_aload_n (v := .ref 0) hm_83 rfl rfl rfl ?_
      refine ga_dup hm_83 rfl rfl ?_
      refine ga_geti (z := F1 0 12 + 1) hm_83 rfl sc_0 rfl ((fl_u_ne (by first | exact nc_ rfl | decide | omega)).trans (fl_u_eq)) ?_
      refine fl_iconst hm_83 rfl ?_
      refine ga_iadd (a := F1 0 12 + 1) (b := 1) (c := F1 0 12 + 2) hm_83 rfl (by omega) ?_
      refine ga_puti (z := F1 0 12 + 2) hm_83 rfl sc_0 rfl rfl ?_
      refine gr_v hm_83 rfl rfl ?_
      clear h114_ h115_ f112_ l113_
      obtain ⟨F122_, q123_⟩ : ∃ Fq_, Fq_ = (fl_u (fl_u (fl_u (fl_u F1 343 (F1 0 12).toNat 41) 0 12 (F1 0 12 + 1)) 343 (F1 0 12 + 1).toNat 10) 0 12 (F1 0 12 + 2)) := ⟨_, rfl⟩
      rw [← q123_]
      have g124_ : gi F122_ := by rw [q123_]; exact gi_u (gi_u (gi_u (gi_u (hg_F1) rfl (by omega) (by omega)) rfl (by omega) (by omega)) rfl (by omega) (by omega)) rfl (by omega) (by omega)
      have g125_ : fs [(0, 0, 12, 12), (343, 343, 0, 100000)] F F122_ := by rw [q123_]; exact fs_u (fs_u (fs_u (fs_u (g96_) (fs_z (fs_y (by omega)))) rfl) (fs_z (fs_y (by omega)))) rfl
      refine gr_v hm_85 rfl rfl ?_
      exact ⟨F122_, rfl, g124_, g125_⟩
    refine ga_aload_n (v := .ref a) hm_85 rfl rfl rfl ?_
    refine ga_getr (b := a + 1) hm_85 rfl h_a.1.1 rfl ?_
    refine ga_iload_n (z := k) hm_85 rfl rfl ?_
    have e126_ : F83_ (a + 1) k.toNat = F (a + 1) k.toNat := by rw [q84_]; exact (fl_u_ne (by first | exact nc_ rfl | decide | omega)).trans (fl_u_ne (by first | exact nc_ rfl | decide | omega))
    have e127_ : F88_ (a + 1) k.toNat = F (a + 1) k.toNat := (s90_ (a + 1) k.toNat (by first | exact fs_c rfl | exact (fs_n (by omega) (fs_n (by omega) rfl)))).trans (e126_)
    have e128_ : F1 (a + 1) k.toNat = F (a + 1) k.toNat := (hf_F1 (a + 1) k.toNat (by first | exact fs_c rfl | exact (fs_n (by omega) (fs_n (by omega) rfl)))).trans (e127_)
    have b129_ : -1 ≤ F (a + 1) k.toNat ∧ F (a + 1) k.toNat ≤ 5 := gi_g hgi (gb_a h_a.2.1.2.1)
    refine ga_iald (z := k) (w := F (a + 1) k.toNat) hm_85 rfl h_a.1.2.1 (by omega) (by omega) (by omega) (e128_) ?_
    refine fl_if_lt (a := F (a + 1) k.toNat) hm_85 rfl ⟨by omega, by omega⟩ (fun h130_ => ?_) (fun h131_ => ?_)
    ·
      refine ga_inc (a := k) (c := k + 1) (lv2 := [(2, .int (Int32.ofInt (k + 1))), (0, .ref 0), (1, .ref a)]) hm_85 rfl rfl (Nat.le_of_ble_eq_true rfl) rfl rfl ?_
      refine fl_goto hm_85 rfl ?_
      exact ih94_ _ (by omega) (k + 1) F1 rfl hg_F1 hf_F1 (⟨by omega, by omega⟩)
    refine ga_aload_n (v := .ref 0) hm_85 rfl rfl rfl ?_
    refine fl_bipush hm_85 rfl rfl ?_
    refine gIv (nY := 2) (F := 0) (L := 0) (As := [.int (Int32.ofInt 32)]) (b := 0) (rest := []) hm_85 rfl hm_83 rfl rfl (fl_ob sc_0) rfl rfl rfl rfl rfl (by omega) (by omega) ?_
    intro f132_ l133_ h134_ h135_
    show fl_R xi_ms 83 f132_ l133_ 0 [(0, .ref 0), (1, .int (Int32.ofInt 32))] [] _ _
    refine ga_aload_n (v := .ref 0) hm_83 rfl rfl rfl ?_
    have b136_ : 0 ≤ F1 0 12 ∧ F1 0 12 ≤ 6000 := gi_g hg_F1 rfl
    refine ga_geti (z := F1 0 12) hm_83 rfl sc_0 rfl (rfl) ?_
    refine ga_aload_n (v := .ref 0) hm_83 rfl rfl rfl ?_
    refine ga_getr (b := 343) hm_83 rfl sc_0 rfl ?_
    refine fl_alen hm_83 rfl ⟨_, fl_at sc_343⟩ rfl ?_
    refine fl_icmp_ge (a := F1 0 12) (b := 6000) hm_83 rfl ⟨by omega, by omega⟩ ⟨by omega, by omega⟩ (fun h137_ => ?_) (fun h138_ => ?_)
    ·
      refine gr_v hm_83 rfl rfl ?_
      clear h134_ h135_ f132_ l133_
      refine ga_aload_n (v := .ref 0) hm_85 rfl rfl rfl ?_
      refine ga_aload_n (v := .ref 0) hm_85 rfl rfl rfl ?_
      refine ga_getr (b := 104) hm_85 rfl sc_0 rfl ?_
      refine ga_getr (b := 105) hm_85 rfl sc_104 rfl ?_
      refine ga_getr (b := 106) hm_85 rfl sc_105 rfl ?_
      refine ga_aload_n (v := .ref a) hm_85 rfl rfl rfl ?_
      refine ga_getr (b := a + 1) hm_85 rfl h_a.1.1 rfl ?_
      refine ga_iload_n (z := k) hm_85 rfl rfl ?_
      refine ga_iald (z := k) (w := F (a + 1) k.toNat) hm_85 rfl h_a.1.2.1 (by omega) (by omega) (by omega) (e128_) ?_
      have e139_ : F83_ 106 (F (a + 1) k.toNat).toNat = F 106 (F (a + 1) k.toNat).toNat := by rw [q84_]; exact (fl_u_ne (by first | exact nc_ rfl | decide | omega)).trans (fl_u_ne (by first | exact nc_ rfl | decide | omega))
      have e140_ : F88_ 106 (F (a + 1) k.toNat).toNat = F 106 (F (a + 1) k.toNat).toNat := (s90_ 106 (F (a + 1) k.toNat).toNat (by first | exact fs_c rfl | exact (fs_n (by omega) (fs_n (by omega) rfl)))).trans (e139_)
      have e141_ : F1 106 (F (a + 1) k.toNat).toNat = F 106 (F (a + 1) k.toNat).toNat := (hf_F1 106 (F (a + 1) k.toNat).toNat (by first | exact fs_c rfl | exact (fs_n (by omega) (fs_n (by omega) rfl)))).trans (e140_)
      have b142_ : -9223372036854775808 ≤ F 106 (F (a + 1) k.toNat).toNat ∧ F 106 (F (a + 1) k.toNat).toNat ≤ 9223372036854775807 := gi_g hgi rfl
      refine ga_lald (z := F (a + 1) k.toNat) (w := F 106 (F (a + 1) k.toNat).toNat) hm_85 rfl sc_106 (by omega) (by omega) (by omega) (e141_) ?_
      refine gVv (nY := 5) (F := 1) (L := 21) (As := [.long (Int64.ofInt (F 106 (F (a + 1) k.toNat).toNat))]) (b := 0) (rest := []) hm_85 rfl hm_84 rfl rfl (fl_ob sc_0) rfl rfl rfl rfl rfl (by omega) (by omega) (mc_84 hG F1 X hg_F1 (F 106 (F (a + 1) k.toNat).toNat) (⟨by omega, by omega⟩)) (fun _ _ h => False.elim h) ?_
      rintro A1_ ⟨F144_, hA_, g145_, s146_⟩
      subst hA_
      have g147_ : fs [(0, 0, 12, 12), (343, 343, 0, 100000)] F F144_ := fs_tr g96_ s146_ rfl
      refine ga_inc (a := k) (c := k + 1) (lv2 := [(2, .int (Int32.ofInt (k + 1))), (0, .ref 0), (1, .ref a)]) hm_85 rfl rfl (Nat.le_of_ble_eq_true rfl) rfl rfl ?_
      refine fl_goto hm_85 rfl ?_
      exact ih94_ _ (by omega) (k + 1) F144_ rfl g145_ (fs_tr hf_F1 s146_ rfl) (⟨by omega, by omega⟩)
    refine ga_aload_n (v := .ref 0) hm_83 rfl rfl rfl ?_
    refine ga_getr (b := 343) hm_83 rfl sc_0 rfl ?_
    refine ga_aload_n (v := .ref 0) hm_83 rfl rfl rfl ?_
    refine ga_geti (z := F1 0 12) hm_83 rfl sc_0 rfl (rfl) ?_
    refine ga_iload_n (z := 32) hm_83 rfl rfl ?_
    refine fl_cast (z := F1 0 12) (v := 32) hm_83 rfl sc_343 (by omega) (by omega) (by omega) (ga_vc (by omega) (by omega)) ?_
    refine ga_aload_n (v := .ref 0) hm_83 rfl rfl rfl ?_
    refine ga_dup hm_83 rfl rfl ?_
    refine ga_geti (z := F1 0 12) hm_83 rfl sc_0 rfl (fl_u_ne (by first | exact nc_ rfl | decide | omega)) ?_
    refine fl_iconst hm_83 rfl ?_
    refine ga_iadd (a := F1 0 12) (b := 1) (c := F1 0 12 + 1) hm_83 rfl (by omega) ?_
    refine ga_puti (z := F1 0 12 + 1) hm_83 rfl sc_0 rfl rfl ?_
    refine gr_v hm_83 rfl rfl ?_
    clear h134_ h135_ f132_ l133_
    refine ga_aload_n (v := .ref 0) hm_85 rfl rfl rfl ?_
    refine ga_aload_n (v := .ref 0) hm_85 rfl rfl rfl ?_
    refine ga_getr (b := 104) hm_85 rfl sc_0 rfl ?_
    refine ga_getr (b := 105) hm_85 rfl sc_104 rfl ?_
    refine ga_getr (b := 106) hm_85 rfl sc_105 rfl ?_
    refine ga_aload_n (v := .ref a) hm_85 rfl rfl rfl ?_
    refine ga_getr (b := a + 1) hm_85 rfl h_a.1.1 rfl ?_
    refine ga_iload_n (z := k) hm_85 rfl rfl ?_
    refine ga_iald (z := k) (w := F (a + 1) k.toNat) hm_85 rfl h_a.1.2.1 (by omega) (by omega) (by omega) ((fl_u_ne (by first | exact nc_ rfl | decide | omega)).trans ((fl_u_ne (by first | exact nc_ rfl | decide | omega)).trans (e128_))) ?_
    have e148_ : F83_ 106 (F (a + 1) k.toNat).toNat = F 106 (F (a + 1) k.toNat).toNat := by rw [q84_]; exact (fl_u_ne (by first | exact nc_ rfl | decide | omega)).trans (fl_u_ne (by first | exact nc_ rfl | decide | omega))
    have e149_ : F88_ 106 (F (a + 1) k.toNat).toNat = F 106 (F (a + 1) k.toNat).toNat := (s90_ 106 (F (a + 1) k.toNat).toNat (by first | exact fs_c rfl | exact (fs_n (by omega) (fs_n (by omega) rfl)))).trans (e148_)
    have e150_ : F1 106 (F (a + 1) k.toNat).toNat = F 106 (F (a + 1) k.toNat).toNat := (hf_F1 106 (F (a + 1) k.toNat).toNat (by first | exact fs_c rfl | exact (fs_n (by omega) (fs_n (by omega) rfl)))).trans (e149_)
    have b151_ : -9223372036854775808 ≤ F 106 (F (a + 1) k.toNat).toNat ∧ F 106 (F (a + 1) k.toNat).toNat ≤ 9223372036854775807 := gi_g hgi rfl
    refine ga_lald (z := F (a + 1) k.toNat) (w := F 106 (F (a + 1) k.toNat).toNat) hm_85 rfl sc_106 (by omega) (by omega) (by omega) ((fl_u_ne (by first | exact nc_ rfl | decide | omega)).trans ((fl_u_ne (by first | exact nc_ rfl | decide | omega)).trans (e150_))) ?_
    obtain ⟨F152_, q153_⟩ : ∃ Fq_, Fq_ = (fl_u (fl_u F1 343 (F1 0 12).toNat 32) 0 12 (F1 0 12 + 1)) := ⟨_, rfl⟩
    rw [← q153_]
    have g154_ : gi F152_ := by rw [q153_]; exact gi_u (gi_u (hg_F1) rfl (by omega) (by omega)) rfl (by omega) (by omega)
    have g155_ : fs [(0, 0, 12, 12), (343, 343, 0, 100000)] F F152_ := by rw [q153_]; exact fs_u (fs_u (g96_) (fs_z (fs_y (by omega)))) rfl
    refine gVv (nY := 5) (F := 1) (L := 21) (As := [.long (Int64.ofInt (F 106 (F (a + 1) k.toNat).toNat))]) (b := 0) (rest := []) hm_85 rfl hm_84 rfl rfl (fl_ob sc_0) rfl rfl rfl rfl rfl (by omega) (by omega) (mc_84 hG F152_ X g154_ (F 106 (F (a + 1) k.toNat).toNat) (⟨by omega, by omega⟩)) (fun _ _ h => False.elim h) ?_
    rintro A1_ ⟨F157_, hA_, g158_, s159_⟩
    subst hA_
    have g160_ : fs [(0, 0, 12, 12), (343, 343, 0, 100000)] F F157_ := fs_tr g155_ s159_ rfl
    refine ga_inc (a := k) (c := k + 1) (lv2 := [(2, .int (Int32.ofInt (k + 1))), (0, .ref 0), (1, .ref a)]) hm_85 rfl rfl (Nat.le_of_ble_eq_true rfl) rfl rfl ?_
    refine fl_goto hm_85 rfl ?_
    exact ih94_ _ (by omega) (k + 1) F157_ rfl g158_ (fs_tr (by rw [q153_]; exact fs_u (fs_u (hf_F1) (fs_z (fs_y (by omega)))) rfl) s159_ rfl) (⟨by omega, by omega⟩)
  exact L93_ _ (0) F88_ rfl g89_ fs_refl (⟨by omega, by omega⟩)

theorem nf_step {f : Nat → Int} {c i : Int} (h : ∀ j : Nat, (j : Int) < i → f j ≠ c) (hi : 0 ≤ i) (hn : ¬ f i.toNat = c) : ∀ j : Nat, (j : Int) < i + 1 → f j ≠ c := by
  intro j hj
  by_cases e : (j : Int) < i
  · exact h j e
  · have e2 : j = i.toNat := by omega
    subst e2
    exact hn
/- CheapPlanner$Tokens.take -/
abbrev pq_20 (G : Nat → Nat → Option Nat) (F : fl_N) (X : xi_H) (p : Int) : Outcome → xi_H → Prop := gqi (fun z A => ∃ F' : fl_N, fl_H sh_T G F' ++ X = A ∧ gi F' ∧ fs [(1, 1, 1, 1), (2, 2, 0, 100000)] F F' ∧ (z = 0 ∨ z = 1)) gqn
theorem mc_20 {G : Nat → Nat → Option Nat} (hG : gg G) (F : fl_N) (X : xi_H) (hgi : gi F) (p : Int) : fl_M xi_ms 20 1 21 [.ref 1, .int (Int32.ofInt p)] (fl_H sh_T G F ++ X) (pq_20 G F X p) := by
  intro fr lo hfr hlo
  show fl_R xi_ms 20 fr lo 0 [(0, .ref 1), (1, .int (Int32.ofInt p))] [] _ _
  refine fl_bipush hm_20 rfl rfl ?_
  refine ga_istore_n (lv2 := [(2, .int (Int32.ofInt 24)), (0, .ref 1), (1, .int (Int32.ofInt p))]) hm_20 rfl (Nat.le_of_ble_eq_true rfl) rfl ?_
  have L2_ : ∀ (n1_ : Nat) (i : Int) (F1 : fl_N), (i + 8 : Int).toNat = n1_ → (gi F1) → (fs [(1, 1, 1, 1), (2, 2, 0, 100000)] F F1) → (-8 ≤ i ∧ i ≤ 24) → fl_R xi_ms 20 fr lo 3 [(2, .int (Int32.ofInt i)), (0, .ref 1), (1, .int (Int32.ofInt p))] [] (fl_H sh_T G F1 ++ X) (pq_20 G F X p) := by
    intro n1_
    induction n1_ using Nat.strongRecOn with
    | ind n1_ ih3_ =>
    intro i F1 hn4_ hg_F1 hf_F1 hi
    have g5_ : fs [(1, 1, 1, 1), (2, 2, 0, 100000)] F F1 := fs_tr fs_refl hf_F1 rfl
    refine ga_iload_n (z := i) hm_20 rfl rfl ?_
    refine fl_if_lt (a := i) hm_20 rfl ⟨by omega, by omega⟩ (fun h6_ => ?_) (fun h7_ => ?_)
    ·
      refine fl_iconst hm_20 rfl ?_
      refine gr_i (z := 1) hm_20 rfl rfl (ga_nb (by omega)) ?_
      exact ⟨F1, rfl, hg_F1, g5_, (by omega)⟩
    refine ga_iload_n (z := p) hm_20 rfl rfl ?_
    refine ga_iload_n (z := i) hm_20 rfl rfl ?_
    refine ga_iany hm_20 rfl rfl rfl (fun z8_ h9_ => ?_)
    unfold fl_i at *
    refine fl_sipush hm_20 rfl rfl ?_
    refine ga_iand (m := 255) hm_20 rfl (by omega) (fun z10_ h11_ h12_ => ?_)
    refine ga_istore_n (lv2 := [(3, .int (Int32.ofInt z10_)), (2, .int (Int32.ofInt i)), (0, .ref 1), (1, .int (Int32.ofInt p))]) hm_20 rfl (Nat.le_of_ble_eq_true rfl) rfl ?_
    refine ga_iload_n (z := z10_) hm_20 rfl rfl ?_
    refine fl_if_eq (a := z10_) hm_20 rfl ⟨by omega, by omega⟩ (fun h13_ => ?_) (fun h14_ => ?_)
    ·
      refine ga_inc (a := i) (c := i - 8) (lv2 := [(2, .int (Int32.ofInt (i - 8))), (3, .int (Int32.ofInt z10_)), (0, .ref 1), (1, .int (Int32.ofInt p))]) hm_20 rfl rfl (Nat.le_of_ble_eq_true rfl) (by omega) rfl ?_
      refine fl_goto hm_20 rfl ?_
      exact fl_R_sub (lv' := [(2, .int (Int32.ofInt (i - 8))), (0, .ref 1), (1, .int (Int32.ofInt p))]) rfl rfl (ih3_ _ (by omega) (i - 8) F1 rfl hg_F1 hf_F1 (by omega))
    refine ga_aload_n (v := .ref 1) hm_20 rfl rfl rfl ?_
    refine ga_iload_n (z := z10_) hm_20 rfl rfl ?_
    refine gIi (nY := 2) (F := 0) (L := 0) (As := [.int (Int32.ofInt z10_)]) (b := 1) (rest := []) hm_20 rfl hm_21 rfl rfl (fl_ob sc_1) rfl rfl rfl rfl rfl (by omega) (by omega) ?_
    intro f15_ l16_ h17_ h18_
    show fl_R xi_ms 21 f15_ l16_ 0 [(0, .ref 1), (1, .int (Int32.ofInt z10_))] [] _ _
    refine ga_iload_n (z := z10_) hm_21 rfl rfl ?_
    refine fl_bipush hm_21 rfl rfl ?_
    refine fl_icmp_lt (a := z10_) (b := 32) hm_21 rfl ⟨by omega, by omega⟩ ⟨by omega, by omega⟩ (fun h19_ => ?_) (fun h20_ => ?_)
    ·
      refine fl_iconst hm_21 rfl ?_
      refine gr_i hm_21 rfl rfl (ga_nb (by omega)) ?_
      clear h17_ h18_ f15_ l16_
      refine fl_if_ne hm_20 rfl ⟨by omega, by omega⟩ (fun h => absurd h (by omega)) (fun _ => ?_)
      refine fl_iconst hm_20 rfl ?_
      refine gr_i (z := 0) hm_20 rfl rfl (ga_nb (by omega)) ?_
      exact ⟨F1, rfl, hg_F1, g5_, (by omega)⟩
    refine ga_iload_n (z := z10_) hm_21 rfl rfl ?_
    refine fl_bipush hm_21 rfl rfl ?_
    refine fl_icmp_gt (a := z10_) (b := 126) hm_21 rfl ⟨by omega, by omega⟩ ⟨by omega, by omega⟩ (fun h21_ => ?_) (fun h22_ => ?_)
    ·
      refine fl_iconst hm_21 rfl ?_
      refine gr_i hm_21 rfl rfl (ga_nb (by omega)) ?_
      clear h17_ h18_ f15_ l16_
      refine fl_if_ne hm_20 rfl ⟨by omega, by omega⟩ (fun h => absurd h (by omega)) (fun _ => ?_)
      refine fl_iconst hm_20 rfl ?_
      refine gr_i (z := 0) hm_20 rfl rfl (ga_nb (by omega)) ?_
      exact ⟨F1, rfl, hg_F1, g5_, (by omega)⟩
    refine ga_aload_n (v := .ref 1) hm_21 rfl rfl rfl ?_
    have b23_ : 0 ≤ F1 1 1 ∧ F1 1 1 ≤ 600 := gi_g hg_F1 rfl
    refine ga_geti (z := F1 1 1) hm_21 rfl sc_1 rfl (rfl) ?_
    refine fl_sipush hm_21 rfl rfl ?_
    refine fl_icmp_lt (a := F1 1 1) (b := 600) hm_21 rfl ⟨by omega, by omega⟩ ⟨by omega, by omega⟩ (fun h24_ => ?_) (fun h25_ => ?_)
    ·
      refine ga_aload_n (v := .ref 1) hm_21 rfl rfl rfl ?_
      refine ga_getr (b := 2) hm_21 rfl sc_1 rfl ?_
      refine ga_aload_n (v := .ref 1) hm_21 rfl rfl rfl ?_
      refine ga_geti (z := F1 1 1) hm_21 rfl sc_1 rfl (rfl) ?_
      refine ga_iload_n (z := z10_) hm_21 rfl rfl ?_
      refine ga_i2c hm_21 rfl (by omega) (by omega) ?_
      refine fl_cast (z := F1 1 1) (v := z10_) hm_21 rfl sc_2 (by omega) (by omega) (by omega) (ga_vc (by omega) (by omega)) ?_
      refine ga_aload_n (v := .ref 1) hm_21 rfl rfl rfl ?_
      refine ga_dup hm_21 rfl rfl ?_
      refine ga_geti (z := F1 1 1) hm_21 rfl sc_1 rfl (fl_u_ne (by omega)) ?_
      refine fl_iconst hm_21 rfl ?_
      refine ga_iadd (a := F1 1 1) (b := 1) (c := F1 1 1 + 1) hm_21 rfl (by omega) ?_
      refine ga_puti (z := F1 1 1 + 1) hm_21 rfl sc_1 rfl rfl ?_
      refine fl_iconst hm_21 rfl ?_
      refine gr_i hm_21 rfl rfl (ga_nb (by omega)) ?_
      clear h17_ h18_ f15_ l16_
      refine fl_if_ne hm_20 rfl ⟨by omega, by omega⟩ (fun _ => ?_) (fun h => absurd (by omega) h)
      refine ga_inc (a := i) (c := i - 8) (lv2 := [(2, .int (Int32.ofInt (i - 8))), (3, .int (Int32.ofInt z10_)), (0, .ref 1), (1, .int (Int32.ofInt p))]) hm_20 rfl rfl (Nat.le_of_ble_eq_true rfl) (by omega) rfl ?_
      refine fl_goto hm_20 rfl ?_
      obtain ⟨F26_, q27_⟩ : ∃ F9_, F9_ = (fl_u (fl_u F1 2 (F1 1 1).toNat z10_) 1 1 (F1 1 1 + 1)) := ⟨_, rfl⟩
      rw [← q27_]
      have g28_ : gi F26_ := by rw [q27_]; exact gi_u (gi_u (hg_F1) rfl (by omega) (by omega)) rfl (by omega) (by omega)
      have g29_ : fs [(1, 1, 1, 1), (2, 2, 0, 100000)] F F26_ := by rw [q27_]; exact fs_u (fs_u (g5_) (fs_z (fs_y (by omega)))) rfl
      exact fl_R_sub (lv' := [(2, .int (Int32.ofInt (i - 8))), (0, .ref 1), (1, .int (Int32.ofInt p))]) rfl rfl (ih3_ _ (by omega) (i - 8) F26_ rfl g28_ (by rw [q27_]; exact fs_u (fs_u (hf_F1) (fs_z (fs_y (by omega)))) rfl) (by omega))
    refine fl_iconst hm_21 rfl ?_
    refine gr_i hm_21 rfl rfl (ga_nb (by omega)) ?_
    clear h17_ h18_ f15_ l16_
    refine fl_if_ne hm_20 rfl ⟨by omega, by omega⟩ (fun h => absurd h (by omega)) (fun _ => ?_)
    refine fl_iconst hm_20 rfl ?_
    refine gr_i (z := 0) hm_20 rfl rfl (ga_nb (by omega)) ?_
    exact ⟨F1, rfl, hg_F1, g5_, (by omega)⟩
  exact L2_ _ (24) F rfl hgi fs_refl (by omega)
/- CheapPlanner$Tokens.nameCode -/
abbrev pq_150 (G : Nat → Nat → Option Nat) (F : fl_N) (X : xi_H) (s e : Int) : Outcome → xi_H → Prop := gql (fun z A => fl_H sh_T G F ++ X = A ∧ (z = nmc (F 2) s.toNat e.toNat) ∧ (0 ≤ z ∧ z < 281474976710656)) gqn
theorem mc_150 {G : Nat → Nat → Option Nat} (hG : gg G) (F : fl_N) (X : xi_H) (hgi : gi F) (s e : Int) (hs : 0 ≤ s ∧ s ≤ e ∧ e ≤ 600) : fl_M xi_ms 150 0 0 [.ref 1, .int (Int32.ofInt s), .int (Int32.ofInt e)] (fl_H sh_T G F ++ X) (pq_150 G F X s e) := by
  intro fr lo hfr hlo
  show fl_R xi_ms 150 fr lo 0 [(0, .ref 1), (1, .int (Int32.ofInt s)), (2, .int (Int32.ofInt e))] [] _ _
  refine ga_iload_n (z := e) hm_150 rfl rfl ?_
  refine ga_iload_n (z := s) hm_150 rfl rfl ?_
  refine ga_isub (a := e) (b := s) (c := e - s) hm_150 rfl (by omega) ?_
  refine fl_bipush hm_150 rfl rfl ?_
  refine fl_icmp_le (a := e - s) (b := 6) hm_150 rfl ⟨by omega, by omega⟩ ⟨by omega, by omega⟩ (fun h1_ => ?_) (fun h2_ => ?_)
  ·
    refine ga_lconst (z := 0) hm_150 rfl rfl ?_
    refine ga_lstore_n (lv2 := [(3, .long (Int64.ofInt 0)), (0, .ref 1), (1, .int (Int32.ofInt s)), (2, .int (Int32.ofInt e))]) hm_150 rfl (Nat.le_of_ble_eq_true rfl) rfl ?_
    refine ga_iload_n (z := s) hm_150 rfl rfl ?_
    refine ga_istore (lv2 := [(5, .int (Int32.ofInt s)), (3, .long (Int64.ofInt 0)), (0, .ref 1), (1, .int (Int32.ofInt s)), (2, .int (Int32.ofInt e))]) hm_150 rfl (Nat.le_of_ble_eq_true rfl) rfl ?_
    have L4_ : ∀ (n3_ : Nat) (i : Int) (v : Int), (e - i : Int).toNat = n3_ → (s ≤ i ∧ i ≤ e ∧ e - s ≤ 6 ∧ 0 ≤ v) → (v < 256 ^ (i - s).toNat) → (nco (F 2) i.toNat (e - i).toNat v = nmc (F 2) s.toNat e.toNat) → fl_R xi_ms 150 fr lo 15 [(5, .int (Int32.ofInt i)), (3, .long (Int64.ofInt v)), (0, .ref 1), (1, .int (Int32.ofInt s)), (2, .int (Int32.ofInt e))] [] (fl_H sh_T G F ++ X) (pq_150 G F X s e) := by
      intro n3_
      induction n3_ using Nat.strongRecOn with
      | ind n3_ ih5_ =>
      intro i v hn6_ hi hv ht
      refine ga_iload (z := i) hm_150 rfl rfl ?_
      refine ga_iload_n (z := e) hm_150 rfl rfl ?_
      refine fl_icmp_ge (a := i) (b := e) hm_150 rfl ⟨by omega, by omega⟩ ⟨by omega, by omega⟩ (fun h7_ => ?_) (fun h8_ => ?_)
      ·
        refine ga_lload_n (z := v) hm_150 rfl rfl ?_
        refine gr_l hm_150 rfl rfl ?_
        exact ⟨rfl, (nco_end ht (by omega)), (by rw [nco_end ht (by omega)]; exact nmc_bd _ _ _)⟩
      refine ga_aload_n (v := .ref 1) hm_150 rfl rfl rfl ?_
      refine ga_getr (b := 2) hm_150 rfl sc_1 rfl ?_
      refine ga_iload (z := i) hm_150 rfl rfl ?_
      have b9_ : 0 ≤ F 2 i.toNat ∧ F 2 i.toNat ≤ 126 := gi_g hgi rfl
      refine ga_cald (z := i) (w := F 2 i.toNat) hm_150 rfl sc_2 (by omega) (by omega) (by omega) (rfl) ?_
      refine ga_istore (lv2 := [(6, .int (Int32.ofInt (F 2 i.toNat))), (5, .int (Int32.ofInt i)), (3, .long (Int64.ofInt v)), (0, .ref 1), (1, .int (Int32.ofInt s)), (2, .int (Int32.ofInt e))]) hm_150 rfl (Nat.le_of_ble_eq_true rfl) rfl ?_
      refine ga_iload (z := F 2 i.toNat) hm_150 rfl rfl ?_
      refine fl_bipush hm_150 rfl rfl ?_
      refine fl_icmp_lt (a := F 2 i.toNat) (b := 97) hm_150 rfl ⟨by omega, by omega⟩ ⟨by omega, by omega⟩ (fun h10_ => ?_) (fun h11_ => ?_)
      ·
        refine ga_iload (z := F 2 i.toNat) hm_150 rfl rfl ?_
        refine fl_bipush hm_150 rfl rfl ?_
        refine fl_icmp_lt (a := F 2 i.toNat) (b := 48) hm_150 rfl ⟨by omega, by omega⟩ ⟨by omega, by omega⟩ (fun h12_ => ?_) (fun h13_ => ?_)
        ·
          refine fl_iconst hm_150 rfl ?_
          refine ga_istore (lv2 := [(7, .int (Int32.ofInt 0)), (6, .int (Int32.ofInt (F 2 i.toNat))), (5, .int (Int32.ofInt i)), (3, .long (Int64.ofInt v)), (0, .ref 1), (1, .int (Int32.ofInt s)), (2, .int (Int32.ofInt e))]) hm_150 rfl (Nat.le_of_ble_eq_true rfl) rfl ?_
          refine ga_iload (z := 0) hm_150 rfl rfl ?_
          refine fl_if_ne hm_150 rfl ⟨by omega, by omega⟩ (fun h => absurd h (by omega)) (fun _ => ?_)
          refine ga_lconst (z := 0) hm_150 rfl rfl ?_
          refine gr_l hm_150 rfl rfl ?_
          exact ⟨rfl, (nco_bad ht (by omega) (by unfold isnc; omega)), (by omega)⟩
        refine ga_iload (z := F 2 i.toNat) hm_150 rfl rfl ?_
        refine fl_bipush hm_150 rfl rfl ?_
        refine fl_icmp_gt (a := F 2 i.toNat) (b := 57) hm_150 rfl ⟨by omega, by omega⟩ ⟨by omega, by omega⟩ (fun h14_ => ?_) (fun h15_ => ?_)
        ·
          refine fl_iconst hm_150 rfl ?_
          refine ga_istore (lv2 := [(7, .int (Int32.ofInt 0)), (6, .int (Int32.ofInt (F 2 i.toNat))), (5, .int (Int32.ofInt i)), (3, .long (Int64.ofInt v)), (0, .ref 1), (1, .int (Int32.ofInt s)), (2, .int (Int32.ofInt e))]) hm_150 rfl (Nat.le_of_ble_eq_true rfl) rfl ?_
          refine ga_iload (z := 0) hm_150 rfl rfl ?_
          refine fl_if_ne hm_150 rfl ⟨by omega, by omega⟩ (fun h => absurd h (by omega)) (fun _ => ?_)
          refine ga_lconst (z := 0) hm_150 rfl rfl ?_
          refine gr_l hm_150 rfl rfl ?_
          exact ⟨rfl, (nco_bad ht (by omega) (by unfold isnc; omega)), (by omega)⟩
        refine fl_iconst hm_150 rfl ?_
        refine fl_goto hm_150 rfl ?_
        refine ga_istore (lv2 := [(7, .int (Int32.ofInt 1)), (6, .int (Int32.ofInt (F 2 i.toNat))), (5, .int (Int32.ofInt i)), (3, .long (Int64.ofInt v)), (0, .ref 1), (1, .int (Int32.ofInt s)), (2, .int (Int32.ofInt e))]) hm_150 rfl (Nat.le_of_ble_eq_true rfl) rfl ?_
        refine ga_iload (z := 1) hm_150 rfl rfl ?_
        refine fl_if_ne hm_150 rfl ⟨by omega, by omega⟩ (fun _ => ?_) (fun h => absurd (by omega) h)
        refine ga_lload_n (z := v) hm_150 rfl rfl ?_
        refine fl_bipush hm_150 rfl rfl ?_
        refine ga_lshl8 (z := v) hm_150 rfl ?_
        refine ga_iload (z := F 2 i.toNat) hm_150 rfl rfl ?_
        refine ga_i2l hm_150 rfl ⟨by omega, by omega⟩ ?_
        refine ga_lor8 (z := v) (c := F 2 i.toNat) hm_150 rfl (by omega) (pw_b (k := (i - s).toNat) (by omega) hv) (by omega) (by omega) ?_
        refine ga_lstore_n (lv2 := [(3, .long (Int64.ofInt ((v * 256 + (F 2 i.toNat))))), (7, .int (Int32.ofInt 1)), (6, .int (Int32.ofInt (F 2 i.toNat))), (5, .int (Int32.ofInt i)), (0, .ref 1), (1, .int (Int32.ofInt s)), (2, .int (Int32.ofInt e))]) hm_150 rfl (Nat.le_of_ble_eq_true rfl) rfl ?_
        refine ga_inc (a := i) (c := i + 1) (lv2 := [(5, .int (Int32.ofInt (i + 1))), (3, .long (Int64.ofInt ((v * 256 + (F 2 i.toNat))))), (7, .int (Int32.ofInt 1)), (6, .int (Int32.ofInt (F 2 i.toNat))), (0, .ref 1), (1, .int (Int32.ofInt s)), (2, .int (Int32.ofInt e))]) hm_150 rfl rfl (Nat.le_of_ble_eq_true rfl) rfl rfl ?_
        refine fl_goto hm_150 rfl ?_
        exact fl_R_sub (lv' := [(5, .int (Int32.ofInt (i + 1))), (3, .long (Int64.ofInt ((v * 256 + (F 2 i.toNat))))), (0, .ref 1), (1, .int (Int32.ofInt s)), (2, .int (Int32.ofInt e))]) rfl rfl (ih5_ _ (by omega) (i + 1) ((v * 256 + (F 2 i.toNat))) rfl (by omega) (by rw [show (i + 1 - s).toNat = (i - s).toNat + 1 by omega]; exact pw_s hv (by omega)) (nco_step ht (by omega) (by omega) (by unfold isnc; omega)))
      refine ga_iload (z := F 2 i.toNat) hm_150 rfl rfl ?_
      refine fl_bipush hm_150 rfl rfl ?_
      refine fl_icmp_le (a := F 2 i.toNat) (b := 122) hm_150 rfl ⟨by omega, by omega⟩ ⟨by omega, by omega⟩ (fun h16_ => ?_) (fun h17_ => ?_)
      ·
        refine fl_iconst hm_150 rfl ?_
        refine fl_goto hm_150 rfl ?_
        refine ga_istore (lv2 := [(7, .int (Int32.ofInt 1)), (6, .int (Int32.ofInt (F 2 i.toNat))), (5, .int (Int32.ofInt i)), (3, .long (Int64.ofInt v)), (0, .ref 1), (1, .int (Int32.ofInt s)), (2, .int (Int32.ofInt e))]) hm_150 rfl (Nat.le_of_ble_eq_true rfl) rfl ?_
        refine ga_iload (z := 1) hm_150 rfl rfl ?_
        refine fl_if_ne hm_150 rfl ⟨by omega, by omega⟩ (fun _ => ?_) (fun h => absurd (by omega) h)
        refine ga_lload_n (z := v) hm_150 rfl rfl ?_
        refine fl_bipush hm_150 rfl rfl ?_
        refine ga_lshl8 (z := v) hm_150 rfl ?_
        refine ga_iload (z := F 2 i.toNat) hm_150 rfl rfl ?_
        refine ga_i2l hm_150 rfl ⟨by omega, by omega⟩ ?_
        refine ga_lor8 (z := v) (c := F 2 i.toNat) hm_150 rfl (by omega) (pw_b (k := (i - s).toNat) (by omega) hv) (by omega) (by omega) ?_
        refine ga_lstore_n (lv2 := [(3, .long (Int64.ofInt ((v * 256 + (F 2 i.toNat))))), (7, .int (Int32.ofInt 1)), (6, .int (Int32.ofInt (F 2 i.toNat))), (5, .int (Int32.ofInt i)), (0, .ref 1), (1, .int (Int32.ofInt s)), (2, .int (Int32.ofInt e))]) hm_150 rfl (Nat.le_of_ble_eq_true rfl) rfl ?_
        refine ga_inc (a := i) (c := i + 1) (lv2 := [(5, .int (Int32.ofInt (i + 1))), (3, .long (Int64.ofInt ((v * 256 + (F 2 i.toNat))))), (7, .int (Int32.ofInt 1)), (6, .int (Int32.ofInt (F 2 i.toNat))), (0, .ref 1), (1, .int (Int32.ofInt s)), (2, .int (Int32.ofInt e))]) hm_150 rfl rfl (Nat.le_of_ble_eq_true rfl) rfl rfl ?_
        refine fl_goto hm_150 rfl ?_
        exact fl_R_sub (lv' := [(5, .int (Int32.ofInt (i + 1))), (3, .long (Int64.ofInt ((v * 256 + (F 2 i.toNat))))), (0, .ref 1), (1, .int (Int32.ofInt s)), (2, .int (Int32.ofInt e))]) rfl rfl (ih5_ _ (by omega) (i + 1) ((v * 256 + (F 2 i.toNat))) rfl (by omega) (by rw [show (i + 1 - s).toNat = (i - s).toNat + 1 by omega]; exact pw_s hv (by omega)) (nco_step ht (by omega) (by omega) (by unfold isnc; omega)))
      refine ga_iload (z := F 2 i.toNat) hm_150 rfl rfl ?_
      refine fl_bipush hm_150 rfl rfl ?_
      refine fl_icmp_lt (a := F 2 i.toNat) (b := 48) hm_150 rfl ⟨by omega, by omega⟩ ⟨by omega, by omega⟩ (fun h18_ => ?_) (fun h19_ => ?_)
      · exfalso; omega
      refine ga_iload (z := F 2 i.toNat) hm_150 rfl rfl ?_
      refine fl_bipush hm_150 rfl rfl ?_
      refine fl_icmp_gt (a := F 2 i.toNat) (b := 57) hm_150 rfl ⟨by omega, by omega⟩ ⟨by omega, by omega⟩ (fun h20_ => ?_) (fun h21_ => ?_)
      ·
        refine fl_iconst hm_150 rfl ?_
        refine ga_istore (lv2 := [(7, .int (Int32.ofInt 0)), (6, .int (Int32.ofInt (F 2 i.toNat))), (5, .int (Int32.ofInt i)), (3, .long (Int64.ofInt v)), (0, .ref 1), (1, .int (Int32.ofInt s)), (2, .int (Int32.ofInt e))]) hm_150 rfl (Nat.le_of_ble_eq_true rfl) rfl ?_
        refine ga_iload (z := 0) hm_150 rfl rfl ?_
        refine fl_if_ne hm_150 rfl ⟨by omega, by omega⟩ (fun h => absurd h (by omega)) (fun _ => ?_)
        refine ga_lconst (z := 0) hm_150 rfl rfl ?_
        refine gr_l hm_150 rfl rfl ?_
        exact ⟨rfl, (nco_bad ht (by omega) (by unfold isnc; omega)), (by omega)⟩
      exfalso; omega
    exact L4_ _ (s) (0) rfl (by omega) (by rw [show (s - s).toNat = 0 by omega]; decide) (nmc_lo (by omega) (by omega))
  refine ga_lconst (z := 0) hm_150 rfl rfl ?_
  refine gr_l hm_150 rfl rfl ?_
  exact ⟨rfl, (nmc_hi (by omega) (by omega)), (by omega)⟩
/- CheapPlanner$Tokens.add -/
abbrev pq_23 (G : Nat → Nat → Option Nat) (F : fl_N) (X : xi_H) (k s e c : Int) : Outcome → xi_H → Prop := gqv (fun A => ∃ F' : fl_N, fl_H sh_T G F' ++ X = A ∧ gi F' ∧ fs [(1, 1, 6, 6), (3, 6, 0, 100000)] F F' ∧ (tad F F' k s e c)) gqn
theorem mc_23 {G : Nat → Nat → Option Nat} (hG : gg G) (F : fl_N) (X : xi_H) (hgi : gi F) (k s e c : Int) (hn : F 1 6 ≤ 600) (hk : 0 ≤ k ∧ k ≤ 5) (hs : 0 ≤ s ∧ s ≤ 600) (he : 0 ≤ e ∧ e ≤ 600) (hc : -9223372036854775808 ≤ c ∧ c ≤ 9223372036854775807) : fl_M xi_ms 23 0 0 [.ref 1, .int (Int32.ofInt k), .int (Int32.ofInt s), .int (Int32.ofInt e), .long (Int64.ofInt c)] (fl_H sh_T G F ++ X) (pq_23 G F X k s e c) := by
  intro fr lo hfr hlo
  show fl_R xi_ms 23 fr lo 0 [(0, .ref 1), (1, .int (Int32.ofInt k)), (2, .int (Int32.ofInt s)), (3, .int (Int32.ofInt e)), (4, .long (Int64.ofInt c))] [] _ _
  refine ga_aload_n (v := .ref 1) hm_23 rfl rfl rfl ?_
  refine ga_getr (b := 3) hm_23 rfl sc_1 rfl ?_
  refine ga_aload_n (v := .ref 1) hm_23 rfl rfl rfl ?_
  have b1_ : 0 ≤ F 1 6 ∧ F 1 6 ≤ 601 := gi_g hgi rfl
  refine ga_geti (z := F 1 6) hm_23 rfl sc_1 rfl (rfl) ?_
  refine ga_iload_n (z := k) hm_23 rfl rfl ?_
  refine fl_iast (z := F 1 6) (v := k) hm_23 rfl sc_3 (by omega) (by omega) (by omega) ?_
  refine ga_aload_n (v := .ref 1) hm_23 rfl rfl rfl ?_
  refine ga_getr (b := 4) hm_23 rfl sc_1 rfl ?_
  refine ga_aload_n (v := .ref 1) hm_23 rfl rfl rfl ?_
  refine ga_geti (z := F 1 6) hm_23 rfl sc_1 rfl (fl_u_ne (by omega)) ?_
  refine ga_iload_n (z := s) hm_23 rfl rfl ?_
  refine fl_iast (z := F 1 6) (v := s) hm_23 rfl sc_4 (by omega) (by omega) (by omega) ?_
  refine ga_aload_n (v := .ref 1) hm_23 rfl rfl rfl ?_
  refine ga_getr (b := 5) hm_23 rfl sc_1 rfl ?_
  refine ga_aload_n (v := .ref 1) hm_23 rfl rfl rfl ?_
  refine ga_geti (z := F 1 6) hm_23 rfl sc_1 rfl ((fl_u_ne (by omega)).trans (fl_u_ne (by omega))) ?_
  refine ga_iload_n (z := e) hm_23 rfl rfl ?_
  refine fl_iast (z := F 1 6) (v := e) hm_23 rfl sc_5 (by omega) (by omega) (by omega) ?_
  refine ga_aload_n (v := .ref 1) hm_23 rfl rfl rfl ?_
  refine ga_getr (b := 6) hm_23 rfl sc_1 rfl ?_
  refine ga_aload_n (v := .ref 1) hm_23 rfl rfl rfl ?_
  refine ga_geti (z := F 1 6) hm_23 rfl sc_1 rfl ((fl_u_ne (by omega)).trans ((fl_u_ne (by omega)).trans (fl_u_ne (by omega)))) ?_
  refine ga_lload (z := c) hm_23 rfl rfl ?_
  refine fl_last (z := F 1 6) (v := c) hm_23 rfl sc_6 (by omega) (by omega) (by omega) ?_
  refine ga_aload_n (v := .ref 1) hm_23 rfl rfl rfl ?_
  refine ga_dup hm_23 rfl rfl ?_
  refine ga_geti (z := F 1 6) hm_23 rfl sc_1 rfl ((fl_u_ne (by omega)).trans ((fl_u_ne (by omega)).trans ((fl_u_ne (by omega)).trans (fl_u_ne (by omega))))) ?_
  refine fl_iconst hm_23 rfl ?_
  refine ga_iadd (a := F 1 6) (b := 1) (c := F 1 6 + 1) hm_23 rfl (by omega) ?_
  refine ga_puti (z := F 1 6 + 1) hm_23 rfl sc_1 rfl rfl ?_
  obtain ⟨F2_, q3_⟩ : ∃ F9_, F9_ = (fl_u (fl_u (fl_u (fl_u (fl_u F 3 (F 1 6).toNat k) 4 (F 1 6).toNat s) 5 (F 1 6).toNat e) 6 (F 1 6).toNat c) 1 6 (F 1 6 + 1)) := ⟨_, rfl⟩
  rw [← q3_]
  have g4_ : gi F2_ := by rw [q3_]; exact gi_u (gi_u (gi_u (gi_u (gi_u (hgi) rfl (by omega) (by omega)) rfl (by omega) (by omega)) rfl (by omega) (by omega)) rfl (by omega) (by omega)) rfl (by omega) (by omega)
  have g5_ : fs [(1, 1, 6, 6), (3, 6, 0, 100000)] F F2_ := by rw [q3_]; exact fs_u (fs_u (fs_u (fs_u (fs_u (fs_refl) (fs_z (fs_y (by omega)))) (fs_z (fs_y (by omega)))) (fs_z (fs_y (by omega)))) (fs_z (fs_y (by omega)))) rfl
  refine gr_v hm_23 rfl rfl ?_
  exact ⟨F2_, rfl, g4_, g5_, (by rw [q3_]; exact tad_c rfl)⟩
/- CheapPlanner$Tokens.addWord -/
abbrev pq_148 (G : Nat → Nat → Option Nat) (F : fl_N) (X : xi_H) (s e : Int) : Outcome → xi_H → Prop := gqv (fun A => ∃ F' : fl_N, fl_H sh_T G F' ++ X = A ∧ gi F' ∧ fs [(1, 1, 6, 6), (3, 6, 0, 100000)] F F' ∧ (tad F F' (tkk (F 2) s.toNat e.toNat) s e (tkc (F 2) s.toNat e.toNat))) gqn
theorem mc_148 {G : Nat → Nat → Option Nat} (hG : gg G) (F : fl_N) (X : xi_H) (hgi : gi F) (s e : Int) (hn : F 1 6 ≤ 600) (hs : 0 ≤ s ∧ s < e ∧ e ≤ 600) (hw : F 2 s.toNat ≠ 40 ∧ F 2 s.toNat ≠ 41) : fl_M xi_ms 148 1 27 [.ref 1, .int (Int32.ofInt s), .int (Int32.ofInt e)] (fl_H sh_T G F ++ X) (pq_148 G F X s e) := by
  intro fr lo hfr hlo
  show fl_R xi_ms 148 fr lo 0 [(0, .ref 1), (1, .int (Int32.ofInt s)), (2, .int (Int32.ofInt e))] [] _ _
  refine ga_aload_n (v := .ref 1) hm_148 rfl rfl rfl ?_
  refine ga_getr (b := 2) hm_148 rfl sc_1 rfl ?_
  refine ga_iload_n (z := s) hm_148 rfl rfl ?_
  have b1_ : 0 ≤ F 2 s.toNat ∧ F 2 s.toNat ≤ 126 := gi_g hgi rfl
  refine ga_cald (z := s) (w := F 2 s.toNat) hm_148 rfl sc_2 (by omega) (by omega) (by omega) (rfl) ?_
  refine fl_bipush hm_148 rfl rfl ?_
  refine fx_icmp_ne (a := F 2 s.toNat) (b := 63) hm_148 rfl ⟨by omega, by omega⟩ ⟨by omega, by omega⟩ (fun h2_ => ?_) (fun h3_ => ?_)
  ·
    refine fl_iconst hm_148 rfl ?_
    refine ga_istore_n (lv2 := [(3, .int (Int32.ofInt 0)), (0, .ref 1), (1, .int (Int32.ofInt s)), (2, .int (Int32.ofInt e))]) hm_148 rfl (Nat.le_of_ble_eq_true rfl) rfl ?_
    refine ga_aload_n (v := .ref 1) hm_148 rfl rfl rfl ?_
    refine ga_iload_n (z := 0) hm_148 rfl rfl ?_
    refine fl_if_eq hm_148 rfl ⟨by omega, by omega⟩ (fun _ => ?_) (fun h => absurd (by omega) h)
    refine ga_iload_n (z := s) hm_148 rfl rfl ?_
    refine ga_iload_n (z := e) hm_148 rfl rfl ?_
    refine gVl (nY := 8) (F := 0) (L := 0) (As := [.int (Int32.ofInt s), .int (Int32.ofInt e)]) (b := 1) (rest := []) hm_148 rfl hm_150 rfl rfl (fl_ob sc_1) rfl rfl rfl rfl rfl (by omega) (by omega) (mc_150 hG F X hgi (s) (e) (by omega)) (fun _ _ h => False.elim h) ?_
    rintro z4_ A1_ ⟨hA_, c5_, c6_⟩
    subst hA_
    refine ga_lstore (lv2 := [(4, .long (Int64.ofInt z4_)), (3, .int (Int32.ofInt 0)), (0, .ref 1), (1, .int (Int32.ofInt s)), (2, .int (Int32.ofInt e))]) hm_148 rfl (Nat.le_of_ble_eq_true rfl) rfl ?_
    refine ga_iload_n (z := 0) hm_148 rfl rfl ?_
    refine fl_if_eq hm_148 rfl ⟨by omega, by omega⟩ (fun _ => ?_) (fun h => absurd (by omega) h)
    refine fl_iconst hm_148 rfl ?_
    refine ga_istore (lv2 := [(6, .int (Int32.ofInt 2)), (4, .long (Int64.ofInt z4_)), (3, .int (Int32.ofInt 0)), (0, .ref 1), (1, .int (Int32.ofInt s)), (2, .int (Int32.ofInt e))]) hm_148 rfl (Nat.le_of_ble_eq_true rfl) rfl ?_
    refine ga_aload_n (v := .ref 1) hm_148 rfl rfl rfl ?_
    refine ga_lload (z := z4_) hm_148 rfl rfl ?_
    refine ga_lconst (z := 0) hm_148 rfl rfl ?_
    refine ga_lcmpn (a := z4_) (b := 0) hm_148 rfl rfl ⟨by omega, by omega⟩ ⟨by omega, by omega⟩ (fun h7_ => ?_) (fun h8_ => ?_)
    ·
      refine ga_iload (z := 2) hm_148 rfl rfl ?_
      refine ga_iload_n (z := s) hm_148 rfl rfl ?_
      refine ga_iload_n (z := e) hm_148 rfl rfl ?_
      refine ga_lload (z := z4_) hm_148 rfl rfl ?_
      have b9_ : 0 ≤ F 1 6 ∧ F 1 6 ≤ 601 := gi_g hgi rfl
      refine gVv (nY := 6) (F := 0) (L := 0) (As := [.int (Int32.ofInt 2), .int (Int32.ofInt s), .int (Int32.ofInt e), .long (Int64.ofInt z4_)]) (b := 1) (rest := []) hm_148 rfl hm_23 rfl rfl (fl_ob sc_1) rfl rfl rfl rfl rfl (by omega) (by omega) (mc_23 hG F X hgi (2) (s) (e) (z4_) (by omega) (by omega) (by omega) (by omega) (by omega)) (fun _ _ h => False.elim h) ?_
      rintro A1_ ⟨F12_, hA_, g13_, s14_, c11_⟩
      subst hA_
      have g15_ : fs [(1, 1, 6, 6), (3, 6, 0, 100000)] F F12_ := fs_tr fs_refl s14_ rfl
      have t_c11_ := c11_.1
      refine gr_v hm_148 rfl rfl ?_
      exact ⟨F12_, rfl, g13_, g15_, (aw_ok c11_ hw (by omega) (by omega) (by first | (left; constructor <;> first | assumption | omega; done) | (right; constructor <;> first | assumption | omega)) (by first | (left; constructor <;> first | assumption | rfl | omega; done) | (right; left; refine ⟨?_, ?_, ?_⟩ <;> first | assumption | rfl | omega; done) | (right; right; refine ⟨?_, ?_, ?_⟩ <;> first | assumption | rfl | omega)))⟩
    refine fl_iconst hm_148 rfl ?_
    refine fl_goto hm_148 rfl ?_
    refine ga_iload_n (z := s) hm_148 rfl rfl ?_
    refine ga_iload_n (z := e) hm_148 rfl rfl ?_
    refine ga_lload (z := z4_) hm_148 rfl rfl ?_
    have b16_ : 0 ≤ F 1 6 ∧ F 1 6 ≤ 601 := gi_g hgi rfl
    refine gVv (nY := 6) (F := 0) (L := 0) (As := [.int (Int32.ofInt 4), .int (Int32.ofInt s), .int (Int32.ofInt e), .long (Int64.ofInt z4_)]) (b := 1) (rest := []) hm_148 rfl hm_23 rfl rfl (fl_ob sc_1) rfl rfl rfl rfl rfl (by omega) (by omega) (mc_23 hG F X hgi (4) (s) (e) (z4_) (by omega) (by omega) (by omega) (by omega) (by omega)) (fun _ _ h => False.elim h) ?_
    rintro A1_ ⟨F19_, hA_, g20_, s21_, c18_⟩
    subst hA_
    have g22_ : fs [(1, 1, 6, 6), (3, 6, 0, 100000)] F F19_ := fs_tr fs_refl s21_ rfl
    have t_c18_ := c18_.1
    refine gr_v hm_148 rfl rfl ?_
    exact ⟨F19_, rfl, g20_, g22_, (aw_ok c18_ hw (by omega) (by omega) (by first | (left; constructor <;> first | assumption | omega; done) | (right; constructor <;> first | assumption | omega)) (by first | (left; constructor <;> first | assumption | rfl | omega; done) | (right; left; refine ⟨?_, ?_, ?_⟩ <;> first | assumption | rfl | omega; done) | (right; right; refine ⟨?_, ?_, ?_⟩ <;> first | assumption | rfl | omega)))⟩
  refine fl_iconst hm_148 rfl ?_
  refine fl_goto hm_148 rfl ?_
  refine ga_istore_n (lv2 := [(3, .int (Int32.ofInt 1)), (0, .ref 1), (1, .int (Int32.ofInt s)), (2, .int (Int32.ofInt e))]) hm_148 rfl (Nat.le_of_ble_eq_true rfl) rfl ?_
  refine ga_aload_n (v := .ref 1) hm_148 rfl rfl rfl ?_
  refine ga_iload_n (z := 1) hm_148 rfl rfl ?_
  refine fl_if_eq hm_148 rfl ⟨by omega, by omega⟩ (fun h => absurd h (by omega)) (fun _ => ?_)
  refine ga_iload_n (z := s) hm_148 rfl rfl ?_
  refine fl_iconst hm_148 rfl ?_
  refine ga_iadd (a := s) (b := 1) (c := s + 1) hm_148 rfl (by omega) ?_
  refine fl_goto hm_148 rfl ?_
  refine ga_iload_n (z := e) hm_148 rfl rfl ?_
  refine gVl (nY := 8) (F := 0) (L := 0) (As := [.int (Int32.ofInt (s + 1)), .int (Int32.ofInt e)]) (b := 1) (rest := []) hm_148 rfl hm_150 rfl rfl (fl_ob sc_1) rfl rfl rfl rfl rfl (by omega) (by omega) (mc_150 hG F X hgi (s + 1) (e) (by omega)) (fun _ _ h => False.elim h) ?_
  rintro z23_ A1_ ⟨hA_, c24_, c25_⟩
  subst hA_
  refine ga_lstore (lv2 := [(4, .long (Int64.ofInt z23_)), (3, .int (Int32.ofInt 1)), (0, .ref 1), (1, .int (Int32.ofInt s)), (2, .int (Int32.ofInt e))]) hm_148 rfl (Nat.le_of_ble_eq_true rfl) rfl ?_
  refine ga_iload_n (z := 1) hm_148 rfl rfl ?_
  refine fl_if_eq hm_148 rfl ⟨by omega, by omega⟩ (fun h => absurd h (by omega)) (fun _ => ?_)
  refine fl_iconst hm_148 rfl ?_
  refine fl_goto hm_148 rfl ?_
  refine ga_istore (lv2 := [(6, .int (Int32.ofInt 3)), (4, .long (Int64.ofInt z23_)), (3, .int (Int32.ofInt 1)), (0, .ref 1), (1, .int (Int32.ofInt s)), (2, .int (Int32.ofInt e))]) hm_148 rfl (Nat.le_of_ble_eq_true rfl) rfl ?_
  refine ga_aload_n (v := .ref 1) hm_148 rfl rfl rfl ?_
  refine ga_lload (z := z23_) hm_148 rfl rfl ?_
  refine ga_lconst (z := 0) hm_148 rfl rfl ?_
  refine ga_lcmpn (a := z23_) (b := 0) hm_148 rfl rfl ⟨by omega, by omega⟩ ⟨by omega, by omega⟩ (fun h26_ => ?_) (fun h27_ => ?_)
  ·
    refine ga_iload (z := 3) hm_148 rfl rfl ?_
    refine ga_iload_n (z := s) hm_148 rfl rfl ?_
    refine ga_iload_n (z := e) hm_148 rfl rfl ?_
    refine ga_lload (z := z23_) hm_148 rfl rfl ?_
    have b28_ : 0 ≤ F 1 6 ∧ F 1 6 ≤ 601 := gi_g hgi rfl
    refine gVv (nY := 6) (F := 0) (L := 0) (As := [.int (Int32.ofInt 3), .int (Int32.ofInt s), .int (Int32.ofInt e), .long (Int64.ofInt z23_)]) (b := 1) (rest := []) hm_148 rfl hm_23 rfl rfl (fl_ob sc_1) rfl rfl rfl rfl rfl (by omega) (by omega) (mc_23 hG F X hgi (3) (s) (e) (z23_) (by omega) (by omega) (by omega) (by omega) (by omega)) (fun _ _ h => False.elim h) ?_
    rintro A1_ ⟨F31_, hA_, g32_, s33_, c30_⟩
    subst hA_
    have g34_ : fs [(1, 1, 6, 6), (3, 6, 0, 100000)] F F31_ := fs_tr fs_refl s33_ rfl
    have t_c30_ := c30_.1
    refine gr_v hm_148 rfl rfl ?_
    exact ⟨F31_, rfl, g32_, g34_, (aw_ok c30_ hw (by omega) (by omega) (by first | (left; constructor <;> first | assumption | omega; done) | (right; constructor <;> first | assumption | omega)) (by first | (left; constructor <;> first | assumption | rfl | omega; done) | (right; left; refine ⟨?_, ?_, ?_⟩ <;> first | assumption | rfl | omega; done) | (right; right; refine ⟨?_, ?_, ?_⟩ <;> first | assumption | rfl | omega)))⟩
  refine fl_iconst hm_148 rfl ?_
  refine fl_goto hm_148 rfl ?_
  refine ga_iload_n (z := s) hm_148 rfl rfl ?_
  refine ga_iload_n (z := e) hm_148 rfl rfl ?_
  refine ga_lload (z := z23_) hm_148 rfl rfl ?_
  have b35_ : 0 ≤ F 1 6 ∧ F 1 6 ≤ 601 := gi_g hgi rfl
  refine gVv (nY := 6) (F := 0) (L := 0) (As := [.int (Int32.ofInt 4), .int (Int32.ofInt s), .int (Int32.ofInt e), .long (Int64.ofInt z23_)]) (b := 1) (rest := []) hm_148 rfl hm_23 rfl rfl (fl_ob sc_1) rfl rfl rfl rfl rfl (by omega) (by omega) (mc_23 hG F X hgi (4) (s) (e) (z23_) (by omega) (by omega) (by omega) (by omega) (by omega)) (fun _ _ h => False.elim h) ?_
  rintro A1_ ⟨F38_, hA_, g39_, s40_, c37_⟩
  subst hA_
  have g41_ : fs [(1, 1, 6, 6), (3, 6, 0, 100000)] F F38_ := fs_tr fs_refl s40_ rfl
  have t_c37_ := c37_.1
  refine gr_v hm_148 rfl rfl ?_
  exact ⟨F38_, rfl, g39_, g41_, (aw_ok c37_ hw (by omega) (by omega) (by first | (left; constructor <;> first | assumption | omega; done) | (right; constructor <;> first | assumption | omega)) (by first | (left; constructor <;> first | assumption | rfl | omega; done) | (right; left; refine ⟨?_, ?_, ?_⟩ <;> first | assumption | rfl | omega; done) | (right; right; refine ⟨?_, ?_, ?_⟩ <;> first | assumption | rfl | omega)))⟩
/- CheapPlanner$Tokens.cut -/
abbrev pq_22 (G : Nat → Nat → Option Nat) (F : fl_N) (X : xi_H)  : Outcome → xi_H → Prop := gqv (fun A => ∃ F' : fl_N, fl_H sh_T G F' ++ X = A ∧ gi F' ∧ fs [(1, 1, 1, 1), (1, 1, 6, 8), (3, 6, 0, 100000)] F F' ∧ (∃ l, l = tkz (F 2) (F 1 1).toNat 0 (-1) ∧ tkf F' (F 2) (F 1 1) l ∧ l.length ≤ 600) ∧ (F' 1 1 = 0 ∧ F' 1 7 = 0 ∧ F' 1 8 = 0)) gqn
theorem mc_22 {G : Nat → Nat → Option Nat} (hG : gg G) (F : fl_N) (X : xi_H) (hgi : gi F)  : fl_M xi_ms 22 2 53 [.ref 1] (fl_H sh_T G F ++ X) (pq_22 G F X) := by
  intro fr lo hfr hlo
  show fl_R xi_ms 22 fr lo 0 [(0, .ref 1)] [] _ _
  refine ga_aload_n (v := .ref 1) hm_22 rfl rfl rfl ?_
  refine fl_iconst hm_22 rfl ?_
  refine ga_puti (z := 0) hm_22 rfl sc_1 rfl rfl ?_
  refine ga_aload_n (v := .ref 1) hm_22 rfl rfl rfl ?_
  refine fl_iconst hm_22 rfl ?_
  refine ga_puti (z := 0) hm_22 rfl sc_1 rfl rfl ?_
  refine ga_aload_n (v := .ref 1) hm_22 rfl rfl rfl ?_
  refine fl_iconst hm_22 rfl ?_
  refine ga_puti (z := 0) hm_22 rfl sc_1 rfl rfl ?_
  refine fl_iconst hm_22 rfl ?_
  refine ga_istore_n (lv2 := [(1, .int (Int32.ofInt (-1))), (0, .ref 1)]) hm_22 rfl (Nat.le_of_ble_eq_true rfl) rfl ?_
  refine fl_iconst hm_22 rfl ?_
  refine ga_istore_n (lv2 := [(2, .int (Int32.ofInt 0)), (1, .int (Int32.ofInt (-1))), (0, .ref 1)]) hm_22 rfl (Nat.le_of_ble_eq_true rfl) rfl ?_
  obtain ⟨F1_, q2_⟩ : ∃ F9_, F9_ = (fl_u (fl_u (fl_u F 1 6 0) 1 7 0) 1 8 0) := ⟨_, rfl⟩
  rw [← q2_]
  have g3_ : gi F1_ := by rw [q2_]; exact gi_u (gi_u (gi_u (hgi) rfl (by omega) (by omega)) rfl (by omega) (by omega)) rfl (by omega) (by omega)
  have g4_ : fs [(1, 1, 1, 1), (1, 1, 6, 8), (3, 6, 0, 100000)] F F1_ := by rw [q2_]; exact fs_u (fs_u (fs_u (fs_refl) rfl) rfl) rfl
  have L6_ : ∀ (n5_ : Nat) (i : Int) (s : Int) (l : List (Nat × Nat)) (F1 : fl_N), (F 1 1 - i : Int).toNat = n5_ → (gi F1) → (fs [(1, 1, 6, 6), (3, 6, 0, 100000)] F1_ F1) → (0 ≤ i ∧ i ≤ F 1 1 ∧ -1 ≤ s ∧ s < i) → (tka F1 (F 2) l ∧ F1 1 6 = (l.length : Int)) → ((l.length : Int) ≤ i ∧ (0 ≤ s → (l.length : Int) + 1 ≤ i)) → (0 ≤ s → F 2 s.toNat ≠ 32 ∧ F 2 s.toNat ≠ 40 ∧ F 2 s.toNat ≠ 41) → (tkz (F 2) (F 1 1).toNat 0 (-1) = l ++ tkz (F 2) (F 1 1 - i).toNat i.toNat s) → fl_R xi_ms 22 fr lo 19 [(2, .int (Int32.ofInt i)), (1, .int (Int32.ofInt s)), (0, .ref 1)] [] (fl_H sh_T G F1 ++ X) (pq_22 G F X) := by
    intro n5_
    induction n5_ using Nat.strongRecOn with
    | ind n5_ ih7_ =>
    intro i s l F1 hn8_ hg_F1 hf_F1 hi hcnt hle hsw htk
    have g9_ : fs [(1, 1, 1, 1), (1, 1, 6, 8), (3, 6, 0, 100000)] F F1 := fs_tr g4_ hf_F1 rfl
    have hcn := hcnt.2
    refine ga_iload_n (z := i) hm_22 rfl rfl ?_
    refine ga_aload_n (v := .ref 1) hm_22 rfl rfl rfl ?_
    have e10_ : F1_ 1 1 = F 1 1 := by rw [q2_]; exact (fl_u_ne (by omega)).trans ((fl_u_ne (by omega)).trans (fl_u_ne (by omega)))
    have e11_ : F1 1 1 = F 1 1 := (hf_F1 1 1 rfl).trans (e10_)
    have b12_ : 0 ≤ F 1 1 ∧ F 1 1 ≤ 600 := gi_g hgi rfl
    refine ga_geti (z := F 1 1) hm_22 rfl sc_1 rfl (e11_) ?_
    refine fl_icmp_ge (a := i) (b := F 1 1) hm_22 rfl ⟨by omega, by omega⟩ ⟨by omega, by omega⟩ (fun h13_ => ?_) (fun h14_ => ?_)
    ·
      refine ga_iload_n (z := s) hm_22 rfl rfl ?_
      refine fl_if_lt (a := s) hm_22 rfl ⟨by omega, by omega⟩ (fun h15_ => ?_) (fun h16_ => ?_)
      ·
        refine ga_aload_n (v := .ref 1) hm_22 rfl rfl rfl ?_
        refine fl_iconst hm_22 rfl ?_
        refine ga_aload_n (v := .ref 1) hm_22 rfl rfl rfl ?_
        refine ga_geti (z := F 1 1) hm_22 rfl sc_1 rfl (e11_) ?_
        refine ga_aload_n (v := .ref 1) hm_22 rfl rfl rfl ?_
        refine ga_geti (z := F 1 1) hm_22 rfl sc_1 rfl (e11_) ?_
        refine ga_lconst (z := 0) hm_22 rfl rfl ?_
        have b17_ : 0 ≤ F1 1 6 ∧ F1 1 6 ≤ 601 := gi_g hg_F1 rfl
        refine gVv (nY := 6) (F := 0) (L := 0) (As := [.int (Int32.ofInt 5), .int (Int32.ofInt (F 1 1)), .int (Int32.ofInt (F 1 1)), .long (Int64.ofInt 0)]) (b := 1) (rest := []) hm_22 rfl hm_23 rfl rfl (fl_ob sc_1) rfl rfl rfl rfl rfl (by omega) (by omega) (mc_23 hG F1 X hg_F1 (5) (F 1 1) (F 1 1) (0) (by omega) (by omega) (by omega) (by omega) (by omega)) (fun _ _ h => False.elim h) ?_
        rintro A1_ ⟨F20_, hA_, g21_, s22_, c19_⟩
        subst hA_
        have g23_ : fs [(1, 1, 1, 1), (1, 1, 6, 8), (3, 6, 0, 100000)] F F20_ := fs_tr g9_ s22_ rfl
        have t_c19_ := c19_.1
        refine ga_aload_n (v := .ref 1) hm_22 rfl rfl rfl ?_
        refine fl_iconst hm_22 rfl ?_
        refine ga_puti (z := 0) hm_22 rfl sc_1 rfl rfl ?_
        obtain ⟨F24_, q25_⟩ : ∃ F9_, F9_ = (fl_u F20_ 1 1 0) := ⟨_, rfl⟩
        rw [← q25_]
        have g26_ : gi F24_ := by rw [q25_]; exact gi_u (g21_) rfl (by omega) (by omega)
        have g27_ : fs [(1, 1, 1, 1), (1, 1, 6, 8), (3, 6, 0, 100000)] F F24_ := by rw [q25_]; exact fs_u (g23_) rfl
        refine gr_v hm_22 rfl rfl ?_
        have e28_ : F24_ 1 1 = 0 := by rw [q25_]; exact fl_u_eq
        have e29_ : F1_ 1 7 = 0 := by rw [q2_]; exact (fl_u_ne (by omega)).trans (fl_u_eq)
        have e30_ : F1 1 7 = 0 := (hf_F1 1 7 rfl).trans (e29_)
        have e31_ : F20_ 1 7 = 0 := (s22_ 1 7 rfl).trans (e30_)
        have e32_ : F24_ 1 7 = 0 := by rw [q25_]; exact (fl_u_ne (by omega)).trans (e31_)
        have e33_ : F1_ 1 8 = 0 := by rw [q2_]; exact fl_u_eq
        have e34_ : F1 1 8 = 0 := (hf_F1 1 8 rfl).trans (e33_)
        have e35_ : F20_ 1 8 = 0 := (s22_ 1 8 rfl).trans (e34_)
        have e36_ : F24_ 1 8 = 0 := by rw [q25_]; exact (fl_u_ne (by omega)).trans (e35_)
        exact ⟨F24_, rfl, g26_, g27_, (⟨_, rfl, by rw [q25_, htk, tz7 (by omega) (by omega), List.append_nil]; exact tkf_end (hcnt) c19_, by rw [htk, tz7 (by omega) (by omega), List.append_nil]; (try simp only [List.length_append, List.length_singleton]); omega⟩), (by omega)⟩
      refine ga_aload_n (v := .ref 1) hm_22 rfl rfl rfl ?_
      refine ga_iload_n (z := s) hm_22 rfl rfl ?_
      refine ga_aload_n (v := .ref 1) hm_22 rfl rfl rfl ?_
      refine ga_geti (z := F 1 1) hm_22 rfl sc_1 rfl (e11_) ?_
      have b37_ : 0 ≤ F1 1 6 ∧ F1 1 6 ≤ 601 := gi_g hg_F1 rfl
      have e38_ : F1_ 2 s.toNat = F 2 s.toNat := by rw [q2_]; exact (fl_u_ne (by omega)).trans ((fl_u_ne (by omega)).trans (fl_u_ne (by omega)))
      have e39_ : F1 2 s.toNat = F 2 s.toNat := (hf_F1 2 s.toNat (fs_n (by omega) (fs_n (by omega) rfl))).trans (e38_)
      refine gVv (nY := 7) (F := 1) (L := 27) (As := [.int (Int32.ofInt s), .int (Int32.ofInt (F 1 1))]) (b := 1) (rest := []) hm_22 rfl hm_148 rfl rfl (fl_ob sc_1) rfl rfl rfl rfl rfl (by omega) (by omega) (mc_148 hG F1 X hg_F1 (s) (F 1 1) (by omega) (by omega) (by omega)) (fun _ _ h => False.elim h) ?_
      rintro A1_ ⟨F42_, hA_, g43_, s44_, c41_⟩
      subst hA_
      have g45_ : fs [(1, 1, 1, 1), (1, 1, 6, 8), (3, 6, 0, 100000)] F F42_ := fs_tr g9_ s44_ rfl
      have t_c41_ := c41_.1
      refine ga_aload_n (v := .ref 1) hm_22 rfl rfl rfl ?_
      refine fl_iconst hm_22 rfl ?_
      refine ga_aload_n (v := .ref 1) hm_22 rfl rfl rfl ?_
      have e46_ : F42_ 1 1 = F 1 1 := (s44_ 1 1 rfl).trans (e11_)
      refine ga_geti (z := F 1 1) hm_22 rfl sc_1 rfl (e46_) ?_
      refine ga_aload_n (v := .ref 1) hm_22 rfl rfl rfl ?_
      refine ga_geti (z := F 1 1) hm_22 rfl sc_1 rfl (e46_) ?_
      refine ga_lconst (z := 0) hm_22 rfl rfl ?_
      have b47_ : 0 ≤ F42_ 1 6 ∧ F42_ 1 6 ≤ 601 := gi_g g43_ rfl
      refine gVv (nY := 6) (F := 0) (L := 0) (As := [.int (Int32.ofInt 5), .int (Int32.ofInt (F 1 1)), .int (Int32.ofInt (F 1 1)), .long (Int64.ofInt 0)]) (b := 1) (rest := []) hm_22 rfl hm_23 rfl rfl (fl_ob sc_1) rfl rfl rfl rfl rfl (by omega) (by omega) (mc_23 hG F42_ X g43_ (5) (F 1 1) (F 1 1) (0) (by omega) (by omega) (by omega) (by omega) (by omega)) (fun _ _ h => False.elim h) ?_
      rintro A1_ ⟨F50_, hA_, g51_, s52_, c49_⟩
      subst hA_
      have g53_ : fs [(1, 1, 1, 1), (1, 1, 6, 8), (3, 6, 0, 100000)] F F50_ := fs_tr g45_ s52_ rfl
      have t_c49_ := c49_.1
      refine ga_aload_n (v := .ref 1) hm_22 rfl rfl rfl ?_
      refine fl_iconst hm_22 rfl ?_
      refine ga_puti (z := 0) hm_22 rfl sc_1 rfl rfl ?_
      obtain ⟨F54_, q55_⟩ : ∃ F9_, F9_ = (fl_u F50_ 1 1 0) := ⟨_, rfl⟩
      rw [← q55_]
      have g56_ : gi F54_ := by rw [q55_]; exact gi_u (g51_) rfl (by omega) (by omega)
      have g57_ : fs [(1, 1, 1, 1), (1, 1, 6, 8), (3, 6, 0, 100000)] F F54_ := by rw [q55_]; exact fs_u (g53_) rfl
      refine gr_v hm_22 rfl rfl ?_
      have e58_ : F54_ 1 1 = 0 := by rw [q55_]; exact fl_u_eq
      have e59_ : F1_ 1 7 = 0 := by rw [q2_]; exact (fl_u_ne (by omega)).trans (fl_u_eq)
      have e60_ : F1 1 7 = 0 := (hf_F1 1 7 rfl).trans (e59_)
      have e61_ : F42_ 1 7 = 0 := (s44_ 1 7 rfl).trans (e60_)
      have e62_ : F50_ 1 7 = 0 := (s52_ 1 7 rfl).trans (e61_)
      have e63_ : F54_ 1 7 = 0 := by rw [q55_]; exact (fl_u_ne (by omega)).trans (e62_)
      have e64_ : F1_ 1 8 = 0 := by rw [q2_]; exact fl_u_eq
      have e65_ : F1 1 8 = 0 := (hf_F1 1 8 rfl).trans (e64_)
      have e66_ : F42_ 1 8 = 0 := (s44_ 1 8 rfl).trans (e65_)
      have e67_ : F50_ 1 8 = 0 := (s52_ 1 8 rfl).trans (e66_)
      have e68_ : F54_ 1 8 = 0 := by rw [q55_]; exact (fl_u_ne (by omega)).trans (e67_)
      exact ⟨F54_, rfl, g56_, g57_, (⟨_, rfl, by rw [q55_, htk, tz8 (by omega) (by omega)]; exact tkf_end ((tka_snoc (hcnt).1 (hcnt).2 c41_ (by omega) (by omega) (by rw [(funext (fun k => g9_ 2 k (fs_n (by omega) (fs_n (by omega) (fs_n (by omega) rfl)))))]) (by rw [(funext (fun k => g9_ 2 k (fs_n (by omega) (fs_n (by omega) (fs_n (by omega) rfl)))))]))) c49_, by rw [htk, tz8 (by omega) (by omega)]; (try simp only [List.length_append, List.length_singleton]); omega⟩), (by omega)⟩
    refine ga_aload_n (v := .ref 1) hm_22 rfl rfl rfl ?_
    refine ga_getr (b := 2) hm_22 rfl sc_1 rfl ?_
    refine ga_iload_n (z := i) hm_22 rfl rfl ?_
    have e69_ : F1_ 2 i.toNat = F 2 i.toNat := by rw [q2_]; exact (fl_u_ne (by omega)).trans ((fl_u_ne (by omega)).trans (fl_u_ne (by omega)))
    have e70_ : F1 2 i.toNat = F 2 i.toNat := (hf_F1 2 i.toNat (fs_n (by omega) (fs_n (by omega) rfl))).trans (e69_)
    have b71_ : 0 ≤ F 2 i.toNat ∧ F 2 i.toNat ≤ 126 := gi_g hgi rfl
    refine ga_cald (z := i) (w := F 2 i.toNat) hm_22 rfl sc_2 (by omega) (by omega) (by omega) (e70_) ?_
    refine ga_istore_n (lv2 := [(3, .int (Int32.ofInt (F 2 i.toNat))), (2, .int (Int32.ofInt i)), (1, .int (Int32.ofInt s)), (0, .ref 1)]) hm_22 rfl (Nat.le_of_ble_eq_true rfl) rfl ?_
    refine ga_iload_n (z := F 2 i.toNat) hm_22 rfl rfl ?_
    refine fl_bipush hm_22 rfl rfl ?_
    refine fl_icmp_eq (a := F 2 i.toNat) (b := 32) hm_22 rfl ⟨by omega, by omega⟩ ⟨by omega, by omega⟩ (fun h72_ => ?_) (fun h73_ => ?_)
    ·
      refine fl_iconst hm_22 rfl ?_
      refine ga_istore (lv2 := [(4, .int (Int32.ofInt 0)), (3, .int (Int32.ofInt (F 2 i.toNat))), (2, .int (Int32.ofInt i)), (1, .int (Int32.ofInt s)), (0, .ref 1)]) hm_22 rfl (Nat.le_of_ble_eq_true rfl) rfl ?_
      refine ga_iload (z := 0) hm_22 rfl rfl ?_
      refine fl_if_eq hm_22 rfl ⟨by omega, by omega⟩ (fun _ => ?_) (fun h => absurd (by omega) h)
      refine ga_iload (z := 0) hm_22 rfl rfl ?_
      refine fl_if_ne hm_22 rfl ⟨by omega, by omega⟩ (fun h => absurd h (by omega)) (fun _ => ?_)
      refine ga_iload_n (z := s) hm_22 rfl rfl ?_
      refine fl_if_lt (a := s) hm_22 rfl ⟨by omega, by omega⟩ (fun h74_ => ?_) (fun h75_ => ?_)
      ·
        refine ga_iload_n (z := F 2 i.toNat) hm_22 rfl rfl ?_
        refine fl_bipush hm_22 rfl rfl ?_
        refine fl_icmp_eq (a := F 2 i.toNat) (b := 40) hm_22 rfl ⟨by omega, by omega⟩ ⟨by omega, by omega⟩ (fun h76_ => ?_) (fun h77_ => ?_)
        · exfalso; omega
        refine ga_iload_n (z := F 2 i.toNat) hm_22 rfl rfl ?_
        refine fl_bipush hm_22 rfl rfl ?_
        refine fx_icmp_ne (a := F 2 i.toNat) (b := 41) hm_22 rfl ⟨by omega, by omega⟩ ⟨by omega, by omega⟩ (fun h78_ => ?_) (fun h79_ => ?_)
        ·
          refine ga_inc (a := i) (c := i + 1) (lv2 := [(2, .int (Int32.ofInt (i + 1))), (4, .int (Int32.ofInt 0)), (3, .int (Int32.ofInt (F 2 i.toNat))), (1, .int (Int32.ofInt s)), (0, .ref 1)]) hm_22 rfl rfl (Nat.le_of_ble_eq_true rfl) rfl rfl ?_
          refine fl_goto hm_22 rfl ?_
          have b80_ : 0 ≤ F1 1 6 ∧ F1 1 6 ≤ 601 := gi_g hg_F1 rfl
          exact fl_R_sub (lv' := [(2, .int (Int32.ofInt (i + 1))), (1, .int (Int32.ofInt s)), (0, .ref 1)]) rfl rfl (ih7_ _ (by omega) (i + 1) (s) (_) F1 rfl hg_F1 hf_F1 (by omega) (hcnt) (by (try simp only [List.length_append, List.length_singleton]); omega) (by omega) (by rw [htk, tz3 (by omega) (by omega) (by omega) (by omega)]; try simp))
        exfalso; omega
      refine ga_aload_n (v := .ref 1) hm_22 rfl rfl rfl ?_
      refine ga_iload_n (z := s) hm_22 rfl rfl ?_
      refine ga_iload_n (z := i) hm_22 rfl rfl ?_
      have b81_ : 0 ≤ F1 1 6 ∧ F1 1 6 ≤ 601 := gi_g hg_F1 rfl
      have e82_ : F1_ 2 s.toNat = F 2 s.toNat := by rw [q2_]; exact (fl_u_ne (by omega)).trans ((fl_u_ne (by omega)).trans (fl_u_ne (by omega)))
      have e83_ : F1 2 s.toNat = F 2 s.toNat := (hf_F1 2 s.toNat (fs_n (by omega) (fs_n (by omega) rfl))).trans (e82_)
      refine gVv (nY := 7) (F := 1) (L := 27) (As := [.int (Int32.ofInt s), .int (Int32.ofInt i)]) (b := 1) (rest := []) hm_22 rfl hm_148 rfl rfl (fl_ob sc_1) rfl rfl rfl rfl rfl (by omega) (by omega) (mc_148 hG F1 X hg_F1 (s) (i) (by omega) (by omega) (by omega)) (fun _ _ h => False.elim h) ?_
      rintro A1_ ⟨F86_, hA_, g87_, s88_, c85_⟩
      subst hA_
      have g89_ : fs [(1, 1, 1, 1), (1, 1, 6, 8), (3, 6, 0, 100000)] F F86_ := fs_tr g9_ s88_ rfl
      have t_c85_ := c85_.1
      refine fl_iconst hm_22 rfl ?_
      refine ga_istore_n (lv2 := [(1, .int (Int32.ofInt (-1))), (4, .int (Int32.ofInt 0)), (3, .int (Int32.ofInt (F 2 i.toNat))), (2, .int (Int32.ofInt i)), (0, .ref 1)]) hm_22 rfl (Nat.le_of_ble_eq_true rfl) rfl ?_
      refine ga_iload_n (z := F 2 i.toNat) hm_22 rfl rfl ?_
      refine fl_bipush hm_22 rfl rfl ?_
      refine fl_icmp_eq (a := F 2 i.toNat) (b := 40) hm_22 rfl ⟨by omega, by omega⟩ ⟨by omega, by omega⟩ (fun h90_ => ?_) (fun h91_ => ?_)
      · exfalso; omega
      refine ga_iload_n (z := F 2 i.toNat) hm_22 rfl rfl ?_
      refine fl_bipush hm_22 rfl rfl ?_
      refine fx_icmp_ne (a := F 2 i.toNat) (b := 41) hm_22 rfl ⟨by omega, by omega⟩ ⟨by omega, by omega⟩ (fun h92_ => ?_) (fun h93_ => ?_)
      ·
        refine ga_inc (a := i) (c := i + 1) (lv2 := [(2, .int (Int32.ofInt (i + 1))), (1, .int (Int32.ofInt (-1))), (4, .int (Int32.ofInt 0)), (3, .int (Int32.ofInt (F 2 i.toNat))), (0, .ref 1)]) hm_22 rfl rfl (Nat.le_of_ble_eq_true rfl) rfl rfl ?_
        refine fl_goto hm_22 rfl ?_
        have b94_ : 0 ≤ F86_ 1 6 ∧ F86_ 1 6 ≤ 601 := gi_g g87_ rfl
        exact fl_R_sub (lv' := [(2, .int (Int32.ofInt (i + 1))), (1, .int (Int32.ofInt (-1))), (0, .ref 1)]) rfl rfl (ih7_ _ (by omega) (i + 1) (-1) (_) F86_ rfl g87_ (fs_tr hf_F1 s88_ rfl) (by omega) (tka_snoc (hcnt).1 (hcnt).2 c85_ (by omega) (by omega) (by rw [(funext (fun k => g9_ 2 k (fs_n (by omega) (fs_n (by omega) (fs_n (by omega) rfl)))))]) (by rw [(funext (fun k => g9_ 2 k (fs_n (by omega) (fs_n (by omega) (fs_n (by omega) rfl)))))])) (by (try simp only [List.length_append, List.length_singleton]); omega) (by omega) (by rw [htk, tz4 (by omega) (by omega) (by omega) (by omega)]; try simp))
      exfalso; omega
    refine ga_iload_n (z := F 2 i.toNat) hm_22 rfl rfl ?_
    refine fl_bipush hm_22 rfl rfl ?_
    refine fl_icmp_eq (a := F 2 i.toNat) (b := 40) hm_22 rfl ⟨by omega, by omega⟩ ⟨by omega, by omega⟩ (fun h95_ => ?_) (fun h96_ => ?_)
    ·
      refine fl_iconst hm_22 rfl ?_
      refine ga_istore (lv2 := [(4, .int (Int32.ofInt 0)), (3, .int (Int32.ofInt (F 2 i.toNat))), (2, .int (Int32.ofInt i)), (1, .int (Int32.ofInt s)), (0, .ref 1)]) hm_22 rfl (Nat.le_of_ble_eq_true rfl) rfl ?_
      refine ga_iload (z := 0) hm_22 rfl rfl ?_
      refine fl_if_eq hm_22 rfl ⟨by omega, by omega⟩ (fun _ => ?_) (fun h => absurd (by omega) h)
      refine ga_iload (z := 0) hm_22 rfl rfl ?_
      refine fl_if_ne hm_22 rfl ⟨by omega, by omega⟩ (fun h => absurd h (by omega)) (fun _ => ?_)
      refine ga_iload_n (z := s) hm_22 rfl rfl ?_
      refine fl_if_lt (a := s) hm_22 rfl ⟨by omega, by omega⟩ (fun h97_ => ?_) (fun h98_ => ?_)
      ·
        refine ga_iload_n (z := F 2 i.toNat) hm_22 rfl rfl ?_
        refine fl_bipush hm_22 rfl rfl ?_
        refine fl_icmp_eq (a := F 2 i.toNat) (b := 40) hm_22 rfl ⟨by omega, by omega⟩ ⟨by omega, by omega⟩ (fun h99_ => ?_) (fun h100_ => ?_)
        ·
          refine ga_aload_n (v := .ref 1) hm_22 rfl rfl rfl ?_
          refine ga_iload_n (z := F 2 i.toNat) hm_22 rfl rfl ?_
          refine fl_bipush hm_22 rfl rfl ?_
          refine fx_icmp_ne (a := F 2 i.toNat) (b := 40) hm_22 rfl ⟨by omega, by omega⟩ ⟨by omega, by omega⟩ (fun h101_ => ?_) (fun h102_ => ?_)
          · exfalso; omega
          refine fl_iconst hm_22 rfl ?_
          refine fl_goto hm_22 rfl ?_
          refine ga_iload_n (z := i) hm_22 rfl rfl ?_
          refine ga_iload_n (z := i) hm_22 rfl rfl ?_
          refine fl_iconst hm_22 rfl ?_
          refine ga_iadd (a := i) (b := 1) (c := i + 1) hm_22 rfl (by omega) ?_
          refine ga_lconst (z := 0) hm_22 rfl rfl ?_
          have b103_ : 0 ≤ F1 1 6 ∧ F1 1 6 ≤ 601 := gi_g hg_F1 rfl
          refine gVv (nY := 6) (F := 0) (L := 0) (As := [.int (Int32.ofInt 0), .int (Int32.ofInt i), .int (Int32.ofInt (i + 1)), .long (Int64.ofInt 0)]) (b := 1) (rest := []) hm_22 rfl hm_23 rfl rfl (fl_ob sc_1) rfl rfl rfl rfl rfl (by omega) (by omega) (mc_23 hG F1 X hg_F1 (0) (i) (i + 1) (0) (by omega) (by omega) (by omega) (by omega) (by omega)) (fun _ _ h => False.elim h) ?_
          rintro A1_ ⟨F106_, hA_, g107_, s108_, c105_⟩
          subst hA_
          have g109_ : fs [(1, 1, 1, 1), (1, 1, 6, 8), (3, 6, 0, 100000)] F F106_ := fs_tr g9_ s108_ rfl
          have t_c105_ := c105_.1
          refine ga_inc (a := i) (c := i + 1) (lv2 := [(2, .int (Int32.ofInt (i + 1))), (4, .int (Int32.ofInt 0)), (3, .int (Int32.ofInt (F 2 i.toNat))), (1, .int (Int32.ofInt s)), (0, .ref 1)]) hm_22 rfl rfl (Nat.le_of_ble_eq_true rfl) rfl rfl ?_
          refine fl_goto hm_22 rfl ?_
          have b110_ : 0 ≤ F106_ 1 6 ∧ F106_ 1 6 ≤ 601 := gi_g g107_ rfl
          exact fl_R_sub (lv' := [(2, .int (Int32.ofInt (i + 1))), (1, .int (Int32.ofInt s)), (0, .ref 1)]) rfl rfl (ih7_ _ (by omega) (i + 1) (s) (_) F106_ rfl g107_ (fs_tr hf_F1 s108_ rfl) (by omega) (tka_snoc (hcnt).1 (hcnt).2 c105_ (by omega) (by omega) (tkk_o (by omega)) (tkc_p (by omega))) (by (try simp only [List.length_append, List.length_singleton]); omega) (by omega) (by rw [htk, tz5 (by omega) (by omega) (by omega) (by omega)]; try simp))
        exfalso; omega
      refine ga_aload_n (v := .ref 1) hm_22 rfl rfl rfl ?_
      refine ga_iload_n (z := s) hm_22 rfl rfl ?_
      refine ga_iload_n (z := i) hm_22 rfl rfl ?_
      have b111_ : 0 ≤ F1 1 6 ∧ F1 1 6 ≤ 601 := gi_g hg_F1 rfl
      have e112_ : F1_ 2 s.toNat = F 2 s.toNat := by rw [q2_]; exact (fl_u_ne (by omega)).trans ((fl_u_ne (by omega)).trans (fl_u_ne (by omega)))
      have e113_ : F1 2 s.toNat = F 2 s.toNat := (hf_F1 2 s.toNat (fs_n (by omega) (fs_n (by omega) rfl))).trans (e112_)
      refine gVv (nY := 7) (F := 1) (L := 27) (As := [.int (Int32.ofInt s), .int (Int32.ofInt i)]) (b := 1) (rest := []) hm_22 rfl hm_148 rfl rfl (fl_ob sc_1) rfl rfl rfl rfl rfl (by omega) (by omega) (mc_148 hG F1 X hg_F1 (s) (i) (by omega) (by omega) (by omega)) (fun _ _ h => False.elim h) ?_
      rintro A1_ ⟨F116_, hA_, g117_, s118_, c115_⟩
      subst hA_
      have g119_ : fs [(1, 1, 1, 1), (1, 1, 6, 8), (3, 6, 0, 100000)] F F116_ := fs_tr g9_ s118_ rfl
      have t_c115_ := c115_.1
      refine fl_iconst hm_22 rfl ?_
      refine ga_istore_n (lv2 := [(1, .int (Int32.ofInt (-1))), (4, .int (Int32.ofInt 0)), (3, .int (Int32.ofInt (F 2 i.toNat))), (2, .int (Int32.ofInt i)), (0, .ref 1)]) hm_22 rfl (Nat.le_of_ble_eq_true rfl) rfl ?_
      refine ga_iload_n (z := F 2 i.toNat) hm_22 rfl rfl ?_
      refine fl_bipush hm_22 rfl rfl ?_
      refine fl_icmp_eq (a := F 2 i.toNat) (b := 40) hm_22 rfl ⟨by omega, by omega⟩ ⟨by omega, by omega⟩ (fun h120_ => ?_) (fun h121_ => ?_)
      ·
        refine ga_aload_n (v := .ref 1) hm_22 rfl rfl rfl ?_
        refine ga_iload_n (z := F 2 i.toNat) hm_22 rfl rfl ?_
        refine fl_bipush hm_22 rfl rfl ?_
        refine fx_icmp_ne (a := F 2 i.toNat) (b := 40) hm_22 rfl ⟨by omega, by omega⟩ ⟨by omega, by omega⟩ (fun h122_ => ?_) (fun h123_ => ?_)
        · exfalso; omega
        refine fl_iconst hm_22 rfl ?_
        refine fl_goto hm_22 rfl ?_
        refine ga_iload_n (z := i) hm_22 rfl rfl ?_
        refine ga_iload_n (z := i) hm_22 rfl rfl ?_
        refine fl_iconst hm_22 rfl ?_
        refine ga_iadd (a := i) (b := 1) (c := i + 1) hm_22 rfl (by omega) ?_
        refine ga_lconst (z := 0) hm_22 rfl rfl ?_
        have b124_ : 0 ≤ F116_ 1 6 ∧ F116_ 1 6 ≤ 601 := gi_g g117_ rfl
        refine gVv (nY := 6) (F := 0) (L := 0) (As := [.int (Int32.ofInt 0), .int (Int32.ofInt i), .int (Int32.ofInt (i + 1)), .long (Int64.ofInt 0)]) (b := 1) (rest := []) hm_22 rfl hm_23 rfl rfl (fl_ob sc_1) rfl rfl rfl rfl rfl (by omega) (by omega) (mc_23 hG F116_ X g117_ (0) (i) (i + 1) (0) (by omega) (by omega) (by omega) (by omega) (by omega)) (fun _ _ h => False.elim h) ?_
        rintro A1_ ⟨F127_, hA_, g128_, s129_, c126_⟩
        subst hA_
        have g130_ : fs [(1, 1, 1, 1), (1, 1, 6, 8), (3, 6, 0, 100000)] F F127_ := fs_tr g119_ s129_ rfl
        have t_c126_ := c126_.1
        refine ga_inc (a := i) (c := i + 1) (lv2 := [(2, .int (Int32.ofInt (i + 1))), (1, .int (Int32.ofInt (-1))), (4, .int (Int32.ofInt 0)), (3, .int (Int32.ofInt (F 2 i.toNat))), (0, .ref 1)]) hm_22 rfl rfl (Nat.le_of_ble_eq_true rfl) rfl rfl ?_
        refine fl_goto hm_22 rfl ?_
        have b131_ : 0 ≤ F127_ 1 6 ∧ F127_ 1 6 ≤ 601 := gi_g g128_ rfl
        exact fl_R_sub (lv' := [(2, .int (Int32.ofInt (i + 1))), (1, .int (Int32.ofInt (-1))), (0, .ref 1)]) rfl rfl (ih7_ _ (by omega) (i + 1) (-1) (_) F127_ rfl g128_ (fs_tr (fs_tr hf_F1 s118_ rfl) s129_ rfl) (by omega) (tka_snoc ((tka_snoc (hcnt).1 (hcnt).2 c115_ (by omega) (by omega) (by rw [(funext (fun k => g9_ 2 k (fs_n (by omega) (fs_n (by omega) (fs_n (by omega) rfl)))))]) (by rw [(funext (fun k => g9_ 2 k (fs_n (by omega) (fs_n (by omega) (fs_n (by omega) rfl)))))]))).1 ((tka_snoc (hcnt).1 (hcnt).2 c115_ (by omega) (by omega) (by rw [(funext (fun k => g9_ 2 k (fs_n (by omega) (fs_n (by omega) (fs_n (by omega) rfl)))))]) (by rw [(funext (fun k => g9_ 2 k (fs_n (by omega) (fs_n (by omega) (fs_n (by omega) rfl)))))]))).2 c126_ (by omega) (by omega) (tkk_o (by omega)) (tkc_p (by omega))) (by (try simp only [List.length_append, List.length_singleton]); omega) (by omega) (by rw [htk, tz6 (by omega) (by omega) (by omega) (by omega)]; try simp))
      exfalso; omega
    refine ga_iload_n (z := F 2 i.toNat) hm_22 rfl rfl ?_
    refine fl_bipush hm_22 rfl rfl ?_
    refine fl_icmp_eq (a := F 2 i.toNat) (b := 41) hm_22 rfl ⟨by omega, by omega⟩ ⟨by omega, by omega⟩ (fun h132_ => ?_) (fun h133_ => ?_)
    ·
      refine fl_iconst hm_22 rfl ?_
      refine ga_istore (lv2 := [(4, .int (Int32.ofInt 0)), (3, .int (Int32.ofInt (F 2 i.toNat))), (2, .int (Int32.ofInt i)), (1, .int (Int32.ofInt s)), (0, .ref 1)]) hm_22 rfl (Nat.le_of_ble_eq_true rfl) rfl ?_
      refine ga_iload (z := 0) hm_22 rfl rfl ?_
      refine fl_if_eq hm_22 rfl ⟨by omega, by omega⟩ (fun _ => ?_) (fun h => absurd (by omega) h)
      refine ga_iload (z := 0) hm_22 rfl rfl ?_
      refine fl_if_ne hm_22 rfl ⟨by omega, by omega⟩ (fun h => absurd h (by omega)) (fun _ => ?_)
      refine ga_iload_n (z := s) hm_22 rfl rfl ?_
      refine fl_if_lt (a := s) hm_22 rfl ⟨by omega, by omega⟩ (fun h134_ => ?_) (fun h135_ => ?_)
      ·
        refine ga_iload_n (z := F 2 i.toNat) hm_22 rfl rfl ?_
        refine fl_bipush hm_22 rfl rfl ?_
        refine fl_icmp_eq (a := F 2 i.toNat) (b := 40) hm_22 rfl ⟨by omega, by omega⟩ ⟨by omega, by omega⟩ (fun h136_ => ?_) (fun h137_ => ?_)
        · exfalso; omega
        refine ga_iload_n (z := F 2 i.toNat) hm_22 rfl rfl ?_
        refine fl_bipush hm_22 rfl rfl ?_
        refine fx_icmp_ne (a := F 2 i.toNat) (b := 41) hm_22 rfl ⟨by omega, by omega⟩ ⟨by omega, by omega⟩ (fun h138_ => ?_) (fun h139_ => ?_)
        · exfalso; omega
        refine ga_aload_n (v := .ref 1) hm_22 rfl rfl rfl ?_
        refine ga_iload_n (z := F 2 i.toNat) hm_22 rfl rfl ?_
        refine fl_bipush hm_22 rfl rfl ?_
        refine fx_icmp_ne (a := F 2 i.toNat) (b := 40) hm_22 rfl ⟨by omega, by omega⟩ ⟨by omega, by omega⟩ (fun h140_ => ?_) (fun h141_ => ?_)
        ·
          refine fl_iconst hm_22 rfl ?_
          refine ga_iload_n (z := i) hm_22 rfl rfl ?_
          refine ga_iload_n (z := i) hm_22 rfl rfl ?_
          refine fl_iconst hm_22 rfl ?_
          refine ga_iadd (a := i) (b := 1) (c := i + 1) hm_22 rfl (by omega) ?_
          refine ga_lconst (z := 0) hm_22 rfl rfl ?_
          have b142_ : 0 ≤ F1 1 6 ∧ F1 1 6 ≤ 601 := gi_g hg_F1 rfl
          refine gVv (nY := 6) (F := 0) (L := 0) (As := [.int (Int32.ofInt 1), .int (Int32.ofInt i), .int (Int32.ofInt (i + 1)), .long (Int64.ofInt 0)]) (b := 1) (rest := []) hm_22 rfl hm_23 rfl rfl (fl_ob sc_1) rfl rfl rfl rfl rfl (by omega) (by omega) (mc_23 hG F1 X hg_F1 (1) (i) (i + 1) (0) (by omega) (by omega) (by omega) (by omega) (by omega)) (fun _ _ h => False.elim h) ?_
          rintro A1_ ⟨F145_, hA_, g146_, s147_, c144_⟩
          subst hA_
          have g148_ : fs [(1, 1, 1, 1), (1, 1, 6, 8), (3, 6, 0, 100000)] F F145_ := fs_tr g9_ s147_ rfl
          have t_c144_ := c144_.1
          refine ga_inc (a := i) (c := i + 1) (lv2 := [(2, .int (Int32.ofInt (i + 1))), (4, .int (Int32.ofInt 0)), (3, .int (Int32.ofInt (F 2 i.toNat))), (1, .int (Int32.ofInt s)), (0, .ref 1)]) hm_22 rfl rfl (Nat.le_of_ble_eq_true rfl) rfl rfl ?_
          refine fl_goto hm_22 rfl ?_
          have b149_ : 0 ≤ F145_ 1 6 ∧ F145_ 1 6 ≤ 601 := gi_g g146_ rfl
          exact fl_R_sub (lv' := [(2, .int (Int32.ofInt (i + 1))), (1, .int (Int32.ofInt s)), (0, .ref 1)]) rfl rfl (ih7_ _ (by omega) (i + 1) (s) (_) F145_ rfl g146_ (fs_tr hf_F1 s147_ rfl) (by omega) (tka_snoc (hcnt).1 (hcnt).2 c144_ (by omega) (by omega) (tkk_c (by omega)) (tkc_p (by omega))) (by (try simp only [List.length_append, List.length_singleton]); omega) (by omega) (by rw [htk, tz5 (by omega) (by omega) (by omega) (by omega)]; try simp))
        exfalso; omega
      refine ga_aload_n (v := .ref 1) hm_22 rfl rfl rfl ?_
      refine ga_iload_n (z := s) hm_22 rfl rfl ?_
      refine ga_iload_n (z := i) hm_22 rfl rfl ?_
      have b150_ : 0 ≤ F1 1 6 ∧ F1 1 6 ≤ 601 := gi_g hg_F1 rfl
      have e151_ : F1_ 2 s.toNat = F 2 s.toNat := by rw [q2_]; exact (fl_u_ne (by omega)).trans ((fl_u_ne (by omega)).trans (fl_u_ne (by omega)))
      have e152_ : F1 2 s.toNat = F 2 s.toNat := (hf_F1 2 s.toNat (fs_n (by omega) (fs_n (by omega) rfl))).trans (e151_)
      refine gVv (nY := 7) (F := 1) (L := 27) (As := [.int (Int32.ofInt s), .int (Int32.ofInt i)]) (b := 1) (rest := []) hm_22 rfl hm_148 rfl rfl (fl_ob sc_1) rfl rfl rfl rfl rfl (by omega) (by omega) (mc_148 hG F1 X hg_F1 (s) (i) (by omega) (by omega) (by omega)) (fun _ _ h => False.elim h) ?_
      rintro A1_ ⟨F155_, hA_, g156_, s157_, c154_⟩
      subst hA_
      have g158_ : fs [(1, 1, 1, 1), (1, 1, 6, 8), (3, 6, 0, 100000)] F F155_ := fs_tr g9_ s157_ rfl
      have t_c154_ := c154_.1
      refine fl_iconst hm_22 rfl ?_
      refine ga_istore_n (lv2 := [(1, .int (Int32.ofInt (-1))), (4, .int (Int32.ofInt 0)), (3, .int (Int32.ofInt (F 2 i.toNat))), (2, .int (Int32.ofInt i)), (0, .ref 1)]) hm_22 rfl (Nat.le_of_ble_eq_true rfl) rfl ?_
      refine ga_iload_n (z := F 2 i.toNat) hm_22 rfl rfl ?_
      refine fl_bipush hm_22 rfl rfl ?_
      refine fl_icmp_eq (a := F 2 i.toNat) (b := 40) hm_22 rfl ⟨by omega, by omega⟩ ⟨by omega, by omega⟩ (fun h159_ => ?_) (fun h160_ => ?_)
      · exfalso; omega
      refine ga_iload_n (z := F 2 i.toNat) hm_22 rfl rfl ?_
      refine fl_bipush hm_22 rfl rfl ?_
      refine fx_icmp_ne (a := F 2 i.toNat) (b := 41) hm_22 rfl ⟨by omega, by omega⟩ ⟨by omega, by omega⟩ (fun h161_ => ?_) (fun h162_ => ?_)
      · exfalso; omega
      refine ga_aload_n (v := .ref 1) hm_22 rfl rfl rfl ?_
      refine ga_iload_n (z := F 2 i.toNat) hm_22 rfl rfl ?_
      refine fl_bipush hm_22 rfl rfl ?_
      refine fx_icmp_ne (a := F 2 i.toNat) (b := 40) hm_22 rfl ⟨by omega, by omega⟩ ⟨by omega, by omega⟩ (fun h163_ => ?_) (fun h164_ => ?_)
      ·
        refine fl_iconst hm_22 rfl ?_
        refine ga_iload_n (z := i) hm_22 rfl rfl ?_
        refine ga_iload_n (z := i) hm_22 rfl rfl ?_
        refine fl_iconst hm_22 rfl ?_
        refine ga_iadd (a := i) (b := 1) (c := i + 1) hm_22 rfl (by omega) ?_
        refine ga_lconst (z := 0) hm_22 rfl rfl ?_
        have b165_ : 0 ≤ F155_ 1 6 ∧ F155_ 1 6 ≤ 601 := gi_g g156_ rfl
        refine gVv (nY := 6) (F := 0) (L := 0) (As := [.int (Int32.ofInt 1), .int (Int32.ofInt i), .int (Int32.ofInt (i + 1)), .long (Int64.ofInt 0)]) (b := 1) (rest := []) hm_22 rfl hm_23 rfl rfl (fl_ob sc_1) rfl rfl rfl rfl rfl (by omega) (by omega) (mc_23 hG F155_ X g156_ (1) (i) (i + 1) (0) (by omega) (by omega) (by omega) (by omega) (by omega)) (fun _ _ h => False.elim h) ?_
        rintro A1_ ⟨F168_, hA_, g169_, s170_, c167_⟩
        subst hA_
        have g171_ : fs [(1, 1, 1, 1), (1, 1, 6, 8), (3, 6, 0, 100000)] F F168_ := fs_tr g158_ s170_ rfl
        have t_c167_ := c167_.1
        refine ga_inc (a := i) (c := i + 1) (lv2 := [(2, .int (Int32.ofInt (i + 1))), (1, .int (Int32.ofInt (-1))), (4, .int (Int32.ofInt 0)), (3, .int (Int32.ofInt (F 2 i.toNat))), (0, .ref 1)]) hm_22 rfl rfl (Nat.le_of_ble_eq_true rfl) rfl rfl ?_
        refine fl_goto hm_22 rfl ?_
        have b172_ : 0 ≤ F168_ 1 6 ∧ F168_ 1 6 ≤ 601 := gi_g g169_ rfl
        exact fl_R_sub (lv' := [(2, .int (Int32.ofInt (i + 1))), (1, .int (Int32.ofInt (-1))), (0, .ref 1)]) rfl rfl (ih7_ _ (by omega) (i + 1) (-1) (_) F168_ rfl g169_ (fs_tr (fs_tr hf_F1 s157_ rfl) s170_ rfl) (by omega) (tka_snoc ((tka_snoc (hcnt).1 (hcnt).2 c154_ (by omega) (by omega) (by rw [(funext (fun k => g9_ 2 k (fs_n (by omega) (fs_n (by omega) (fs_n (by omega) rfl)))))]) (by rw [(funext (fun k => g9_ 2 k (fs_n (by omega) (fs_n (by omega) (fs_n (by omega) rfl)))))]))).1 ((tka_snoc (hcnt).1 (hcnt).2 c154_ (by omega) (by omega) (by rw [(funext (fun k => g9_ 2 k (fs_n (by omega) (fs_n (by omega) (fs_n (by omega) rfl)))))]) (by rw [(funext (fun k => g9_ 2 k (fs_n (by omega) (fs_n (by omega) (fs_n (by omega) rfl)))))]))).2 c167_ (by omega) (by omega) (tkk_c (by omega)) (tkc_p (by omega))) (by (try simp only [List.length_append, List.length_singleton]); omega) (by omega) (by rw [htk, tz6 (by omega) (by omega) (by omega) (by omega)]; try simp))
      exfalso; omega
    refine fl_iconst hm_22 rfl ?_
    refine fl_goto hm_22 rfl ?_
    refine ga_istore (lv2 := [(4, .int (Int32.ofInt 1)), (3, .int (Int32.ofInt (F 2 i.toNat))), (2, .int (Int32.ofInt i)), (1, .int (Int32.ofInt s)), (0, .ref 1)]) hm_22 rfl (Nat.le_of_ble_eq_true rfl) rfl ?_
    refine ga_iload (z := 1) hm_22 rfl rfl ?_
    refine fl_if_eq hm_22 rfl ⟨by omega, by omega⟩ (fun h => absurd h (by omega)) (fun _ => ?_)
    refine ga_iload_n (z := s) hm_22 rfl rfl ?_
    refine fl_if_ge (a := s) hm_22 rfl ⟨by omega, by omega⟩ (fun h173_ => ?_) (fun h174_ => ?_)
    ·
      refine ga_iload (z := 1) hm_22 rfl rfl ?_
      refine fl_if_ne hm_22 rfl ⟨by omega, by omega⟩ (fun _ => ?_) (fun h => absurd (by omega) h)
      refine ga_iload_n (z := F 2 i.toNat) hm_22 rfl rfl ?_
      refine fl_bipush hm_22 rfl rfl ?_
      refine fl_icmp_eq (a := F 2 i.toNat) (b := 40) hm_22 rfl ⟨by omega, by omega⟩ ⟨by omega, by omega⟩ (fun h175_ => ?_) (fun h176_ => ?_)
      · exfalso; omega
      refine ga_iload_n (z := F 2 i.toNat) hm_22 rfl rfl ?_
      refine fl_bipush hm_22 rfl rfl ?_
      refine fx_icmp_ne (a := F 2 i.toNat) (b := 41) hm_22 rfl ⟨by omega, by omega⟩ ⟨by omega, by omega⟩ (fun h177_ => ?_) (fun h178_ => ?_)
      ·
        refine ga_inc (a := i) (c := i + 1) (lv2 := [(2, .int (Int32.ofInt (i + 1))), (4, .int (Int32.ofInt 1)), (3, .int (Int32.ofInt (F 2 i.toNat))), (1, .int (Int32.ofInt s)), (0, .ref 1)]) hm_22 rfl rfl (Nat.le_of_ble_eq_true rfl) rfl rfl ?_
        refine fl_goto hm_22 rfl ?_
        have b179_ : 0 ≤ F1 1 6 ∧ F1 1 6 ≤ 601 := gi_g hg_F1 rfl
        exact fl_R_sub (lv' := [(2, .int (Int32.ofInt (i + 1))), (1, .int (Int32.ofInt s)), (0, .ref 1)]) rfl rfl (ih7_ _ (by omega) (i + 1) (s) (_) F1 rfl hg_F1 hf_F1 (by omega) (hcnt) (by (try simp only [List.length_append, List.length_singleton]); omega) (by omega) (by rw [htk, tz2 (by omega) (by omega) (by omega) (by omega)]; try simp))
      exfalso; omega
    refine ga_iload_n (z := i) hm_22 rfl rfl ?_
    refine ga_istore_n (lv2 := [(1, .int (Int32.ofInt i)), (4, .int (Int32.ofInt 1)), (3, .int (Int32.ofInt (F 2 i.toNat))), (2, .int (Int32.ofInt i)), (0, .ref 1)]) hm_22 rfl (Nat.le_of_ble_eq_true rfl) rfl ?_
    refine ga_iload (z := 1) hm_22 rfl rfl ?_
    refine fl_if_ne hm_22 rfl ⟨by omega, by omega⟩ (fun _ => ?_) (fun h => absurd (by omega) h)
    refine ga_iload_n (z := F 2 i.toNat) hm_22 rfl rfl ?_
    refine fl_bipush hm_22 rfl rfl ?_
    refine fl_icmp_eq (a := F 2 i.toNat) (b := 40) hm_22 rfl ⟨by omega, by omega⟩ ⟨by omega, by omega⟩ (fun h180_ => ?_) (fun h181_ => ?_)
    · exfalso; omega
    refine ga_iload_n (z := F 2 i.toNat) hm_22 rfl rfl ?_
    refine fl_bipush hm_22 rfl rfl ?_
    refine fx_icmp_ne (a := F 2 i.toNat) (b := 41) hm_22 rfl ⟨by omega, by omega⟩ ⟨by omega, by omega⟩ (fun h182_ => ?_) (fun h183_ => ?_)
    ·
      refine ga_inc (a := i) (c := i + 1) (lv2 := [(2, .int (Int32.ofInt (i + 1))), (1, .int (Int32.ofInt i)), (4, .int (Int32.ofInt 1)), (3, .int (Int32.ofInt (F 2 i.toNat))), (0, .ref 1)]) hm_22 rfl rfl (Nat.le_of_ble_eq_true rfl) rfl rfl ?_
      refine fl_goto hm_22 rfl ?_
      have b184_ : 0 ≤ F1 1 6 ∧ F1 1 6 ≤ 601 := gi_g hg_F1 rfl
      exact fl_R_sub (lv' := [(2, .int (Int32.ofInt (i + 1))), (1, .int (Int32.ofInt i)), (0, .ref 1)]) rfl rfl (ih7_ _ (by omega) (i + 1) (i) (_) F1 rfl hg_F1 hf_F1 (by omega) (hcnt) (by (try simp only [List.length_append, List.length_singleton]); omega) (by omega) (by rw [htk, tz1 (by omega) (by omega) (by omega) (by omega)]; try simp))
    exfalso; omega
  have b185_ : 0 ≤ F 1 1 ∧ F 1 1 ≤ 600 := gi_g hgi rfl
  have e186_ : F1_ 1 6 = 0 := by rw [q2_]; exact (fl_u_ne (by omega)).trans ((fl_u_ne (by omega)).trans (fl_u_eq))
  exact L6_ _ (0) (-1) ([]) F1_ rfl g3_ fs_refl (by omega) (⟨fun j q hq => by simp at hq, by rw [q2_]; simp [fl_u]⟩) (by simp) (by omega) (by simp)

theorem nf_step {f : Nat → Int} {c i : Int} (h : ∀ j : Nat, (j : Int) < i → f j ≠ c) (hi : 0 ≤ i) (hn : ¬ f i.toNat = c) : ∀ j : Nat, (j : Int) < i + 1 → f j ≠ c := by
  intro j hj
  by_cases e : (j : Int) < i
  · exact h j e
  · have e2 : j = i.toNat := by omega
    subst e2
    exact hn
/- CheapPlanner$Names.find -/
abbrev pq_109 (G : Nat → Nat → Option Nat) (F : fl_N) (X : xi_H) (a n : Nat) (c : Int) : Outcome → xi_H → Prop := gqi (fun z A => A = fl_H sh_T G F ++ X ∧ (-1 ≤ z ∧ z < F a 2) ∧ (z = -1 → ∀ j : Nat, (j : Int) < F a 2 → F (a + 1) j ≠ c) ∧ (0 ≤ z → F (a + 1) z.toNat = c ∧ ∀ j : Nat, (j : Int) < z → F (a + 1) j ≠ c)) gqn
theorem mc_109 {G : Nat → Nat → Option Nat} (hG : gg G) (F : fl_N) (X : xi_H) (hgi : gi F) (a n : Nat) (c : Int) (h_a : nm a n) (hc : -9223372036854775808 ≤ c ∧ c ≤ 9223372036854775807) : fl_M xi_ms 109 0 0 [.ref a, .long (Int64.ofInt c)] (fl_H sh_T G F ++ X) (pq_109 G F X a n c) := by
  intro fr lo hfr hlo
  show fl_R xi_ms 109 fr lo 0 [(0, .ref a), (1, .long (Int64.ofInt c))] [] _ _
  have hr_a := h_a.2.2
  refine fl_iconst hm_109 rfl ?_
  refine ga_istore_n (lv2 := [(3, .int (Int32.ofInt 0)), (0, .ref a), (1, .long (Int64.ofInt c))]) hm_109 rfl (Nat.le_of_ble_eq_true rfl) rfl ?_
  have L2_ : ∀ (n1_ : Nat) (i : Int), (F a 2 - i : Int).toNat = n1_ → (0 ≤ i ∧ i ≤ F a 2) → (∀ j : Nat, (j : Int) < i → F (a + 1) j ≠ c) → fl_R xi_ms 109 fr lo 2 [(3, .int (Int32.ofInt i)), (0, .ref a), (1, .long (Int64.ofInt c))] [] (fl_H sh_T G F ++ X) (pq_109 G F X a n c) := by
    intro n1_
    induction n1_ using Nat.strongRecOn with
    | ind n1_ ih3_ =>
    intro i hn4_ hi hj_
    refine ga_iload_n (z := i) hm_109 rfl rfl ?_
    refine ga_aload_n (v := .ref a) hm_109 rfl rfl rfl ?_
    have b5_ : 0 ≤ F a 2 ∧ F a 2 ≤ (n : Int) := gi_g hgi h_a.2.1.1
    refine ga_geti (z := F a 2) hm_109 rfl h_a.1.1 rfl (rfl) ?_
    refine fl_icmp_ge (a := i) (b := F a 2) hm_109 rfl ⟨by omega, by omega⟩ ⟨by omega, by omega⟩ (fun h6_ => ?_) (fun h7_ => ?_)
    ·
      refine fl_iconst hm_109 rfl ?_
      refine gr_i (z := -1) hm_109 rfl rfl rfl ?_
      exact ⟨rfl, (by omega), (by intro hz j hj; first | omega | (exact hj_ j (by omega))), (by intro hz; first | omega | (exact ⟨by assumption, fun j hj => hj_ j (by omega)⟩))⟩
    refine ga_aload_n (v := .ref a) hm_109 rfl rfl rfl ?_
    refine ga_getr (b := a + 1) hm_109 rfl h_a.1.1 rfl ?_
    refine ga_iload_n (z := i) hm_109 rfl rfl ?_
    have b8_ : -9223372036854775808 ≤ F (a + 1) i.toNat ∧ F (a + 1) i.toNat ≤ 9223372036854775807 := gi_g hgi (gb_a h_a.2.1.2.2)
    refine ga_lald (z := i) (w := F (a + 1) i.toNat) hm_109 rfl h_a.1.2.1 (by omega) (by omega) (by omega) (rfl) ?_
    refine ga_lload_n (z := c) hm_109 rfl rfl ?_
    refine ga_lcmpn (a := F (a + 1) i.toNat) (b := c) hm_109 rfl rfl ⟨by omega, by omega⟩ ⟨by omega, by omega⟩ (fun h9_ => ?_) (fun h10_ => ?_)
    ·
      refine ga_inc (a := i) (c := i + 1) (lv2 := [(3, .int (Int32.ofInt (i + 1))), (0, .ref a), (1, .long (Int64.ofInt c))]) hm_109 rfl rfl (Nat.le_of_ble_eq_true rfl) rfl rfl ?_
      refine fl_goto hm_109 rfl ?_
      exact ih3_ _ (by omega) (i + 1) rfl (by omega) (nf_step hj_ (by omega) (by assumption))
    refine ga_iload_n (z := i) hm_109 rfl rfl ?_
    refine gr_i (z := i) hm_109 rfl rfl rfl ?_
    exact ⟨rfl, (by omega), (by intro hz j hj; first | omega | (exact hj_ j (by omega))), (by intro hz; first | omega | (exact ⟨by assumption, fun j hj => hj_ j (by omega)⟩))⟩
  have b11_ : 0 ≤ F a 2 ∧ F a 2 ≤ (n : Int) := gi_g hgi h_a.2.1.1
  exact L2_ _ (0) rfl (by omega) (fun j hj => absurd hj (by omega))
/- CheapPlanner$Tokens.take -/
abbrev pq_20 (G : Nat → Nat → Option Nat) (F : fl_N) (X : xi_H) (p : Int) : Outcome → xi_H → Prop := gqi (fun z A => ∃ F' : fl_N, A = fl_H sh_T G F' ++ X ∧ gi F' ∧ fs [(1, 1, 1, 1), (2, 2, 0, 100000)] F F' ∧ (z = 0 ∨ z = 1)) gqn
theorem mc_20 {G : Nat → Nat → Option Nat} (hG : gg G) (F : fl_N) (X : xi_H) (hgi : gi F) (p : Int) : fl_M xi_ms 20 1 21 [.ref 1, .int (Int32.ofInt p)] (fl_H sh_T G F ++ X) (pq_20 G F X p) := by
  intro fr lo hfr hlo
  show fl_R xi_ms 20 fr lo 0 [(0, .ref 1), (1, .int (Int32.ofInt p))] [] _ _
  refine fl_bipush hm_20 rfl rfl ?_
  refine ga_istore_n (lv2 := [(2, .int (Int32.ofInt 24)), (0, .ref 1), (1, .int (Int32.ofInt p))]) hm_20 rfl (Nat.le_of_ble_eq_true rfl) rfl ?_
  have L2_ : ∀ (n1_ : Nat) (i : Int) (F1 : fl_N), (i + 8 : Int).toNat = n1_ → (gi F1) → (fs [(1, 1, 1, 1), (2, 2, 0, 100000)] F F1) → (-8 ≤ i ∧ i ≤ 24) → fl_R xi_ms 20 fr lo 3 [(2, .int (Int32.ofInt i)), (0, .ref 1), (1, .int (Int32.ofInt p))] [] (fl_H sh_T G F1 ++ X) (pq_20 G F X p) := by
    intro n1_
    induction n1_ using Nat.strongRecOn with
    | ind n1_ ih3_ =>
    intro i F1 hn4_ hg_F1 hf_F1 hi
    have g5_ : fs [(1, 1, 1, 1), (2, 2, 0, 100000)] F F1 := fs_tr fs_refl hf_F1 rfl
    refine ga_iload_n (z := i) hm_20 rfl rfl ?_
    refine fl_if_lt (a := i) hm_20 rfl ⟨by omega, by omega⟩ (fun h6_ => ?_) (fun h7_ => ?_)
    ·
      refine fl_iconst hm_20 rfl ?_
      refine gr_i (z := 1) hm_20 rfl rfl (ga_nb (by omega)) ?_
      exact ⟨F1, rfl, hg_F1, g5_, (by omega)⟩
    refine ga_iload_n (z := p) hm_20 rfl rfl ?_
    refine ga_iload_n (z := i) hm_20 rfl rfl ?_
    refine ga_iany hm_20 rfl rfl rfl (fun z8_ h9_ => ?_)
    unfold fl_i at *
    refine fl_sipush hm_20 rfl rfl ?_
    refine ga_iand (m := 255) hm_20 rfl (by omega) (fun z10_ h11_ h12_ => ?_)
    refine ga_istore_n (lv2 := [(3, .int (Int32.ofInt z10_)), (2, .int (Int32.ofInt i)), (0, .ref 1), (1, .int (Int32.ofInt p))]) hm_20 rfl (Nat.le_of_ble_eq_true rfl) rfl ?_
    refine ga_iload_n (z := z10_) hm_20 rfl rfl ?_
    refine fl_if_eq (a := z10_) hm_20 rfl ⟨by omega, by omega⟩ (fun h13_ => ?_) (fun h14_ => ?_)
    ·
      refine ga_inc (a := i) (c := i - 8) (lv2 := [(2, .int (Int32.ofInt (i - 8))), (3, .int (Int32.ofInt z10_)), (0, .ref 1), (1, .int (Int32.ofInt p))]) hm_20 rfl rfl (Nat.le_of_ble_eq_true rfl) (by omega) rfl ?_
      refine fl_goto hm_20 rfl ?_
      exact fl_R_sub (lv' := [(2, .int (Int32.ofInt (i - 8))), (0, .ref 1), (1, .int (Int32.ofInt p))]) rfl rfl (ih3_ _ (by omega) (i - 8) F1 rfl hg_F1 hf_F1 (by omega))
    refine ga_aload_n (v := .ref 1) hm_20 rfl rfl rfl ?_
    refine ga_iload_n (z := z10_) hm_20 rfl rfl ?_
    refine gIi (nY := 2) (F := 0) (L := 0) (As := [.int (Int32.ofInt z10_)]) (b := 1) (rest := []) hm_20 rfl hm_21 rfl rfl (fl_ob sc_1) rfl rfl rfl rfl rfl (by omega) (by omega) ?_
    intro f15_ l16_ h17_ h18_
    show fl_R xi_ms 21 f15_ l16_ 0 [(0, .ref 1), (1, .int (Int32.ofInt z10_))] [] _ _
    refine ga_iload_n (z := z10_) hm_21 rfl rfl ?_
    refine fl_bipush hm_21 rfl rfl ?_
    refine fl_icmp_lt (a := z10_) (b := 32) hm_21 rfl ⟨by omega, by omega⟩ ⟨by omega, by omega⟩ (fun h19_ => ?_) (fun h20_ => ?_)
    ·
      refine fl_iconst hm_21 rfl ?_
      refine gr_i hm_21 rfl rfl (ga_nb (by omega)) ?_
      refine fl_if_ne hm_20 rfl ⟨by omega, by omega⟩ (fun h => absurd h (by omega)) (fun _ => ?_)
      refine fl_iconst hm_20 rfl ?_
      refine gr_i (z := 0) hm_20 rfl rfl (ga_nb (by omega)) ?_
      exact ⟨F1, rfl, hg_F1, g5_, (by omega)⟩
    refine ga_iload_n (z := z10_) hm_21 rfl rfl ?_
    refine fl_bipush hm_21 rfl rfl ?_
    refine fl_icmp_gt (a := z10_) (b := 126) hm_21 rfl ⟨by omega, by omega⟩ ⟨by omega, by omega⟩ (fun h21_ => ?_) (fun h22_ => ?_)
    ·
      refine fl_iconst hm_21 rfl ?_
      refine gr_i hm_21 rfl rfl (ga_nb (by omega)) ?_
      refine fl_if_ne hm_20 rfl ⟨by omega, by omega⟩ (fun h => absurd h (by omega)) (fun _ => ?_)
      refine fl_iconst hm_20 rfl ?_
      refine gr_i (z := 0) hm_20 rfl rfl (ga_nb (by omega)) ?_
      exact ⟨F1, rfl, hg_F1, g5_, (by omega)⟩
    refine ga_aload_n (v := .ref 1) hm_21 rfl rfl rfl ?_
    have b23_ : 0 ≤ F1 1 1 ∧ F1 1 1 ≤ 600 := gi_g hg_F1 rfl
    refine ga_geti (z := F1 1 1) hm_21 rfl sc_1 rfl (rfl) ?_
    refine fl_sipush hm_21 rfl rfl ?_
    refine fl_icmp_lt (a := F1 1 1) (b := 600) hm_21 rfl ⟨by omega, by omega⟩ ⟨by omega, by omega⟩ (fun h24_ => ?_) (fun h25_ => ?_)
    ·
      refine ga_aload_n (v := .ref 1) hm_21 rfl rfl rfl ?_
      refine ga_getr (b := 2) hm_21 rfl sc_1 rfl ?_
      refine ga_aload_n (v := .ref 1) hm_21 rfl rfl rfl ?_
      refine ga_geti (z := F1 1 1) hm_21 rfl sc_1 rfl (rfl) ?_
      refine ga_iload_n (z := z10_) hm_21 rfl rfl ?_
      refine ga_i2c hm_21 rfl (by omega) (by omega) ?_
      refine fl_cast (z := F1 1 1) (v := z10_) hm_21 rfl sc_2 (by omega) (by omega) (by omega) (ga_vc (by omega) (by omega)) ?_
      refine ga_aload_n (v := .ref 1) hm_21 rfl rfl rfl ?_
      refine ga_dup hm_21 rfl rfl ?_
      refine ga_geti (z := F1 1 1) hm_21 rfl sc_1 rfl (fl_u_ne (by omega)) ?_
      refine fl_iconst hm_21 rfl ?_
      refine ga_iadd (a := F1 1 1) (b := 1) (c := F1 1 1 + 1) hm_21 rfl (by omega) ?_
      refine ga_puti (z := F1 1 1 + 1) hm_21 rfl sc_1 rfl rfl ?_
      refine fl_iconst hm_21 rfl ?_
      refine gr_i hm_21 rfl rfl (ga_nb (by omega)) ?_
      refine fl_if_ne hm_20 rfl ⟨by omega, by omega⟩ (fun _ => ?_) (fun h => absurd (by omega) h)
      refine ga_inc (a := i) (c := i - 8) (lv2 := [(2, .int (Int32.ofInt (i - 8))), (3, .int (Int32.ofInt z10_)), (0, .ref 1), (1, .int (Int32.ofInt p))]) hm_20 rfl rfl (Nat.le_of_ble_eq_true rfl) (by omega) rfl ?_
      refine fl_goto hm_20 rfl ?_
      obtain ⟨F26_, q27_⟩ : ∃ F9_, F9_ = (fl_u (fl_u F1 2 (F1 1 1).toNat z10_) 1 1 (F1 1 1 + 1)) := ⟨_, rfl⟩
      rw [← q27_]
      have g28_ : gi F26_ := by rw [q27_]; exact gi_u (gi_u (hg_F1) rfl (by omega) (by omega)) rfl (by omega) (by omega)
      have g29_ : fs [(1, 1, 1, 1), (2, 2, 0, 100000)] F F26_ := by rw [q27_]; exact fs_u (fs_u (g5_) (fs_z (fs_y (by omega)))) rfl
      exact fl_R_sub (lv' := [(2, .int (Int32.ofInt (i - 8))), (0, .ref 1), (1, .int (Int32.ofInt p))]) rfl rfl (ih3_ _ (by omega) (i - 8) F26_ rfl g28_ (by rw [q27_]; exact fs_u (fs_u (hf_F1) (fs_z (fs_y (by omega)))) rfl) (by omega))
    refine fl_iconst hm_21 rfl ?_
    refine gr_i hm_21 rfl rfl (ga_nb (by omega)) ?_
    refine fl_if_ne hm_20 rfl ⟨by omega, by omega⟩ (fun h => absurd h (by omega)) (fun _ => ?_)
    refine fl_iconst hm_20 rfl ?_
    refine gr_i (z := 0) hm_20 rfl rfl (ga_nb (by omega)) ?_
    exact ⟨F1, rfl, hg_F1, g5_, (by omega)⟩
  exact L2_ _ (24) F rfl hgi fs_refl (by omega)

/-! the reference's ground: what telling a plan needs -/
def sob (F : fl_N) : Prop := ∀ s : Nat, (s : Int) < F 344 39 → 0 ≤ F 357 (F 367 s).toNat ∧ ∀ p : Nat, (p : Int) < F 354 (F 367 s).toNat → 0 ≤ F 368 (3 * s + p)
theorem sob_cg {F F2 : fl_N} (h : sob F) (c : F2 344 39 = F 344 39) (c1 : ∀ j, F2 357 j = F 357 j) (c2 : ∀ j, F2 367 j = F 367 j) (c3 : ∀ j, F2 354 j = F 354 j) (c4 : ∀ j, F2 368 j = F 368 j) : sob F2 := by
  intro s hs
  rw [c] at hs
  have h1 := h s hs
  rw [c2, c1, c3]
  refine ⟨h1.1, fun p hp => ?_⟩
  rw [c4]
  exact h1.2 p hp
theorem sob_0 {F : fl_N} (h : F 344 39 = 0) : sob F := fun s hs => absurd hs (by omega)
theorem sob_add {F F2 : fl_N} {a : Int} (h : sob F) (h0 : 0 ≤ F 344 39) (c : F2 344 39 = F 344 39 + 1) (c2 : ∀ j : Nat, (j : Int) < F 344 39 → F2 367 j = F 367 j) (c1 : ∀ j, F2 357 j = F 357 j) (c3 : ∀ j, F2 354 j = F 354 j) (c4 : ∀ j : Nat, (j : Int) < 3 * F 344 39 → F2 368 j = F 368 j) (ha : F2 367 (F 344 39).toNat = a) (hc : 0 ≤ F 357 a.toNat) (hn : ∀ p : Nat, (p : Int) < 3 → (p : Int) < F 354 a.toNat → 0 ≤ F2 368 (3 * (F 344 39).toNat + p)) (h3 : F 354 a.toNat ≤ 3) (hb : ∀ s : Nat, F 354 (F 367 s).toNat ≤ 3) : sob F2 := by
  intro s hs
  rw [c] at hs
  by_cases e : (s : Int) < F 344 39
  · have h1 := h s e
    have h2 := hb s
    rw [c2 s e, c1, c3]
    refine ⟨h1.1, fun p hp => ?_⟩
    rw [c4 _ (by omega)]
    exact h1.2 p hp
  · have e2 : s = (F 344 39).toNat := by omega
    subst e2
    rw [ha, c1, c3]
    exact ⟨hc, fun p hp => hn p (by omega) hp⟩
theorem so_w {F : fl_N} {b i : Nat} {k n v : Int} (h : ∀ p : Nat, (p : Int) < k → (p : Int) < n → 0 ≤ F 368 (b + p)) (hk : 0 ≤ k) (hi : i = b + k.toNat) (hv : k < n → 0 ≤ v) : ∀ p : Nat, (p : Int) < k + 1 → (p : Int) < n → 0 ≤ fl_u F 368 i v 368 (b + p) := by
  intro p h1 h2
  by_cases e : (p : Int) < k
  · rw [fl_u_ne (by omega)]
    exact h p e h2
  · rw [show b + p = i by omega, fl_u_eq]
    exact hv (by omega)

/- CheapPlannerModel.valueOf -/
abbrev pq_193 (G : Nat → Nat → Option Nat) (F : fl_N) (X : xi_H) (a ll k : Int) : Outcome → xi_H → Prop := gqi (fun z A => fl_H sh_T G F ++ X = A ∧ (0 ≤ z ∧ z ≤ 5)) gqn
theorem mc_193 {G : Nat → Nat → Option Nat} (hG : gg G) (F : fl_N) (X : xi_H) (hgi : gi F) (a ll k : Int) (hl : 0 ≤ ll ∧ ll ≤ 43) (hk : 0 ≤ k ∧ k ≤ 1) (hla : a = 5 ∨ (0 ≤ a ∧ a ≤ 4 ∧ ll ≤ 39)) : fl_M xi_ms 193 0 0 [.ref 344, .int (Int32.ofInt a), .int (Int32.ofInt ll), .int (Int32.ofInt k)] (fl_H sh_T G F ++ X) (pq_193 G F X a ll k) := by
  intro fr lo hfr hlo
  show fl_R xi_ms 193 fr lo 0 [(0, .ref 344), (1, .int (Int32.ofInt a)), (2, .int (Int32.ofInt ll)), (3, .int (Int32.ofInt k))] [] _ _
  refine ga_iload_n (z := a) hm_193 rfl rfl ?_
  refine fl_iconst hm_193 rfl ?_
  refine fx_icmp_ne (a := a) (b := 5) hm_193 rfl ⟨by omega, by omega⟩ ⟨by omega, by omega⟩ (fun h1_ => ?_) (fun h2_ => ?_)
  ·
    refine ga_aload_n (v := .ref 344) hm_193 rfl rfl rfl ?_
    refine ga_getr (b := 384) hm_193 rfl sc_344 rfl ?_
    refine ga_aload_n (v := .ref 344) hm_193 rfl rfl rfl ?_
    refine ga_getr (b := 363) hm_193 rfl sc_344 rfl ?_
    refine fl_iconst hm_193 rfl ?_
    refine ga_iload_n (z := ll) hm_193 rfl rfl ?_
    refine ga_imul (a := 2) (b := ll) (c := 2 * ll) hm_193 rfl (by omega) ?_
    refine ga_iload_n (z := k) hm_193 rfl rfl ?_
    refine ga_iadd (a := 2 * ll) (b := k) (c := 2 * ll + k) hm_193 rfl (by omega) ?_
    have b3_ := gi_t363 hgi ((2 * ll + k).toNat)
    refine ga_iald (z := 2 * ll + k) (w := F 363 (2 * ll + k).toNat) hm_193 rfl sc_363 (by omega) (by omega) (by omega) (rfl) ?_
    have b4_ : 0 ≤ F 384 (F 363 (2 * ll + k).toNat).toNat ∧ F 384 (F 363 (2 * ll + k).toNat).toNat ≤ 5 := gi_g hgi rfl
    refine ga_iald (z := F 363 (2 * ll + k).toNat) (w := F 384 (F 363 (2 * ll + k).toNat).toNat) hm_193 rfl sc_384 (by omega) (by omega) (by omega) (rfl) ?_
    refine gr_i (z := F 384 (F 363 (2 * ll + k).toNat).toNat) hm_193 rfl rfl rfl ?_
    exact ⟨rfl, (⟨by omega, by omega⟩)⟩
  refine ga_aload_n (v := .ref 344) hm_193 rfl rfl rfl ?_
  refine ga_getr (b := 363) hm_193 rfl sc_344 rfl ?_
  refine fl_iconst hm_193 rfl ?_
  refine ga_iload_n (z := ll) hm_193 rfl rfl ?_
  refine ga_imul (a := 2) (b := ll) (c := 2 * ll) hm_193 rfl (by omega) ?_
  refine ga_iload_n (z := k) hm_193 rfl rfl ?_
  refine ga_iadd (a := 2 * ll) (b := k) (c := 2 * ll + k) hm_193 rfl (by omega) ?_
  have b5_ := gi_t363 hgi ((2 * ll + k).toNat)
  refine ga_iald (z := 2 * ll + k) (w := F 363 (2 * ll + k).toNat) hm_193 rfl sc_363 (by omega) (by omega) (by omega) (rfl) ?_
  refine fl_goto hm_193 rfl ?_
  refine gr_i (z := F 363 (2 * ll + k).toNat) hm_193 rfl rfl rfl ?_
  exact ⟨rfl, (⟨by omega, by omega⟩)⟩
/- CheapPlannerModel.factAt -/
abbrev pq_160 (G : Nat → Nat → Option Nat) (F : fl_N) (X : xi_H) (p a b : Int) : Outcome → xi_H → Prop := gqi (fun z A => fl_H sh_T G F ++ X = A ∧ (0 ≤ z ∧ z ≤ 215)) gqn
theorem mc_160 {G : Nat → Nat → Option Nat} (hG : gg G) (F : fl_N) (X : xi_H) (hgi : gi F) (p a b : Int) (hp : 0 ≤ p ∧ p ≤ 5) (ha : 0 ≤ a ∧ a ≤ 5) (hb : 0 ≤ b ∧ b ≤ 5) : fl_M xi_ms 160 0 0 [.ref 344, .int (Int32.ofInt p), .int (Int32.ofInt a), .int (Int32.ofInt b)] (fl_H sh_T G F ++ X) (pq_160 G F X p a b) := by
  intro fr lo hfr hlo
  show fl_R xi_ms 160 fr lo 0 [(0, .ref 344), (1, .int (Int32.ofInt p)), (2, .int (Int32.ofInt a)), (3, .int (Int32.ofInt b))] [] _ _
  refine ga_aload_n (v := .ref 344) hm_160 rfl rfl rfl ?_
  refine ga_getr (b := 351) hm_160 rfl sc_344 rfl ?_
  refine ga_iload_n (z := p) hm_160 rfl rfl ?_
  have b1_ : 0 ≤ F 351 p.toNat ∧ F 351 p.toNat ≤ 2 := gi_g hgi rfl
  refine ga_iald (z := p) (w := F 351 p.toNat) hm_160 rfl sc_351 (by omega) (by omega) (by omega) (rfl) ?_
  refine ga_istore (lv2 := [(4, .int (Int32.ofInt (F 351 p.toNat))), (0, .ref 344), (1, .int (Int32.ofInt p)), (2, .int (Int32.ofInt a)), (3, .int (Int32.ofInt b))]) hm_160 rfl (Nat.le_of_ble_eq_true rfl) rfl ?_
  refine ga_aload_n (v := .ref 344) hm_160 rfl rfl rfl ?_
  refine ga_getr (b := 366) hm_160 rfl sc_344 rfl ?_
  refine fl_bipush hm_160 rfl rfl ?_
  refine ga_iload_n (z := p) hm_160 rfl rfl ?_
  refine ga_imul (a := 36) (b := p) (c := 36 * p) hm_160 rfl (by omega) ?_
  refine ga_iload (z := F 351 p.toNat) hm_160 rfl rfl ?_
  refine fl_if_le (a := F 351 p.toNat) hm_160 rfl ⟨by omega, by omega⟩ (fun h2_ => ?_) (fun h3_ => ?_)
  ·
    refine fl_iconst hm_160 rfl ?_
    refine ga_iadd (a := 36 * p) (b := 0) (c := 36 * p) hm_160 rfl (by omega) ?_
    refine ga_iload (z := F 351 p.toNat) hm_160 rfl rfl ?_
    refine fl_iconst hm_160 rfl ?_
    refine fl_icmp_le (a := F 351 p.toNat) (b := 1) hm_160 rfl ⟨by omega, by omega⟩ ⟨by omega, by omega⟩ (fun h4_ => ?_) (fun h5_ => ?_)
    ·
      refine fl_iconst hm_160 rfl ?_
      refine ga_iadd (a := 36 * p) (b := 0) (c := 36 * p) hm_160 rfl (by omega) ?_
      have b6_ : 0 ≤ F 366 (36 * p).toNat ∧ F 366 (36 * p).toNat ≤ 215 := gi_g hgi rfl
      refine ga_iald (z := 36 * p) (w := F 366 (36 * p).toNat) hm_160 rfl sc_366 (by omega) (by omega) (by omega) (rfl) ?_
      refine gr_i (z := F 366 (36 * p).toNat) hm_160 rfl rfl rfl ?_
      exact ⟨rfl, (⟨by omega, by omega⟩)⟩
    exfalso; omega
  refine fl_bipush hm_160 rfl rfl ?_
  refine ga_iload_n (z := a) hm_160 rfl rfl ?_
  refine ga_imul (a := 6) (b := a) (c := 6 * a) hm_160 rfl (by omega) ?_
  refine fl_goto hm_160 rfl ?_
  refine ga_iadd (a := 36 * p) (b := 6 * a) (c := 36 * p + 6 * a) hm_160 rfl (by omega) ?_
  refine ga_iload (z := F 351 p.toNat) hm_160 rfl rfl ?_
  refine fl_iconst hm_160 rfl ?_
  refine fl_icmp_le (a := F 351 p.toNat) (b := 1) hm_160 rfl ⟨by omega, by omega⟩ ⟨by omega, by omega⟩ (fun h7_ => ?_) (fun h8_ => ?_)
  ·
    refine fl_iconst hm_160 rfl ?_
    refine ga_iadd (a := 36 * p + 6 * a) (b := 0) (c := 36 * p + 6 * a) hm_160 rfl (by omega) ?_
    have b9_ : 0 ≤ F 366 (36 * p + 6 * a).toNat ∧ F 366 (36 * p + 6 * a).toNat ≤ 215 := gi_g hgi rfl
    refine ga_iald (z := 36 * p + 6 * a) (w := F 366 (36 * p + 6 * a).toNat) hm_160 rfl sc_366 (by omega) (by omega) (by omega) (rfl) ?_
    refine gr_i (z := F 366 (36 * p + 6 * a).toNat) hm_160 rfl rfl rfl ?_
    exact ⟨rfl, (⟨by omega, by omega⟩)⟩
  refine ga_iload_n (z := b) hm_160 rfl rfl ?_
  refine fl_goto hm_160 rfl ?_
  refine ga_iadd (a := 36 * p + 6 * a) (b := b) (c := 36 * p + 6 * a + b) hm_160 rfl (by omega) ?_
  have b10_ : 0 ≤ F 366 (36 * p + 6 * a + b).toNat ∧ F 366 (36 * p + 6 * a + b).toNat ≤ 215 := gi_g hgi rfl
  refine ga_iald (z := 36 * p + 6 * a + b) (w := F 366 (36 * p + 6 * a + b).toNat) hm_160 rfl sc_366 (by omega) (by omega) (by omega) (rfl) ?_
  refine gr_i (z := F 366 (36 * p + 6 * a + b).toNat) hm_160 rfl rfl rfl ?_
  exact ⟨rfl, (⟨by omega, by omega⟩)⟩
/- CheapPlannerModel.factBit -/
abbrev pq_161 (G : Nat → Nat → Option Nat) (F : fl_N) (X : xi_H) (a ll : Int) : Outcome → xi_H → Prop := gql (fun z A => fl_H sh_T G F ++ X = A ∧ (-9223372036854775808 ≤ z ∧ z ≤ 9223372036854775807)) gqn
theorem mc_161 {G : Nat → Nat → Option Nat} (hG : gg G) (F : fl_N) (X : xi_H) (hgi : gi F) (a ll : Int) (hl : 0 ≤ ll ∧ ll ≤ 43) (hla : a = 5 ∨ (0 ≤ a ∧ a ≤ 4 ∧ ll ≤ 39)) : fl_M xi_ms 161 1 24 [.ref 344, .int (Int32.ofInt a), .int (Int32.ofInt ll)] (fl_H sh_T G F ++ X) (pq_161 G F X a ll) := by
  intro fr lo hfr hlo
  show fl_R xi_ms 161 fr lo 0 [(0, .ref 344), (1, .int (Int32.ofInt a)), (2, .int (Int32.ofInt ll))] [] _ _
  refine ga_aload_n (v := .ref 344) hm_161 rfl rfl rfl ?_
  refine ga_getr (b := 351) hm_161 rfl sc_344 rfl ?_
  refine ga_aload_n (v := .ref 344) hm_161 rfl rfl rfl ?_
  refine ga_getr (b := 362) hm_161 rfl sc_344 rfl ?_
  refine ga_iload_n (z := ll) hm_161 rfl rfl ?_
  have b1_ : 0 ≤ F 362 ll.toNat ∧ F 362 ll.toNat ≤ 5 := gi_g hgi rfl
  refine ga_iald (z := ll) (w := F 362 ll.toNat) hm_161 rfl sc_362 (by omega) (by omega) (by omega) (rfl) ?_
  have b2_ : 0 ≤ F 351 (F 362 ll.toNat).toNat ∧ F 351 (F 362 ll.toNat).toNat ≤ 2 := gi_g hgi rfl
  refine ga_iald (z := F 362 ll.toNat) (w := F 351 (F 362 ll.toNat).toNat) hm_161 rfl sc_351 (by omega) (by omega) (by omega) (rfl) ?_
  refine ga_istore_n (lv2 := [(3, .int (Int32.ofInt (F 351 (F 362 ll.toNat).toNat))), (0, .ref 344), (1, .int (Int32.ofInt a)), (2, .int (Int32.ofInt ll))]) hm_161 rfl (Nat.le_of_ble_eq_true rfl) rfl ?_
  refine ga_lconst (z := 1) hm_161 rfl rfl ?_
  refine ga_aload_n (v := .ref 344) hm_161 rfl rfl rfl ?_
  refine ga_aload_n (v := .ref 344) hm_161 rfl rfl rfl ?_
  refine ga_getr (b := 362) hm_161 rfl sc_344 rfl ?_
  refine ga_iload_n (z := ll) hm_161 rfl rfl ?_
  refine ga_iald (z := ll) (w := F 362 ll.toNat) hm_161 rfl sc_362 (by omega) (by omega) (by omega) (rfl) ?_
  refine ga_iload_n (z := F 351 (F 362 ll.toNat).toNat) hm_161 rfl rfl ?_
  refine fl_if_le (a := F 351 (F 362 ll.toNat).toNat) hm_161 rfl ⟨by omega, by omega⟩ (fun h3_ => ?_) (fun h4_ => ?_)
  ·
    refine fl_iconst hm_161 rfl ?_
    refine ga_iload_n (z := F 351 (F 362 ll.toNat).toNat) hm_161 rfl rfl ?_
    refine fl_iconst hm_161 rfl ?_
    refine fl_icmp_le (a := F 351 (F 362 ll.toNat).toNat) (b := 1) hm_161 rfl ⟨by omega, by omega⟩ ⟨by omega, by omega⟩ (fun h5_ => ?_) (fun h6_ => ?_)
    ·
      refine fl_iconst hm_161 rfl ?_
      refine gVi (nY := 5) (F := 0) (L := 0) (As := [.int (Int32.ofInt (F 362 ll.toNat)), .int (Int32.ofInt 0), .int (Int32.ofInt 0)]) (b := 344) (rest := [.long (Int64.ofInt 1)]) hm_161 rfl hm_160 rfl rfl (fl_ob sc_344) rfl rfl rfl rfl rfl (by omega) (by omega) (mc_160 hG F X hgi (F 362 ll.toNat) (0) (0) (⟨by omega, by omega⟩) (⟨by omega, by omega⟩) (⟨by omega, by omega⟩)) (fun _ _ h => False.elim h) ?_
      rintro z7_ A1_ ⟨hA_, c8_⟩
      subst hA_
      refine ga_lany hm_161 rfl rfl rfl (fun z9_ ⟨h10_, h11_⟩ => ?_)
      refine gr_l hm_161 rfl rfl ?_
      exact ⟨rfl, (⟨by omega, by omega⟩)⟩
    exfalso; omega
  refine ga_aload_n (v := .ref 344) hm_161 rfl rfl rfl ?_
  refine ga_iload_n (z := a) hm_161 rfl rfl ?_
  refine ga_iload_n (z := ll) hm_161 rfl rfl ?_
  refine fl_iconst hm_161 rfl ?_
  refine gVi (nY := 4) (F := 0) (L := 0) (As := [.int (Int32.ofInt a), .int (Int32.ofInt ll), .int (Int32.ofInt 0)]) (b := 344) (rest := [.int (Int32.ofInt (F 362 ll.toNat)), .ref 344, .long (Int64.ofInt 1)]) hm_161 rfl hm_193 rfl rfl (fl_ob sc_344) rfl rfl rfl rfl rfl (by omega) (by omega) (mc_193 hG F X hgi (a) (ll) (0) (⟨by omega, by omega⟩) (⟨by omega, by omega⟩) (by omega)) (fun _ _ h => False.elim h) ?_
  rintro z12_ A1_ ⟨hA_, c13_⟩
  subst hA_
  refine fl_goto hm_161 rfl ?_
  refine ga_iload_n (z := F 351 (F 362 ll.toNat).toNat) hm_161 rfl rfl ?_
  refine fl_iconst hm_161 rfl ?_
  refine fl_icmp_le (a := F 351 (F 362 ll.toNat).toNat) (b := 1) hm_161 rfl ⟨by omega, by omega⟩ ⟨by omega, by omega⟩ (fun h14_ => ?_) (fun h15_ => ?_)
  ·
    refine fl_iconst hm_161 rfl ?_
    refine gVi (nY := 5) (F := 0) (L := 0) (As := [.int (Int32.ofInt (F 362 ll.toNat)), .int (Int32.ofInt z12_), .int (Int32.ofInt 0)]) (b := 344) (rest := [.long (Int64.ofInt 1)]) hm_161 rfl hm_160 rfl rfl (fl_ob sc_344) rfl rfl rfl rfl rfl (by omega) (by omega) (mc_160 hG F X hgi (F 362 ll.toNat) (z12_) (0) (⟨by omega, by omega⟩) (⟨by omega, by omega⟩) (⟨by omega, by omega⟩)) (fun _ _ h => False.elim h) ?_
    rintro z16_ A1_ ⟨hA_, c17_⟩
    subst hA_
    refine ga_lany hm_161 rfl rfl rfl (fun z18_ ⟨h19_, h20_⟩ => ?_)
    refine gr_l hm_161 rfl rfl ?_
    exact ⟨rfl, (⟨by omega, by omega⟩)⟩
  refine ga_aload_n (v := .ref 344) hm_161 rfl rfl rfl ?_
  refine ga_iload_n (z := a) hm_161 rfl rfl ?_
  refine ga_iload_n (z := ll) hm_161 rfl rfl ?_
  refine fl_iconst hm_161 rfl ?_
  refine gVi (nY := 4) (F := 0) (L := 0) (As := [.int (Int32.ofInt a), .int (Int32.ofInt ll), .int (Int32.ofInt 1)]) (b := 344) (rest := [.int (Int32.ofInt z12_), .int (Int32.ofInt (F 362 ll.toNat)), .ref 344, .long (Int64.ofInt 1)]) hm_161 rfl hm_193 rfl rfl (fl_ob sc_344) rfl rfl rfl rfl rfl (by omega) (by omega) (mc_193 hG F X hgi (a) (ll) (1) (⟨by omega, by omega⟩) (⟨by omega, by omega⟩) (by omega)) (fun _ _ h => False.elim h) ?_
  rintro z21_ A1_ ⟨hA_, c22_⟩
  subst hA_
  refine fl_goto hm_161 rfl ?_
  refine gVi (nY := 5) (F := 0) (L := 0) (As := [.int (Int32.ofInt (F 362 ll.toNat)), .int (Int32.ofInt z12_), .int (Int32.ofInt z21_)]) (b := 344) (rest := [.long (Int64.ofInt 1)]) hm_161 rfl hm_160 rfl rfl (fl_ob sc_344) rfl rfl rfl rfl rfl (by omega) (by omega) (mc_160 hG F X hgi (F 362 ll.toNat) (z12_) (z21_) (⟨by omega, by omega⟩) (⟨by omega, by omega⟩) (⟨by omega, by omega⟩)) (fun _ _ h => False.elim h) ?_
  rintro z23_ A1_ ⟨hA_, c24_⟩
  subst hA_
  refine ga_lany hm_161 rfl rfl rfl (fun z25_ ⟨h26_, h27_⟩ => ?_)
  refine gr_l hm_161 rfl rfl ?_
  exact ⟨rfl, (⟨by omega, by omega⟩)⟩
/- CheapPlannerModel.equalsHold -/
abbrev pq_159 (G : Nat → Nat → Option Nat) (F : fl_N) (X : xi_H) (a at_ : Int) : Outcome → xi_H → Prop := gqi (fun z A => fl_H sh_T G F ++ X = A ∧ (0 ≤ z ∧ z ≤ 1)) gqn
theorem mc_159 {G : Nat → Nat → Option Nat} (hG : gg G) (F : fl_N) (X : xi_H) (hgi : gi F) (a at_ : Int) (hat : 0 ≤ at_ ∧ at_ ≤ 40) (hla : a = 5 ∨ (0 ≤ a ∧ a ≤ 4 ∧ at_ ≤ 36)) : fl_M xi_ms 159 1 23 [.ref 344, .int (Int32.ofInt a), .int (Int32.ofInt at_)] (fl_H sh_T G F ++ X) (pq_159 G F X a at_) := by
  intro fr lo hfr hlo
  show fl_R xi_ms 159 fr lo 0 [(0, .ref 344), (1, .int (Int32.ofInt a)), (2, .int (Int32.ofInt at_))] [] _ _
  refine fl_iconst hm_159 rfl ?_
  refine ga_istore_n (lv2 := [(3, .int (Int32.ofInt 1)), (0, .ref 344), (1, .int (Int32.ofInt a)), (2, .int (Int32.ofInt at_))]) hm_159 rfl (Nat.le_of_ble_eq_true rfl) rfl ?_
  refine fl_iconst hm_159 rfl ?_
  refine ga_istore (lv2 := [(4, .int (Int32.ofInt 0)), (3, .int (Int32.ofInt 1)), (0, .ref 344), (1, .int (Int32.ofInt a)), (2, .int (Int32.ofInt at_))]) hm_159 rfl (Nat.le_of_ble_eq_true rfl) rfl ?_
  have L2_ : ∀ (n1_ : Nat) (k : Int) (gd : Int), (4 - k : Int).toNat = n1_ → (0 ≤ k ∧ k ≤ 4) → (0 ≤ gd ∧ gd ≤ 1) → fl_R xi_ms 159 fr lo 5 [(4, .int (Int32.ofInt k)), (3, .int (Int32.ofInt gd)), (0, .ref 344), (1, .int (Int32.ofInt a)), (2, .int (Int32.ofInt at_))] [] (fl_H sh_T G F ++ X) (pq_159 G F X a at_) := by
    intro n1_
    induction n1_ using Nat.strongRecOn with
    | ind n1_ ih3_ =>
    intro k gd hn4_ hk hgd
    refine ga_iload (z := k) hm_159 rfl rfl ?_
    refine ga_aload_n (v := .ref 344) hm_159 rfl rfl rfl ?_
    refine ga_getr (b := 358) hm_159 rfl sc_344 rfl ?_
    refine ga_iload_n (z := a) hm_159 rfl rfl ?_
    have b5_ : 0 ≤ F 358 a.toNat ∧ F 358 a.toNat ≤ 4 := gi_g hgi rfl
    refine ga_iald (z := a) (w := F 358 a.toNat) hm_159 rfl sc_358 (by omega) (by omega) (by omega) (rfl) ?_
    refine fl_icmp_ge (a := k) (b := F 358 a.toNat) hm_159 rfl ⟨by omega, by omega⟩ ⟨by omega, by omega⟩ (fun h6_ => ?_) (fun h7_ => ?_)
    ·
      refine ga_iload_n (z := gd) hm_159 rfl rfl ?_
      refine gr_i (z := gd) hm_159 rfl rfl (ga_nb (by omega)) ?_
      exact ⟨rfl, (⟨by omega, by omega⟩)⟩
    refine ga_iload_n (z := at_) hm_159 rfl rfl ?_
    refine ga_iload (z := k) hm_159 rfl rfl ?_
    refine ga_iadd (a := at_) (b := k) (c := at_ + k) hm_159 rfl (by omega) ?_
    refine ga_istore (lv2 := [(5, .int (Int32.ofInt (at_ + k))), (4, .int (Int32.ofInt k)), (3, .int (Int32.ofInt gd)), (0, .ref 344), (1, .int (Int32.ofInt a)), (2, .int (Int32.ofInt at_))]) hm_159 rfl (Nat.le_of_ble_eq_true rfl) rfl ?_
    refine ga_aload_n (v := .ref 344) hm_159 rfl rfl rfl ?_
    refine ga_getr (b := 360) hm_159 rfl sc_344 rfl ?_
    refine ga_iload (z := at_ + k) hm_159 rfl rfl ?_
    have b8_ : 0 ≤ F 360 (at_ + k).toNat ∧ F 360 (at_ + k).toNat ≤ 1 := gi_g hgi rfl
    refine ga_zald (z := at_ + k) (w := F 360 (at_ + k).toNat) hm_159 rfl sc_360 (by omega) (by omega) (by omega) (rfl) ?_
    refine fl_if_eq (a := F 360 (at_ + k).toNat) hm_159 rfl ⟨by omega, by omega⟩ (fun h9_ => ?_) (fun h10_ => ?_)
    ·
      refine ga_inc (a := k) (c := k + 1) (lv2 := [(4, .int (Int32.ofInt (k + 1))), (5, .int (Int32.ofInt (at_ + k))), (3, .int (Int32.ofInt gd)), (0, .ref 344), (1, .int (Int32.ofInt a)), (2, .int (Int32.ofInt at_))]) hm_159 rfl rfl (Nat.le_of_ble_eq_true rfl) rfl rfl ?_
      refine fl_goto hm_159 rfl ?_
      exact fl_R_sub (lv' := [(4, .int (Int32.ofInt (k + 1))), (3, .int (Int32.ofInt gd)), (0, .ref 344), (1, .int (Int32.ofInt a)), (2, .int (Int32.ofInt at_))]) rfl rfl (ih3_ _ (by omega) (k + 1) (gd) rfl (⟨by omega, by omega⟩) (⟨by omega, by omega⟩))
    refine ga_iload_n (z := gd) hm_159 rfl rfl ?_
    refine fl_if_eq (a := gd) hm_159 rfl ⟨by omega, by omega⟩ (fun h11_ => ?_) (fun h12_ => ?_)
    ·
      refine fl_iconst hm_159 rfl ?_
      refine ga_istore_n (lv2 := [(3, .int (Int32.ofInt 0)), (5, .int (Int32.ofInt (at_ + k))), (4, .int (Int32.ofInt k)), (0, .ref 344), (1, .int (Int32.ofInt a)), (2, .int (Int32.ofInt at_))]) hm_159 rfl (Nat.le_of_ble_eq_true rfl) rfl ?_
      refine ga_inc (a := k) (c := k + 1) (lv2 := [(4, .int (Int32.ofInt (k + 1))), (3, .int (Int32.ofInt 0)), (5, .int (Int32.ofInt (at_ + k))), (0, .ref 344), (1, .int (Int32.ofInt a)), (2, .int (Int32.ofInt at_))]) hm_159 rfl rfl (Nat.le_of_ble_eq_true rfl) rfl rfl ?_
      refine fl_goto hm_159 rfl ?_
      exact fl_R_sub (lv' := [(4, .int (Int32.ofInt (k + 1))), (3, .int (Int32.ofInt 0)), (0, .ref 344), (1, .int (Int32.ofInt a)), (2, .int (Int32.ofInt at_))]) rfl rfl (ih3_ _ (by omega) (k + 1) (0) rfl (⟨by omega, by omega⟩) (⟨by omega, by omega⟩))
    refine ga_aload_n (v := .ref 344) hm_159 rfl rfl rfl ?_
    refine ga_iload_n (z := a) hm_159 rfl rfl ?_
    refine ga_iload (z := at_ + k) hm_159 rfl rfl ?_
    refine fl_iconst hm_159 rfl ?_
    refine gVi (nY := 4) (F := 0) (L := 0) (As := [.int (Int32.ofInt a), .int (Int32.ofInt (at_ + k)), .int (Int32.ofInt 0)]) (b := 344) (rest := []) hm_159 rfl hm_193 rfl rfl (fl_ob sc_344) rfl rfl rfl rfl rfl (by omega) (by omega) (mc_193 hG F X hgi (a) (at_ + k) (0) (⟨by omega, by omega⟩) (⟨by omega, by omega⟩) (by omega)) (fun _ _ h => False.elim h) ?_
    rintro z13_ A1_ ⟨hA_, c14_⟩
    subst hA_
    refine ga_aload_n (v := .ref 344) hm_159 rfl rfl rfl ?_
    refine ga_iload_n (z := a) hm_159 rfl rfl ?_
    refine ga_iload (z := at_ + k) hm_159 rfl rfl ?_
    refine fl_iconst hm_159 rfl ?_
    refine gVi (nY := 4) (F := 0) (L := 0) (As := [.int (Int32.ofInt a), .int (Int32.ofInt (at_ + k)), .int (Int32.ofInt 1)]) (b := 344) (rest := [.int (Int32.ofInt z13_)]) hm_159 rfl hm_193 rfl rfl (fl_ob sc_344) rfl rfl rfl rfl rfl (by omega) (by omega) (mc_193 hG F X hgi (a) (at_ + k) (1) (⟨by omega, by omega⟩) (⟨by omega, by omega⟩) (by omega)) (fun _ _ h => False.elim h) ?_
    rintro z15_ A1_ ⟨hA_, c16_⟩
    subst hA_
    refine fx_icmp_ne (a := z13_) (b := z15_) hm_159 rfl ⟨by omega, by omega⟩ ⟨by omega, by omega⟩ (fun h17_ => ?_) (fun h18_ => ?_)
    ·
      refine fl_iconst hm_159 rfl ?_
      refine ga_aload_n (v := .ref 344) hm_159 rfl rfl rfl ?_
      refine ga_getr (b := 361) hm_159 rfl sc_344 rfl ?_
      refine ga_iload (z := at_ + k) hm_159 rfl rfl ?_
      have b19_ : 0 ≤ F 361 (at_ + k).toNat ∧ F 361 (at_ + k).toNat ≤ 1 := gi_g hgi rfl
      refine ga_zald (z := at_ + k) (w := F 361 (at_ + k).toNat) hm_159 rfl sc_361 (by omega) (by omega) (by omega) (rfl) ?_
      refine fl_icmp_eq (a := 0) (b := F 361 (at_ + k).toNat) hm_159 rfl ⟨by omega, by omega⟩ ⟨by omega, by omega⟩ (fun h20_ => ?_) (fun h21_ => ?_)
      ·
        refine fl_iconst hm_159 rfl ?_
        refine ga_istore_n (lv2 := [(3, .int (Int32.ofInt 0)), (5, .int (Int32.ofInt (at_ + k))), (4, .int (Int32.ofInt k)), (0, .ref 344), (1, .int (Int32.ofInt a)), (2, .int (Int32.ofInt at_))]) hm_159 rfl (Nat.le_of_ble_eq_true rfl) rfl ?_
        refine ga_inc (a := k) (c := k + 1) (lv2 := [(4, .int (Int32.ofInt (k + 1))), (3, .int (Int32.ofInt 0)), (5, .int (Int32.ofInt (at_ + k))), (0, .ref 344), (1, .int (Int32.ofInt a)), (2, .int (Int32.ofInt at_))]) hm_159 rfl rfl (Nat.le_of_ble_eq_true rfl) rfl rfl ?_
        refine fl_goto hm_159 rfl ?_
        exact fl_R_sub (lv' := [(4, .int (Int32.ofInt (k + 1))), (3, .int (Int32.ofInt 0)), (0, .ref 344), (1, .int (Int32.ofInt a)), (2, .int (Int32.ofInt at_))]) rfl rfl (ih3_ _ (by omega) (k + 1) (0) rfl (⟨by omega, by omega⟩) (⟨by omega, by omega⟩))
      refine fl_iconst hm_159 rfl ?_
      refine fl_goto hm_159 rfl ?_
      refine ga_istore_n (lv2 := [(3, .int (Int32.ofInt 1)), (5, .int (Int32.ofInt (at_ + k))), (4, .int (Int32.ofInt k)), (0, .ref 344), (1, .int (Int32.ofInt a)), (2, .int (Int32.ofInt at_))]) hm_159 rfl (Nat.le_of_ble_eq_true rfl) rfl ?_
      refine ga_inc (a := k) (c := k + 1) (lv2 := [(4, .int (Int32.ofInt (k + 1))), (3, .int (Int32.ofInt 1)), (5, .int (Int32.ofInt (at_ + k))), (0, .ref 344), (1, .int (Int32.ofInt a)), (2, .int (Int32.ofInt at_))]) hm_159 rfl rfl (Nat.le_of_ble_eq_true rfl) rfl rfl ?_
      refine fl_goto hm_159 rfl ?_
      exact fl_R_sub (lv' := [(4, .int (Int32.ofInt (k + 1))), (3, .int (Int32.ofInt 1)), (0, .ref 344), (1, .int (Int32.ofInt a)), (2, .int (Int32.ofInt at_))]) rfl rfl (ih3_ _ (by omega) (k + 1) (1) rfl (⟨by omega, by omega⟩) (⟨by omega, by omega⟩))
    refine fl_iconst hm_159 rfl ?_
    refine fl_goto hm_159 rfl ?_
    refine ga_aload_n (v := .ref 344) hm_159 rfl rfl rfl ?_
    refine ga_getr (b := 361) hm_159 rfl sc_344 rfl ?_
    refine ga_iload (z := at_ + k) hm_159 rfl rfl ?_
    have b22_ : 0 ≤ F 361 (at_ + k).toNat ∧ F 361 (at_ + k).toNat ≤ 1 := gi_g hgi rfl
    refine ga_zald (z := at_ + k) (w := F 361 (at_ + k).toNat) hm_159 rfl sc_361 (by omega) (by omega) (by omega) (rfl) ?_
    refine fl_icmp_eq (a := 1) (b := F 361 (at_ + k).toNat) hm_159 rfl ⟨by omega, by omega⟩ ⟨by omega, by omega⟩ (fun h23_ => ?_) (fun h24_ => ?_)
    ·
      refine fl_iconst hm_159 rfl ?_
      refine ga_istore_n (lv2 := [(3, .int (Int32.ofInt 0)), (5, .int (Int32.ofInt (at_ + k))), (4, .int (Int32.ofInt k)), (0, .ref 344), (1, .int (Int32.ofInt a)), (2, .int (Int32.ofInt at_))]) hm_159 rfl (Nat.le_of_ble_eq_true rfl) rfl ?_
      refine ga_inc (a := k) (c := k + 1) (lv2 := [(4, .int (Int32.ofInt (k + 1))), (3, .int (Int32.ofInt 0)), (5, .int (Int32.ofInt (at_ + k))), (0, .ref 344), (1, .int (Int32.ofInt a)), (2, .int (Int32.ofInt at_))]) hm_159 rfl rfl (Nat.le_of_ble_eq_true rfl) rfl rfl ?_
      refine fl_goto hm_159 rfl ?_
      exact fl_R_sub (lv' := [(4, .int (Int32.ofInt (k + 1))), (3, .int (Int32.ofInt 0)), (0, .ref 344), (1, .int (Int32.ofInt a)), (2, .int (Int32.ofInt at_))]) rfl rfl (ih3_ _ (by omega) (k + 1) (0) rfl (⟨by omega, by omega⟩) (⟨by omega, by omega⟩))
    refine fl_iconst hm_159 rfl ?_
    refine fl_goto hm_159 rfl ?_
    refine ga_istore_n (lv2 := [(3, .int (Int32.ofInt 1)), (5, .int (Int32.ofInt (at_ + k))), (4, .int (Int32.ofInt k)), (0, .ref 344), (1, .int (Int32.ofInt a)), (2, .int (Int32.ofInt at_))]) hm_159 rfl (Nat.le_of_ble_eq_true rfl) rfl ?_
    refine ga_inc (a := k) (c := k + 1) (lv2 := [(4, .int (Int32.ofInt (k + 1))), (3, .int (Int32.ofInt 1)), (5, .int (Int32.ofInt (at_ + k))), (0, .ref 344), (1, .int (Int32.ofInt a)), (2, .int (Int32.ofInt at_))]) hm_159 rfl rfl (Nat.le_of_ble_eq_true rfl) rfl rfl ?_
    refine fl_goto hm_159 rfl ?_
    exact fl_R_sub (lv' := [(4, .int (Int32.ofInt (k + 1))), (3, .int (Int32.ofInt 1)), (0, .ref 344), (1, .int (Int32.ofInt a)), (2, .int (Int32.ofInt at_))]) rfl rfl (ih3_ _ (by omega) (k + 1) (1) rfl (⟨by omega, by omega⟩) (⟨by omega, by omega⟩))
  exact L2_ _ (0) (1) rfl (⟨by omega, by omega⟩) (⟨by omega, by omega⟩)
/- CheapPlannerModel.atoms -/
abbrev pq_156 (G : Nat → Nat → Option Nat) (F : fl_N) (X : xi_H) (a at_ n nt : Int) : Outcome → xi_H → Prop := gql (fun z A => fl_H sh_T G F ++ X = A ∧ (-9223372036854775808 ≤ z ∧ z ≤ 9223372036854775807)) gqn
theorem mc_156 {G : Nat → Nat → Option Nat} (hG : gg G) (F : fl_N) (X : xi_H) (hgi : gi F) (a at_ n nt : Int) (hat : 0 ≤ at_ ∧ at_ ≤ 40) (hla : a = 5 ∨ (0 ≤ a ∧ a ≤ 4 ∧ at_ ≤ 36)) (hn : 0 ≤ n ∧ n ≤ 4) (hnt : 0 ≤ nt ∧ nt ≤ 1) : fl_M xi_ms 156 2 47 [.ref 344, .int (Int32.ofInt a), .int (Int32.ofInt at_), .int (Int32.ofInt n), .int (Int32.ofInt nt)] (fl_H sh_T G F ++ X) (pq_156 G F X a at_ n nt) := by
  intro fr lo hfr hlo
  show fl_R xi_ms 156 fr lo 0 [(0, .ref 344), (1, .int (Int32.ofInt a)), (2, .int (Int32.ofInt at_)), (3, .int (Int32.ofInt n)), (4, .int (Int32.ofInt nt))] [] _ _
  refine ga_lconst (z := 0) hm_156 rfl rfl ?_
  refine ga_lstore (lv2 := [(5, .long (Int64.ofInt 0)), (0, .ref 344), (1, .int (Int32.ofInt a)), (2, .int (Int32.ofInt at_)), (3, .int (Int32.ofInt n)), (4, .int (Int32.ofInt nt))]) hm_156 rfl (Nat.le_of_ble_eq_true rfl) rfl ?_
  refine fl_iconst hm_156 rfl ?_
  refine ga_istore (lv2 := [(7, .int (Int32.ofInt 0)), (5, .long (Int64.ofInt 0)), (0, .ref 344), (1, .int (Int32.ofInt a)), (2, .int (Int32.ofInt at_)), (3, .int (Int32.ofInt n)), (4, .int (Int32.ofInt nt))]) hm_156 rfl (Nat.le_of_ble_eq_true rfl) rfl ?_
  have L2_ : ∀ (n1_ : Nat) (k : Int) (bi : Int), (4 - k : Int).toNat = n1_ → (0 ≤ k ∧ k ≤ 4) → (-9223372036854775808 ≤ bi ∧ bi ≤ 9223372036854775807) → fl_R xi_ms 156 fr lo 6 [(7, .int (Int32.ofInt k)), (5, .long (Int64.ofInt bi)), (0, .ref 344), (1, .int (Int32.ofInt a)), (2, .int (Int32.ofInt at_)), (3, .int (Int32.ofInt n)), (4, .int (Int32.ofInt nt))] [] (fl_H sh_T G F ++ X) (pq_156 G F X a at_ n nt) := by
    intro n1_
    induction n1_ using Nat.strongRecOn with
    | ind n1_ ih3_ =>
    intro k bi hn4_ hk hbi
    refine ga_iload (z := k) hm_156 rfl rfl ?_
    refine ga_iload_n (z := n) hm_156 rfl rfl ?_
    refine fl_icmp_ge (a := k) (b := n) hm_156 rfl ⟨by omega, by omega⟩ ⟨by omega, by omega⟩ (fun h5_ => ?_) (fun h6_ => ?_)
    ·
      refine ga_lload (z := bi) hm_156 rfl rfl ?_
      refine gr_l hm_156 rfl rfl ?_
      exact ⟨rfl, (⟨by omega, by omega⟩)⟩
    refine ga_iload_n (z := at_) hm_156 rfl rfl ?_
    refine ga_iload (z := k) hm_156 rfl rfl ?_
    refine ga_iadd (a := at_) (b := k) (c := at_ + k) hm_156 rfl (by omega) ?_
    refine ga_istore (lv2 := [(8, .int (Int32.ofInt (at_ + k))), (7, .int (Int32.ofInt k)), (5, .long (Int64.ofInt bi)), (0, .ref 344), (1, .int (Int32.ofInt a)), (2, .int (Int32.ofInt at_)), (3, .int (Int32.ofInt n)), (4, .int (Int32.ofInt nt))]) hm_156 rfl (Nat.le_of_ble_eq_true rfl) rfl ?_
    refine ga_aload_n (v := .ref 344) hm_156 rfl rfl rfl ?_
    refine ga_getr (b := 360) hm_156 rfl sc_344 rfl ?_
    refine ga_iload (z := at_ + k) hm_156 rfl rfl ?_
    have b7_ : 0 ≤ F 360 (at_ + k).toNat ∧ F 360 (at_ + k).toNat ≤ 1 := gi_g hgi rfl
    refine ga_zald (z := at_ + k) (w := F 360 (at_ + k).toNat) hm_156 rfl sc_360 (by omega) (by omega) (by omega) (rfl) ?_
    refine fx_if_ne (a := F 360 (at_ + k).toNat) hm_156 rfl ⟨by omega, by omega⟩ (fun h8_ => ?_) (fun h9_ => ?_)
    ·
      refine ga_inc (a := k) (c := k + 1) (lv2 := [(7, .int (Int32.ofInt (k + 1))), (8, .int (Int32.ofInt (at_ + k))), (5, .long (Int64.ofInt bi)), (0, .ref 344), (1, .int (Int32.ofInt a)), (2, .int (Int32.ofInt at_)), (3, .int (Int32.ofInt n)), (4, .int (Int32.ofInt nt))]) hm_156 rfl rfl (Nat.le_of_ble_eq_true rfl) rfl rfl ?_
      refine fl_goto hm_156 rfl ?_
      exact fl_R_sub (lv' := [(7, .int (Int32.ofInt (k + 1))), (5, .long (Int64.ofInt bi)), (0, .ref 344), (1, .int (Int32.ofInt a)), (2, .int (Int32.ofInt at_)), (3, .int (Int32.ofInt n)), (4, .int (Int32.ofInt nt))]) rfl rfl (ih3_ _ (by omega) (k + 1) (bi) rfl (⟨by omega, by omega⟩) (⟨by omega, by omega⟩))
    refine ga_aload_n (v := .ref 344) hm_156 rfl rfl rfl ?_
    refine ga_getr (b := 361) hm_156 rfl sc_344 rfl ?_
    refine ga_iload (z := at_ + k) hm_156 rfl rfl ?_
    have b10_ : 0 ≤ F 361 (at_ + k).toNat ∧ F 361 (at_ + k).toNat ≤ 1 := gi_g hgi rfl
    refine ga_zald (z := at_ + k) (w := F 361 (at_ + k).toNat) hm_156 rfl sc_361 (by omega) (by omega) (by omega) (rfl) ?_
    refine ga_iload (z := nt) hm_156 rfl rfl ?_
    refine fx_icmp_ne (a := F 361 (at_ + k).toNat) (b := nt) hm_156 rfl ⟨by omega, by omega⟩ ⟨by omega, by omega⟩ (fun h11_ => ?_) (fun h12_ => ?_)
    ·
      refine ga_inc (a := k) (c := k + 1) (lv2 := [(7, .int (Int32.ofInt (k + 1))), (8, .int (Int32.ofInt (at_ + k))), (5, .long (Int64.ofInt bi)), (0, .ref 344), (1, .int (Int32.ofInt a)), (2, .int (Int32.ofInt at_)), (3, .int (Int32.ofInt n)), (4, .int (Int32.ofInt nt))]) hm_156 rfl rfl (Nat.le_of_ble_eq_true rfl) rfl rfl ?_
      refine fl_goto hm_156 rfl ?_
      exact fl_R_sub (lv' := [(7, .int (Int32.ofInt (k + 1))), (5, .long (Int64.ofInt bi)), (0, .ref 344), (1, .int (Int32.ofInt a)), (2, .int (Int32.ofInt at_)), (3, .int (Int32.ofInt n)), (4, .int (Int32.ofInt nt))]) rfl rfl (ih3_ _ (by omega) (k + 1) (bi) rfl (⟨by omega, by omega⟩) (⟨by omega, by omega⟩))
    refine ga_lload (z := bi) hm_156 rfl rfl ?_
    refine ga_aload_n (v := .ref 344) hm_156 rfl rfl rfl ?_
    refine ga_iload_n (z := a) hm_156 rfl rfl ?_
    refine ga_iload (z := at_ + k) hm_156 rfl rfl ?_
    refine gVl (nY := 4) (F := 1) (L := 24) (As := [.int (Int32.ofInt a), .int (Int32.ofInt (at_ + k))]) (b := 344) (rest := [.long (Int64.ofInt bi)]) hm_156 rfl hm_161 rfl rfl (fl_ob sc_344) rfl rfl rfl rfl rfl (by omega) (by omega) (mc_161 hG F X hgi (a) (at_ + k) (⟨by omega, by omega⟩) (by omega)) (fun _ _ h => False.elim h) ?_
    rintro z13_ A1_ ⟨hA_, c14_⟩
    subst hA_
    refine ga_lany hm_156 rfl rfl rfl (fun z15_ ⟨h16_, h17_⟩ => ?_)
    refine ga_lstore (lv2 := [(5, .long (Int64.ofInt z15_)), (8, .int (Int32.ofInt (at_ + k))), (7, .int (Int32.ofInt k)), (0, .ref 344), (1, .int (Int32.ofInt a)), (2, .int (Int32.ofInt at_)), (3, .int (Int32.ofInt n)), (4, .int (Int32.ofInt nt))]) hm_156 rfl (Nat.le_of_ble_eq_true rfl) rfl ?_
    refine ga_inc (a := k) (c := k + 1) (lv2 := [(7, .int (Int32.ofInt (k + 1))), (5, .long (Int64.ofInt z15_)), (8, .int (Int32.ofInt (at_ + k))), (0, .ref 344), (1, .int (Int32.ofInt a)), (2, .int (Int32.ofInt at_)), (3, .int (Int32.ofInt n)), (4, .int (Int32.ofInt nt))]) hm_156 rfl rfl (Nat.le_of_ble_eq_true rfl) rfl rfl ?_
    refine fl_goto hm_156 rfl ?_
    exact fl_R_sub (lv' := [(7, .int (Int32.ofInt (k + 1))), (5, .long (Int64.ofInt z15_)), (0, .ref 344), (1, .int (Int32.ofInt a)), (2, .int (Int32.ofInt at_)), (3, .int (Int32.ofInt n)), (4, .int (Int32.ofInt nt))]) rfl rfl (ih3_ _ (by omega) (k + 1) (z15_) rfl (⟨by omega, by omega⟩) (⟨by omega, by omega⟩))
  exact L2_ _ (0) (0) rfl (⟨by omega, by omega⟩) (⟨by omega, by omega⟩)
/- CheapPlannerModel.fits -/
abbrev pq_164 (G : Nat → Nat → Option Nat) (F : fl_N) (X : xi_H) (o ty : Int) : Outcome → xi_H → Prop := gqi (fun z A => fl_H sh_T G F ++ X = A ∧ (0 ≤ z ∧ z ≤ 1)) gqn
theorem mc_164 {G : Nat → Nat → Option Nat} (hG : gg G) (F : fl_N) (X : xi_H) (hgi : gi F) (o ty : Int) (ho : 0 ≤ o ∧ o ≤ 5) (hty : 0 ≤ ty ∧ ty ≤ 4) : fl_M xi_ms 164 0 0 [.ref 344, .int (Int32.ofInt o), .int (Int32.ofInt ty)] (fl_H sh_T G F ++ X) (pq_164 G F X o ty) := by
  intro fr lo hfr hlo
  show fl_R xi_ms 164 fr lo 0 [(0, .ref 344), (1, .int (Int32.ofInt o)), (2, .int (Int32.ofInt ty))] [] _ _
  refine ga_iload_n (z := ty) hm_164 rfl rfl ?_
  refine fl_if_eq (a := ty) hm_164 rfl ⟨by omega, by omega⟩ (fun h1_ => ?_) (fun h2_ => ?_)
  ·
    refine fl_iconst hm_164 rfl ?_
    refine fl_goto hm_164 rfl ?_
    refine gr_i (z := 1) hm_164 rfl rfl (ga_nb (by omega)) ?_
    exact ⟨rfl, (⟨by omega, by omega⟩)⟩
  refine ga_aload_n (v := .ref 344) hm_164 rfl rfl rfl ?_
  refine ga_getr (b := 365) hm_164 rfl sc_344 rfl ?_
  refine ga_iload_n (z := o) hm_164 rfl rfl ?_
  have b3_ : 0 ≤ F 365 o.toNat ∧ F 365 o.toNat ≤ 4 := gi_g hgi rfl
  refine ga_iald (z := o) (w := F 365 o.toNat) hm_164 rfl sc_365 (by omega) (by omega) (by omega) (rfl) ?_
  refine ga_iload_n (z := ty) hm_164 rfl rfl ?_
  refine fx_icmp_ne (a := F 365 o.toNat) (b := ty) hm_164 rfl ⟨by omega, by omega⟩ ⟨by omega, by omega⟩ (fun h4_ => ?_) (fun h5_ => ?_)
  ·
    refine fl_iconst hm_164 rfl ?_
    refine gr_i (z := 0) hm_164 rfl rfl (ga_nb (by omega)) ?_
    exact ⟨rfl, (⟨by omega, by omega⟩)⟩
  refine fl_iconst hm_164 rfl ?_
  refine fl_goto hm_164 rfl ?_
  refine gr_i (z := 1) hm_164 rfl rfl (ga_nb (by omega)) ?_
  exact ⟨rfl, (⟨by omega, by omega⟩)⟩
/- CheapPlannerModel.groundAction -/
abbrev pq_165 (G : Nat → Nat → Option Nat) (F : fl_N) (X : xi_H) (a : Int) : Outcome → xi_H → Prop := gqi (fun z A => ∃ F' : fl_N, fl_H sh_T G F' ++ X = A ∧ gi F' ∧ fs [(344, 344, 39, 39), (367, 372, 0, 100000), (384, 384, 0, 100000)] F F' ∧ (0 ≤ z ∧ z ≤ 1) ∧ (sob F')) gqn
theorem mc_165 {G : Nat → Nat → Option Nat} (hG : gg G) (F : fl_N) (X : xi_H) (hgi : gi F) (a : Int) (ha : 0 ≤ a ∧ a ≤ 4) (hc : 0 ≤ F 357 a.toNat) (hso : sob F) : fl_M xi_ms 165 3 75 [.ref 344, .int (Int32.ofInt a)] (fl_H sh_T G F ++ X) (pq_165 G F X a) := by
  intro fr lo hfr hlo
  show fl_R xi_ms 165 fr lo 0 [(0, .ref 344), (1, .int (Int32.ofInt a))] [] _ _
  refine ga_aload_n (v := .ref 344) hm_165 rfl rfl rfl ?_
  refine ga_getr (b := 354) hm_165 rfl sc_344 rfl ?_
  refine ga_iload_n (z := a) hm_165 rfl rfl ?_
  have b1_ : 0 ≤ F 354 a.toNat ∧ F 354 a.toNat ≤ 3 := gi_g hgi rfl
  refine ga_iald (z := a) (w := F 354 a.toNat) hm_165 rfl sc_354 (by omega) (by omega) (by omega) (rfl) ?_
  refine ga_istore_n (lv2 := [(2, .int (Int32.ofInt (F 354 a.toNat))), (0, .ref 344), (1, .int (Int32.ofInt a))]) hm_165 rfl (Nat.le_of_ble_eq_true rfl) rfl ?_
  refine fl_iconst hm_165 rfl ?_
  refine ga_istore_n (lv2 := [(3, .int (Int32.ofInt 0)), (2, .int (Int32.ofInt (F 354 a.toNat))), (0, .ref 344), (1, .int (Int32.ofInt a))]) hm_165 rfl (Nat.le_of_ble_eq_true rfl) rfl ?_
  have L3_ : ∀ (n2_ : Nat) (x : Int) (F1 : fl_N), (216 - x : Int).toNat = n2_ → (gi F1) → (fs [(344, 344, 39, 39), (367, 372, 0, 100000), (384, 384, 0, 100000)] F F1) → (0 ≤ x ∧ x ≤ 216) → (sob F1) → fl_R xi_ms 165 fr lo 9 [(3, .int (Int32.ofInt x)), (2, .int (Int32.ofInt (F 354 a.toNat))), (0, .ref 344), (1, .int (Int32.ofInt a))] [] (fl_H sh_T G F1 ++ X) (pq_165 G F X a) := by
    intro n2_
    induction n2_ using Nat.strongRecOn with
    | ind n2_ ih4_ =>
    intro x F1 hn5_ hg_F1 hf_F1 hx hs1
    have g6_ : fs [(344, 344, 39, 39), (367, 372, 0, 100000), (384, 384, 0, 100000)] F F1 := fs_tr fs_refl hf_F1 rfl
    refine ga_iload_n (z := x) hm_165 rfl rfl ?_
    refine fl_sipush hm_165 rfl rfl ?_
    refine fl_icmp_ge (a := x) (b := 216) hm_165 rfl ⟨by omega, by omega⟩ ⟨by omega, by omega⟩ (fun h7_ => ?_) (fun h8_ => ?_)
    ·
      refine fl_iconst hm_165 rfl ?_
      refine gr_i (z := 1) hm_165 rfl rfl (ga_nb (by omega)) ?_
      exact ⟨F1, rfl, hg_F1, g6_, (⟨by omega, by omega⟩), (hs1)⟩
    refine ga_aload_n (v := .ref 344) hm_165 rfl rfl rfl ?_
    refine ga_getr (b := 384) hm_165 rfl sc_344 rfl ?_
    refine fl_iconst hm_165 rfl ?_
    refine ga_iload_n (z := x) hm_165 rfl rfl ?_
    refine fl_bipush hm_165 rfl rfl ?_
    refine ga_idiv (a := x) (b := 36) hm_165 rfl (by omega) (by omega) (by omega) (by omega) ?_
    refine fl_iast (z := 0) (v := (x / 36)) hm_165 rfl sc_384 (by omega) (by omega) (by omega) ?_
    refine ga_aload_n (v := .ref 344) hm_165 rfl rfl rfl ?_
    refine ga_getr (b := 384) hm_165 rfl sc_344 rfl ?_
    refine fl_iconst hm_165 rfl ?_
    refine ga_iload_n (z := x) hm_165 rfl rfl ?_
    refine fl_bipush hm_165 rfl rfl ?_
    refine ga_idiv (a := x) (b := 6) hm_165 rfl (by omega) (by omega) (by omega) (by omega) ?_
    refine fl_bipush hm_165 rfl rfl ?_
    refine ga_irem (a := (x / 6)) (b := 6) hm_165 rfl (by omega) (by omega) (by omega) (by omega) ?_
    refine fl_iast (z := 1) (v := (((x / 6)) % 6)) hm_165 rfl sc_384 (by omega) (by omega) (by omega) ?_
    refine ga_aload_n (v := .ref 344) hm_165 rfl rfl rfl ?_
    refine ga_getr (b := 384) hm_165 rfl sc_344 rfl ?_
    refine fl_iconst hm_165 rfl ?_
    refine ga_iload_n (z := x) hm_165 rfl rfl ?_
    refine fl_bipush hm_165 rfl rfl ?_
    refine ga_irem (a := x) (b := 6) hm_165 rfl (by omega) (by omega) (by omega) (by omega) ?_
    refine fl_iast (z := 2) (v := (x % 6)) hm_165 rfl sc_384 (by omega) (by omega) (by omega) ?_
    refine fl_iconst hm_165 rfl ?_
    refine ga_istore (lv2 := [(4, .int (Int32.ofInt 1)), (3, .int (Int32.ofInt x)), (2, .int (Int32.ofInt (F 354 a.toNat))), (0, .ref 344), (1, .int (Int32.ofInt a))]) hm_165 rfl (Nat.le_of_ble_eq_true rfl) rfl ?_
    refine fl_iconst hm_165 rfl ?_
    refine ga_istore (lv2 := [(5, .int (Int32.ofInt 0)), (4, .int (Int32.ofInt 1)), (3, .int (Int32.ofInt x)), (2, .int (Int32.ofInt (F 354 a.toNat))), (0, .ref 344), (1, .int (Int32.ofInt a))]) hm_165 rfl (Nat.le_of_ble_eq_true rfl) rfl ?_
    obtain ⟨F9_, q10_⟩ : ∃ Fq_, Fq_ = (fl_u (fl_u (fl_u F1 384 (0 : Int).toNat ((x / 36))) 384 (1 : Int).toNat ((((x / 6)) % 6))) 384 (2 : Int).toNat ((x % 6))) := ⟨_, rfl⟩
    rw [← q10_]
    have g11_ : gi F9_ := by rw [q10_]; exact gi_u (gi_u (gi_u (hg_F1) rfl (by omega) (by omega)) rfl (by omega) (by omega)) rfl (by omega) (by omega)
    have g12_ : fs [(344, 344, 39, 39), (367, 372, 0, 100000), (384, 384, 0, 100000)] F F9_ := by rw [q10_]; exact fs_u (fs_u (fs_u (g6_) rfl) rfl) rfl
    have L14_ : ∀ (n13_ : Nat) (gd : Int) (k : Int), (3 - k : Int).toNat = n13_ → (0 ≤ k ∧ k ≤ 3) → (0 ≤ gd ∧ gd ≤ 1) → fl_R xi_ms 165 fr lo 55 [(5, .int (Int32.ofInt k)), (4, .int (Int32.ofInt gd)), (3, .int (Int32.ofInt x)), (2, .int (Int32.ofInt (F 354 a.toNat))), (0, .ref 344), (1, .int (Int32.ofInt a))] [] (fl_H sh_T G F9_ ++ X) (pq_165 G F X a) := by
      intro n13_
      induction n13_ using Nat.strongRecOn with
      | ind n13_ ih15_ =>
      intro gd k hn16_ hk hgd
      refine ga_iload (z := k) hm_165 rfl rfl ?_
      refine fl_iconst hm_165 rfl ?_
      refine fl_icmp_ge (a := k) (b := 3) hm_165 rfl ⟨by omega, by omega⟩ ⟨by omega, by omega⟩ (fun h17_ => ?_) (fun h18_ => ?_)
      ·
        refine ga_iload (z := gd) hm_165 rfl rfl ?_
        refine fl_if_eq (a := gd) hm_165 rfl ⟨by omega, by omega⟩ (fun h19_ => ?_) (fun h20_ => ?_)
        ·
          refine ga_inc (a := x) (c := x + 1) (lv2 := [(3, .int (Int32.ofInt (x + 1))), (5, .int (Int32.ofInt k)), (4, .int (Int32.ofInt gd)), (2, .int (Int32.ofInt (F 354 a.toNat))), (0, .ref 344), (1, .int (Int32.ofInt a))]) hm_165 rfl rfl (Nat.le_of_ble_eq_true rfl) rfl rfl ?_
          refine fl_goto hm_165 rfl ?_
          exact fl_R_sub (lv' := [(3, .int (Int32.ofInt (x + 1))), (2, .int (Int32.ofInt (F 354 a.toNat))), (0, .ref 344), (1, .int (Int32.ofInt a))]) rfl rfl (ih4_ _ (by omega) (x + 1) F9_ rfl g11_ (by rw [q10_]; exact fs_u (fs_u (fs_u (hf_F1) rfl) rfl) rfl) (⟨by omega, by omega⟩) (sob_cg hs1 (show F9_ 344 39 = F1 344 39 from (by rw [q10_]; exact (fl_u_ne (by first | exact nc_ rfl | decide | omega)).trans ((fl_u_ne (by first | exact nc_ rfl | decide | omega)).trans ((fl_u_ne (by first | exact nc_ rfl | decide | omega)))))) (fun j => (show F9_ 357 j = F1 357 j from (by rw [q10_]; exact (fl_u_ne (by first | exact nc_ rfl | decide | omega)).trans ((fl_u_ne (by first | exact nc_ rfl | decide | omega)).trans ((fl_u_ne (by first | exact nc_ rfl | decide | omega))))))) (fun j => (show F9_ 367 j = F1 367 j from (by rw [q10_]; exact (fl_u_ne (by first | exact nc_ rfl | decide | omega)).trans ((fl_u_ne (by first | exact nc_ rfl | decide | omega)).trans ((fl_u_ne (by first | exact nc_ rfl | decide | omega))))))) (fun j => (show F9_ 354 j = F1 354 j from (by rw [q10_]; exact (fl_u_ne (by first | exact nc_ rfl | decide | omega)).trans ((fl_u_ne (by first | exact nc_ rfl | decide | omega)).trans ((fl_u_ne (by first | exact nc_ rfl | decide | omega))))))) (fun j => (show F9_ 368 j = F1 368 j from (by rw [q10_]; exact (fl_u_ne (by first | exact nc_ rfl | decide | omega)).trans ((fl_u_ne (by first | exact nc_ rfl | decide | omega)).trans ((fl_u_ne (by first | exact nc_ rfl | decide | omega)))))))))
        refine ga_aload_n (v := .ref 344) hm_165 rfl rfl rfl ?_
        refine ga_iload_n (z := a) hm_165 rfl rfl ?_
        refine fl_bipush hm_165 rfl rfl ?_
        refine ga_iload_n (z := a) hm_165 rfl rfl ?_
        refine ga_imul (a := 8) (b := a) (c := 8 * a) hm_165 rfl (by omega) ?_
        refine gVi (nY := 6) (F := 1) (L := 23) (As := [.int (Int32.ofInt a), .int (Int32.ofInt (8 * a))]) (b := 344) (rest := []) hm_165 rfl hm_159 rfl rfl (fl_ob sc_344) rfl rfl rfl rfl rfl (by omega) (by omega) (mc_159 hG F9_ X g11_ (a) (8 * a) (⟨by omega, by omega⟩) (by omega)) (fun _ _ h => False.elim h) ?_
        rintro z21_ A1_ ⟨hA_, c22_⟩
        subst hA_
        refine fx_if_ne (a := z21_) hm_165 rfl ⟨by omega, by omega⟩ (fun h23_ => ?_) (fun h24_ => ?_)
        ·
          refine ga_aload_n (v := .ref 344) hm_165 rfl rfl rfl ?_
          have e25_ : F9_ 344 39 = F1 344 39 := by rw [q10_]; exact (fl_u_ne (by first | exact nc_ rfl | decide | omega)).trans ((fl_u_ne (by first | exact nc_ rfl | decide | omega)).trans (fl_u_ne (by first | exact nc_ rfl | decide | omega)))
          have b26_ : 0 ≤ F1 344 39 ∧ F1 344 39 ≤ 40 := gi_g hg_F1 rfl
          refine ga_geti (z := F1 344 39) hm_165 rfl sc_344 rfl (e25_) ?_
          refine fl_bipush hm_165 rfl rfl ?_
          refine fx_icmp_ne (a := F1 344 39) (b := 40) hm_165 rfl ⟨by omega, by omega⟩ ⟨by omega, by omega⟩ (fun h27_ => ?_) (fun h28_ => ?_)
          ·
            refine ga_aload_n (v := .ref 344) hm_165 rfl rfl rfl ?_
            refine ga_getr (b := 367) hm_165 rfl sc_344 rfl ?_
            refine ga_aload_n (v := .ref 344) hm_165 rfl rfl rfl ?_
            refine ga_geti (z := F1 344 39) hm_165 rfl sc_344 rfl (e25_) ?_
            refine ga_iload_n (z := a) hm_165 rfl rfl ?_
            refine fl_iast (z := F1 344 39) (v := a) hm_165 rfl sc_367 (by omega) (by omega) (by omega) ?_
            refine fl_iconst hm_165 rfl ?_
            refine ga_istore (lv2 := [(5, .int (Int32.ofInt 0)), (4, .int (Int32.ofInt gd)), (3, .int (Int32.ofInt x)), (2, .int (Int32.ofInt (F 354 a.toNat))), (0, .ref 344), (1, .int (Int32.ofInt a))]) hm_165 rfl (Nat.le_of_ble_eq_true rfl) rfl ?_
            obtain ⟨F29_, q30_⟩ : ∃ Fq_, Fq_ = (fl_u F9_ 367 (F1 344 39).toNat a) := ⟨_, rfl⟩
            rw [← q30_]
            have g31_ : gi F29_ := by rw [q30_]; exact gi_u (g11_) rfl (by omega) (by omega)
            have g32_ : fs [(344, 344, 39, 39), (367, 372, 0, 100000), (384, 384, 0, 100000)] F F29_ := by rw [q30_]; exact fs_u (g12_) (fs_z (fs_y (by omega)))
            have e36_ : F29_ 344 39 = F1 344 39 := by rw [q30_]; exact (fl_u_ne (by first | exact nc_ rfl | decide | omega)).trans (e25_)
            have L34_ : ∀ (n33_ : Nat) (k2 : Int) (F2 : fl_N), (3 - k2 : Int).toNat = n33_ → (gi F2) → (fs [(368, 368, 0, 100000)] F29_ F2) → (0 ≤ k2 ∧ k2 ≤ 3) → (∀ j : Nat, (j : Int) < 3 * F29_ 344 39 → F2 368 j = F29_ 368 j) → (∀ p : Nat, (p : Int) < k2 → (p : Int) < F 354 a.toNat → 0 ≤ F2 368 (3 * (F29_ 344 39).toNat + p)) → fl_R xi_ms 165 fr lo 181 [(5, .int (Int32.ofInt k2)), (4, .int (Int32.ofInt gd)), (3, .int (Int32.ofInt x)), (2, .int (Int32.ofInt (F 354 a.toNat))), (0, .ref 344), (1, .int (Int32.ofInt a))] [] (fl_H sh_T G F2 ++ X) (pq_165 G F X a) := by
              intro n33_
              induction n33_ using Nat.strongRecOn with
              | ind n33_ ih35_ =>
              intro k2 F2 hn37_ hg_F2 hf_F2 hk2 ho2 hn2
              have g38_ : fs [(344, 344, 39, 39), (367, 372, 0, 100000), (384, 384, 0, 100000)] F F2 := fs_tr g32_ hf_F2 rfl
              refine ga_iload (z := k2) hm_165 rfl rfl ?_
              refine fl_iconst hm_165 rfl ?_
              refine fl_icmp_ge (a := k2) (b := 3) hm_165 rfl ⟨by omega, by omega⟩ ⟨by omega, by omega⟩ (fun h39_ => ?_) (fun h40_ => ?_)
              ·
                refine ga_aload_n (v := .ref 344) hm_165 rfl rfl rfl ?_
                refine ga_getr (b := 369) hm_165 rfl sc_344 rfl ?_
                refine ga_aload_n (v := .ref 344) hm_165 rfl rfl rfl ?_
                have e41_ : F2 344 39 = F1 344 39 := (hf_F2 344 39 rfl).trans (e36_)
                refine ga_geti (z := F1 344 39) hm_165 rfl sc_344 rfl (e41_) ?_
                refine ga_aload_n (v := .ref 344) hm_165 rfl rfl rfl ?_
                refine ga_iload_n (z := a) hm_165 rfl rfl ?_
                refine fl_bipush hm_165 rfl rfl ?_
                refine ga_iload_n (z := a) hm_165 rfl rfl ?_
                refine ga_imul (a := 8) (b := a) (c := 8 * a) hm_165 rfl (by omega) ?_
                refine ga_aload_n (v := .ref 344) hm_165 rfl rfl rfl ?_
                refine ga_getr (b := 358) hm_165 rfl sc_344 rfl ?_
                refine ga_iload_n (z := a) hm_165 rfl rfl ?_
                have e42_ : F1 358 a.toNat = F 358 a.toNat := (hf_F1 358 a.toNat (by first | exact fs_c rfl | exact (fs_n (by omega) (fs_n (by omega) (fs_n (by omega) rfl))))).trans (rfl)
                have e43_ : F9_ 358 a.toNat = F 358 a.toNat := by rw [q10_]; exact (fl_u_ne (by first | exact nc_ rfl | decide | omega)).trans ((fl_u_ne (by first | exact nc_ rfl | decide | omega)).trans ((fl_u_ne (by first | exact nc_ rfl | decide | omega)).trans (e42_)))
                have e44_ : F29_ 358 a.toNat = F 358 a.toNat := by rw [q30_]; exact (fl_u_ne (by first | exact nc_ rfl | decide | omega)).trans (e43_)
                have e45_ : F2 358 a.toNat = F 358 a.toNat := (hf_F2 358 a.toNat (by first | exact fs_c rfl | exact (fs_n (by omega) rfl))).trans (e44_)
                have b46_ : 0 ≤ F 358 a.toNat ∧ F 358 a.toNat ≤ 4 := gi_g hgi rfl
                refine ga_iald (z := a) (w := F 358 a.toNat) hm_165 rfl sc_358 (by omega) (by omega) (by omega) (e45_) ?_
                refine fl_iconst hm_165 rfl ?_
                refine gVl (nY := 9) (F := 2) (L := 47) (As := [.int (Int32.ofInt a), .int (Int32.ofInt (8 * a)), .int (Int32.ofInt (F 358 a.toNat)), .int (Int32.ofInt 0)]) (b := 344) (rest := [.int (Int32.ofInt (F1 344 39)), .ref 369]) hm_165 rfl hm_156 rfl rfl (fl_ob sc_344) rfl rfl rfl rfl rfl (by omega) (by omega) (mc_156 hG F2 X hg_F2 (a) (8 * a) (F 358 a.toNat) (0) (⟨by omega, by omega⟩) (by omega) (⟨by omega, by omega⟩) (⟨by omega, by omega⟩)) (fun _ _ h => False.elim h) ?_
                rintro z47_ A1_ ⟨hA_, c48_⟩
                subst hA_
                refine fl_last (z := F1 344 39) (v := z47_) hm_165 rfl sc_369 (by omega) (by omega) (by omega) ?_
                refine ga_aload_n (v := .ref 344) hm_165 rfl rfl rfl ?_
                refine ga_getr (b := 370) hm_165 rfl sc_344 rfl ?_
                refine ga_aload_n (v := .ref 344) hm_165 rfl rfl rfl ?_
                refine ga_geti (z := F1 344 39) hm_165 rfl sc_344 rfl ((fl_u_ne (by first | exact nc_ rfl | decide | omega)).trans (e41_)) ?_
                refine ga_aload_n (v := .ref 344) hm_165 rfl rfl rfl ?_
                refine ga_iload_n (z := a) hm_165 rfl rfl ?_
                refine fl_bipush hm_165 rfl rfl ?_
                refine ga_iload_n (z := a) hm_165 rfl rfl ?_
                refine ga_imul (a := 8) (b := a) (c := 8 * a) hm_165 rfl (by omega) ?_
                refine ga_aload_n (v := .ref 344) hm_165 rfl rfl rfl ?_
                refine ga_getr (b := 358) hm_165 rfl sc_344 rfl ?_
                refine ga_iload_n (z := a) hm_165 rfl rfl ?_
                refine ga_iald (z := a) (w := F 358 a.toNat) hm_165 rfl sc_358 (by omega) (by omega) (by omega) ((fl_u_ne (by first | exact nc_ rfl | decide | omega)).trans (e45_)) ?_
                refine fl_iconst hm_165 rfl ?_
                obtain ⟨F49_, q50_⟩ : ∃ Fq_, Fq_ = (fl_u F2 369 (F1 344 39).toNat z47_) := ⟨_, rfl⟩
                rw [← q50_]
                have g51_ : gi F49_ := by rw [q50_]; exact gi_u (hg_F2) rfl (by omega) (by omega)
                have g52_ : fs [(344, 344, 39, 39), (367, 372, 0, 100000), (384, 384, 0, 100000)] F F49_ := by rw [q50_]; exact fs_u (g38_) (fs_z (fs_y (by omega)))
                refine gVl (nY := 9) (F := 2) (L := 47) (As := [.int (Int32.ofInt a), .int (Int32.ofInt (8 * a)), .int (Int32.ofInt (F 358 a.toNat)), .int (Int32.ofInt 1)]) (b := 344) (rest := [.int (Int32.ofInt (F1 344 39)), .ref 370]) hm_165 rfl hm_156 rfl rfl (fl_ob sc_344) rfl rfl rfl rfl rfl (by omega) (by omega) (mc_156 hG F49_ X g51_ (a) (8 * a) (F 358 a.toNat) (1) (⟨by omega, by omega⟩) (by omega) (⟨by omega, by omega⟩) (⟨by omega, by omega⟩)) (fun _ _ h => False.elim h) ?_
                rintro z53_ A1_ ⟨hA_, c54_⟩
                subst hA_
                refine fl_last (z := F1 344 39) (v := z53_) hm_165 rfl sc_370 (by omega) (by omega) (by omega) ?_
                refine ga_aload_n (v := .ref 344) hm_165 rfl rfl rfl ?_
                refine ga_getr (b := 371) hm_165 rfl sc_344 rfl ?_
                refine ga_aload_n (v := .ref 344) hm_165 rfl rfl rfl ?_
                have e55_ : F49_ 344 39 = F1 344 39 := by rw [q50_]; exact (fl_u_ne (by first | exact nc_ rfl | decide | omega)).trans (e41_)
                refine ga_geti (z := F1 344 39) hm_165 rfl sc_344 rfl ((fl_u_ne (by first | exact nc_ rfl | decide | omega)).trans (e55_)) ?_
                refine ga_aload_n (v := .ref 344) hm_165 rfl rfl rfl ?_
                refine ga_iload_n (z := a) hm_165 rfl rfl ?_
                refine fl_bipush hm_165 rfl rfl ?_
                refine ga_iload_n (z := a) hm_165 rfl rfl ?_
                refine ga_imul (a := 8) (b := a) (c := 8 * a) hm_165 rfl (by omega) ?_
                refine fl_iconst hm_165 rfl ?_
                refine ga_iadd (a := 8 * a) (b := 4) (c := 8 * a + 4) hm_165 rfl (by omega) ?_
                refine ga_aload_n (v := .ref 344) hm_165 rfl rfl rfl ?_
                refine ga_getr (b := 359) hm_165 rfl sc_344 rfl ?_
                refine ga_iload_n (z := a) hm_165 rfl rfl ?_
                have e56_ : F1 359 a.toNat = F 359 a.toNat := (hf_F1 359 a.toNat (by first | exact fs_c rfl | exact (fs_n (by omega) (fs_n (by omega) (fs_n (by omega) rfl))))).trans (rfl)
                have e57_ : F9_ 359 a.toNat = F 359 a.toNat := by rw [q10_]; exact (fl_u_ne (by first | exact nc_ rfl | decide | omega)).trans ((fl_u_ne (by first | exact nc_ rfl | decide | omega)).trans ((fl_u_ne (by first | exact nc_ rfl | decide | omega)).trans (e56_)))
                have e58_ : F29_ 359 a.toNat = F 359 a.toNat := by rw [q30_]; exact (fl_u_ne (by first | exact nc_ rfl | decide | omega)).trans (e57_)
                have e59_ : F2 359 a.toNat = F 359 a.toNat := (hf_F2 359 a.toNat (by first | exact fs_c rfl | exact (fs_n (by omega) rfl))).trans (e58_)
                have e60_ : F49_ 359 a.toNat = F 359 a.toNat := by rw [q50_]; exact (fl_u_ne (by first | exact nc_ rfl | decide | omega)).trans (e59_)
                have b61_ : 0 ≤ F 359 a.toNat ∧ F 359 a.toNat ≤ 4 := gi_g hgi rfl
                refine ga_iald (z := a) (w := F 359 a.toNat) hm_165 rfl sc_359 (by omega) (by omega) (by omega) ((fl_u_ne (by first | exact nc_ rfl | decide | omega)).trans (e60_)) ?_
                refine fl_iconst hm_165 rfl ?_
                obtain ⟨F62_, q63_⟩ : ∃ Fq_, Fq_ = (fl_u F49_ 370 (F1 344 39).toNat z53_) := ⟨_, rfl⟩
                rw [← q63_]
                have g64_ : gi F62_ := by rw [q63_]; exact gi_u (g51_) rfl (by omega) (by omega)
                have g65_ : fs [(344, 344, 39, 39), (367, 372, 0, 100000), (384, 384, 0, 100000)] F F62_ := by rw [q63_]; exact fs_u (g52_) (fs_z (fs_y (by omega)))
                refine gVl (nY := 9) (F := 2) (L := 47) (As := [.int (Int32.ofInt a), .int (Int32.ofInt (8 * a + 4)), .int (Int32.ofInt (F 359 a.toNat)), .int (Int32.ofInt 0)]) (b := 344) (rest := [.int (Int32.ofInt (F1 344 39)), .ref 371]) hm_165 rfl hm_156 rfl rfl (fl_ob sc_344) rfl rfl rfl rfl rfl (by omega) (by omega) (mc_156 hG F62_ X g64_ (a) (8 * a + 4) (F 359 a.toNat) (0) (⟨by omega, by omega⟩) (by omega) (⟨by omega, by omega⟩) (⟨by omega, by omega⟩)) (fun _ _ h => False.elim h) ?_
                rintro z66_ A1_ ⟨hA_, c67_⟩
                subst hA_
                refine fl_last (z := F1 344 39) (v := z66_) hm_165 rfl sc_371 (by omega) (by omega) (by omega) ?_
                refine ga_aload_n (v := .ref 344) hm_165 rfl rfl rfl ?_
                refine ga_getr (b := 372) hm_165 rfl sc_344 rfl ?_
                refine ga_aload_n (v := .ref 344) hm_165 rfl rfl rfl ?_
                have e68_ : F62_ 344 39 = F1 344 39 := by rw [q63_]; exact (fl_u_ne (by first | exact nc_ rfl | decide | omega)).trans (e55_)
                refine ga_geti (z := F1 344 39) hm_165 rfl sc_344 rfl ((fl_u_ne (by first | exact nc_ rfl | decide | omega)).trans (e68_)) ?_
                refine ga_aload_n (v := .ref 344) hm_165 rfl rfl rfl ?_
                refine ga_iload_n (z := a) hm_165 rfl rfl ?_
                refine fl_bipush hm_165 rfl rfl ?_
                refine ga_iload_n (z := a) hm_165 rfl rfl ?_
                refine ga_imul (a := 8) (b := a) (c := 8 * a) hm_165 rfl (by omega) ?_
                refine fl_iconst hm_165 rfl ?_
                refine ga_iadd (a := 8 * a) (b := 4) (c := 8 * a + 4) hm_165 rfl (by omega) ?_
                refine ga_aload_n (v := .ref 344) hm_165 rfl rfl rfl ?_
                refine ga_getr (b := 359) hm_165 rfl sc_344 rfl ?_
                refine ga_iload_n (z := a) hm_165 rfl rfl ?_
                have e69_ : F62_ 359 a.toNat = F 359 a.toNat := by rw [q63_]; exact (fl_u_ne (by first | exact nc_ rfl | decide | omega)).trans (e60_)
                refine ga_iald (z := a) (w := F 359 a.toNat) hm_165 rfl sc_359 (by omega) (by omega) (by omega) ((fl_u_ne (by first | exact nc_ rfl | decide | omega)).trans (e69_)) ?_
                refine fl_iconst hm_165 rfl ?_
                obtain ⟨F70_, q71_⟩ : ∃ Fq_, Fq_ = (fl_u F62_ 371 (F1 344 39).toNat z66_) := ⟨_, rfl⟩
                rw [← q71_]
                have g72_ : gi F70_ := by rw [q71_]; exact gi_u (g64_) rfl (by omega) (by omega)
                have g73_ : fs [(344, 344, 39, 39), (367, 372, 0, 100000), (384, 384, 0, 100000)] F F70_ := by rw [q71_]; exact fs_u (g65_) (fs_z (fs_y (by omega)))
                refine gVl (nY := 9) (F := 2) (L := 47) (As := [.int (Int32.ofInt a), .int (Int32.ofInt (8 * a + 4)), .int (Int32.ofInt (F 359 a.toNat)), .int (Int32.ofInt 1)]) (b := 344) (rest := [.int (Int32.ofInt (F1 344 39)), .ref 372]) hm_165 rfl hm_156 rfl rfl (fl_ob sc_344) rfl rfl rfl rfl rfl (by omega) (by omega) (mc_156 hG F70_ X g72_ (a) (8 * a + 4) (F 359 a.toNat) (1) (⟨by omega, by omega⟩) (by omega) (⟨by omega, by omega⟩) (⟨by omega, by omega⟩)) (fun _ _ h => False.elim h) ?_
                rintro z74_ A1_ ⟨hA_, c75_⟩
                subst hA_
                refine fl_last (z := F1 344 39) (v := z74_) hm_165 rfl sc_372 (by omega) (by omega) (by omega) ?_
                refine ga_aload_n (v := .ref 344) hm_165 rfl rfl rfl ?_
                refine ga_dup hm_165 rfl rfl ?_
                have e76_ : F70_ 344 39 = F1 344 39 := by rw [q71_]; exact (fl_u_ne (by first | exact nc_ rfl | decide | omega)).trans (e68_)
                refine ga_geti (z := F1 344 39) hm_165 rfl sc_344 rfl ((fl_u_ne (by first | exact nc_ rfl | decide | omega)).trans (e76_)) ?_
                refine fl_iconst hm_165 rfl ?_
                refine ga_iadd (a := F1 344 39) (b := 1) (c := F1 344 39 + 1) hm_165 rfl (by omega) ?_
                refine ga_puti (z := F1 344 39 + 1) hm_165 rfl sc_344 rfl rfl ?_
                refine ga_inc (a := x) (c := x + 1) (lv2 := [(3, .int (Int32.ofInt (x + 1))), (5, .int (Int32.ofInt k2)), (4, .int (Int32.ofInt gd)), (2, .int (Int32.ofInt (F 354 a.toNat))), (0, .ref 344), (1, .int (Int32.ofInt a))]) hm_165 rfl rfl (Nat.le_of_ble_eq_true rfl) rfl rfl ?_
                refine fl_goto hm_165 rfl ?_
                obtain ⟨F77_, q78_⟩ : ∃ Fq_, Fq_ = (fl_u (fl_u F70_ 372 (F1 344 39).toNat z74_) 344 39 (F1 344 39 + 1)) := ⟨_, rfl⟩
                rw [← q78_]
                have g79_ : gi F77_ := by rw [q78_]; exact gi_u (gi_u (g72_) rfl (by omega) (by omega)) rfl (by omega) (by omega)
                have g80_ : fs [(344, 344, 39, 39), (367, 372, 0, 100000), (384, 384, 0, 100000)] F F77_ := by rw [q78_]; exact fs_u (fs_u (g73_) (fs_z (fs_y (by omega)))) rfl
                have e81_ : F77_ 344 39 = F1 344 39 + 1 := by rw [q78_]; exact fl_u_eq
                have e82_ : F1 354 a.toNat = F 354 a.toNat := (hf_F1 354 a.toNat (by first | exact fs_c rfl | exact (fs_n (by omega) (fs_n (by omega) (fs_n (by omega) rfl))))).trans (rfl)
                have e83_ : F1 357 a.toNat = F 357 a.toNat := (hf_F1 357 a.toNat (by first | exact fs_c rfl | exact (fs_n (by omega) (fs_n (by omega) (fs_n (by omega) rfl))))).trans (rfl)
                have e84_ : F29_ 367 (F1 344 39).toNat = a := by rw [q30_]; exact fl_u_eq
                have e85_ : F2 367 (F1 344 39).toNat = a := (hf_F2 367 (F1 344 39).toNat (by first | exact fs_c rfl | exact (fs_n (by omega) rfl))).trans (e84_)
                have e86_ : F49_ 367 (F1 344 39).toNat = a := by rw [q50_]; exact (fl_u_ne (by first | exact nc_ rfl | decide | omega)).trans (e85_)
                have e87_ : F62_ 367 (F1 344 39).toNat = a := by rw [q63_]; exact (fl_u_ne (by first | exact nc_ rfl | decide | omega)).trans (e86_)
                have e88_ : F70_ 367 (F1 344 39).toNat = a := by rw [q71_]; exact (fl_u_ne (by first | exact nc_ rfl | decide | omega)).trans (e87_)
                have e89_ : F77_ 367 (F1 344 39).toNat = a := by rw [q78_]; exact (fl_u_ne (by first | exact nc_ rfl | decide | omega)).trans ((fl_u_ne (by first | exact nc_ rfl | decide | omega)).trans (e88_))
                exact fl_R_sub (lv' := [(3, .int (Int32.ofInt (x + 1))), (2, .int (Int32.ofInt (F 354 a.toNat))), (0, .ref 344), (1, .int (Int32.ofInt a))]) rfl rfl (ih4_ _ (by omega) (x + 1) F77_ rfl g79_ (by rw [q78_]; exact fs_u (fs_u ((by rw [q71_]; exact fs_u ((by rw [q63_]; exact fs_u ((by rw [q50_]; exact fs_u ((fs_tr (by rw [q30_]; exact fs_u ((by rw [q10_]; exact fs_u (fs_u (fs_u (hf_F1) rfl) rfl) rfl)) (fs_z (fs_y (by omega)))) hf_F2 rfl)) (fs_z (fs_y (by omega))))) (fs_z (fs_y (by omega))))) (fs_z (fs_y (by omega))))) (fs_z (fs_y (by omega)))) rfl) (⟨by omega, by omega⟩) (sob_add hs1 (by omega) (by omega) (fun j hj => (Eq.trans (a := F77_ 367 j) (b := F70_ 367 j) (by rw [q78_]; exact (fl_u_ne (by first | exact nc_ rfl | decide | omega)).trans ((fl_u_ne (by first | exact nc_ rfl | decide | omega)))) (Eq.trans (a := F70_ 367 j) (b := F62_ 367 j) (by rw [q71_]; exact (fl_u_ne (by first | exact nc_ rfl | decide | omega))) (Eq.trans (a := F62_ 367 j) (b := F49_ 367 j) (by rw [q63_]; exact (fl_u_ne (by first | exact nc_ rfl | decide | omega))) (Eq.trans (a := F49_ 367 j) (b := F2 367 j) (by rw [q50_]; exact (fl_u_ne (by first | exact nc_ rfl | decide | omega))) (Eq.trans (a := F2 367 j) (b := F29_ 367 j) (hf_F2 367 j (by first | exact fs_c rfl | exact (fs_n (by omega) rfl))) (Eq.trans (a := F29_ 367 j) (b := F9_ 367 j) (by rw [q30_]; exact (fl_u_ne (by first | exact nc_ rfl | decide | omega))) (show F9_ 367 j = F1 367 j from (by rw [q10_]; exact (fl_u_ne (by first | exact nc_ rfl | decide | omega)).trans ((fl_u_ne (by first | exact nc_ rfl | decide | omega)).trans ((fl_u_ne (by first | exact nc_ rfl | decide | omega))))))))))))) (fun j => (Eq.trans (a := F77_ 357 j) (b := F70_ 357 j) (by rw [q78_]; exact (fl_u_ne (by first | exact nc_ rfl | decide | omega)).trans ((fl_u_ne (by first | exact nc_ rfl | decide | omega)))) (Eq.trans (a := F70_ 357 j) (b := F62_ 357 j) (by rw [q71_]; exact (fl_u_ne (by first | exact nc_ rfl | decide | omega))) (Eq.trans (a := F62_ 357 j) (b := F49_ 357 j) (by rw [q63_]; exact (fl_u_ne (by first | exact nc_ rfl | decide | omega))) (Eq.trans (a := F49_ 357 j) (b := F2 357 j) (by rw [q50_]; exact (fl_u_ne (by first | exact nc_ rfl | decide | omega))) (Eq.trans (a := F2 357 j) (b := F29_ 357 j) (hf_F2 357 j (by first | exact fs_c rfl | exact (fs_n (by omega) rfl))) (Eq.trans (a := F29_ 357 j) (b := F9_ 357 j) (by rw [q30_]; exact (fl_u_ne (by first | exact nc_ rfl | decide | omega))) (show F9_ 357 j = F1 357 j from (by rw [q10_]; exact (fl_u_ne (by first | exact nc_ rfl | decide | omega)).trans ((fl_u_ne (by first | exact nc_ rfl | decide | omega)).trans ((fl_u_ne (by first | exact nc_ rfl | decide | omega))))))))))))) (fun j => (Eq.trans (a := F77_ 354 j) (b := F70_ 354 j) (by rw [q78_]; exact (fl_u_ne (by first | exact nc_ rfl | decide | omega)).trans ((fl_u_ne (by first | exact nc_ rfl | decide | omega)))) (Eq.trans (a := F70_ 354 j) (b := F62_ 354 j) (by rw [q71_]; exact (fl_u_ne (by first | exact nc_ rfl | decide | omega))) (Eq.trans (a := F62_ 354 j) (b := F49_ 354 j) (by rw [q63_]; exact (fl_u_ne (by first | exact nc_ rfl | decide | omega))) (Eq.trans (a := F49_ 354 j) (b := F2 354 j) (by rw [q50_]; exact (fl_u_ne (by first | exact nc_ rfl | decide | omega))) (Eq.trans (a := F2 354 j) (b := F29_ 354 j) (hf_F2 354 j (by first | exact fs_c rfl | exact (fs_n (by omega) rfl))) (Eq.trans (a := F29_ 354 j) (b := F9_ 354 j) (by rw [q30_]; exact (fl_u_ne (by first | exact nc_ rfl | decide | omega))) (show F9_ 354 j = F1 354 j from (by rw [q10_]; exact (fl_u_ne (by first | exact nc_ rfl | decide | omega)).trans ((fl_u_ne (by first | exact nc_ rfl | decide | omega)).trans ((fl_u_ne (by first | exact nc_ rfl | decide | omega))))))))))))) (fun j hj => Eq.trans (Eq.trans (a := F77_ 368 j) (b := F70_ 368 j) (by rw [q78_]; exact (fl_u_ne (by first | exact nc_ rfl | decide | omega)).trans ((fl_u_ne (by first | exact nc_ rfl | decide | omega)))) (Eq.trans (a := F70_ 368 j) (b := F62_ 368 j) (by rw [q71_]; exact (fl_u_ne (by first | exact nc_ rfl | decide | omega))) (Eq.trans (a := F62_ 368 j) (b := F49_ 368 j) (by rw [q63_]; exact (fl_u_ne (by first | exact nc_ rfl | decide | omega))) (show F49_ 368 j = F2 368 j from (by rw [q50_]; exact (fl_u_ne (by first | exact nc_ rfl | decide | omega))))))) (Eq.trans (ho2 j (by omega)) (Eq.trans (a := F29_ 368 j) (b := F9_ 368 j) (by rw [q30_]; exact (fl_u_ne (by first | exact nc_ rfl | decide | omega))) (show F9_ 368 j = F1 368 j from (by rw [q10_]; exact (fl_u_ne (by first | exact nc_ rfl | decide | omega)).trans ((fl_u_ne (by first | exact nc_ rfl | decide | omega)).trans ((fl_u_ne (by first | exact nc_ rfl | decide | omega))))))))) (e89_) (by omega) (fun p hp hq => by have h9_ := hn2 p (by omega) (by omega); rw [show F77_ 368 _ = F2 368 _ from (Eq.trans (a := F77_ 368 (3 * (F1 344 39).toNat + p)) (b := F70_ 368 (3 * (F1 344 39).toNat + p)) (by rw [q78_]; exact (fl_u_ne (by first | exact nc_ rfl | decide | omega)).trans ((fl_u_ne (by first | exact nc_ rfl | decide | omega)))) (Eq.trans (a := F70_ 368 (3 * (F1 344 39).toNat + p)) (b := F62_ 368 (3 * (F1 344 39).toNat + p)) (by rw [q71_]; exact (fl_u_ne (by first | exact nc_ rfl | decide | omega))) (Eq.trans (a := F62_ 368 (3 * (F1 344 39).toNat + p)) (b := F49_ 368 (3 * (F1 344 39).toNat + p)) (by rw [q63_]; exact (fl_u_ne (by first | exact nc_ rfl | decide | omega))) (show F49_ 368 (3 * (F1 344 39).toNat + p) = F2 368 (3 * (F1 344 39).toNat + p) from (by rw [q50_]; exact (fl_u_ne (by first | exact nc_ rfl | decide | omega)))))))]; rwa [show (F29_ 344 39).toNat = (F1 344 39).toNat by omega] at h9_) (by omega) (fun s => by have h9_ : 0 ≤ F1 354 (F1 367 s).toNat ∧ F1 354 (F1 367 s).toNat ≤ 3 := gi_g hg_F1 rfl; omega)))
              refine ga_aload_n (v := .ref 344) hm_165 rfl rfl rfl ?_
              refine ga_getr (b := 368) hm_165 rfl sc_344 rfl ?_
              refine fl_iconst hm_165 rfl ?_
              refine ga_aload_n (v := .ref 344) hm_165 rfl rfl rfl ?_
              have e90_ : F2 344 39 = F1 344 39 := (hf_F2 344 39 rfl).trans (e36_)
              refine ga_geti (z := F1 344 39) hm_165 rfl sc_344 rfl (e90_) ?_
              refine ga_imul (a := 3) (b := F1 344 39) (c := 3 * (F1 344 39)) hm_165 rfl (by omega) ?_
              refine ga_iload (z := k2) hm_165 rfl rfl ?_
              refine ga_iadd (a := 3 * (F1 344 39)) (b := k2) (c := 3 * (F1 344 39) + k2) hm_165 rfl (by omega) ?_
              refine ga_iload (z := k2) hm_165 rfl rfl ?_
              refine ga_iload_n (z := F 354 a.toNat) hm_165 rfl rfl ?_
              refine fl_icmp_ge (a := k2) (b := F 354 a.toNat) hm_165 rfl ⟨by omega, by omega⟩ ⟨by omega, by omega⟩ (fun h91_ => ?_) (fun h92_ => ?_)
              ·
                refine fl_iconst hm_165 rfl ?_
                refine fl_iast (z := 3 * (F1 344 39) + k2) (v := -1) hm_165 rfl sc_368 (by omega) (by omega) (by omega) ?_
                refine ga_inc (a := k2) (c := k2 + 1) (lv2 := [(5, .int (Int32.ofInt (k2 + 1))), (4, .int (Int32.ofInt gd)), (3, .int (Int32.ofInt x)), (2, .int (Int32.ofInt (F 354 a.toNat))), (0, .ref 344), (1, .int (Int32.ofInt a))]) hm_165 rfl rfl (Nat.le_of_ble_eq_true rfl) rfl rfl ?_
                refine fl_goto hm_165 rfl ?_
                obtain ⟨F93_, q94_⟩ : ∃ Fq_, Fq_ = (fl_u F2 368 (3 * (F1 344 39) + k2).toNat (-1)) := ⟨_, rfl⟩
                rw [← q94_]
                have g95_ : gi F93_ := by rw [q94_]; exact gi_u (hg_F2) rfl (by omega) (by omega)
                have g96_ : fs [(344, 344, 39, 39), (367, 372, 0, 100000), (384, 384, 0, 100000)] F F93_ := by rw [q94_]; exact fs_u (g38_) (fs_z (fs_y (by omega)))
                exact ih35_ _ (by omega) (k2 + 1) F93_ rfl g95_ (by rw [q94_]; exact fs_u (hf_F2) (fs_y (by omega))) (⟨by omega, by omega⟩) (fun j hj => Eq.trans (show F93_ 368 j = F2 368 j from (by rw [q94_]; exact (fl_u_ne (by first | exact nc_ rfl | decide | omega)))) (ho2 j hj)) (by rw [q94_]; exact so_w hn2 (by omega) (by omega) (by omega))
              refine ga_aload_n (v := .ref 344) hm_165 rfl rfl rfl ?_
              refine ga_getr (b := 384) hm_165 rfl sc_344 rfl ?_
              refine ga_iload (z := k2) hm_165 rfl rfl ?_
              have e97_ : F29_ 384 k2.toNat = F9_ 384 k2.toNat := by rw [q30_]; exact fl_u_ne (by first | exact nc_ rfl | decide | omega)
              have e98_ : F2 384 k2.toNat = F9_ 384 k2.toNat := (hf_F2 384 k2.toNat (by first | exact fs_c rfl | exact (fs_n (by omega) rfl))).trans (e97_)
              have b99_ : 0 ≤ F9_ 384 k2.toNat ∧ F9_ 384 k2.toNat ≤ 5 := gi_g g11_ rfl
              refine ga_iald (z := k2) (w := F9_ 384 k2.toNat) hm_165 rfl sc_384 (by omega) (by omega) (by omega) (e98_) ?_
              refine fl_goto hm_165 rfl ?_
              refine fl_iast (z := 3 * (F1 344 39) + k2) (v := F9_ 384 k2.toNat) hm_165 rfl sc_368 (by omega) (by omega) (by omega) ?_
              refine ga_inc (a := k2) (c := k2 + 1) (lv2 := [(5, .int (Int32.ofInt (k2 + 1))), (4, .int (Int32.ofInt gd)), (3, .int (Int32.ofInt x)), (2, .int (Int32.ofInt (F 354 a.toNat))), (0, .ref 344), (1, .int (Int32.ofInt a))]) hm_165 rfl rfl (Nat.le_of_ble_eq_true rfl) rfl rfl ?_
              refine fl_goto hm_165 rfl ?_
              obtain ⟨F100_, q101_⟩ : ∃ Fq_, Fq_ = (fl_u F2 368 (3 * (F1 344 39) + k2).toNat (F9_ 384 k2.toNat)) := ⟨_, rfl⟩
              rw [← q101_]
              have g102_ : gi F100_ := by rw [q101_]; exact gi_u (hg_F2) rfl (by omega) (by omega)
              have g103_ : fs [(344, 344, 39, 39), (367, 372, 0, 100000), (384, 384, 0, 100000)] F F100_ := by rw [q101_]; exact fs_u (g38_) (fs_z (fs_y (by omega)))
              exact ih35_ _ (by omega) (k2 + 1) F100_ rfl g102_ (by rw [q101_]; exact fs_u (hf_F2) (fs_y (by omega))) (⟨by omega, by omega⟩) (fun j hj => Eq.trans (show F100_ 368 j = F2 368 j from (by rw [q101_]; exact (fl_u_ne (by first | exact nc_ rfl | decide | omega)))) (ho2 j hj)) (by rw [q101_]; exact so_w hn2 (by omega) (by omega) (by omega))
            exact L34_ _ (0) F29_ rfl g31_ fs_refl (⟨by omega, by omega⟩) (fun _ _ => rfl) (fun p h1 _ => absurd h1 (by omega))
          refine fl_iconst hm_165 rfl ?_
          refine gr_i (z := 0) hm_165 rfl rfl (ga_nb (by omega)) ?_
          exact ⟨F9_, rfl, g11_, g12_, (⟨by omega, by omega⟩), (sob_cg hs1 (show F9_ 344 39 = F1 344 39 from (by rw [q10_]; exact (fl_u_ne (by first | exact nc_ rfl | decide | omega)).trans ((fl_u_ne (by first | exact nc_ rfl | decide | omega)).trans ((fl_u_ne (by first | exact nc_ rfl | decide | omega)))))) (fun j => (show F9_ 357 j = F1 357 j from (by rw [q10_]; exact (fl_u_ne (by first | exact nc_ rfl | decide | omega)).trans ((fl_u_ne (by first | exact nc_ rfl | decide | omega)).trans ((fl_u_ne (by first | exact nc_ rfl | decide | omega))))))) (fun j => (show F9_ 367 j = F1 367 j from (by rw [q10_]; exact (fl_u_ne (by first | exact nc_ rfl | decide | omega)).trans ((fl_u_ne (by first | exact nc_ rfl | decide | omega)).trans ((fl_u_ne (by first | exact nc_ rfl | decide | omega))))))) (fun j => (show F9_ 354 j = F1 354 j from (by rw [q10_]; exact (fl_u_ne (by first | exact nc_ rfl | decide | omega)).trans ((fl_u_ne (by first | exact nc_ rfl | decide | omega)).trans ((fl_u_ne (by first | exact nc_ rfl | decide | omega))))))) (fun j => (show F9_ 368 j = F1 368 j from (by rw [q10_]; exact (fl_u_ne (by first | exact nc_ rfl | decide | omega)).trans ((fl_u_ne (by first | exact nc_ rfl | decide | omega)).trans ((fl_u_ne (by first | exact nc_ rfl | decide | omega))))))))⟩
        refine fl_goto hm_165 rfl ?_
        refine ga_inc (a := x) (c := x + 1) (lv2 := [(3, .int (Int32.ofInt (x + 1))), (5, .int (Int32.ofInt k)), (4, .int (Int32.ofInt gd)), (2, .int (Int32.ofInt (F 354 a.toNat))), (0, .ref 344), (1, .int (Int32.ofInt a))]) hm_165 rfl rfl (Nat.le_of_ble_eq_true rfl) rfl rfl ?_
        refine fl_goto hm_165 rfl ?_
        exact fl_R_sub (lv' := [(3, .int (Int32.ofInt (x + 1))), (2, .int (Int32.ofInt (F 354 a.toNat))), (0, .ref 344), (1, .int (Int32.ofInt a))]) rfl rfl (ih4_ _ (by omega) (x + 1) F9_ rfl g11_ (by rw [q10_]; exact fs_u (fs_u (fs_u (hf_F1) rfl) rfl) rfl) (⟨by omega, by omega⟩) (sob_cg hs1 (show F9_ 344 39 = F1 344 39 from (by rw [q10_]; exact (fl_u_ne (by first | exact nc_ rfl | decide | omega)).trans ((fl_u_ne (by first | exact nc_ rfl | decide | omega)).trans ((fl_u_ne (by first | exact nc_ rfl | decide | omega)))))) (fun j => (show F9_ 357 j = F1 357 j from (by rw [q10_]; exact (fl_u_ne (by first | exact nc_ rfl | decide | omega)).trans ((fl_u_ne (by first | exact nc_ rfl | decide | omega)).trans ((fl_u_ne (by first | exact nc_ rfl | decide | omega))))))) (fun j => (show F9_ 367 j = F1 367 j from (by rw [q10_]; exact (fl_u_ne (by first | exact nc_ rfl | decide | omega)).trans ((fl_u_ne (by first | exact nc_ rfl | decide | omega)).trans ((fl_u_ne (by first | exact nc_ rfl | decide | omega))))))) (fun j => (show F9_ 354 j = F1 354 j from (by rw [q10_]; exact (fl_u_ne (by first | exact nc_ rfl | decide | omega)).trans ((fl_u_ne (by first | exact nc_ rfl | decide | omega)).trans ((fl_u_ne (by first | exact nc_ rfl | decide | omega))))))) (fun j => (show F9_ 368 j = F1 368 j from (by rw [q10_]; exact (fl_u_ne (by first | exact nc_ rfl | decide | omega)).trans ((fl_u_ne (by first | exact nc_ rfl | decide | omega)).trans ((fl_u_ne (by first | exact nc_ rfl | decide | omega)))))))))
      refine ga_iload (z := gd) hm_165 rfl rfl ?_
      refine fl_if_eq (a := gd) hm_165 rfl ⟨by omega, by omega⟩ (fun h104_ => ?_) (fun h105_ => ?_)
      ·
        refine fl_iconst hm_165 rfl ?_
        refine ga_istore (lv2 := [(4, .int (Int32.ofInt 0)), (5, .int (Int32.ofInt k)), (3, .int (Int32.ofInt x)), (2, .int (Int32.ofInt (F 354 a.toNat))), (0, .ref 344), (1, .int (Int32.ofInt a))]) hm_165 rfl (Nat.le_of_ble_eq_true rfl) rfl ?_
        refine ga_inc (a := k) (c := k + 1) (lv2 := [(5, .int (Int32.ofInt (k + 1))), (4, .int (Int32.ofInt 0)), (3, .int (Int32.ofInt x)), (2, .int (Int32.ofInt (F 354 a.toNat))), (0, .ref 344), (1, .int (Int32.ofInt a))]) hm_165 rfl rfl (Nat.le_of_ble_eq_true rfl) rfl rfl ?_
        refine fl_goto hm_165 rfl ?_
        exact ih15_ _ (by omega) (0) (k + 1) rfl (⟨by omega, by omega⟩) (⟨by omega, by omega⟩)
      refine ga_iload (z := k) hm_165 rfl rfl ?_
      refine ga_iload_n (z := F 354 a.toNat) hm_165 rfl rfl ?_
      refine fl_icmp_ge (a := k) (b := F 354 a.toNat) hm_165 rfl ⟨by omega, by omega⟩ ⟨by omega, by omega⟩ (fun h106_ => ?_) (fun h107_ => ?_)
      ·
        refine ga_aload_n (v := .ref 344) hm_165 rfl rfl rfl ?_
        refine ga_getr (b := 384) hm_165 rfl sc_344 rfl ?_
        refine ga_iload (z := k) hm_165 rfl rfl ?_
        have b108_ : 0 ≤ F9_ 384 k.toNat ∧ F9_ 384 k.toNat ≤ 5 := gi_g g11_ rfl
        refine ga_iald (z := k) (w := F9_ 384 k.toNat) hm_165 rfl sc_384 (by omega) (by omega) (by omega) (rfl) ?_
        refine fx_if_ne (a := F9_ 384 k.toNat) hm_165 rfl ⟨by omega, by omega⟩ (fun h109_ => ?_) (fun h110_ => ?_)
        ·
          refine fl_iconst hm_165 rfl ?_
          refine ga_istore (lv2 := [(4, .int (Int32.ofInt 0)), (5, .int (Int32.ofInt k)), (3, .int (Int32.ofInt x)), (2, .int (Int32.ofInt (F 354 a.toNat))), (0, .ref 344), (1, .int (Int32.ofInt a))]) hm_165 rfl (Nat.le_of_ble_eq_true rfl) rfl ?_
          refine ga_inc (a := k) (c := k + 1) (lv2 := [(5, .int (Int32.ofInt (k + 1))), (4, .int (Int32.ofInt 0)), (3, .int (Int32.ofInt x)), (2, .int (Int32.ofInt (F 354 a.toNat))), (0, .ref 344), (1, .int (Int32.ofInt a))]) hm_165 rfl rfl (Nat.le_of_ble_eq_true rfl) rfl rfl ?_
          refine fl_goto hm_165 rfl ?_
          exact ih15_ _ (by omega) (0) (k + 1) rfl (⟨by omega, by omega⟩) (⟨by omega, by omega⟩)
        refine fl_iconst hm_165 rfl ?_
        refine fl_goto hm_165 rfl ?_
        refine ga_istore (lv2 := [(4, .int (Int32.ofInt 1)), (5, .int (Int32.ofInt k)), (3, .int (Int32.ofInt x)), (2, .int (Int32.ofInt (F 354 a.toNat))), (0, .ref 344), (1, .int (Int32.ofInt a))]) hm_165 rfl (Nat.le_of_ble_eq_true rfl) rfl ?_
        refine ga_inc (a := k) (c := k + 1) (lv2 := [(5, .int (Int32.ofInt (k + 1))), (4, .int (Int32.ofInt 1)), (3, .int (Int32.ofInt x)), (2, .int (Int32.ofInt (F 354 a.toNat))), (0, .ref 344), (1, .int (Int32.ofInt a))]) hm_165 rfl rfl (Nat.le_of_ble_eq_true rfl) rfl rfl ?_
        refine fl_goto hm_165 rfl ?_
        exact ih15_ _ (by omega) (1) (k + 1) rfl (⟨by omega, by omega⟩) (⟨by omega, by omega⟩)
      refine ga_aload_n (v := .ref 344) hm_165 rfl rfl rfl ?_
      refine ga_getr (b := 384) hm_165 rfl sc_344 rfl ?_
      refine ga_iload (z := k) hm_165 rfl rfl ?_
      have b111_ : 0 ≤ F9_ 384 k.toNat ∧ F9_ 384 k.toNat ≤ 5 := gi_g g11_ rfl
      refine ga_iald (z := k) (w := F9_ 384 k.toNat) hm_165 rfl sc_384 (by omega) (by omega) (by omega) (rfl) ?_
      refine ga_aload_n (v := .ref 344) hm_165 rfl rfl rfl ?_
      have e112_ : F1 344 33 = F 344 33 := (hf_F1 344 33 rfl).trans (rfl)
      have e113_ : F9_ 344 33 = F 344 33 := by rw [q10_]; exact (fl_u_ne (by first | exact nc_ rfl | decide | omega)).trans ((fl_u_ne (by first | exact nc_ rfl | decide | omega)).trans ((fl_u_ne (by first | exact nc_ rfl | decide | omega)).trans (e112_)))
      have b114_ : 0 ≤ F 344 33 ∧ F 344 33 ≤ 6 := gi_g hgi rfl
      refine ga_geti (z := F 344 33) hm_165 rfl sc_344 rfl (e113_) ?_
      refine fl_icmp_ge (a := F9_ 384 k.toNat) (b := F 344 33) hm_165 rfl ⟨by omega, by omega⟩ ⟨by omega, by omega⟩ (fun h115_ => ?_) (fun h116_ => ?_)
      ·
        refine fl_iconst hm_165 rfl ?_
        refine ga_istore (lv2 := [(4, .int (Int32.ofInt 0)), (5, .int (Int32.ofInt k)), (3, .int (Int32.ofInt x)), (2, .int (Int32.ofInt (F 354 a.toNat))), (0, .ref 344), (1, .int (Int32.ofInt a))]) hm_165 rfl (Nat.le_of_ble_eq_true rfl) rfl ?_
        refine ga_inc (a := k) (c := k + 1) (lv2 := [(5, .int (Int32.ofInt (k + 1))), (4, .int (Int32.ofInt 0)), (3, .int (Int32.ofInt x)), (2, .int (Int32.ofInt (F 354 a.toNat))), (0, .ref 344), (1, .int (Int32.ofInt a))]) hm_165 rfl rfl (Nat.le_of_ble_eq_true rfl) rfl rfl ?_
        refine fl_goto hm_165 rfl ?_
        exact ih15_ _ (by omega) (0) (k + 1) rfl (⟨by omega, by omega⟩) (⟨by omega, by omega⟩)
      refine ga_aload_n (v := .ref 344) hm_165 rfl rfl rfl ?_
      refine ga_aload_n (v := .ref 344) hm_165 rfl rfl rfl ?_
      refine ga_getr (b := 384) hm_165 rfl sc_344 rfl ?_
      refine ga_iload (z := k) hm_165 rfl rfl ?_
      refine ga_iald (z := k) (w := F9_ 384 k.toNat) hm_165 rfl sc_384 (by omega) (by omega) (by omega) (rfl) ?_
      refine ga_aload_n (v := .ref 344) hm_165 rfl rfl rfl ?_
      refine ga_getr (b := 355) hm_165 rfl sc_344 rfl ?_
      refine fl_iconst hm_165 rfl ?_
      refine ga_iload_n (z := a) hm_165 rfl rfl ?_
      refine ga_imul (a := 3) (b := a) (c := 3 * a) hm_165 rfl (by omega) ?_
      refine ga_iload (z := k) hm_165 rfl rfl ?_
      refine ga_iadd (a := 3 * a) (b := k) (c := 3 * a + k) hm_165 rfl (by omega) ?_
      have e117_ : F1 355 (3 * a + k).toNat = F 355 (3 * a + k).toNat := (hf_F1 355 (3 * a + k).toNat (by first | exact fs_c rfl | exact (fs_n (by omega) (fs_n (by omega) (fs_n (by omega) rfl))))).trans (rfl)
      have e118_ : F9_ 355 (3 * a + k).toNat = F 355 (3 * a + k).toNat := by rw [q10_]; exact (fl_u_ne (by first | exact nc_ rfl | decide | omega)).trans ((fl_u_ne (by first | exact nc_ rfl | decide | omega)).trans ((fl_u_ne (by first | exact nc_ rfl | decide | omega)).trans (e117_)))
      have b119_ : 0 ≤ F 355 (3 * a + k).toNat ∧ F 355 (3 * a + k).toNat ≤ 4 := gi_g hgi rfl
      refine ga_iald (z := 3 * a + k) (w := F 355 (3 * a + k).toNat) hm_165 rfl sc_355 (by omega) (by omega) (by omega) (e118_) ?_
      refine gIi (nY := 3) (F := 0) (L := 0) (As := [.int (Int32.ofInt (F9_ 384 k.toNat)), .int (Int32.ofInt (F 355 (3 * a + k).toNat))]) (b := 344) (rest := []) hm_165 rfl hm_164 rfl rfl (fl_ob sc_344) rfl rfl rfl rfl rfl (by omega) (by omega) ?_
      intro f120_ l121_ h122_ h123_
      show fl_R xi_ms 164 f120_ l121_ 0 [(0, .ref 344), (1, .int (Int32.ofInt (F9_ 384 k.toNat))), (2, .int (Int32.ofInt (F 355 (3 * a + k).toNat)))] [] _ _
      refine ga_iload_n (z := F 355 (3 * a + k).toNat) hm_164 rfl rfl ?_
      refine fl_if_eq (a := F 355 (3 * a + k).toNat) hm_164 rfl ⟨by omega, by omega⟩ (fun h124_ => ?_) (fun h125_ => ?_)
      ·
        refine fl_iconst hm_164 rfl ?_
        refine fl_goto hm_164 rfl ?_
        refine gr_i hm_164 rfl rfl (ga_nb (by omega)) ?_
        clear h122_ h123_ f120_ l121_
        refine fl_if_eq hm_165 rfl ⟨by omega, by omega⟩ (fun h => absurd h (by omega)) (fun _ => ?_)
        refine fl_goto hm_165 rfl ?_
        refine fl_iconst hm_165 rfl ?_
        refine fl_goto hm_165 rfl ?_
        refine ga_istore (lv2 := [(4, .int (Int32.ofInt 1)), (5, .int (Int32.ofInt k)), (3, .int (Int32.ofInt x)), (2, .int (Int32.ofInt (F 354 a.toNat))), (0, .ref 344), (1, .int (Int32.ofInt a))]) hm_165 rfl (Nat.le_of_ble_eq_true rfl) rfl ?_
        refine ga_inc (a := k) (c := k + 1) (lv2 := [(5, .int (Int32.ofInt (k + 1))), (4, .int (Int32.ofInt 1)), (3, .int (Int32.ofInt x)), (2, .int (Int32.ofInt (F 354 a.toNat))), (0, .ref 344), (1, .int (Int32.ofInt a))]) hm_165 rfl rfl (Nat.le_of_ble_eq_true rfl) rfl rfl ?_
        refine fl_goto hm_165 rfl ?_
        exact ih15_ _ (by omega) (1) (k + 1) rfl (⟨by omega, by omega⟩) (⟨by omega, by omega⟩)
      refine ga_aload_n (v := .ref 344) hm_164 rfl rfl rfl ?_
      refine ga_getr (b := 365) hm_164 rfl sc_344 rfl ?_
      refine ga_iload_n (z := F9_ 384 k.toNat) hm_164 rfl rfl ?_
      have e126_ : F1 365 (F9_ 384 k.toNat).toNat = F 365 (F9_ 384 k.toNat).toNat := (hf_F1 365 (F9_ 384 k.toNat).toNat (by first | exact fs_c rfl | exact (fs_n (by omega) (fs_n (by omega) (fs_n (by omega) rfl))))).trans (rfl)
      have e127_ : F9_ 365 (F9_ 384 k.toNat).toNat = F 365 (F9_ 384 k.toNat).toNat := (congrFun (congrFun q10_ 365) ((F9_ 384 k.toNat).toNat)).trans ((fl_u_ne (by first | exact nc_ rfl | decide | omega)).trans ((fl_u_ne (by first | exact nc_ rfl | decide | omega)).trans ((fl_u_ne (by first | exact nc_ rfl | decide | omega)).trans (e126_))))
      have b128_ : 0 ≤ F 365 (F9_ 384 k.toNat).toNat ∧ F 365 (F9_ 384 k.toNat).toNat ≤ 4 := gi_g hgi rfl
      refine ga_iald (z := F9_ 384 k.toNat) (w := F 365 (F9_ 384 k.toNat).toNat) hm_164 rfl sc_365 (by omega) (by omega) (by omega) (e127_) ?_
      refine ga_iload_n (z := F 355 (3 * a + k).toNat) hm_164 rfl rfl ?_
      refine fx_icmp_ne (a := F 365 (F9_ 384 k.toNat).toNat) (b := F 355 (3 * a + k).toNat) hm_164 rfl ⟨by omega, by omega⟩ ⟨by omega, by omega⟩ (fun h129_ => ?_) (fun h130_ => ?_)
      ·
        refine fl_iconst hm_164 rfl ?_
        refine gr_i hm_164 rfl rfl (ga_nb (by omega)) ?_
        clear h122_ h123_ f120_ l121_
        refine fl_if_eq hm_165 rfl ⟨by omega, by omega⟩ (fun _ => ?_) (fun h => absurd (by omega) h)
        refine fl_iconst hm_165 rfl ?_
        refine ga_istore (lv2 := [(4, .int (Int32.ofInt 0)), (5, .int (Int32.ofInt k)), (3, .int (Int32.ofInt x)), (2, .int (Int32.ofInt (F 354 a.toNat))), (0, .ref 344), (1, .int (Int32.ofInt a))]) hm_165 rfl (Nat.le_of_ble_eq_true rfl) rfl ?_
        refine ga_inc (a := k) (c := k + 1) (lv2 := [(5, .int (Int32.ofInt (k + 1))), (4, .int (Int32.ofInt 0)), (3, .int (Int32.ofInt x)), (2, .int (Int32.ofInt (F 354 a.toNat))), (0, .ref 344), (1, .int (Int32.ofInt a))]) hm_165 rfl rfl (Nat.le_of_ble_eq_true rfl) rfl rfl ?_
        refine fl_goto hm_165 rfl ?_
        exact ih15_ _ (by omega) (0) (k + 1) rfl (⟨by omega, by omega⟩) (⟨by omega, by omega⟩)
      refine fl_iconst hm_164 rfl ?_
      refine fl_goto hm_164 rfl ?_
      refine gr_i hm_164 rfl rfl (ga_nb (by omega)) ?_
      clear h122_ h123_ f120_ l121_
      refine fl_if_eq hm_165 rfl ⟨by omega, by omega⟩ (fun h => absurd h (by omega)) (fun _ => ?_)
      refine fl_goto hm_165 rfl ?_
      refine fl_iconst hm_165 rfl ?_
      refine fl_goto hm_165 rfl ?_
      refine ga_istore (lv2 := [(4, .int (Int32.ofInt 1)), (5, .int (Int32.ofInt k)), (3, .int (Int32.ofInt x)), (2, .int (Int32.ofInt (F 354 a.toNat))), (0, .ref 344), (1, .int (Int32.ofInt a))]) hm_165 rfl (Nat.le_of_ble_eq_true rfl) rfl ?_
      refine ga_inc (a := k) (c := k + 1) (lv2 := [(5, .int (Int32.ofInt (k + 1))), (4, .int (Int32.ofInt 1)), (3, .int (Int32.ofInt x)), (2, .int (Int32.ofInt (F 354 a.toNat))), (0, .ref 344), (1, .int (Int32.ofInt a))]) hm_165 rfl rfl (Nat.le_of_ble_eq_true rfl) rfl rfl ?_
      refine fl_goto hm_165 rfl ?_
      exact ih15_ _ (by omega) (1) (k + 1) rfl (⟨by omega, by omega⟩) (⟨by omega, by omega⟩)
    exact L14_ _ (1) (0) rfl (⟨by omega, by omega⟩) (⟨by omega, by omega⟩)
  exact L3_ _ (0) F rfl hgi fs_refl (⟨by omega, by omega⟩) (hso)
/- CheapPlannerModel.layFacts -/
abbrev pq_171 (G : Nat → Nat → Option Nat) (F : fl_N) (X : xi_H)  : Outcome → xi_H → Prop := gqv (fun A => ∃ F' : fl_N, fl_H sh_T G F' ++ X = A ∧ gi F' ∧ fs [(344, 344, 36, 36), (366, 366, 0, 100000)] F F') gqn
theorem mc_171 {G : Nat → Nat → Option Nat} (hG : gg G) (F : fl_N) (X : xi_H) (hgi : gi F)  : fl_M xi_ms 171 1 22 [.ref 344] (fl_H sh_T G F ++ X) (pq_171 G F X) := by
  intro fr lo hfr hlo
  show fl_R xi_ms 171 fr lo 0 [(0, .ref 344)] [] _ _
  refine ga_aload_n (v := .ref 344) hm_171 rfl rfl rfl ?_
  refine fl_iconst hm_171 rfl ?_
  refine ga_puti (z := 0) hm_171 rfl sc_344 rfl rfl ?_
  refine fl_iconst hm_171 rfl ?_
  refine ga_istore_n (lv2 := [(1, .int (Int32.ofInt 0)), (0, .ref 344)]) hm_171 rfl (Nat.le_of_ble_eq_true rfl) rfl ?_
  obtain ⟨F1_, q2_⟩ : ∃ Fq_, Fq_ = (fl_u F 344 36 0) := ⟨_, rfl⟩
  rw [← q2_]
  have g3_ : gi F1_ := by rw [q2_]; exact gi_u (hgi) rfl (by omega) (by omega)
  have g4_ : fs [(344, 344, 36, 36), (366, 366, 0, 100000)] F F1_ := by rw [q2_]; exact fs_u (fs_refl) rfl
  have L6_ : ∀ (n5_ : Nat) (p : Int) (F1 : fl_N), (6 - p : Int).toNat = n5_ → (gi F1) → (fs [(344, 344, 36, 36), (366, 366, 0, 100000)] F1_ F1) → (0 ≤ p ∧ p ≤ 6) → (F1 344 36 ≤ 36 * p) → fl_R xi_ms 171 fr lo 7 [(1, .int (Int32.ofInt p)), (0, .ref 344)] [] (fl_H sh_T G F1 ++ X) (pq_171 G F X) := by
    intro n5_
    induction n5_ using Nat.strongRecOn with
    | ind n5_ ih7_ =>
    intro p F1 hn8_ hg_F1 hf_F1 hp hf
    have g9_ : fs [(344, 344, 36, 36), (366, 366, 0, 100000)] F F1 := fs_tr g4_ hf_F1 rfl
    refine ga_iload_n (z := p) hm_171 rfl rfl ?_
    refine ga_aload_n (v := .ref 344) hm_171 rfl rfl rfl ?_
    have e10_ : F1_ 344 17 = F 344 17 := by rw [q2_]; exact fl_u_ne (by first | exact nc_ rfl | decide | omega)
    have e11_ : F1 344 17 = F 344 17 := (hf_F1 344 17 rfl).trans (e10_)
    have b12_ : 0 ≤ F 344 17 ∧ F 344 17 ≤ 6 := gi_g hgi rfl
    refine ga_geti (z := F 344 17) hm_171 rfl sc_344 rfl (e11_) ?_
    refine fl_icmp_ge (a := p) (b := F 344 17) hm_171 rfl ⟨by omega, by omega⟩ ⟨by omega, by omega⟩ (fun h13_ => ?_) (fun h14_ => ?_)
    ·
      refine gr_v hm_171 rfl rfl ?_
      exact ⟨F1, rfl, hg_F1, g9_⟩
    refine ga_aload_n (v := .ref 344) hm_171 rfl rfl rfl ?_
    refine ga_getr (b := 351) hm_171 rfl sc_344 rfl ?_
    refine ga_iload_n (z := p) hm_171 rfl rfl ?_
    have e15_ : F1_ 351 p.toNat = F 351 p.toNat := by rw [q2_]; exact fl_u_ne (by first | exact nc_ rfl | decide | omega)
    have e16_ : F1 351 p.toNat = F 351 p.toNat := (hf_F1 351 p.toNat (by first | exact fs_c rfl | exact (fs_n (by omega) (fs_n (by omega) rfl)))).trans (e15_)
    have b17_ : 0 ≤ F 351 p.toNat ∧ F 351 p.toNat ≤ 2 := gi_g hgi rfl
    refine ga_iald (z := p) (w := F 351 p.toNat) hm_171 rfl sc_351 (by omega) (by omega) (by omega) (e16_) ?_
    refine ga_istore_n (lv2 := [(2, .int (Int32.ofInt (F 351 p.toNat))), (1, .int (Int32.ofInt p)), (0, .ref 344)]) hm_171 rfl (Nat.le_of_ble_eq_true rfl) rfl ?_
    refine fl_iconst hm_171 rfl ?_
    refine ga_istore_n (lv2 := [(3, .int (Int32.ofInt 0)), (2, .int (Int32.ofInt (F 351 p.toNat))), (1, .int (Int32.ofInt p)), (0, .ref 344)]) hm_171 rfl (Nat.le_of_ble_eq_true rfl) rfl ?_
    have L19_ : ∀ (n18_ : Nat) (x : Int) (F2 : fl_N), (6 - x : Int).toNat = n18_ → (gi F2) → (fs [(344, 344, 36, 36), (366, 366, 0, 100000)] F1 F2) → (0 ≤ x ∧ x ≤ 6) → (F2 344 36 ≤ 36 * p + 6 * x) → fl_R xi_ms 171 fr lo 24 [(3, .int (Int32.ofInt x)), (2, .int (Int32.ofInt (F 351 p.toNat))), (1, .int (Int32.ofInt p)), (0, .ref 344)] [] (fl_H sh_T G F2 ++ X) (pq_171 G F X) := by
      intro n18_
      induction n18_ using Nat.strongRecOn with
      | ind n18_ ih20_ =>
      intro x F2 hn21_ hg_F2 hf_F2 hx hf2
      have g22_ : fs [(344, 344, 36, 36), (366, 366, 0, 100000)] F F2 := fs_tr g9_ hf_F2 rfl
      refine ga_iload_n (z := x) hm_171 rfl rfl ?_
      refine ga_iload_n (z := F 351 p.toNat) hm_171 rfl rfl ?_
      refine fl_if_le (a := F 351 p.toNat) hm_171 rfl ⟨by omega, by omega⟩ (fun h23_ => ?_) (fun h24_ => ?_)
      ·
        refine fl_iconst hm_171 rfl ?_
        refine fl_icmp_ge (a := x) (b := 1) hm_171 rfl ⟨by omega, by omega⟩ ⟨by omega, by omega⟩ (fun h25_ => ?_) (fun h26_ => ?_)
        ·
          refine ga_inc (a := p) (c := p + 1) (lv2 := [(1, .int (Int32.ofInt (p + 1))), (3, .int (Int32.ofInt x)), (2, .int (Int32.ofInt (F 351 p.toNat))), (0, .ref 344)]) hm_171 rfl rfl (Nat.le_of_ble_eq_true rfl) rfl rfl ?_
          refine fl_goto hm_171 rfl ?_
          have b27_ : 0 ≤ F2 344 36 ∧ F2 344 36 ≤ 216 := gi_g hg_F2 rfl
          have b28_ : 0 ≤ F1 344 36 ∧ F1 344 36 ≤ 216 := gi_g hg_F1 rfl
          exact fl_R_sub (lv' := [(1, .int (Int32.ofInt (p + 1))), (0, .ref 344)]) rfl rfl (ih7_ _ (by omega) (p + 1) F2 rfl hg_F2 (fs_tr hf_F1 hf_F2 rfl) (⟨by omega, by omega⟩) (by omega))
        refine fl_iconst hm_171 rfl ?_
        refine ga_istore (lv2 := [(4, .int (Int32.ofInt 0)), (3, .int (Int32.ofInt x)), (2, .int (Int32.ofInt (F 351 p.toNat))), (1, .int (Int32.ofInt p)), (0, .ref 344)]) hm_171 rfl (Nat.le_of_ble_eq_true rfl) rfl ?_
        have L30_ : ∀ (n29_ : Nat) (y : Int) (F3 : fl_N), (6 - y : Int).toNat = n29_ → (gi F3) → (fs [(344, 344, 36, 36), (366, 366, 0, 100000)] F2 F3) → (0 ≤ y ∧ y ≤ 6) → (F3 344 36 ≤ 36 * p + 6 * x + y) → fl_R xi_ms 171 fr lo 43 [(4, .int (Int32.ofInt y)), (3, .int (Int32.ofInt x)), (2, .int (Int32.ofInt (F 351 p.toNat))), (1, .int (Int32.ofInt p)), (0, .ref 344)] [] (fl_H sh_T G F3 ++ X) (pq_171 G F X) := by
          intro n29_
          induction n29_ using Nat.strongRecOn with
          | ind n29_ ih31_ =>
          intro y F3 hn32_ hg_F3 hf_F3 hy hf3
          have g33_ : fs [(344, 344, 36, 36), (366, 366, 0, 100000)] F F3 := fs_tr g22_ hf_F3 rfl
          refine ga_iload (z := y) hm_171 rfl rfl ?_
          refine ga_iload_n (z := F 351 p.toNat) hm_171 rfl rfl ?_
          refine fl_iconst hm_171 rfl ?_
          refine fl_icmp_le (a := F 351 p.toNat) (b := 1) hm_171 rfl ⟨by omega, by omega⟩ ⟨by omega, by omega⟩ (fun h34_ => ?_) (fun h35_ => ?_)
          ·
            refine fl_iconst hm_171 rfl ?_
            refine fl_icmp_ge (a := y) (b := 1) hm_171 rfl ⟨by omega, by omega⟩ ⟨by omega, by omega⟩ (fun h36_ => ?_) (fun h37_ => ?_)
            ·
              refine ga_inc (a := x) (c := x + 1) (lv2 := [(3, .int (Int32.ofInt (x + 1))), (4, .int (Int32.ofInt y)), (2, .int (Int32.ofInt (F 351 p.toNat))), (1, .int (Int32.ofInt p)), (0, .ref 344)]) hm_171 rfl rfl (Nat.le_of_ble_eq_true rfl) rfl rfl ?_
              refine fl_goto hm_171 rfl ?_
              have b38_ : 0 ≤ F3 344 36 ∧ F3 344 36 ≤ 216 := gi_g hg_F3 rfl
              have b39_ : 0 ≤ F2 344 36 ∧ F2 344 36 ≤ 216 := gi_g hg_F2 rfl
              exact fl_R_sub (lv' := [(3, .int (Int32.ofInt (x + 1))), (2, .int (Int32.ofInt (F 351 p.toNat))), (1, .int (Int32.ofInt p)), (0, .ref 344)]) rfl rfl (ih20_ _ (by omega) (x + 1) F3 rfl hg_F3 (fs_tr hf_F2 hf_F3 rfl) (⟨by omega, by omega⟩) (by omega))
            refine ga_iload_n (z := F 351 p.toNat) hm_171 rfl rfl ?_
            refine fl_iconst hm_171 rfl ?_
            refine fl_icmp_lt (a := F 351 p.toNat) (b := 1) hm_171 rfl ⟨by omega, by omega⟩ ⟨by omega, by omega⟩ (fun h40_ => ?_) (fun h41_ => ?_)
            ·
              refine ga_iload_n (z := F 351 p.toNat) hm_171 rfl rfl ?_
              refine fl_iconst hm_171 rfl ?_
              refine fl_icmp_lt (a := F 351 p.toNat) (b := 2) hm_171 rfl ⟨by omega, by omega⟩ ⟨by omega, by omega⟩ (fun h42_ => ?_) (fun h43_ => ?_)
              ·
                refine fl_iconst hm_171 rfl ?_
                refine fl_goto hm_171 rfl ?_
                refine ga_istore (lv2 := [(5, .int (Int32.ofInt 1)), (4, .int (Int32.ofInt y)), (3, .int (Int32.ofInt x)), (2, .int (Int32.ofInt (F 351 p.toNat))), (1, .int (Int32.ofInt p)), (0, .ref 344)]) hm_171 rfl (Nat.le_of_ble_eq_true rfl) rfl ?_
                refine ga_aload_n (v := .ref 344) hm_171 rfl rfl rfl ?_
                refine ga_getr (b := 366) hm_171 rfl sc_344 rfl ?_
                refine fl_bipush hm_171 rfl rfl ?_
                refine ga_iload_n (z := p) hm_171 rfl rfl ?_
                refine ga_imul (a := 36) (b := p) (c := 36 * p) hm_171 rfl (by omega) ?_
                refine fl_bipush hm_171 rfl rfl ?_
                refine ga_iload_n (z := x) hm_171 rfl rfl ?_
                refine ga_imul (a := 6) (b := x) (c := 6 * x) hm_171 rfl (by omega) ?_
                refine ga_iadd (a := 36 * p) (b := 6 * x) (c := 36 * p + 6 * x) hm_171 rfl (by omega) ?_
                refine ga_iload (z := y) hm_171 rfl rfl ?_
                refine ga_iadd (a := 36 * p + 6 * x) (b := y) (c := 36 * p + 6 * x + y) hm_171 rfl (by omega) ?_
                refine ga_iload (z := 1) hm_171 rfl rfl ?_
                refine fl_if_eq hm_171 rfl ⟨by omega, by omega⟩ (fun h => absurd h (by omega)) (fun _ => ?_)
                refine ga_aload_n (v := .ref 344) hm_171 rfl rfl rfl ?_
                have b44_ : 0 ≤ F3 344 36 ∧ F3 344 36 ≤ 216 := gi_g hg_F3 rfl
                refine ga_geti (z := F3 344 36) hm_171 rfl sc_344 rfl (rfl) ?_
                refine fl_goto hm_171 rfl ?_
                refine fl_iast (z := 36 * p + 6 * x + y) (v := F3 344 36) hm_171 rfl sc_366 (by omega) (by omega) (by omega) ?_
                refine ga_aload_n (v := .ref 344) hm_171 rfl rfl rfl ?_
                refine ga_dup hm_171 rfl rfl ?_
                refine ga_geti (z := F3 344 36) hm_171 rfl sc_344 rfl (fl_u_ne (by first | exact nc_ rfl | decide | omega)) ?_
                refine ga_iload (z := 1) hm_171 rfl rfl ?_
                refine fl_if_eq hm_171 rfl ⟨by omega, by omega⟩ (fun h => absurd h (by omega)) (fun _ => ?_)
                refine fl_iconst hm_171 rfl ?_
                refine fl_goto hm_171 rfl ?_
                refine ga_iadd (a := F3 344 36) (b := 1) (c := F3 344 36 + 1) hm_171 rfl (by omega) ?_
                refine ga_puti (z := F3 344 36 + 1) hm_171 rfl sc_344 rfl rfl ?_
                refine ga_inc (a := y) (c := y + 1) (lv2 := [(4, .int (Int32.ofInt (y + 1))), (5, .int (Int32.ofInt 1)), (3, .int (Int32.ofInt x)), (2, .int (Int32.ofInt (F 351 p.toNat))), (1, .int (Int32.ofInt p)), (0, .ref 344)]) hm_171 rfl rfl (Nat.le_of_ble_eq_true rfl) rfl rfl ?_
                refine fl_goto hm_171 rfl ?_
                obtain ⟨F45_, q46_⟩ : ∃ Fq_, Fq_ = (fl_u (fl_u F3 366 (36 * p + 6 * x + y).toNat (F3 344 36)) 344 36 (F3 344 36 + 1)) := ⟨_, rfl⟩
                rw [← q46_]
                have g47_ : gi F45_ := by rw [q46_]; exact gi_u (gi_u (hg_F3) rfl (by omega) (by omega)) rfl (by omega) (by omega)
                have g48_ : fs [(344, 344, 36, 36), (366, 366, 0, 100000)] F F45_ := by rw [q46_]; exact fs_u (fs_u (g33_) (fs_z (fs_y (by omega)))) rfl
                have e49_ : F45_ 344 36 = F3 344 36 + 1 := by rw [q46_]; exact fl_u_eq
                exact fl_R_sub (lv' := [(4, .int (Int32.ofInt (y + 1))), (3, .int (Int32.ofInt x)), (2, .int (Int32.ofInt (F 351 p.toNat))), (1, .int (Int32.ofInt p)), (0, .ref 344)]) rfl rfl (ih31_ _ (by omega) (y + 1) F45_ rfl g47_ (by rw [q46_]; exact fs_u (fs_u (hf_F3) (fs_z (fs_y (by omega)))) rfl) (⟨by omega, by omega⟩) (by omega))
              exfalso; omega
            exfalso; omega
          exfalso; omega
        have b50_ : 0 ≤ F2 344 36 ∧ F2 344 36 ≤ 216 := gi_g hg_F2 rfl
        exact L30_ _ (0) F2 rfl hg_F2 fs_refl (⟨by omega, by omega⟩) (by omega)
      refine ga_aload_n (v := .ref 344) hm_171 rfl rfl rfl ?_
      have e51_ : F1_ 344 33 = F 344 33 := by rw [q2_]; exact fl_u_ne (by first | exact nc_ rfl | decide | omega)
      have e52_ : F1 344 33 = F 344 33 := (hf_F1 344 33 rfl).trans (e51_)
      have e53_ : F2 344 33 = F 344 33 := (hf_F2 344 33 rfl).trans (e52_)
      have b54_ : 0 ≤ F 344 33 ∧ F 344 33 ≤ 6 := gi_g hgi rfl
      refine ga_geti (z := F 344 33) hm_171 rfl sc_344 rfl (e53_) ?_
      refine fl_goto hm_171 rfl ?_
      refine fl_icmp_ge (a := x) (b := F 344 33) hm_171 rfl ⟨by omega, by omega⟩ ⟨by omega, by omega⟩ (fun h55_ => ?_) (fun h56_ => ?_)
      ·
        refine ga_inc (a := p) (c := p + 1) (lv2 := [(1, .int (Int32.ofInt (p + 1))), (3, .int (Int32.ofInt x)), (2, .int (Int32.ofInt (F 351 p.toNat))), (0, .ref 344)]) hm_171 rfl rfl (Nat.le_of_ble_eq_true rfl) rfl rfl ?_
        refine fl_goto hm_171 rfl ?_
        have b57_ : 0 ≤ F2 344 36 ∧ F2 344 36 ≤ 216 := gi_g hg_F2 rfl
        have b58_ : 0 ≤ F1 344 36 ∧ F1 344 36 ≤ 216 := gi_g hg_F1 rfl
        exact fl_R_sub (lv' := [(1, .int (Int32.ofInt (p + 1))), (0, .ref 344)]) rfl rfl (ih7_ _ (by omega) (p + 1) F2 rfl hg_F2 (fs_tr hf_F1 hf_F2 rfl) (⟨by omega, by omega⟩) (by omega))
      refine fl_iconst hm_171 rfl ?_
      refine ga_istore (lv2 := [(4, .int (Int32.ofInt 0)), (3, .int (Int32.ofInt x)), (2, .int (Int32.ofInt (F 351 p.toNat))), (1, .int (Int32.ofInt p)), (0, .ref 344)]) hm_171 rfl (Nat.le_of_ble_eq_true rfl) rfl ?_
      have L60_ : ∀ (n59_ : Nat) (y : Int) (F3 : fl_N), (6 - y : Int).toNat = n59_ → (gi F3) → (fs [(344, 344, 36, 36), (366, 366, 0, 100000)] F2 F3) → (0 ≤ y ∧ y ≤ 6) → (F3 344 36 ≤ 36 * p + 6 * x + y) → fl_R xi_ms 171 fr lo 43 [(4, .int (Int32.ofInt y)), (3, .int (Int32.ofInt x)), (2, .int (Int32.ofInt (F 351 p.toNat))), (1, .int (Int32.ofInt p)), (0, .ref 344)] [] (fl_H sh_T G F3 ++ X) (pq_171 G F X) := by
        intro n59_
        induction n59_ using Nat.strongRecOn with
        | ind n59_ ih61_ =>
        intro y F3 hn62_ hg_F3 hf_F3 hy hf3
        have g63_ : fs [(344, 344, 36, 36), (366, 366, 0, 100000)] F F3 := fs_tr g22_ hf_F3 rfl
        refine ga_iload (z := y) hm_171 rfl rfl ?_
        refine ga_iload_n (z := F 351 p.toNat) hm_171 rfl rfl ?_
        refine fl_iconst hm_171 rfl ?_
        refine fl_icmp_le (a := F 351 p.toNat) (b := 1) hm_171 rfl ⟨by omega, by omega⟩ ⟨by omega, by omega⟩ (fun h64_ => ?_) (fun h65_ => ?_)
        ·
          refine fl_iconst hm_171 rfl ?_
          refine fl_icmp_ge (a := y) (b := 1) hm_171 rfl ⟨by omega, by omega⟩ ⟨by omega, by omega⟩ (fun h66_ => ?_) (fun h67_ => ?_)
          ·
            refine ga_inc (a := x) (c := x + 1) (lv2 := [(3, .int (Int32.ofInt (x + 1))), (4, .int (Int32.ofInt y)), (2, .int (Int32.ofInt (F 351 p.toNat))), (1, .int (Int32.ofInt p)), (0, .ref 344)]) hm_171 rfl rfl (Nat.le_of_ble_eq_true rfl) rfl rfl ?_
            refine fl_goto hm_171 rfl ?_
            have b68_ : 0 ≤ F3 344 36 ∧ F3 344 36 ≤ 216 := gi_g hg_F3 rfl
            have b69_ : 0 ≤ F2 344 36 ∧ F2 344 36 ≤ 216 := gi_g hg_F2 rfl
            exact fl_R_sub (lv' := [(3, .int (Int32.ofInt (x + 1))), (2, .int (Int32.ofInt (F 351 p.toNat))), (1, .int (Int32.ofInt p)), (0, .ref 344)]) rfl rfl (ih20_ _ (by omega) (x + 1) F3 rfl hg_F3 (fs_tr hf_F2 hf_F3 rfl) (⟨by omega, by omega⟩) (by omega))
          refine ga_iload_n (z := F 351 p.toNat) hm_171 rfl rfl ?_
          refine fl_iconst hm_171 rfl ?_
          refine fl_icmp_lt (a := F 351 p.toNat) (b := 1) hm_171 rfl ⟨by omega, by omega⟩ ⟨by omega, by omega⟩ (fun h70_ => ?_) (fun h71_ => ?_)
          · exfalso; omega
          refine ga_aload_n (v := .ref 344) hm_171 rfl rfl rfl ?_
          refine ga_iload_n (z := x) hm_171 rfl rfl ?_
          refine ga_aload_n (v := .ref 344) hm_171 rfl rfl rfl ?_
          refine ga_getr (b := 352) hm_171 rfl sc_344 rfl ?_
          refine fl_iconst hm_171 rfl ?_
          refine ga_iload_n (z := p) hm_171 rfl rfl ?_
          refine ga_imul (a := 2) (b := p) (c := 2 * p) hm_171 rfl (by omega) ?_
          have e72_ : F1_ 352 (2 * p).toNat = F 352 (2 * p).toNat := by rw [q2_]; exact fl_u_ne (by first | exact nc_ rfl | decide | omega)
          have e73_ : F1 352 (2 * p).toNat = F 352 (2 * p).toNat := (hf_F1 352 (2 * p).toNat (by first | exact fs_c rfl | exact (fs_n (by omega) (fs_n (by omega) rfl)))).trans (e72_)
          have e74_ : F2 352 (2 * p).toNat = F 352 (2 * p).toNat := (hf_F2 352 (2 * p).toNat (by first | exact fs_c rfl | exact (fs_n (by omega) (fs_n (by omega) rfl)))).trans (e73_)
          have e75_ : F3 352 (2 * p).toNat = F 352 (2 * p).toNat := (hf_F3 352 (2 * p).toNat (by first | exact fs_c rfl | exact (fs_n (by omega) (fs_n (by omega) rfl)))).trans (e74_)
          have b76_ : 0 ≤ F 352 (2 * p).toNat ∧ F 352 (2 * p).toNat ≤ 4 := gi_g hgi rfl
          refine ga_iald (z := 2 * p) (w := F 352 (2 * p).toNat) hm_171 rfl sc_352 (by omega) (by omega) (by omega) (e75_) ?_
          refine gIi (nY := 3) (F := 0) (L := 0) (As := [.int (Int32.ofInt x), .int (Int32.ofInt (F 352 (2 * p).toNat))]) (b := 344) (rest := []) hm_171 rfl hm_164 rfl rfl (fl_ob sc_344) rfl rfl rfl rfl rfl (by omega) (by omega) ?_
          intro f77_ l78_ h79_ h80_
          show fl_R xi_ms 164 f77_ l78_ 0 [(0, .ref 344), (1, .int (Int32.ofInt x)), (2, .int (Int32.ofInt (F 352 (2 * p).toNat)))] [] _ _
          refine ga_iload_n (z := F 352 (2 * p).toNat) hm_164 rfl rfl ?_
          refine fl_if_eq (a := F 352 (2 * p).toNat) hm_164 rfl ⟨by omega, by omega⟩ (fun h81_ => ?_) (fun h82_ => ?_)
          ·
            refine fl_iconst hm_164 rfl ?_
            refine fl_goto hm_164 rfl ?_
            refine gr_i hm_164 rfl rfl (ga_nb (by omega)) ?_
            clear h79_ h80_ f77_ l78_
            refine fl_if_eq hm_171 rfl ⟨by omega, by omega⟩ (fun h => absurd h (by omega)) (fun _ => ?_)
            refine ga_iload_n (z := F 351 p.toNat) hm_171 rfl rfl ?_
            refine fl_iconst hm_171 rfl ?_
            refine fl_icmp_lt (a := F 351 p.toNat) (b := 2) hm_171 rfl ⟨by omega, by omega⟩ ⟨by omega, by omega⟩ (fun h83_ => ?_) (fun h84_ => ?_)
            ·
              refine fl_iconst hm_171 rfl ?_
              refine fl_goto hm_171 rfl ?_
              refine ga_istore (lv2 := [(5, .int (Int32.ofInt 1)), (4, .int (Int32.ofInt y)), (3, .int (Int32.ofInt x)), (2, .int (Int32.ofInt (F 351 p.toNat))), (1, .int (Int32.ofInt p)), (0, .ref 344)]) hm_171 rfl (Nat.le_of_ble_eq_true rfl) rfl ?_
              refine ga_aload_n (v := .ref 344) hm_171 rfl rfl rfl ?_
              refine ga_getr (b := 366) hm_171 rfl sc_344 rfl ?_
              refine fl_bipush hm_171 rfl rfl ?_
              refine ga_iload_n (z := p) hm_171 rfl rfl ?_
              refine ga_imul (a := 36) (b := p) (c := 36 * p) hm_171 rfl (by omega) ?_
              refine fl_bipush hm_171 rfl rfl ?_
              refine ga_iload_n (z := x) hm_171 rfl rfl ?_
              refine ga_imul (a := 6) (b := x) (c := 6 * x) hm_171 rfl (by omega) ?_
              refine ga_iadd (a := 36 * p) (b := 6 * x) (c := 36 * p + 6 * x) hm_171 rfl (by omega) ?_
              refine ga_iload (z := y) hm_171 rfl rfl ?_
              refine ga_iadd (a := 36 * p + 6 * x) (b := y) (c := 36 * p + 6 * x + y) hm_171 rfl (by omega) ?_
              refine ga_iload (z := 1) hm_171 rfl rfl ?_
              refine fl_if_eq hm_171 rfl ⟨by omega, by omega⟩ (fun h => absurd h (by omega)) (fun _ => ?_)
              refine ga_aload_n (v := .ref 344) hm_171 rfl rfl rfl ?_
              have b85_ : 0 ≤ F3 344 36 ∧ F3 344 36 ≤ 216 := gi_g hg_F3 rfl
              refine ga_geti (z := F3 344 36) hm_171 rfl sc_344 rfl (rfl) ?_
              refine fl_goto hm_171 rfl ?_
              refine fl_iast (z := 36 * p + 6 * x + y) (v := F3 344 36) hm_171 rfl sc_366 (by omega) (by omega) (by omega) ?_
              refine ga_aload_n (v := .ref 344) hm_171 rfl rfl rfl ?_
              refine ga_dup hm_171 rfl rfl ?_
              refine ga_geti (z := F3 344 36) hm_171 rfl sc_344 rfl (fl_u_ne (by first | exact nc_ rfl | decide | omega)) ?_
              refine ga_iload (z := 1) hm_171 rfl rfl ?_
              refine fl_if_eq hm_171 rfl ⟨by omega, by omega⟩ (fun h => absurd h (by omega)) (fun _ => ?_)
              refine fl_iconst hm_171 rfl ?_
              refine fl_goto hm_171 rfl ?_
              refine ga_iadd (a := F3 344 36) (b := 1) (c := F3 344 36 + 1) hm_171 rfl (by omega) ?_
              refine ga_puti (z := F3 344 36 + 1) hm_171 rfl sc_344 rfl rfl ?_
              refine ga_inc (a := y) (c := y + 1) (lv2 := [(4, .int (Int32.ofInt (y + 1))), (5, .int (Int32.ofInt 1)), (3, .int (Int32.ofInt x)), (2, .int (Int32.ofInt (F 351 p.toNat))), (1, .int (Int32.ofInt p)), (0, .ref 344)]) hm_171 rfl rfl (Nat.le_of_ble_eq_true rfl) rfl rfl ?_
              refine fl_goto hm_171 rfl ?_
              obtain ⟨F86_, q87_⟩ : ∃ Fq_, Fq_ = (fl_u (fl_u F3 366 (36 * p + 6 * x + y).toNat (F3 344 36)) 344 36 (F3 344 36 + 1)) := ⟨_, rfl⟩
              rw [← q87_]
              have g88_ : gi F86_ := by rw [q87_]; exact gi_u (gi_u (hg_F3) rfl (by omega) (by omega)) rfl (by omega) (by omega)
              have g89_ : fs [(344, 344, 36, 36), (366, 366, 0, 100000)] F F86_ := by rw [q87_]; exact fs_u (fs_u (g63_) (fs_z (fs_y (by omega)))) rfl
              have e90_ : F86_ 344 36 = F3 344 36 + 1 := by rw [q87_]; exact fl_u_eq
              exact fl_R_sub (lv' := [(4, .int (Int32.ofInt (y + 1))), (3, .int (Int32.ofInt x)), (2, .int (Int32.ofInt (F 351 p.toNat))), (1, .int (Int32.ofInt p)), (0, .ref 344)]) rfl rfl (ih61_ _ (by omega) (y + 1) F86_ rfl g88_ (by rw [q87_]; exact fs_u (fs_u (hf_F3) (fs_z (fs_y (by omega)))) rfl) (⟨by omega, by omega⟩) (by omega))
            exfalso; omega
          refine ga_aload_n (v := .ref 344) hm_164 rfl rfl rfl ?_
          refine ga_getr (b := 365) hm_164 rfl sc_344 rfl ?_
          refine ga_iload_n (z := x) hm_164 rfl rfl ?_
          have e91_ : F1_ 365 x.toNat = F 365 x.toNat := by rw [q2_]; exact fl_u_ne (by first | exact nc_ rfl | decide | omega)
          have e92_ : F1 365 x.toNat = F 365 x.toNat := (hf_F1 365 x.toNat (by first | exact fs_c rfl | exact (fs_n (by omega) (fs_n (by omega) rfl)))).trans (e91_)
          have e93_ : F2 365 x.toNat = F 365 x.toNat := (hf_F2 365 x.toNat (by first | exact fs_c rfl | exact (fs_n (by omega) (fs_n (by omega) rfl)))).trans (e92_)
          have e94_ : F3 365 x.toNat = F 365 x.toNat := (hf_F3 365 x.toNat (by first | exact fs_c rfl | exact (fs_n (by omega) (fs_n (by omega) rfl)))).trans (e93_)
          have b95_ : 0 ≤ F 365 x.toNat ∧ F 365 x.toNat ≤ 4 := gi_g hgi rfl
          refine ga_iald (z := x) (w := F 365 x.toNat) hm_164 rfl sc_365 (by omega) (by omega) (by omega) (e94_) ?_
          refine ga_iload_n (z := F 352 (2 * p).toNat) hm_164 rfl rfl ?_
          refine fx_icmp_ne (a := F 365 x.toNat) (b := F 352 (2 * p).toNat) hm_164 rfl ⟨by omega, by omega⟩ ⟨by omega, by omega⟩ (fun h96_ => ?_) (fun h97_ => ?_)
          ·
            refine fl_iconst hm_164 rfl ?_
            refine gr_i hm_164 rfl rfl (ga_nb (by omega)) ?_
            clear h79_ h80_ f77_ l78_
            refine fl_if_eq hm_171 rfl ⟨by omega, by omega⟩ (fun _ => ?_) (fun h => absurd (by omega) h)
            refine fl_iconst hm_171 rfl ?_
            refine ga_istore (lv2 := [(5, .int (Int32.ofInt 0)), (4, .int (Int32.ofInt y)), (3, .int (Int32.ofInt x)), (2, .int (Int32.ofInt (F 351 p.toNat))), (1, .int (Int32.ofInt p)), (0, .ref 344)]) hm_171 rfl (Nat.le_of_ble_eq_true rfl) rfl ?_
            refine ga_aload_n (v := .ref 344) hm_171 rfl rfl rfl ?_
            refine ga_getr (b := 366) hm_171 rfl sc_344 rfl ?_
            refine fl_bipush hm_171 rfl rfl ?_
            refine ga_iload_n (z := p) hm_171 rfl rfl ?_
            refine ga_imul (a := 36) (b := p) (c := 36 * p) hm_171 rfl (by omega) ?_
            refine fl_bipush hm_171 rfl rfl ?_
            refine ga_iload_n (z := x) hm_171 rfl rfl ?_
            refine ga_imul (a := 6) (b := x) (c := 6 * x) hm_171 rfl (by omega) ?_
            refine ga_iadd (a := 36 * p) (b := 6 * x) (c := 36 * p + 6 * x) hm_171 rfl (by omega) ?_
            refine ga_iload (z := y) hm_171 rfl rfl ?_
            refine ga_iadd (a := 36 * p + 6 * x) (b := y) (c := 36 * p + 6 * x + y) hm_171 rfl (by omega) ?_
            refine ga_iload (z := 0) hm_171 rfl rfl ?_
            refine fl_if_eq hm_171 rfl ⟨by omega, by omega⟩ (fun _ => ?_) (fun h => absurd (by omega) h)
            refine fl_iconst hm_171 rfl ?_
            refine fl_iast (z := 36 * p + 6 * x + y) (v := 0) hm_171 rfl sc_366 (by omega) (by omega) (by omega) ?_
            refine ga_aload_n (v := .ref 344) hm_171 rfl rfl rfl ?_
            refine ga_dup hm_171 rfl rfl ?_
            have b98_ : 0 ≤ F3 344 36 ∧ F3 344 36 ≤ 216 := gi_g hg_F3 rfl
            refine ga_geti (z := F3 344 36) hm_171 rfl sc_344 rfl (fl_u_ne (by first | exact nc_ rfl | decide | omega)) ?_
            refine ga_iload (z := 0) hm_171 rfl rfl ?_
            refine fl_if_eq hm_171 rfl ⟨by omega, by omega⟩ (fun _ => ?_) (fun h => absurd (by omega) h)
            refine fl_iconst hm_171 rfl ?_
            refine ga_iadd (a := F3 344 36) (b := 0) (c := F3 344 36) hm_171 rfl (by omega) ?_
            refine ga_puti (z := F3 344 36) hm_171 rfl sc_344 rfl rfl ?_
            refine ga_inc (a := y) (c := y + 1) (lv2 := [(4, .int (Int32.ofInt (y + 1))), (5, .int (Int32.ofInt 0)), (3, .int (Int32.ofInt x)), (2, .int (Int32.ofInt (F 351 p.toNat))), (1, .int (Int32.ofInt p)), (0, .ref 344)]) hm_171 rfl rfl (Nat.le_of_ble_eq_true rfl) rfl rfl ?_
            refine fl_goto hm_171 rfl ?_
            obtain ⟨F99_, q100_⟩ : ∃ Fq_, Fq_ = (fl_u (fl_u F3 366 (36 * p + 6 * x + y).toNat 0) 344 36 (F3 344 36)) := ⟨_, rfl⟩
            rw [← q100_]
            have g101_ : gi F99_ := by rw [q100_]; exact gi_u (gi_u (hg_F3) rfl (by omega) (by omega)) rfl (by omega) (by omega)
            have g102_ : fs [(344, 344, 36, 36), (366, 366, 0, 100000)] F F99_ := by rw [q100_]; exact fs_u (fs_u (g63_) (fs_z (fs_y (by omega)))) rfl
            have e103_ : F99_ 344 36 = F3 344 36 := by rw [q100_]; exact fl_u_eq
            exact fl_R_sub (lv' := [(4, .int (Int32.ofInt (y + 1))), (3, .int (Int32.ofInt x)), (2, .int (Int32.ofInt (F 351 p.toNat))), (1, .int (Int32.ofInt p)), (0, .ref 344)]) rfl rfl (ih61_ _ (by omega) (y + 1) F99_ rfl g101_ (by rw [q100_]; exact fs_u (fs_u (hf_F3) (fs_z (fs_y (by omega)))) rfl) (⟨by omega, by omega⟩) (by omega))
          refine fl_iconst hm_164 rfl ?_
          refine fl_goto hm_164 rfl ?_
          refine gr_i hm_164 rfl rfl (ga_nb (by omega)) ?_
          clear h79_ h80_ f77_ l78_
          refine fl_if_eq hm_171 rfl ⟨by omega, by omega⟩ (fun h => absurd h (by omega)) (fun _ => ?_)
          refine ga_iload_n (z := F 351 p.toNat) hm_171 rfl rfl ?_
          refine fl_iconst hm_171 rfl ?_
          refine fl_icmp_lt (a := F 351 p.toNat) (b := 2) hm_171 rfl ⟨by omega, by omega⟩ ⟨by omega, by omega⟩ (fun h104_ => ?_) (fun h105_ => ?_)
          ·
            refine fl_iconst hm_171 rfl ?_
            refine fl_goto hm_171 rfl ?_
            refine ga_istore (lv2 := [(5, .int (Int32.ofInt 1)), (4, .int (Int32.ofInt y)), (3, .int (Int32.ofInt x)), (2, .int (Int32.ofInt (F 351 p.toNat))), (1, .int (Int32.ofInt p)), (0, .ref 344)]) hm_171 rfl (Nat.le_of_ble_eq_true rfl) rfl ?_
            refine ga_aload_n (v := .ref 344) hm_171 rfl rfl rfl ?_
            refine ga_getr (b := 366) hm_171 rfl sc_344 rfl ?_
            refine fl_bipush hm_171 rfl rfl ?_
            refine ga_iload_n (z := p) hm_171 rfl rfl ?_
            refine ga_imul (a := 36) (b := p) (c := 36 * p) hm_171 rfl (by omega) ?_
            refine fl_bipush hm_171 rfl rfl ?_
            refine ga_iload_n (z := x) hm_171 rfl rfl ?_
            refine ga_imul (a := 6) (b := x) (c := 6 * x) hm_171 rfl (by omega) ?_
            refine ga_iadd (a := 36 * p) (b := 6 * x) (c := 36 * p + 6 * x) hm_171 rfl (by omega) ?_
            refine ga_iload (z := y) hm_171 rfl rfl ?_
            refine ga_iadd (a := 36 * p + 6 * x) (b := y) (c := 36 * p + 6 * x + y) hm_171 rfl (by omega) ?_
            refine ga_iload (z := 1) hm_171 rfl rfl ?_
            refine fl_if_eq hm_171 rfl ⟨by omega, by omega⟩ (fun h => absurd h (by omega)) (fun _ => ?_)
            refine ga_aload_n (v := .ref 344) hm_171 rfl rfl rfl ?_
            have b106_ : 0 ≤ F3 344 36 ∧ F3 344 36 ≤ 216 := gi_g hg_F3 rfl
            refine ga_geti (z := F3 344 36) hm_171 rfl sc_344 rfl (rfl) ?_
            refine fl_goto hm_171 rfl ?_
            refine fl_iast (z := 36 * p + 6 * x + y) (v := F3 344 36) hm_171 rfl sc_366 (by omega) (by omega) (by omega) ?_
            refine ga_aload_n (v := .ref 344) hm_171 rfl rfl rfl ?_
            refine ga_dup hm_171 rfl rfl ?_
            refine ga_geti (z := F3 344 36) hm_171 rfl sc_344 rfl (fl_u_ne (by first | exact nc_ rfl | decide | omega)) ?_
            refine ga_iload (z := 1) hm_171 rfl rfl ?_
            refine fl_if_eq hm_171 rfl ⟨by omega, by omega⟩ (fun h => absurd h (by omega)) (fun _ => ?_)
            refine fl_iconst hm_171 rfl ?_
            refine fl_goto hm_171 rfl ?_
            refine ga_iadd (a := F3 344 36) (b := 1) (c := F3 344 36 + 1) hm_171 rfl (by omega) ?_
            refine ga_puti (z := F3 344 36 + 1) hm_171 rfl sc_344 rfl rfl ?_
            refine ga_inc (a := y) (c := y + 1) (lv2 := [(4, .int (Int32.ofInt (y + 1))), (5, .int (Int32.ofInt 1)), (3, .int (Int32.ofInt x)), (2, .int (Int32.ofInt (F 351 p.toNat))), (1, .int (Int32.ofInt p)), (0, .ref 344)]) hm_171 rfl rfl (Nat.le_of_ble_eq_true rfl) rfl rfl ?_
            refine fl_goto hm_171 rfl ?_
            obtain ⟨F107_, q108_⟩ : ∃ Fq_, Fq_ = (fl_u (fl_u F3 366 (36 * p + 6 * x + y).toNat (F3 344 36)) 344 36 (F3 344 36 + 1)) := ⟨_, rfl⟩
            rw [← q108_]
            have g109_ : gi F107_ := by rw [q108_]; exact gi_u (gi_u (hg_F3) rfl (by omega) (by omega)) rfl (by omega) (by omega)
            have g110_ : fs [(344, 344, 36, 36), (366, 366, 0, 100000)] F F107_ := by rw [q108_]; exact fs_u (fs_u (g63_) (fs_z (fs_y (by omega)))) rfl
            have e111_ : F107_ 344 36 = F3 344 36 + 1 := by rw [q108_]; exact fl_u_eq
            exact fl_R_sub (lv' := [(4, .int (Int32.ofInt (y + 1))), (3, .int (Int32.ofInt x)), (2, .int (Int32.ofInt (F 351 p.toNat))), (1, .int (Int32.ofInt p)), (0, .ref 344)]) rfl rfl (ih61_ _ (by omega) (y + 1) F107_ rfl g109_ (by rw [q108_]; exact fs_u (fs_u (hf_F3) (fs_z (fs_y (by omega)))) rfl) (⟨by omega, by omega⟩) (by omega))
          exfalso; omega
        refine ga_aload_n (v := .ref 344) hm_171 rfl rfl rfl ?_
        have e112_ : F3 344 33 = F 344 33 := (hf_F3 344 33 rfl).trans (e53_)
        refine ga_geti (z := F 344 33) hm_171 rfl sc_344 rfl (e112_) ?_
        refine fl_goto hm_171 rfl ?_
        refine fl_icmp_ge (a := y) (b := F 344 33) hm_171 rfl ⟨by omega, by omega⟩ ⟨by omega, by omega⟩ (fun h113_ => ?_) (fun h114_ => ?_)
        ·
          refine ga_inc (a := x) (c := x + 1) (lv2 := [(3, .int (Int32.ofInt (x + 1))), (4, .int (Int32.ofInt y)), (2, .int (Int32.ofInt (F 351 p.toNat))), (1, .int (Int32.ofInt p)), (0, .ref 344)]) hm_171 rfl rfl (Nat.le_of_ble_eq_true rfl) rfl rfl ?_
          refine fl_goto hm_171 rfl ?_
          have b115_ : 0 ≤ F3 344 36 ∧ F3 344 36 ≤ 216 := gi_g hg_F3 rfl
          have b116_ : 0 ≤ F2 344 36 ∧ F2 344 36 ≤ 216 := gi_g hg_F2 rfl
          exact fl_R_sub (lv' := [(3, .int (Int32.ofInt (x + 1))), (2, .int (Int32.ofInt (F 351 p.toNat))), (1, .int (Int32.ofInt p)), (0, .ref 344)]) rfl rfl (ih20_ _ (by omega) (x + 1) F3 rfl hg_F3 (fs_tr hf_F2 hf_F3 rfl) (⟨by omega, by omega⟩) (by omega))
        refine ga_iload_n (z := F 351 p.toNat) hm_171 rfl rfl ?_
        refine fl_iconst hm_171 rfl ?_
        refine fl_icmp_lt (a := F 351 p.toNat) (b := 1) hm_171 rfl ⟨by omega, by omega⟩ ⟨by omega, by omega⟩ (fun h117_ => ?_) (fun h118_ => ?_)
        · exfalso; omega
        refine ga_aload_n (v := .ref 344) hm_171 rfl rfl rfl ?_
        refine ga_iload_n (z := x) hm_171 rfl rfl ?_
        refine ga_aload_n (v := .ref 344) hm_171 rfl rfl rfl ?_
        refine ga_getr (b := 352) hm_171 rfl sc_344 rfl ?_
        refine fl_iconst hm_171 rfl ?_
        refine ga_iload_n (z := p) hm_171 rfl rfl ?_
        refine ga_imul (a := 2) (b := p) (c := 2 * p) hm_171 rfl (by omega) ?_
        have e119_ : F1_ 352 (2 * p).toNat = F 352 (2 * p).toNat := by rw [q2_]; exact fl_u_ne (by first | exact nc_ rfl | decide | omega)
        have e120_ : F1 352 (2 * p).toNat = F 352 (2 * p).toNat := (hf_F1 352 (2 * p).toNat (by first | exact fs_c rfl | exact (fs_n (by omega) (fs_n (by omega) rfl)))).trans (e119_)
        have e121_ : F2 352 (2 * p).toNat = F 352 (2 * p).toNat := (hf_F2 352 (2 * p).toNat (by first | exact fs_c rfl | exact (fs_n (by omega) (fs_n (by omega) rfl)))).trans (e120_)
        have e122_ : F3 352 (2 * p).toNat = F 352 (2 * p).toNat := (hf_F3 352 (2 * p).toNat (by first | exact fs_c rfl | exact (fs_n (by omega) (fs_n (by omega) rfl)))).trans (e121_)
        have b123_ : 0 ≤ F 352 (2 * p).toNat ∧ F 352 (2 * p).toNat ≤ 4 := gi_g hgi rfl
        refine ga_iald (z := 2 * p) (w := F 352 (2 * p).toNat) hm_171 rfl sc_352 (by omega) (by omega) (by omega) (e122_) ?_
        refine gIi (nY := 3) (F := 0) (L := 0) (As := [.int (Int32.ofInt x), .int (Int32.ofInt (F 352 (2 * p).toNat))]) (b := 344) (rest := []) hm_171 rfl hm_164 rfl rfl (fl_ob sc_344) rfl rfl rfl rfl rfl (by omega) (by omega) ?_
        intro f124_ l125_ h126_ h127_
        show fl_R xi_ms 164 f124_ l125_ 0 [(0, .ref 344), (1, .int (Int32.ofInt x)), (2, .int (Int32.ofInt (F 352 (2 * p).toNat)))] [] _ _
        refine ga_iload_n (z := F 352 (2 * p).toNat) hm_164 rfl rfl ?_
        refine fl_if_eq (a := F 352 (2 * p).toNat) hm_164 rfl ⟨by omega, by omega⟩ (fun h128_ => ?_) (fun h129_ => ?_)
        ·
          refine fl_iconst hm_164 rfl ?_
          refine fl_goto hm_164 rfl ?_
          refine gr_i hm_164 rfl rfl (ga_nb (by omega)) ?_
          clear h126_ h127_ f124_ l125_
          refine fl_if_eq hm_171 rfl ⟨by omega, by omega⟩ (fun h => absurd h (by omega)) (fun _ => ?_)
          refine ga_iload_n (z := F 351 p.toNat) hm_171 rfl rfl ?_
          refine fl_iconst hm_171 rfl ?_
          refine fl_icmp_lt (a := F 351 p.toNat) (b := 2) hm_171 rfl ⟨by omega, by omega⟩ ⟨by omega, by omega⟩ (fun h130_ => ?_) (fun h131_ => ?_)
          · exfalso; omega
          refine ga_aload_n (v := .ref 344) hm_171 rfl rfl rfl ?_
          refine ga_iload (z := y) hm_171 rfl rfl ?_
          refine ga_aload_n (v := .ref 344) hm_171 rfl rfl rfl ?_
          refine ga_getr (b := 352) hm_171 rfl sc_344 rfl ?_
          refine fl_iconst hm_171 rfl ?_
          refine ga_iload_n (z := p) hm_171 rfl rfl ?_
          refine ga_imul (a := 2) (b := p) (c := 2 * p) hm_171 rfl (by omega) ?_
          refine fl_iconst hm_171 rfl ?_
          refine ga_iadd (a := 2 * p) (b := 1) (c := 2 * p + 1) hm_171 rfl (by omega) ?_
          have e132_ : F1_ 352 (2 * p + 1).toNat = F 352 (2 * p + 1).toNat := by rw [q2_]; exact fl_u_ne (by first | exact nc_ rfl | decide | omega)
          have e133_ : F1 352 (2 * p + 1).toNat = F 352 (2 * p + 1).toNat := (hf_F1 352 (2 * p + 1).toNat (by first | exact fs_c rfl | exact (fs_n (by omega) (fs_n (by omega) rfl)))).trans (e132_)
          have e134_ : F2 352 (2 * p + 1).toNat = F 352 (2 * p + 1).toNat := (hf_F2 352 (2 * p + 1).toNat (by first | exact fs_c rfl | exact (fs_n (by omega) (fs_n (by omega) rfl)))).trans (e133_)
          have e135_ : F3 352 (2 * p + 1).toNat = F 352 (2 * p + 1).toNat := (hf_F3 352 (2 * p + 1).toNat (by first | exact fs_c rfl | exact (fs_n (by omega) (fs_n (by omega) rfl)))).trans (e134_)
          have b136_ : 0 ≤ F 352 (2 * p + 1).toNat ∧ F 352 (2 * p + 1).toNat ≤ 4 := gi_g hgi rfl
          refine ga_iald (z := 2 * p + 1) (w := F 352 (2 * p + 1).toNat) hm_171 rfl sc_352 (by omega) (by omega) (by omega) (e135_) ?_
          refine gIi (nY := 3) (F := 0) (L := 0) (As := [.int (Int32.ofInt y), .int (Int32.ofInt (F 352 (2 * p + 1).toNat))]) (b := 344) (rest := []) hm_171 rfl hm_164 rfl rfl (fl_ob sc_344) rfl rfl rfl rfl rfl (by omega) (by omega) ?_
          intro f137_ l138_ h139_ h140_
          show fl_R xi_ms 164 f137_ l138_ 0 [(0, .ref 344), (1, .int (Int32.ofInt y)), (2, .int (Int32.ofInt (F 352 (2 * p + 1).toNat)))] [] _ _
          refine ga_iload_n (z := F 352 (2 * p + 1).toNat) hm_164 rfl rfl ?_
          refine fl_if_eq (a := F 352 (2 * p + 1).toNat) hm_164 rfl ⟨by omega, by omega⟩ (fun h141_ => ?_) (fun h142_ => ?_)
          ·
            refine fl_iconst hm_164 rfl ?_
            refine fl_goto hm_164 rfl ?_
            refine gr_i hm_164 rfl rfl (ga_nb (by omega)) ?_
            clear h139_ h140_ f137_ l138_
            refine fl_if_eq hm_171 rfl ⟨by omega, by omega⟩ (fun h => absurd h (by omega)) (fun _ => ?_)
            refine fl_iconst hm_171 rfl ?_
            refine fl_goto hm_171 rfl ?_
            refine ga_istore (lv2 := [(5, .int (Int32.ofInt 1)), (4, .int (Int32.ofInt y)), (3, .int (Int32.ofInt x)), (2, .int (Int32.ofInt (F 351 p.toNat))), (1, .int (Int32.ofInt p)), (0, .ref 344)]) hm_171 rfl (Nat.le_of_ble_eq_true rfl) rfl ?_
            refine ga_aload_n (v := .ref 344) hm_171 rfl rfl rfl ?_
            refine ga_getr (b := 366) hm_171 rfl sc_344 rfl ?_
            refine fl_bipush hm_171 rfl rfl ?_
            refine ga_iload_n (z := p) hm_171 rfl rfl ?_
            refine ga_imul (a := 36) (b := p) (c := 36 * p) hm_171 rfl (by omega) ?_
            refine fl_bipush hm_171 rfl rfl ?_
            refine ga_iload_n (z := x) hm_171 rfl rfl ?_
            refine ga_imul (a := 6) (b := x) (c := 6 * x) hm_171 rfl (by omega) ?_
            refine ga_iadd (a := 36 * p) (b := 6 * x) (c := 36 * p + 6 * x) hm_171 rfl (by omega) ?_
            refine ga_iload (z := y) hm_171 rfl rfl ?_
            refine ga_iadd (a := 36 * p + 6 * x) (b := y) (c := 36 * p + 6 * x + y) hm_171 rfl (by omega) ?_
            refine ga_iload (z := 1) hm_171 rfl rfl ?_
            refine fl_if_eq hm_171 rfl ⟨by omega, by omega⟩ (fun h => absurd h (by omega)) (fun _ => ?_)
            refine ga_aload_n (v := .ref 344) hm_171 rfl rfl rfl ?_
            have b143_ : 0 ≤ F3 344 36 ∧ F3 344 36 ≤ 216 := gi_g hg_F3 rfl
            refine ga_geti (z := F3 344 36) hm_171 rfl sc_344 rfl (rfl) ?_
            refine fl_goto hm_171 rfl ?_
            refine fl_iast (z := 36 * p + 6 * x + y) (v := F3 344 36) hm_171 rfl sc_366 (by omega) (by omega) (by omega) ?_
            refine ga_aload_n (v := .ref 344) hm_171 rfl rfl rfl ?_
            refine ga_dup hm_171 rfl rfl ?_
            refine ga_geti (z := F3 344 36) hm_171 rfl sc_344 rfl (fl_u_ne (by first | exact nc_ rfl | decide | omega)) ?_
            refine ga_iload (z := 1) hm_171 rfl rfl ?_
            refine fl_if_eq hm_171 rfl ⟨by omega, by omega⟩ (fun h => absurd h (by omega)) (fun _ => ?_)
            refine fl_iconst hm_171 rfl ?_
            refine fl_goto hm_171 rfl ?_
            refine ga_iadd (a := F3 344 36) (b := 1) (c := F3 344 36 + 1) hm_171 rfl (by omega) ?_
            refine ga_puti (z := F3 344 36 + 1) hm_171 rfl sc_344 rfl rfl ?_
            refine ga_inc (a := y) (c := y + 1) (lv2 := [(4, .int (Int32.ofInt (y + 1))), (5, .int (Int32.ofInt 1)), (3, .int (Int32.ofInt x)), (2, .int (Int32.ofInt (F 351 p.toNat))), (1, .int (Int32.ofInt p)), (0, .ref 344)]) hm_171 rfl rfl (Nat.le_of_ble_eq_true rfl) rfl rfl ?_
            refine fl_goto hm_171 rfl ?_
            obtain ⟨F144_, q145_⟩ : ∃ Fq_, Fq_ = (fl_u (fl_u F3 366 (36 * p + 6 * x + y).toNat (F3 344 36)) 344 36 (F3 344 36 + 1)) := ⟨_, rfl⟩
            rw [← q145_]
            have g146_ : gi F144_ := by rw [q145_]; exact gi_u (gi_u (hg_F3) rfl (by omega) (by omega)) rfl (by omega) (by omega)
            have g147_ : fs [(344, 344, 36, 36), (366, 366, 0, 100000)] F F144_ := by rw [q145_]; exact fs_u (fs_u (g63_) (fs_z (fs_y (by omega)))) rfl
            have e148_ : F144_ 344 36 = F3 344 36 + 1 := by rw [q145_]; exact fl_u_eq
            exact fl_R_sub (lv' := [(4, .int (Int32.ofInt (y + 1))), (3, .int (Int32.ofInt x)), (2, .int (Int32.ofInt (F 351 p.toNat))), (1, .int (Int32.ofInt p)), (0, .ref 344)]) rfl rfl (ih61_ _ (by omega) (y + 1) F144_ rfl g146_ (by rw [q145_]; exact fs_u (fs_u (hf_F3) (fs_z (fs_y (by omega)))) rfl) (⟨by omega, by omega⟩) (by omega))
          refine ga_aload_n (v := .ref 344) hm_164 rfl rfl rfl ?_
          refine ga_getr (b := 365) hm_164 rfl sc_344 rfl ?_
          refine ga_iload_n (z := y) hm_164 rfl rfl ?_
          have e149_ : F1_ 365 y.toNat = F 365 y.toNat := by rw [q2_]; exact fl_u_ne (by first | exact nc_ rfl | decide | omega)
          have e150_ : F1 365 y.toNat = F 365 y.toNat := (hf_F1 365 y.toNat (by first | exact fs_c rfl | exact (fs_n (by omega) (fs_n (by omega) rfl)))).trans (e149_)
          have e151_ : F2 365 y.toNat = F 365 y.toNat := (hf_F2 365 y.toNat (by first | exact fs_c rfl | exact (fs_n (by omega) (fs_n (by omega) rfl)))).trans (e150_)
          have e152_ : F3 365 y.toNat = F 365 y.toNat := (hf_F3 365 y.toNat (by first | exact fs_c rfl | exact (fs_n (by omega) (fs_n (by omega) rfl)))).trans (e151_)
          have b153_ : 0 ≤ F 365 y.toNat ∧ F 365 y.toNat ≤ 4 := gi_g hgi rfl
          refine ga_iald (z := y) (w := F 365 y.toNat) hm_164 rfl sc_365 (by omega) (by omega) (by omega) (e152_) ?_
          refine ga_iload_n (z := F 352 (2 * p + 1).toNat) hm_164 rfl rfl ?_
          refine fx_icmp_ne (a := F 365 y.toNat) (b := F 352 (2 * p + 1).toNat) hm_164 rfl ⟨by omega, by omega⟩ ⟨by omega, by omega⟩ (fun h154_ => ?_) (fun h155_ => ?_)
          ·
            refine fl_iconst hm_164 rfl ?_
            refine gr_i hm_164 rfl rfl (ga_nb (by omega)) ?_
            clear h139_ h140_ f137_ l138_
            refine fl_if_eq hm_171 rfl ⟨by omega, by omega⟩ (fun _ => ?_) (fun h => absurd (by omega) h)
            refine fl_iconst hm_171 rfl ?_
            refine ga_istore (lv2 := [(5, .int (Int32.ofInt 0)), (4, .int (Int32.ofInt y)), (3, .int (Int32.ofInt x)), (2, .int (Int32.ofInt (F 351 p.toNat))), (1, .int (Int32.ofInt p)), (0, .ref 344)]) hm_171 rfl (Nat.le_of_ble_eq_true rfl) rfl ?_
            refine ga_aload_n (v := .ref 344) hm_171 rfl rfl rfl ?_
            refine ga_getr (b := 366) hm_171 rfl sc_344 rfl ?_
            refine fl_bipush hm_171 rfl rfl ?_
            refine ga_iload_n (z := p) hm_171 rfl rfl ?_
            refine ga_imul (a := 36) (b := p) (c := 36 * p) hm_171 rfl (by omega) ?_
            refine fl_bipush hm_171 rfl rfl ?_
            refine ga_iload_n (z := x) hm_171 rfl rfl ?_
            refine ga_imul (a := 6) (b := x) (c := 6 * x) hm_171 rfl (by omega) ?_
            refine ga_iadd (a := 36 * p) (b := 6 * x) (c := 36 * p + 6 * x) hm_171 rfl (by omega) ?_
            refine ga_iload (z := y) hm_171 rfl rfl ?_
            refine ga_iadd (a := 36 * p + 6 * x) (b := y) (c := 36 * p + 6 * x + y) hm_171 rfl (by omega) ?_
            refine ga_iload (z := 0) hm_171 rfl rfl ?_
            refine fl_if_eq hm_171 rfl ⟨by omega, by omega⟩ (fun _ => ?_) (fun h => absurd (by omega) h)
            refine fl_iconst hm_171 rfl ?_
            refine fl_iast (z := 36 * p + 6 * x + y) (v := 0) hm_171 rfl sc_366 (by omega) (by omega) (by omega) ?_
            refine ga_aload_n (v := .ref 344) hm_171 rfl rfl rfl ?_
            refine ga_dup hm_171 rfl rfl ?_
            have b156_ : 0 ≤ F3 344 36 ∧ F3 344 36 ≤ 216 := gi_g hg_F3 rfl
            refine ga_geti (z := F3 344 36) hm_171 rfl sc_344 rfl (fl_u_ne (by first | exact nc_ rfl | decide | omega)) ?_
            refine ga_iload (z := 0) hm_171 rfl rfl ?_
            refine fl_if_eq hm_171 rfl ⟨by omega, by omega⟩ (fun _ => ?_) (fun h => absurd (by omega) h)
            refine fl_iconst hm_171 rfl ?_
            refine ga_iadd (a := F3 344 36) (b := 0) (c := F3 344 36) hm_171 rfl (by omega) ?_
            refine ga_puti (z := F3 344 36) hm_171 rfl sc_344 rfl rfl ?_
            refine ga_inc (a := y) (c := y + 1) (lv2 := [(4, .int (Int32.ofInt (y + 1))), (5, .int (Int32.ofInt 0)), (3, .int (Int32.ofInt x)), (2, .int (Int32.ofInt (F 351 p.toNat))), (1, .int (Int32.ofInt p)), (0, .ref 344)]) hm_171 rfl rfl (Nat.le_of_ble_eq_true rfl) rfl rfl ?_
            refine fl_goto hm_171 rfl ?_
            obtain ⟨F157_, q158_⟩ : ∃ Fq_, Fq_ = (fl_u (fl_u F3 366 (36 * p + 6 * x + y).toNat 0) 344 36 (F3 344 36)) := ⟨_, rfl⟩
            rw [← q158_]
            have g159_ : gi F157_ := by rw [q158_]; exact gi_u (gi_u (hg_F3) rfl (by omega) (by omega)) rfl (by omega) (by omega)
            have g160_ : fs [(344, 344, 36, 36), (366, 366, 0, 100000)] F F157_ := by rw [q158_]; exact fs_u (fs_u (g63_) (fs_z (fs_y (by omega)))) rfl
            have e161_ : F157_ 344 36 = F3 344 36 := by rw [q158_]; exact fl_u_eq
            exact fl_R_sub (lv' := [(4, .int (Int32.ofInt (y + 1))), (3, .int (Int32.ofInt x)), (2, .int (Int32.ofInt (F 351 p.toNat))), (1, .int (Int32.ofInt p)), (0, .ref 344)]) rfl rfl (ih61_ _ (by omega) (y + 1) F157_ rfl g159_ (by rw [q158_]; exact fs_u (fs_u (hf_F3) (fs_z (fs_y (by omega)))) rfl) (⟨by omega, by omega⟩) (by omega))
          refine fl_iconst hm_164 rfl ?_
          refine fl_goto hm_164 rfl ?_
          refine gr_i hm_164 rfl rfl (ga_nb (by omega)) ?_
          clear h139_ h140_ f137_ l138_
          refine fl_if_eq hm_171 rfl ⟨by omega, by omega⟩ (fun h => absurd h (by omega)) (fun _ => ?_)
          refine fl_iconst hm_171 rfl ?_
          refine fl_goto hm_171 rfl ?_
          refine ga_istore (lv2 := [(5, .int (Int32.ofInt 1)), (4, .int (Int32.ofInt y)), (3, .int (Int32.ofInt x)), (2, .int (Int32.ofInt (F 351 p.toNat))), (1, .int (Int32.ofInt p)), (0, .ref 344)]) hm_171 rfl (Nat.le_of_ble_eq_true rfl) rfl ?_
          refine ga_aload_n (v := .ref 344) hm_171 rfl rfl rfl ?_
          refine ga_getr (b := 366) hm_171 rfl sc_344 rfl ?_
          refine fl_bipush hm_171 rfl rfl ?_
          refine ga_iload_n (z := p) hm_171 rfl rfl ?_
          refine ga_imul (a := 36) (b := p) (c := 36 * p) hm_171 rfl (by omega) ?_
          refine fl_bipush hm_171 rfl rfl ?_
          refine ga_iload_n (z := x) hm_171 rfl rfl ?_
          refine ga_imul (a := 6) (b := x) (c := 6 * x) hm_171 rfl (by omega) ?_
          refine ga_iadd (a := 36 * p) (b := 6 * x) (c := 36 * p + 6 * x) hm_171 rfl (by omega) ?_
          refine ga_iload (z := y) hm_171 rfl rfl ?_
          refine ga_iadd (a := 36 * p + 6 * x) (b := y) (c := 36 * p + 6 * x + y) hm_171 rfl (by omega) ?_
          refine ga_iload (z := 1) hm_171 rfl rfl ?_
          refine fl_if_eq hm_171 rfl ⟨by omega, by omega⟩ (fun h => absurd h (by omega)) (fun _ => ?_)
          refine ga_aload_n (v := .ref 344) hm_171 rfl rfl rfl ?_
          have b162_ : 0 ≤ F3 344 36 ∧ F3 344 36 ≤ 216 := gi_g hg_F3 rfl
          refine ga_geti (z := F3 344 36) hm_171 rfl sc_344 rfl (rfl) ?_
          refine fl_goto hm_171 rfl ?_
          refine fl_iast (z := 36 * p + 6 * x + y) (v := F3 344 36) hm_171 rfl sc_366 (by omega) (by omega) (by omega) ?_
          refine ga_aload_n (v := .ref 344) hm_171 rfl rfl rfl ?_
          refine ga_dup hm_171 rfl rfl ?_
          refine ga_geti (z := F3 344 36) hm_171 rfl sc_344 rfl (fl_u_ne (by first | exact nc_ rfl | decide | omega)) ?_
          refine ga_iload (z := 1) hm_171 rfl rfl ?_
          refine fl_if_eq hm_171 rfl ⟨by omega, by omega⟩ (fun h => absurd h (by omega)) (fun _ => ?_)
          refine fl_iconst hm_171 rfl ?_
          refine fl_goto hm_171 rfl ?_
          refine ga_iadd (a := F3 344 36) (b := 1) (c := F3 344 36 + 1) hm_171 rfl (by omega) ?_
          refine ga_puti (z := F3 344 36 + 1) hm_171 rfl sc_344 rfl rfl ?_
          refine ga_inc (a := y) (c := y + 1) (lv2 := [(4, .int (Int32.ofInt (y + 1))), (5, .int (Int32.ofInt 1)), (3, .int (Int32.ofInt x)), (2, .int (Int32.ofInt (F 351 p.toNat))), (1, .int (Int32.ofInt p)), (0, .ref 344)]) hm_171 rfl rfl (Nat.le_of_ble_eq_true rfl) rfl rfl ?_
          refine fl_goto hm_171 rfl ?_
          obtain ⟨F163_, q164_⟩ : ∃ Fq_, Fq_ = (fl_u (fl_u F3 366 (36 * p + 6 * x + y).toNat (F3 344 36)) 344 36 (F3 344 36 + 1)) := ⟨_, rfl⟩
          rw [← q164_]
          have g165_ : gi F163_ := by rw [q164_]; exact gi_u (gi_u (hg_F3) rfl (by omega) (by omega)) rfl (by omega) (by omega)
          have g166_ : fs [(344, 344, 36, 36), (366, 366, 0, 100000)] F F163_ := by rw [q164_]; exact fs_u (fs_u (g63_) (fs_z (fs_y (by omega)))) rfl
          have e167_ : F163_ 344 36 = F3 344 36 + 1 := by rw [q164_]; exact fl_u_eq
          exact fl_R_sub (lv' := [(4, .int (Int32.ofInt (y + 1))), (3, .int (Int32.ofInt x)), (2, .int (Int32.ofInt (F 351 p.toNat))), (1, .int (Int32.ofInt p)), (0, .ref 344)]) rfl rfl (ih61_ _ (by omega) (y + 1) F163_ rfl g165_ (by rw [q164_]; exact fs_u (fs_u (hf_F3) (fs_z (fs_y (by omega)))) rfl) (⟨by omega, by omega⟩) (by omega))
        refine ga_aload_n (v := .ref 344) hm_164 rfl rfl rfl ?_
        refine ga_getr (b := 365) hm_164 rfl sc_344 rfl ?_
        refine ga_iload_n (z := x) hm_164 rfl rfl ?_
        have e168_ : F1_ 365 x.toNat = F 365 x.toNat := by rw [q2_]; exact fl_u_ne (by first | exact nc_ rfl | decide | omega)
        have e169_ : F1 365 x.toNat = F 365 x.toNat := (hf_F1 365 x.toNat (by first | exact fs_c rfl | exact (fs_n (by omega) (fs_n (by omega) rfl)))).trans (e168_)
        have e170_ : F2 365 x.toNat = F 365 x.toNat := (hf_F2 365 x.toNat (by first | exact fs_c rfl | exact (fs_n (by omega) (fs_n (by omega) rfl)))).trans (e169_)
        have e171_ : F3 365 x.toNat = F 365 x.toNat := (hf_F3 365 x.toNat (by first | exact fs_c rfl | exact (fs_n (by omega) (fs_n (by omega) rfl)))).trans (e170_)
        have b172_ : 0 ≤ F 365 x.toNat ∧ F 365 x.toNat ≤ 4 := gi_g hgi rfl
        refine ga_iald (z := x) (w := F 365 x.toNat) hm_164 rfl sc_365 (by omega) (by omega) (by omega) (e171_) ?_
        refine ga_iload_n (z := F 352 (2 * p).toNat) hm_164 rfl rfl ?_
        refine fx_icmp_ne (a := F 365 x.toNat) (b := F 352 (2 * p).toNat) hm_164 rfl ⟨by omega, by omega⟩ ⟨by omega, by omega⟩ (fun h173_ => ?_) (fun h174_ => ?_)
        ·
          refine fl_iconst hm_164 rfl ?_
          refine gr_i hm_164 rfl rfl (ga_nb (by omega)) ?_
          clear h126_ h127_ f124_ l125_
          refine fl_if_eq hm_171 rfl ⟨by omega, by omega⟩ (fun _ => ?_) (fun h => absurd (by omega) h)
          refine fl_iconst hm_171 rfl ?_
          refine ga_istore (lv2 := [(5, .int (Int32.ofInt 0)), (4, .int (Int32.ofInt y)), (3, .int (Int32.ofInt x)), (2, .int (Int32.ofInt (F 351 p.toNat))), (1, .int (Int32.ofInt p)), (0, .ref 344)]) hm_171 rfl (Nat.le_of_ble_eq_true rfl) rfl ?_
          refine ga_aload_n (v := .ref 344) hm_171 rfl rfl rfl ?_
          refine ga_getr (b := 366) hm_171 rfl sc_344 rfl ?_
          refine fl_bipush hm_171 rfl rfl ?_
          refine ga_iload_n (z := p) hm_171 rfl rfl ?_
          refine ga_imul (a := 36) (b := p) (c := 36 * p) hm_171 rfl (by omega) ?_
          refine fl_bipush hm_171 rfl rfl ?_
          refine ga_iload_n (z := x) hm_171 rfl rfl ?_
          refine ga_imul (a := 6) (b := x) (c := 6 * x) hm_171 rfl (by omega) ?_
          refine ga_iadd (a := 36 * p) (b := 6 * x) (c := 36 * p + 6 * x) hm_171 rfl (by omega) ?_
          refine ga_iload (z := y) hm_171 rfl rfl ?_
          refine ga_iadd (a := 36 * p + 6 * x) (b := y) (c := 36 * p + 6 * x + y) hm_171 rfl (by omega) ?_
          refine ga_iload (z := 0) hm_171 rfl rfl ?_
          refine fl_if_eq hm_171 rfl ⟨by omega, by omega⟩ (fun _ => ?_) (fun h => absurd (by omega) h)
          refine fl_iconst hm_171 rfl ?_
          refine fl_iast (z := 36 * p + 6 * x + y) (v := 0) hm_171 rfl sc_366 (by omega) (by omega) (by omega) ?_
          refine ga_aload_n (v := .ref 344) hm_171 rfl rfl rfl ?_
          refine ga_dup hm_171 rfl rfl ?_
          have b175_ : 0 ≤ F3 344 36 ∧ F3 344 36 ≤ 216 := gi_g hg_F3 rfl
          refine ga_geti (z := F3 344 36) hm_171 rfl sc_344 rfl (fl_u_ne (by first | exact nc_ rfl | decide | omega)) ?_
          refine ga_iload (z := 0) hm_171 rfl rfl ?_
          refine fl_if_eq hm_171 rfl ⟨by omega, by omega⟩ (fun _ => ?_) (fun h => absurd (by omega) h)
          refine fl_iconst hm_171 rfl ?_
          refine ga_iadd (a := F3 344 36) (b := 0) (c := F3 344 36) hm_171 rfl (by omega) ?_
          refine ga_puti (z := F3 344 36) hm_171 rfl sc_344 rfl rfl ?_
          refine ga_inc (a := y) (c := y + 1) (lv2 := [(4, .int (Int32.ofInt (y + 1))), (5, .int (Int32.ofInt 0)), (3, .int (Int32.ofInt x)), (2, .int (Int32.ofInt (F 351 p.toNat))), (1, .int (Int32.ofInt p)), (0, .ref 344)]) hm_171 rfl rfl (Nat.le_of_ble_eq_true rfl) rfl rfl ?_
          refine fl_goto hm_171 rfl ?_
          obtain ⟨F176_, q177_⟩ : ∃ Fq_, Fq_ = (fl_u (fl_u F3 366 (36 * p + 6 * x + y).toNat 0) 344 36 (F3 344 36)) := ⟨_, rfl⟩
          rw [← q177_]
          have g178_ : gi F176_ := by rw [q177_]; exact gi_u (gi_u (hg_F3) rfl (by omega) (by omega)) rfl (by omega) (by omega)
          have g179_ : fs [(344, 344, 36, 36), (366, 366, 0, 100000)] F F176_ := by rw [q177_]; exact fs_u (fs_u (g63_) (fs_z (fs_y (by omega)))) rfl
          have e180_ : F176_ 344 36 = F3 344 36 := by rw [q177_]; exact fl_u_eq
          exact fl_R_sub (lv' := [(4, .int (Int32.ofInt (y + 1))), (3, .int (Int32.ofInt x)), (2, .int (Int32.ofInt (F 351 p.toNat))), (1, .int (Int32.ofInt p)), (0, .ref 344)]) rfl rfl (ih61_ _ (by omega) (y + 1) F176_ rfl g178_ (by rw [q177_]; exact fs_u (fs_u (hf_F3) (fs_z (fs_y (by omega)))) rfl) (⟨by omega, by omega⟩) (by omega))
        refine fl_iconst hm_164 rfl ?_
        refine fl_goto hm_164 rfl ?_
        refine gr_i hm_164 rfl rfl (ga_nb (by omega)) ?_
        clear h126_ h127_ f124_ l125_
        refine fl_if_eq hm_171 rfl ⟨by omega, by omega⟩ (fun h => absurd h (by omega)) (fun _ => ?_)
        refine ga_iload_n (z := F 351 p.toNat) hm_171 rfl rfl ?_
        refine fl_iconst hm_171 rfl ?_
        refine fl_icmp_lt (a := F 351 p.toNat) (b := 2) hm_171 rfl ⟨by omega, by omega⟩ ⟨by omega, by omega⟩ (fun h181_ => ?_) (fun h182_ => ?_)
        · exfalso; omega
        refine ga_aload_n (v := .ref 344) hm_171 rfl rfl rfl ?_
        refine ga_iload (z := y) hm_171 rfl rfl ?_
        refine ga_aload_n (v := .ref 344) hm_171 rfl rfl rfl ?_
        refine ga_getr (b := 352) hm_171 rfl sc_344 rfl ?_
        refine fl_iconst hm_171 rfl ?_
        refine ga_iload_n (z := p) hm_171 rfl rfl ?_
        refine ga_imul (a := 2) (b := p) (c := 2 * p) hm_171 rfl (by omega) ?_
        refine fl_iconst hm_171 rfl ?_
        refine ga_iadd (a := 2 * p) (b := 1) (c := 2 * p + 1) hm_171 rfl (by omega) ?_
        have e183_ : F1_ 352 (2 * p + 1).toNat = F 352 (2 * p + 1).toNat := by rw [q2_]; exact fl_u_ne (by first | exact nc_ rfl | decide | omega)
        have e184_ : F1 352 (2 * p + 1).toNat = F 352 (2 * p + 1).toNat := (hf_F1 352 (2 * p + 1).toNat (by first | exact fs_c rfl | exact (fs_n (by omega) (fs_n (by omega) rfl)))).trans (e183_)
        have e185_ : F2 352 (2 * p + 1).toNat = F 352 (2 * p + 1).toNat := (hf_F2 352 (2 * p + 1).toNat (by first | exact fs_c rfl | exact (fs_n (by omega) (fs_n (by omega) rfl)))).trans (e184_)
        have e186_ : F3 352 (2 * p + 1).toNat = F 352 (2 * p + 1).toNat := (hf_F3 352 (2 * p + 1).toNat (by first | exact fs_c rfl | exact (fs_n (by omega) (fs_n (by omega) rfl)))).trans (e185_)
        have b187_ : 0 ≤ F 352 (2 * p + 1).toNat ∧ F 352 (2 * p + 1).toNat ≤ 4 := gi_g hgi rfl
        refine ga_iald (z := 2 * p + 1) (w := F 352 (2 * p + 1).toNat) hm_171 rfl sc_352 (by omega) (by omega) (by omega) (e186_) ?_
        refine gIi (nY := 3) (F := 0) (L := 0) (As := [.int (Int32.ofInt y), .int (Int32.ofInt (F 352 (2 * p + 1).toNat))]) (b := 344) (rest := []) hm_171 rfl hm_164 rfl rfl (fl_ob sc_344) rfl rfl rfl rfl rfl (by omega) (by omega) ?_
        intro f188_ l189_ h190_ h191_
        show fl_R xi_ms 164 f188_ l189_ 0 [(0, .ref 344), (1, .int (Int32.ofInt y)), (2, .int (Int32.ofInt (F 352 (2 * p + 1).toNat)))] [] _ _
        refine ga_iload_n (z := F 352 (2 * p + 1).toNat) hm_164 rfl rfl ?_
        refine fl_if_eq (a := F 352 (2 * p + 1).toNat) hm_164 rfl ⟨by omega, by omega⟩ (fun h192_ => ?_) (fun h193_ => ?_)
        ·
          refine fl_iconst hm_164 rfl ?_
          refine fl_goto hm_164 rfl ?_
          refine gr_i hm_164 rfl rfl (ga_nb (by omega)) ?_
          clear h190_ h191_ f188_ l189_
          refine fl_if_eq hm_171 rfl ⟨by omega, by omega⟩ (fun h => absurd h (by omega)) (fun _ => ?_)
          refine fl_iconst hm_171 rfl ?_
          refine fl_goto hm_171 rfl ?_
          refine ga_istore (lv2 := [(5, .int (Int32.ofInt 1)), (4, .int (Int32.ofInt y)), (3, .int (Int32.ofInt x)), (2, .int (Int32.ofInt (F 351 p.toNat))), (1, .int (Int32.ofInt p)), (0, .ref 344)]) hm_171 rfl (Nat.le_of_ble_eq_true rfl) rfl ?_
          refine ga_aload_n (v := .ref 344) hm_171 rfl rfl rfl ?_
          refine ga_getr (b := 366) hm_171 rfl sc_344 rfl ?_
          refine fl_bipush hm_171 rfl rfl ?_
          refine ga_iload_n (z := p) hm_171 rfl rfl ?_
          refine ga_imul (a := 36) (b := p) (c := 36 * p) hm_171 rfl (by omega) ?_
          refine fl_bipush hm_171 rfl rfl ?_
          refine ga_iload_n (z := x) hm_171 rfl rfl ?_
          refine ga_imul (a := 6) (b := x) (c := 6 * x) hm_171 rfl (by omega) ?_
          refine ga_iadd (a := 36 * p) (b := 6 * x) (c := 36 * p + 6 * x) hm_171 rfl (by omega) ?_
          refine ga_iload (z := y) hm_171 rfl rfl ?_
          refine ga_iadd (a := 36 * p + 6 * x) (b := y) (c := 36 * p + 6 * x + y) hm_171 rfl (by omega) ?_
          refine ga_iload (z := 1) hm_171 rfl rfl ?_
          refine fl_if_eq hm_171 rfl ⟨by omega, by omega⟩ (fun h => absurd h (by omega)) (fun _ => ?_)
          refine ga_aload_n (v := .ref 344) hm_171 rfl rfl rfl ?_
          have b194_ : 0 ≤ F3 344 36 ∧ F3 344 36 ≤ 216 := gi_g hg_F3 rfl
          refine ga_geti (z := F3 344 36) hm_171 rfl sc_344 rfl (rfl) ?_
          refine fl_goto hm_171 rfl ?_
          refine fl_iast (z := 36 * p + 6 * x + y) (v := F3 344 36) hm_171 rfl sc_366 (by omega) (by omega) (by omega) ?_
          refine ga_aload_n (v := .ref 344) hm_171 rfl rfl rfl ?_
          refine ga_dup hm_171 rfl rfl ?_
          refine ga_geti (z := F3 344 36) hm_171 rfl sc_344 rfl (fl_u_ne (by first | exact nc_ rfl | decide | omega)) ?_
          refine ga_iload (z := 1) hm_171 rfl rfl ?_
          refine fl_if_eq hm_171 rfl ⟨by omega, by omega⟩ (fun h => absurd h (by omega)) (fun _ => ?_)
          refine fl_iconst hm_171 rfl ?_
          refine fl_goto hm_171 rfl ?_
          refine ga_iadd (a := F3 344 36) (b := 1) (c := F3 344 36 + 1) hm_171 rfl (by omega) ?_
          refine ga_puti (z := F3 344 36 + 1) hm_171 rfl sc_344 rfl rfl ?_
          refine ga_inc (a := y) (c := y + 1) (lv2 := [(4, .int (Int32.ofInt (y + 1))), (5, .int (Int32.ofInt 1)), (3, .int (Int32.ofInt x)), (2, .int (Int32.ofInt (F 351 p.toNat))), (1, .int (Int32.ofInt p)), (0, .ref 344)]) hm_171 rfl rfl (Nat.le_of_ble_eq_true rfl) rfl rfl ?_
          refine fl_goto hm_171 rfl ?_
          obtain ⟨F195_, q196_⟩ : ∃ Fq_, Fq_ = (fl_u (fl_u F3 366 (36 * p + 6 * x + y).toNat (F3 344 36)) 344 36 (F3 344 36 + 1)) := ⟨_, rfl⟩
          rw [← q196_]
          have g197_ : gi F195_ := by rw [q196_]; exact gi_u (gi_u (hg_F3) rfl (by omega) (by omega)) rfl (by omega) (by omega)
          have g198_ : fs [(344, 344, 36, 36), (366, 366, 0, 100000)] F F195_ := by rw [q196_]; exact fs_u (fs_u (g63_) (fs_z (fs_y (by omega)))) rfl
          have e199_ : F195_ 344 36 = F3 344 36 + 1 := by rw [q196_]; exact fl_u_eq
          exact fl_R_sub (lv' := [(4, .int (Int32.ofInt (y + 1))), (3, .int (Int32.ofInt x)), (2, .int (Int32.ofInt (F 351 p.toNat))), (1, .int (Int32.ofInt p)), (0, .ref 344)]) rfl rfl (ih61_ _ (by omega) (y + 1) F195_ rfl g197_ (by rw [q196_]; exact fs_u (fs_u (hf_F3) (fs_z (fs_y (by omega)))) rfl) (⟨by omega, by omega⟩) (by omega))
        refine ga_aload_n (v := .ref 344) hm_164 rfl rfl rfl ?_
        refine ga_getr (b := 365) hm_164 rfl sc_344 rfl ?_
        refine ga_iload_n (z := y) hm_164 rfl rfl ?_
        have e200_ : F1_ 365 y.toNat = F 365 y.toNat := by rw [q2_]; exact fl_u_ne (by first | exact nc_ rfl | decide | omega)
        have e201_ : F1 365 y.toNat = F 365 y.toNat := (hf_F1 365 y.toNat (by first | exact fs_c rfl | exact (fs_n (by omega) (fs_n (by omega) rfl)))).trans (e200_)
        have e202_ : F2 365 y.toNat = F 365 y.toNat := (hf_F2 365 y.toNat (by first | exact fs_c rfl | exact (fs_n (by omega) (fs_n (by omega) rfl)))).trans (e201_)
        have e203_ : F3 365 y.toNat = F 365 y.toNat := (hf_F3 365 y.toNat (by first | exact fs_c rfl | exact (fs_n (by omega) (fs_n (by omega) rfl)))).trans (e202_)
        have b204_ : 0 ≤ F 365 y.toNat ∧ F 365 y.toNat ≤ 4 := gi_g hgi rfl
        refine ga_iald (z := y) (w := F 365 y.toNat) hm_164 rfl sc_365 (by omega) (by omega) (by omega) (e203_) ?_
        refine ga_iload_n (z := F 352 (2 * p + 1).toNat) hm_164 rfl rfl ?_
        refine fx_icmp_ne (a := F 365 y.toNat) (b := F 352 (2 * p + 1).toNat) hm_164 rfl ⟨by omega, by omega⟩ ⟨by omega, by omega⟩ (fun h205_ => ?_) (fun h206_ => ?_)
        ·
          refine fl_iconst hm_164 rfl ?_
          refine gr_i hm_164 rfl rfl (ga_nb (by omega)) ?_
          clear h190_ h191_ f188_ l189_
          refine fl_if_eq hm_171 rfl ⟨by omega, by omega⟩ (fun _ => ?_) (fun h => absurd (by omega) h)
          refine fl_iconst hm_171 rfl ?_
          refine ga_istore (lv2 := [(5, .int (Int32.ofInt 0)), (4, .int (Int32.ofInt y)), (3, .int (Int32.ofInt x)), (2, .int (Int32.ofInt (F 351 p.toNat))), (1, .int (Int32.ofInt p)), (0, .ref 344)]) hm_171 rfl (Nat.le_of_ble_eq_true rfl) rfl ?_
          refine ga_aload_n (v := .ref 344) hm_171 rfl rfl rfl ?_
          refine ga_getr (b := 366) hm_171 rfl sc_344 rfl ?_
          refine fl_bipush hm_171 rfl rfl ?_
          refine ga_iload_n (z := p) hm_171 rfl rfl ?_
          refine ga_imul (a := 36) (b := p) (c := 36 * p) hm_171 rfl (by omega) ?_
          refine fl_bipush hm_171 rfl rfl ?_
          refine ga_iload_n (z := x) hm_171 rfl rfl ?_
          refine ga_imul (a := 6) (b := x) (c := 6 * x) hm_171 rfl (by omega) ?_
          refine ga_iadd (a := 36 * p) (b := 6 * x) (c := 36 * p + 6 * x) hm_171 rfl (by omega) ?_
          refine ga_iload (z := y) hm_171 rfl rfl ?_
          refine ga_iadd (a := 36 * p + 6 * x) (b := y) (c := 36 * p + 6 * x + y) hm_171 rfl (by omega) ?_
          refine ga_iload (z := 0) hm_171 rfl rfl ?_
          refine fl_if_eq hm_171 rfl ⟨by omega, by omega⟩ (fun _ => ?_) (fun h => absurd (by omega) h)
          refine fl_iconst hm_171 rfl ?_
          refine fl_iast (z := 36 * p + 6 * x + y) (v := 0) hm_171 rfl sc_366 (by omega) (by omega) (by omega) ?_
          refine ga_aload_n (v := .ref 344) hm_171 rfl rfl rfl ?_
          refine ga_dup hm_171 rfl rfl ?_
          have b207_ : 0 ≤ F3 344 36 ∧ F3 344 36 ≤ 216 := gi_g hg_F3 rfl
          refine ga_geti (z := F3 344 36) hm_171 rfl sc_344 rfl (fl_u_ne (by first | exact nc_ rfl | decide | omega)) ?_
          refine ga_iload (z := 0) hm_171 rfl rfl ?_
          refine fl_if_eq hm_171 rfl ⟨by omega, by omega⟩ (fun _ => ?_) (fun h => absurd (by omega) h)
          refine fl_iconst hm_171 rfl ?_
          refine ga_iadd (a := F3 344 36) (b := 0) (c := F3 344 36) hm_171 rfl (by omega) ?_
          refine ga_puti (z := F3 344 36) hm_171 rfl sc_344 rfl rfl ?_
          refine ga_inc (a := y) (c := y + 1) (lv2 := [(4, .int (Int32.ofInt (y + 1))), (5, .int (Int32.ofInt 0)), (3, .int (Int32.ofInt x)), (2, .int (Int32.ofInt (F 351 p.toNat))), (1, .int (Int32.ofInt p)), (0, .ref 344)]) hm_171 rfl rfl (Nat.le_of_ble_eq_true rfl) rfl rfl ?_
          refine fl_goto hm_171 rfl ?_
          obtain ⟨F208_, q209_⟩ : ∃ Fq_, Fq_ = (fl_u (fl_u F3 366 (36 * p + 6 * x + y).toNat 0) 344 36 (F3 344 36)) := ⟨_, rfl⟩
          rw [← q209_]
          have g210_ : gi F208_ := by rw [q209_]; exact gi_u (gi_u (hg_F3) rfl (by omega) (by omega)) rfl (by omega) (by omega)
          have g211_ : fs [(344, 344, 36, 36), (366, 366, 0, 100000)] F F208_ := by rw [q209_]; exact fs_u (fs_u (g63_) (fs_z (fs_y (by omega)))) rfl
          have e212_ : F208_ 344 36 = F3 344 36 := by rw [q209_]; exact fl_u_eq
          exact fl_R_sub (lv' := [(4, .int (Int32.ofInt (y + 1))), (3, .int (Int32.ofInt x)), (2, .int (Int32.ofInt (F 351 p.toNat))), (1, .int (Int32.ofInt p)), (0, .ref 344)]) rfl rfl (ih61_ _ (by omega) (y + 1) F208_ rfl g210_ (by rw [q209_]; exact fs_u (fs_u (hf_F3) (fs_z (fs_y (by omega)))) rfl) (⟨by omega, by omega⟩) (by omega))
        refine fl_iconst hm_164 rfl ?_
        refine fl_goto hm_164 rfl ?_
        refine gr_i hm_164 rfl rfl (ga_nb (by omega)) ?_
        clear h190_ h191_ f188_ l189_
        refine fl_if_eq hm_171 rfl ⟨by omega, by omega⟩ (fun h => absurd h (by omega)) (fun _ => ?_)
        refine fl_iconst hm_171 rfl ?_
        refine fl_goto hm_171 rfl ?_
        refine ga_istore (lv2 := [(5, .int (Int32.ofInt 1)), (4, .int (Int32.ofInt y)), (3, .int (Int32.ofInt x)), (2, .int (Int32.ofInt (F 351 p.toNat))), (1, .int (Int32.ofInt p)), (0, .ref 344)]) hm_171 rfl (Nat.le_of_ble_eq_true rfl) rfl ?_
        refine ga_aload_n (v := .ref 344) hm_171 rfl rfl rfl ?_
        refine ga_getr (b := 366) hm_171 rfl sc_344 rfl ?_
        refine fl_bipush hm_171 rfl rfl ?_
        refine ga_iload_n (z := p) hm_171 rfl rfl ?_
        refine ga_imul (a := 36) (b := p) (c := 36 * p) hm_171 rfl (by omega) ?_
        refine fl_bipush hm_171 rfl rfl ?_
        refine ga_iload_n (z := x) hm_171 rfl rfl ?_
        refine ga_imul (a := 6) (b := x) (c := 6 * x) hm_171 rfl (by omega) ?_
        refine ga_iadd (a := 36 * p) (b := 6 * x) (c := 36 * p + 6 * x) hm_171 rfl (by omega) ?_
        refine ga_iload (z := y) hm_171 rfl rfl ?_
        refine ga_iadd (a := 36 * p + 6 * x) (b := y) (c := 36 * p + 6 * x + y) hm_171 rfl (by omega) ?_
        refine ga_iload (z := 1) hm_171 rfl rfl ?_
        refine fl_if_eq hm_171 rfl ⟨by omega, by omega⟩ (fun h => absurd h (by omega)) (fun _ => ?_)
        refine ga_aload_n (v := .ref 344) hm_171 rfl rfl rfl ?_
        have b213_ : 0 ≤ F3 344 36 ∧ F3 344 36 ≤ 216 := gi_g hg_F3 rfl
        refine ga_geti (z := F3 344 36) hm_171 rfl sc_344 rfl (rfl) ?_
        refine fl_goto hm_171 rfl ?_
        refine fl_iast (z := 36 * p + 6 * x + y) (v := F3 344 36) hm_171 rfl sc_366 (by omega) (by omega) (by omega) ?_
        refine ga_aload_n (v := .ref 344) hm_171 rfl rfl rfl ?_
        refine ga_dup hm_171 rfl rfl ?_
        refine ga_geti (z := F3 344 36) hm_171 rfl sc_344 rfl (fl_u_ne (by first | exact nc_ rfl | decide | omega)) ?_
        refine ga_iload (z := 1) hm_171 rfl rfl ?_
        refine fl_if_eq hm_171 rfl ⟨by omega, by omega⟩ (fun h => absurd h (by omega)) (fun _ => ?_)
        refine fl_iconst hm_171 rfl ?_
        refine fl_goto hm_171 rfl ?_
        refine ga_iadd (a := F3 344 36) (b := 1) (c := F3 344 36 + 1) hm_171 rfl (by omega) ?_
        refine ga_puti (z := F3 344 36 + 1) hm_171 rfl sc_344 rfl rfl ?_
        refine ga_inc (a := y) (c := y + 1) (lv2 := [(4, .int (Int32.ofInt (y + 1))), (5, .int (Int32.ofInt 1)), (3, .int (Int32.ofInt x)), (2, .int (Int32.ofInt (F 351 p.toNat))), (1, .int (Int32.ofInt p)), (0, .ref 344)]) hm_171 rfl rfl (Nat.le_of_ble_eq_true rfl) rfl rfl ?_
        refine fl_goto hm_171 rfl ?_
        obtain ⟨F214_, q215_⟩ : ∃ Fq_, Fq_ = (fl_u (fl_u F3 366 (36 * p + 6 * x + y).toNat (F3 344 36)) 344 36 (F3 344 36 + 1)) := ⟨_, rfl⟩
        rw [← q215_]
        have g216_ : gi F214_ := by rw [q215_]; exact gi_u (gi_u (hg_F3) rfl (by omega) (by omega)) rfl (by omega) (by omega)
        have g217_ : fs [(344, 344, 36, 36), (366, 366, 0, 100000)] F F214_ := by rw [q215_]; exact fs_u (fs_u (g63_) (fs_z (fs_y (by omega)))) rfl
        have e218_ : F214_ 344 36 = F3 344 36 + 1 := by rw [q215_]; exact fl_u_eq
        exact fl_R_sub (lv' := [(4, .int (Int32.ofInt (y + 1))), (3, .int (Int32.ofInt x)), (2, .int (Int32.ofInt (F 351 p.toNat))), (1, .int (Int32.ofInt p)), (0, .ref 344)]) rfl rfl (ih61_ _ (by omega) (y + 1) F214_ rfl g216_ (by rw [q215_]; exact fs_u (fs_u (hf_F3) (fs_z (fs_y (by omega)))) rfl) (⟨by omega, by omega⟩) (by omega))
      have b219_ : 0 ≤ F2 344 36 ∧ F2 344 36 ≤ 216 := gi_g hg_F2 rfl
      exact L60_ _ (0) F2 rfl hg_F2 fs_refl (⟨by omega, by omega⟩) (by omega)
    have b220_ : 0 ≤ F1 344 36 ∧ F1 344 36 ≤ 216 := gi_g hg_F1 rfl
    exact L19_ _ (0) F1 rfl hg_F1 fs_refl (⟨by omega, by omega⟩) (by omega)
  have e221_ : F1_ 344 36 = 0 := by rw [q2_]; exact fl_u_eq
  exact L6_ _ (0) F1_ rfl g3_ fs_refl (⟨by omega, by omega⟩) (by omega)

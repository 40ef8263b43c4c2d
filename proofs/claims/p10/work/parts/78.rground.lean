/-! the reference's ground: what telling a plan needs -/
def sob (F : fl_N) : Prop := ∀ s : Nat, (s : Int) < F 344 39 → 0 ≤ F 357 (F 367 s).toNat ∧ ∀ p : Nat, (p : Int) < F 354 (F 367 s).toNat → 0 ≤ F 368 (3 * s + p)
theorem sob_cg {F F2 : fl_N} (h : sob F) (c : F2 344 39 = F 344 39) (c1 : ∀ j, F2 357 j = F 357 j) (c2 : ∀ j, F2 367 j = F 367 j) (c3 : ∀ j, F2 354 j = F 354 j) (c4 : ∀ j, F2 368 j = F 368 j) : sob F2 := by
  intro s hs
  rw [c] at hs
  have h1 := h s hs
  rw [c2, c1, c3]
  refine ⟨h1.1, fun p hp => ?_⟩
  rw [c4]
  exact h1.2 p hp
theorem sob_0 {F : fl_N} (h : F 344 39 = 0) : sob F := fun s hs => absurd hs (by omega)
theorem sob_add {F F2 : fl_N} {a : Int} (h : sob F) (h0 : 0 ≤ F 344 39) (c : F2 344 39 = F 344 39 + 1) (c2 : ∀ j : Nat, (j : Int) < F 344 39 → F2 367 j = F 367 j) (c1 : ∀ j, F2 357 j = F 357 j) (c3 : ∀ j, F2 354 j = F 354 j) (c4 : ∀ j : Nat, (j : Int) < 3 * F 344 39 → F2 368 j = F 368 j) (ha : F2 367 (F 344 39).toNat = a) (hc : 0 ≤ F 357 a.toNat) (hn : ∀ p : Nat, (p : Int) < 3 → (p : Int) < F 354 a.toNat → 0 ≤ F2 368 (3 * (F 344 39).toNat + p)) (h3 : F 354 a.toNat ≤ 3) (hb : ∀ s : Nat, F 354 (F 367 s).toNat ≤ 3) : sob F2 := by
  intro s hs
  rw [c] at hs
  by_cases e : (s : Int) < F 344 39
  · have h1 := h s e
    have h2 := hb s
    rw [c2 s e, c1, c3]
    refine ⟨h1.1, fun p hp => ?_⟩
    rw [c4 _ (by omega)]
    exact h1.2 p hp
  · have e2 : s = (F 344 39).toNat := by omega
    subst e2
    rw [ha, c1, c3]
    exact ⟨hc, fun p hp => hn p (by omega) hp⟩
theorem so_w {F : fl_N} {b i : Nat} {k n v : Int} (h : ∀ p : Nat, (p : Int) < k → (p : Int) < n → 0 ≤ F 368 (b + p)) (hk : 0 ≤ k) (hi : i = b + k.toNat) (hv : k < n → 0 ≤ v) : ∀ p : Nat, (p : Int) < k + 1 → (p : Int) < n → 0 ≤ fl_u F 368 i v 368 (b + p) := by
  intro p h1 h2
  by_cases e : (p : Int) < k
  · rw [fl_u_ne (by omega)]
    exact h p e h2
  · rw [show b + p = i by omega, fl_u_eq]
    exact hv (by omega)

/- CheapPlannerModel.valueOf -/
abbrev pq_193 (G : Nat → Nat → Option Nat) (F : fl_N) (X : xi_H) (a ll k : Int) : Outcome → xi_H → Prop := gqi (fun z A => fl_H sh_T G F ++ X = A ∧ (0 ≤ z ∧ z ≤ 5) ∧ (z = (if a = 5 then F 363 (2 * ll + k).toNat else F 384 (F 363 (2 * ll + k).toNat).toNat))) gqn
theorem mc_193 {G : Nat → Nat → Option Nat} (hG : gg G) (F : fl_N) (X : xi_H) (hgi : gi F) (a ll k : Int) (hl : 0 ≤ ll ∧ ll ≤ 43) (hk : 0 ≤ k ∧ k ≤ 1) (hla : a = 5 ∨ (0 ≤ a ∧ a ≤ 4 ∧ ll ≤ 39)) : fl_M xi_ms 193 0 0 [.ref 344, .int (Int32.ofInt a), .int (Int32.ofInt ll), .int (Int32.ofInt k)] (fl_H sh_T G F ++ X) (pq_193 G F X a ll k) := by
  intro fr lo hfr hlo
  show fl_R xi_ms 193 fr lo 0 [(0, .ref 344), (1, .int (Int32.ofInt a)), (2, .int (Int32.ofInt ll)), (3, .int (Int32.ofInt k))] [] _ _
  refine ga_iload_n (z := a) hm_193 rfl rfl ?_
  refine fl_iconst hm_193 rfl ?_
  refine fx_icmp_ne (a := a) (b := 5) hm_193 rfl ⟨by omega, by omega⟩ ⟨by omega, by omega⟩ (fun h1_ => ?_) (fun h2_ => ?_)
  ·
    refine ga_aload_n (v := .ref 344) hm_193 rfl rfl rfl ?_
    refine ga_getr (b := 384) hm_193 rfl sc_344 rfl ?_
    refine ga_aload_n (v := .ref 344) hm_193 rfl rfl rfl ?_
    refine ga_getr (b := 363) hm_193 rfl sc_344 rfl ?_
    refine fl_iconst hm_193 rfl ?_
    refine ga_iload_n (z := ll) hm_193 rfl rfl ?_
    refine ga_imul (a := 2) (b := ll) (c := 2 * ll) hm_193 rfl (by omega) ?_
    refine ga_iload_n (z := k) hm_193 rfl rfl ?_
    refine ga_iadd (a := 2 * ll) (b := k) (c := 2 * ll + k) hm_193 rfl (by omega) ?_
    have b3_ := gi_t363 hgi ((2 * ll + k).toNat)
    refine ga_iald (z := 2 * ll + k) (w := F 363 (2 * ll + k).toNat) hm_193 rfl sc_363 (by omega) (by omega) (by omega) (rfl) ?_
    have b4_ : 0 ≤ F 384 (F 363 (2 * ll + k).toNat).toNat ∧ F 384 (F 363 (2 * ll + k).toNat).toNat ≤ 5 := gi_g hgi rfl
    refine ga_iald (z := F 363 (2 * ll + k).toNat) (w := F 384 (F 363 (2 * ll + k).toNat).toNat) hm_193 rfl sc_384 (by omega) (by omega) (by omega) (rfl) ?_
    refine gr_i (z := F 384 (F 363 (2 * ll + k).toNat).toNat) hm_193 rfl rfl rfl ?_
    exact ⟨rfl, (⟨by omega, by omega⟩), (by rw [if_neg (by omega)])⟩
  refine ga_aload_n (v := .ref 344) hm_193 rfl rfl rfl ?_
  refine ga_getr (b := 363) hm_193 rfl sc_344 rfl ?_
  refine fl_iconst hm_193 rfl ?_
  refine ga_iload_n (z := ll) hm_193 rfl rfl ?_
  refine ga_imul (a := 2) (b := ll) (c := 2 * ll) hm_193 rfl (by omega) ?_
  refine ga_iload_n (z := k) hm_193 rfl rfl ?_
  refine ga_iadd (a := 2 * ll) (b := k) (c := 2 * ll + k) hm_193 rfl (by omega) ?_
  have b5_ := gi_t363 hgi ((2 * ll + k).toNat)
  refine ga_iald (z := 2 * ll + k) (w := F 363 (2 * ll + k).toNat) hm_193 rfl sc_363 (by omega) (by omega) (by omega) (rfl) ?_
  refine fl_goto hm_193 rfl ?_
  refine gr_i (z := F 363 (2 * ll + k).toNat) hm_193 rfl rfl rfl ?_
  exact ⟨rfl, (⟨by omega, by omega⟩), (by rw [if_pos (by omega)])⟩
/- CheapPlannerModel.factAt -/
abbrev pq_160 (G : Nat → Nat → Option Nat) (F : fl_N) (X : xi_H) (p a b : Int) : Outcome → xi_H → Prop := gqi (fun z A => fl_H sh_T G F ++ X = A ∧ (0 ≤ z ∧ z ≤ 215) ∧ (z = F 366 (36 * p + (if 0 < F 351 p.toNat then 6 * a else 0) + (if 1 < F 351 p.toNat then b else 0)).toNat)) gqn
theorem mc_160 {G : Nat → Nat → Option Nat} (hG : gg G) (F : fl_N) (X : xi_H) (hgi : gi F) (p a b : Int) (hp : 0 ≤ p ∧ p ≤ 5) (ha : 0 ≤ a ∧ a ≤ 5) (hb : 0 ≤ b ∧ b ≤ 5) : fl_M xi_ms 160 0 0 [.ref 344, .int (Int32.ofInt p), .int (Int32.ofInt a), .int (Int32.ofInt b)] (fl_H sh_T G F ++ X) (pq_160 G F X p a b) := by
  intro fr lo hfr hlo
  show fl_R xi_ms 160 fr lo 0 [(0, .ref 344), (1, .int (Int32.ofInt p)), (2, .int (Int32.ofInt a)), (3, .int (Int32.ofInt b))] [] _ _
  refine ga_aload_n (v := .ref 344) hm_160 rfl rfl rfl ?_
  refine ga_getr (b := 351) hm_160 rfl sc_344 rfl ?_
  refine ga_iload_n (z := p) hm_160 rfl rfl ?_
  have b1_ : 0 ≤ F 351 p.toNat ∧ F 351 p.toNat ≤ 2 := gi_g hgi rfl
  refine ga_iald (z := p) (w := F 351 p.toNat) hm_160 rfl sc_351 (by omega) (by omega) (by omega) (rfl) ?_
  refine ga_istore (lv2 := [(4, .int (Int32.ofInt (F 351 p.toNat))), (0, .ref 344), (1, .int (Int32.ofInt p)), (2, .int (Int32.ofInt a)), (3, .int (Int32.ofInt b))]) hm_160 rfl (Nat.le_of_ble_eq_true rfl) rfl ?_
  refine ga_aload_n (v := .ref 344) hm_160 rfl rfl rfl ?_
  refine ga_getr (b := 366) hm_160 rfl sc_344 rfl ?_
  refine fl_bipush hm_160 rfl rfl ?_
  refine ga_iload_n (z := p) hm_160 rfl rfl ?_
  refine ga_imul (a := 36) (b := p) (c := 36 * p) hm_160 rfl (by omega) ?_
  refine ga_iload (z := F 351 p.toNat) hm_160 rfl rfl ?_
  refine fl_if_le (a := F 351 p.toNat) hm_160 rfl ⟨by omega, by omega⟩ (fun h2_ => ?_) (fun h3_ => ?_)
  ·
    refine fl_iconst hm_160 rfl ?_
    refine ga_iadd (a := 36 * p) (b := 0) (c := 36 * p) hm_160 rfl (by omega) ?_
    refine ga_iload (z := F 351 p.toNat) hm_160 rfl rfl ?_
    refine fl_iconst hm_160 rfl ?_
    refine fl_icmp_le (a := F 351 p.toNat) (b := 1) hm_160 rfl ⟨by omega, by omega⟩ ⟨by omega, by omega⟩ (fun h4_ => ?_) (fun h5_ => ?_)
    ·
      refine fl_iconst hm_160 rfl ?_
      refine ga_iadd (a := 36 * p) (b := 0) (c := 36 * p) hm_160 rfl (by omega) ?_
      have b6_ : 0 ≤ F 366 (36 * p).toNat ∧ F 366 (36 * p).toNat ≤ 215 := gi_g hgi rfl
      refine ga_iald (z := 36 * p) (w := F 366 (36 * p).toNat) hm_160 rfl sc_366 (by omega) (by omega) (by omega) (rfl) ?_
      refine gr_i (z := F 366 (36 * p).toNat) hm_160 rfl rfl rfl ?_
      exact ⟨rfl, (⟨by omega, by omega⟩), (congrArg (F 366) (by (repeat' split) <;> first | rfl | omega | (exfalso; omega)))⟩
    exfalso; omega
  refine fl_bipush hm_160 rfl rfl ?_
  refine ga_iload_n (z := a) hm_160 rfl rfl ?_
  refine ga_imul (a := 6) (b := a) (c := 6 * a) hm_160 rfl (by omega) ?_
  refine fl_goto hm_160 rfl ?_
  refine ga_iadd (a := 36 * p) (b := 6 * a) (c := 36 * p + 6 * a) hm_160 rfl (by omega) ?_
  refine ga_iload (z := F 351 p.toNat) hm_160 rfl rfl ?_
  refine fl_iconst hm_160 rfl ?_
  refine fl_icmp_le (a := F 351 p.toNat) (b := 1) hm_160 rfl ⟨by omega, by omega⟩ ⟨by omega, by omega⟩ (fun h7_ => ?_) (fun h8_ => ?_)
  ·
    refine fl_iconst hm_160 rfl ?_
    refine ga_iadd (a := 36 * p + 6 * a) (b := 0) (c := 36 * p + 6 * a) hm_160 rfl (by omega) ?_
    have b9_ : 0 ≤ F 366 (36 * p + 6 * a).toNat ∧ F 366 (36 * p + 6 * a).toNat ≤ 215 := gi_g hgi rfl
    refine ga_iald (z := 36 * p + 6 * a) (w := F 366 (36 * p + 6 * a).toNat) hm_160 rfl sc_366 (by omega) (by omega) (by omega) (rfl) ?_
    refine gr_i (z := F 366 (36 * p + 6 * a).toNat) hm_160 rfl rfl rfl ?_
    exact ⟨rfl, (⟨by omega, by omega⟩), (congrArg (F 366) (by (repeat' split) <;> first | rfl | omega | (exfalso; omega)))⟩
  refine ga_iload_n (z := b) hm_160 rfl rfl ?_
  refine fl_goto hm_160 rfl ?_
  refine ga_iadd (a := 36 * p + 6 * a) (b := b) (c := 36 * p + 6 * a + b) hm_160 rfl (by omega) ?_
  have b10_ : 0 ≤ F 366 (36 * p + 6 * a + b).toNat ∧ F 366 (36 * p + 6 * a + b).toNat ≤ 215 := gi_g hgi rfl
  refine ga_iald (z := 36 * p + 6 * a + b) (w := F 366 (36 * p + 6 * a + b).toNat) hm_160 rfl sc_366 (by omega) (by omega) (by omega) (rfl) ?_
  refine gr_i (z := F 366 (36 * p + 6 * a + b).toNat) hm_160 rfl rfl rfl ?_
  exact ⟨rfl, (⟨by omega, by omega⟩), (congrArg (F 366) (by (repeat' split) <;> first | rfl | omega | (exfalso; omega)))⟩
/- CheapPlannerModel.factBit -/
abbrev pq_161 (G : Nat → Nat → Option Nat) (F : fl_N) (X : xi_H) (a ll : Int) (ps : List (List Int)) (x : lt_T) : Outcome → xi_H → Prop := gql (fun z A => fl_H sh_T G F ++ X = A ∧ (-9223372036854775808 ≤ z ∧ z ≤ 9223372036854775807) ∧ (z = lsl 1 (F 366 (plq x (obr F a))))) gqn
theorem mc_161 {G : Nat → Nat → Option Nat} (hG : gg G) (F : fl_N) (X : xi_H) (hgi : gi F) (a ll : Int) (ps : List (List Int)) (x : lt_T) (hl : 0 ≤ ll ∧ ll ≤ 43) (hla : a = 5 ∨ (0 ≤ a ∧ a ≤ 4 ∧ ll ≤ 39)) (hps : rprd F ps) (hx : rat F ll.toNat x) (hw : lwf ps x) (hq : ¬ x.1 = -1) : fl_M xi_ms 161 1 24 [.ref 344, .int (Int32.ofInt a), .int (Int32.ofInt ll)] (fl_H sh_T G F ++ X) (pq_161 G F X a ll ps x) := by
  intro fr lo hfr hlo
  show fl_R xi_ms 161 fr lo 0 [(0, .ref 344), (1, .int (Int32.ofInt a)), (2, .int (Int32.ofInt ll))] [] _ _
  have hx1 := hx.1
  have hw1 := hw hq
  obtain ⟨hz1_, -, hz3_⟩ := hps x.1.toNat (by omega)
  have hz2_ : F 351 (F 362 ll.toNat).toNat = ((ps.getD x.1.toNat []).length : Int) := by rw [hx1]; exact hz1_
  refine ga_aload_n (v := .ref 344) hm_161 rfl rfl rfl ?_
  refine ga_getr (b := 351) hm_161 rfl sc_344 rfl ?_
  refine ga_aload_n (v := .ref 344) hm_161 rfl rfl rfl ?_
  refine ga_getr (b := 362) hm_161 rfl sc_344 rfl ?_
  refine ga_iload_n (z := ll) hm_161 rfl rfl ?_
  have b1_ : 0 ≤ F 362 ll.toNat ∧ F 362 ll.toNat ≤ 5 := gi_g hgi rfl
  refine ga_iald (z := ll) (w := F 362 ll.toNat) hm_161 rfl sc_362 (by omega) (by omega) (by omega) (rfl) ?_
  have b2_ : 0 ≤ F 351 (F 362 ll.toNat).toNat ∧ F 351 (F 362 ll.toNat).toNat ≤ 2 := gi_g hgi rfl
  refine ga_iald (z := F 362 ll.toNat) (w := F 351 (F 362 ll.toNat).toNat) hm_161 rfl sc_351 (by omega) (by omega) (by omega) (rfl) ?_
  refine ga_istore_n (lv2 := [(3, .int (Int32.ofInt (F 351 (F 362 ll.toNat).toNat))), (0, .ref 344), (1, .int (Int32.ofInt a)), (2, .int (Int32.ofInt ll))]) hm_161 rfl (Nat.le_of_ble_eq_true rfl) rfl ?_
  refine ga_lconst (z := 1) hm_161 rfl rfl ?_
  refine ga_aload_n (v := .ref 344) hm_161 rfl rfl rfl ?_
  refine ga_aload_n (v := .ref 344) hm_161 rfl rfl rfl ?_
  refine ga_getr (b := 362) hm_161 rfl sc_344 rfl ?_
  refine ga_iload_n (z := ll) hm_161 rfl rfl ?_
  refine ga_iald (z := ll) (w := F 362 ll.toNat) hm_161 rfl sc_362 (by omega) (by omega) (by omega) (rfl) ?_
  refine ga_iload_n (z := F 351 (F 362 ll.toNat).toNat) hm_161 rfl rfl ?_
  refine fl_if_le (a := F 351 (F 362 ll.toNat).toNat) hm_161 rfl ⟨by omega, by omega⟩ (fun h3_ => ?_) (fun h4_ => ?_)
  ·
    refine fl_iconst hm_161 rfl ?_
    refine ga_iload_n (z := F 351 (F 362 ll.toNat).toNat) hm_161 rfl rfl ?_
    refine fl_iconst hm_161 rfl ?_
    refine fl_icmp_le (a := F 351 (F 362 ll.toNat).toNat) (b := 1) hm_161 rfl ⟨by omega, by omega⟩ ⟨by omega, by omega⟩ (fun h5_ => ?_) (fun h6_ => ?_)
    ·
      refine fl_iconst hm_161 rfl ?_
      refine gVi (nY := 5) (F := 0) (L := 0) (As := [.int (Int32.ofInt (F 362 ll.toNat)), .int (Int32.ofInt 0), .int (Int32.ofInt 0)]) (b := 344) (rest := [.long (Int64.ofInt 1)]) hm_161 rfl hm_160 rfl rfl (fl_ob sc_344) rfl rfl rfl rfl rfl (by omega) (by omega) (mc_160 hG F X hgi (F 362 ll.toNat) (0) (0) (⟨by omega, by omega⟩) (⟨by omega, by omega⟩) (⟨by omega, by omega⟩)) (fun _ _ h => False.elim h) ?_
      rintro z7_ A1_ ⟨hA_, c8_, c9_⟩
      subst hA_
      refine ga_lx (z := (lsl 1 z7_)) hm_161 rfl rfl rfl (lsl_e _ _) (fun ⟨h10_, h11_⟩ => ?_)
      refine gr_l hm_161 rfl rfl ?_
      exact ⟨rfl, (⟨by omega, by omega⟩), (by rw [c9_]; exact congrArg (fun q_ => lsl 1 (F 366 q_)) (pl_ref (ps := ps) hx1 hz2_ hw1 (fun h9_ => by exfalso; omega) (fun h9_ => by exfalso; omega)))⟩
    exfalso; omega
  refine ga_aload_n (v := .ref 344) hm_161 rfl rfl rfl ?_
  refine ga_iload_n (z := a) hm_161 rfl rfl ?_
  refine ga_iload_n (z := ll) hm_161 rfl rfl ?_
  refine fl_iconst hm_161 rfl ?_
  refine gVi (nY := 4) (F := 0) (L := 0) (As := [.int (Int32.ofInt a), .int (Int32.ofInt ll), .int (Int32.ofInt 0)]) (b := 344) (rest := [.int (Int32.ofInt (F 362 ll.toNat)), .ref 344, .long (Int64.ofInt 1)]) hm_161 rfl hm_193 rfl rfl (fl_ob sc_344) rfl rfl rfl rfl rfl (by omega) (by omega) (mc_193 hG F X hgi (a) (ll) (0) (⟨by omega, by omega⟩) (⟨by omega, by omega⟩) (by omega)) (fun _ _ h => False.elim h) ?_
  rintro z12_ A1_ ⟨hA_, c13_, c14_⟩
  subst hA_
  refine fl_goto hm_161 rfl ?_
  refine ga_iload_n (z := F 351 (F 362 ll.toNat).toNat) hm_161 rfl rfl ?_
  refine fl_iconst hm_161 rfl ?_
  refine fl_icmp_le (a := F 351 (F 362 ll.toNat).toNat) (b := 1) hm_161 rfl ⟨by omega, by omega⟩ ⟨by omega, by omega⟩ (fun h15_ => ?_) (fun h16_ => ?_)
  ·
    refine fl_iconst hm_161 rfl ?_
    refine gVi (nY := 5) (F := 0) (L := 0) (As := [.int (Int32.ofInt (F 362 ll.toNat)), .int (Int32.ofInt z12_), .int (Int32.ofInt 0)]) (b := 344) (rest := [.long (Int64.ofInt 1)]) hm_161 rfl hm_160 rfl rfl (fl_ob sc_344) rfl rfl rfl rfl rfl (by omega) (by omega) (mc_160 hG F X hgi (F 362 ll.toNat) (z12_) (0) (⟨by omega, by omega⟩) (⟨by omega, by omega⟩) (⟨by omega, by omega⟩)) (fun _ _ h => False.elim h) ?_
    rintro z17_ A1_ ⟨hA_, c18_, c19_⟩
    subst hA_
    refine ga_lx (z := (lsl 1 z17_)) hm_161 rfl rfl rfl (lsl_e _ _) (fun ⟨h20_, h21_⟩ => ?_)
    refine gr_l hm_161 rfl rfl ?_
    exact ⟨rfl, (⟨by omega, by omega⟩), (by rw [c19_]; exact congrArg (fun q_ => lsl 1 (F 366 q_)) (pl_ref (ps := ps) hx1 hz2_ hw1 (fun h9_ => val_ref c14_ (by have h8_ := hx.2.1; rw [show 2 * ll.toNat = (2 * ll + 0).toNat by omega] at h8_; omega) (by omega)) (fun h9_ => by exfalso; omega)))⟩
  refine ga_aload_n (v := .ref 344) hm_161 rfl rfl rfl ?_
  refine ga_iload_n (z := a) hm_161 rfl rfl ?_
  refine ga_iload_n (z := ll) hm_161 rfl rfl ?_
  refine fl_iconst hm_161 rfl ?_
  refine gVi (nY := 4) (F := 0) (L := 0) (As := [.int (Int32.ofInt a), .int (Int32.ofInt ll), .int (Int32.ofInt 1)]) (b := 344) (rest := [.int (Int32.ofInt z12_), .int (Int32.ofInt (F 362 ll.toNat)), .ref 344, .long (Int64.ofInt 1)]) hm_161 rfl hm_193 rfl rfl (fl_ob sc_344) rfl rfl rfl rfl rfl (by omega) (by omega) (mc_193 hG F X hgi (a) (ll) (1) (⟨by omega, by omega⟩) (⟨by omega, by omega⟩) (by omega)) (fun _ _ h => False.elim h) ?_
  rintro z22_ A1_ ⟨hA_, c23_, c24_⟩
  subst hA_
  refine fl_goto hm_161 rfl ?_
  refine gVi (nY := 5) (F := 0) (L := 0) (As := [.int (Int32.ofInt (F 362 ll.toNat)), .int (Int32.ofInt z12_), .int (Int32.ofInt z22_)]) (b := 344) (rest := [.long (Int64.ofInt 1)]) hm_161 rfl hm_160 rfl rfl (fl_ob sc_344) rfl rfl rfl rfl rfl (by omega) (by omega) (mc_160 hG F X hgi (F 362 ll.toNat) (z12_) (z22_) (⟨by omega, by omega⟩) (⟨by omega, by omega⟩) (⟨by omega, by omega⟩)) (fun _ _ h => False.elim h) ?_
  rintro z25_ A1_ ⟨hA_, c26_, c27_⟩
  subst hA_
  refine ga_lx (z := (lsl 1 z25_)) hm_161 rfl rfl rfl (lsl_e _ _) (fun ⟨h28_, h29_⟩ => ?_)
  refine gr_l hm_161 rfl rfl ?_
  exact ⟨rfl, (⟨by omega, by omega⟩), (by rw [c27_]; exact congrArg (fun q_ => lsl 1 (F 366 q_)) (pl_ref (ps := ps) hx1 hz2_ hw1 (fun h9_ => val_ref c14_ (by have h8_ := hx.2.1; rw [show 2 * ll.toNat = (2 * ll + 0).toNat by omega] at h8_; omega) (by omega)) (fun h9_ => val_ref c24_ (by have h8_ := hx.2.2; rw [show 2 * ll.toNat + 1 = (2 * ll + 1).toNat by omega] at h8_; omega) (by omega))))⟩
/- CheapPlannerModel.equalsHold -/
abbrev pq_159 (G : Nat → Nat → Option Nat) (F : fl_N) (X : xi_H) (a at_ : Int) (L : List lt_T) : Outcome → xi_H → Prop := gqi (fun z A => fl_H sh_T G F ++ X = A ∧ (0 ≤ z ∧ z ≤ 1) ∧ (z = (if eqh L (obr F a) = true then 1 else 0))) gqn
theorem mc_159 {G : Nat → Nat → Option Nat} (hG : gg G) (F : fl_N) (X : xi_H) (hgi : gi F) (a at_ : Int) (L : List lt_T) (hat : 0 ≤ at_ ∧ at_ ≤ 40) (hla : a = 5 ∨ (0 ≤ a ∧ a ≤ 4 ∧ at_ ≤ 36)) (hrc : rcl F at_.toNat L) (hrn : (L.length : Int) = F 358 a.toNat) (hlt : ∀ x ∈ L, x.1 = -1 → 0 ≤ x.2.2.1 ∧ 0 ≤ x.2.2.2) : fl_M xi_ms 159 1 23 [.ref 344, .int (Int32.ofInt a), .int (Int32.ofInt at_)] (fl_H sh_T G F ++ X) (pq_159 G F X a at_ L) := by
  intro fr lo hfr hlo
  show fl_R xi_ms 159 fr lo 0 [(0, .ref 344), (1, .int (Int32.ofInt a)), (2, .int (Int32.ofInt at_))] [] _ _
  have hb358 : 0 ≤ F 358 a.toNat ∧ F 358 a.toNat ≤ 4 := gi_g hgi rfl
  refine fl_iconst hm_159 rfl ?_
  refine ga_istore_n (lv2 := [(3, .int (Int32.ofInt 1)), (0, .ref 344), (1, .int (Int32.ofInt a)), (2, .int (Int32.ofInt at_))]) hm_159 rfl (Nat.le_of_ble_eq_true rfl) rfl ?_
  refine fl_iconst hm_159 rfl ?_
  refine ga_istore (lv2 := [(4, .int (Int32.ofInt 0)), (3, .int (Int32.ofInt 1)), (0, .ref 344), (1, .int (Int32.ofInt a)), (2, .int (Int32.ofInt at_))]) hm_159 rfl (Nat.le_of_ble_eq_true rfl) rfl ?_
  have L2_ : ∀ (n1_ : Nat) (k : Int) (gd : Int), (4 - k : Int).toNat = n1_ → (0 ≤ k ∧ k ≤ F 358 a.toNat) → (gd = (if eqh (L.take k.toNat) (obr F a) = true then 1 else 0)) → (0 ≤ gd ∧ gd ≤ 1) → fl_R xi_ms 159 fr lo 5 [(4, .int (Int32.ofInt k)), (3, .int (Int32.ofInt gd)), (0, .ref 344), (1, .int (Int32.ofInt a)), (2, .int (Int32.ofInt at_))] [] (fl_H sh_T G F ++ X) (pq_159 G F X a at_ L) := by
    intro n1_
    induction n1_ using Nat.strongRecOn with
    | ind n1_ ih3_ =>
    intro k gd hn4_ hk hgd hgb
    refine ga_iload (z := k) hm_159 rfl rfl ?_
    refine ga_aload_n (v := .ref 344) hm_159 rfl rfl rfl ?_
    refine ga_getr (b := 358) hm_159 rfl sc_344 rfl ?_
    refine ga_iload_n (z := a) hm_159 rfl rfl ?_
    have b5_ : 0 ≤ F 358 a.toNat ∧ F 358 a.toNat ≤ 4 := gi_g hgi rfl
    refine ga_iald (z := a) (w := F 358 a.toNat) hm_159 rfl sc_358 (by omega) (by omega) (by omega) (rfl) ?_
    refine fl_icmp_ge (a := k) (b := F 358 a.toNat) hm_159 rfl ⟨by omega, by omega⟩ ⟨by omega, by omega⟩ (fun h6_ => ?_) (fun h7_ => ?_)
    ·
      refine ga_iload_n (z := gd) hm_159 rfl rfl ?_
      refine gr_i (z := gd) hm_159 rfl rfl (ga_nb (by omega)) ?_
      exact ⟨rfl, (⟨by omega, by omega⟩), (by rw [show L.take k.toNat = L from List.take_of_length_le (by omega)] at hgd; exact hgd)⟩
    obtain ⟨x_, hx_, hr_⟩ := rcl_get hrc (k := k.toNat) (by omega)
    rw [show at_.toNat + k.toNat = (at_ + k).toNat by omega] at hr_
    have hr1_ := hr_.1
    refine ga_iload_n (z := at_) hm_159 rfl rfl ?_
    refine ga_iload (z := k) hm_159 rfl rfl ?_
    refine ga_iadd (a := at_) (b := k) (c := at_ + k) hm_159 rfl (by omega) ?_
    refine ga_istore (lv2 := [(5, .int (Int32.ofInt (at_ + k))), (4, .int (Int32.ofInt k)), (3, .int (Int32.ofInt gd)), (0, .ref 344), (1, .int (Int32.ofInt a)), (2, .int (Int32.ofInt at_))]) hm_159 rfl (Nat.le_of_ble_eq_true rfl) rfl ?_
    refine ga_aload_n (v := .ref 344) hm_159 rfl rfl rfl ?_
    refine ga_getr (b := 360) hm_159 rfl sc_344 rfl ?_
    refine ga_iload (z := at_ + k) hm_159 rfl rfl ?_
    have b8_ : 0 ≤ F 360 (at_ + k).toNat ∧ F 360 (at_ + k).toNat ≤ 1 := gi_g hgi rfl
    refine ga_zald (z := at_ + k) (w := F 360 (at_ + k).toNat) hm_159 rfl sc_360 (by omega) (by omega) (by omega) (rfl) ?_
    refine fl_if_eq (a := F 360 (at_ + k).toNat) hm_159 rfl ⟨by omega, by omega⟩ (fun h9_ => ?_) (fun h10_ => ?_)
    ·
      refine ga_inc (a := k) (c := k + 1) (lv2 := [(4, .int (Int32.ofInt (k + 1))), (5, .int (Int32.ofInt (at_ + k))), (3, .int (Int32.ofInt gd)), (0, .ref 344), (1, .int (Int32.ofInt a)), (2, .int (Int32.ofInt at_))]) hm_159 rfl rfl (Nat.le_of_ble_eq_true rfl) rfl rfl ?_
      refine fl_goto hm_159 rfl ?_
      exact fl_R_sub (lv' := [(4, .int (Int32.ofInt (k + 1))), (3, .int (Int32.ofInt gd)), (0, .ref 344), (1, .int (Int32.ofInt a)), (2, .int (Int32.ofInt at_))]) rfl rfl (ih3_ _ (by omega) (k + 1) (gd) rfl (⟨by omega, by omega⟩) (by rw [show (k + 1).toNat = k.toNat + 1 by omega]; rw [eqh_a hx_ (by rcases hr_.2 with h8_ | h8_; (exfalso; have h7_ := h8_.2.1; omega); exact h8_.1)]; exact hgd) (⟨by omega, by omega⟩))
    refine ga_iload_n (z := gd) hm_159 rfl rfl ?_
    refine fl_if_eq (a := gd) hm_159 rfl ⟨by omega, by omega⟩ (fun h11_ => ?_) (fun h12_ => ?_)
    ·
      refine fl_iconst hm_159 rfl ?_
      refine ga_istore_n (lv2 := [(3, .int (Int32.ofInt 0)), (5, .int (Int32.ofInt (at_ + k))), (4, .int (Int32.ofInt k)), (0, .ref 344), (1, .int (Int32.ofInt a)), (2, .int (Int32.ofInt at_))]) hm_159 rfl (Nat.le_of_ble_eq_true rfl) rfl ?_
      refine ga_inc (a := k) (c := k + 1) (lv2 := [(4, .int (Int32.ofInt (k + 1))), (3, .int (Int32.ofInt 0)), (5, .int (Int32.ofInt (at_ + k))), (0, .ref 344), (1, .int (Int32.ofInt a)), (2, .int (Int32.ofInt at_))]) hm_159 rfl rfl (Nat.le_of_ble_eq_true rfl) rfl rfl ?_
      refine fl_goto hm_159 rfl ?_
      exact fl_R_sub (lv' := [(4, .int (Int32.ofInt (k + 1))), (3, .int (Int32.ofInt 0)), (0, .ref 344), (1, .int (Int32.ofInt a)), (2, .int (Int32.ofInt at_))]) rfl rfl (ih3_ _ (by omega) (k + 1) (0) rfl (⟨by omega, by omega⟩) (by rw [show (k + 1).toNat = k.toNat + 1 by omega]; exact eqn_0 hx_ hgd (by rcases hr_.2 with h8_ | h8_; exact h8_.1; (exfalso; have h7_ := h8_.2.1; omega)) (Or.inl (by omega))) (⟨by omega, by omega⟩))
    refine ga_aload_n (v := .ref 344) hm_159 rfl rfl rfl ?_
    refine ga_iload_n (z := a) hm_159 rfl rfl ?_
    refine ga_iload (z := at_ + k) hm_159 rfl rfl ?_
    refine fl_iconst hm_159 rfl ?_
    refine gVi (nY := 4) (F := 0) (L := 0) (As := [.int (Int32.ofInt a), .int (Int32.ofInt (at_ + k)), .int (Int32.ofInt 0)]) (b := 344) (rest := []) hm_159 rfl hm_193 rfl rfl (fl_ob sc_344) rfl rfl rfl rfl rfl (by omega) (by omega) (mc_193 hG F X hgi (a) (at_ + k) (0) (⟨by omega, by omega⟩) (⟨by omega, by omega⟩) (by omega)) (fun _ _ h => False.elim h) ?_
    rintro z13_ A1_ ⟨hA_, c14_, c15_⟩
    subst hA_
    refine ga_aload_n (v := .ref 344) hm_159 rfl rfl rfl ?_
    refine ga_iload_n (z := a) hm_159 rfl rfl ?_
    refine ga_iload (z := at_ + k) hm_159 rfl rfl ?_
    refine fl_iconst hm_159 rfl ?_
    refine gVi (nY := 4) (F := 0) (L := 0) (As := [.int (Int32.ofInt a), .int (Int32.ofInt (at_ + k)), .int (Int32.ofInt 1)]) (b := 344) (rest := [.int (Int32.ofInt z13_)]) hm_159 rfl hm_193 rfl rfl (fl_ob sc_344) rfl rfl rfl rfl rfl (by omega) (by omega) (mc_193 hG F X hgi (a) (at_ + k) (1) (⟨by omega, by omega⟩) (⟨by omega, by omega⟩) (by omega)) (fun _ _ h => False.elim h) ?_
    rintro z16_ A1_ ⟨hA_, c17_, c18_⟩
    subst hA_
    refine fx_icmp_ne (a := z13_) (b := z16_) hm_159 rfl ⟨by omega, by omega⟩ ⟨by omega, by omega⟩ (fun h19_ => ?_) (fun h20_ => ?_)
    ·
      refine fl_iconst hm_159 rfl ?_
      refine ga_aload_n (v := .ref 344) hm_159 rfl rfl rfl ?_
      refine ga_getr (b := 361) hm_159 rfl sc_344 rfl ?_
      refine ga_iload (z := at_ + k) hm_159 rfl rfl ?_
      have b21_ : 0 ≤ F 361 (at_ + k).toNat ∧ F 361 (at_ + k).toNat ≤ 1 := gi_g hgi rfl
      refine ga_zald (z := at_ + k) (w := F 361 (at_ + k).toNat) hm_159 rfl sc_361 (by omega) (by omega) (by omega) (rfl) ?_
      refine fl_icmp_eq (a := 0) (b := F 361 (at_ + k).toNat) hm_159 rfl ⟨by omega, by omega⟩ ⟨by omega, by omega⟩ (fun h22_ => ?_) (fun h23_ => ?_)
      ·
        refine fl_iconst hm_159 rfl ?_
        refine ga_istore_n (lv2 := [(3, .int (Int32.ofInt 0)), (5, .int (Int32.ofInt (at_ + k))), (4, .int (Int32.ofInt k)), (0, .ref 344), (1, .int (Int32.ofInt a)), (2, .int (Int32.ofInt at_))]) hm_159 rfl (Nat.le_of_ble_eq_true rfl) rfl ?_
        refine ga_inc (a := k) (c := k + 1) (lv2 := [(4, .int (Int32.ofInt (k + 1))), (3, .int (Int32.ofInt 0)), (5, .int (Int32.ofInt (at_ + k))), (0, .ref 344), (1, .int (Int32.ofInt a)), (2, .int (Int32.ofInt at_))]) hm_159 rfl rfl (Nat.le_of_ble_eq_true rfl) rfl rfl ?_
        refine fl_goto hm_159 rfl ?_
        exact fl_R_sub (lv' := [(4, .int (Int32.ofInt (k + 1))), (3, .int (Int32.ofInt 0)), (0, .ref 344), (1, .int (Int32.ofInt a)), (2, .int (Int32.ofInt at_))]) rfl rfl (ih3_ _ (by omega) (k + 1) (0) rfl (⟨by omega, by omega⟩) (by rw [show (k + 1).toNat = k.toNat + 1 by omega]; have hq_ : x_.1 = -1 := (by rcases hr_.2 with h8_ | h8_; exact h8_.1; (exfalso; have h7_ := h8_.2.1; omega)); have hr2_ : F 363 (2 * (at_ + k).toNat) = x_.2.2.1 ∧ F 363 (2 * (at_ + k).toNat + 1) = x_.2.2.2 := (by rcases hr_.2 with h8_ | h8_; exact h8_.2.2; exact absurd hq_ h8_.1); have hn_ := hlt x_ (List.mem_of_getElem? hx_) hq_; have v0_ := val_ref c15_ (by have h8_ := hr2_.1; rw [show 2 * (at_ + k).toNat = (2 * (at_ + k) + 0).toNat by omega] at h8_; first | exact h8_ | omega) hn_.1; have v1_ := val_ref c18_ (by have h8_ := hr2_.2; rw [show 2 * (at_ + k).toNat + 1 = (2 * (at_ + k) + 1).toNat by omega] at h8_; first | exact h8_ | omega) hn_.2; exact eqn_0 hx_ hgd hq_ (Or.inr (by rw [← v0_, ← v1_]; omega))) (⟨by omega, by omega⟩))
      refine fl_iconst hm_159 rfl ?_
      refine fl_goto hm_159 rfl ?_
      refine ga_istore_n (lv2 := [(3, .int (Int32.ofInt 1)), (5, .int (Int32.ofInt (at_ + k))), (4, .int (Int32.ofInt k)), (0, .ref 344), (1, .int (Int32.ofInt a)), (2, .int (Int32.ofInt at_))]) hm_159 rfl (Nat.le_of_ble_eq_true rfl) rfl ?_
      refine ga_inc (a := k) (c := k + 1) (lv2 := [(4, .int (Int32.ofInt (k + 1))), (3, .int (Int32.ofInt 1)), (5, .int (Int32.ofInt (at_ + k))), (0, .ref 344), (1, .int (Int32.ofInt a)), (2, .int (Int32.ofInt at_))]) hm_159 rfl rfl (Nat.le_of_ble_eq_true rfl) rfl rfl ?_
      refine fl_goto hm_159 rfl ?_
      exact fl_R_sub (lv' := [(4, .int (Int32.ofInt (k + 1))), (3, .int (Int32.ofInt 1)), (0, .ref 344), (1, .int (Int32.ofInt a)), (2, .int (Int32.ofInt at_))]) rfl rfl (ih3_ _ (by omega) (k + 1) (1) rfl (⟨by omega, by omega⟩) (by rw [show (k + 1).toNat = k.toNat + 1 by omega]; have hq_ : x_.1 = -1 := (by rcases hr_.2 with h8_ | h8_; exact h8_.1; (exfalso; have h7_ := h8_.2.1; omega)); have hr2_ : F 363 (2 * (at_ + k).toNat) = x_.2.2.1 ∧ F 363 (2 * (at_ + k).toNat + 1) = x_.2.2.2 := (by rcases hr_.2 with h8_ | h8_; exact h8_.2.2; exact absurd hq_ h8_.1); have hn_ := hlt x_ (List.mem_of_getElem? hx_) hq_; have v0_ := val_ref c15_ (by have h8_ := hr2_.1; rw [show 2 * (at_ + k).toNat = (2 * (at_ + k) + 0).toNat by omega] at h8_; first | exact h8_ | omega) hn_.1; have v1_ := val_ref c18_ (by have h8_ := hr2_.2; rw [show 2 * (at_ + k).toNat + 1 = (2 * (at_ + k) + 1).toNat by omega] at h8_; first | exact h8_ | omega) hn_.2; exact eqn_1 hx_ hgd (by omega) hq_ (by rw [← v0_, ← v1_]; omega)) (⟨by omega, by omega⟩))
    refine fl_iconst hm_159 rfl ?_
    refine fl_goto hm_159 rfl ?_
    refine ga_aload_n (v := .ref 344) hm_159 rfl rfl rfl ?_
    refine ga_getr (b := 361) hm_159 rfl sc_344 rfl ?_
    refine ga_iload (z := at_ + k) hm_159 rfl rfl ?_
    have b24_ : 0 ≤ F 361 (at_ + k).toNat ∧ F 361 (at_ + k).toNat ≤ 1 := gi_g hgi rfl
    refine ga_zald (z := at_ + k) (w := F 361 (at_ + k).toNat) hm_159 rfl sc_361 (by omega) (by omega) (by omega) (rfl) ?_
    refine fl_icmp_eq (a := 1) (b := F 361 (at_ + k).toNat) hm_159 rfl ⟨by omega, by omega⟩ ⟨by omega, by omega⟩ (fun h25_ => ?_) (fun h26_ => ?_)
    ·
      refine fl_iconst hm_159 rfl ?_
      refine ga_istore_n (lv2 := [(3, .int (Int32.ofInt 0)), (5, .int (Int32.ofInt (at_ + k))), (4, .int (Int32.ofInt k)), (0, .ref 344), (1, .int (Int32.ofInt a)), (2, .int (Int32.ofInt at_))]) hm_159 rfl (Nat.le_of_ble_eq_true rfl) rfl ?_
      refine ga_inc (a := k) (c := k + 1) (lv2 := [(4, .int (Int32.ofInt (k + 1))), (3, .int (Int32.ofInt 0)), (5, .int (Int32.ofInt (at_ + k))), (0, .ref 344), (1, .int (Int32.ofInt a)), (2, .int (Int32.ofInt at_))]) hm_159 rfl rfl (Nat.le_of_ble_eq_true rfl) rfl rfl ?_
      refine fl_goto hm_159 rfl ?_
      exact fl_R_sub (lv' := [(4, .int (Int32.ofInt (k + 1))), (3, .int (Int32.ofInt 0)), (0, .ref 344), (1, .int (Int32.ofInt a)), (2, .int (Int32.ofInt at_))]) rfl rfl (ih3_ _ (by omega) (k + 1) (0) rfl (⟨by omega, by omega⟩) (by rw [show (k + 1).toNat = k.toNat + 1 by omega]; have hq_ : x_.1 = -1 := (by rcases hr_.2 with h8_ | h8_; exact h8_.1; (exfalso; have h7_ := h8_.2.1; omega)); have hr2_ : F 363 (2 * (at_ + k).toNat) = x_.2.2.1 ∧ F 363 (2 * (at_ + k).toNat + 1) = x_.2.2.2 := (by rcases hr_.2 with h8_ | h8_; exact h8_.2.2; exact absurd hq_ h8_.1); have hn_ := hlt x_ (List.mem_of_getElem? hx_) hq_; have v0_ := val_ref c15_ (by have h8_ := hr2_.1; rw [show 2 * (at_ + k).toNat = (2 * (at_ + k) + 0).toNat by omega] at h8_; first | exact h8_ | omega) hn_.1; have v1_ := val_ref c18_ (by have h8_ := hr2_.2; rw [show 2 * (at_ + k).toNat + 1 = (2 * (at_ + k) + 1).toNat by omega] at h8_; first | exact h8_ | omega) hn_.2; exact eqn_0 hx_ hgd hq_ (Or.inr (by rw [← v0_, ← v1_]; omega))) (⟨by omega, by omega⟩))
    refine fl_iconst hm_159 rfl ?_
    refine fl_goto hm_159 rfl ?_
    refine ga_istore_n (lv2 := [(3, .int (Int32.ofInt 1)), (5, .int (Int32.ofInt (at_ + k))), (4, .int (Int32.ofInt k)), (0, .ref 344), (1, .int (Int32.ofInt a)), (2, .int (Int32.ofInt at_))]) hm_159 rfl (Nat.le_of_ble_eq_true rfl) rfl ?_
    refine ga_inc (a := k) (c := k + 1) (lv2 := [(4, .int (Int32.ofInt (k + 1))), (3, .int (Int32.ofInt 1)), (5, .int (Int32.ofInt (at_ + k))), (0, .ref 344), (1, .int (Int32.ofInt a)), (2, .int (Int32.ofInt at_))]) hm_159 rfl rfl (Nat.le_of_ble_eq_true rfl) rfl rfl ?_
    refine fl_goto hm_159 rfl ?_
    exact fl_R_sub (lv' := [(4, .int (Int32.ofInt (k + 1))), (3, .int (Int32.ofInt 1)), (0, .ref 344), (1, .int (Int32.ofInt a)), (2, .int (Int32.ofInt at_))]) rfl rfl (ih3_ _ (by omega) (k + 1) (1) rfl (⟨by omega, by omega⟩) (by rw [show (k + 1).toNat = k.toNat + 1 by omega]; have hq_ : x_.1 = -1 := (by rcases hr_.2 with h8_ | h8_; exact h8_.1; (exfalso; have h7_ := h8_.2.1; omega)); have hr2_ : F 363 (2 * (at_ + k).toNat) = x_.2.2.1 ∧ F 363 (2 * (at_ + k).toNat + 1) = x_.2.2.2 := (by rcases hr_.2 with h8_ | h8_; exact h8_.2.2; exact absurd hq_ h8_.1); have hn_ := hlt x_ (List.mem_of_getElem? hx_) hq_; have v0_ := val_ref c15_ (by have h8_ := hr2_.1; rw [show 2 * (at_ + k).toNat = (2 * (at_ + k) + 0).toNat by omega] at h8_; first | exact h8_ | omega) hn_.1; have v1_ := val_ref c18_ (by have h8_ := hr2_.2; rw [show 2 * (at_ + k).toNat + 1 = (2 * (at_ + k) + 1).toNat by omega] at h8_; first | exact h8_ | omega) hn_.2; exact eqn_1 hx_ hgd (by omega) hq_ (by rw [← v0_, ← v1_]; omega)) (⟨by omega, by omega⟩))
  exact L2_ _ (0) (1) rfl (⟨by omega, by omega⟩) (rfl) (⟨by omega, by omega⟩)
/- CheapPlannerModel.atoms -/
abbrev pq_156 (G : Nat → Nat → Option Nat) (F : fl_N) (X : xi_H) (a at_ n nt : Int) (L : List lt_T) (ps : List (List Int)) : Outcome → xi_H → Prop := gql (fun z A => fl_H sh_T G F ++ X = A ∧ (-9223372036854775808 ≤ z ∧ z ≤ 9223372036854775807) ∧ (z = msk (F 366) (obr F a) nt L)) gqn
theorem mc_156 {G : Nat → Nat → Option Nat} (hG : gg G) (F : fl_N) (X : xi_H) (hgi : gi F) (a at_ n nt : Int) (L : List lt_T) (ps : List (List Int)) (hat : 0 ≤ at_ ∧ at_ ≤ 40) (hla : a = 5 ∨ (0 ≤ a ∧ a ≤ 4 ∧ at_ ≤ 36)) (hn : 0 ≤ n ∧ n ≤ 4) (hnt : 0 ≤ nt ∧ nt ≤ 1) (hrc : rcl F at_.toNat L) (hrn : (L.length : Int) = n) (hlw : ∀ x ∈ L, lwf ps x) (hps : rprd F ps) : fl_M xi_ms 156 2 47 [.ref 344, .int (Int32.ofInt a), .int (Int32.ofInt at_), .int (Int32.ofInt n), .int (Int32.ofInt nt)] (fl_H sh_T G F ++ X) (pq_156 G F X a at_ n nt L ps) := by
  intro fr lo hfr hlo
  show fl_R xi_ms 156 fr lo 0 [(0, .ref 344), (1, .int (Int32.ofInt a)), (2, .int (Int32.ofInt at_)), (3, .int (Int32.ofInt n)), (4, .int (Int32.ofInt nt))] [] _ _
  refine ga_lconst (z := 0) hm_156 rfl rfl ?_
  refine ga_lstore (lv2 := [(5, .long (Int64.ofInt 0)), (0, .ref 344), (1, .int (Int32.ofInt a)), (2, .int (Int32.ofInt at_)), (3, .int (Int32.ofInt n)), (4, .int (Int32.ofInt nt))]) hm_156 rfl (Nat.le_of_ble_eq_true rfl) rfl ?_
  refine fl_iconst hm_156 rfl ?_
  refine ga_istore (lv2 := [(7, .int (Int32.ofInt 0)), (5, .long (Int64.ofInt 0)), (0, .ref 344), (1, .int (Int32.ofInt a)), (2, .int (Int32.ofInt at_)), (3, .int (Int32.ofInt n)), (4, .int (Int32.ofInt nt))]) hm_156 rfl (Nat.le_of_ble_eq_true rfl) rfl ?_
  have L2_ : ∀ (n1_ : Nat) (k : Int) (bi : Int), (4 - k : Int).toNat = n1_ → (0 ≤ k ∧ k ≤ n) → (-9223372036854775808 ≤ bi ∧ bi ≤ 9223372036854775807) → (bi = msk (F 366) (obr F a) nt (L.take k.toNat)) → fl_R xi_ms 156 fr lo 6 [(7, .int (Int32.ofInt k)), (5, .long (Int64.ofInt bi)), (0, .ref 344), (1, .int (Int32.ofInt a)), (2, .int (Int32.ofInt at_)), (3, .int (Int32.ofInt n)), (4, .int (Int32.ofInt nt))] [] (fl_H sh_T G F ++ X) (pq_156 G F X a at_ n nt L ps) := by
    intro n1_
    induction n1_ using Nat.strongRecOn with
    | ind n1_ ih3_ =>
    intro k bi hn4_ hk hbi hbm
    refine ga_iload (z := k) hm_156 rfl rfl ?_
    refine ga_iload_n (z := n) hm_156 rfl rfl ?_
    refine fl_icmp_ge (a := k) (b := n) hm_156 rfl ⟨by omega, by omega⟩ ⟨by omega, by omega⟩ (fun h5_ => ?_) (fun h6_ => ?_)
    ·
      refine ga_lload (z := bi) hm_156 rfl rfl ?_
      refine gr_l hm_156 rfl rfl ?_
      exact ⟨rfl, (⟨by omega, by omega⟩), (by rw [show L.take k.toNat = L from List.take_of_length_le (by omega)] at hbm; exact hbm)⟩
    refine ga_iload_n (z := at_) hm_156 rfl rfl ?_
    refine ga_iload (z := k) hm_156 rfl rfl ?_
    refine ga_iadd (a := at_) (b := k) (c := at_ + k) hm_156 rfl (by omega) ?_
    refine ga_istore (lv2 := [(8, .int (Int32.ofInt (at_ + k))), (7, .int (Int32.ofInt k)), (5, .long (Int64.ofInt bi)), (0, .ref 344), (1, .int (Int32.ofInt a)), (2, .int (Int32.ofInt at_)), (3, .int (Int32.ofInt n)), (4, .int (Int32.ofInt nt))]) hm_156 rfl (Nat.le_of_ble_eq_true rfl) rfl ?_
    refine ga_aload_n (v := .ref 344) hm_156 rfl rfl rfl ?_
    obtain ⟨x_, hx_, hr_⟩ := rcl_get hrc (k := k.toNat) (by omega)
    rw [show at_.toNat + k.toNat = (at_ + k).toNat by omega] at hr_
    have hr1_ := hr_.1
    refine ga_getr (b := 360) hm_156 rfl sc_344 rfl ?_
    refine ga_iload (z := at_ + k) hm_156 rfl rfl ?_
    have b7_ : 0 ≤ F 360 (at_ + k).toNat ∧ F 360 (at_ + k).toNat ≤ 1 := gi_g hgi rfl
    refine ga_zald (z := at_ + k) (w := F 360 (at_ + k).toNat) hm_156 rfl sc_360 (by omega) (by omega) (by omega) (rfl) ?_
    refine fx_if_ne (a := F 360 (at_ + k).toNat) hm_156 rfl ⟨by omega, by omega⟩ (fun h8_ => ?_) (fun h9_ => ?_)
    ·
      refine ga_inc (a := k) (c := k + 1) (lv2 := [(7, .int (Int32.ofInt (k + 1))), (8, .int (Int32.ofInt (at_ + k))), (5, .long (Int64.ofInt bi)), (0, .ref 344), (1, .int (Int32.ofInt a)), (2, .int (Int32.ofInt at_)), (3, .int (Int32.ofInt n)), (4, .int (Int32.ofInt nt))]) hm_156 rfl rfl (Nat.le_of_ble_eq_true rfl) rfl rfl ?_
      refine fl_goto hm_156 rfl ?_
      exact fl_R_sub (lv' := [(7, .int (Int32.ofInt (k + 1))), (5, .long (Int64.ofInt bi)), (0, .ref 344), (1, .int (Int32.ofInt a)), (2, .int (Int32.ofInt at_)), (3, .int (Int32.ofInt n)), (4, .int (Int32.ofInt nt))]) rfl rfl (ih3_ _ (by omega) (k + 1) (bi) rfl (⟨by omega, by omega⟩) (⟨by omega, by omega⟩) (by rw [show (k + 1).toNat = k.toNat + 1 by omega]; rw [msk_s hx_, mk1_n (by rcases hr_.2 with h8_ | h8_; exact Or.inl h8_.1; (right; have h7_ := h8_.2.1; omega))]; exact hbm))
    refine ga_aload_n (v := .ref 344) hm_156 rfl rfl rfl ?_
    refine ga_getr (b := 361) hm_156 rfl sc_344 rfl ?_
    refine ga_iload (z := at_ + k) hm_156 rfl rfl ?_
    have b10_ : 0 ≤ F 361 (at_ + k).toNat ∧ F 361 (at_ + k).toNat ≤ 1 := gi_g hgi rfl
    refine ga_zald (z := at_ + k) (w := F 361 (at_ + k).toNat) hm_156 rfl sc_361 (by omega) (by omega) (by omega) (rfl) ?_
    refine ga_iload (z := nt) hm_156 rfl rfl ?_
    refine fx_icmp_ne (a := F 361 (at_ + k).toNat) (b := nt) hm_156 rfl ⟨by omega, by omega⟩ ⟨by omega, by omega⟩ (fun h11_ => ?_) (fun h12_ => ?_)
    ·
      refine ga_inc (a := k) (c := k + 1) (lv2 := [(7, .int (Int32.ofInt (k + 1))), (8, .int (Int32.ofInt (at_ + k))), (5, .long (Int64.ofInt bi)), (0, .ref 344), (1, .int (Int32.ofInt a)), (2, .int (Int32.ofInt at_)), (3, .int (Int32.ofInt n)), (4, .int (Int32.ofInt nt))]) hm_156 rfl rfl (Nat.le_of_ble_eq_true rfl) rfl rfl ?_
      refine fl_goto hm_156 rfl ?_
      exact fl_R_sub (lv' := [(7, .int (Int32.ofInt (k + 1))), (5, .long (Int64.ofInt bi)), (0, .ref 344), (1, .int (Int32.ofInt a)), (2, .int (Int32.ofInt at_)), (3, .int (Int32.ofInt n)), (4, .int (Int32.ofInt nt))]) rfl rfl (ih3_ _ (by omega) (k + 1) (bi) rfl (⟨by omega, by omega⟩) (⟨by omega, by omega⟩) (by rw [show (k + 1).toNat = k.toNat + 1 by omega]; rw [msk_s hx_, mk1_n (by rcases hr_.2 with h8_ | h8_; exact Or.inl h8_.1; (right; have h7_ := h8_.2.1; omega))]; exact hbm))
    refine ga_lload (z := bi) hm_156 rfl rfl ?_
    refine ga_aload_n (v := .ref 344) hm_156 rfl rfl rfl ?_
    have hq_ : ¬ x_.1 = -1 := (by rcases hr_.2 with h8_ | h8_; (exfalso; have h7_ := h8_.2.1; omega); exact h8_.1)
    refine ga_iload_n (z := a) hm_156 rfl rfl ?_
    refine ga_iload (z := at_ + k) hm_156 rfl rfl ?_
    refine gVl (nY := 4) (F := 1) (L := 24) (As := [.int (Int32.ofInt a), .int (Int32.ofInt (at_ + k))]) (b := 344) (rest := [.long (Int64.ofInt bi)]) hm_156 rfl hm_161 rfl rfl (fl_ob sc_344) rfl rfl rfl rfl rfl (by omega) (by omega) (mc_161 hG F X hgi (a) (at_ + k) (ps) (x_) (⟨by omega, by omega⟩) (by omega) (hps) ((by rcases hr_.2 with h8_ | h8_; exact absurd h8_.1 hq_; exact h8_.2.2)) (hlw x_ (List.mem_of_getElem? hx_)) (hq_)) (fun _ _ h => False.elim h) ?_
    rintro z13_ A1_ ⟨hA_, c14_, c15_⟩
    subst hA_
    refine ga_lx (z := (lorr bi z13_)) hm_156 rfl rfl rfl (lop_e 1 _ _) (fun ⟨h16_, h17_⟩ => ?_)
    refine ga_lstore (lv2 := [(5, .long (Int64.ofInt ((lorr bi z13_)))), (8, .int (Int32.ofInt (at_ + k))), (7, .int (Int32.ofInt k)), (0, .ref 344), (1, .int (Int32.ofInt a)), (2, .int (Int32.ofInt at_)), (3, .int (Int32.ofInt n)), (4, .int (Int32.ofInt nt))]) hm_156 rfl (Nat.le_of_ble_eq_true rfl) rfl ?_
    refine ga_inc (a := k) (c := k + 1) (lv2 := [(7, .int (Int32.ofInt (k + 1))), (5, .long (Int64.ofInt ((lorr bi z13_)))), (8, .int (Int32.ofInt (at_ + k))), (0, .ref 344), (1, .int (Int32.ofInt a)), (2, .int (Int32.ofInt at_)), (3, .int (Int32.ofInt n)), (4, .int (Int32.ofInt nt))]) hm_156 rfl rfl (Nat.le_of_ble_eq_true rfl) rfl rfl ?_
    refine fl_goto hm_156 rfl ?_
    exact fl_R_sub (lv' := [(7, .int (Int32.ofInt (k + 1))), (5, .long (Int64.ofInt ((lorr bi z13_)))), (0, .ref 344), (1, .int (Int32.ofInt a)), (2, .int (Int32.ofInt at_)), (3, .int (Int32.ofInt n)), (4, .int (Int32.ofInt nt))]) rfl rfl (ih3_ _ (by omega) (k + 1) ((lorr bi z13_)) rfl (⟨by omega, by omega⟩) (⟨by omega, by omega⟩) (by rw [show (k + 1).toNat = k.toNat + 1 by omega]; rw [msk_s hx_, mk1_y hq_ (by omega), ← c15_, hbm]))
  exact L2_ _ (0) (0) rfl (⟨by omega, by omega⟩) (⟨by omega, by omega⟩) (rfl)

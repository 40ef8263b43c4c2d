/-! the reference's ground: what telling a plan needs -/
def sob (F : fl_N) : Prop := ∀ s : Nat, (s : Int) < F 344 39 → 0 ≤ F 357 (F 367 s).toNat ∧ ∀ p : Nat, (p : Int) < F 354 (F 367 s).toNat → 0 ≤ F 368 (3 * s + p)
theorem sob_cg {F F2 : fl_N} (h : sob F) (c : F2 344 39 = F 344 39) (c1 : ∀ j, F2 357 j = F 357 j) (c2 : ∀ j, F2 367 j = F 367 j) (c3 : ∀ j, F2 354 j = F 354 j) (c4 : ∀ j, F2 368 j = F 368 j) : sob F2 := by
  intro s hs
  rw [c] at hs
  have h1 := h s hs
  rw [c2, c1, c3]
  refine ⟨h1.1, fun p hp => ?_⟩
  rw [c4]
  exact h1.2 p hp
theorem sob_0 {F : fl_N} (h : F 344 39 = 0) : sob F := fun s hs => absurd hs (by omega)
theorem sob_add {F F2 : fl_N} {a : Int} (h : sob F) (h0 : 0 ≤ F 344 39) (c : F2 344 39 = F 344 39 + 1) (c2 : ∀ j : Nat, (j : Int) < F 344 39 → F2 367 j = F 367 j) (c1 : ∀ j, F2 357 j = F 357 j) (c3 : ∀ j, F2 354 j = F 354 j) (c4 : ∀ j : Nat, (j : Int) < 3 * F 344 39 → F2 368 j = F 368 j) (ha : F2 367 (F 344 39).toNat = a) (hc : 0 ≤ F 357 a.toNat) (hn : ∀ p : Nat, (p : Int) < 3 → (p : Int) < F 354 a.toNat → 0 ≤ F2 368 (3 * (F 344 39).toNat + p)) (h3 : F 354 a.toNat ≤ 3) (hb : ∀ s : Nat, F 354 (F 367 s).toNat ≤ 3) : sob F2 := by
  intro s hs
  rw [c] at hs
  by_cases e : (s : Int) < F 344 39
  · have h1 := h s e
    have h2 := hb s
    rw [c2 s e, c1, c3]
    refine ⟨h1.1, fun p hp => ?_⟩
    rw [c4 _ (by omega)]
    exact h1.2 p hp
  · have e2 : s = (F 344 39).toNat := by omega
    subst e2
    rw [ha, c1, c3]
    exact ⟨hc, fun p hp => hn p (by omega) hp⟩
theorem so_w {F : fl_N} {b i : Nat} {k n v : Int} (h : ∀ p : Nat, (p : Int) < k → (p : Int) < n → 0 ≤ F 368 (b + p)) (hk : 0 ≤ k) (hi : i = b + k.toNat) (hv : k < n → 0 ≤ v) : ∀ p : Nat, (p : Int) < k + 1 → (p : Int) < n → 0 ≤ fl_u F 368 i v 368 (b + p) := by
  intro p h1 h2
  by_cases e : (p : Int) < k
  · rw [fl_u_ne (by omega)]
    exact h p e h2
  · rw [show b + p = i by omega, fl_u_eq]
    exact hv (by omega)

/- CheapPlannerModel.valueOf -/
abbrev pq_193 (G : Nat → Nat → Option Nat) (F : fl_N) (X : xi_H) (a ll k : Int) : Outcome → xi_H → Prop := gqi (fun z A => fl_H sh_T G F ++ X = A ∧ (0 ≤ z ∧ z ≤ 5) ∧ (z = (if a = 5 then F 363 (2 * ll + k).toNat else F 384 (F 363 (2 * ll + k).toNat).toNat))) gqn
theorem mc_193 {G : Nat → Nat → Option Nat} (hG : gg G) (F : fl_N) (X : xi_H) (hgi : gi F) (a ll k : Int) (hl : 0 ≤ ll ∧ ll ≤ 43) (hk : 0 ≤ k ∧ k ≤ 1) (hla : a = 5 ∨ (0 ≤ a ∧ a ≤ 4 ∧ ll ≤ 39)) : fl_M xi_ms 193 0 0 [.ref 344, .int (Int32.ofInt a), .int (Int32.ofInt ll), .int (Int32.ofInt k)] (fl_H sh_T G F ++ X) (pq_193 G F X a ll k) := by
  intro fr lo hfr hlo
  show fl_R xi_ms 193 fr lo 0 [(0, .ref 344), (1, .int (Int32.ofInt a)), (2, .int (Int32.ofInt ll)), (3, .int (Int32.ofInt k))] [] _ _
  refine ga_iload_n (z := a) hm_193 rfl rfl ?_
  refine fl_iconst hm_193 rfl ?_
  refine fx_icmp_ne (a := a) (b := 5) hm_193 rfl ⟨by omega, by omega⟩ ⟨by omega, by omega⟩ (fun h1_ => ?_) (fun h2_ => ?_)
  ·
    refine ga_aload_n (v := .ref 344) hm_193 rfl rfl rfl ?_
    refine ga_getr (b := 384) hm_193 rfl sc_344 rfl ?_
    refine ga_aload_n (v := .ref 344) hm_193 rfl rfl rfl ?_
    refine ga_getr (b := 363) hm_193 rfl sc_344 rfl ?_
    refine fl_iconst hm_193 rfl ?_
    refine ga_iload_n (z := ll) hm_193 rfl rfl ?_
    refine ga_imul (a := 2) (b := ll) (c := 2 * ll) hm_193 rfl (by omega) ?_
    refine ga_iload_n (z := k) hm_193 rfl rfl ?_
    refine ga_iadd (a := 2 * ll) (b := k) (c := 2 * ll + k) hm_193 rfl (by omega) ?_
    have b3_ := gi_t363 hgi ((2 * ll + k).toNat)
    refine ga_iald (z := 2 * ll + k) (w := F 363 (2 * ll + k).toNat) hm_193 rfl sc_363 (by omega) (by omega) (by omega) (rfl) ?_
    have b4_ : 0 ≤ F 384 (F 363 (2 * ll + k).toNat).toNat ∧ F 384 (F 363 (2 * ll + k).toNat).toNat ≤ 5 := gi_g hgi rfl
    refine ga_iald (z := F 363 (2 * ll + k).toNat) (w := F 384 (F 363 (2 * ll + k).toNat).toNat) hm_193 rfl sc_384 (by omega) (by omega) (by omega) (rfl) ?_
    refine gr_i (z := F 384 (F 363 (2 * ll + k).toNat).toNat) hm_193 rfl rfl rfl ?_
    exact ⟨rfl, (⟨by omega, by omega⟩), (by rw [if_neg (by omega)])⟩
  refine ga_aload_n (v := .ref 344) hm_193 rfl rfl rfl ?_
  refine ga_getr (b := 363) hm_193 rfl sc_344 rfl ?_
  refine fl_iconst hm_193 rfl ?_
  refine ga_iload_n (z := ll) hm_193 rfl rfl ?_
  refine ga_imul (a := 2) (b := ll) (c := 2 * ll) hm_193 rfl (by omega) ?_
  refine ga_iload_n (z := k) hm_193 rfl rfl ?_
  refine ga_iadd (a := 2 * ll) (b := k) (c := 2 * ll + k) hm_193 rfl (by omega) ?_
  have b5_ := gi_t363 hgi ((2 * ll + k).toNat)
  refine ga_iald (z := 2 * ll + k) (w := F 363 (2 * ll + k).toNat) hm_193 rfl sc_363 (by omega) (by omega) (by omega) (rfl) ?_
  refine fl_goto hm_193 rfl ?_
  refine gr_i (z := F 363 (2 * ll + k).toNat) hm_193 rfl rfl rfl ?_
  exact ⟨rfl, (⟨by omega, by omega⟩), (by rw [if_pos (by omega)])⟩
/- CheapPlannerModel.factAt -/
abbrev pq_160 (G : Nat → Nat → Option Nat) (F : fl_N) (X : xi_H) (p a b : Int) : Outcome → xi_H → Prop := gqi (fun z A => fl_H sh_T G F ++ X = A ∧ (0 ≤ z ∧ z ≤ 215) ∧ (z = F 366 (36 * p + (if 0 < F 351 p.toNat then 6 * a else 0) + (if 1 < F 351 p.toNat then b else 0)).toNat)) gqn
theorem mc_160 {G : Nat → Nat → Option Nat} (hG : gg G) (F : fl_N) (X : xi_H) (hgi : gi F) (p a b : Int) (hp : 0 ≤ p ∧ p ≤ 5) (ha : 0 ≤ a ∧ a ≤ 5) (hb : 0 ≤ b ∧ b ≤ 5) : fl_M xi_ms 160 0 0 [.ref 344, .int (Int32.ofInt p), .int (Int32.ofInt a), .int (Int32.ofInt b)] (fl_H sh_T G F ++ X) (pq_160 G F X p a b) := by
  intro fr lo hfr hlo
  show fl_R xi_ms 160 fr lo 0 [(0, .ref 344), (1, .int (Int32.ofInt p)), (2, .int (Int32.ofInt a)), (3, .int (Int32.ofInt b))] [] _ _
  refine ga_aload_n (v := .ref 344) hm_160 rfl rfl rfl ?_
  refine ga_getr (b := 351) hm_160 rfl sc_344 rfl ?_
  refine ga_iload_n (z := p) hm_160 rfl rfl ?_
  have b1_ : 0 ≤ F 351 p.toNat ∧ F 351 p.toNat ≤ 2 := gi_g hgi rfl
  refine ga_iald (z := p) (w := F 351 p.toNat) hm_160 rfl sc_351 (by omega) (by omega) (by omega) (rfl) ?_
  refine ga_istore (lv2 := [(4, .int (Int32.ofInt (F 351 p.toNat))), (0, .ref 344), (1, .int (Int32.ofInt p)), (2, .int (Int32.ofInt a)), (3, .int (Int32.ofInt b))]) hm_160 rfl (Nat.le_of_ble_eq_true rfl) rfl ?_
  refine ga_aload_n (v := .ref 344) hm_160 rfl rfl rfl ?_
  refine ga_getr (b := 366) hm_160 rfl sc_344 rfl ?_
  refine fl_bipush hm_160 rfl rfl ?_
  refine ga_iload_n (z := p) hm_160 rfl rfl ?_
  refine ga_imul (a := 36) (b := p) (c := 36 * p) hm_160 rfl (by omega) ?_
  refine ga_iload (z := F 351 p.toNat) hm_160 rfl rfl ?_
  refine fl_if_le (a := F 351 p.toNat) hm_160 rfl ⟨by omega, by omega⟩ (fun h2_ => ?_) (fun h3_ => ?_)
  ·
    refine fl_iconst hm_160 rfl ?_
    refine ga_iadd (a := 36 * p) (b := 0) (c := 36 * p) hm_160 rfl (by omega) ?_
    refine ga_iload (z := F 351 p.toNat) hm_160 rfl rfl ?_
    refine fl_iconst hm_160 rfl ?_
    refine fl_icmp_le (a := F 351 p.toNat) (b := 1) hm_160 rfl ⟨by omega, by omega⟩ ⟨by omega, by omega⟩ (fun h4_ => ?_) (fun h5_ => ?_)
    ·
      refine fl_iconst hm_160 rfl ?_
      refine ga_iadd (a := 36 * p) (b := 0) (c := 36 * p) hm_160 rfl (by omega) ?_
      have b6_ : 0 ≤ F 366 (36 * p).toNat ∧ F 366 (36 * p).toNat ≤ 215 := gi_g hgi rfl
      refine ga_iald (z := 36 * p) (w := F 366 (36 * p).toNat) hm_160 rfl sc_366 (by omega) (by omega) (by omega) (rfl) ?_
      refine gr_i (z := F 366 (36 * p).toNat) hm_160 rfl rfl rfl ?_
      exact ⟨rfl, (⟨by omega, by omega⟩), (congrArg (F 366) (by (repeat' split) <;> first | rfl | omega | (exfalso; omega)))⟩
    exfalso; omega
  refine fl_bipush hm_160 rfl rfl ?_
  refine ga_iload_n (z := a) hm_160 rfl rfl ?_
  refine ga_imul (a := 6) (b := a) (c := 6 * a) hm_160 rfl (by omega) ?_
  refine fl_goto hm_160 rfl ?_
  refine ga_iadd (a := 36 * p) (b := 6 * a) (c := 36 * p + 6 * a) hm_160 rfl (by omega) ?_
  refine ga_iload (z := F 351 p.toNat) hm_160 rfl rfl ?_
  refine fl_iconst hm_160 rfl ?_
  refine fl_icmp_le (a := F 351 p.toNat) (b := 1) hm_160 rfl ⟨by omega, by omega⟩ ⟨by omega, by omega⟩ (fun h7_ => ?_) (fun h8_ => ?_)
  ·
    refine fl_iconst hm_160 rfl ?_
    refine ga_iadd (a := 36 * p + 6 * a) (b := 0) (c := 36 * p + 6 * a) hm_160 rfl (by omega) ?_
    have b9_ : 0 ≤ F 366 (36 * p + 6 * a).toNat ∧ F 366 (36 * p + 6 * a).toNat ≤ 215 := gi_g hgi rfl
    refine ga_iald (z := 36 * p + 6 * a) (w := F 366 (36 * p + 6 * a).toNat) hm_160 rfl sc_366 (by omega) (by omega) (by omega) (rfl) ?_
    refine gr_i (z := F 366 (36 * p + 6 * a).toNat) hm_160 rfl rfl rfl ?_
    exact ⟨rfl, (⟨by omega, by omega⟩), (congrArg (F 366) (by (repeat' split) <;> first | rfl | omega | (exfalso; omega)))⟩
  refine ga_iload_n (z := b) hm_160 rfl rfl ?_
  refine fl_goto hm_160 rfl ?_
  refine ga_iadd (a := 36 * p + 6 * a) (b := b) (c := 36 * p + 6 * a + b) hm_160 rfl (by omega) ?_
  have b10_ : 0 ≤ F 366 (36 * p + 6 * a + b).toNat ∧ F 366 (36 * p + 6 * a + b).toNat ≤ 215 := gi_g hgi rfl
  refine ga_iald (z := 36 * p + 6 * a + b) (w := F 366 (36 * p + 6 * a + b).toNat) hm_160 rfl sc_366 (by omega) (by omega) (by omega) (rfl) ?_
  refine gr_i (z := F 366 (36 * p + 6 * a + b).toNat) hm_160 rfl rfl rfl ?_
  exact ⟨rfl, (⟨by omega, by omega⟩), (congrArg (F 366) (by (repeat' split) <;> first | rfl | omega | (exfalso; omega)))⟩
/- CheapPlannerModel.factBit -/
abbrev pq_161 (G : Nat → Nat → Option Nat) (F : fl_N) (X : xi_H) (a ll : Int) (ps : List (List Int)) (x : lt_T) : Outcome → xi_H → Prop := gql (fun z A => fl_H sh_T G F ++ X = A ∧ (-9223372036854775808 ≤ z ∧ z ≤ 9223372036854775807) ∧ (z = lsl 1 (F 366 (plq x (obr F a))))) gqn
theorem mc_161 {G : Nat → Nat → Option Nat} (hG : gg G) (F : fl_N) (X : xi_H) (hgi : gi F) (a ll : Int) (ps : List (List Int)) (x : lt_T) (hl : 0 ≤ ll ∧ ll ≤ 43) (hla : a = 5 ∨ (0 ≤ a ∧ a ≤ 4 ∧ ll ≤ 39)) (hps : rprd F ps) (hx : rat F ll.toNat x) (hw : lwf ps x) (hq : ¬ x.1 = -1) : fl_M xi_ms 161 1 24 [.ref 344, .int (Int32.ofInt a), .int (Int32.ofInt ll)] (fl_H sh_T G F ++ X) (pq_161 G F X a ll ps x) := by
  intro fr lo hfr hlo
  show fl_R xi_ms 161 fr lo 0 [(0, .ref 344), (1, .int (Int32.ofInt a)), (2, .int (Int32.ofInt ll))] [] _ _
  have hx1 := hx.1
  have hw1 := hw hq
  obtain ⟨hz1_, -, hz3_⟩ := hps x.1.toNat (by omega)
  have hz2_ : F 351 (F 362 ll.toNat).toNat = ((ps.getD x.1.toNat []).length : Int) := by rw [hx1]; exact hz1_
  refine ga_aload_n (v := .ref 344) hm_161 rfl rfl rfl ?_
  refine ga_getr (b := 351) hm_161 rfl sc_344 rfl ?_
  refine ga_aload_n (v := .ref 344) hm_161 rfl rfl rfl ?_
  refine ga_getr (b := 362) hm_161 rfl sc_344 rfl ?_
  refine ga_iload_n (z := ll) hm_161 rfl rfl ?_
  have b1_ : 0 ≤ F 362 ll.toNat ∧ F 362 ll.toNat ≤ 5 := gi_g hgi rfl
  refine ga_iald (z := ll) (w := F 362 ll.toNat) hm_161 rfl sc_362 (by omega) (by omega) (by omega) (rfl) ?_
  have b2_ : 0 ≤ F 351 (F 362 ll.toNat).toNat ∧ F 351 (F 362 ll.toNat).toNat ≤ 2 := gi_g hgi rfl
  refine ga_iald (z := F 362 ll.toNat) (w := F 351 (F 362 ll.toNat).toNat) hm_161 rfl sc_351 (by omega) (by omega) (by omega) (rfl) ?_
  refine ga_istore_n (lv2 := [(3, .int (Int32.ofInt (F 351 (F 362 ll.toNat).toNat))), (0, .ref 344), (1, .int (Int32.ofInt a)), (2, .int (Int32.ofInt ll))]) hm_161 rfl (Nat.le_of_ble_eq_true rfl) rfl ?_
  refine ga_lconst (z := 1) hm_161 rfl rfl ?_
  refine ga_aload_n (v := .ref 344) hm_161 rfl rfl rfl ?_
  refine ga_aload_n (v := .ref 344) hm_161 rfl rfl rfl ?_
  refine ga_getr (b := 362) hm_161 rfl sc_344 rfl ?_
  refine ga_iload_n (z := ll) hm_161 rfl rfl ?_
  refine ga_iald (z := ll) (w := F 362 ll.toNat) hm_161 rfl sc_362 (by omega) (by omega) (by omega) (rfl) ?_
  refine ga_iload_n (z := F 351 (F 362 ll.toNat).toNat) hm_161 rfl rfl ?_
  refine fl_if_le (a := F 351 (F 362 ll.toNat).toNat) hm_161 rfl ⟨by omega, by omega⟩ (fun h3_ => ?_) (fun h4_ => ?_)
  ·
    refine fl_iconst hm_161 rfl ?_
    refine ga_iload_n (z := F 351 (F 362 ll.toNat).toNat) hm_161 rfl rfl ?_
    refine fl_iconst hm_161 rfl ?_
    refine fl_icmp_le (a := F 351 (F 362 ll.toNat).toNat) (b := 1) hm_161 rfl ⟨by omega, by omega⟩ ⟨by omega, by omega⟩ (fun h5_ => ?_) (fun h6_ => ?_)
    ·
      refine fl_iconst hm_161 rfl ?_
      refine gVi (nY := 5) (F := 0) (L := 0) (As := [.int (Int32.ofInt (F 362 ll.toNat)), .int (Int32.ofInt 0), .int (Int32.ofInt 0)]) (b := 344) (rest := [.long (Int64.ofInt 1)]) hm_161 rfl hm_160 rfl rfl (fl_ob sc_344) rfl rfl rfl rfl rfl (by omega) (by omega) (mc_160 hG F X hgi (F 362 ll.toNat) (0) (0) (⟨by omega, by omega⟩) (⟨by omega, by omega⟩) (⟨by omega, by omega⟩)) (fun _ _ h => False.elim h) ?_
      rintro z7_ A1_ ⟨hA_, c8_, c9_⟩
      subst hA_
      refine ga_lx (z := (lsl 1 z7_)) hm_161 rfl rfl rfl (lsl_e _ _) (fun ⟨h10_, h11_⟩ => ?_)
      refine gr_l hm_161 rfl rfl ?_
      exact ⟨rfl, (⟨by omega, by omega⟩), (by rw [c9_]; exact congrArg (fun q_ => lsl 1 (F 366 q_)) (pl_ref (ps := ps) hx1 hz2_ hw1 (fun h9_ => by exfalso; omega) (fun h9_ => by exfalso; omega)))⟩
    exfalso; omega
  refine ga_aload_n (v := .ref 344) hm_161 rfl rfl rfl ?_
  refine ga_iload_n (z := a) hm_161 rfl rfl ?_
  refine ga_iload_n (z := ll) hm_161 rfl rfl ?_
  refine fl_iconst hm_161 rfl ?_
  refine gVi (nY := 4) (F := 0) (L := 0) (As := [.int (Int32.ofInt a), .int (Int32.ofInt ll), .int (Int32.ofInt 0)]) (b := 344) (rest := [.int (Int32.ofInt (F 362 ll.toNat)), .ref 344, .long (Int64.ofInt 1)]) hm_161 rfl hm_193 rfl rfl (fl_ob sc_344) rfl rfl rfl rfl rfl (by omega) (by omega) (mc_193 hG F X hgi (a) (ll) (0) (⟨by omega, by omega⟩) (⟨by omega, by omega⟩) (by omega)) (fun _ _ h => False.elim h) ?_
  rintro z12_ A1_ ⟨hA_, c13_, c14_⟩
  subst hA_
  refine fl_goto hm_161 rfl ?_
  refine ga_iload_n (z := F 351 (F 362 ll.toNat).toNat) hm_161 rfl rfl ?_
  refine fl_iconst hm_161 rfl ?_
  refine fl_icmp_le (a := F 351 (F 362 ll.toNat).toNat) (b := 1) hm_161 rfl ⟨by omega, by omega⟩ ⟨by omega, by omega⟩ (fun h15_ => ?_) (fun h16_ => ?_)
  ·
    refine fl_iconst hm_161 rfl ?_
    refine gVi (nY := 5) (F := 0) (L := 0) (As := [.int (Int32.ofInt (F 362 ll.toNat)), .int (Int32.ofInt z12_), .int (Int32.ofInt 0)]) (b := 344) (rest := [.long (Int64.ofInt 1)]) hm_161 rfl hm_160 rfl rfl (fl_ob sc_344) rfl rfl rfl rfl rfl (by omega) (by omega) (mc_160 hG F X hgi (F 362 ll.toNat) (z12_) (0) (⟨by omega, by omega⟩) (⟨by omega, by omega⟩) (⟨by omega, by omega⟩)) (fun _ _ h => False.elim h) ?_
    rintro z17_ A1_ ⟨hA_, c18_, c19_⟩
    subst hA_
    refine ga_lx (z := (lsl 1 z17_)) hm_161 rfl rfl rfl (lsl_e _ _) (fun ⟨h20_, h21_⟩ => ?_)
    refine gr_l hm_161 rfl rfl ?_
    exact ⟨rfl, (⟨by omega, by omega⟩), (by rw [c19_]; exact congrArg (fun q_ => lsl 1 (F 366 q_)) (pl_ref (ps := ps) hx1 hz2_ hw1 (fun h9_ => val_ref c14_ (by have h8_ := hx.2.1; rw [show 2 * ll.toNat = (2 * ll + 0).toNat by omega] at h8_; omega) (by omega)) (fun h9_ => by exfalso; omega)))⟩
  refine ga_aload_n (v := .ref 344) hm_161 rfl rfl rfl ?_
  refine ga_iload_n (z := a) hm_161 rfl rfl ?_
  refine ga_iload_n (z := ll) hm_161 rfl rfl ?_
  refine fl_iconst hm_161 rfl ?_
  refine gVi (nY := 4) (F := 0) (L := 0) (As := [.int (Int32.ofInt a), .int (Int32.ofInt ll), .int (Int32.ofInt 1)]) (b := 344) (rest := [.int (Int32.ofInt z12_), .int (Int32.ofInt (F 362 ll.toNat)), .ref 344, .long (Int64.ofInt 1)]) hm_161 rfl hm_193 rfl rfl (fl_ob sc_344) rfl rfl rfl rfl rfl (by omega) (by omega) (mc_193 hG F X hgi (a) (ll) (1) (⟨by omega, by omega⟩) (⟨by omega, by omega⟩) (by omega)) (fun _ _ h => False.elim h) ?_
  rintro z22_ A1_ ⟨hA_, c23_, c24_⟩
  subst hA_
  refine fl_goto hm_161 rfl ?_
  refine gVi (nY := 5) (F := 0) (L := 0) (As := [.int (Int32.ofInt (F 362 ll.toNat)), .int (Int32.ofInt z12_), .int (Int32.ofInt z22_)]) (b := 344) (rest := [.long (Int64.ofInt 1)]) hm_161 rfl hm_160 rfl rfl (fl_ob sc_344) rfl rfl rfl rfl rfl (by omega) (by omega) (mc_160 hG F X hgi (F 362 ll.toNat) (z12_) (z22_) (⟨by omega, by omega⟩) (⟨by omega, by omega⟩) (⟨by omega, by omega⟩)) (fun _ _ h => False.elim h) ?_
  rintro z25_ A1_ ⟨hA_, c26_, c27_⟩
  subst hA_
  refine ga_lx (z := (lsl 1 z25_)) hm_161 rfl rfl rfl (lsl_e _ _) (fun ⟨h28_, h29_⟩ => ?_)
  refine gr_l hm_161 rfl rfl ?_
  exact ⟨rfl, (⟨by omega, by omega⟩), (by rw [c27_]; exact congrArg (fun q_ => lsl 1 (F 366 q_)) (pl_ref (ps := ps) hx1 hz2_ hw1 (fun h9_ => val_ref c14_ (by have h8_ := hx.2.1; rw [show 2 * ll.toNat = (2 * ll + 0).toNat by omega] at h8_; omega) (by omega)) (fun h9_ => val_ref c24_ (by have h8_ := hx.2.2; rw [show 2 * ll.toNat + 1 = (2 * ll + 1).toNat by omega] at h8_; omega) (by omega))))⟩
/- CheapPlannerModel.equalsHold -/
abbrev pq_159 (G : Nat → Nat → Option Nat) (F : fl_N) (X : xi_H) (a at_ : Int) (L : List lt_T) : Outcome → xi_H → Prop := gqi (fun z A => fl_H sh_T G F ++ X = A ∧ (0 ≤ z ∧ z ≤ 1) ∧ (z = (if eqh L (obr F a) = true then 1 else 0))) gqn
theorem mc_159 {G : Nat → Nat → Option Nat} (hG : gg G) (F : fl_N) (X : xi_H) (hgi : gi F) (a at_ : Int) (L : List lt_T) (hat : 0 ≤ at_ ∧ at_ ≤ 40) (hla : a = 5 ∨ (0 ≤ a ∧ a ≤ 4 ∧ at_ ≤ 36)) (hrc : rcl F at_.toNat L) (hrn : (L.length : Int) = F 358 a.toNat) (hlt : ∀ x ∈ L, x.1 = -1 → 0 ≤ x.2.2.1 ∧ 0 ≤ x.2.2.2) : fl_M xi_ms 159 1 23 [.ref 344, .int (Int32.ofInt a), .int (Int32.ofInt at_)] (fl_H sh_T G F ++ X) (pq_159 G F X a at_ L) := by
  intro fr lo hfr hlo
  show fl_R xi_ms 159 fr lo 0 [(0, .ref 344), (1, .int (Int32.ofInt a)), (2, .int (Int32.ofInt at_))] [] _ _
  have hb358 : 0 ≤ F 358 a.toNat ∧ F 358 a.toNat ≤ 4 := gi_g hgi rfl
  refine fl_iconst hm_159 rfl ?_
  refine ga_istore_n (lv2 := [(3, .int (Int32.ofInt 1)), (0, .ref 344), (1, .int (Int32.ofInt a)), (2, .int (Int32.ofInt at_))]) hm_159 rfl (Nat.le_of_ble_eq_true rfl) rfl ?_
  refine fl_iconst hm_159 rfl ?_
  refine ga_istore (lv2 := [(4, .int (Int32.ofInt 0)), (3, .int (Int32.ofInt 1)), (0, .ref 344), (1, .int (Int32.ofInt a)), (2, .int (Int32.ofInt at_))]) hm_159 rfl (Nat.le_of_ble_eq_true rfl) rfl ?_
  have L2_ : ∀ (n1_ : Nat) (k : Int) (gd : Int), (4 - k : Int).toNat = n1_ → (0 ≤ k ∧ k ≤ F 358 a.toNat) → (gd = (if eqh (L.take k.toNat) (obr F a) = true then 1 else 0)) → (0 ≤ gd ∧ gd ≤ 1) → fl_R xi_ms 159 fr lo 5 [(4, .int (Int32.ofInt k)), (3, .int (Int32.ofInt gd)), (0, .ref 344), (1, .int (Int32.ofInt a)), (2, .int (Int32.ofInt at_))] [] (fl_H sh_T G F ++ X) (pq_159 G F X a at_ L) := by
    intro n1_
    induction n1_ using Nat.strongRecOn with
    | ind n1_ ih3_ =>
    intro k gd hn4_ hk hgd hgb
    refine ga_iload (z := k) hm_159 rfl rfl ?_
    refine ga_aload_n (v := .ref 344) hm_159 rfl rfl rfl ?_
    refine ga_getr (b := 358) hm_159 rfl sc_344 rfl ?_
    refine ga_iload_n (z := a) hm_159 rfl rfl ?_
    have b5_ : 0 ≤ F 358 a.toNat ∧ F 358 a.toNat ≤ 4 := gi_g hgi rfl
    refine ga_iald (z := a) (w := F 358 a.toNat) hm_159 rfl sc_358 (by omega) (by omega) (by omega) (rfl) ?_
    refine fl_icmp_ge (a := k) (b := F 358 a.toNat) hm_159 rfl ⟨by omega, by omega⟩ ⟨by omega, by omega⟩ (fun h6_ => ?_) (fun h7_ => ?_)
    ·
      refine ga_iload_n (z := gd) hm_159 rfl rfl ?_
      refine gr_i (z := gd) hm_159 rfl rfl (ga_nb (by omega)) ?_
      exact ⟨rfl, (⟨by omega, by omega⟩), (by rw [show L.take k.toNat = L from List.take_of_length_le (by omega)] at hgd; exact hgd)⟩
    obtain ⟨x_, hx_, hr_⟩ := rcl_get hrc (k := k.toNat) (by omega)
    rw [show at_.toNat + k.toNat = (at_ + k).toNat by omega] at hr_
    have hr1_ := hr_.1
    refine ga_iload_n (z := at_) hm_159 rfl rfl ?_
    refine ga_iload (z := k) hm_159 rfl rfl ?_
    refine ga_iadd (a := at_) (b := k) (c := at_ + k) hm_159 rfl (by omega) ?_
    refine ga_istore (lv2 := [(5, .int (Int32.ofInt (at_ + k))), (4, .int (Int32.ofInt k)), (3, .int (Int32.ofInt gd)), (0, .ref 344), (1, .int (Int32.ofInt a)), (2, .int (Int32.ofInt at_))]) hm_159 rfl (Nat.le_of_ble_eq_true rfl) rfl ?_
    refine ga_aload_n (v := .ref 344) hm_159 rfl rfl rfl ?_
    refine ga_getr (b := 360) hm_159 rfl sc_344 rfl ?_
    refine ga_iload (z := at_ + k) hm_159 rfl rfl ?_
    have b8_ : 0 ≤ F 360 (at_ + k).toNat ∧ F 360 (at_ + k).toNat ≤ 1 := gi_g hgi rfl
    refine ga_zald (z := at_ + k) (w := F 360 (at_ + k).toNat) hm_159 rfl sc_360 (by omega) (by omega) (by omega) (rfl) ?_
    refine fl_if_eq (a := F 360 (at_ + k).toNat) hm_159 rfl ⟨by omega, by omega⟩ (fun h9_ => ?_) (fun h10_ => ?_)
    ·
      refine ga_inc (a := k) (c := k + 1) (lv2 := [(4, .int (Int32.ofInt (k + 1))), (5, .int (Int32.ofInt (at_ + k))), (3, .int (Int32.ofInt gd)), (0, .ref 344), (1, .int (Int32.ofInt a)), (2, .int (Int32.ofInt at_))]) hm_159 rfl rfl (Nat.le_of_ble_eq_true rfl) rfl rfl ?_
      refine fl_goto hm_159 rfl ?_
      exact fl_R_sub (lv' := [(4, .int (Int32.ofInt (k + 1))), (3, .int (Int32.ofInt gd)), (0, .ref 344), (1, .int (Int32.ofInt a)), (2, .int (Int32.ofInt at_))]) rfl rfl (ih3_ _ (by omega) (k + 1) (gd) rfl (⟨by omega, by omega⟩) (by rw [show (k + 1).toNat = k.toNat + 1 by omega]; rw [eqh_a hx_ (by rcases hr_.2 with h8_ | h8_; (exfalso; have h7_ := h8_.2.1; omega); exact h8_.1)]; exact hgd) (⟨by omega, by omega⟩))
    refine ga_iload_n (z := gd) hm_159 rfl rfl ?_
    refine fl_if_eq (a := gd) hm_159 rfl ⟨by omega, by omega⟩ (fun h11_ => ?_) (fun h12_ => ?_)
    ·
      refine fl_iconst hm_159 rfl ?_
      refine ga_istore_n (lv2 := [(3, .int (Int32.ofInt 0)), (5, .int (Int32.ofInt (at_ + k))), (4, .int (Int32.ofInt k)), (0, .ref 344), (1, .int (Int32.ofInt a)), (2, .int (Int32.ofInt at_))]) hm_159 rfl (Nat.le_of_ble_eq_true rfl) rfl ?_
      refine ga_inc (a := k) (c := k + 1) (lv2 := [(4, .int (Int32.ofInt (k + 1))), (3, .int (Int32.ofInt 0)), (5, .int (Int32.ofInt (at_ + k))), (0, .ref 344), (1, .int (Int32.ofInt a)), (2, .int (Int32.ofInt at_))]) hm_159 rfl rfl (Nat.le_of_ble_eq_true rfl) rfl rfl ?_
      refine fl_goto hm_159 rfl ?_
      exact fl_R_sub (lv' := [(4, .int (Int32.ofInt (k + 1))), (3, .int (Int32.ofInt 0)), (0, .ref 344), (1, .int (Int32.ofInt a)), (2, .int (Int32.ofInt at_))]) rfl rfl (ih3_ _ (by omega) (k + 1) (0) rfl (⟨by omega, by omega⟩) (by rw [show (k + 1).toNat = k.toNat + 1 by omega]; exact eqn_0 hx_ hgd (by rcases hr_.2 with h8_ | h8_; exact h8_.1; (exfalso; have h7_ := h8_.2.1; omega)) (Or.inl (by omega))) (⟨by omega, by omega⟩))
    refine ga_aload_n (v := .ref 344) hm_159 rfl rfl rfl ?_
    refine ga_iload_n (z := a) hm_159 rfl rfl ?_
    refine ga_iload (z := at_ + k) hm_159 rfl rfl ?_
    refine fl_iconst hm_159 rfl ?_
    refine gVi (nY := 4) (F := 0) (L := 0) (As := [.int (Int32.ofInt a), .int (Int32.ofInt (at_ + k)), .int (Int32.ofInt 0)]) (b := 344) (rest := []) hm_159 rfl hm_193 rfl rfl (fl_ob sc_344) rfl rfl rfl rfl rfl (by omega) (by omega) (mc_193 hG F X hgi (a) (at_ + k) (0) (⟨by omega, by omega⟩) (⟨by omega, by omega⟩) (by omega)) (fun _ _ h => False.elim h) ?_
    rintro z13_ A1_ ⟨hA_, c14_, c15_⟩
    subst hA_
    refine ga_aload_n (v := .ref 344) hm_159 rfl rfl rfl ?_
    refine ga_iload_n (z := a) hm_159 rfl rfl ?_
    refine ga_iload (z := at_ + k) hm_159 rfl rfl ?_
    refine fl_iconst hm_159 rfl ?_
    refine gVi (nY := 4) (F := 0) (L := 0) (As := [.int (Int32.ofInt a), .int (Int32.ofInt (at_ + k)), .int (Int32.ofInt 1)]) (b := 344) (rest := [.int (Int32.ofInt z13_)]) hm_159 rfl hm_193 rfl rfl (fl_ob sc_344) rfl rfl rfl rfl rfl (by omega) (by omega) (mc_193 hG F X hgi (a) (at_ + k) (1) (⟨by omega, by omega⟩) (⟨by omega, by omega⟩) (by omega)) (fun _ _ h => False.elim h) ?_
    rintro z16_ A1_ ⟨hA_, c17_, c18_⟩
    subst hA_
    refine fx_icmp_ne (a := z13_) (b := z16_) hm_159 rfl ⟨by omega, by omega⟩ ⟨by omega, by omega⟩ (fun h19_ => ?_) (fun h20_ => ?_)
    ·
      refine fl_iconst hm_159 rfl ?_
      refine ga_aload_n (v := .ref 344) hm_159 rfl rfl rfl ?_
      refine ga_getr (b := 361) hm_159 rfl sc_344 rfl ?_
      refine ga_iload (z := at_ + k) hm_159 rfl rfl ?_
      have b21_ : 0 ≤ F 361 (at_ + k).toNat ∧ F 361 (at_ + k).toNat ≤ 1 := gi_g hgi rfl
      refine ga_zald (z := at_ + k) (w := F 361 (at_ + k).toNat) hm_159 rfl sc_361 (by omega) (by omega) (by omega) (rfl) ?_
      refine fl_icmp_eq (a := 0) (b := F 361 (at_ + k).toNat) hm_159 rfl ⟨by omega, by omega⟩ ⟨by omega, by omega⟩ (fun h22_ => ?_) (fun h23_ => ?_)
      ·
        refine fl_iconst hm_159 rfl ?_
        refine ga_istore_n (lv2 := [(3, .int (Int32.ofInt 0)), (5, .int (Int32.ofInt (at_ + k))), (4, .int (Int32.ofInt k)), (0, .ref 344), (1, .int (Int32.ofInt a)), (2, .int (Int32.ofInt at_))]) hm_159 rfl (Nat.le_of_ble_eq_true rfl) rfl ?_
        refine ga_inc (a := k) (c := k + 1) (lv2 := [(4, .int (Int32.ofInt (k + 1))), (3, .int (Int32.ofInt 0)), (5, .int (Int32.ofInt (at_ + k))), (0, .ref 344), (1, .int (Int32.ofInt a)), (2, .int (Int32.ofInt at_))]) hm_159 rfl rfl (Nat.le_of_ble_eq_true rfl) rfl rfl ?_
        refine fl_goto hm_159 rfl ?_
        exact fl_R_sub (lv' := [(4, .int (Int32.ofInt (k + 1))), (3, .int (Int32.ofInt 0)), (0, .ref 344), (1, .int (Int32.ofInt a)), (2, .int (Int32.ofInt at_))]) rfl rfl (ih3_ _ (by omega) (k + 1) (0) rfl (⟨by omega, by omega⟩) (by rw [show (k + 1).toNat = k.toNat + 1 by omega]; have hq_ : x_.1 = -1 := (by rcases hr_.2 with h8_ | h8_; exact h8_.1; (exfalso; have h7_ := h8_.2.1; omega)); have hr2_ : F 363 (2 * (at_ + k).toNat) = x_.2.2.1 ∧ F 363 (2 * (at_ + k).toNat + 1) = x_.2.2.2 := (by rcases hr_.2 with h8_ | h8_; exact h8_.2.2; exact absurd hq_ h8_.1); have hn_ := hlt x_ (List.mem_of_getElem? hx_) hq_; have v0_ := val_ref c15_ (by have h8_ := hr2_.1; rw [show 2 * (at_ + k).toNat = (2 * (at_ + k) + 0).toNat by omega] at h8_; first | exact h8_ | omega) hn_.1; have v1_ := val_ref c18_ (by have h8_ := hr2_.2; rw [show 2 * (at_ + k).toNat + 1 = (2 * (at_ + k) + 1).toNat by omega] at h8_; first | exact h8_ | omega) hn_.2; exact eqn_0 hx_ hgd hq_ (Or.inr (by rw [← v0_, ← v1_]; omega))) (⟨by omega, by omega⟩))
      refine fl_iconst hm_159 rfl ?_
      refine fl_goto hm_159 rfl ?_
      refine ga_istore_n (lv2 := [(3, .int (Int32.ofInt 1)), (5, .int (Int32.ofInt (at_ + k))), (4, .int (Int32.ofInt k)), (0, .ref 344), (1, .int (Int32.ofInt a)), (2, .int (Int32.ofInt at_))]) hm_159 rfl (Nat.le_of_ble_eq_true rfl) rfl ?_
      refine ga_inc (a := k) (c := k + 1) (lv2 := [(4, .int (Int32.ofInt (k + 1))), (3, .int (Int32.ofInt 1)), (5, .int (Int32.ofInt (at_ + k))), (0, .ref 344), (1, .int (Int32.ofInt a)), (2, .int (Int32.ofInt at_))]) hm_159 rfl rfl (Nat.le_of_ble_eq_true rfl) rfl rfl ?_
      refine fl_goto hm_159 rfl ?_
      exact fl_R_sub (lv' := [(4, .int (Int32.ofInt (k + 1))), (3, .int (Int32.ofInt 1)), (0, .ref 344), (1, .int (Int32.ofInt a)), (2, .int (Int32.ofInt at_))]) rfl rfl (ih3_ _ (by omega) (k + 1) (1) rfl (⟨by omega, by omega⟩) (by rw [show (k + 1).toNat = k.toNat + 1 by omega]; have hq_ : x_.1 = -1 := (by rcases hr_.2 with h8_ | h8_; exact h8_.1; (exfalso; have h7_ := h8_.2.1; omega)); have hr2_ : F 363 (2 * (at_ + k).toNat) = x_.2.2.1 ∧ F 363 (2 * (at_ + k).toNat + 1) = x_.2.2.2 := (by rcases hr_.2 with h8_ | h8_; exact h8_.2.2; exact absurd hq_ h8_.1); have hn_ := hlt x_ (List.mem_of_getElem? hx_) hq_; have v0_ := val_ref c15_ (by have h8_ := hr2_.1; rw [show 2 * (at_ + k).toNat = (2 * (at_ + k) + 0).toNat by omega] at h8_; first | exact h8_ | omega) hn_.1; have v1_ := val_ref c18_ (by have h8_ := hr2_.2; rw [show 2 * (at_ + k).toNat + 1 = (2 * (at_ + k) + 1).toNat by omega] at h8_; first | exact h8_ | omega) hn_.2; exact eqn_1 hx_ hgd (by omega) hq_ (by rw [← v0_, ← v1_]; omega)) (⟨by omega, by omega⟩))
    refine fl_iconst hm_159 rfl ?_
    refine fl_goto hm_159 rfl ?_
    refine ga_aload_n (v := .ref 344) hm_159 rfl rfl rfl ?_
    refine ga_getr (b := 361) hm_159 rfl sc_344 rfl ?_
    refine ga_iload (z := at_ + k) hm_159 rfl rfl ?_
    have b24_ : 0 ≤ F 361 (at_ + k).toNat ∧ F 361 (at_ + k).toNat ≤ 1 := gi_g hgi rfl
    refine ga_zald (z := at_ + k) (w := F 361 (at_ + k).toNat) hm_159 rfl sc_361 (by omega) (by omega) (by omega) (rfl) ?_
    refine fl_icmp_eq (a := 1) (b := F 361 (at_ + k).toNat) hm_159 rfl ⟨by omega, by omega⟩ ⟨by omega, by omega⟩ (fun h25_ => ?_) (fun h26_ => ?_)
    ·
      refine fl_iconst hm_159 rfl ?_
      refine ga_istore_n (lv2 := [(3, .int (Int32.ofInt 0)), (5, .int (Int32.ofInt (at_ + k))), (4, .int (Int32.ofInt k)), (0, .ref 344), (1, .int (Int32.ofInt a)), (2, .int (Int32.ofInt at_))]) hm_159 rfl (Nat.le_of_ble_eq_true rfl) rfl ?_
      refine ga_inc (a := k) (c := k + 1) (lv2 := [(4, .int (Int32.ofInt (k + 1))), (3, .int (Int32.ofInt 0)), (5, .int (Int32.ofInt (at_ + k))), (0, .ref 344), (1, .int (Int32.ofInt a)), (2, .int (Int32.ofInt at_))]) hm_159 rfl rfl (Nat.le_of_ble_eq_true rfl) rfl rfl ?_
      refine fl_goto hm_159 rfl ?_
      exact fl_R_sub (lv' := [(4, .int (Int32.ofInt (k + 1))), (3, .int (Int32.ofInt 0)), (0, .ref 344), (1, .int (Int32.ofInt a)), (2, .int (Int32.ofInt at_))]) rfl rfl (ih3_ _ (by omega) (k + 1) (0) rfl (⟨by omega, by omega⟩) (by rw [show (k + 1).toNat = k.toNat + 1 by omega]; have hq_ : x_.1 = -1 := (by rcases hr_.2 with h8_ | h8_; exact h8_.1; (exfalso; have h7_ := h8_.2.1; omega)); have hr2_ : F 363 (2 * (at_ + k).toNat) = x_.2.2.1 ∧ F 363 (2 * (at_ + k).toNat + 1) = x_.2.2.2 := (by rcases hr_.2 with h8_ | h8_; exact h8_.2.2; exact absurd hq_ h8_.1); have hn_ := hlt x_ (List.mem_of_getElem? hx_) hq_; have v0_ := val_ref c15_ (by have h8_ := hr2_.1; rw [show 2 * (at_ + k).toNat = (2 * (at_ + k) + 0).toNat by omega] at h8_; first | exact h8_ | omega) hn_.1; have v1_ := val_ref c18_ (by have h8_ := hr2_.2; rw [show 2 * (at_ + k).toNat + 1 = (2 * (at_ + k) + 1).toNat by omega] at h8_; first | exact h8_ | omega) hn_.2; exact eqn_0 hx_ hgd hq_ (Or.inr (by rw [← v0_, ← v1_]; omega))) (⟨by omega, by omega⟩))
    refine fl_iconst hm_159 rfl ?_
    refine fl_goto hm_159 rfl ?_
    refine ga_istore_n (lv2 := [(3, .int (Int32.ofInt 1)), (5, .int (Int32.ofInt (at_ + k))), (4, .int (Int32.ofInt k)), (0, .ref 344), (1, .int (Int32.ofInt a)), (2, .int (Int32.ofInt at_))]) hm_159 rfl (Nat.le_of_ble_eq_true rfl) rfl ?_
    refine ga_inc (a := k) (c := k + 1) (lv2 := [(4, .int (Int32.ofInt (k + 1))), (3, .int (Int32.ofInt 1)), (5, .int (Int32.ofInt (at_ + k))), (0, .ref 344), (1, .int (Int32.ofInt a)), (2, .int (Int32.ofInt at_))]) hm_159 rfl rfl (Nat.le_of_ble_eq_true rfl) rfl rfl ?_
    refine fl_goto hm_159 rfl ?_
    exact fl_R_sub (lv' := [(4, .int (Int32.ofInt (k + 1))), (3, .int (Int32.ofInt 1)), (0, .ref 344), (1, .int (Int32.ofInt a)), (2, .int (Int32.ofInt at_))]) rfl rfl (ih3_ _ (by omega) (k + 1) (1) rfl (⟨by omega, by omega⟩) (by rw [show (k + 1).toNat = k.toNat + 1 by omega]; have hq_ : x_.1 = -1 := (by rcases hr_.2 with h8_ | h8_; exact h8_.1; (exfalso; have h7_ := h8_.2.1; omega)); have hr2_ : F 363 (2 * (at_ + k).toNat) = x_.2.2.1 ∧ F 363 (2 * (at_ + k).toNat + 1) = x_.2.2.2 := (by rcases hr_.2 with h8_ | h8_; exact h8_.2.2; exact absurd hq_ h8_.1); have hn_ := hlt x_ (List.mem_of_getElem? hx_) hq_; have v0_ := val_ref c15_ (by have h8_ := hr2_.1; rw [show 2 * (at_ + k).toNat = (2 * (at_ + k) + 0).toNat by omega] at h8_; first | exact h8_ | omega) hn_.1; have v1_ := val_ref c18_ (by have h8_ := hr2_.2; rw [show 2 * (at_ + k).toNat + 1 = (2 * (at_ + k) + 1).toNat by omega] at h8_; first | exact h8_ | omega) hn_.2; exact eqn_1 hx_ hgd (by omega) hq_ (by rw [← v0_, ← v1_]; omega)) (⟨by omega, by omega⟩))
  exact L2_ _ (0) (1) rfl (⟨by omega, by omega⟩) (rfl) (⟨by omega, by omega⟩)
/- CheapPlannerModel.atoms -/
abbrev pq_156 (G : Nat → Nat → Option Nat) (F : fl_N) (X : xi_H) (a at_ n nt : Int) (L : List lt_T) (ps : List (List Int)) : Outcome → xi_H → Prop := gql (fun z A => fl_H sh_T G F ++ X = A ∧ (-9223372036854775808 ≤ z ∧ z ≤ 9223372036854775807) ∧ (z = msk (F 366) (obr F a) nt L)) gqn
theorem mc_156 {G : Nat → Nat → Option Nat} (hG : gg G) (F : fl_N) (X : xi_H) (hgi : gi F) (a at_ n nt : Int) (L : List lt_T) (ps : List (List Int)) (hat : 0 ≤ at_ ∧ at_ ≤ 40) (hla : a = 5 ∨ (0 ≤ a ∧ a ≤ 4 ∧ at_ ≤ 36)) (hn : 0 ≤ n ∧ n ≤ 4) (hnt : 0 ≤ nt ∧ nt ≤ 1) (hrc : rcl F at_.toNat L) (hrn : (L.length : Int) = n) (hlw : ∀ x ∈ L, lwf ps x) (hps : rprd F ps) : fl_M xi_ms 156 2 47 [.ref 344, .int (Int32.ofInt a), .int (Int32.ofInt at_), .int (Int32.ofInt n), .int (Int32.ofInt nt)] (fl_H sh_T G F ++ X) (pq_156 G F X a at_ n nt L ps) := by
  intro fr lo hfr hlo
  show fl_R xi_ms 156 fr lo 0 [(0, .ref 344), (1, .int (Int32.ofInt a)), (2, .int (Int32.ofInt at_)), (3, .int (Int32.ofInt n)), (4, .int (Int32.ofInt nt))] [] _ _
  refine ga_lconst (z := 0) hm_156 rfl rfl ?_
  refine ga_lstore (lv2 := [(5, .long (Int64.ofInt 0)), (0, .ref 344), (1, .int (Int32.ofInt a)), (2, .int (Int32.ofInt at_)), (3, .int (Int32.ofInt n)), (4, .int (Int32.ofInt nt))]) hm_156 rfl (Nat.le_of_ble_eq_true rfl) rfl ?_
  refine fl_iconst hm_156 rfl ?_
  refine ga_istore (lv2 := [(7, .int (Int32.ofInt 0)), (5, .long (Int64.ofInt 0)), (0, .ref 344), (1, .int (Int32.ofInt a)), (2, .int (Int32.ofInt at_)), (3, .int (Int32.ofInt n)), (4, .int (Int32.ofInt nt))]) hm_156 rfl (Nat.le_of_ble_eq_true rfl) rfl ?_
  have L2_ : ∀ (n1_ : Nat) (k : Int) (bi : Int), (4 - k : Int).toNat = n1_ → (0 ≤ k ∧ k ≤ n) → (-9223372036854775808 ≤ bi ∧ bi ≤ 9223372036854775807) → (bi = msk (F 366) (obr F a) nt (L.take k.toNat)) → fl_R xi_ms 156 fr lo 6 [(7, .int (Int32.ofInt k)), (5, .long (Int64.ofInt bi)), (0, .ref 344), (1, .int (Int32.ofInt a)), (2, .int (Int32.ofInt at_)), (3, .int (Int32.ofInt n)), (4, .int (Int32.ofInt nt))] [] (fl_H sh_T G F ++ X) (pq_156 G F X a at_ n nt L ps) := by
    intro n1_
    induction n1_ using Nat.strongRecOn with
    | ind n1_ ih3_ =>
    intro k bi hn4_ hk hbi hbm
    refine ga_iload (z := k) hm_156 rfl rfl ?_
    refine ga_iload_n (z := n) hm_156 rfl rfl ?_
    refine fl_icmp_ge (a := k) (b := n) hm_156 rfl ⟨by omega, by omega⟩ ⟨by omega, by omega⟩ (fun h5_ => ?_) (fun h6_ => ?_)
    ·
      refine ga_lload (z := bi) hm_156 rfl rfl ?_
      refine gr_l hm_156 rfl rfl ?_
      exact ⟨rfl, (⟨by omega, by omega⟩), (by rw [show L.take k.toNat = L from List.take_of_length_le (by omega)] at hbm; exact hbm)⟩
    refine ga_iload_n (z := at_) hm_156 rfl rfl ?_
    refine ga_iload (z := k) hm_156 rfl rfl ?_
    refine ga_iadd (a := at_) (b := k) (c := at_ + k) hm_156 rfl (by omega) ?_
    refine ga_istore (lv2 := [(8, .int (Int32.ofInt (at_ + k))), (7, .int (Int32.ofInt k)), (5, .long (Int64.ofInt bi)), (0, .ref 344), (1, .int (Int32.ofInt a)), (2, .int (Int32.ofInt at_)), (3, .int (Int32.ofInt n)), (4, .int (Int32.ofInt nt))]) hm_156 rfl (Nat.le_of_ble_eq_true rfl) rfl ?_
    refine ga_aload_n (v := .ref 344) hm_156 rfl rfl rfl ?_
    obtain ⟨x_, hx_, hr_⟩ := rcl_get hrc (k := k.toNat) (by omega)
    rw [show at_.toNat + k.toNat = (at_ + k).toNat by omega] at hr_
    have hr1_ := hr_.1
    refine ga_getr (b := 360) hm_156 rfl sc_344 rfl ?_
    refine ga_iload (z := at_ + k) hm_156 rfl rfl ?_
    have b7_ : 0 ≤ F 360 (at_ + k).toNat ∧ F 360 (at_ + k).toNat ≤ 1 := gi_g hgi rfl
    refine ga_zald (z := at_ + k) (w := F 360 (at_ + k).toNat) hm_156 rfl sc_360 (by omega) (by omega) (by omega) (rfl) ?_
    refine fx_if_ne (a := F 360 (at_ + k).toNat) hm_156 rfl ⟨by omega, by omega⟩ (fun h8_ => ?_) (fun h9_ => ?_)
    ·
      refine ga_inc (a := k) (c := k + 1) (lv2 := [(7, .int (Int32.ofInt (k + 1))), (8, .int (Int32.ofInt (at_ + k))), (5, .long (Int64.ofInt bi)), (0, .ref 344), (1, .int (Int32.ofInt a)), (2, .int (Int32.ofInt at_)), (3, .int (Int32.ofInt n)), (4, .int (Int32.ofInt nt))]) hm_156 rfl rfl (Nat.le_of_ble_eq_true rfl) rfl rfl ?_
      refine fl_goto hm_156 rfl ?_
      exact fl_R_sub (lv' := [(7, .int (Int32.ofInt (k + 1))), (5, .long (Int64.ofInt bi)), (0, .ref 344), (1, .int (Int32.ofInt a)), (2, .int (Int32.ofInt at_)), (3, .int (Int32.ofInt n)), (4, .int (Int32.ofInt nt))]) rfl rfl (ih3_ _ (by omega) (k + 1) (bi) rfl (⟨by omega, by omega⟩) (⟨by omega, by omega⟩) (by rw [show (k + 1).toNat = k.toNat + 1 by omega]; rw [msk_s hx_, mk1_n (by rcases hr_.2 with h8_ | h8_; exact Or.inl h8_.1; (right; have h7_ := h8_.2.1; omega))]; exact hbm))
    refine ga_aload_n (v := .ref 344) hm_156 rfl rfl rfl ?_
    refine ga_getr (b := 361) hm_156 rfl sc_344 rfl ?_
    refine ga_iload (z := at_ + k) hm_156 rfl rfl ?_
    have b10_ : 0 ≤ F 361 (at_ + k).toNat ∧ F 361 (at_ + k).toNat ≤ 1 := gi_g hgi rfl
    refine ga_zald (z := at_ + k) (w := F 361 (at_ + k).toNat) hm_156 rfl sc_361 (by omega) (by omega) (by omega) (rfl) ?_
    refine ga_iload (z := nt) hm_156 rfl rfl ?_
    refine fx_icmp_ne (a := F 361 (at_ + k).toNat) (b := nt) hm_156 rfl ⟨by omega, by omega⟩ ⟨by omega, by omega⟩ (fun h11_ => ?_) (fun h12_ => ?_)
    ·
      refine ga_inc (a := k) (c := k + 1) (lv2 := [(7, .int (Int32.ofInt (k + 1))), (8, .int (Int32.ofInt (at_ + k))), (5, .long (Int64.ofInt bi)), (0, .ref 344), (1, .int (Int32.ofInt a)), (2, .int (Int32.ofInt at_)), (3, .int (Int32.ofInt n)), (4, .int (Int32.ofInt nt))]) hm_156 rfl rfl (Nat.le_of_ble_eq_true rfl) rfl rfl ?_
      refine fl_goto hm_156 rfl ?_
      exact fl_R_sub (lv' := [(7, .int (Int32.ofInt (k + 1))), (5, .long (Int64.ofInt bi)), (0, .ref 344), (1, .int (Int32.ofInt a)), (2, .int (Int32.ofInt at_)), (3, .int (Int32.ofInt n)), (4, .int (Int32.ofInt nt))]) rfl rfl (ih3_ _ (by omega) (k + 1) (bi) rfl (⟨by omega, by omega⟩) (⟨by omega, by omega⟩) (by rw [show (k + 1).toNat = k.toNat + 1 by omega]; rw [msk_s hx_, mk1_n (by rcases hr_.2 with h8_ | h8_; exact Or.inl h8_.1; (right; have h7_ := h8_.2.1; omega))]; exact hbm))
    refine ga_lload (z := bi) hm_156 rfl rfl ?_
    refine ga_aload_n (v := .ref 344) hm_156 rfl rfl rfl ?_
    have hq_ : ¬ x_.1 = -1 := (by rcases hr_.2 with h8_ | h8_; (exfalso; have h7_ := h8_.2.1; omega); exact h8_.1)
    refine ga_iload_n (z := a) hm_156 rfl rfl ?_
    refine ga_iload (z := at_ + k) hm_156 rfl rfl ?_
    refine gVl (nY := 4) (F := 1) (L := 24) (As := [.int (Int32.ofInt a), .int (Int32.ofInt (at_ + k))]) (b := 344) (rest := [.long (Int64.ofInt bi)]) hm_156 rfl hm_161 rfl rfl (fl_ob sc_344) rfl rfl rfl rfl rfl (by omega) (by omega) (mc_161 hG F X hgi (a) (at_ + k) (ps) (x_) (⟨by omega, by omega⟩) (by omega) (hps) ((by rcases hr_.2 with h8_ | h8_; exact absurd h8_.1 hq_; exact h8_.2.2)) (hlw x_ (List.mem_of_getElem? hx_)) (hq_)) (fun _ _ h => False.elim h) ?_
    rintro z13_ A1_ ⟨hA_, c14_, c15_⟩
    subst hA_
    refine ga_lx (z := (lorr bi z13_)) hm_156 rfl rfl rfl (lop_e 1 _ _) (fun ⟨h16_, h17_⟩ => ?_)
    refine ga_lstore (lv2 := [(5, .long (Int64.ofInt ((lorr bi z13_)))), (8, .int (Int32.ofInt (at_ + k))), (7, .int (Int32.ofInt k)), (0, .ref 344), (1, .int (Int32.ofInt a)), (2, .int (Int32.ofInt at_)), (3, .int (Int32.ofInt n)), (4, .int (Int32.ofInt nt))]) hm_156 rfl (Nat.le_of_ble_eq_true rfl) rfl ?_
    refine ga_inc (a := k) (c := k + 1) (lv2 := [(7, .int (Int32.ofInt (k + 1))), (5, .long (Int64.ofInt ((lorr bi z13_)))), (8, .int (Int32.ofInt (at_ + k))), (0, .ref 344), (1, .int (Int32.ofInt a)), (2, .int (Int32.ofInt at_)), (3, .int (Int32.ofInt n)), (4, .int (Int32.ofInt nt))]) hm_156 rfl rfl (Nat.le_of_ble_eq_true rfl) rfl rfl ?_
    refine fl_goto hm_156 rfl ?_
    exact fl_R_sub (lv' := [(7, .int (Int32.ofInt (k + 1))), (5, .long (Int64.ofInt ((lorr bi z13_)))), (0, .ref 344), (1, .int (Int32.ofInt a)), (2, .int (Int32.ofInt at_)), (3, .int (Int32.ofInt n)), (4, .int (Int32.ofInt nt))]) rfl rfl (ih3_ _ (by omega) (k + 1) ((lorr bi z13_)) rfl (⟨by omega, by omega⟩) (⟨by omega, by omega⟩) (by rw [show (k + 1).toNat = k.toNat + 1 by omega]; rw [msk_s hx_, mk1_y hq_ (by omega), ← c15_, hbm]))
  exact L2_ _ (0) (0) rfl (⟨by omega, by omega⟩) (⟨by omega, by omega⟩) (rfl)
/- CheapPlannerModel.fits -/
abbrev pq_164 (G : Nat → Nat → Option Nat) (F : fl_N) (X : xi_H) (o ty : Int) : Outcome → xi_H → Prop := gqi (fun z A => (fl_H sh_T G F ++ X = A ∧ (z = 0) ∧ (¬ ty = 0 ∧ ¬ F 365 o.toNat = ty)) ∨ (fl_H sh_T G F ++ X = A ∧ (z = 1) ∧ (ty = 0 ∨ F 365 o.toNat = ty))) gqn
theorem mc_164 {G : Nat → Nat → Option Nat} (hG : gg G) (F : fl_N) (X : xi_H) (hgi : gi F) (o ty : Int) (ho : 0 ≤ o ∧ o ≤ 5) (hty : 0 ≤ ty ∧ ty ≤ 4) : fl_M xi_ms 164 0 0 [.ref 344, .int (Int32.ofInt o), .int (Int32.ofInt ty)] (fl_H sh_T G F ++ X) (pq_164 G F X o ty) := by
  intro fr lo hfr hlo
  show fl_R xi_ms 164 fr lo 0 [(0, .ref 344), (1, .int (Int32.ofInt o)), (2, .int (Int32.ofInt ty))] [] _ _
  refine ga_iload_n (z := ty) hm_164 rfl rfl ?_
  refine fl_if_eq (a := ty) hm_164 rfl ⟨by omega, by omega⟩ (fun h1_ => ?_) (fun h2_ => ?_)
  ·
    refine fl_iconst hm_164 rfl ?_
    refine fl_goto hm_164 rfl ?_
    refine gr_i (z := 1) hm_164 rfl rfl (ga_nb (by omega)) ?_
    exact Or.inr (⟨rfl, rfl, (by omega)⟩)
  refine ga_aload_n (v := .ref 344) hm_164 rfl rfl rfl ?_
  refine ga_getr (b := 365) hm_164 rfl sc_344 rfl ?_
  refine ga_iload_n (z := o) hm_164 rfl rfl ?_
  have b3_ : 0 ≤ F 365 o.toNat ∧ F 365 o.toNat ≤ 4 := gi_g hgi rfl
  refine ga_iald (z := o) (w := F 365 o.toNat) hm_164 rfl sc_365 (by omega) (by omega) (by omega) (rfl) ?_
  refine ga_iload_n (z := ty) hm_164 rfl rfl ?_
  refine fx_icmp_ne (a := F 365 o.toNat) (b := ty) hm_164 rfl ⟨by omega, by omega⟩ ⟨by omega, by omega⟩ (fun h4_ => ?_) (fun h5_ => ?_)
  ·
    refine fl_iconst hm_164 rfl ?_
    refine gr_i (z := 0) hm_164 rfl rfl (ga_nb (by omega)) ?_
    exact Or.inl ⟨rfl, rfl, (by omega)⟩
  refine fl_iconst hm_164 rfl ?_
  refine fl_goto hm_164 rfl ?_
  refine gr_i (z := 1) hm_164 rfl rfl (ga_nb (by omega)) ?_
  exact Or.inr (⟨rfl, rfl, (by omega)⟩)
/- CheapPlannerModel.groundAction -/
abbrev pq_165 (G : Nat → Nat → Option Nat) (F : fl_N) (X : xi_H) (a : Int) (D : List ad_T) (tl : List Int) (ps : List (List Int)) (L0 : List (Nat × Nat)) : Outcome → xi_H → Prop := gqi (fun z A => (∃ F' : fl_N, fl_H sh_T G F' ++ X = A ∧ gi F' ∧ fs [(344, 344, 39, 39), (367, 372, 0, 100000), (384, 384, 0, 100000)] F F' ∧ (z = 0) ∧ (40 < (L0 ++ stE tl D a.toNat).length) ∧ (sob F')) ∨ (∃ F' : fl_N, fl_H sh_T G F' ++ X = A ∧ gi F' ∧ fs [(344, 344, 39, 39), (367, 372, 0, 100000), (384, 384, 0, 100000)] F F' ∧ (z = 1) ∧ (sob F') ∧ (F' 344 39 = ((L0 ++ stE tl D a.toNat).length : Int)) ∧ (rsts F' D (L0 ++ stE tl D a.toNat)))) gqn
theorem mc_165 {G : Nat → Nat → Option Nat} (hG : gg G) (F : fl_N) (X : xi_H) (hgi : gi F) (a : Int) (D : List ad_T) (tl : List Int) (ps : List (List Int)) (L0 : List (Nat × Nat)) (ha : 0 ≤ a ∧ a ≤ 4) (hc : 0 ≤ F 357 a.toNat) (hso : sob F) (hD : racr F a.toNat (dat D a.toNat)) (hob : F 344 33 = (tl.length : Int) ∧ rty (F 365) 0 tl) (hps : rprd F ps) (hlc : ∀ y ∈ (dat D a.toNat).2.1, lwf ps y ∧ lt3 y) (hle : ∀ y ∈ (dat D a.toNat).2.2.1, lwf ps y ∧ lt3 y) (hcn : F 344 39 = (L0.length : Int)) (hst : rsts F D L0) : fl_M xi_ms 165 3 75 [.ref 344, .int (Int32.ofInt a)] (fl_H sh_T G F ++ X) (pq_165 G F X a D tl ps L0) := by
  intro fr lo hfr hlo
  show fl_R xi_ms 165 fr lo 0 [(0, .ref 344), (1, .int (Int32.ofInt a))] [] _ _
  obtain ⟨d, hd⟩ : ∃ d, dat D a.toNat = d := ⟨_, rfl⟩
  have hDa := hD
  rw [hd] at hDa
  have hDn := hDa.1.1
  have hDc := hDa.2.1.1
  have hDe := hDa.2.2.1.1
  have hl3 : ∀ y ∈ d.2.1, lt3 y := fun y hy => (hlc y (by rw [hd]; exact hy)).2
  have hle3 : ∀ y ∈ d.2.2.1, lt3 y := fun y hy => (hle y (by rw [hd]; exact hy)).2
  have hob1 := hob.1
  have hb354 : 0 ≤ F 354 a.toNat ∧ F 354 a.toNat ≤ 3 := gi_g hgi rfl
  have hb33 : 0 ≤ F 344 33 ∧ F 344 33 ≤ 6 := gi_g hgi rfl
  refine ga_aload_n (v := .ref 344) hm_165 rfl rfl rfl ?_
  refine ga_getr (b := 354) hm_165 rfl sc_344 rfl ?_
  refine ga_iload_n (z := a) hm_165 rfl rfl ?_
  have b1_ : 0 ≤ F 354 a.toNat ∧ F 354 a.toNat ≤ 3 := gi_g hgi rfl
  refine ga_iald (z := a) (w := F 354 a.toNat) hm_165 rfl sc_354 (by omega) (by omega) (by omega) (rfl) ?_
  refine ga_istore_n (lv2 := [(2, .int (Int32.ofInt (F 354 a.toNat))), (0, .ref 344), (1, .int (Int32.ofInt a))]) hm_165 rfl (Nat.le_of_ble_eq_true rfl) rfl ?_
  refine fl_iconst hm_165 rfl ?_
  refine ga_istore_n (lv2 := [(3, .int (Int32.ofInt 0)), (2, .int (Int32.ofInt (F 354 a.toNat))), (0, .ref 344), (1, .int (Int32.ofInt a))]) hm_165 rfl (Nat.le_of_ble_eq_true rfl) rfl ?_
  have L3_ : ∀ (n2_ : Nat) (x : Int) (F1 : fl_N), (216 - x : Int).toNat = n2_ → (gi F1) → (fs [(344, 344, 39, 39), (367, 372, 0, 100000), (384, 384, 0, 100000)] F F1) → (0 ≤ x ∧ x ≤ 216) → (sob F1) → (F1 344 39 = ((L0 ++ stR tl D a.toNat x.toNat).length : Int)) → (rsts F1 D (L0 ++ stR tl D a.toNat x.toNat)) → fl_R xi_ms 165 fr lo 9 [(3, .int (Int32.ofInt x)), (2, .int (Int32.ofInt (F 354 a.toNat))), (0, .ref 344), (1, .int (Int32.ofInt a))] [] (fl_H sh_T G F1 ++ X) (pq_165 G F X a D tl ps L0) := by
    intro n2_
    induction n2_ using Nat.strongRecOn with
    | ind n2_ ih4_ =>
    intro x F1 hn5_ hg_F1 hf_F1 hx hs1 hc1 hs2
    have g6_ : fs [(344, 344, 39, 39), (367, 372, 0, 100000), (384, 384, 0, 100000)] F F1 := fs_tr fs_refl hf_F1 rfl
    refine ga_iload_n (z := x) hm_165 rfl rfl ?_
    refine fl_sipush hm_165 rfl rfl ?_
    refine fl_icmp_ge (a := x) (b := 216) hm_165 rfl ⟨by omega, by omega⟩ ⟨by omega, by omega⟩ (fun h7_ => ?_) (fun h8_ => ?_)
    ·
      refine fl_iconst hm_165 rfl ?_
      refine gr_i (z := 1) hm_165 rfl rfl (ga_nb (by omega)) ?_
      have b9_ : 0 ≤ F1 344 39 ∧ F1 344 39 ≤ 40 := gi_g hg_F1 rfl
      exact Or.inr (⟨F1, rfl, hg_F1, g6_, rfl, (hs1), (by rw [show x.toNat = 216 by omega, stR_end] at hc1; exact hc1), (by rw [show x.toNat = 216 by omega, stR_end] at hs2; exact hs2)⟩)
    refine ga_aload_n (v := .ref 344) hm_165 rfl rfl rfl ?_
    refine ga_getr (b := 384) hm_165 rfl sc_344 rfl ?_
    refine fl_iconst hm_165 rfl ?_
    refine ga_iload_n (z := x) hm_165 rfl rfl ?_
    refine fl_bipush hm_165 rfl rfl ?_
    refine ga_idiv (a := x) (b := 36) hm_165 rfl (by omega) (by omega) (by omega) (by omega) ?_
    refine fl_iast (z := 0) (v := (x / 36)) hm_165 rfl sc_384 (by omega) (by omega) (by omega) ?_
    refine ga_aload_n (v := .ref 344) hm_165 rfl rfl rfl ?_
    refine ga_getr (b := 384) hm_165 rfl sc_344 rfl ?_
    refine fl_iconst hm_165 rfl ?_
    refine ga_iload_n (z := x) hm_165 rfl rfl ?_
    refine fl_bipush hm_165 rfl rfl ?_
    refine ga_idiv (a := x) (b := 6) hm_165 rfl (by omega) (by omega) (by omega) (by omega) ?_
    refine fl_bipush hm_165 rfl rfl ?_
    refine ga_irem (a := (x / 6)) (b := 6) hm_165 rfl (by omega) (by omega) (by omega) (by omega) ?_
    refine fl_iast (z := 1) (v := (((x / 6)) % 6)) hm_165 rfl sc_384 (by omega) (by omega) (by omega) ?_
    refine ga_aload_n (v := .ref 344) hm_165 rfl rfl rfl ?_
    refine ga_getr (b := 384) hm_165 rfl sc_344 rfl ?_
    refine fl_iconst hm_165 rfl ?_
    refine ga_iload_n (z := x) hm_165 rfl rfl ?_
    refine fl_bipush hm_165 rfl rfl ?_
    refine ga_irem (a := x) (b := 6) hm_165 rfl (by omega) (by omega) (by omega) (by omega) ?_
    refine fl_iast (z := 2) (v := (x % 6)) hm_165 rfl sc_384 (by omega) (by omega) (by omega) ?_
    refine fl_iconst hm_165 rfl ?_
    refine ga_istore (lv2 := [(4, .int (Int32.ofInt 1)), (3, .int (Int32.ofInt x)), (2, .int (Int32.ofInt (F 354 a.toNat))), (0, .ref 344), (1, .int (Int32.ofInt a))]) hm_165 rfl (Nat.le_of_ble_eq_true rfl) rfl ?_
    refine fl_iconst hm_165 rfl ?_
    refine ga_istore (lv2 := [(5, .int (Int32.ofInt 0)), (4, .int (Int32.ofInt 1)), (3, .int (Int32.ofInt x)), (2, .int (Int32.ofInt (F 354 a.toNat))), (0, .ref 344), (1, .int (Int32.ofInt a))]) hm_165 rfl (Nat.le_of_ble_eq_true rfl) rfl ?_
    obtain ⟨F10_, q11_⟩ : ∃ Fq_, Fq_ = (fl_u (fl_u (fl_u F1 384 (0 : Int).toNat ((x / 36))) 384 (1 : Int).toNat ((((x / 6)) % 6))) 384 (2 : Int).toNat ((x % 6))) := ⟨_, rfl⟩
    rw [← q11_]
    have g12_ : gi F10_ := by rw [q11_]; exact gi_u (gi_u (gi_u (hg_F1) rfl (by omega) (by omega)) rfl (by omega) (by omega)) rfl (by omega) (by omega)
    have g13_ : fs [(344, 344, 39, 39), (367, 372, 0, 100000), (384, 384, 0, 100000)] F F10_ := by rw [q11_]; exact fs_u (fs_u (fs_u (g6_) rfl) rfl) rfl
    have L15_ : ∀ (n14_ : Nat) (gd : Int) (k : Int), (3 - k : Int).toNat = n14_ → (0 ≤ k ∧ k ≤ 3) → (gd = (if vfk tl d.1 x.toNat k.toNat = true then 1 else 0)) → (0 ≤ gd ∧ gd ≤ 1) → fl_R xi_ms 165 fr lo 55 [(5, .int (Int32.ofInt k)), (4, .int (Int32.ofInt gd)), (3, .int (Int32.ofInt x)), (2, .int (Int32.ofInt (F 354 a.toNat))), (0, .ref 344), (1, .int (Int32.ofInt a))] [] (fl_H sh_T G F10_ ++ X) (pq_165 G F X a D tl ps L0) := by
      intro n14_
      induction n14_ using Nat.strongRecOn with
      | ind n14_ ih16_ =>
      intro gd k hn17_ hk hgd hgb
      have e18_ : F10_ 384 0 = (x / 36) := by rw [q11_]; exact (fl_u_ne (by first | exact nc_ rfl | decide | omega)).trans ((fl_u_ne (by first | exact nc_ rfl | decide | omega)).trans (fl_u_eq))
      have e19_ : F10_ 384 1 = (((x / 6)) % 6) := by rw [q11_]; exact (fl_u_ne (by first | exact nc_ rfl | decide | omega)).trans (fl_u_eq)
      have e20_ : F10_ 384 2 = (x % 6) := by rw [q11_]; exact fl_u_eq
      have hgv := gvo_of (F := F10_) (x := x) (e18_) (e19_) (e20_) (by omega)
      refine ga_iload (z := k) hm_165 rfl rfl ?_
      refine fl_iconst hm_165 rfl ?_
      refine fl_icmp_ge (a := k) (b := 3) hm_165 rfl ⟨by omega, by omega⟩ ⟨by omega, by omega⟩ (fun h21_ => ?_) (fun h22_ => ?_)
      ·
        refine ga_iload (z := gd) hm_165 rfl rfl ?_
        refine fl_if_eq (a := gd) hm_165 rfl ⟨by omega, by omega⟩ (fun h23_ => ?_) (fun h24_ => ?_)
        ·
          refine ga_inc (a := x) (c := x + 1) (lv2 := [(3, .int (Int32.ofInt (x + 1))), (5, .int (Int32.ofInt k)), (4, .int (Int32.ofInt gd)), (2, .int (Int32.ofInt (F 354 a.toNat))), (0, .ref 344), (1, .int (Int32.ofInt a))]) hm_165 rfl rfl (Nat.le_of_ble_eq_true rfl) rfl rfl ?_
          refine fl_goto hm_165 rfl ?_
          have e25_ : F10_ 344 39 = F1 344 39 := by rw [q11_]; exact (fl_u_ne (by first | exact nc_ rfl | decide | omega)).trans ((fl_u_ne (by first | exact nc_ rfl | decide | omega)).trans (fl_u_ne (by first | exact nc_ rfl | decide | omega)))
          have b26_ : 0 ≤ F1 344 39 ∧ F1 344 39 ≤ 40 := gi_g hg_F1 rfl
          exact fl_R_sub (lv' := [(3, .int (Int32.ofInt (x + 1))), (2, .int (Int32.ofInt (F 354 a.toNat))), (0, .ref 344), (1, .int (Int32.ofInt a))]) rfl rfl (ih4_ _ (by omega) (x + 1) F10_ rfl g12_ (by rw [q11_]; exact fs_u (fs_u (fs_u (hf_F1) rfl) rfl) rfl) (⟨by omega, by omega⟩) (sob_cg hs1 (show F10_ 344 39 = F1 344 39 from (by rw [q11_]; exact (fl_u_ne (by first | exact nc_ rfl | decide | omega)).trans ((fl_u_ne (by first | exact nc_ rfl | decide | omega)).trans ((fl_u_ne (by first | exact nc_ rfl | decide | omega)))))) (fun j => (show F10_ 357 j = F1 357 j from (by rw [q11_]; exact (fl_u_ne (by first | exact nc_ rfl | decide | omega)).trans ((fl_u_ne (by first | exact nc_ rfl | decide | omega)).trans ((fl_u_ne (by first | exact nc_ rfl | decide | omega))))))) (fun j => (show F10_ 367 j = F1 367 j from (by rw [q11_]; exact (fl_u_ne (by first | exact nc_ rfl | decide | omega)).trans ((fl_u_ne (by first | exact nc_ rfl | decide | omega)).trans ((fl_u_ne (by first | exact nc_ rfl | decide | omega))))))) (fun j => (show F10_ 354 j = F1 354 j from (by rw [q11_]; exact (fl_u_ne (by first | exact nc_ rfl | decide | omega)).trans ((fl_u_ne (by first | exact nc_ rfl | decide | omega)).trans ((fl_u_ne (by first | exact nc_ rfl | decide | omega))))))) (fun j => (show F10_ 368 j = F1 368 j from (by rw [q11_]; exact (fl_u_ne (by first | exact nc_ rfl | decide | omega)).trans ((fl_u_ne (by first | exact nc_ rfl | decide | omega)).trans ((fl_u_ne (by first | exact nc_ rfl | decide | omega)))))))) (by rw [show (x + 1).toNat = x.toNat + 1 by omega]; rw [stR_n (hd ▸ ok_n1 (by omega) ((eq01 (show gd = (if vfk tl d.1 x.toNat 3 = true then 1 else 0) from (by rw [show k.toNat = 3 by omega] at hgd; exact hgd))).1 (by omega)))]; omega) (by rw [show (x + 1).toNat = x.toNat + 1 by omega]; rw [stR_n (hd ▸ ok_n1 (by omega) ((eq01 (show gd = (if vfk tl d.1 x.toNat 3 = true then 1 else 0) from (by rw [show k.toNat = 3 by omega] at hgd; exact hgd))).1 (by omega)))]; exact (rsts_cg hs2 (fun j => (show F10_ 366 j = F1 366 j from (by rw [q11_]; exact (fl_u_ne (by first | exact nc_ rfl | decide | omega)).trans ((fl_u_ne (by first | exact nc_ rfl | decide | omega)).trans ((fl_u_ne (by first | exact nc_ rfl | decide | omega))))))) (fun j hj => (show F10_ 368 j = F1 368 j from (by rw [q11_]; exact (fl_u_ne (by first | exact nc_ rfl | decide | omega)).trans ((fl_u_ne (by first | exact nc_ rfl | decide | omega)).trans ((fl_u_ne (by first | exact nc_ rfl | decide | omega))))))) (fun r j hr hj => (show F10_ (r) j = F1 (r) j from (by rw [q11_]; exact (fl_u_ne (by first | exact nc_ rfl | decide | omega)).trans ((fl_u_ne (by first | exact nc_ rfl | decide | omega)).trans ((fl_u_ne (by first | exact nc_ rfl | decide | omega))))))))))
        refine ga_aload_n (v := .ref 344) hm_165 rfl rfl rfl ?_
        refine ga_iload_n (z := a) hm_165 rfl rfl ?_
        refine fl_bipush hm_165 rfl rfl ?_
        refine ga_iload_n (z := a) hm_165 rfl rfl ?_
        refine ga_imul (a := 8) (b := a) (c := 8 * a) hm_165 rfl (by omega) ?_
        have e27_ : F1 358 a.toNat = F 358 a.toNat := (hf_F1 358 a.toNat (by first | exact fs_c rfl | exact (fs_n (by omega) (fs_n (by omega) (fs_n (by omega) rfl))))).trans (rfl)
        have e28_ : F10_ 358 a.toNat = F 358 a.toNat := by rw [q11_]; exact (fl_u_ne (by first | exact nc_ rfl | decide | omega)).trans ((fl_u_ne (by first | exact nc_ rfl | decide | omega)).trans ((fl_u_ne (by first | exact nc_ rfl | decide | omega)).trans (e27_)))
        refine gVi (nY := 6) (F := 1) (L := 23) (As := [.int (Int32.ofInt a), .int (Int32.ofInt (8 * a))]) (b := 344) (rest := []) hm_165 rfl hm_159 rfl rfl (fl_ob sc_344) rfl rfl rfl rfl rfl (by omega) (by omega) (mc_159 hG F10_ X g12_ (a) (8 * a) (d.2.1) (⟨by omega, by omega⟩) (by omega) (by rw [show (8 * a).toNat = 8 * a.toNat by omega]; exact (rcl_lfr hDa.2.1.2 (show lfr 0 0 0 F F10_ from (by rw [q11_]; exact (lfr_uo (lfr_uo (lfr_uo (lfr_fg lfr_r hf_F1 rfl) rfl) rfl) rfl))) (by omega))) (by omega) (fun y hy h1 => (hl3 y hy).2.2 h1)) (fun _ _ h => False.elim h) ?_
        rintro z29_ A1_ ⟨hA_, c30_, c31_⟩
        subst hA_
        refine fx_if_ne (a := z29_) hm_165 rfl ⟨by omega, by omega⟩ (fun h32_ => ?_) (fun h33_ => ?_)
        ·
          refine ga_aload_n (v := .ref 344) hm_165 rfl rfl rfl ?_
          have e34_ : F10_ 344 39 = F1 344 39 := by rw [q11_]; exact (fl_u_ne (by first | exact nc_ rfl | decide | omega)).trans ((fl_u_ne (by first | exact nc_ rfl | decide | omega)).trans (fl_u_ne (by first | exact nc_ rfl | decide | omega)))
          have b35_ : 0 ≤ F1 344 39 ∧ F1 344 39 ≤ 40 := gi_g hg_F1 rfl
          refine ga_geti (z := F1 344 39) hm_165 rfl sc_344 rfl (e34_) ?_
          refine fl_bipush hm_165 rfl rfl ?_
          refine fx_icmp_ne (a := F1 344 39) (b := 40) hm_165 rfl ⟨by omega, by omega⟩ ⟨by omega, by omega⟩ (fun h36_ => ?_) (fun h37_ => ?_)
          ·
            refine ga_aload_n (v := .ref 344) hm_165 rfl rfl rfl ?_
            refine ga_getr (b := 367) hm_165 rfl sc_344 rfl ?_
            refine ga_aload_n (v := .ref 344) hm_165 rfl rfl rfl ?_
            refine ga_geti (z := F1 344 39) hm_165 rfl sc_344 rfl (e34_) ?_
            refine ga_iload_n (z := a) hm_165 rfl rfl ?_
            refine fl_iast (z := F1 344 39) (v := a) hm_165 rfl sc_367 (by omega) (by omega) (by omega) ?_
            refine fl_iconst hm_165 rfl ?_
            refine ga_istore (lv2 := [(5, .int (Int32.ofInt 0)), (4, .int (Int32.ofInt gd)), (3, .int (Int32.ofInt x)), (2, .int (Int32.ofInt (F 354 a.toNat))), (0, .ref 344), (1, .int (Int32.ofInt a))]) hm_165 rfl (Nat.le_of_ble_eq_true rfl) rfl ?_
            obtain ⟨F38_, q39_⟩ : ∃ Fq_, Fq_ = (fl_u F10_ 367 (F1 344 39).toNat a) := ⟨_, rfl⟩
            rw [← q39_]
            have g40_ : gi F38_ := by rw [q39_]; exact gi_u (g12_) rfl (by omega) (by omega)
            have g41_ : fs [(344, 344, 39, 39), (367, 372, 0, 100000), (384, 384, 0, 100000)] F F38_ := by rw [q39_]; exact fs_u (g13_) (fs_z (fs_y (by omega)))
            have e45_ : F38_ 344 39 = F1 344 39 := by rw [q39_]; exact (fl_u_ne (by first | exact nc_ rfl | decide | omega)).trans (e34_)
            have L43_ : ∀ (n42_ : Nat) (k2 : Int) (F2 : fl_N), (3 - k2 : Int).toNat = n42_ → (gi F2) → (fs [(368, 368, 0, 100000)] F38_ F2) → (0 ≤ k2 ∧ k2 ≤ 3) → (∀ j : Nat, (j : Int) < 3 * F38_ 344 39 → F2 368 j = F38_ 368 j) → (∀ p : Nat, (p : Int) < k2 → (p : Int) < F 354 a.toNat → 0 ≤ F2 368 (3 * (F38_ 344 39).toNat + p)) → (∀ j : Nat, (j : Int) < k2 → F2 368 (3 * (F1 344 39).toNat + j) = (fun j : Nat => if j < d.1.length then ((gvn x.toNat j : Nat) : Int) else -1) j) → fl_R xi_ms 165 fr lo 181 [(5, .int (Int32.ofInt k2)), (4, .int (Int32.ofInt gd)), (3, .int (Int32.ofInt x)), (2, .int (Int32.ofInt (F 354 a.toNat))), (0, .ref 344), (1, .int (Int32.ofInt a))] [] (fl_H sh_T G F2 ++ X) (pq_165 G F X a D tl ps L0) := by
              intro n42_
              induction n42_ using Nat.strongRecOn with
              | ind n42_ ih44_ =>
              intro k2 F2 hn46_ hg_F2 hf_F2 hk2 ho2 hn2 hn3
              have g47_ : fs [(344, 344, 39, 39), (367, 372, 0, 100000), (384, 384, 0, 100000)] F F2 := fs_tr g41_ hf_F2 rfl
              refine ga_iload (z := k2) hm_165 rfl rfl ?_
              refine fl_iconst hm_165 rfl ?_
              refine fl_icmp_ge (a := k2) (b := 3) hm_165 rfl ⟨by omega, by omega⟩ ⟨by omega, by omega⟩ (fun h48_ => ?_) (fun h49_ => ?_)
              ·
                refine ga_aload_n (v := .ref 344) hm_165 rfl rfl rfl ?_
                refine ga_getr (b := 369) hm_165 rfl sc_344 rfl ?_
                refine ga_aload_n (v := .ref 344) hm_165 rfl rfl rfl ?_
                have e50_ : F2 344 39 = F1 344 39 := (hf_F2 344 39 rfl).trans (e45_)
                refine ga_geti (z := F1 344 39) hm_165 rfl sc_344 rfl (e50_) ?_
                refine ga_aload_n (v := .ref 344) hm_165 rfl rfl rfl ?_
                refine ga_iload_n (z := a) hm_165 rfl rfl ?_
                refine fl_bipush hm_165 rfl rfl ?_
                refine ga_iload_n (z := a) hm_165 rfl rfl ?_
                refine ga_imul (a := 8) (b := a) (c := 8 * a) hm_165 rfl (by omega) ?_
                refine ga_aload_n (v := .ref 344) hm_165 rfl rfl rfl ?_
                refine ga_getr (b := 358) hm_165 rfl sc_344 rfl ?_
                refine ga_iload_n (z := a) hm_165 rfl rfl ?_
                have e51_ : F38_ 358 a.toNat = F 358 a.toNat := by rw [q39_]; exact (fl_u_ne (by first | exact nc_ rfl | decide | omega)).trans (e28_)
                have e52_ : F2 358 a.toNat = F 358 a.toNat := (hf_F2 358 a.toNat (by first | exact fs_c rfl | exact (fs_n (by omega) rfl))).trans (e51_)
                have b53_ : 0 ≤ F 358 a.toNat ∧ F 358 a.toNat ≤ 4 := gi_g hgi rfl
                refine ga_iald (z := a) (w := F 358 a.toNat) hm_165 rfl sc_358 (by omega) (by omega) (by omega) (e52_) ?_
                refine fl_iconst hm_165 rfl ?_
                refine gVl (nY := 9) (F := 2) (L := 47) (As := [.int (Int32.ofInt a), .int (Int32.ofInt (8 * a)), .int (Int32.ofInt (F 358 a.toNat)), .int (Int32.ofInt 0)]) (b := 344) (rest := [.int (Int32.ofInt (F1 344 39)), .ref 369]) hm_165 rfl hm_156 rfl rfl (fl_ob sc_344) rfl rfl rfl rfl rfl (by omega) (by omega) (mc_156 hG F2 X hg_F2 (a) (8 * a) (F 358 a.toNat) (0) (d.2.1) (ps) (⟨by omega, by omega⟩) (by omega) (⟨by omega, by omega⟩) (⟨by omega, by omega⟩) (by rw [show (8 * a).toNat = 8 * a.toNat by omega]; exact (rcl_lfr hDa.2.1.2 (show lfr 0 0 0 F F2 from (lfr_fg (by rw [q39_]; exact (lfr_uo (by rw [q11_]; exact (lfr_uo (lfr_uo (lfr_uo (lfr_fg lfr_r hf_F1 rfl) rfl) rfl) rfl)) rfl)) hf_F2 rfl)) (by omega))) (by omega) (fun y hy => (hlc y (by rw [hd]; exact hy)).1) ((rprd_fs (by rw [q39_]; exact (rprd_u (by rw [q11_]; exact (rprd_u (rprd_u (rprd_u (rprd_fs hps hf_F1 (by first | exact fs_rg rfl | exact fun r j hj => (fs_n (by omega) (fs_n (by omega) (fs_n (by omega) rfl))))) (by first | decide | exact nc_ rfl | omega)) (by first | decide | exact nc_ rfl | omega)) (by first | decide | exact nc_ rfl | omega))) (by first | decide | exact nc_ rfl | omega))) hf_F2 (by first | exact fs_rg rfl | exact fun r j hj => (fs_n (by omega) rfl))))) (fun _ _ h => False.elim h) ?_
                rintro z54_ A1_ ⟨hA_, c55_, c56_⟩
                subst hA_
                refine fl_last (z := F1 344 39) (v := z54_) hm_165 rfl sc_369 (by omega) (by omega) (by omega) ?_
                refine ga_aload_n (v := .ref 344) hm_165 rfl rfl rfl ?_
                refine ga_getr (b := 370) hm_165 rfl sc_344 rfl ?_
                refine ga_aload_n (v := .ref 344) hm_165 rfl rfl rfl ?_
                refine ga_geti (z := F1 344 39) hm_165 rfl sc_344 rfl ((fl_u_ne (by first | exact nc_ rfl | decide | omega)).trans (e50_)) ?_
                refine ga_aload_n (v := .ref 344) hm_165 rfl rfl rfl ?_
                refine ga_iload_n (z := a) hm_165 rfl rfl ?_
                refine fl_bipush hm_165 rfl rfl ?_
                refine ga_iload_n (z := a) hm_165 rfl rfl ?_
                refine ga_imul (a := 8) (b := a) (c := 8 * a) hm_165 rfl (by omega) ?_
                refine ga_aload_n (v := .ref 344) hm_165 rfl rfl rfl ?_
                refine ga_getr (b := 358) hm_165 rfl sc_344 rfl ?_
                refine ga_iload_n (z := a) hm_165 rfl rfl ?_
                refine ga_iald (z := a) (w := F 358 a.toNat) hm_165 rfl sc_358 (by omega) (by omega) (by omega) ((fl_u_ne (by first | exact nc_ rfl | decide | omega)).trans (e52_)) ?_
                refine fl_iconst hm_165 rfl ?_
                obtain ⟨F57_, q58_⟩ : ∃ Fq_, Fq_ = (fl_u F2 369 (F1 344 39).toNat z54_) := ⟨_, rfl⟩
                rw [← q58_]
                have g59_ : gi F57_ := by rw [q58_]; exact gi_u (hg_F2) rfl (by omega) (by omega)
                have g60_ : fs [(344, 344, 39, 39), (367, 372, 0, 100000), (384, 384, 0, 100000)] F F57_ := by rw [q58_]; exact fs_u (g47_) (fs_z (fs_y (by omega)))
                have e61_ : F57_ 358 a.toNat = F 358 a.toNat := by rw [q58_]; exact (fl_u_ne (by first | exact nc_ rfl | decide | omega)).trans (e52_)
                refine gVl (nY := 9) (F := 2) (L := 47) (As := [.int (Int32.ofInt a), .int (Int32.ofInt (8 * a)), .int (Int32.ofInt (F 358 a.toNat)), .int (Int32.ofInt 1)]) (b := 344) (rest := [.int (Int32.ofInt (F1 344 39)), .ref 370]) hm_165 rfl hm_156 rfl rfl (fl_ob sc_344) rfl rfl rfl rfl rfl (by omega) (by omega) (mc_156 hG F57_ X g59_ (a) (8 * a) (F 358 a.toNat) (1) (d.2.1) (ps) (⟨by omega, by omega⟩) (by omega) (⟨by omega, by omega⟩) (⟨by omega, by omega⟩) (by rw [show (8 * a).toNat = 8 * a.toNat by omega]; exact (rcl_lfr hDa.2.1.2 (show lfr 0 0 0 F F57_ from (by rw [q58_]; exact (lfr_uo (lfr_fg (by rw [q39_]; exact (lfr_uo (by rw [q11_]; exact (lfr_uo (lfr_uo (lfr_uo (lfr_fg lfr_r hf_F1 rfl) rfl) rfl) rfl)) rfl)) hf_F2 rfl) rfl))) (by omega))) (by omega) (fun y hy => (hlc y (by rw [hd]; exact hy)).1) ((by rw [q58_]; exact (rprd_u (rprd_fs (by rw [q39_]; exact (rprd_u (by rw [q11_]; exact (rprd_u (rprd_u (rprd_u (rprd_fs hps hf_F1 (by first | exact fs_rg rfl | exact fun r j hj => (fs_n (by omega) (fs_n (by omega) (fs_n (by omega) rfl))))) (by first | decide | exact nc_ rfl | omega)) (by first | decide | exact nc_ rfl | omega)) (by first | decide | exact nc_ rfl | omega))) (by first | decide | exact nc_ rfl | omega))) hf_F2 (by first | exact fs_rg rfl | exact fun r j hj => (fs_n (by omega) rfl))) (by first | decide | exact nc_ rfl | omega))))) (fun _ _ h => False.elim h) ?_
                rintro z62_ A1_ ⟨hA_, c63_, c64_⟩
                subst hA_
                refine fl_last (z := F1 344 39) (v := z62_) hm_165 rfl sc_370 (by omega) (by omega) (by omega) ?_
                refine ga_aload_n (v := .ref 344) hm_165 rfl rfl rfl ?_
                refine ga_getr (b := 371) hm_165 rfl sc_344 rfl ?_
                refine ga_aload_n (v := .ref 344) hm_165 rfl rfl rfl ?_
                have e65_ : F57_ 344 39 = F1 344 39 := by rw [q58_]; exact (fl_u_ne (by first | exact nc_ rfl | decide | omega)).trans (e50_)
                refine ga_geti (z := F1 344 39) hm_165 rfl sc_344 rfl ((fl_u_ne (by first | exact nc_ rfl | decide | omega)).trans (e65_)) ?_
                refine ga_aload_n (v := .ref 344) hm_165 rfl rfl rfl ?_
                refine ga_iload_n (z := a) hm_165 rfl rfl ?_
                refine fl_bipush hm_165 rfl rfl ?_
                refine ga_iload_n (z := a) hm_165 rfl rfl ?_
                refine ga_imul (a := 8) (b := a) (c := 8 * a) hm_165 rfl (by omega) ?_
                refine fl_iconst hm_165 rfl ?_
                refine ga_iadd (a := 8 * a) (b := 4) (c := 8 * a + 4) hm_165 rfl (by omega) ?_
                refine ga_aload_n (v := .ref 344) hm_165 rfl rfl rfl ?_
                refine ga_getr (b := 359) hm_165 rfl sc_344 rfl ?_
                refine ga_iload_n (z := a) hm_165 rfl rfl ?_
                have e66_ : F1 359 a.toNat = F 359 a.toNat := (hf_F1 359 a.toNat (by first | exact fs_c rfl | exact (fs_n (by omega) (fs_n (by omega) (fs_n (by omega) rfl))))).trans (rfl)
                have e67_ : F10_ 359 a.toNat = F 359 a.toNat := by rw [q11_]; exact (fl_u_ne (by first | exact nc_ rfl | decide | omega)).trans ((fl_u_ne (by first | exact nc_ rfl | decide | omega)).trans ((fl_u_ne (by first | exact nc_ rfl | decide | omega)).trans (e66_)))
                have e68_ : F38_ 359 a.toNat = F 359 a.toNat := by rw [q39_]; exact (fl_u_ne (by first | exact nc_ rfl | decide | omega)).trans (e67_)
                have e69_ : F2 359 a.toNat = F 359 a.toNat := (hf_F2 359 a.toNat (by first | exact fs_c rfl | exact (fs_n (by omega) rfl))).trans (e68_)
                have e70_ : F57_ 359 a.toNat = F 359 a.toNat := by rw [q58_]; exact (fl_u_ne (by first | exact nc_ rfl | decide | omega)).trans (e69_)
                have b71_ : 0 ≤ F 359 a.toNat ∧ F 359 a.toNat ≤ 4 := gi_g hgi rfl
                refine ga_iald (z := a) (w := F 359 a.toNat) hm_165 rfl sc_359 (by omega) (by omega) (by omega) ((fl_u_ne (by first | exact nc_ rfl | decide | omega)).trans (e70_)) ?_
                refine fl_iconst hm_165 rfl ?_
                obtain ⟨F72_, q73_⟩ : ∃ Fq_, Fq_ = (fl_u F57_ 370 (F1 344 39).toNat z62_) := ⟨_, rfl⟩
                rw [← q73_]
                have g74_ : gi F72_ := by rw [q73_]; exact gi_u (g59_) rfl (by omega) (by omega)
                have g75_ : fs [(344, 344, 39, 39), (367, 372, 0, 100000), (384, 384, 0, 100000)] F F72_ := by rw [q73_]; exact fs_u (g60_) (fs_z (fs_y (by omega)))
                have e76_ : F72_ 359 a.toNat = F 359 a.toNat := by rw [q73_]; exact (fl_u_ne (by first | exact nc_ rfl | decide | omega)).trans (e70_)
                refine gVl (nY := 9) (F := 2) (L := 47) (As := [.int (Int32.ofInt a), .int (Int32.ofInt (8 * a + 4)), .int (Int32.ofInt (F 359 a.toNat)), .int (Int32.ofInt 0)]) (b := 344) (rest := [.int (Int32.ofInt (F1 344 39)), .ref 371]) hm_165 rfl hm_156 rfl rfl (fl_ob sc_344) rfl rfl rfl rfl rfl (by omega) (by omega) (mc_156 hG F72_ X g74_ (a) (8 * a + 4) (F 359 a.toNat) (0) (d.2.2.1) (ps) (⟨by omega, by omega⟩) (by omega) (⟨by omega, by omega⟩) (⟨by omega, by omega⟩) (by rw [show (8 * a + 4).toNat = 8 * a.toNat + 4 by omega]; exact (rcl_lfr hDa.2.2.1.2 (show lfr 0 0 0 F F72_ from (by rw [q73_]; exact (lfr_uo (by rw [q58_]; exact (lfr_uo (lfr_fg (by rw [q39_]; exact (lfr_uo (by rw [q11_]; exact (lfr_uo (lfr_uo (lfr_uo (lfr_fg lfr_r hf_F1 rfl) rfl) rfl) rfl)) rfl)) hf_F2 rfl) rfl)) rfl))) (by omega))) (by omega) (fun y hy => (hle y (by rw [hd]; exact hy)).1) ((by rw [q73_]; exact (rprd_u (by rw [q58_]; exact (rprd_u (rprd_fs (by rw [q39_]; exact (rprd_u (by rw [q11_]; exact (rprd_u (rprd_u (rprd_u (rprd_fs hps hf_F1 (by first | exact fs_rg rfl | exact fun r j hj => (fs_n (by omega) (fs_n (by omega) (fs_n (by omega) rfl))))) (by first | decide | exact nc_ rfl | omega)) (by first | decide | exact nc_ rfl | omega)) (by first | decide | exact nc_ rfl | omega))) (by first | decide | exact nc_ rfl | omega))) hf_F2 (by first | exact fs_rg rfl | exact fun r j hj => (fs_n (by omega) rfl))) (by first | decide | exact nc_ rfl | omega))) (by first | decide | exact nc_ rfl | omega))))) (fun _ _ h => False.elim h) ?_
                rintro z77_ A1_ ⟨hA_, c78_, c79_⟩
                subst hA_
                refine fl_last (z := F1 344 39) (v := z77_) hm_165 rfl sc_371 (by omega) (by omega) (by omega) ?_
                refine ga_aload_n (v := .ref 344) hm_165 rfl rfl rfl ?_
                refine ga_getr (b := 372) hm_165 rfl sc_344 rfl ?_
                refine ga_aload_n (v := .ref 344) hm_165 rfl rfl rfl ?_
                have e80_ : F72_ 344 39 = F1 344 39 := by rw [q73_]; exact (fl_u_ne (by first | exact nc_ rfl | decide | omega)).trans (e65_)
                refine ga_geti (z := F1 344 39) hm_165 rfl sc_344 rfl ((fl_u_ne (by first | exact nc_ rfl | decide | omega)).trans (e80_)) ?_
                refine ga_aload_n (v := .ref 344) hm_165 rfl rfl rfl ?_
                refine ga_iload_n (z := a) hm_165 rfl rfl ?_
                refine fl_bipush hm_165 rfl rfl ?_
                refine ga_iload_n (z := a) hm_165 rfl rfl ?_
                refine ga_imul (a := 8) (b := a) (c := 8 * a) hm_165 rfl (by omega) ?_
                refine fl_iconst hm_165 rfl ?_
                refine ga_iadd (a := 8 * a) (b := 4) (c := 8 * a + 4) hm_165 rfl (by omega) ?_
                refine ga_aload_n (v := .ref 344) hm_165 rfl rfl rfl ?_
                refine ga_getr (b := 359) hm_165 rfl sc_344 rfl ?_
                refine ga_iload_n (z := a) hm_165 rfl rfl ?_
                refine ga_iald (z := a) (w := F 359 a.toNat) hm_165 rfl sc_359 (by omega) (by omega) (by omega) ((fl_u_ne (by first | exact nc_ rfl | decide | omega)).trans (e76_)) ?_
                refine fl_iconst hm_165 rfl ?_
                obtain ⟨F81_, q82_⟩ : ∃ Fq_, Fq_ = (fl_u F72_ 371 (F1 344 39).toNat z77_) := ⟨_, rfl⟩
                rw [← q82_]
                have g83_ : gi F81_ := by rw [q82_]; exact gi_u (g74_) rfl (by omega) (by omega)
                have g84_ : fs [(344, 344, 39, 39), (367, 372, 0, 100000), (384, 384, 0, 100000)] F F81_ := by rw [q82_]; exact fs_u (g75_) (fs_z (fs_y (by omega)))
                have e85_ : F81_ 359 a.toNat = F 359 a.toNat := by rw [q82_]; exact (fl_u_ne (by first | exact nc_ rfl | decide | omega)).trans (e76_)
                refine gVl (nY := 9) (F := 2) (L := 47) (As := [.int (Int32.ofInt a), .int (Int32.ofInt (8 * a + 4)), .int (Int32.ofInt (F 359 a.toNat)), .int (Int32.ofInt 1)]) (b := 344) (rest := [.int (Int32.ofInt (F1 344 39)), .ref 372]) hm_165 rfl hm_156 rfl rfl (fl_ob sc_344) rfl rfl rfl rfl rfl (by omega) (by omega) (mc_156 hG F81_ X g83_ (a) (8 * a + 4) (F 359 a.toNat) (1) (d.2.2.1) (ps) (⟨by omega, by omega⟩) (by omega) (⟨by omega, by omega⟩) (⟨by omega, by omega⟩) (by rw [show (8 * a + 4).toNat = 8 * a.toNat + 4 by omega]; exact (rcl_lfr hDa.2.2.1.2 (show lfr 0 0 0 F F81_ from (by rw [q82_]; exact (lfr_uo (by rw [q73_]; exact (lfr_uo (by rw [q58_]; exact (lfr_uo (lfr_fg (by rw [q39_]; exact (lfr_uo (by rw [q11_]; exact (lfr_uo (lfr_uo (lfr_uo (lfr_fg lfr_r hf_F1 rfl) rfl) rfl) rfl)) rfl)) hf_F2 rfl) rfl)) rfl)) rfl))) (by omega))) (by omega) (fun y hy => (hle y (by rw [hd]; exact hy)).1) ((by rw [q82_]; exact (rprd_u (by rw [q73_]; exact (rprd_u (by rw [q58_]; exact (rprd_u (rprd_fs (by rw [q39_]; exact (rprd_u (by rw [q11_]; exact (rprd_u (rprd_u (rprd_u (rprd_fs hps hf_F1 (by first | exact fs_rg rfl | exact fun r j hj => (fs_n (by omega) (fs_n (by omega) (fs_n (by omega) rfl))))) (by first | decide | exact nc_ rfl | omega)) (by first | decide | exact nc_ rfl | omega)) (by first | decide | exact nc_ rfl | omega))) (by first | decide | exact nc_ rfl | omega))) hf_F2 (by first | exact fs_rg rfl | exact fun r j hj => (fs_n (by omega) rfl))) (by first | decide | exact nc_ rfl | omega))) (by first | decide | exact nc_ rfl | omega))) (by first | decide | exact nc_ rfl | omega))))) (fun _ _ h => False.elim h) ?_
                rintro z86_ A1_ ⟨hA_, c87_, c88_⟩
                subst hA_
                refine fl_last (z := F1 344 39) (v := z86_) hm_165 rfl sc_372 (by omega) (by omega) (by omega) ?_
                refine ga_aload_n (v := .ref 344) hm_165 rfl rfl rfl ?_
                refine ga_dup hm_165 rfl rfl ?_
                have e89_ : F81_ 344 39 = F1 344 39 := by rw [q82_]; exact (fl_u_ne (by first | exact nc_ rfl | decide | omega)).trans (e80_)
                refine ga_geti (z := F1 344 39) hm_165 rfl sc_344 rfl ((fl_u_ne (by first | exact nc_ rfl | decide | omega)).trans (e89_)) ?_
                refine fl_iconst hm_165 rfl ?_
                refine ga_iadd (a := F1 344 39) (b := 1) (c := F1 344 39 + 1) hm_165 rfl (by omega) ?_
                refine ga_puti (z := F1 344 39 + 1) hm_165 rfl sc_344 rfl rfl ?_
                refine ga_inc (a := x) (c := x + 1) (lv2 := [(3, .int (Int32.ofInt (x + 1))), (5, .int (Int32.ofInt k2)), (4, .int (Int32.ofInt gd)), (2, .int (Int32.ofInt (F 354 a.toNat))), (0, .ref 344), (1, .int (Int32.ofInt a))]) hm_165 rfl rfl (Nat.le_of_ble_eq_true rfl) rfl rfl ?_
                refine fl_goto hm_165 rfl ?_
                obtain ⟨F90_, q91_⟩ : ∃ Fq_, Fq_ = (fl_u (fl_u F81_ 372 (F1 344 39).toNat z86_) 344 39 (F1 344 39 + 1)) := ⟨_, rfl⟩
                rw [← q91_]
                have g92_ : gi F90_ := by rw [q91_]; exact gi_u (gi_u (g83_) rfl (by omega) (by omega)) rfl (by omega) (by omega)
                have g93_ : fs [(344, 344, 39, 39), (367, 372, 0, 100000), (384, 384, 0, 100000)] F F90_ := by rw [q91_]; exact fs_u (fs_u (g84_) (fs_z (fs_y (by omega)))) rfl
                have e94_ : F90_ 344 39 = F1 344 39 + 1 := by rw [q91_]; exact fl_u_eq
                have e95_ : F1 354 a.toNat = F 354 a.toNat := (hf_F1 354 a.toNat (by first | exact fs_c rfl | exact (fs_n (by omega) (fs_n (by omega) (fs_n (by omega) rfl))))).trans (rfl)
                have e96_ : F1 357 a.toNat = F 357 a.toNat := (hf_F1 357 a.toNat (by first | exact fs_c rfl | exact (fs_n (by omega) (fs_n (by omega) (fs_n (by omega) rfl))))).trans (rfl)
                have e97_ : F38_ 367 (F1 344 39).toNat = a := by rw [q39_]; exact fl_u_eq
                have e98_ : F2 367 (F1 344 39).toNat = a := (hf_F2 367 (F1 344 39).toNat (by first | exact fs_c rfl | exact (fs_n (by omega) rfl))).trans (e97_)
                have e99_ : F57_ 367 (F1 344 39).toNat = a := by rw [q58_]; exact (fl_u_ne (by first | exact nc_ rfl | decide | omega)).trans (e98_)
                have e100_ : F72_ 367 (F1 344 39).toNat = a := by rw [q73_]; exact (fl_u_ne (by first | exact nc_ rfl | decide | omega)).trans (e99_)
                have e101_ : F81_ 367 (F1 344 39).toNat = a := by rw [q82_]; exact (fl_u_ne (by first | exact nc_ rfl | decide | omega)).trans (e100_)
                have e102_ : F90_ 367 (F1 344 39).toNat = a := by rw [q91_]; exact (fl_u_ne (by first | exact nc_ rfl | decide | omega)).trans ((fl_u_ne (by first | exact nc_ rfl | decide | omega)).trans (e101_))
                have e103_ : F57_ 369 (F1 344 39).toNat = z54_ := by rw [q58_]; exact fl_u_eq
                have e104_ : F72_ 369 (F1 344 39).toNat = z54_ := by rw [q73_]; exact (fl_u_ne (by first | exact nc_ rfl | decide | omega)).trans (e103_)
                have e105_ : F81_ 369 (F1 344 39).toNat = z54_ := by rw [q82_]; exact (fl_u_ne (by first | exact nc_ rfl | decide | omega)).trans (e104_)
                have e106_ : F90_ 369 (F1 344 39).toNat = z54_ := by rw [q91_]; exact (fl_u_ne (by first | exact nc_ rfl | decide | omega)).trans ((fl_u_ne (by first | exact nc_ rfl | decide | omega)).trans (e105_))
                have e107_ : F72_ 370 (F1 344 39).toNat = z62_ := by rw [q73_]; exact fl_u_eq
                have e108_ : F81_ 370 (F1 344 39).toNat = z62_ := by rw [q82_]; exact (fl_u_ne (by first | exact nc_ rfl | decide | omega)).trans (e107_)
                have e109_ : F90_ 370 (F1 344 39).toNat = z62_ := by rw [q91_]; exact (fl_u_ne (by first | exact nc_ rfl | decide | omega)).trans ((fl_u_ne (by first | exact nc_ rfl | decide | omega)).trans (e108_))
                have e110_ : F81_ 371 (F1 344 39).toNat = z77_ := by rw [q82_]; exact fl_u_eq
                have e111_ : F90_ 371 (F1 344 39).toNat = z77_ := by rw [q91_]; exact (fl_u_ne (by first | exact nc_ rfl | decide | omega)).trans ((fl_u_ne (by first | exact nc_ rfl | decide | omega)).trans (e110_))
                have e112_ : F90_ 372 (F1 344 39).toNat = z86_ := by rw [q91_]; exact (fl_u_ne (by first | exact nc_ rfl | decide | omega)).trans (fl_u_eq)
                exact fl_R_sub (lv' := [(3, .int (Int32.ofInt (x + 1))), (2, .int (Int32.ofInt (F 354 a.toNat))), (0, .ref 344), (1, .int (Int32.ofInt a))]) rfl rfl (ih4_ _ (by omega) (x + 1) F90_ rfl g92_ (by rw [q91_]; exact fs_u (fs_u ((by rw [q82_]; exact fs_u ((by rw [q73_]; exact fs_u ((by rw [q58_]; exact fs_u ((fs_tr (by rw [q39_]; exact fs_u ((by rw [q11_]; exact fs_u (fs_u (fs_u (hf_F1) rfl) rfl) rfl)) (fs_z (fs_y (by omega)))) hf_F2 rfl)) (fs_z (fs_y (by omega))))) (fs_z (fs_y (by omega))))) (fs_z (fs_y (by omega))))) (fs_z (fs_y (by omega)))) rfl) (⟨by omega, by omega⟩) (sob_add hs1 (by omega) (by omega) (fun j hj => (Eq.trans (a := F90_ 367 j) (b := F81_ 367 j) (by rw [q91_]; exact (fl_u_ne (by first | exact nc_ rfl | decide | omega)).trans ((fl_u_ne (by first | exact nc_ rfl | decide | omega)))) (Eq.trans (a := F81_ 367 j) (b := F72_ 367 j) (by rw [q82_]; exact (fl_u_ne (by first | exact nc_ rfl | decide | omega))) (Eq.trans (a := F72_ 367 j) (b := F57_ 367 j) (by rw [q73_]; exact (fl_u_ne (by first | exact nc_ rfl | decide | omega))) (Eq.trans (a := F57_ 367 j) (b := F2 367 j) (by rw [q58_]; exact (fl_u_ne (by first | exact nc_ rfl | decide | omega))) (Eq.trans (a := F2 367 j) (b := F38_ 367 j) (hf_F2 367 j (by first | exact fs_c rfl | exact (fs_n (by omega) rfl))) (Eq.trans (a := F38_ 367 j) (b := F10_ 367 j) (by rw [q39_]; exact (fl_u_ne (by first | exact nc_ rfl | decide | omega))) (show F10_ 367 j = F1 367 j from (by rw [q11_]; exact (fl_u_ne (by first | exact nc_ rfl | decide | omega)).trans ((fl_u_ne (by first | exact nc_ rfl | decide | omega)).trans ((fl_u_ne (by first | exact nc_ rfl | decide | omega))))))))))))) (fun j => (Eq.trans (a := F90_ 357 j) (b := F81_ 357 j) (by rw [q91_]; exact (fl_u_ne (by first | exact nc_ rfl | decide | omega)).trans ((fl_u_ne (by first | exact nc_ rfl | decide | omega)))) (Eq.trans (a := F81_ 357 j) (b := F72_ 357 j) (by rw [q82_]; exact (fl_u_ne (by first | exact nc_ rfl | decide | omega))) (Eq.trans (a := F72_ 357 j) (b := F57_ 357 j) (by rw [q73_]; exact (fl_u_ne (by first | exact nc_ rfl | decide | omega))) (Eq.trans (a := F57_ 357 j) (b := F2 357 j) (by rw [q58_]; exact (fl_u_ne (by first | exact nc_ rfl | decide | omega))) (Eq.trans (a := F2 357 j) (b := F38_ 357 j) (hf_F2 357 j (by first | exact fs_c rfl | exact (fs_n (by omega) rfl))) (Eq.trans (a := F38_ 357 j) (b := F10_ 357 j) (by rw [q39_]; exact (fl_u_ne (by first | exact nc_ rfl | decide | omega))) (show F10_ 357 j = F1 357 j from (by rw [q11_]; exact (fl_u_ne (by first | exact nc_ rfl | decide | omega)).trans ((fl_u_ne (by first | exact nc_ rfl | decide | omega)).trans ((fl_u_ne (by first | exact nc_ rfl | decide | omega))))))))))))) (fun j => (Eq.trans (a := F90_ 354 j) (b := F81_ 354 j) (by rw [q91_]; exact (fl_u_ne (by first | exact nc_ rfl | decide | omega)).trans ((fl_u_ne (by first | exact nc_ rfl | decide | omega)))) (Eq.trans (a := F81_ 354 j) (b := F72_ 354 j) (by rw [q82_]; exact (fl_u_ne (by first | exact nc_ rfl | decide | omega))) (Eq.trans (a := F72_ 354 j) (b := F57_ 354 j) (by rw [q73_]; exact (fl_u_ne (by first | exact nc_ rfl | decide | omega))) (Eq.trans (a := F57_ 354 j) (b := F2 354 j) (by rw [q58_]; exact (fl_u_ne (by first | exact nc_ rfl | decide | omega))) (Eq.trans (a := F2 354 j) (b := F38_ 354 j) (hf_F2 354 j (by first | exact fs_c rfl | exact (fs_n (by omega) rfl))) (Eq.trans (a := F38_ 354 j) (b := F10_ 354 j) (by rw [q39_]; exact (fl_u_ne (by first | exact nc_ rfl | decide | omega))) (show F10_ 354 j = F1 354 j from (by rw [q11_]; exact (fl_u_ne (by first | exact nc_ rfl | decide | omega)).trans ((fl_u_ne (by first | exact nc_ rfl | decide | omega)).trans ((fl_u_ne (by first | exact nc_ rfl | decide | omega))))))))))))) (fun j hj => Eq.trans (Eq.trans (a := F90_ 368 j) (b := F81_ 368 j) (by rw [q91_]; exact (fl_u_ne (by first | exact nc_ rfl | decide | omega)).trans ((fl_u_ne (by first | exact nc_ rfl | decide | omega)))) (Eq.trans (a := F81_ 368 j) (b := F72_ 368 j) (by rw [q82_]; exact (fl_u_ne (by first | exact nc_ rfl | decide | omega))) (Eq.trans (a := F72_ 368 j) (b := F57_ 368 j) (by rw [q73_]; exact (fl_u_ne (by first | exact nc_ rfl | decide | omega))) (show F57_ 368 j = F2 368 j from (by rw [q58_]; exact (fl_u_ne (by first | exact nc_ rfl | decide | omega))))))) (Eq.trans (ho2 j (by omega)) (Eq.trans (a := F38_ 368 j) (b := F10_ 368 j) (by rw [q39_]; exact (fl_u_ne (by first | exact nc_ rfl | decide | omega))) (show F10_ 368 j = F1 368 j from (by rw [q11_]; exact (fl_u_ne (by first | exact nc_ rfl | decide | omega)).trans ((fl_u_ne (by first | exact nc_ rfl | decide | omega)).trans ((fl_u_ne (by first | exact nc_ rfl | decide | omega))))))))) (e102_) (by omega) (fun p hp hq => by have h9_ := hn2 p (by omega) (by omega); rw [show F90_ 368 _ = F2 368 _ from (Eq.trans (a := F90_ 368 (3 * (F1 344 39).toNat + p)) (b := F81_ 368 (3 * (F1 344 39).toNat + p)) (by rw [q91_]; exact (fl_u_ne (by first | exact nc_ rfl | decide | omega)).trans ((fl_u_ne (by first | exact nc_ rfl | decide | omega)))) (Eq.trans (a := F81_ 368 (3 * (F1 344 39).toNat + p)) (b := F72_ 368 (3 * (F1 344 39).toNat + p)) (by rw [q82_]; exact (fl_u_ne (by first | exact nc_ rfl | decide | omega))) (Eq.trans (a := F72_ 368 (3 * (F1 344 39).toNat + p)) (b := F57_ 368 (3 * (F1 344 39).toNat + p)) (by rw [q73_]; exact (fl_u_ne (by first | exact nc_ rfl | decide | omega))) (show F57_ 368 (3 * (F1 344 39).toNat + p) = F2 368 (3 * (F1 344 39).toNat + p) from (by rw [q58_]; exact (fl_u_ne (by first | exact nc_ rfl | decide | omega)))))))]; rwa [show (F38_ 344 39).toNat = (F1 344 39).toNat by omega] at h9_) (by omega) (fun s => by have h9_ : 0 ≤ F1 354 (F1 367 s).toNat ∧ F1 354 (F1 367 s).toNat ≤ 3 := gi_g hg_F1 rfl; omega)) (by rw [show (x + 1).toNat = x.toNat + 1 by omega]; rw [stR_y (hd ▸ ok_e (by omega) ((eq01 (show gd = (if vfk tl d.1 x.toNat 3 = true then 1 else 0) from (by rw [show k.toNat = 3 by omega] at hgd; exact hgd))).2 (by omega)) hl3 (fun j hj => Eq.trans (show obr F10_ a j = F10_ 384 j from if_neg (by omega)) (hgv j hj)) ((eq01 c31_).2 (by omega))), ← List.append_assoc, List.length_append, List.length_singleton]; omega) (by rw [show (x + 1).toNat = x.toNat + 1 by omega]; rw [stR_y (hd ▸ ok_e (by omega) ((eq01 (show gd = (if vfk tl d.1 x.toNat 3 = true then 1 else 0) from (by rw [show k.toNat = 3 by omega] at hgd; exact hgd))).2 (by omega)) hl3 (fun j hj => Eq.trans (show obr F10_ a j = F10_ 384 j from if_neg (by omega)) (hgv j hj)) ((eq01 c31_).2 (by omega))), ← List.append_assoc]; exact rsts_add (i := (F1 344 39).toNat) (rsts_cg hs2 (fun j => (Eq.trans (a := F90_ 366 j) (b := F81_ 366 j) (by rw [q91_]; exact (fl_u_ne (by first | exact nc_ rfl | decide | omega)).trans ((fl_u_ne (by first | exact nc_ rfl | decide | omega)))) (Eq.trans (a := F81_ 366 j) (b := F72_ 366 j) (by rw [q82_]; exact (fl_u_ne (by first | exact nc_ rfl | decide | omega))) (Eq.trans (a := F72_ 366 j) (b := F57_ 366 j) (by rw [q73_]; exact (fl_u_ne (by first | exact nc_ rfl | decide | omega))) (Eq.trans (a := F57_ 366 j) (b := F2 366 j) (by rw [q58_]; exact (fl_u_ne (by first | exact nc_ rfl | decide | omega))) (Eq.trans (a := F2 366 j) (b := F38_ 366 j) (hf_F2 366 j (by first | exact fs_c rfl | exact (fs_n (by omega) rfl))) (Eq.trans (a := F38_ 366 j) (b := F10_ 366 j) (by rw [q39_]; exact (fl_u_ne (by first | exact nc_ rfl | decide | omega))) (show F10_ 366 j = F1 366 j from (by rw [q11_]; exact (fl_u_ne (by first | exact nc_ rfl | decide | omega)).trans ((fl_u_ne (by first | exact nc_ rfl | decide | omega)).trans ((fl_u_ne (by first | exact nc_ rfl | decide | omega))))))))))))) (fun j hj => Eq.trans (Eq.trans (a := F90_ 368 j) (b := F81_ 368 j) (by rw [q91_]; exact (fl_u_ne (by first | exact nc_ rfl | decide | omega)).trans ((fl_u_ne (by first | exact nc_ rfl | decide | omega)))) (Eq.trans (a := F81_ 368 j) (b := F72_ 368 j) (by rw [q82_]; exact (fl_u_ne (by first | exact nc_ rfl | decide | omega))) (Eq.trans (a := F72_ 368 j) (b := F57_ 368 j) (by rw [q73_]; exact (fl_u_ne (by first | exact nc_ rfl | decide | omega))) (show F57_ 368 j = F2 368 j from (by rw [q58_]; exact (fl_u_ne (by first | exact nc_ rfl | decide | omega))))))) (Eq.trans (ho2 j (by omega)) (Eq.trans (a := F38_ 368 j) (b := F10_ 368 j) (by rw [q39_]; exact (fl_u_ne (by first | exact nc_ rfl | decide | omega))) (show F10_ 368 j = F1 368 j from (by rw [q11_]; exact (fl_u_ne (by first | exact nc_ rfl | decide | omega)).trans ((fl_u_ne (by first | exact nc_ rfl | decide | omega)).trans ((fl_u_ne (by first | exact nc_ rfl | decide | omega))))))))) (fun r j hr hj => (Eq.trans (a := F90_ (r) j) (b := F81_ (r) j) (by rw [q91_]; exact (fl_u_ne (by first | exact nc_ rfl | decide | omega)).trans ((fl_u_ne (by first | exact nc_ rfl | decide | omega)))) (Eq.trans (a := F81_ (r) j) (b := F72_ (r) j) (by rw [q82_]; exact (fl_u_ne (by first | exact nc_ rfl | decide | omega))) (Eq.trans (a := F72_ (r) j) (b := F57_ (r) j) (by rw [q73_]; exact (fl_u_ne (by first | exact nc_ rfl | decide | omega))) (Eq.trans (a := F57_ (r) j) (b := F2 (r) j) (by rw [q58_]; exact (fl_u_ne (by first | exact nc_ rfl | decide | omega))) (Eq.trans (a := F2 (r) j) (b := F38_ (r) j) (hf_F2 (r) j (by first | exact fs_c rfl | exact (fs_n (by omega) rfl))) (Eq.trans (a := F38_ (r) j) (b := F10_ (r) j) (by rw [q39_]; exact (fl_u_ne (by first | exact nc_ rfl | decide | omega))) (show F10_ (r) j = F1 (r) j from (by rw [q11_]; exact (fl_u_ne (by first | exact nc_ rfl | decide | omega)).trans ((fl_u_ne (by first | exact nc_ rfl | decide | omega)).trans ((fl_u_ne (by first | exact nc_ rfl | decide | omega)))))))))))))) (by omega) ⟨Eq.trans (e102_) (by omega), (fun j hj => by have h9_ := hn3 j (by omega) ; rw [show F90_ 368 (3 * (F1 344 39).toNat + j) = F2 368 (3 * (F1 344 39).toNat + j) from (Eq.trans (a := F90_ 368 (3 * (F1 344 39).toNat + j)) (b := F81_ 368 (3 * (F1 344 39).toNat + j)) (by rw [q91_]; exact (fl_u_ne (by first | exact nc_ rfl | decide | omega)).trans ((fl_u_ne (by first | exact nc_ rfl | decide | omega)))) (Eq.trans (a := F81_ 368 (3 * (F1 344 39).toNat + j)) (b := F72_ 368 (3 * (F1 344 39).toNat + j)) (by rw [q82_]; exact (fl_u_ne (by first | exact nc_ rfl | decide | omega))) (Eq.trans (a := F72_ 368 (3 * (F1 344 39).toNat + j)) (b := F57_ 368 (3 * (F1 344 39).toNat + j)) (by rw [q73_]; exact (fl_u_ne (by first | exact nc_ rfl | decide | omega))) (show F57_ 368 (3 * (F1 344 39).toNat + j) = F2 368 (3 * (F1 344 39).toNat + j) from (by rw [q58_]; exact (fl_u_ne (by first | exact nc_ rfl | decide | omega))))))), hd]; exact h9_), ⟨(Eq.trans (e106_) (Eq.trans c56_ (by rw [(show F2 366 = F90_ 366 from funext (fun j => ((Eq.trans (a := F90_ 366 j) (b := F81_ 366 j) (by rw [q91_]; exact (fl_u_ne (by first | exact nc_ rfl | decide | omega)).trans ((fl_u_ne (by first | exact nc_ rfl | decide | omega)))) (Eq.trans (a := F81_ 366 j) (b := F72_ 366 j) (by rw [q82_]; exact (fl_u_ne (by first | exact nc_ rfl | decide | omega))) (Eq.trans (a := F72_ 366 j) (b := F57_ 366 j) (by rw [q73_]; exact (fl_u_ne (by first | exact nc_ rfl | decide | omega))) (show F57_ 366 j = F2 366 j from (by rw [q58_]; exact (fl_u_ne (by first | exact nc_ rfl | decide | omega)))))))).symm)), hd]; exact msk_3 hl3 (fun j hj => Eq.trans (show obr F2 a j = F2 384 j from if_neg (by omega)) (Eq.trans ((Eq.trans (a := F2 384 j) (b := F38_ 384 j) (hf_F2 384 j (by first | exact fs_c rfl | exact (fs_n (by omega) rfl))) (show F38_ 384 j = F10_ 384 j from (by rw [q39_]; exact (fl_u_ne (by first | exact nc_ rfl | decide | omega)))))) (hgv j hj)))))), (Eq.trans (e109_) (Eq.trans c64_ (by rw [(show F57_ 366 = F90_ 366 from funext (fun j => ((Eq.trans (a := F90_ 366 j) (b := F81_ 366 j) (by rw [q91_]; exact (fl_u_ne (by first | exact nc_ rfl | decide | omega)).trans ((fl_u_ne (by first | exact nc_ rfl | decide | omega)))) (Eq.trans (a := F81_ 366 j) (b := F72_ 366 j) (by rw [q82_]; exact (fl_u_ne (by first | exact nc_ rfl | decide | omega))) (show F72_ 366 j = F57_ 366 j from (by rw [q73_]; exact (fl_u_ne (by first | exact nc_ rfl | decide | omega))))))).symm)), hd]; exact msk_3 hl3 (fun j hj => Eq.trans (show obr F57_ a j = F57_ 384 j from if_neg (by omega)) (Eq.trans ((Eq.trans (a := F57_ 384 j) (b := F2 384 j) (by rw [q58_]; exact (fl_u_ne (by first | exact nc_ rfl | decide | omega))) (Eq.trans (a := F2 384 j) (b := F38_ 384 j) (hf_F2 384 j (by first | exact fs_c rfl | exact (fs_n (by omega) rfl))) (show F38_ 384 j = F10_ 384 j from (by rw [q39_]; exact (fl_u_ne (by first | exact nc_ rfl | decide | omega))))))) (hgv j hj))))))⟩, (Eq.trans (e111_) (Eq.trans c79_ (by rw [(show F72_ 366 = F90_ 366 from funext (fun j => ((Eq.trans (a := F90_ 366 j) (b := F81_ 366 j) (by rw [q91_]; exact (fl_u_ne (by first | exact nc_ rfl | decide | omega)).trans ((fl_u_ne (by first | exact nc_ rfl | decide | omega)))) (show F81_ 366 j = F72_ 366 j from (by rw [q82_]; exact (fl_u_ne (by first | exact nc_ rfl | decide | omega)))))).symm)), hd]; exact msk_3 hle3 (fun j hj => Eq.trans (show obr F72_ a j = F72_ 384 j from if_neg (by omega)) (Eq.trans ((Eq.trans (a := F72_ 384 j) (b := F57_ 384 j) (by rw [q73_]; exact (fl_u_ne (by first | exact nc_ rfl | decide | omega))) (Eq.trans (a := F57_ 384 j) (b := F2 384 j) (by rw [q58_]; exact (fl_u_ne (by first | exact nc_ rfl | decide | omega))) (Eq.trans (a := F2 384 j) (b := F38_ 384 j) (hf_F2 384 j (by first | exact fs_c rfl | exact (fs_n (by omega) rfl))) (show F38_ 384 j = F10_ 384 j from (by rw [q39_]; exact (fl_u_ne (by first | exact nc_ rfl | decide | omega)))))))) (hgv j hj)))))), (Eq.trans (e112_) (Eq.trans c88_ (by rw [(show F81_ 366 = F90_ 366 from funext (fun j => ((show F90_ 366 j = F81_ 366 j from (by rw [q91_]; exact (fl_u_ne (by first | exact nc_ rfl | decide | omega)).trans ((fl_u_ne (by first | exact nc_ rfl | decide | omega)))))).symm)), hd]; exact msk_3 hle3 (fun j hj => Eq.trans (show obr F81_ a j = F81_ 384 j from if_neg (by omega)) (Eq.trans ((Eq.trans (a := F81_ 384 j) (b := F72_ 384 j) (by rw [q82_]; exact (fl_u_ne (by first | exact nc_ rfl | decide | omega))) (Eq.trans (a := F72_ 384 j) (b := F57_ 384 j) (by rw [q73_]; exact (fl_u_ne (by first | exact nc_ rfl | decide | omega))) (Eq.trans (a := F57_ 384 j) (b := F2 384 j) (by rw [q58_]; exact (fl_u_ne (by first | exact nc_ rfl | decide | omega))) (Eq.trans (a := F2 384 j) (b := F38_ 384 j) (hf_F2 384 j (by first | exact fs_c rfl | exact (fs_n (by omega) rfl))) (show F38_ 384 j = F10_ 384 j from (by rw [q39_]; exact (fl_u_ne (by first | exact nc_ rfl | decide | omega))))))))) (hgv j hj))))))⟩))
              refine ga_aload_n (v := .ref 344) hm_165 rfl rfl rfl ?_
              refine ga_getr (b := 368) hm_165 rfl sc_344 rfl ?_
              refine fl_iconst hm_165 rfl ?_
              refine ga_aload_n (v := .ref 344) hm_165 rfl rfl rfl ?_
              have e113_ : F2 344 39 = F1 344 39 := (hf_F2 344 39 rfl).trans (e45_)
              refine ga_geti (z := F1 344 39) hm_165 rfl sc_344 rfl (e113_) ?_
              refine ga_imul (a := 3) (b := F1 344 39) (c := 3 * (F1 344 39)) hm_165 rfl (by omega) ?_
              refine ga_iload (z := k2) hm_165 rfl rfl ?_
              refine ga_iadd (a := 3 * (F1 344 39)) (b := k2) (c := 3 * (F1 344 39) + k2) hm_165 rfl (by omega) ?_
              refine ga_iload (z := k2) hm_165 rfl rfl ?_
              refine ga_iload_n (z := F 354 a.toNat) hm_165 rfl rfl ?_
              refine fl_icmp_ge (a := k2) (b := F 354 a.toNat) hm_165 rfl ⟨by omega, by omega⟩ ⟨by omega, by omega⟩ (fun h114_ => ?_) (fun h115_ => ?_)
              ·
                refine fl_iconst hm_165 rfl ?_
                refine fl_iast (z := 3 * (F1 344 39) + k2) (v := -1) hm_165 rfl sc_368 (by omega) (by omega) (by omega) ?_
                refine ga_inc (a := k2) (c := k2 + 1) (lv2 := [(5, .int (Int32.ofInt (k2 + 1))), (4, .int (Int32.ofInt gd)), (3, .int (Int32.ofInt x)), (2, .int (Int32.ofInt (F 354 a.toNat))), (0, .ref 344), (1, .int (Int32.ofInt a))]) hm_165 rfl rfl (Nat.le_of_ble_eq_true rfl) rfl rfl ?_
                refine fl_goto hm_165 rfl ?_
                obtain ⟨F116_, q117_⟩ : ∃ Fq_, Fq_ = (fl_u F2 368 (3 * (F1 344 39) + k2).toNat (-1)) := ⟨_, rfl⟩
                rw [← q117_]
                have g118_ : gi F116_ := by rw [q117_]; exact gi_u (hg_F2) rfl (by omega) (by omega)
                have g119_ : fs [(344, 344, 39, 39), (367, 372, 0, 100000), (384, 384, 0, 100000)] F F116_ := by rw [q117_]; exact fs_u (g47_) (fs_z (fs_y (by omega)))
                exact ih44_ _ (by omega) (k2 + 1) F116_ rfl g118_ (by rw [q117_]; exact fs_u (hf_F2) (fs_y (by omega))) (⟨by omega, by omega⟩) (fun j hj => Eq.trans (show F116_ 368 j = F2 368 j from (by rw [q117_]; exact (fl_u_ne (by first | exact nc_ rfl | decide | omega)))) (ho2 j hj)) (by rw [q117_]; exact so_w hn2 (by omega) (by omega) (by omega)) (by rw [q117_]; exact so_3 (P := 3 * (F1 344 39) + k2) hn3 (by omega) (by omega) (by rw [if_neg (by omega)]))
              refine ga_aload_n (v := .ref 344) hm_165 rfl rfl rfl ?_
              refine ga_getr (b := 384) hm_165 rfl sc_344 rfl ?_
              refine ga_iload (z := k2) hm_165 rfl rfl ?_
              have e120_ : F38_ 384 k2.toNat = F10_ 384 k2.toNat := by rw [q39_]; exact fl_u_ne (by first | exact nc_ rfl | decide | omega)
              have e121_ : F2 384 k2.toNat = F10_ 384 k2.toNat := (hf_F2 384 k2.toNat (by first | exact fs_c rfl | exact (fs_n (by omega) rfl))).trans (e120_)
              have b122_ : 0 ≤ F10_ 384 k2.toNat ∧ F10_ 384 k2.toNat ≤ 5 := gi_g g12_ rfl
              refine ga_iald (z := k2) (w := F10_ 384 k2.toNat) hm_165 rfl sc_384 (by omega) (by omega) (by omega) (e121_) ?_
              refine fl_goto hm_165 rfl ?_
              refine fl_iast (z := 3 * (F1 344 39) + k2) (v := F10_ 384 k2.toNat) hm_165 rfl sc_368 (by omega) (by omega) (by omega) ?_
              refine ga_inc (a := k2) (c := k2 + 1) (lv2 := [(5, .int (Int32.ofInt (k2 + 1))), (4, .int (Int32.ofInt gd)), (3, .int (Int32.ofInt x)), (2, .int (Int32.ofInt (F 354 a.toNat))), (0, .ref 344), (1, .int (Int32.ofInt a))]) hm_165 rfl rfl (Nat.le_of_ble_eq_true rfl) rfl rfl ?_
              refine fl_goto hm_165 rfl ?_
              obtain ⟨F123_, q124_⟩ : ∃ Fq_, Fq_ = (fl_u F2 368 (3 * (F1 344 39) + k2).toNat (F10_ 384 k2.toNat)) := ⟨_, rfl⟩
              rw [← q124_]
              have g125_ : gi F123_ := by rw [q124_]; exact gi_u (hg_F2) rfl (by omega) (by omega)
              have g126_ : fs [(344, 344, 39, 39), (367, 372, 0, 100000), (384, 384, 0, 100000)] F F123_ := by rw [q124_]; exact fs_u (g47_) (fs_z (fs_y (by omega)))
              exact ih44_ _ (by omega) (k2 + 1) F123_ rfl g125_ (by rw [q124_]; exact fs_u (hf_F2) (fs_y (by omega))) (⟨by omega, by omega⟩) (fun j hj => Eq.trans (show F123_ 368 j = F2 368 j from (by rw [q124_]; exact (fl_u_ne (by first | exact nc_ rfl | decide | omega)))) (ho2 j hj)) (by rw [q124_]; exact so_w hn2 (by omega) (by omega) (by omega)) (by rw [q124_]; exact so_3 (P := 3 * (F1 344 39) + k2) hn3 (by omega) (by omega) (by rw [if_pos (by omega)]; exact Eq.trans (rfl) (hgv k2.toNat (by omega))))
            exact L43_ _ (0) F38_ rfl g40_ fs_refl (⟨by omega, by omega⟩) (fun _ _ => rfl) (fun p h1 _ => absurd h1 (by omega)) (fun p h1 => absurd h1 (by omega))
          refine fl_iconst hm_165 rfl ?_
          refine gr_i (z := 0) hm_165 rfl rfl (ga_nb (by omega)) ?_
          exact Or.inl ⟨F10_, rfl, g12_, g13_, rfl, (by have h9_ := stR_y (tl := tl) (D := D) (hd ▸ ok_e (by omega) ((eq01 (show gd = (if vfk tl d.1 x.toNat 3 = true then 1 else 0) from (by rw [show k.toNat = 3 by omega] at hgd; exact hgd))).2 (by omega)) hl3 (fun j hj => Eq.trans (show obr F10_ a j = F10_ 384 j from if_neg (by omega)) (hgv j hj)) ((eq01 c31_).2 (by omega))); have h8_ := stR_le (tl := tl) (D := D) (a := a.toNat) (show x.toNat + 1 ≤ 216 by omega); rw [stR_end, h9_] at h8_; simp only [List.length_append, List.length_singleton] at h8_ hc1 ⊢; omega), (sob_cg hs1 (show F10_ 344 39 = F1 344 39 from (by rw [q11_]; exact (fl_u_ne (by first | exact nc_ rfl | decide | omega)).trans ((fl_u_ne (by first | exact nc_ rfl | decide | omega)).trans ((fl_u_ne (by first | exact nc_ rfl | decide | omega)))))) (fun j => (show F10_ 357 j = F1 357 j from (by rw [q11_]; exact (fl_u_ne (by first | exact nc_ rfl | decide | omega)).trans ((fl_u_ne (by first | exact nc_ rfl | decide | omega)).trans ((fl_u_ne (by first | exact nc_ rfl | decide | omega))))))) (fun j => (show F10_ 367 j = F1 367 j from (by rw [q11_]; exact (fl_u_ne (by first | exact nc_ rfl | decide | omega)).trans ((fl_u_ne (by first | exact nc_ rfl | decide | omega)).trans ((fl_u_ne (by first | exact nc_ rfl | decide | omega))))))) (fun j => (show F10_ 354 j = F1 354 j from (by rw [q11_]; exact (fl_u_ne (by first | exact nc_ rfl | decide | omega)).trans ((fl_u_ne (by first | exact nc_ rfl | decide | omega)).trans ((fl_u_ne (by first | exact nc_ rfl | decide | omega))))))) (fun j => (show F10_ 368 j = F1 368 j from (by rw [q11_]; exact (fl_u_ne (by first | exact nc_ rfl | decide | omega)).trans ((fl_u_ne (by first | exact nc_ rfl | decide | omega)).trans ((fl_u_ne (by first | exact nc_ rfl | decide | omega))))))))⟩
        refine fl_goto hm_165 rfl ?_
        refine ga_inc (a := x) (c := x + 1) (lv2 := [(3, .int (Int32.ofInt (x + 1))), (5, .int (Int32.ofInt k)), (4, .int (Int32.ofInt gd)), (2, .int (Int32.ofInt (F 354 a.toNat))), (0, .ref 344), (1, .int (Int32.ofInt a))]) hm_165 rfl rfl (Nat.le_of_ble_eq_true rfl) rfl rfl ?_
        refine fl_goto hm_165 rfl ?_
        have e127_ : F10_ 344 39 = F1 344 39 := by rw [q11_]; exact (fl_u_ne (by first | exact nc_ rfl | decide | omega)).trans ((fl_u_ne (by first | exact nc_ rfl | decide | omega)).trans (fl_u_ne (by first | exact nc_ rfl | decide | omega)))
        have b128_ : 0 ≤ F1 344 39 ∧ F1 344 39 ≤ 40 := gi_g hg_F1 rfl
        exact fl_R_sub (lv' := [(3, .int (Int32.ofInt (x + 1))), (2, .int (Int32.ofInt (F 354 a.toNat))), (0, .ref 344), (1, .int (Int32.ofInt a))]) rfl rfl (ih4_ _ (by omega) (x + 1) F10_ rfl g12_ (by rw [q11_]; exact fs_u (fs_u (fs_u (hf_F1) rfl) rfl) rfl) (⟨by omega, by omega⟩) (sob_cg hs1 (show F10_ 344 39 = F1 344 39 from (by rw [q11_]; exact (fl_u_ne (by first | exact nc_ rfl | decide | omega)).trans ((fl_u_ne (by first | exact nc_ rfl | decide | omega)).trans ((fl_u_ne (by first | exact nc_ rfl | decide | omega)))))) (fun j => (show F10_ 357 j = F1 357 j from (by rw [q11_]; exact (fl_u_ne (by first | exact nc_ rfl | decide | omega)).trans ((fl_u_ne (by first | exact nc_ rfl | decide | omega)).trans ((fl_u_ne (by first | exact nc_ rfl | decide | omega))))))) (fun j => (show F10_ 367 j = F1 367 j from (by rw [q11_]; exact (fl_u_ne (by first | exact nc_ rfl | decide | omega)).trans ((fl_u_ne (by first | exact nc_ rfl | decide | omega)).trans ((fl_u_ne (by first | exact nc_ rfl | decide | omega))))))) (fun j => (show F10_ 354 j = F1 354 j from (by rw [q11_]; exact (fl_u_ne (by first | exact nc_ rfl | decide | omega)).trans ((fl_u_ne (by first | exact nc_ rfl | decide | omega)).trans ((fl_u_ne (by first | exact nc_ rfl | decide | omega))))))) (fun j => (show F10_ 368 j = F1 368 j from (by rw [q11_]; exact (fl_u_ne (by first | exact nc_ rfl | decide | omega)).trans ((fl_u_ne (by first | exact nc_ rfl | decide | omega)).trans ((fl_u_ne (by first | exact nc_ rfl | decide | omega)))))))) (by rw [show (x + 1).toNat = x.toNat + 1 by omega]; rw [stR_n (hd ▸ ok_e (by omega) ((eq01 (show gd = (if vfk tl d.1 x.toNat 3 = true then 1 else 0) from (by rw [show k.toNat = 3 by omega] at hgd; exact hgd))).2 (by omega)) hl3 (fun j hj => Eq.trans (show obr F10_ a j = F10_ 384 j from if_neg (by omega)) (hgv j hj)) ((eq01 c31_).1 (by omega)))]; omega) (by rw [show (x + 1).toNat = x.toNat + 1 by omega]; rw [stR_n (hd ▸ ok_e (by omega) ((eq01 (show gd = (if vfk tl d.1 x.toNat 3 = true then 1 else 0) from (by rw [show k.toNat = 3 by omega] at hgd; exact hgd))).2 (by omega)) hl3 (fun j hj => Eq.trans (show obr F10_ a j = F10_ 384 j from if_neg (by omega)) (hgv j hj)) ((eq01 c31_).1 (by omega)))]; exact (rsts_cg hs2 (fun j => (show F10_ 366 j = F1 366 j from (by rw [q11_]; exact (fl_u_ne (by first | exact nc_ rfl | decide | omega)).trans ((fl_u_ne (by first | exact nc_ rfl | decide | omega)).trans ((fl_u_ne (by first | exact nc_ rfl | decide | omega))))))) (fun j hj => (show F10_ 368 j = F1 368 j from (by rw [q11_]; exact (fl_u_ne (by first | exact nc_ rfl | decide | omega)).trans ((fl_u_ne (by first | exact nc_ rfl | decide | omega)).trans ((fl_u_ne (by first | exact nc_ rfl | decide | omega))))))) (fun r j hr hj => (show F10_ (r) j = F1 (r) j from (by rw [q11_]; exact (fl_u_ne (by first | exact nc_ rfl | decide | omega)).trans ((fl_u_ne (by first | exact nc_ rfl | decide | omega)).trans ((fl_u_ne (by first | exact nc_ rfl | decide | omega))))))))))
      refine ga_iload (z := gd) hm_165 rfl rfl ?_
      refine fl_if_eq (a := gd) hm_165 rfl ⟨by omega, by omega⟩ (fun h129_ => ?_) (fun h130_ => ?_)
      ·
        refine fl_iconst hm_165 rfl ?_
        refine ga_istore (lv2 := [(4, .int (Int32.ofInt 0)), (5, .int (Int32.ofInt k)), (3, .int (Int32.ofInt x)), (2, .int (Int32.ofInt (F 354 a.toNat))), (0, .ref 344), (1, .int (Int32.ofInt a))]) hm_165 rfl (Nat.le_of_ble_eq_true rfl) rfl ?_
        refine ga_inc (a := k) (c := k + 1) (lv2 := [(5, .int (Int32.ofInt (k + 1))), (4, .int (Int32.ofInt 0)), (3, .int (Int32.ofInt x)), (2, .int (Int32.ofInt (F 354 a.toNat))), (0, .ref 344), (1, .int (Int32.ofInt a))]) hm_165 rfl rfl (Nat.le_of_ble_eq_true rfl) rfl rfl ?_
        refine fl_goto hm_165 rfl ?_
        exact ih16_ _ (by omega) (0) (k + 1) rfl (⟨by omega, by omega⟩) (by rw [show (k + 1).toNat = k.toNat + 1 by omega]; have hv_ := hgv k.toNat (by omega); have ho_ : (F10_ 384 k.toNat).toNat = gvn x.toNat k.toNat := (by rw [hv_]; rfl); have h33_ : F10_ 344 33 = F 344 33 := (Eq.trans (a := F10_ 344 33) (b := F1 344 33) (by rw [q11_]; exact (fl_u_ne (by first | exact nc_ rfl | decide | omega)).trans ((fl_u_ne (by first | exact nc_ rfl | decide | omega)).trans ((fl_u_ne (by first | exact nc_ rfl | decide | omega))))) (show F1 344 33 = F 344 33 from (hf_F1 344 33 (by first | exact fs_c rfl | exact (fs_n (by omega) (fs_n (by omega) (fs_n (by omega) rfl))))))); have hT_ : k.toNat < d.1.length → F10_ 355 (3 * a + k).toNat = d.1.getD k.toNat 0 + 1 := (fun h_ => Eq.trans ((Eq.trans (a := F10_ 355 (3 * a + k).toNat) (b := F1 355 (3 * a + k).toNat) (by rw [q11_]; exact (fl_u_ne (by first | exact nc_ rfl | decide | omega)).trans ((fl_u_ne (by first | exact nc_ rfl | decide | omega)).trans ((fl_u_ne (by first | exact nc_ rfl | decide | omega))))) (show F1 355 (3 * a + k).toNat = F 355 (3 * a + k).toNat from (hf_F1 355 (3 * a + k).toNat (by first | exact fs_c rfl | exact (fs_n (by omega) (fs_n (by omega) (fs_n (by omega) rfl)))))))) (by have h9 := rty_get hDa.1.2 (j := k.toNat) h_; rwa [show 3 * a.toNat + k.toNat = (3 * a + k).toNat by omega] at h9)); have hB_ : gvn x.toNat k.toNat < tl.length → F10_ 365 (F10_ 384 k.toNat).toNat = tl.getD (gvn x.toNat k.toNat) 0 + 1 := (fun h_ => by rw [ho_]; exact Eq.trans ((Eq.trans (a := F10_ 365 (gvn x.toNat k.toNat)) (b := F1 365 (gvn x.toNat k.toNat)) (by rw [q11_]; exact (fl_u_ne (by first | exact nc_ rfl | decide | omega)).trans ((fl_u_ne (by first | exact nc_ rfl | decide | omega)).trans ((fl_u_ne (by first | exact nc_ rfl | decide | omega))))) (show F1 365 (gvn x.toNat k.toNat) = F 365 (gvn x.toNat k.toNat) from (hf_F1 365 (gvn x.toNat k.toNat) (by first | exact fs_c rfl | exact (fs_n (by omega) (fs_n (by omega) (fs_n (by omega) rfl)))))))) (by have h9 := rty_get hob.2 (j := gvn x.toNat k.toNat) h_; rwa [Nat.zero_add] at h9)); exact vfk_0 hgd (by omega)) (⟨by omega, by omega⟩)
      refine ga_iload (z := k) hm_165 rfl rfl ?_
      refine ga_iload_n (z := F 354 a.toNat) hm_165 rfl rfl ?_
      refine fl_icmp_ge (a := k) (b := F 354 a.toNat) hm_165 rfl ⟨by omega, by omega⟩ ⟨by omega, by omega⟩ (fun h131_ => ?_) (fun h132_ => ?_)
      ·
        refine ga_aload_n (v := .ref 344) hm_165 rfl rfl rfl ?_
        refine ga_getr (b := 384) hm_165 rfl sc_344 rfl ?_
        refine ga_iload (z := k) hm_165 rfl rfl ?_
        have b133_ : 0 ≤ F10_ 384 k.toNat ∧ F10_ 384 k.toNat ≤ 5 := gi_g g12_ rfl
        refine ga_iald (z := k) (w := F10_ 384 k.toNat) hm_165 rfl sc_384 (by omega) (by omega) (by omega) (rfl) ?_
        refine fx_if_ne (a := F10_ 384 k.toNat) hm_165 rfl ⟨by omega, by omega⟩ (fun h134_ => ?_) (fun h135_ => ?_)
        ·
          refine fl_iconst hm_165 rfl ?_
          refine ga_istore (lv2 := [(4, .int (Int32.ofInt 0)), (5, .int (Int32.ofInt k)), (3, .int (Int32.ofInt x)), (2, .int (Int32.ofInt (F 354 a.toNat))), (0, .ref 344), (1, .int (Int32.ofInt a))]) hm_165 rfl (Nat.le_of_ble_eq_true rfl) rfl ?_
          refine ga_inc (a := k) (c := k + 1) (lv2 := [(5, .int (Int32.ofInt (k + 1))), (4, .int (Int32.ofInt 0)), (3, .int (Int32.ofInt x)), (2, .int (Int32.ofInt (F 354 a.toNat))), (0, .ref 344), (1, .int (Int32.ofInt a))]) hm_165 rfl rfl (Nat.le_of_ble_eq_true rfl) rfl rfl ?_
          refine fl_goto hm_165 rfl ?_
          exact ih16_ _ (by omega) (0) (k + 1) rfl (⟨by omega, by omega⟩) (by rw [show (k + 1).toNat = k.toNat + 1 by omega]; have hv_ := hgv k.toNat (by omega); have ho_ : (F10_ 384 k.toNat).toNat = gvn x.toNat k.toNat := (by rw [hv_]; rfl); have h33_ : F10_ 344 33 = F 344 33 := (Eq.trans (a := F10_ 344 33) (b := F1 344 33) (by rw [q11_]; exact (fl_u_ne (by first | exact nc_ rfl | decide | omega)).trans ((fl_u_ne (by first | exact nc_ rfl | decide | omega)).trans ((fl_u_ne (by first | exact nc_ rfl | decide | omega))))) (show F1 344 33 = F 344 33 from (hf_F1 344 33 (by first | exact fs_c rfl | exact (fs_n (by omega) (fs_n (by omega) (fs_n (by omega) rfl))))))); have hT_ : k.toNat < d.1.length → F10_ 355 (3 * a + k).toNat = d.1.getD k.toNat 0 + 1 := (fun h_ => Eq.trans ((Eq.trans (a := F10_ 355 (3 * a + k).toNat) (b := F1 355 (3 * a + k).toNat) (by rw [q11_]; exact (fl_u_ne (by first | exact nc_ rfl | decide | omega)).trans ((fl_u_ne (by first | exact nc_ rfl | decide | omega)).trans ((fl_u_ne (by first | exact nc_ rfl | decide | omega))))) (show F1 355 (3 * a + k).toNat = F 355 (3 * a + k).toNat from (hf_F1 355 (3 * a + k).toNat (by first | exact fs_c rfl | exact (fs_n (by omega) (fs_n (by omega) (fs_n (by omega) rfl)))))))) (by have h9 := rty_get hDa.1.2 (j := k.toNat) h_; rwa [show 3 * a.toNat + k.toNat = (3 * a + k).toNat by omega] at h9)); have hB_ : gvn x.toNat k.toNat < tl.length → F10_ 365 (F10_ 384 k.toNat).toNat = tl.getD (gvn x.toNat k.toNat) 0 + 1 := (fun h_ => by rw [ho_]; exact Eq.trans ((Eq.trans (a := F10_ 365 (gvn x.toNat k.toNat)) (b := F1 365 (gvn x.toNat k.toNat)) (by rw [q11_]; exact (fl_u_ne (by first | exact nc_ rfl | decide | omega)).trans ((fl_u_ne (by first | exact nc_ rfl | decide | omega)).trans ((fl_u_ne (by first | exact nc_ rfl | decide | omega))))) (show F1 365 (gvn x.toNat k.toNat) = F 365 (gvn x.toNat k.toNat) from (hf_F1 365 (gvn x.toNat k.toNat) (by first | exact fs_c rfl | exact (fs_n (by omega) (fs_n (by omega) (fs_n (by omega) rfl)))))))) (by have h9 := rty_get hob.2 (j := gvn x.toNat k.toNat) h_; rwa [Nat.zero_add] at h9)); exact vfk_0 hgd (by omega)) (⟨by omega, by omega⟩)
        refine fl_iconst hm_165 rfl ?_
        refine fl_goto hm_165 rfl ?_
        refine ga_istore (lv2 := [(4, .int (Int32.ofInt 1)), (5, .int (Int32.ofInt k)), (3, .int (Int32.ofInt x)), (2, .int (Int32.ofInt (F 354 a.toNat))), (0, .ref 344), (1, .int (Int32.ofInt a))]) hm_165 rfl (Nat.le_of_ble_eq_true rfl) rfl ?_
        refine ga_inc (a := k) (c := k + 1) (lv2 := [(5, .int (Int32.ofInt (k + 1))), (4, .int (Int32.ofInt 1)), (3, .int (Int32.ofInt x)), (2, .int (Int32.ofInt (F 354 a.toNat))), (0, .ref 344), (1, .int (Int32.ofInt a))]) hm_165 rfl rfl (Nat.le_of_ble_eq_true rfl) rfl rfl ?_
        refine fl_goto hm_165 rfl ?_
        exact ih16_ _ (by omega) (1) (k + 1) rfl (⟨by omega, by omega⟩) (by rw [show (k + 1).toNat = k.toNat + 1 by omega]; have hv_ := hgv k.toNat (by omega); have ho_ : (F10_ 384 k.toNat).toNat = gvn x.toNat k.toNat := (by rw [hv_]; rfl); have h33_ : F10_ 344 33 = F 344 33 := (Eq.trans (a := F10_ 344 33) (b := F1 344 33) (by rw [q11_]; exact (fl_u_ne (by first | exact nc_ rfl | decide | omega)).trans ((fl_u_ne (by first | exact nc_ rfl | decide | omega)).trans ((fl_u_ne (by first | exact nc_ rfl | decide | omega))))) (show F1 344 33 = F 344 33 from (hf_F1 344 33 (by first | exact fs_c rfl | exact (fs_n (by omega) (fs_n (by omega) (fs_n (by omega) rfl))))))); have hT_ : k.toNat < d.1.length → F10_ 355 (3 * a + k).toNat = d.1.getD k.toNat 0 + 1 := (fun h_ => Eq.trans ((Eq.trans (a := F10_ 355 (3 * a + k).toNat) (b := F1 355 (3 * a + k).toNat) (by rw [q11_]; exact (fl_u_ne (by first | exact nc_ rfl | decide | omega)).trans ((fl_u_ne (by first | exact nc_ rfl | decide | omega)).trans ((fl_u_ne (by first | exact nc_ rfl | decide | omega))))) (show F1 355 (3 * a + k).toNat = F 355 (3 * a + k).toNat from (hf_F1 355 (3 * a + k).toNat (by first | exact fs_c rfl | exact (fs_n (by omega) (fs_n (by omega) (fs_n (by omega) rfl)))))))) (by have h9 := rty_get hDa.1.2 (j := k.toNat) h_; rwa [show 3 * a.toNat + k.toNat = (3 * a + k).toNat by omega] at h9)); have hB_ : gvn x.toNat k.toNat < tl.length → F10_ 365 (F10_ 384 k.toNat).toNat = tl.getD (gvn x.toNat k.toNat) 0 + 1 := (fun h_ => by rw [ho_]; exact Eq.trans ((Eq.trans (a := F10_ 365 (gvn x.toNat k.toNat)) (b := F1 365 (gvn x.toNat k.toNat)) (by rw [q11_]; exact (fl_u_ne (by first | exact nc_ rfl | decide | omega)).trans ((fl_u_ne (by first | exact nc_ rfl | decide | omega)).trans ((fl_u_ne (by first | exact nc_ rfl | decide | omega))))) (show F1 365 (gvn x.toNat k.toNat) = F 365 (gvn x.toNat k.toNat) from (hf_F1 365 (gvn x.toNat k.toNat) (by first | exact fs_c rfl | exact (fs_n (by omega) (fs_n (by omega) (fs_n (by omega) rfl)))))))) (by have h9 := rty_get hob.2 (j := gvn x.toNat k.toNat) h_; rwa [Nat.zero_add] at h9)); exact vfk_1 hgd (by omega) (by omega)) (⟨by omega, by omega⟩)
      refine ga_aload_n (v := .ref 344) hm_165 rfl rfl rfl ?_
      refine ga_getr (b := 384) hm_165 rfl sc_344 rfl ?_
      refine ga_iload (z := k) hm_165 rfl rfl ?_
      have b136_ : 0 ≤ F10_ 384 k.toNat ∧ F10_ 384 k.toNat ≤ 5 := gi_g g12_ rfl
      refine ga_iald (z := k) (w := F10_ 384 k.toNat) hm_165 rfl sc_384 (by omega) (by omega) (by omega) (rfl) ?_
      refine ga_aload_n (v := .ref 344) hm_165 rfl rfl rfl ?_
      have e137_ : F1 344 33 = F 344 33 := (hf_F1 344 33 rfl).trans (rfl)
      have e138_ : F10_ 344 33 = F 344 33 := by rw [q11_]; exact (fl_u_ne (by first | exact nc_ rfl | decide | omega)).trans ((fl_u_ne (by first | exact nc_ rfl | decide | omega)).trans ((fl_u_ne (by first | exact nc_ rfl | decide | omega)).trans (e137_)))
      have b139_ : 0 ≤ F 344 33 ∧ F 344 33 ≤ 6 := gi_g hgi rfl
      refine ga_geti (z := F 344 33) hm_165 rfl sc_344 rfl (e138_) ?_
      refine fl_icmp_ge (a := F10_ 384 k.toNat) (b := F 344 33) hm_165 rfl ⟨by omega, by omega⟩ ⟨by omega, by omega⟩ (fun h140_ => ?_) (fun h141_ => ?_)
      ·
        refine fl_iconst hm_165 rfl ?_
        refine ga_istore (lv2 := [(4, .int (Int32.ofInt 0)), (5, .int (Int32.ofInt k)), (3, .int (Int32.ofInt x)), (2, .int (Int32.ofInt (F 354 a.toNat))), (0, .ref 344), (1, .int (Int32.ofInt a))]) hm_165 rfl (Nat.le_of_ble_eq_true rfl) rfl ?_
        refine ga_inc (a := k) (c := k + 1) (lv2 := [(5, .int (Int32.ofInt (k + 1))), (4, .int (Int32.ofInt 0)), (3, .int (Int32.ofInt x)), (2, .int (Int32.ofInt (F 354 a.toNat))), (0, .ref 344), (1, .int (Int32.ofInt a))]) hm_165 rfl rfl (Nat.le_of_ble_eq_true rfl) rfl rfl ?_
        refine fl_goto hm_165 rfl ?_
        exact ih16_ _ (by omega) (0) (k + 1) rfl (⟨by omega, by omega⟩) (by rw [show (k + 1).toNat = k.toNat + 1 by omega]; have hv_ := hgv k.toNat (by omega); have ho_ : (F10_ 384 k.toNat).toNat = gvn x.toNat k.toNat := (by rw [hv_]; rfl); have h33_ : F10_ 344 33 = F 344 33 := (Eq.trans (a := F10_ 344 33) (b := F1 344 33) (by rw [q11_]; exact (fl_u_ne (by first | exact nc_ rfl | decide | omega)).trans ((fl_u_ne (by first | exact nc_ rfl | decide | omega)).trans ((fl_u_ne (by first | exact nc_ rfl | decide | omega))))) (show F1 344 33 = F 344 33 from (hf_F1 344 33 (by first | exact fs_c rfl | exact (fs_n (by omega) (fs_n (by omega) (fs_n (by omega) rfl))))))); have hT_ : k.toNat < d.1.length → F10_ 355 (3 * a + k).toNat = d.1.getD k.toNat 0 + 1 := (fun h_ => Eq.trans ((Eq.trans (a := F10_ 355 (3 * a + k).toNat) (b := F1 355 (3 * a + k).toNat) (by rw [q11_]; exact (fl_u_ne (by first | exact nc_ rfl | decide | omega)).trans ((fl_u_ne (by first | exact nc_ rfl | decide | omega)).trans ((fl_u_ne (by first | exact nc_ rfl | decide | omega))))) (show F1 355 (3 * a + k).toNat = F 355 (3 * a + k).toNat from (hf_F1 355 (3 * a + k).toNat (by first | exact fs_c rfl | exact (fs_n (by omega) (fs_n (by omega) (fs_n (by omega) rfl)))))))) (by have h9 := rty_get hDa.1.2 (j := k.toNat) h_; rwa [show 3 * a.toNat + k.toNat = (3 * a + k).toNat by omega] at h9)); have hB_ : gvn x.toNat k.toNat < tl.length → F10_ 365 (F10_ 384 k.toNat).toNat = tl.getD (gvn x.toNat k.toNat) 0 + 1 := (fun h_ => by rw [ho_]; exact Eq.trans ((Eq.trans (a := F10_ 365 (gvn x.toNat k.toNat)) (b := F1 365 (gvn x.toNat k.toNat)) (by rw [q11_]; exact (fl_u_ne (by first | exact nc_ rfl | decide | omega)).trans ((fl_u_ne (by first | exact nc_ rfl | decide | omega)).trans ((fl_u_ne (by first | exact nc_ rfl | decide | omega))))) (show F1 365 (gvn x.toNat k.toNat) = F 365 (gvn x.toNat k.toNat) from (hf_F1 365 (gvn x.toNat k.toNat) (by first | exact fs_c rfl | exact (fs_n (by omega) (fs_n (by omega) (fs_n (by omega) rfl)))))))) (by have h9 := rty_get hob.2 (j := gvn x.toNat k.toNat) h_; rwa [Nat.zero_add] at h9)); exact vfk_0 hgd (by omega)) (⟨by omega, by omega⟩)
      refine ga_aload_n (v := .ref 344) hm_165 rfl rfl rfl ?_
      refine ga_aload_n (v := .ref 344) hm_165 rfl rfl rfl ?_
      refine ga_getr (b := 384) hm_165 rfl sc_344 rfl ?_
      refine ga_iload (z := k) hm_165 rfl rfl ?_
      refine ga_iald (z := k) (w := F10_ 384 k.toNat) hm_165 rfl sc_384 (by omega) (by omega) (by omega) (rfl) ?_
      refine ga_aload_n (v := .ref 344) hm_165 rfl rfl rfl ?_
      refine ga_getr (b := 355) hm_165 rfl sc_344 rfl ?_
      refine fl_iconst hm_165 rfl ?_
      refine ga_iload_n (z := a) hm_165 rfl rfl ?_
      refine ga_imul (a := 3) (b := a) (c := 3 * a) hm_165 rfl (by omega) ?_
      refine ga_iload (z := k) hm_165 rfl rfl ?_
      refine ga_iadd (a := 3 * a) (b := k) (c := 3 * a + k) hm_165 rfl (by omega) ?_
      have e142_ : F1 355 (3 * a + k).toNat = F 355 (3 * a + k).toNat := (hf_F1 355 (3 * a + k).toNat (by first | exact fs_c rfl | exact (fs_n (by omega) (fs_n (by omega) (fs_n (by omega) rfl))))).trans (rfl)
      have e143_ : F10_ 355 (3 * a + k).toNat = F 355 (3 * a + k).toNat := by rw [q11_]; exact (fl_u_ne (by first | exact nc_ rfl | decide | omega)).trans ((fl_u_ne (by first | exact nc_ rfl | decide | omega)).trans ((fl_u_ne (by first | exact nc_ rfl | decide | omega)).trans (e142_)))
      have b144_ : 0 ≤ F 355 (3 * a + k).toNat ∧ F 355 (3 * a + k).toNat ≤ 4 := gi_g hgi rfl
      refine ga_iald (z := 3 * a + k) (w := F 355 (3 * a + k).toNat) hm_165 rfl sc_355 (by omega) (by omega) (by omega) (e143_) ?_
      refine gIi (nY := 3) (F := 0) (L := 0) (As := [.int (Int32.ofInt (F10_ 384 k.toNat)), .int (Int32.ofInt (F 355 (3 * a + k).toNat))]) (b := 344) (rest := []) hm_165 rfl hm_164 rfl rfl (fl_ob sc_344) rfl rfl rfl rfl rfl (by omega) (by omega) ?_
      intro f145_ l146_ h147_ h148_
      show fl_R xi_ms 164 f145_ l146_ 0 [(0, .ref 344), (1, .int (Int32.ofInt (F10_ 384 k.toNat))), (2, .int (Int32.ofInt (F 355 (3 * a + k).toNat)))] [] _ _
      refine ga_iload_n (z := F 355 (3 * a + k).toNat) hm_164 rfl rfl ?_
      refine fl_if_eq (a := F 355 (3 * a + k).toNat) hm_164 rfl ⟨by omega, by omega⟩ (fun h149_ => ?_) (fun h150_ => ?_)
      ·
        refine fl_iconst hm_164 rfl ?_
        refine fl_goto hm_164 rfl ?_
        refine gr_i hm_164 rfl rfl (ga_nb (by omega)) ?_
        clear h147_ h148_ f145_ l146_
        refine fl_if_eq hm_165 rfl ⟨by omega, by omega⟩ (fun h => absurd h (by omega)) (fun _ => ?_)
        refine fl_goto hm_165 rfl ?_
        refine fl_iconst hm_165 rfl ?_
        refine fl_goto hm_165 rfl ?_
        refine ga_istore (lv2 := [(4, .int (Int32.ofInt 1)), (5, .int (Int32.ofInt k)), (3, .int (Int32.ofInt x)), (2, .int (Int32.ofInt (F 354 a.toNat))), (0, .ref 344), (1, .int (Int32.ofInt a))]) hm_165 rfl (Nat.le_of_ble_eq_true rfl) rfl ?_
        refine ga_inc (a := k) (c := k + 1) (lv2 := [(5, .int (Int32.ofInt (k + 1))), (4, .int (Int32.ofInt 1)), (3, .int (Int32.ofInt x)), (2, .int (Int32.ofInt (F 354 a.toNat))), (0, .ref 344), (1, .int (Int32.ofInt a))]) hm_165 rfl rfl (Nat.le_of_ble_eq_true rfl) rfl rfl ?_
        refine fl_goto hm_165 rfl ?_
        exact ih16_ _ (by omega) (1) (k + 1) rfl (⟨by omega, by omega⟩) (by rw [show (k + 1).toNat = k.toNat + 1 by omega]; have hv_ := hgv k.toNat (by omega); have ho_ : (F10_ 384 k.toNat).toNat = gvn x.toNat k.toNat := (by rw [hv_]; rfl); have h33_ : F10_ 344 33 = F 344 33 := (Eq.trans (a := F10_ 344 33) (b := F1 344 33) (by rw [q11_]; exact (fl_u_ne (by first | exact nc_ rfl | decide | omega)).trans ((fl_u_ne (by first | exact nc_ rfl | decide | omega)).trans ((fl_u_ne (by first | exact nc_ rfl | decide | omega))))) (show F1 344 33 = F 344 33 from (hf_F1 344 33 (by first | exact fs_c rfl | exact (fs_n (by omega) (fs_n (by omega) (fs_n (by omega) rfl))))))); have hT_ : k.toNat < d.1.length → F10_ 355 (3 * a + k).toNat = d.1.getD k.toNat 0 + 1 := (fun h_ => Eq.trans ((Eq.trans (a := F10_ 355 (3 * a + k).toNat) (b := F1 355 (3 * a + k).toNat) (by rw [q11_]; exact (fl_u_ne (by first | exact nc_ rfl | decide | omega)).trans ((fl_u_ne (by first | exact nc_ rfl | decide | omega)).trans ((fl_u_ne (by first | exact nc_ rfl | decide | omega))))) (show F1 355 (3 * a + k).toNat = F 355 (3 * a + k).toNat from (hf_F1 355 (3 * a + k).toNat (by first | exact fs_c rfl | exact (fs_n (by omega) (fs_n (by omega) (fs_n (by omega) rfl)))))))) (by have h9 := rty_get hDa.1.2 (j := k.toNat) h_; rwa [show 3 * a.toNat + k.toNat = (3 * a + k).toNat by omega] at h9)); have hB_ : gvn x.toNat k.toNat < tl.length → F10_ 365 (F10_ 384 k.toNat).toNat = tl.getD (gvn x.toNat k.toNat) 0 + 1 := (fun h_ => by rw [ho_]; exact Eq.trans ((Eq.trans (a := F10_ 365 (gvn x.toNat k.toNat)) (b := F1 365 (gvn x.toNat k.toNat)) (by rw [q11_]; exact (fl_u_ne (by first | exact nc_ rfl | decide | omega)).trans ((fl_u_ne (by first | exact nc_ rfl | decide | omega)).trans ((fl_u_ne (by first | exact nc_ rfl | decide | omega))))) (show F1 365 (gvn x.toNat k.toNat) = F 365 (gvn x.toNat k.toNat) from (hf_F1 365 (gvn x.toNat k.toNat) (by first | exact fs_c rfl | exact (fs_n (by omega) (fs_n (by omega) (fs_n (by omega) rfl)))))))) (by have h9 := rty_get hob.2 (j := gvn x.toNat k.toNat) h_; rwa [Nat.zero_add] at h9)); exact vfk_1 hgd (by omega) (by omega)) (⟨by omega, by omega⟩)
      refine ga_aload_n (v := .ref 344) hm_164 rfl rfl rfl ?_
      refine ga_getr (b := 365) hm_164 rfl sc_344 rfl ?_
      refine ga_iload_n (z := F10_ 384 k.toNat) hm_164 rfl rfl ?_
      have e151_ : F1 365 (F10_ 384 k.toNat).toNat = F 365 (F10_ 384 k.toNat).toNat := (hf_F1 365 (F10_ 384 k.toNat).toNat (by first | exact fs_c rfl | exact (fs_n (by omega) (fs_n (by omega) (fs_n (by omega) rfl))))).trans (rfl)
      have e152_ : F10_ 365 (F10_ 384 k.toNat).toNat = F 365 (F10_ 384 k.toNat).toNat := (congrFun (congrFun q11_ 365) ((F10_ 384 k.toNat).toNat)).trans ((fl_u_ne (by first | exact nc_ rfl | decide | omega)).trans ((fl_u_ne (by first | exact nc_ rfl | decide | omega)).trans ((fl_u_ne (by first | exact nc_ rfl | decide | omega)).trans (e151_))))
      have b153_ : 0 ≤ F 365 (F10_ 384 k.toNat).toNat ∧ F 365 (F10_ 384 k.toNat).toNat ≤ 4 := gi_g hgi rfl
      refine ga_iald (z := F10_ 384 k.toNat) (w := F 365 (F10_ 384 k.toNat).toNat) hm_164 rfl sc_365 (by omega) (by omega) (by omega) (e152_) ?_
      refine ga_iload_n (z := F 355 (3 * a + k).toNat) hm_164 rfl rfl ?_
      refine fx_icmp_ne (a := F 365 (F10_ 384 k.toNat).toNat) (b := F 355 (3 * a + k).toNat) hm_164 rfl ⟨by omega, by omega⟩ ⟨by omega, by omega⟩ (fun h154_ => ?_) (fun h155_ => ?_)
      ·
        refine fl_iconst hm_164 rfl ?_
        refine gr_i hm_164 rfl rfl (ga_nb (by omega)) ?_
        clear h147_ h148_ f145_ l146_
        refine fl_if_eq hm_165 rfl ⟨by omega, by omega⟩ (fun _ => ?_) (fun h => absurd (by omega) h)
        refine fl_iconst hm_165 rfl ?_
        refine ga_istore (lv2 := [(4, .int (Int32.ofInt 0)), (5, .int (Int32.ofInt k)), (3, .int (Int32.ofInt x)), (2, .int (Int32.ofInt (F 354 a.toNat))), (0, .ref 344), (1, .int (Int32.ofInt a))]) hm_165 rfl (Nat.le_of_ble_eq_true rfl) rfl ?_
        refine ga_inc (a := k) (c := k + 1) (lv2 := [(5, .int (Int32.ofInt (k + 1))), (4, .int (Int32.ofInt 0)), (3, .int (Int32.ofInt x)), (2, .int (Int32.ofInt (F 354 a.toNat))), (0, .ref 344), (1, .int (Int32.ofInt a))]) hm_165 rfl rfl (Nat.le_of_ble_eq_true rfl) rfl rfl ?_
        refine fl_goto hm_165 rfl ?_
        exact ih16_ _ (by omega) (0) (k + 1) rfl (⟨by omega, by omega⟩) (by rw [show (k + 1).toNat = k.toNat + 1 by omega]; have hv_ := hgv k.toNat (by omega); have ho_ : (F10_ 384 k.toNat).toNat = gvn x.toNat k.toNat := (by rw [hv_]; rfl); have h33_ : F10_ 344 33 = F 344 33 := (Eq.trans (a := F10_ 344 33) (b := F1 344 33) (by rw [q11_]; exact (fl_u_ne (by first | exact nc_ rfl | decide | omega)).trans ((fl_u_ne (by first | exact nc_ rfl | decide | omega)).trans ((fl_u_ne (by first | exact nc_ rfl | decide | omega))))) (show F1 344 33 = F 344 33 from (hf_F1 344 33 (by first | exact fs_c rfl | exact (fs_n (by omega) (fs_n (by omega) (fs_n (by omega) rfl))))))); have hT_ : k.toNat < d.1.length → F10_ 355 (3 * a + k).toNat = d.1.getD k.toNat 0 + 1 := (fun h_ => Eq.trans ((Eq.trans (a := F10_ 355 (3 * a + k).toNat) (b := F1 355 (3 * a + k).toNat) (by rw [q11_]; exact (fl_u_ne (by first | exact nc_ rfl | decide | omega)).trans ((fl_u_ne (by first | exact nc_ rfl | decide | omega)).trans ((fl_u_ne (by first | exact nc_ rfl | decide | omega))))) (show F1 355 (3 * a + k).toNat = F 355 (3 * a + k).toNat from (hf_F1 355 (3 * a + k).toNat (by first | exact fs_c rfl | exact (fs_n (by omega) (fs_n (by omega) (fs_n (by omega) rfl)))))))) (by have h9 := rty_get hDa.1.2 (j := k.toNat) h_; rwa [show 3 * a.toNat + k.toNat = (3 * a + k).toNat by omega] at h9)); have hB_ : gvn x.toNat k.toNat < tl.length → F10_ 365 (F10_ 384 k.toNat).toNat = tl.getD (gvn x.toNat k.toNat) 0 + 1 := (fun h_ => by rw [ho_]; exact Eq.trans ((Eq.trans (a := F10_ 365 (gvn x.toNat k.toNat)) (b := F1 365 (gvn x.toNat k.toNat)) (by rw [q11_]; exact (fl_u_ne (by first | exact nc_ rfl | decide | omega)).trans ((fl_u_ne (by first | exact nc_ rfl | decide | omega)).trans ((fl_u_ne (by first | exact nc_ rfl | decide | omega))))) (show F1 365 (gvn x.toNat k.toNat) = F 365 (gvn x.toNat k.toNat) from (hf_F1 365 (gvn x.toNat k.toNat) (by first | exact fs_c rfl | exact (fs_n (by omega) (fs_n (by omega) (fs_n (by omega) rfl)))))))) (by have h9 := rty_get hob.2 (j := gvn x.toNat k.toNat) h_; rwa [Nat.zero_add] at h9)); exact vfk_0 hgd (by omega)) (⟨by omega, by omega⟩)
      refine fl_iconst hm_164 rfl ?_
      refine fl_goto hm_164 rfl ?_
      refine gr_i hm_164 rfl rfl (ga_nb (by omega)) ?_
      clear h147_ h148_ f145_ l146_
      refine fl_if_eq hm_165 rfl ⟨by omega, by omega⟩ (fun h => absurd h (by omega)) (fun _ => ?_)
      refine fl_goto hm_165 rfl ?_
      refine fl_iconst hm_165 rfl ?_
      refine fl_goto hm_165 rfl ?_
      refine ga_istore (lv2 := [(4, .int (Int32.ofInt 1)), (5, .int (Int32.ofInt k)), (3, .int (Int32.ofInt x)), (2, .int (Int32.ofInt (F 354 a.toNat))), (0, .ref 344), (1, .int (Int32.ofInt a))]) hm_165 rfl (Nat.le_of_ble_eq_true rfl) rfl ?_
      refine ga_inc (a := k) (c := k + 1) (lv2 := [(5, .int (Int32.ofInt (k + 1))), (4, .int (Int32.ofInt 1)), (3, .int (Int32.ofInt x)), (2, .int (Int32.ofInt (F 354 a.toNat))), (0, .ref 344), (1, .int (Int32.ofInt a))]) hm_165 rfl rfl (Nat.le_of_ble_eq_true rfl) rfl rfl ?_
      refine fl_goto hm_165 rfl ?_
      exact ih16_ _ (by omega) (1) (k + 1) rfl (⟨by omega, by omega⟩) (by rw [show (k + 1).toNat = k.toNat + 1 by omega]; have hv_ := hgv k.toNat (by omega); have ho_ : (F10_ 384 k.toNat).toNat = gvn x.toNat k.toNat := (by rw [hv_]; rfl); have h33_ : F10_ 344 33 = F 344 33 := (Eq.trans (a := F10_ 344 33) (b := F1 344 33) (by rw [q11_]; exact (fl_u_ne (by first | exact nc_ rfl | decide | omega)).trans ((fl_u_ne (by first | exact nc_ rfl | decide | omega)).trans ((fl_u_ne (by first | exact nc_ rfl | decide | omega))))) (show F1 344 33 = F 344 33 from (hf_F1 344 33 (by first | exact fs_c rfl | exact (fs_n (by omega) (fs_n (by omega) (fs_n (by omega) rfl))))))); have hT_ : k.toNat < d.1.length → F10_ 355 (3 * a + k).toNat = d.1.getD k.toNat 0 + 1 := (fun h_ => Eq.trans ((Eq.trans (a := F10_ 355 (3 * a + k).toNat) (b := F1 355 (3 * a + k).toNat) (by rw [q11_]; exact (fl_u_ne (by first | exact nc_ rfl | decide | omega)).trans ((fl_u_ne (by first | exact nc_ rfl | decide | omega)).trans ((fl_u_ne (by first | exact nc_ rfl | decide | omega))))) (show F1 355 (3 * a + k).toNat = F 355 (3 * a + k).toNat from (hf_F1 355 (3 * a + k).toNat (by first | exact fs_c rfl | exact (fs_n (by omega) (fs_n (by omega) (fs_n (by omega) rfl)))))))) (by have h9 := rty_get hDa.1.2 (j := k.toNat) h_; rwa [show 3 * a.toNat + k.toNat = (3 * a + k).toNat by omega] at h9)); have hB_ : gvn x.toNat k.toNat < tl.length → F10_ 365 (F10_ 384 k.toNat).toNat = tl.getD (gvn x.toNat k.toNat) 0 + 1 := (fun h_ => by rw [ho_]; exact Eq.trans ((Eq.trans (a := F10_ 365 (gvn x.toNat k.toNat)) (b := F1 365 (gvn x.toNat k.toNat)) (by rw [q11_]; exact (fl_u_ne (by first | exact nc_ rfl | decide | omega)).trans ((fl_u_ne (by first | exact nc_ rfl | decide | omega)).trans ((fl_u_ne (by first | exact nc_ rfl | decide | omega))))) (show F1 365 (gvn x.toNat k.toNat) = F 365 (gvn x.toNat k.toNat) from (hf_F1 365 (gvn x.toNat k.toNat) (by first | exact fs_c rfl | exact (fs_n (by omega) (fs_n (by omega) (fs_n (by omega) rfl)))))))) (by have h9 := rty_get hob.2 (j := gvn x.toNat k.toNat) h_; rwa [Nat.zero_add] at h9)); exact vfk_1 hgd (by omega) (by omega)) (⟨by omega, by omega⟩)
    exact L15_ _ (1) (0) rfl (⟨by omega, by omega⟩) (rfl) (⟨by omega, by omega⟩)
  have b156_ : 0 ≤ F 344 39 ∧ F 344 39 ≤ 40 := gi_g hgi rfl
  exact L3_ _ (0) F rfl hgi fs_refl (⟨by omega, by omega⟩) (hso) (by simpa [stR] using hcn) (by simpa [stR] using hst)
/- CheapPlannerModel.layFacts -/
abbrev pq_171 (G : Nat → Nat → Option Nat) (F : fl_N) (X : xi_H) (ps : List (List Int)) (tl : List Int) : Outcome → xi_H → Prop := gqv (fun A => ∃ F' : fl_N, fl_H sh_T G F' ++ X = A ∧ gi F' ∧ fs [(344, 344, 36, 36), (366, 366, 0, 100000)] F F' ∧ (F' 344 36 = (nfc ps tl 216 : Int)) ∧ (fnr F' 366 ps tl 216)) gqn
theorem mc_171 {G : Nat → Nat → Option Nat} (hG : gg G) (F : fl_N) (X : xi_H) (hgi : gi F) (ps : List (List Int)) (tl : List Int) (hps : rprd F ps ∧ F 344 17 = (ps.length : Int)) (hob : F 344 33 = (tl.length : Int) ∧ rty (F 365) 0 tl) : fl_M xi_ms 171 1 22 [.ref 344] (fl_H sh_T G F ++ X) (pq_171 G F X ps tl) := by
  intro fr lo hfr hlo
  show fl_R xi_ms 171 fr lo 0 [(0, .ref 344)] [] _ _
  have hps2 := hps.2
  have hob1 := hob.1
  have hb17 : 0 ≤ F 344 17 ∧ F 344 17 ≤ 6 := gi_g hgi rfl
  have hb33 : 0 ≤ F 344 33 ∧ F 344 33 ≤ 6 := gi_g hgi rfl
  refine ga_aload_n (v := .ref 344) hm_171 rfl rfl rfl ?_
  refine fl_iconst hm_171 rfl ?_
  refine ga_puti (z := 0) hm_171 rfl sc_344 rfl rfl ?_
  refine fl_iconst hm_171 rfl ?_
  refine ga_istore_n (lv2 := [(1, .int (Int32.ofInt 0)), (0, .ref 344)]) hm_171 rfl (Nat.le_of_ble_eq_true rfl) rfl ?_
  obtain ⟨F1_, q2_⟩ : ∃ Fq_, Fq_ = (fl_u F 344 36 0) := ⟨_, rfl⟩
  rw [← q2_]
  have g3_ : gi F1_ := by rw [q2_]; exact gi_u (hgi) rfl (by omega) (by omega)
  have g4_ : fs [(344, 344, 36, 36), (366, 366, 0, 100000)] F F1_ := by rw [q2_]; exact fs_u (fs_refl) rfl
  have L6_ : ∀ (n5_ : Nat) (p : Int) (F1 : fl_N), (6 - p : Int).toNat = n5_ → (gi F1) → (fs [(344, 344, 36, 36), (366, 366, 0, 100000)] F1_ F1) → (0 ≤ p ∧ p ≤ F 344 17) → (F1 344 36 = (nfc ps tl (36 * p.toNat) : Int)) → (fnr F1 366 ps tl (36 * p.toNat)) → fl_R xi_ms 171 fr lo 7 [(1, .int (Int32.ofInt p)), (0, .ref 344)] [] (fl_H sh_T G F1 ++ X) (pq_171 G F X ps tl) := by
    intro n5_
    induction n5_ using Nat.strongRecOn with
    | ind n5_ ih7_ =>
    intro p F1 hn8_ hg_F1 hf_F1 hp hf hn1
    have g9_ : fs [(344, 344, 36, 36), (366, 366, 0, 100000)] F F1 := fs_tr g4_ hf_F1 rfl
    refine ga_iload_n (z := p) hm_171 rfl rfl ?_
    refine ga_aload_n (v := .ref 344) hm_171 rfl rfl rfl ?_
    have e10_ : F1_ 344 17 = F 344 17 := by rw [q2_]; exact fl_u_ne (by first | exact nc_ rfl | decide | omega)
    have e11_ : F1 344 17 = F 344 17 := (hf_F1 344 17 rfl).trans (e10_)
    have b12_ : 0 ≤ F 344 17 ∧ F 344 17 ≤ 6 := gi_g hgi rfl
    refine ga_geti (z := F 344 17) hm_171 rfl sc_344 rfl (e11_) ?_
    refine fl_icmp_ge (a := p) (b := F 344 17) hm_171 rfl ⟨by omega, by omega⟩ ⟨by omega, by omega⟩ (fun h13_ => ?_) (fun h14_ => ?_)
    ·
      refine gr_v hm_171 rfl rfl ?_
      have b15_ : 0 ≤ F1 344 36 ∧ F1 344 36 ≤ 216 := gi_g hg_F1 rfl
      exact ⟨F1, rfl, hg_F1, g9_, (by rw [gf_end (m := p.toNat) (by omega) (by omega)]; exact hf), (fnr_sk hn1 (gf_end (m := p.toNat) (by omega) (by omega)))⟩
    refine ga_aload_n (v := .ref 344) hm_171 rfl rfl rfl ?_
    refine ga_getr (b := 351) hm_171 rfl sc_344 rfl ?_
    refine ga_iload_n (z := p) hm_171 rfl rfl ?_
    have e16_ : F1_ 351 p.toNat = F 351 p.toNat := by rw [q2_]; exact fl_u_ne (by first | exact nc_ rfl | decide | omega)
    have e17_ : F1 351 p.toNat = F 351 p.toNat := (hf_F1 351 p.toNat (by first | exact fs_c rfl | exact (fs_n (by omega) (fs_n (by omega) rfl)))).trans (e16_)
    have b18_ : 0 ≤ F 351 p.toNat ∧ F 351 p.toNat ≤ 2 := gi_g hgi rfl
    refine ga_iald (z := p) (w := F 351 p.toNat) hm_171 rfl sc_351 (by omega) (by omega) (by omega) (e17_) ?_
    refine ga_istore_n (lv2 := [(2, .int (Int32.ofInt (F 351 p.toNat))), (1, .int (Int32.ofInt p)), (0, .ref 344)]) hm_171 rfl (Nat.le_of_ble_eq_true rfl) rfl ?_
    obtain ⟨hz1_, hz2_, hz3_⟩ := hps.1 p.toNat (by omega)
    have hg0 : 0 < (ps.getD p.toNat []).length → F 352 (2 * p).toNat = (ps.getD p.toNat []).getD 0 0 + 1 := fun h => by have h9 := rty_get hz2_ (j := 0) h; rwa [show 2 * p.toNat + 0 = (2 * p).toNat by omega] at h9
    have hg1 : 1 < (ps.getD p.toNat []).length → F 352 (2 * p + 1).toNat = (ps.getD p.toNat []).getD 1 0 + 1 := fun h => by have h9 := rty_get hz2_ (j := 1) h; rwa [show 2 * p.toNat + 1 = (2 * p + 1).toNat by omega] at h9
    refine fl_iconst hm_171 rfl ?_
    refine ga_istore_n (lv2 := [(3, .int (Int32.ofInt 0)), (2, .int (Int32.ofInt (F 351 p.toNat))), (1, .int (Int32.ofInt p)), (0, .ref 344)]) hm_171 rfl (Nat.le_of_ble_eq_true rfl) rfl ?_
    have L20_ : ∀ (n19_ : Nat) (x : Int) (F2 : fl_N), (6 - x : Int).toNat = n19_ → (gi F2) → (fs [(344, 344, 36, 36), (366, 366, 0, 100000)] F1 F2) → (0 ≤ x ∧ x ≤ 6) → ((F 351 p.toNat < 1 ∧ x ≤ 1) ∨ (1 ≤ F 351 p.toNat ∧ x ≤ F 344 33)) → (F2 344 36 = (nfc ps tl (36 * p.toNat + 6 * x.toNat) : Int)) → (fnr F2 366 ps tl (36 * p.toNat + 6 * x.toNat)) → fl_R xi_ms 171 fr lo 24 [(3, .int (Int32.ofInt x)), (2, .int (Int32.ofInt (F 351 p.toNat))), (1, .int (Int32.ofInt p)), (0, .ref 344)] [] (fl_H sh_T G F2 ++ X) (pq_171 G F X ps tl) := by
      intro n19_
      induction n19_ using Nat.strongRecOn with
      | ind n19_ ih21_ =>
      intro x F2 hn22_ hg_F2 hf_F2 hx hxb hf2 hn2
      have g23_ : fs [(344, 344, 36, 36), (366, 366, 0, 100000)] F F2 := fs_tr g9_ hf_F2 rfl
      refine ga_iload_n (z := x) hm_171 rfl rfl ?_
      refine ga_iload_n (z := F 351 p.toNat) hm_171 rfl rfl ?_
      refine fl_if_le (a := F 351 p.toNat) hm_171 rfl ⟨by omega, by omega⟩ (fun h24_ => ?_) (fun h25_ => ?_)
      ·
        refine fl_iconst hm_171 rfl ?_
        refine fl_icmp_ge (a := x) (b := 1) hm_171 rfl ⟨by omega, by omega⟩ ⟨by omega, by omega⟩ (fun h26_ => ?_) (fun h27_ => ?_)
        ·
          refine ga_inc (a := p) (c := p + 1) (lv2 := [(1, .int (Int32.ofInt (p + 1))), (3, .int (Int32.ofInt x)), (2, .int (Int32.ofInt (F 351 p.toNat))), (0, .ref 344)]) hm_171 rfl rfl (Nat.le_of_ble_eq_true rfl) rfl rfl ?_
          refine fl_goto hm_171 rfl ?_
          have b28_ : 0 ≤ F2 344 36 ∧ F2 344 36 ≤ 216 := gi_g hg_F2 rfl
          have b29_ : 0 ≤ F1 344 36 ∧ F1 344 36 ≤ 216 := gi_g hg_F1 rfl
          exact fl_R_sub (lv' := [(1, .int (Int32.ofInt (p + 1))), (0, .ref 344)]) rfl rfl (ih7_ _ (by omega) (p + 1) F2 rfl hg_F2 (fs_tr hf_F1 hf_F2 rfl) (⟨by omega, by omega⟩) (by rw [show 36 * (p + 1).toNat = 36 * p.toNat + 36 by omega, gf_r1 (t := (ps.getD p.toNat [])) (m := x) rfl (by omega) (by omega)]; exact hf2) (by rw [show 36 * (p + 1).toNat = 36 * p.toNat + 36 by omega]; exact fnr_sk hn2 (gf_r1 (t := (ps.getD p.toNat [])) (m := x) rfl (by omega) (by omega))))
        refine fl_iconst hm_171 rfl ?_
        refine ga_istore (lv2 := [(4, .int (Int32.ofInt 0)), (3, .int (Int32.ofInt x)), (2, .int (Int32.ofInt (F 351 p.toNat))), (1, .int (Int32.ofInt p)), (0, .ref 344)]) hm_171 rfl (Nat.le_of_ble_eq_true rfl) rfl ?_
        have L31_ : ∀ (n30_ : Nat) (y : Int) (F3 : fl_N), (6 - y : Int).toNat = n30_ → (gi F3) → (fs [(344, 344, 36, 36), (366, 366, 0, 100000)] F2 F3) → (0 ≤ y ∧ y ≤ 6) → ((F 351 p.toNat < 2 ∧ y ≤ 1) ∨ (2 ≤ F 351 p.toNat ∧ y ≤ F 344 33)) → (F3 344 36 = (nfc ps tl (36 * p.toNat + 6 * x.toNat + y.toNat) : Int)) → (fnr F3 366 ps tl (36 * p.toNat + 6 * x.toNat + y.toNat)) → fl_R xi_ms 171 fr lo 43 [(4, .int (Int32.ofInt y)), (3, .int (Int32.ofInt x)), (2, .int (Int32.ofInt (F 351 p.toNat))), (1, .int (Int32.ofInt p)), (0, .ref 344)] [] (fl_H sh_T G F3 ++ X) (pq_171 G F X ps tl) := by
          intro n30_
          induction n30_ using Nat.strongRecOn with
          | ind n30_ ih32_ =>
          intro y F3 hn33_ hg_F3 hf_F3 hy hyb hf3 hn3
          have g34_ : fs [(344, 344, 36, 36), (366, 366, 0, 100000)] F F3 := fs_tr g23_ hf_F3 rfl
          have hfq := nfc_q ps tl (36 * p.toNat + 6 * x.toNat + y.toNat)
          refine ga_iload (z := y) hm_171 rfl rfl ?_
          refine ga_iload_n (z := F 351 p.toNat) hm_171 rfl rfl ?_
          refine fl_iconst hm_171 rfl ?_
          refine fl_icmp_le (a := F 351 p.toNat) (b := 1) hm_171 rfl ⟨by omega, by omega⟩ ⟨by omega, by omega⟩ (fun h35_ => ?_) (fun h36_ => ?_)
          ·
            refine fl_iconst hm_171 rfl ?_
            refine fl_icmp_ge (a := y) (b := 1) hm_171 rfl ⟨by omega, by omega⟩ ⟨by omega, by omega⟩ (fun h37_ => ?_) (fun h38_ => ?_)
            ·
              refine ga_inc (a := x) (c := x + 1) (lv2 := [(3, .int (Int32.ofInt (x + 1))), (4, .int (Int32.ofInt y)), (2, .int (Int32.ofInt (F 351 p.toNat))), (1, .int (Int32.ofInt p)), (0, .ref 344)]) hm_171 rfl rfl (Nat.le_of_ble_eq_true rfl) rfl rfl ?_
              refine fl_goto hm_171 rfl ?_
              have b39_ : 0 ≤ F 344 33 ∧ F 344 33 ≤ 6 := gi_g hgi rfl
              have b40_ : 0 ≤ F3 344 36 ∧ F3 344 36 ≤ 216 := gi_g hg_F3 rfl
              have b41_ : 0 ≤ F2 344 36 ∧ F2 344 36 ≤ 216 := gi_g hg_F2 rfl
              exact fl_R_sub (lv' := [(3, .int (Int32.ofInt (x + 1))), (2, .int (Int32.ofInt (F 351 p.toNat))), (1, .int (Int32.ofInt p)), (0, .ref 344)]) rfl rfl (ih21_ _ (by omega) (x + 1) F3 rfl hg_F3 (fs_tr hf_F2 hf_F3 rfl) (⟨by omega, by omega⟩) (by omega) (by rw [gf_r2 (t := (ps.getD p.toNat [])) (m := y) rfl (by omega) (by omega) (by omega)]; exact hf3) (fnr_sk hn3 (gf_r2 (t := (ps.getD p.toNat [])) (m := y) rfl (by omega) (by omega) (by omega))))
            refine ga_iload_n (z := F 351 p.toNat) hm_171 rfl rfl ?_
            refine fl_iconst hm_171 rfl ?_
            refine fl_icmp_lt (a := F 351 p.toNat) (b := 1) hm_171 rfl ⟨by omega, by omega⟩ ⟨by omega, by omega⟩ (fun h42_ => ?_) (fun h43_ => ?_)
            ·
              refine ga_iload_n (z := F 351 p.toNat) hm_171 rfl rfl ?_
              refine fl_iconst hm_171 rfl ?_
              refine fl_icmp_lt (a := F 351 p.toNat) (b := 2) hm_171 rfl ⟨by omega, by omega⟩ ⟨by omega, by omega⟩ (fun h44_ => ?_) (fun h45_ => ?_)
              ·
                refine fl_iconst hm_171 rfl ?_
                refine fl_goto hm_171 rfl ?_
                refine ga_istore (lv2 := [(5, .int (Int32.ofInt 1)), (4, .int (Int32.ofInt y)), (3, .int (Int32.ofInt x)), (2, .int (Int32.ofInt (F 351 p.toNat))), (1, .int (Int32.ofInt p)), (0, .ref 344)]) hm_171 rfl (Nat.le_of_ble_eq_true rfl) rfl ?_
                refine ga_aload_n (v := .ref 344) hm_171 rfl rfl rfl ?_
                refine ga_getr (b := 366) hm_171 rfl sc_344 rfl ?_
                refine fl_bipush hm_171 rfl rfl ?_
                refine ga_iload_n (z := p) hm_171 rfl rfl ?_
                refine ga_imul (a := 36) (b := p) (c := 36 * p) hm_171 rfl (by omega) ?_
                refine fl_bipush hm_171 rfl rfl ?_
                refine ga_iload_n (z := x) hm_171 rfl rfl ?_
                refine ga_imul (a := 6) (b := x) (c := 6 * x) hm_171 rfl (by omega) ?_
                refine ga_iadd (a := 36 * p) (b := 6 * x) (c := 36 * p + 6 * x) hm_171 rfl (by omega) ?_
                refine ga_iload (z := y) hm_171 rfl rfl ?_
                refine ga_iadd (a := 36 * p + 6 * x) (b := y) (c := 36 * p + 6 * x + y) hm_171 rfl (by omega) ?_
                refine ga_iload (z := 1) hm_171 rfl rfl ?_
                refine fl_if_eq hm_171 rfl ⟨by omega, by omega⟩ (fun h => absurd h (by omega)) (fun _ => ?_)
                refine ga_aload_n (v := .ref 344) hm_171 rfl rfl rfl ?_
                have b46_ : 0 ≤ F3 344 36 ∧ F3 344 36 ≤ 216 := gi_g hg_F3 rfl
                refine ga_geti (z := F3 344 36) hm_171 rfl sc_344 rfl (rfl) ?_
                refine fl_goto hm_171 rfl ?_
                refine fl_iast (z := 36 * p + 6 * x + y) (v := F3 344 36) hm_171 rfl sc_366 (by omega) (by omega) (by omega) ?_
                refine ga_aload_n (v := .ref 344) hm_171 rfl rfl rfl ?_
                refine ga_dup hm_171 rfl rfl ?_
                refine ga_geti (z := F3 344 36) hm_171 rfl sc_344 rfl (fl_u_ne (by first | exact nc_ rfl | decide | omega)) ?_
                refine ga_iload (z := 1) hm_171 rfl rfl ?_
                refine fl_if_eq hm_171 rfl ⟨by omega, by omega⟩ (fun h => absurd h (by omega)) (fun _ => ?_)
                refine fl_iconst hm_171 rfl ?_
                refine fl_goto hm_171 rfl ?_
                refine ga_iadd (a := F3 344 36) (b := 1) (c := F3 344 36 + 1) hm_171 rfl (by omega) ?_
                refine ga_puti (z := F3 344 36 + 1) hm_171 rfl sc_344 rfl rfl ?_
                refine ga_inc (a := y) (c := y + 1) (lv2 := [(4, .int (Int32.ofInt (y + 1))), (5, .int (Int32.ofInt 1)), (3, .int (Int32.ofInt x)), (2, .int (Int32.ofInt (F 351 p.toNat))), (1, .int (Int32.ofInt p)), (0, .ref 344)]) hm_171 rfl rfl (Nat.le_of_ble_eq_true rfl) rfl rfl ?_
                refine fl_goto hm_171 rfl ?_
                obtain ⟨F47_, q48_⟩ : ∃ Fq_, Fq_ = (fl_u (fl_u F3 366 (36 * p + 6 * x + y).toNat (F3 344 36)) 344 36 (F3 344 36 + 1)) := ⟨_, rfl⟩
                rw [← q48_]
                have g49_ : gi F47_ := by rw [q48_]; exact gi_u (gi_u (hg_F3) rfl (by omega) (by omega)) rfl (by omega) (by omega)
                have g50_ : fs [(344, 344, 36, 36), (366, 366, 0, 100000)] F F47_ := by rw [q48_]; exact fs_u (fs_u (g34_) (fs_z (fs_y (by omega)))) rfl
                have b51_ : 0 ≤ F 344 33 ∧ F 344 33 ≤ 6 := gi_g hgi rfl
                have e52_ : F47_ 344 36 = F3 344 36 + 1 := by rw [q48_]; exact fl_u_eq
                have e53_ : F47_ 366 (36 * p + 6 * x + y).toNat = F3 344 36 := by rw [q48_]; exact (fl_u_ne (by first | exact nc_ rfl | decide | omega)).trans (fl_u_eq)
                exact fl_R_sub (lv' := [(4, .int (Int32.ofInt (y + 1))), (3, .int (Int32.ofInt x)), (2, .int (Int32.ofInt (F 351 p.toNat))), (1, .int (Int32.ofInt p)), (0, .ref 344)]) rfl rfl (ih32_ _ (by omega) (y + 1) F47_ rfl g49_ (by rw [q48_]; exact fs_u (fs_u (hf_F3) (fs_z (fs_y (by omega)))) rfl) (⟨by omega, by omega⟩) (by omega) (by rw [show 36 * p.toNat + 6 * x.toNat + (y + 1).toNat = 36 * p.toNat + 6 * x.toNat + y.toNat + 1 by omega]; have h9_ := nfc_y (gf_y (ps := ps) (tl := tl) (p := p.toNat) (f1 := x) (f2 := y) (t := (ps.getD p.toNat [])) (by omega) rfl (by omega) (by omega) (by omega) (by omega)); omega) (by rw [show 36 * p.toNat + 6 * x.toNat + (y + 1).toNat = 36 * p.toNat + 6 * x.toNat + y.toNat + 1 by omega]; exact fnr_y hn3 (fun h9_ => by rw [show 36 * p.toNat + 6 * x.toNat + y.toNat = (36 * p + 6 * x + y).toNat by omega]; exact Eq.trans (e53_) (by rw [show (36 * p + 6 * x + y).toNat = 36 * p.toNat + 6 * x.toNat + y.toNat by omega]; exact hf3)) (fun j hj => (show F47_ 366 j = F3 366 j from (by rw [q48_]; exact (fl_u_ne (by first | exact nc_ rfl | decide | omega)).trans ((fl_u_ne (by first | exact nc_ rfl | decide | omega))))))))
              exfalso; omega
            exfalso; omega
          exfalso; omega
        have b54_ : 0 ≤ F 344 33 ∧ F 344 33 ≤ 6 := gi_g hgi rfl
        have b55_ : 0 ≤ F2 344 36 ∧ F2 344 36 ≤ 216 := gi_g hg_F2 rfl
        exact L31_ _ (0) F2 rfl hg_F2 fs_refl (⟨by omega, by omega⟩) (by omega) (by simpa using hf2) (by simpa using hn2)
      refine ga_aload_n (v := .ref 344) hm_171 rfl rfl rfl ?_
      have e56_ : F1_ 344 33 = F 344 33 := by rw [q2_]; exact fl_u_ne (by first | exact nc_ rfl | decide | omega)
      have e57_ : F1 344 33 = F 344 33 := (hf_F1 344 33 rfl).trans (e56_)
      have e58_ : F2 344 33 = F 344 33 := (hf_F2 344 33 rfl).trans (e57_)
      have b59_ : 0 ≤ F 344 33 ∧ F 344 33 ≤ 6 := gi_g hgi rfl
      refine ga_geti (z := F 344 33) hm_171 rfl sc_344 rfl (e58_) ?_
      refine fl_goto hm_171 rfl ?_
      refine fl_icmp_ge (a := x) (b := F 344 33) hm_171 rfl ⟨by omega, by omega⟩ ⟨by omega, by omega⟩ (fun h60_ => ?_) (fun h61_ => ?_)
      ·
        refine ga_inc (a := p) (c := p + 1) (lv2 := [(1, .int (Int32.ofInt (p + 1))), (3, .int (Int32.ofInt x)), (2, .int (Int32.ofInt (F 351 p.toNat))), (0, .ref 344)]) hm_171 rfl rfl (Nat.le_of_ble_eq_true rfl) rfl rfl ?_
        refine fl_goto hm_171 rfl ?_
        have b62_ : 0 ≤ F2 344 36 ∧ F2 344 36 ≤ 216 := gi_g hg_F2 rfl
        have b63_ : 0 ≤ F1 344 36 ∧ F1 344 36 ≤ 216 := gi_g hg_F1 rfl
        exact fl_R_sub (lv' := [(1, .int (Int32.ofInt (p + 1))), (0, .ref 344)]) rfl rfl (ih7_ _ (by omega) (p + 1) F2 rfl hg_F2 (fs_tr hf_F1 hf_F2 rfl) (⟨by omega, by omega⟩) (by rw [show 36 * (p + 1).toNat = 36 * p.toNat + 36 by omega, gf_r1 (t := (ps.getD p.toNat [])) (m := x) rfl (by omega) (by omega)]; exact hf2) (by rw [show 36 * (p + 1).toNat = 36 * p.toNat + 36 by omega]; exact fnr_sk hn2 (gf_r1 (t := (ps.getD p.toNat [])) (m := x) rfl (by omega) (by omega))))
      refine fl_iconst hm_171 rfl ?_
      refine ga_istore (lv2 := [(4, .int (Int32.ofInt 0)), (3, .int (Int32.ofInt x)), (2, .int (Int32.ofInt (F 351 p.toNat))), (1, .int (Int32.ofInt p)), (0, .ref 344)]) hm_171 rfl (Nat.le_of_ble_eq_true rfl) rfl ?_
      have L65_ : ∀ (n64_ : Nat) (y : Int) (F3 : fl_N), (6 - y : Int).toNat = n64_ → (gi F3) → (fs [(344, 344, 36, 36), (366, 366, 0, 100000)] F2 F3) → (0 ≤ y ∧ y ≤ 6) → ((F 351 p.toNat < 2 ∧ y ≤ 1) ∨ (2 ≤ F 351 p.toNat ∧ y ≤ F 344 33)) → (F3 344 36 = (nfc ps tl (36 * p.toNat + 6 * x.toNat + y.toNat) : Int)) → (fnr F3 366 ps tl (36 * p.toNat + 6 * x.toNat + y.toNat)) → fl_R xi_ms 171 fr lo 43 [(4, .int (Int32.ofInt y)), (3, .int (Int32.ofInt x)), (2, .int (Int32.ofInt (F 351 p.toNat))), (1, .int (Int32.ofInt p)), (0, .ref 344)] [] (fl_H sh_T G F3 ++ X) (pq_171 G F X ps tl) := by
        intro n64_
        induction n64_ using Nat.strongRecOn with
        | ind n64_ ih66_ =>
        intro y F3 hn67_ hg_F3 hf_F3 hy hyb hf3 hn3
        have g68_ : fs [(344, 344, 36, 36), (366, 366, 0, 100000)] F F3 := fs_tr g23_ hf_F3 rfl
        have hfq := nfc_q ps tl (36 * p.toNat + 6 * x.toNat + y.toNat)
        refine ga_iload (z := y) hm_171 rfl rfl ?_
        refine ga_iload_n (z := F 351 p.toNat) hm_171 rfl rfl ?_
        refine fl_iconst hm_171 rfl ?_
        refine fl_icmp_le (a := F 351 p.toNat) (b := 1) hm_171 rfl ⟨by omega, by omega⟩ ⟨by omega, by omega⟩ (fun h69_ => ?_) (fun h70_ => ?_)
        ·
          refine fl_iconst hm_171 rfl ?_
          refine fl_icmp_ge (a := y) (b := 1) hm_171 rfl ⟨by omega, by omega⟩ ⟨by omega, by omega⟩ (fun h71_ => ?_) (fun h72_ => ?_)
          ·
            refine ga_inc (a := x) (c := x + 1) (lv2 := [(3, .int (Int32.ofInt (x + 1))), (4, .int (Int32.ofInt y)), (2, .int (Int32.ofInt (F 351 p.toNat))), (1, .int (Int32.ofInt p)), (0, .ref 344)]) hm_171 rfl rfl (Nat.le_of_ble_eq_true rfl) rfl rfl ?_
            refine fl_goto hm_171 rfl ?_
            have b73_ : 0 ≤ F3 344 36 ∧ F3 344 36 ≤ 216 := gi_g hg_F3 rfl
            have b74_ : 0 ≤ F2 344 36 ∧ F2 344 36 ≤ 216 := gi_g hg_F2 rfl
            exact fl_R_sub (lv' := [(3, .int (Int32.ofInt (x + 1))), (2, .int (Int32.ofInt (F 351 p.toNat))), (1, .int (Int32.ofInt p)), (0, .ref 344)]) rfl rfl (ih21_ _ (by omega) (x + 1) F3 rfl hg_F3 (fs_tr hf_F2 hf_F3 rfl) (⟨by omega, by omega⟩) (by omega) (by rw [gf_r2 (t := (ps.getD p.toNat [])) (m := y) rfl (by omega) (by omega) (by omega)]; exact hf3) (fnr_sk hn3 (gf_r2 (t := (ps.getD p.toNat [])) (m := y) rfl (by omega) (by omega) (by omega))))
          refine ga_iload_n (z := F 351 p.toNat) hm_171 rfl rfl ?_
          refine fl_iconst hm_171 rfl ?_
          refine fl_icmp_lt (a := F 351 p.toNat) (b := 1) hm_171 rfl ⟨by omega, by omega⟩ ⟨by omega, by omega⟩ (fun h75_ => ?_) (fun h76_ => ?_)
          · exfalso; omega
          refine ga_aload_n (v := .ref 344) hm_171 rfl rfl rfl ?_
          refine ga_iload_n (z := x) hm_171 rfl rfl ?_
          refine ga_aload_n (v := .ref 344) hm_171 rfl rfl rfl ?_
          refine ga_getr (b := 352) hm_171 rfl sc_344 rfl ?_
          refine fl_iconst hm_171 rfl ?_
          refine ga_iload_n (z := p) hm_171 rfl rfl ?_
          refine ga_imul (a := 2) (b := p) (c := 2 * p) hm_171 rfl (by omega) ?_
          have e77_ : F1_ 352 (2 * p).toNat = F 352 (2 * p).toNat := by rw [q2_]; exact fl_u_ne (by first | exact nc_ rfl | decide | omega)
          have e78_ : F1 352 (2 * p).toNat = F 352 (2 * p).toNat := (hf_F1 352 (2 * p).toNat (by first | exact fs_c rfl | exact (fs_n (by omega) (fs_n (by omega) rfl)))).trans (e77_)
          have e79_ : F2 352 (2 * p).toNat = F 352 (2 * p).toNat := (hf_F2 352 (2 * p).toNat (by first | exact fs_c rfl | exact (fs_n (by omega) (fs_n (by omega) rfl)))).trans (e78_)
          have e80_ : F3 352 (2 * p).toNat = F 352 (2 * p).toNat := (hf_F3 352 (2 * p).toNat (by first | exact fs_c rfl | exact (fs_n (by omega) (fs_n (by omega) rfl)))).trans (e79_)
          have b81_ : 0 ≤ F 352 (2 * p).toNat ∧ F 352 (2 * p).toNat ≤ 4 := gi_g hgi rfl
          refine ga_iald (z := 2 * p) (w := F 352 (2 * p).toNat) hm_171 rfl sc_352 (by omega) (by omega) (by omega) (e80_) ?_
          refine gIi (nY := 3) (F := 0) (L := 0) (As := [.int (Int32.ofInt x), .int (Int32.ofInt (F 352 (2 * p).toNat))]) (b := 344) (rest := []) hm_171 rfl hm_164 rfl rfl (fl_ob sc_344) rfl rfl rfl rfl rfl (by omega) (by omega) ?_
          intro f82_ l83_ h84_ h85_
          show fl_R xi_ms 164 f82_ l83_ 0 [(0, .ref 344), (1, .int (Int32.ofInt x)), (2, .int (Int32.ofInt (F 352 (2 * p).toNat)))] [] _ _
          refine ga_iload_n (z := F 352 (2 * p).toNat) hm_164 rfl rfl ?_
          refine fl_if_eq (a := F 352 (2 * p).toNat) hm_164 rfl ⟨by omega, by omega⟩ (fun h86_ => ?_) (fun h87_ => ?_)
          ·
            refine fl_iconst hm_164 rfl ?_
            refine fl_goto hm_164 rfl ?_
            refine gr_i hm_164 rfl rfl (ga_nb (by omega)) ?_
            clear h84_ h85_ f82_ l83_
            refine fl_if_eq hm_171 rfl ⟨by omega, by omega⟩ (fun h => absurd h (by omega)) (fun _ => ?_)
            refine ga_iload_n (z := F 351 p.toNat) hm_171 rfl rfl ?_
            refine fl_iconst hm_171 rfl ?_
            refine fl_icmp_lt (a := F 351 p.toNat) (b := 2) hm_171 rfl ⟨by omega, by omega⟩ ⟨by omega, by omega⟩ (fun h88_ => ?_) (fun h89_ => ?_)
            ·
              refine fl_iconst hm_171 rfl ?_
              refine fl_goto hm_171 rfl ?_
              refine ga_istore (lv2 := [(5, .int (Int32.ofInt 1)), (4, .int (Int32.ofInt y)), (3, .int (Int32.ofInt x)), (2, .int (Int32.ofInt (F 351 p.toNat))), (1, .int (Int32.ofInt p)), (0, .ref 344)]) hm_171 rfl (Nat.le_of_ble_eq_true rfl) rfl ?_
              refine ga_aload_n (v := .ref 344) hm_171 rfl rfl rfl ?_
              refine ga_getr (b := 366) hm_171 rfl sc_344 rfl ?_
              refine fl_bipush hm_171 rfl rfl ?_
              refine ga_iload_n (z := p) hm_171 rfl rfl ?_
              refine ga_imul (a := 36) (b := p) (c := 36 * p) hm_171 rfl (by omega) ?_
              refine fl_bipush hm_171 rfl rfl ?_
              refine ga_iload_n (z := x) hm_171 rfl rfl ?_
              refine ga_imul (a := 6) (b := x) (c := 6 * x) hm_171 rfl (by omega) ?_
              refine ga_iadd (a := 36 * p) (b := 6 * x) (c := 36 * p + 6 * x) hm_171 rfl (by omega) ?_
              refine ga_iload (z := y) hm_171 rfl rfl ?_
              refine ga_iadd (a := 36 * p + 6 * x) (b := y) (c := 36 * p + 6 * x + y) hm_171 rfl (by omega) ?_
              refine ga_iload (z := 1) hm_171 rfl rfl ?_
              refine fl_if_eq hm_171 rfl ⟨by omega, by omega⟩ (fun h => absurd h (by omega)) (fun _ => ?_)
              refine ga_aload_n (v := .ref 344) hm_171 rfl rfl rfl ?_
              have b90_ : 0 ≤ F3 344 36 ∧ F3 344 36 ≤ 216 := gi_g hg_F3 rfl
              refine ga_geti (z := F3 344 36) hm_171 rfl sc_344 rfl (rfl) ?_
              refine fl_goto hm_171 rfl ?_
              refine fl_iast (z := 36 * p + 6 * x + y) (v := F3 344 36) hm_171 rfl sc_366 (by omega) (by omega) (by omega) ?_
              refine ga_aload_n (v := .ref 344) hm_171 rfl rfl rfl ?_
              refine ga_dup hm_171 rfl rfl ?_
              refine ga_geti (z := F3 344 36) hm_171 rfl sc_344 rfl (fl_u_ne (by first | exact nc_ rfl | decide | omega)) ?_
              refine ga_iload (z := 1) hm_171 rfl rfl ?_
              refine fl_if_eq hm_171 rfl ⟨by omega, by omega⟩ (fun h => absurd h (by omega)) (fun _ => ?_)
              refine fl_iconst hm_171 rfl ?_
              refine fl_goto hm_171 rfl ?_
              refine ga_iadd (a := F3 344 36) (b := 1) (c := F3 344 36 + 1) hm_171 rfl (by omega) ?_
              refine ga_puti (z := F3 344 36 + 1) hm_171 rfl sc_344 rfl rfl ?_
              refine ga_inc (a := y) (c := y + 1) (lv2 := [(4, .int (Int32.ofInt (y + 1))), (5, .int (Int32.ofInt 1)), (3, .int (Int32.ofInt x)), (2, .int (Int32.ofInt (F 351 p.toNat))), (1, .int (Int32.ofInt p)), (0, .ref 344)]) hm_171 rfl rfl (Nat.le_of_ble_eq_true rfl) rfl rfl ?_
              refine fl_goto hm_171 rfl ?_
              obtain ⟨F91_, q92_⟩ : ∃ Fq_, Fq_ = (fl_u (fl_u F3 366 (36 * p + 6 * x + y).toNat (F3 344 36)) 344 36 (F3 344 36 + 1)) := ⟨_, rfl⟩
              rw [← q92_]
              have g93_ : gi F91_ := by rw [q92_]; exact gi_u (gi_u (hg_F3) rfl (by omega) (by omega)) rfl (by omega) (by omega)
              have g94_ : fs [(344, 344, 36, 36), (366, 366, 0, 100000)] F F91_ := by rw [q92_]; exact fs_u (fs_u (g68_) (fs_z (fs_y (by omega)))) rfl
              have e95_ : F91_ 344 36 = F3 344 36 + 1 := by rw [q92_]; exact fl_u_eq
              have e96_ : F91_ 366 (36 * p + 6 * x + y).toNat = F3 344 36 := by rw [q92_]; exact (fl_u_ne (by first | exact nc_ rfl | decide | omega)).trans (fl_u_eq)
              exact fl_R_sub (lv' := [(4, .int (Int32.ofInt (y + 1))), (3, .int (Int32.ofInt x)), (2, .int (Int32.ofInt (F 351 p.toNat))), (1, .int (Int32.ofInt p)), (0, .ref 344)]) rfl rfl (ih66_ _ (by omega) (y + 1) F91_ rfl g93_ (by rw [q92_]; exact fs_u (fs_u (hf_F3) (fs_z (fs_y (by omega)))) rfl) (⟨by omega, by omega⟩) (by omega) (by rw [show 36 * p.toNat + 6 * x.toNat + (y + 1).toNat = 36 * p.toNat + 6 * x.toNat + y.toNat + 1 by omega]; have hq0_ := hg0 (by omega); have hx0_ := (show F 365 x.toNat = tl.getD x.toNat 0 + 1 from by have h := rty_get hob.2 (j := x.toNat) (by omega); rwa [Nat.zero_add] at h); have h9_ := nfc_y (gf_y (ps := ps) (tl := tl) (p := p.toNat) (f1 := x) (f2 := y) (t := (ps.getD p.toNat [])) (by omega) rfl (by omega) (by omega) (by omega) (by omega)); omega) (by rw [show 36 * p.toNat + 6 * x.toNat + (y + 1).toNat = 36 * p.toNat + 6 * x.toNat + y.toNat + 1 by omega]; exact fnr_y hn3 (fun h9_ => by rw [show 36 * p.toNat + 6 * x.toNat + y.toNat = (36 * p + 6 * x + y).toNat by omega]; exact Eq.trans (e96_) (by rw [show (36 * p + 6 * x + y).toNat = 36 * p.toNat + 6 * x.toNat + y.toNat by omega]; exact hf3)) (fun j hj => (show F91_ 366 j = F3 366 j from (by rw [q92_]; exact (fl_u_ne (by first | exact nc_ rfl | decide | omega)).trans ((fl_u_ne (by first | exact nc_ rfl | decide | omega))))))))
            exfalso; omega
          refine ga_aload_n (v := .ref 344) hm_164 rfl rfl rfl ?_
          refine ga_getr (b := 365) hm_164 rfl sc_344 rfl ?_
          refine ga_iload_n (z := x) hm_164 rfl rfl ?_
          have e97_ : F1_ 365 x.toNat = F 365 x.toNat := by rw [q2_]; exact fl_u_ne (by first | exact nc_ rfl | decide | omega)
          have e98_ : F1 365 x.toNat = F 365 x.toNat := (hf_F1 365 x.toNat (by first | exact fs_c rfl | exact (fs_n (by omega) (fs_n (by omega) rfl)))).trans (e97_)
          have e99_ : F2 365 x.toNat = F 365 x.toNat := (hf_F2 365 x.toNat (by first | exact fs_c rfl | exact (fs_n (by omega) (fs_n (by omega) rfl)))).trans (e98_)
          have e100_ : F3 365 x.toNat = F 365 x.toNat := (hf_F3 365 x.toNat (by first | exact fs_c rfl | exact (fs_n (by omega) (fs_n (by omega) rfl)))).trans (e99_)
          have b101_ : 0 ≤ F 365 x.toNat ∧ F 365 x.toNat ≤ 4 := gi_g hgi rfl
          refine ga_iald (z := x) (w := F 365 x.toNat) hm_164 rfl sc_365 (by omega) (by omega) (by omega) (e100_) ?_
          refine ga_iload_n (z := F 352 (2 * p).toNat) hm_164 rfl rfl ?_
          refine fx_icmp_ne (a := F 365 x.toNat) (b := F 352 (2 * p).toNat) hm_164 rfl ⟨by omega, by omega⟩ ⟨by omega, by omega⟩ (fun h102_ => ?_) (fun h103_ => ?_)
          ·
            refine fl_iconst hm_164 rfl ?_
            refine gr_i hm_164 rfl rfl (ga_nb (by omega)) ?_
            clear h84_ h85_ f82_ l83_
            refine fl_if_eq hm_171 rfl ⟨by omega, by omega⟩ (fun _ => ?_) (fun h => absurd (by omega) h)
            refine fl_iconst hm_171 rfl ?_
            refine ga_istore (lv2 := [(5, .int (Int32.ofInt 0)), (4, .int (Int32.ofInt y)), (3, .int (Int32.ofInt x)), (2, .int (Int32.ofInt (F 351 p.toNat))), (1, .int (Int32.ofInt p)), (0, .ref 344)]) hm_171 rfl (Nat.le_of_ble_eq_true rfl) rfl ?_
            refine ga_aload_n (v := .ref 344) hm_171 rfl rfl rfl ?_
            refine ga_getr (b := 366) hm_171 rfl sc_344 rfl ?_
            refine fl_bipush hm_171 rfl rfl ?_
            refine ga_iload_n (z := p) hm_171 rfl rfl ?_
            refine ga_imul (a := 36) (b := p) (c := 36 * p) hm_171 rfl (by omega) ?_
            refine fl_bipush hm_171 rfl rfl ?_
            refine ga_iload_n (z := x) hm_171 rfl rfl ?_
            refine ga_imul (a := 6) (b := x) (c := 6 * x) hm_171 rfl (by omega) ?_
            refine ga_iadd (a := 36 * p) (b := 6 * x) (c := 36 * p + 6 * x) hm_171 rfl (by omega) ?_
            refine ga_iload (z := y) hm_171 rfl rfl ?_
            refine ga_iadd (a := 36 * p + 6 * x) (b := y) (c := 36 * p + 6 * x + y) hm_171 rfl (by omega) ?_
            refine ga_iload (z := 0) hm_171 rfl rfl ?_
            refine fl_if_eq hm_171 rfl ⟨by omega, by omega⟩ (fun _ => ?_) (fun h => absurd (by omega) h)
            refine fl_iconst hm_171 rfl ?_
            refine fl_iast (z := 36 * p + 6 * x + y) (v := 0) hm_171 rfl sc_366 (by omega) (by omega) (by omega) ?_
            refine ga_aload_n (v := .ref 344) hm_171 rfl rfl rfl ?_
            refine ga_dup hm_171 rfl rfl ?_
            have b104_ : 0 ≤ F3 344 36 ∧ F3 344 36 ≤ 216 := gi_g hg_F3 rfl
            refine ga_geti (z := F3 344 36) hm_171 rfl sc_344 rfl (fl_u_ne (by first | exact nc_ rfl | decide | omega)) ?_
            refine ga_iload (z := 0) hm_171 rfl rfl ?_
            refine fl_if_eq hm_171 rfl ⟨by omega, by omega⟩ (fun _ => ?_) (fun h => absurd (by omega) h)
            refine fl_iconst hm_171 rfl ?_
            refine ga_iadd (a := F3 344 36) (b := 0) (c := F3 344 36) hm_171 rfl (by omega) ?_
            refine ga_puti (z := F3 344 36) hm_171 rfl sc_344 rfl rfl ?_
            refine ga_inc (a := y) (c := y + 1) (lv2 := [(4, .int (Int32.ofInt (y + 1))), (5, .int (Int32.ofInt 0)), (3, .int (Int32.ofInt x)), (2, .int (Int32.ofInt (F 351 p.toNat))), (1, .int (Int32.ofInt p)), (0, .ref 344)]) hm_171 rfl rfl (Nat.le_of_ble_eq_true rfl) rfl rfl ?_
            refine fl_goto hm_171 rfl ?_
            obtain ⟨F105_, q106_⟩ : ∃ Fq_, Fq_ = (fl_u (fl_u F3 366 (36 * p + 6 * x + y).toNat 0) 344 36 (F3 344 36)) := ⟨_, rfl⟩
            rw [← q106_]
            have g107_ : gi F105_ := by rw [q106_]; exact gi_u (gi_u (hg_F3) rfl (by omega) (by omega)) rfl (by omega) (by omega)
            have g108_ : fs [(344, 344, 36, 36), (366, 366, 0, 100000)] F F105_ := by rw [q106_]; exact fs_u (fs_u (g68_) (fs_z (fs_y (by omega)))) rfl
            have e109_ : F105_ 344 36 = F3 344 36 := by rw [q106_]; exact fl_u_eq
            have e110_ : F105_ 366 (36 * p + 6 * x + y).toNat = 0 := by rw [q106_]; exact (fl_u_ne (by first | exact nc_ rfl | decide | omega)).trans (fl_u_eq)
            exact fl_R_sub (lv' := [(4, .int (Int32.ofInt (y + 1))), (3, .int (Int32.ofInt x)), (2, .int (Int32.ofInt (F 351 p.toNat))), (1, .int (Int32.ofInt p)), (0, .ref 344)]) rfl rfl (ih66_ _ (by omega) (y + 1) F105_ rfl g107_ (by rw [q106_]; exact fs_u (fs_u (hf_F3) (fs_z (fs_y (by omega)))) rfl) (⟨by omega, by omega⟩) (by omega) (by rw [show 36 * p.toNat + 6 * x.toNat + (y + 1).toNat = 36 * p.toNat + 6 * x.toNat + y.toNat + 1 by omega]; have hq0_ := hg0 (by omega); have hx0_ := (show F 365 x.toNat = tl.getD x.toNat 0 + 1 from by have h := rty_get hob.2 (j := x.toNat) (by omega); rwa [Nat.zero_add] at h); have h9_ := nfc_n (gf_n (ps := ps) (tl := tl) (p := p.toNat) (f1 := x) (f2 := y) (t := (ps.getD p.toNat [])) rfl (by omega) (by omega) (by omega)); omega) (by rw [show 36 * p.toNat + 6 * x.toNat + (y + 1).toNat = 36 * p.toNat + 6 * x.toNat + y.toNat + 1 by omega]; have hq0_ := hg0 (by omega); have hx0_ := (show F 365 x.toNat = tl.getD x.toNat 0 + 1 from by have h := rty_get hob.2 (j := x.toNat) (by omega); rwa [Nat.zero_add] at h); exact fnr_y hn3 (fun h9_ => by rw [(gf_n (ps := ps) (tl := tl) (p := p.toNat) (f1 := x) (f2 := y) (t := (ps.getD p.toNat [])) rfl (by omega) (by omega) (by omega))] at h9_; cases h9_) (fun j hj => (show F105_ 366 j = F3 366 j from (by rw [q106_]; exact (fl_u_ne (by first | exact nc_ rfl | decide | omega)).trans ((fl_u_ne (by first | exact nc_ rfl | decide | omega))))))))
          refine fl_iconst hm_164 rfl ?_
          refine fl_goto hm_164 rfl ?_
          refine gr_i hm_164 rfl rfl (ga_nb (by omega)) ?_
          clear h84_ h85_ f82_ l83_
          refine fl_if_eq hm_171 rfl ⟨by omega, by omega⟩ (fun h => absurd h (by omega)) (fun _ => ?_)
          refine ga_iload_n (z := F 351 p.toNat) hm_171 rfl rfl ?_
          refine fl_iconst hm_171 rfl ?_
          refine fl_icmp_lt (a := F 351 p.toNat) (b := 2) hm_171 rfl ⟨by omega, by omega⟩ ⟨by omega, by omega⟩ (fun h111_ => ?_) (fun h112_ => ?_)
          ·
            refine fl_iconst hm_171 rfl ?_
            refine fl_goto hm_171 rfl ?_
            refine ga_istore (lv2 := [(5, .int (Int32.ofInt 1)), (4, .int (Int32.ofInt y)), (3, .int (Int32.ofInt x)), (2, .int (Int32.ofInt (F 351 p.toNat))), (1, .int (Int32.ofInt p)), (0, .ref 344)]) hm_171 rfl (Nat.le_of_ble_eq_true rfl) rfl ?_
            refine ga_aload_n (v := .ref 344) hm_171 rfl rfl rfl ?_
            refine ga_getr (b := 366) hm_171 rfl sc_344 rfl ?_
            refine fl_bipush hm_171 rfl rfl ?_
            refine ga_iload_n (z := p) hm_171 rfl rfl ?_
            refine ga_imul (a := 36) (b := p) (c := 36 * p) hm_171 rfl (by omega) ?_
            refine fl_bipush hm_171 rfl rfl ?_
            refine ga_iload_n (z := x) hm_171 rfl rfl ?_
            refine ga_imul (a := 6) (b := x) (c := 6 * x) hm_171 rfl (by omega) ?_
            refine ga_iadd (a := 36 * p) (b := 6 * x) (c := 36 * p + 6 * x) hm_171 rfl (by omega) ?_
            refine ga_iload (z := y) hm_171 rfl rfl ?_
            refine ga_iadd (a := 36 * p + 6 * x) (b := y) (c := 36 * p + 6 * x + y) hm_171 rfl (by omega) ?_
            refine ga_iload (z := 1) hm_171 rfl rfl ?_
            refine fl_if_eq hm_171 rfl ⟨by omega, by omega⟩ (fun h => absurd h (by omega)) (fun _ => ?_)
            refine ga_aload_n (v := .ref 344) hm_171 rfl rfl rfl ?_
            have b113_ : 0 ≤ F3 344 36 ∧ F3 344 36 ≤ 216 := gi_g hg_F3 rfl
            refine ga_geti (z := F3 344 36) hm_171 rfl sc_344 rfl (rfl) ?_
            refine fl_goto hm_171 rfl ?_
            refine fl_iast (z := 36 * p + 6 * x + y) (v := F3 344 36) hm_171 rfl sc_366 (by omega) (by omega) (by omega) ?_
            refine ga_aload_n (v := .ref 344) hm_171 rfl rfl rfl ?_
            refine ga_dup hm_171 rfl rfl ?_
            refine ga_geti (z := F3 344 36) hm_171 rfl sc_344 rfl (fl_u_ne (by first | exact nc_ rfl | decide | omega)) ?_
            refine ga_iload (z := 1) hm_171 rfl rfl ?_
            refine fl_if_eq hm_171 rfl ⟨by omega, by omega⟩ (fun h => absurd h (by omega)) (fun _ => ?_)
            refine fl_iconst hm_171 rfl ?_
            refine fl_goto hm_171 rfl ?_
            refine ga_iadd (a := F3 344 36) (b := 1) (c := F3 344 36 + 1) hm_171 rfl (by omega) ?_
            refine ga_puti (z := F3 344 36 + 1) hm_171 rfl sc_344 rfl rfl ?_
            refine ga_inc (a := y) (c := y + 1) (lv2 := [(4, .int (Int32.ofInt (y + 1))), (5, .int (Int32.ofInt 1)), (3, .int (Int32.ofInt x)), (2, .int (Int32.ofInt (F 351 p.toNat))), (1, .int (Int32.ofInt p)), (0, .ref 344)]) hm_171 rfl rfl (Nat.le_of_ble_eq_true rfl) rfl rfl ?_
            refine fl_goto hm_171 rfl ?_
            obtain ⟨F114_, q115_⟩ : ∃ Fq_, Fq_ = (fl_u (fl_u F3 366 (36 * p + 6 * x + y).toNat (F3 344 36)) 344 36 (F3 344 36 + 1)) := ⟨_, rfl⟩
            rw [← q115_]
            have g116_ : gi F114_ := by rw [q115_]; exact gi_u (gi_u (hg_F3) rfl (by omega) (by omega)) rfl (by omega) (by omega)
            have g117_ : fs [(344, 344, 36, 36), (366, 366, 0, 100000)] F F114_ := by rw [q115_]; exact fs_u (fs_u (g68_) (fs_z (fs_y (by omega)))) rfl
            have e118_ : F114_ 344 36 = F3 344 36 + 1 := by rw [q115_]; exact fl_u_eq
            have e119_ : F114_ 366 (36 * p + 6 * x + y).toNat = F3 344 36 := by rw [q115_]; exact (fl_u_ne (by first | exact nc_ rfl | decide | omega)).trans (fl_u_eq)
            exact fl_R_sub (lv' := [(4, .int (Int32.ofInt (y + 1))), (3, .int (Int32.ofInt x)), (2, .int (Int32.ofInt (F 351 p.toNat))), (1, .int (Int32.ofInt p)), (0, .ref 344)]) rfl rfl (ih66_ _ (by omega) (y + 1) F114_ rfl g116_ (by rw [q115_]; exact fs_u (fs_u (hf_F3) (fs_z (fs_y (by omega)))) rfl) (⟨by omega, by omega⟩) (by omega) (by rw [show 36 * p.toNat + 6 * x.toNat + (y + 1).toNat = 36 * p.toNat + 6 * x.toNat + y.toNat + 1 by omega]; have hq0_ := hg0 (by omega); have hx0_ := (show F 365 x.toNat = tl.getD x.toNat 0 + 1 from by have h := rty_get hob.2 (j := x.toNat) (by omega); rwa [Nat.zero_add] at h); have h9_ := nfc_y (gf_y (ps := ps) (tl := tl) (p := p.toNat) (f1 := x) (f2 := y) (t := (ps.getD p.toNat [])) (by omega) rfl (by omega) (by omega) (by omega) (by omega)); omega) (by rw [show 36 * p.toNat + 6 * x.toNat + (y + 1).toNat = 36 * p.toNat + 6 * x.toNat + y.toNat + 1 by omega]; exact fnr_y hn3 (fun h9_ => by rw [show 36 * p.toNat + 6 * x.toNat + y.toNat = (36 * p + 6 * x + y).toNat by omega]; exact Eq.trans (e119_) (by rw [show (36 * p + 6 * x + y).toNat = 36 * p.toNat + 6 * x.toNat + y.toNat by omega]; exact hf3)) (fun j hj => (show F114_ 366 j = F3 366 j from (by rw [q115_]; exact (fl_u_ne (by first | exact nc_ rfl | decide | omega)).trans ((fl_u_ne (by first | exact nc_ rfl | decide | omega))))))))
          exfalso; omega
        refine ga_aload_n (v := .ref 344) hm_171 rfl rfl rfl ?_
        have e120_ : F3 344 33 = F 344 33 := (hf_F3 344 33 rfl).trans (e58_)
        refine ga_geti (z := F 344 33) hm_171 rfl sc_344 rfl (e120_) ?_
        refine fl_goto hm_171 rfl ?_
        refine fl_icmp_ge (a := y) (b := F 344 33) hm_171 rfl ⟨by omega, by omega⟩ ⟨by omega, by omega⟩ (fun h121_ => ?_) (fun h122_ => ?_)
        ·
          refine ga_inc (a := x) (c := x + 1) (lv2 := [(3, .int (Int32.ofInt (x + 1))), (4, .int (Int32.ofInt y)), (2, .int (Int32.ofInt (F 351 p.toNat))), (1, .int (Int32.ofInt p)), (0, .ref 344)]) hm_171 rfl rfl (Nat.le_of_ble_eq_true rfl) rfl rfl ?_
          refine fl_goto hm_171 rfl ?_
          have b123_ : 0 ≤ F3 344 36 ∧ F3 344 36 ≤ 216 := gi_g hg_F3 rfl
          have b124_ : 0 ≤ F2 344 36 ∧ F2 344 36 ≤ 216 := gi_g hg_F2 rfl
          exact fl_R_sub (lv' := [(3, .int (Int32.ofInt (x + 1))), (2, .int (Int32.ofInt (F 351 p.toNat))), (1, .int (Int32.ofInt p)), (0, .ref 344)]) rfl rfl (ih21_ _ (by omega) (x + 1) F3 rfl hg_F3 (fs_tr hf_F2 hf_F3 rfl) (⟨by omega, by omega⟩) (by omega) (by rw [gf_r2 (t := (ps.getD p.toNat [])) (m := y) rfl (by omega) (by omega) (by omega)]; exact hf3) (fnr_sk hn3 (gf_r2 (t := (ps.getD p.toNat [])) (m := y) rfl (by omega) (by omega) (by omega))))
        refine ga_iload_n (z := F 351 p.toNat) hm_171 rfl rfl ?_
        refine fl_iconst hm_171 rfl ?_
        refine fl_icmp_lt (a := F 351 p.toNat) (b := 1) hm_171 rfl ⟨by omega, by omega⟩ ⟨by omega, by omega⟩ (fun h125_ => ?_) (fun h126_ => ?_)
        · exfalso; omega
        refine ga_aload_n (v := .ref 344) hm_171 rfl rfl rfl ?_
        refine ga_iload_n (z := x) hm_171 rfl rfl ?_
        refine ga_aload_n (v := .ref 344) hm_171 rfl rfl rfl ?_
        refine ga_getr (b := 352) hm_171 rfl sc_344 rfl ?_
        refine fl_iconst hm_171 rfl ?_
        refine ga_iload_n (z := p) hm_171 rfl rfl ?_
        refine ga_imul (a := 2) (b := p) (c := 2 * p) hm_171 rfl (by omega) ?_
        have e127_ : F1_ 352 (2 * p).toNat = F 352 (2 * p).toNat := by rw [q2_]; exact fl_u_ne (by first | exact nc_ rfl | decide | omega)
        have e128_ : F1 352 (2 * p).toNat = F 352 (2 * p).toNat := (hf_F1 352 (2 * p).toNat (by first | exact fs_c rfl | exact (fs_n (by omega) (fs_n (by omega) rfl)))).trans (e127_)
        have e129_ : F2 352 (2 * p).toNat = F 352 (2 * p).toNat := (hf_F2 352 (2 * p).toNat (by first | exact fs_c rfl | exact (fs_n (by omega) (fs_n (by omega) rfl)))).trans (e128_)
        have e130_ : F3 352 (2 * p).toNat = F 352 (2 * p).toNat := (hf_F3 352 (2 * p).toNat (by first | exact fs_c rfl | exact (fs_n (by omega) (fs_n (by omega) rfl)))).trans (e129_)
        have b131_ : 0 ≤ F 352 (2 * p).toNat ∧ F 352 (2 * p).toNat ≤ 4 := gi_g hgi rfl
        refine ga_iald (z := 2 * p) (w := F 352 (2 * p).toNat) hm_171 rfl sc_352 (by omega) (by omega) (by omega) (e130_) ?_
        refine gIi (nY := 3) (F := 0) (L := 0) (As := [.int (Int32.ofInt x), .int (Int32.ofInt (F 352 (2 * p).toNat))]) (b := 344) (rest := []) hm_171 rfl hm_164 rfl rfl (fl_ob sc_344) rfl rfl rfl rfl rfl (by omega) (by omega) ?_
        intro f132_ l133_ h134_ h135_
        show fl_R xi_ms 164 f132_ l133_ 0 [(0, .ref 344), (1, .int (Int32.ofInt x)), (2, .int (Int32.ofInt (F 352 (2 * p).toNat)))] [] _ _
        refine ga_iload_n (z := F 352 (2 * p).toNat) hm_164 rfl rfl ?_
        refine fl_if_eq (a := F 352 (2 * p).toNat) hm_164 rfl ⟨by omega, by omega⟩ (fun h136_ => ?_) (fun h137_ => ?_)
        ·
          refine fl_iconst hm_164 rfl ?_
          refine fl_goto hm_164 rfl ?_
          refine gr_i hm_164 rfl rfl (ga_nb (by omega)) ?_
          clear h134_ h135_ f132_ l133_
          refine fl_if_eq hm_171 rfl ⟨by omega, by omega⟩ (fun h => absurd h (by omega)) (fun _ => ?_)
          refine ga_iload_n (z := F 351 p.toNat) hm_171 rfl rfl ?_
          refine fl_iconst hm_171 rfl ?_
          refine fl_icmp_lt (a := F 351 p.toNat) (b := 2) hm_171 rfl ⟨by omega, by omega⟩ ⟨by omega, by omega⟩ (fun h138_ => ?_) (fun h139_ => ?_)
          · exfalso; omega
          refine ga_aload_n (v := .ref 344) hm_171 rfl rfl rfl ?_
          refine ga_iload (z := y) hm_171 rfl rfl ?_
          refine ga_aload_n (v := .ref 344) hm_171 rfl rfl rfl ?_
          refine ga_getr (b := 352) hm_171 rfl sc_344 rfl ?_
          refine fl_iconst hm_171 rfl ?_
          refine ga_iload_n (z := p) hm_171 rfl rfl ?_
          refine ga_imul (a := 2) (b := p) (c := 2 * p) hm_171 rfl (by omega) ?_
          refine fl_iconst hm_171 rfl ?_
          refine ga_iadd (a := 2 * p) (b := 1) (c := 2 * p + 1) hm_171 rfl (by omega) ?_
          have e140_ : F1_ 352 (2 * p + 1).toNat = F 352 (2 * p + 1).toNat := by rw [q2_]; exact fl_u_ne (by first | exact nc_ rfl | decide | omega)
          have e141_ : F1 352 (2 * p + 1).toNat = F 352 (2 * p + 1).toNat := (hf_F1 352 (2 * p + 1).toNat (by first | exact fs_c rfl | exact (fs_n (by omega) (fs_n (by omega) rfl)))).trans (e140_)
          have e142_ : F2 352 (2 * p + 1).toNat = F 352 (2 * p + 1).toNat := (hf_F2 352 (2 * p + 1).toNat (by first | exact fs_c rfl | exact (fs_n (by omega) (fs_n (by omega) rfl)))).trans (e141_)
          have e143_ : F3 352 (2 * p + 1).toNat = F 352 (2 * p + 1).toNat := (hf_F3 352 (2 * p + 1).toNat (by first | exact fs_c rfl | exact (fs_n (by omega) (fs_n (by omega) rfl)))).trans (e142_)
          have b144_ : 0 ≤ F 352 (2 * p + 1).toNat ∧ F 352 (2 * p + 1).toNat ≤ 4 := gi_g hgi rfl
          refine ga_iald (z := 2 * p + 1) (w := F 352 (2 * p + 1).toNat) hm_171 rfl sc_352 (by omega) (by omega) (by omega) (e143_) ?_
          refine gIi (nY := 3) (F := 0) (L := 0) (As := [.int (Int32.ofInt y), .int (Int32.ofInt (F 352 (2 * p + 1).toNat))]) (b := 344) (rest := []) hm_171 rfl hm_164 rfl rfl (fl_ob sc_344) rfl rfl rfl rfl rfl (by omega) (by omega) ?_
          intro f145_ l146_ h147_ h148_
          show fl_R xi_ms 164 f145_ l146_ 0 [(0, .ref 344), (1, .int (Int32.ofInt y)), (2, .int (Int32.ofInt (F 352 (2 * p + 1).toNat)))] [] _ _
          refine ga_iload_n (z := F 352 (2 * p + 1).toNat) hm_164 rfl rfl ?_
          refine fl_if_eq (a := F 352 (2 * p + 1).toNat) hm_164 rfl ⟨by omega, by omega⟩ (fun h149_ => ?_) (fun h150_ => ?_)
          ·
            refine fl_iconst hm_164 rfl ?_
            refine fl_goto hm_164 rfl ?_
            refine gr_i hm_164 rfl rfl (ga_nb (by omega)) ?_
            clear h147_ h148_ f145_ l146_
            refine fl_if_eq hm_171 rfl ⟨by omega, by omega⟩ (fun h => absurd h (by omega)) (fun _ => ?_)
            refine fl_iconst hm_171 rfl ?_
            refine fl_goto hm_171 rfl ?_
            refine ga_istore (lv2 := [(5, .int (Int32.ofInt 1)), (4, .int (Int32.ofInt y)), (3, .int (Int32.ofInt x)), (2, .int (Int32.ofInt (F 351 p.toNat))), (1, .int (Int32.ofInt p)), (0, .ref 344)]) hm_171 rfl (Nat.le_of_ble_eq_true rfl) rfl ?_
            refine ga_aload_n (v := .ref 344) hm_171 rfl rfl rfl ?_
            refine ga_getr (b := 366) hm_171 rfl sc_344 rfl ?_
            refine fl_bipush hm_171 rfl rfl ?_
            refine ga_iload_n (z := p) hm_171 rfl rfl ?_
            refine ga_imul (a := 36) (b := p) (c := 36 * p) hm_171 rfl (by omega) ?_
            refine fl_bipush hm_171 rfl rfl ?_
            refine ga_iload_n (z := x) hm_171 rfl rfl ?_
            refine ga_imul (a := 6) (b := x) (c := 6 * x) hm_171 rfl (by omega) ?_
            refine ga_iadd (a := 36 * p) (b := 6 * x) (c := 36 * p + 6 * x) hm_171 rfl (by omega) ?_
            refine ga_iload (z := y) hm_171 rfl rfl ?_
            refine ga_iadd (a := 36 * p + 6 * x) (b := y) (c := 36 * p + 6 * x + y) hm_171 rfl (by omega) ?_
            refine ga_iload (z := 1) hm_171 rfl rfl ?_
            refine fl_if_eq hm_171 rfl ⟨by omega, by omega⟩ (fun h => absurd h (by omega)) (fun _ => ?_)
            refine ga_aload_n (v := .ref 344) hm_171 rfl rfl rfl ?_
            have b151_ : 0 ≤ F3 344 36 ∧ F3 344 36 ≤ 216 := gi_g hg_F3 rfl
            refine ga_geti (z := F3 344 36) hm_171 rfl sc_344 rfl (rfl) ?_
            refine fl_goto hm_171 rfl ?_
            refine fl_iast (z := 36 * p + 6 * x + y) (v := F3 344 36) hm_171 rfl sc_366 (by omega) (by omega) (by omega) ?_
            refine ga_aload_n (v := .ref 344) hm_171 rfl rfl rfl ?_
            refine ga_dup hm_171 rfl rfl ?_
            refine ga_geti (z := F3 344 36) hm_171 rfl sc_344 rfl (fl_u_ne (by first | exact nc_ rfl | decide | omega)) ?_
            refine ga_iload (z := 1) hm_171 rfl rfl ?_
            refine fl_if_eq hm_171 rfl ⟨by omega, by omega⟩ (fun h => absurd h (by omega)) (fun _ => ?_)
            refine fl_iconst hm_171 rfl ?_
            refine fl_goto hm_171 rfl ?_
            refine ga_iadd (a := F3 344 36) (b := 1) (c := F3 344 36 + 1) hm_171 rfl (by omega) ?_
            refine ga_puti (z := F3 344 36 + 1) hm_171 rfl sc_344 rfl rfl ?_
            refine ga_inc (a := y) (c := y + 1) (lv2 := [(4, .int (Int32.ofInt (y + 1))), (5, .int (Int32.ofInt 1)), (3, .int (Int32.ofInt x)), (2, .int (Int32.ofInt (F 351 p.toNat))), (1, .int (Int32.ofInt p)), (0, .ref 344)]) hm_171 rfl rfl (Nat.le_of_ble_eq_true rfl) rfl rfl ?_
            refine fl_goto hm_171 rfl ?_
            obtain ⟨F152_, q153_⟩ : ∃ Fq_, Fq_ = (fl_u (fl_u F3 366 (36 * p + 6 * x + y).toNat (F3 344 36)) 344 36 (F3 344 36 + 1)) := ⟨_, rfl⟩
            rw [← q153_]
            have g154_ : gi F152_ := by rw [q153_]; exact gi_u (gi_u (hg_F3) rfl (by omega) (by omega)) rfl (by omega) (by omega)
            have g155_ : fs [(344, 344, 36, 36), (366, 366, 0, 100000)] F F152_ := by rw [q153_]; exact fs_u (fs_u (g68_) (fs_z (fs_y (by omega)))) rfl
            have e156_ : F152_ 344 36 = F3 344 36 + 1 := by rw [q153_]; exact fl_u_eq
            have e157_ : F152_ 366 (36 * p + 6 * x + y).toNat = F3 344 36 := by rw [q153_]; exact (fl_u_ne (by first | exact nc_ rfl | decide | omega)).trans (fl_u_eq)
            exact fl_R_sub (lv' := [(4, .int (Int32.ofInt (y + 1))), (3, .int (Int32.ofInt x)), (2, .int (Int32.ofInt (F 351 p.toNat))), (1, .int (Int32.ofInt p)), (0, .ref 344)]) rfl rfl (ih66_ _ (by omega) (y + 1) F152_ rfl g154_ (by rw [q153_]; exact fs_u (fs_u (hf_F3) (fs_z (fs_y (by omega)))) rfl) (⟨by omega, by omega⟩) (by omega) (by rw [show 36 * p.toNat + 6 * x.toNat + (y + 1).toNat = 36 * p.toNat + 6 * x.toNat + y.toNat + 1 by omega]; have hq0_ := hg0 (by omega); have hx0_ := (show F 365 x.toNat = tl.getD x.toNat 0 + 1 from by have h := rty_get hob.2 (j := x.toNat) (by omega); rwa [Nat.zero_add] at h); have hq1_ := hg1 (by omega); have hy0_ := (show F 365 y.toNat = tl.getD y.toNat 0 + 1 from by have h := rty_get hob.2 (j := y.toNat) (by omega); rwa [Nat.zero_add] at h); have h9_ := nfc_y (gf_y (ps := ps) (tl := tl) (p := p.toNat) (f1 := x) (f2 := y) (t := (ps.getD p.toNat [])) (by omega) rfl (by omega) (by omega) (by omega) (by omega)); omega) (by rw [show 36 * p.toNat + 6 * x.toNat + (y + 1).toNat = 36 * p.toNat + 6 * x.toNat + y.toNat + 1 by omega]; exact fnr_y hn3 (fun h9_ => by rw [show 36 * p.toNat + 6 * x.toNat + y.toNat = (36 * p + 6 * x + y).toNat by omega]; exact Eq.trans (e157_) (by rw [show (36 * p + 6 * x + y).toNat = 36 * p.toNat + 6 * x.toNat + y.toNat by omega]; exact hf3)) (fun j hj => (show F152_ 366 j = F3 366 j from (by rw [q153_]; exact (fl_u_ne (by first | exact nc_ rfl | decide | omega)).trans ((fl_u_ne (by first | exact nc_ rfl | decide | omega))))))))
          refine ga_aload_n (v := .ref 344) hm_164 rfl rfl rfl ?_
          refine ga_getr (b := 365) hm_164 rfl sc_344 rfl ?_
          refine ga_iload_n (z := y) hm_164 rfl rfl ?_
          have e158_ : F1_ 365 y.toNat = F 365 y.toNat := by rw [q2_]; exact fl_u_ne (by first | exact nc_ rfl | decide | omega)
          have e159_ : F1 365 y.toNat = F 365 y.toNat := (hf_F1 365 y.toNat (by first | exact fs_c rfl | exact (fs_n (by omega) (fs_n (by omega) rfl)))).trans (e158_)
          have e160_ : F2 365 y.toNat = F 365 y.toNat := (hf_F2 365 y.toNat (by first | exact fs_c rfl | exact (fs_n (by omega) (fs_n (by omega) rfl)))).trans (e159_)
          have e161_ : F3 365 y.toNat = F 365 y.toNat := (hf_F3 365 y.toNat (by first | exact fs_c rfl | exact (fs_n (by omega) (fs_n (by omega) rfl)))).trans (e160_)
          have b162_ : 0 ≤ F 365 y.toNat ∧ F 365 y.toNat ≤ 4 := gi_g hgi rfl
          refine ga_iald (z := y) (w := F 365 y.toNat) hm_164 rfl sc_365 (by omega) (by omega) (by omega) (e161_) ?_
          refine ga_iload_n (z := F 352 (2 * p + 1).toNat) hm_164 rfl rfl ?_
          refine fx_icmp_ne (a := F 365 y.toNat) (b := F 352 (2 * p + 1).toNat) hm_164 rfl ⟨by omega, by omega⟩ ⟨by omega, by omega⟩ (fun h163_ => ?_) (fun h164_ => ?_)
          ·
            refine fl_iconst hm_164 rfl ?_
            refine gr_i hm_164 rfl rfl (ga_nb (by omega)) ?_
            clear h147_ h148_ f145_ l146_
            refine fl_if_eq hm_171 rfl ⟨by omega, by omega⟩ (fun _ => ?_) (fun h => absurd (by omega) h)
            refine fl_iconst hm_171 rfl ?_
            refine ga_istore (lv2 := [(5, .int (Int32.ofInt 0)), (4, .int (Int32.ofInt y)), (3, .int (Int32.ofInt x)), (2, .int (Int32.ofInt (F 351 p.toNat))), (1, .int (Int32.ofInt p)), (0, .ref 344)]) hm_171 rfl (Nat.le_of_ble_eq_true rfl) rfl ?_
            refine ga_aload_n (v := .ref 344) hm_171 rfl rfl rfl ?_
            refine ga_getr (b := 366) hm_171 rfl sc_344 rfl ?_
            refine fl_bipush hm_171 rfl rfl ?_
            refine ga_iload_n (z := p) hm_171 rfl rfl ?_
            refine ga_imul (a := 36) (b := p) (c := 36 * p) hm_171 rfl (by omega) ?_
            refine fl_bipush hm_171 rfl rfl ?_
            refine ga_iload_n (z := x) hm_171 rfl rfl ?_
            refine ga_imul (a := 6) (b := x) (c := 6 * x) hm_171 rfl (by omega) ?_
            refine ga_iadd (a := 36 * p) (b := 6 * x) (c := 36 * p + 6 * x) hm_171 rfl (by omega) ?_
            refine ga_iload (z := y) hm_171 rfl rfl ?_
            refine ga_iadd (a := 36 * p + 6 * x) (b := y) (c := 36 * p + 6 * x + y) hm_171 rfl (by omega) ?_
            refine ga_iload (z := 0) hm_171 rfl rfl ?_
            refine fl_if_eq hm_171 rfl ⟨by omega, by omega⟩ (fun _ => ?_) (fun h => absurd (by omega) h)
            refine fl_iconst hm_171 rfl ?_
            refine fl_iast (z := 36 * p + 6 * x + y) (v := 0) hm_171 rfl sc_366 (by omega) (by omega) (by omega) ?_
            refine ga_aload_n (v := .ref 344) hm_171 rfl rfl rfl ?_
            refine ga_dup hm_171 rfl rfl ?_
            have b165_ : 0 ≤ F3 344 36 ∧ F3 344 36 ≤ 216 := gi_g hg_F3 rfl
            refine ga_geti (z := F3 344 36) hm_171 rfl sc_344 rfl (fl_u_ne (by first | exact nc_ rfl | decide | omega)) ?_
            refine ga_iload (z := 0) hm_171 rfl rfl ?_
            refine fl_if_eq hm_171 rfl ⟨by omega, by omega⟩ (fun _ => ?_) (fun h => absurd (by omega) h)
            refine fl_iconst hm_171 rfl ?_
            refine ga_iadd (a := F3 344 36) (b := 0) (c := F3 344 36) hm_171 rfl (by omega) ?_
            refine ga_puti (z := F3 344 36) hm_171 rfl sc_344 rfl rfl ?_
            refine ga_inc (a := y) (c := y + 1) (lv2 := [(4, .int (Int32.ofInt (y + 1))), (5, .int (Int32.ofInt 0)), (3, .int (Int32.ofInt x)), (2, .int (Int32.ofInt (F 351 p.toNat))), (1, .int (Int32.ofInt p)), (0, .ref 344)]) hm_171 rfl rfl (Nat.le_of_ble_eq_true rfl) rfl rfl ?_
            refine fl_goto hm_171 rfl ?_
            obtain ⟨F166_, q167_⟩ : ∃ Fq_, Fq_ = (fl_u (fl_u F3 366 (36 * p + 6 * x + y).toNat 0) 344 36 (F3 344 36)) := ⟨_, rfl⟩
            rw [← q167_]
            have g168_ : gi F166_ := by rw [q167_]; exact gi_u (gi_u (hg_F3) rfl (by omega) (by omega)) rfl (by omega) (by omega)
            have g169_ : fs [(344, 344, 36, 36), (366, 366, 0, 100000)] F F166_ := by rw [q167_]; exact fs_u (fs_u (g68_) (fs_z (fs_y (by omega)))) rfl
            have e170_ : F166_ 344 36 = F3 344 36 := by rw [q167_]; exact fl_u_eq
            have e171_ : F166_ 366 (36 * p + 6 * x + y).toNat = 0 := by rw [q167_]; exact (fl_u_ne (by first | exact nc_ rfl | decide | omega)).trans (fl_u_eq)
            exact fl_R_sub (lv' := [(4, .int (Int32.ofInt (y + 1))), (3, .int (Int32.ofInt x)), (2, .int (Int32.ofInt (F 351 p.toNat))), (1, .int (Int32.ofInt p)), (0, .ref 344)]) rfl rfl (ih66_ _ (by omega) (y + 1) F166_ rfl g168_ (by rw [q167_]; exact fs_u (fs_u (hf_F3) (fs_z (fs_y (by omega)))) rfl) (⟨by omega, by omega⟩) (by omega) (by rw [show 36 * p.toNat + 6 * x.toNat + (y + 1).toNat = 36 * p.toNat + 6 * x.toNat + y.toNat + 1 by omega]; have hq0_ := hg0 (by omega); have hx0_ := (show F 365 x.toNat = tl.getD x.toNat 0 + 1 from by have h := rty_get hob.2 (j := x.toNat) (by omega); rwa [Nat.zero_add] at h); have hq1_ := hg1 (by omega); have hy0_ := (show F 365 y.toNat = tl.getD y.toNat 0 + 1 from by have h := rty_get hob.2 (j := y.toNat) (by omega); rwa [Nat.zero_add] at h); have h9_ := nfc_n (gf_n (ps := ps) (tl := tl) (p := p.toNat) (f1 := x) (f2 := y) (t := (ps.getD p.toNat [])) rfl (by omega) (by omega) (by omega)); omega) (by rw [show 36 * p.toNat + 6 * x.toNat + (y + 1).toNat = 36 * p.toNat + 6 * x.toNat + y.toNat + 1 by omega]; have hq0_ := hg0 (by omega); have hx0_ := (show F 365 x.toNat = tl.getD x.toNat 0 + 1 from by have h := rty_get hob.2 (j := x.toNat) (by omega); rwa [Nat.zero_add] at h); have hq1_ := hg1 (by omega); have hy0_ := (show F 365 y.toNat = tl.getD y.toNat 0 + 1 from by have h := rty_get hob.2 (j := y.toNat) (by omega); rwa [Nat.zero_add] at h); exact fnr_y hn3 (fun h9_ => by rw [(gf_n (ps := ps) (tl := tl) (p := p.toNat) (f1 := x) (f2 := y) (t := (ps.getD p.toNat [])) rfl (by omega) (by omega) (by omega))] at h9_; cases h9_) (fun j hj => (show F166_ 366 j = F3 366 j from (by rw [q167_]; exact (fl_u_ne (by first | exact nc_ rfl | decide | omega)).trans ((fl_u_ne (by first | exact nc_ rfl | decide | omega))))))))
          refine fl_iconst hm_164 rfl ?_
          refine fl_goto hm_164 rfl ?_
          refine gr_i hm_164 rfl rfl (ga_nb (by omega)) ?_
          clear h147_ h148_ f145_ l146_
          refine fl_if_eq hm_171 rfl ⟨by omega, by omega⟩ (fun h => absurd h (by omega)) (fun _ => ?_)
          refine fl_iconst hm_171 rfl ?_
          refine fl_goto hm_171 rfl ?_
          refine ga_istore (lv2 := [(5, .int (Int32.ofInt 1)), (4, .int (Int32.ofInt y)), (3, .int (Int32.ofInt x)), (2, .int (Int32.ofInt (F 351 p.toNat))), (1, .int (Int32.ofInt p)), (0, .ref 344)]) hm_171 rfl (Nat.le_of_ble_eq_true rfl) rfl ?_
          refine ga_aload_n (v := .ref 344) hm_171 rfl rfl rfl ?_
          refine ga_getr (b := 366) hm_171 rfl sc_344 rfl ?_
          refine fl_bipush hm_171 rfl rfl ?_
          refine ga_iload_n (z := p) hm_171 rfl rfl ?_
          refine ga_imul (a := 36) (b := p) (c := 36 * p) hm_171 rfl (by omega) ?_
          refine fl_bipush hm_171 rfl rfl ?_
          refine ga_iload_n (z := x) hm_171 rfl rfl ?_
          refine ga_imul (a := 6) (b := x) (c := 6 * x) hm_171 rfl (by omega) ?_
          refine ga_iadd (a := 36 * p) (b := 6 * x) (c := 36 * p + 6 * x) hm_171 rfl (by omega) ?_
          refine ga_iload (z := y) hm_171 rfl rfl ?_
          refine ga_iadd (a := 36 * p + 6 * x) (b := y) (c := 36 * p + 6 * x + y) hm_171 rfl (by omega) ?_
          refine ga_iload (z := 1) hm_171 rfl rfl ?_
          refine fl_if_eq hm_171 rfl ⟨by omega, by omega⟩ (fun h => absurd h (by omega)) (fun _ => ?_)
          refine ga_aload_n (v := .ref 344) hm_171 rfl rfl rfl ?_
          have b172_ : 0 ≤ F3 344 36 ∧ F3 344 36 ≤ 216 := gi_g hg_F3 rfl
          refine ga_geti (z := F3 344 36) hm_171 rfl sc_344 rfl (rfl) ?_
          refine fl_goto hm_171 rfl ?_
          refine fl_iast (z := 36 * p + 6 * x + y) (v := F3 344 36) hm_171 rfl sc_366 (by omega) (by omega) (by omega) ?_
          refine ga_aload_n (v := .ref 344) hm_171 rfl rfl rfl ?_
          refine ga_dup hm_171 rfl rfl ?_
          refine ga_geti (z := F3 344 36) hm_171 rfl sc_344 rfl (fl_u_ne (by first | exact nc_ rfl | decide | omega)) ?_
          refine ga_iload (z := 1) hm_171 rfl rfl ?_
          refine fl_if_eq hm_171 rfl ⟨by omega, by omega⟩ (fun h => absurd h (by omega)) (fun _ => ?_)
          refine fl_iconst hm_171 rfl ?_
          refine fl_goto hm_171 rfl ?_
          refine ga_iadd (a := F3 344 36) (b := 1) (c := F3 344 36 + 1) hm_171 rfl (by omega) ?_
          refine ga_puti (z := F3 344 36 + 1) hm_171 rfl sc_344 rfl rfl ?_
          refine ga_inc (a := y) (c := y + 1) (lv2 := [(4, .int (Int32.ofInt (y + 1))), (5, .int (Int32.ofInt 1)), (3, .int (Int32.ofInt x)), (2, .int (Int32.ofInt (F 351 p.toNat))), (1, .int (Int32.ofInt p)), (0, .ref 344)]) hm_171 rfl rfl (Nat.le_of_ble_eq_true rfl) rfl rfl ?_
          refine fl_goto hm_171 rfl ?_
          obtain ⟨F173_, q174_⟩ : ∃ Fq_, Fq_ = (fl_u (fl_u F3 366 (36 * p + 6 * x + y).toNat (F3 344 36)) 344 36 (F3 344 36 + 1)) := ⟨_, rfl⟩
          rw [← q174_]
          have g175_ : gi F173_ := by rw [q174_]; exact gi_u (gi_u (hg_F3) rfl (by omega) (by omega)) rfl (by omega) (by omega)
          have g176_ : fs [(344, 344, 36, 36), (366, 366, 0, 100000)] F F173_ := by rw [q174_]; exact fs_u (fs_u (g68_) (fs_z (fs_y (by omega)))) rfl
          have e177_ : F173_ 344 36 = F3 344 36 + 1 := by rw [q174_]; exact fl_u_eq
          have e178_ : F173_ 366 (36 * p + 6 * x + y).toNat = F3 344 36 := by rw [q174_]; exact (fl_u_ne (by first | exact nc_ rfl | decide | omega)).trans (fl_u_eq)
          exact fl_R_sub (lv' := [(4, .int (Int32.ofInt (y + 1))), (3, .int (Int32.ofInt x)), (2, .int (Int32.ofInt (F 351 p.toNat))), (1, .int (Int32.ofInt p)), (0, .ref 344)]) rfl rfl (ih66_ _ (by omega) (y + 1) F173_ rfl g175_ (by rw [q174_]; exact fs_u (fs_u (hf_F3) (fs_z (fs_y (by omega)))) rfl) (⟨by omega, by omega⟩) (by omega) (by rw [show 36 * p.toNat + 6 * x.toNat + (y + 1).toNat = 36 * p.toNat + 6 * x.toNat + y.toNat + 1 by omega]; have hq0_ := hg0 (by omega); have hx0_ := (show F 365 x.toNat = tl.getD x.toNat 0 + 1 from by have h := rty_get hob.2 (j := x.toNat) (by omega); rwa [Nat.zero_add] at h); have hq1_ := hg1 (by omega); have hy0_ := (show F 365 y.toNat = tl.getD y.toNat 0 + 1 from by have h := rty_get hob.2 (j := y.toNat) (by omega); rwa [Nat.zero_add] at h); have h9_ := nfc_y (gf_y (ps := ps) (tl := tl) (p := p.toNat) (f1 := x) (f2 := y) (t := (ps.getD p.toNat [])) (by omega) rfl (by omega) (by omega) (by omega) (by omega)); omega) (by rw [show 36 * p.toNat + 6 * x.toNat + (y + 1).toNat = 36 * p.toNat + 6 * x.toNat + y.toNat + 1 by omega]; exact fnr_y hn3 (fun h9_ => by rw [show 36 * p.toNat + 6 * x.toNat + y.toNat = (36 * p + 6 * x + y).toNat by omega]; exact Eq.trans (e178_) (by rw [show (36 * p + 6 * x + y).toNat = 36 * p.toNat + 6 * x.toNat + y.toNat by omega]; exact hf3)) (fun j hj => (show F173_ 366 j = F3 366 j from (by rw [q174_]; exact (fl_u_ne (by first | exact nc_ rfl | decide | omega)).trans ((fl_u_ne (by first | exact nc_ rfl | decide | omega))))))))
        refine ga_aload_n (v := .ref 344) hm_164 rfl rfl rfl ?_
        refine ga_getr (b := 365) hm_164 rfl sc_344 rfl ?_
        refine ga_iload_n (z := x) hm_164 rfl rfl ?_
        have e179_ : F1_ 365 x.toNat = F 365 x.toNat := by rw [q2_]; exact fl_u_ne (by first | exact nc_ rfl | decide | omega)
        have e180_ : F1 365 x.toNat = F 365 x.toNat := (hf_F1 365 x.toNat (by first | exact fs_c rfl | exact (fs_n (by omega) (fs_n (by omega) rfl)))).trans (e179_)
        have e181_ : F2 365 x.toNat = F 365 x.toNat := (hf_F2 365 x.toNat (by first | exact fs_c rfl | exact (fs_n (by omega) (fs_n (by omega) rfl)))).trans (e180_)
        have e182_ : F3 365 x.toNat = F 365 x.toNat := (hf_F3 365 x.toNat (by first | exact fs_c rfl | exact (fs_n (by omega) (fs_n (by omega) rfl)))).trans (e181_)
        have b183_ : 0 ≤ F 365 x.toNat ∧ F 365 x.toNat ≤ 4 := gi_g hgi rfl
        refine ga_iald (z := x) (w := F 365 x.toNat) hm_164 rfl sc_365 (by omega) (by omega) (by omega) (e182_) ?_
        refine ga_iload_n (z := F 352 (2 * p).toNat) hm_164 rfl rfl ?_
        refine fx_icmp_ne (a := F 365 x.toNat) (b := F 352 (2 * p).toNat) hm_164 rfl ⟨by omega, by omega⟩ ⟨by omega, by omega⟩ (fun h184_ => ?_) (fun h185_ => ?_)
        ·
          refine fl_iconst hm_164 rfl ?_
          refine gr_i hm_164 rfl rfl (ga_nb (by omega)) ?_
          clear h134_ h135_ f132_ l133_
          refine fl_if_eq hm_171 rfl ⟨by omega, by omega⟩ (fun _ => ?_) (fun h => absurd (by omega) h)
          refine fl_iconst hm_171 rfl ?_
          refine ga_istore (lv2 := [(5, .int (Int32.ofInt 0)), (4, .int (Int32.ofInt y)), (3, .int (Int32.ofInt x)), (2, .int (Int32.ofInt (F 351 p.toNat))), (1, .int (Int32.ofInt p)), (0, .ref 344)]) hm_171 rfl (Nat.le_of_ble_eq_true rfl) rfl ?_
          refine ga_aload_n (v := .ref 344) hm_171 rfl rfl rfl ?_
          refine ga_getr (b := 366) hm_171 rfl sc_344 rfl ?_
          refine fl_bipush hm_171 rfl rfl ?_
          refine ga_iload_n (z := p) hm_171 rfl rfl ?_
          refine ga_imul (a := 36) (b := p) (c := 36 * p) hm_171 rfl (by omega) ?_
          refine fl_bipush hm_171 rfl rfl ?_
          refine ga_iload_n (z := x) hm_171 rfl rfl ?_
          refine ga_imul (a := 6) (b := x) (c := 6 * x) hm_171 rfl (by omega) ?_
          refine ga_iadd (a := 36 * p) (b := 6 * x) (c := 36 * p + 6 * x) hm_171 rfl (by omega) ?_
          refine ga_iload (z := y) hm_171 rfl rfl ?_
          refine ga_iadd (a := 36 * p + 6 * x) (b := y) (c := 36 * p + 6 * x + y) hm_171 rfl (by omega) ?_
          refine ga_iload (z := 0) hm_171 rfl rfl ?_
          refine fl_if_eq hm_171 rfl ⟨by omega, by omega⟩ (fun _ => ?_) (fun h => absurd (by omega) h)
          refine fl_iconst hm_171 rfl ?_
          refine fl_iast (z := 36 * p + 6 * x + y) (v := 0) hm_171 rfl sc_366 (by omega) (by omega) (by omega) ?_
          refine ga_aload_n (v := .ref 344) hm_171 rfl rfl rfl ?_
          refine ga_dup hm_171 rfl rfl ?_
          have b186_ : 0 ≤ F3 344 36 ∧ F3 344 36 ≤ 216 := gi_g hg_F3 rfl
          refine ga_geti (z := F3 344 36) hm_171 rfl sc_344 rfl (fl_u_ne (by first | exact nc_ rfl | decide | omega)) ?_
          refine ga_iload (z := 0) hm_171 rfl rfl ?_
          refine fl_if_eq hm_171 rfl ⟨by omega, by omega⟩ (fun _ => ?_) (fun h => absurd (by omega) h)
          refine fl_iconst hm_171 rfl ?_
          refine ga_iadd (a := F3 344 36) (b := 0) (c := F3 344 36) hm_171 rfl (by omega) ?_
          refine ga_puti (z := F3 344 36) hm_171 rfl sc_344 rfl rfl ?_
          refine ga_inc (a := y) (c := y + 1) (lv2 := [(4, .int (Int32.ofInt (y + 1))), (5, .int (Int32.ofInt 0)), (3, .int (Int32.ofInt x)), (2, .int (Int32.ofInt (F 351 p.toNat))), (1, .int (Int32.ofInt p)), (0, .ref 344)]) hm_171 rfl rfl (Nat.le_of_ble_eq_true rfl) rfl rfl ?_
          refine fl_goto hm_171 rfl ?_
          obtain ⟨F187_, q188_⟩ : ∃ Fq_, Fq_ = (fl_u (fl_u F3 366 (36 * p + 6 * x + y).toNat 0) 344 36 (F3 344 36)) := ⟨_, rfl⟩
          rw [← q188_]
          have g189_ : gi F187_ := by rw [q188_]; exact gi_u (gi_u (hg_F3) rfl (by omega) (by omega)) rfl (by omega) (by omega)
          have g190_ : fs [(344, 344, 36, 36), (366, 366, 0, 100000)] F F187_ := by rw [q188_]; exact fs_u (fs_u (g68_) (fs_z (fs_y (by omega)))) rfl
          have e191_ : F187_ 344 36 = F3 344 36 := by rw [q188_]; exact fl_u_eq
          have e192_ : F187_ 366 (36 * p + 6 * x + y).toNat = 0 := by rw [q188_]; exact (fl_u_ne (by first | exact nc_ rfl | decide | omega)).trans (fl_u_eq)
          exact fl_R_sub (lv' := [(4, .int (Int32.ofInt (y + 1))), (3, .int (Int32.ofInt x)), (2, .int (Int32.ofInt (F 351 p.toNat))), (1, .int (Int32.ofInt p)), (0, .ref 344)]) rfl rfl (ih66_ _ (by omega) (y + 1) F187_ rfl g189_ (by rw [q188_]; exact fs_u (fs_u (hf_F3) (fs_z (fs_y (by omega)))) rfl) (⟨by omega, by omega⟩) (by omega) (by rw [show 36 * p.toNat + 6 * x.toNat + (y + 1).toNat = 36 * p.toNat + 6 * x.toNat + y.toNat + 1 by omega]; have hq0_ := hg0 (by omega); have hx0_ := (show F 365 x.toNat = tl.getD x.toNat 0 + 1 from by have h := rty_get hob.2 (j := x.toNat) (by omega); rwa [Nat.zero_add] at h); have hq1_ := hg1 (by omega); have hy0_ := (show F 365 y.toNat = tl.getD y.toNat 0 + 1 from by have h := rty_get hob.2 (j := y.toNat) (by omega); rwa [Nat.zero_add] at h); have h9_ := nfc_n (gf_n (ps := ps) (tl := tl) (p := p.toNat) (f1 := x) (f2 := y) (t := (ps.getD p.toNat [])) rfl (by omega) (by omega) (by omega)); omega) (by rw [show 36 * p.toNat + 6 * x.toNat + (y + 1).toNat = 36 * p.toNat + 6 * x.toNat + y.toNat + 1 by omega]; have hq0_ := hg0 (by omega); have hx0_ := (show F 365 x.toNat = tl.getD x.toNat 0 + 1 from by have h := rty_get hob.2 (j := x.toNat) (by omega); rwa [Nat.zero_add] at h); have hq1_ := hg1 (by omega); have hy0_ := (show F 365 y.toNat = tl.getD y.toNat 0 + 1 from by have h := rty_get hob.2 (j := y.toNat) (by omega); rwa [Nat.zero_add] at h); exact fnr_y hn3 (fun h9_ => by rw [(gf_n (ps := ps) (tl := tl) (p := p.toNat) (f1 := x) (f2 := y) (t := (ps.getD p.toNat [])) rfl (by omega) (by omega) (by omega))] at h9_; cases h9_) (fun j hj => (show F187_ 366 j = F3 366 j from (by rw [q188_]; exact (fl_u_ne (by first | exact nc_ rfl | decide | omega)).trans ((fl_u_ne (by first | exact nc_ rfl | decide | omega))))))))
        refine fl_iconst hm_164 rfl ?_
        refine fl_goto hm_164 rfl ?_
        refine gr_i hm_164 rfl rfl (ga_nb (by omega)) ?_
        clear h134_ h135_ f132_ l133_
        refine fl_if_eq hm_171 rfl ⟨by omega, by omega⟩ (fun h => absurd h (by omega)) (fun _ => ?_)
        refine ga_iload_n (z := F 351 p.toNat) hm_171 rfl rfl ?_
        refine fl_iconst hm_171 rfl ?_
        refine fl_icmp_lt (a := F 351 p.toNat) (b := 2) hm_171 rfl ⟨by omega, by omega⟩ ⟨by omega, by omega⟩ (fun h193_ => ?_) (fun h194_ => ?_)
        · exfalso; omega
        refine ga_aload_n (v := .ref 344) hm_171 rfl rfl rfl ?_
        refine ga_iload (z := y) hm_171 rfl rfl ?_
        refine ga_aload_n (v := .ref 344) hm_171 rfl rfl rfl ?_
        refine ga_getr (b := 352) hm_171 rfl sc_344 rfl ?_
        refine fl_iconst hm_171 rfl ?_
        refine ga_iload_n (z := p) hm_171 rfl rfl ?_
        refine ga_imul (a := 2) (b := p) (c := 2 * p) hm_171 rfl (by omega) ?_
        refine fl_iconst hm_171 rfl ?_
        refine ga_iadd (a := 2 * p) (b := 1) (c := 2 * p + 1) hm_171 rfl (by omega) ?_
        have e195_ : F1_ 352 (2 * p + 1).toNat = F 352 (2 * p + 1).toNat := by rw [q2_]; exact fl_u_ne (by first | exact nc_ rfl | decide | omega)
        have e196_ : F1 352 (2 * p + 1).toNat = F 352 (2 * p + 1).toNat := (hf_F1 352 (2 * p + 1).toNat (by first | exact fs_c rfl | exact (fs_n (by omega) (fs_n (by omega) rfl)))).trans (e195_)
        have e197_ : F2 352 (2 * p + 1).toNat = F 352 (2 * p + 1).toNat := (hf_F2 352 (2 * p + 1).toNat (by first | exact fs_c rfl | exact (fs_n (by omega) (fs_n (by omega) rfl)))).trans (e196_)
        have e198_ : F3 352 (2 * p + 1).toNat = F 352 (2 * p + 1).toNat := (hf_F3 352 (2 * p + 1).toNat (by first | exact fs_c rfl | exact (fs_n (by omega) (fs_n (by omega) rfl)))).trans (e197_)
        have b199_ : 0 ≤ F 352 (2 * p + 1).toNat ∧ F 352 (2 * p + 1).toNat ≤ 4 := gi_g hgi rfl
        refine ga_iald (z := 2 * p + 1) (w := F 352 (2 * p + 1).toNat) hm_171 rfl sc_352 (by omega) (by omega) (by omega) (e198_) ?_
        refine gIi (nY := 3) (F := 0) (L := 0) (As := [.int (Int32.ofInt y), .int (Int32.ofInt (F 352 (2 * p + 1).toNat))]) (b := 344) (rest := []) hm_171 rfl hm_164 rfl rfl (fl_ob sc_344) rfl rfl rfl rfl rfl (by omega) (by omega) ?_
        intro f200_ l201_ h202_ h203_
        show fl_R xi_ms 164 f200_ l201_ 0 [(0, .ref 344), (1, .int (Int32.ofInt y)), (2, .int (Int32.ofInt (F 352 (2 * p + 1).toNat)))] [] _ _
        refine ga_iload_n (z := F 352 (2 * p + 1).toNat) hm_164 rfl rfl ?_
        refine fl_if_eq (a := F 352 (2 * p + 1).toNat) hm_164 rfl ⟨by omega, by omega⟩ (fun h204_ => ?_) (fun h205_ => ?_)
        ·
          refine fl_iconst hm_164 rfl ?_
          refine fl_goto hm_164 rfl ?_
          refine gr_i hm_164 rfl rfl (ga_nb (by omega)) ?_
          clear h202_ h203_ f200_ l201_
          refine fl_if_eq hm_171 rfl ⟨by omega, by omega⟩ (fun h => absurd h (by omega)) (fun _ => ?_)
          refine fl_iconst hm_171 rfl ?_
          refine fl_goto hm_171 rfl ?_
          refine ga_istore (lv2 := [(5, .int (Int32.ofInt 1)), (4, .int (Int32.ofInt y)), (3, .int (Int32.ofInt x)), (2, .int (Int32.ofInt (F 351 p.toNat))), (1, .int (Int32.ofInt p)), (0, .ref 344)]) hm_171 rfl (Nat.le_of_ble_eq_true rfl) rfl ?_
          refine ga_aload_n (v := .ref 344) hm_171 rfl rfl rfl ?_
          refine ga_getr (b := 366) hm_171 rfl sc_344 rfl ?_
          refine fl_bipush hm_171 rfl rfl ?_
          refine ga_iload_n (z := p) hm_171 rfl rfl ?_
          refine ga_imul (a := 36) (b := p) (c := 36 * p) hm_171 rfl (by omega) ?_
          refine fl_bipush hm_171 rfl rfl ?_
          refine ga_iload_n (z := x) hm_171 rfl rfl ?_
          refine ga_imul (a := 6) (b := x) (c := 6 * x) hm_171 rfl (by omega) ?_
          refine ga_iadd (a := 36 * p) (b := 6 * x) (c := 36 * p + 6 * x) hm_171 rfl (by omega) ?_
          refine ga_iload (z := y) hm_171 rfl rfl ?_
          refine ga_iadd (a := 36 * p + 6 * x) (b := y) (c := 36 * p + 6 * x + y) hm_171 rfl (by omega) ?_
          refine ga_iload (z := 1) hm_171 rfl rfl ?_
          refine fl_if_eq hm_171 rfl ⟨by omega, by omega⟩ (fun h => absurd h (by omega)) (fun _ => ?_)
          refine ga_aload_n (v := .ref 344) hm_171 rfl rfl rfl ?_
          have b206_ : 0 ≤ F3 344 36 ∧ F3 344 36 ≤ 216 := gi_g hg_F3 rfl
          refine ga_geti (z := F3 344 36) hm_171 rfl sc_344 rfl (rfl) ?_
          refine fl_goto hm_171 rfl ?_
          refine fl_iast (z := 36 * p + 6 * x + y) (v := F3 344 36) hm_171 rfl sc_366 (by omega) (by omega) (by omega) ?_
          refine ga_aload_n (v := .ref 344) hm_171 rfl rfl rfl ?_
          refine ga_dup hm_171 rfl rfl ?_
          refine ga_geti (z := F3 344 36) hm_171 rfl sc_344 rfl (fl_u_ne (by first | exact nc_ rfl | decide | omega)) ?_
          refine ga_iload (z := 1) hm_171 rfl rfl ?_
          refine fl_if_eq hm_171 rfl ⟨by omega, by omega⟩ (fun h => absurd h (by omega)) (fun _ => ?_)
          refine fl_iconst hm_171 rfl ?_
          refine fl_goto hm_171 rfl ?_
          refine ga_iadd (a := F3 344 36) (b := 1) (c := F3 344 36 + 1) hm_171 rfl (by omega) ?_
          refine ga_puti (z := F3 344 36 + 1) hm_171 rfl sc_344 rfl rfl ?_
          refine ga_inc (a := y) (c := y + 1) (lv2 := [(4, .int (Int32.ofInt (y + 1))), (5, .int (Int32.ofInt 1)), (3, .int (Int32.ofInt x)), (2, .int (Int32.ofInt (F 351 p.toNat))), (1, .int (Int32.ofInt p)), (0, .ref 344)]) hm_171 rfl rfl (Nat.le_of_ble_eq_true rfl) rfl rfl ?_
          refine fl_goto hm_171 rfl ?_
          obtain ⟨F207_, q208_⟩ : ∃ Fq_, Fq_ = (fl_u (fl_u F3 366 (36 * p + 6 * x + y).toNat (F3 344 36)) 344 36 (F3 344 36 + 1)) := ⟨_, rfl⟩
          rw [← q208_]
          have g209_ : gi F207_ := by rw [q208_]; exact gi_u (gi_u (hg_F3) rfl (by omega) (by omega)) rfl (by omega) (by omega)
          have g210_ : fs [(344, 344, 36, 36), (366, 366, 0, 100000)] F F207_ := by rw [q208_]; exact fs_u (fs_u (g68_) (fs_z (fs_y (by omega)))) rfl
          have e211_ : F207_ 344 36 = F3 344 36 + 1 := by rw [q208_]; exact fl_u_eq
          have e212_ : F207_ 366 (36 * p + 6 * x + y).toNat = F3 344 36 := by rw [q208_]; exact (fl_u_ne (by first | exact nc_ rfl | decide | omega)).trans (fl_u_eq)
          exact fl_R_sub (lv' := [(4, .int (Int32.ofInt (y + 1))), (3, .int (Int32.ofInt x)), (2, .int (Int32.ofInt (F 351 p.toNat))), (1, .int (Int32.ofInt p)), (0, .ref 344)]) rfl rfl (ih66_ _ (by omega) (y + 1) F207_ rfl g209_ (by rw [q208_]; exact fs_u (fs_u (hf_F3) (fs_z (fs_y (by omega)))) rfl) (⟨by omega, by omega⟩) (by omega) (by rw [show 36 * p.toNat + 6 * x.toNat + (y + 1).toNat = 36 * p.toNat + 6 * x.toNat + y.toNat + 1 by omega]; have hq0_ := hg0 (by omega); have hx0_ := (show F 365 x.toNat = tl.getD x.toNat 0 + 1 from by have h := rty_get hob.2 (j := x.toNat) (by omega); rwa [Nat.zero_add] at h); have hq1_ := hg1 (by omega); have hy0_ := (show F 365 y.toNat = tl.getD y.toNat 0 + 1 from by have h := rty_get hob.2 (j := y.toNat) (by omega); rwa [Nat.zero_add] at h); have h9_ := nfc_y (gf_y (ps := ps) (tl := tl) (p := p.toNat) (f1 := x) (f2 := y) (t := (ps.getD p.toNat [])) (by omega) rfl (by omega) (by omega) (by omega) (by omega)); omega) (by rw [show 36 * p.toNat + 6 * x.toNat + (y + 1).toNat = 36 * p.toNat + 6 * x.toNat + y.toNat + 1 by omega]; exact fnr_y hn3 (fun h9_ => by rw [show 36 * p.toNat + 6 * x.toNat + y.toNat = (36 * p + 6 * x + y).toNat by omega]; exact Eq.trans (e212_) (by rw [show (36 * p + 6 * x + y).toNat = 36 * p.toNat + 6 * x.toNat + y.toNat by omega]; exact hf3)) (fun j hj => (show F207_ 366 j = F3 366 j from (by rw [q208_]; exact (fl_u_ne (by first | exact nc_ rfl | decide | omega)).trans ((fl_u_ne (by first | exact nc_ rfl | decide | omega))))))))
        refine ga_aload_n (v := .ref 344) hm_164 rfl rfl rfl ?_
        refine ga_getr (b := 365) hm_164 rfl sc_344 rfl ?_
        refine ga_iload_n (z := y) hm_164 rfl rfl ?_
        have e213_ : F1_ 365 y.toNat = F 365 y.toNat := by rw [q2_]; exact fl_u_ne (by first | exact nc_ rfl | decide | omega)
        have e214_ : F1 365 y.toNat = F 365 y.toNat := (hf_F1 365 y.toNat (by first | exact fs_c rfl | exact (fs_n (by omega) (fs_n (by omega) rfl)))).trans (e213_)
        have e215_ : F2 365 y.toNat = F 365 y.toNat := (hf_F2 365 y.toNat (by first | exact fs_c rfl | exact (fs_n (by omega) (fs_n (by omega) rfl)))).trans (e214_)
        have e216_ : F3 365 y.toNat = F 365 y.toNat := (hf_F3 365 y.toNat (by first | exact fs_c rfl | exact (fs_n (by omega) (fs_n (by omega) rfl)))).trans (e215_)
        have b217_ : 0 ≤ F 365 y.toNat ∧ F 365 y.toNat ≤ 4 := gi_g hgi rfl
        refine ga_iald (z := y) (w := F 365 y.toNat) hm_164 rfl sc_365 (by omega) (by omega) (by omega) (e216_) ?_
        refine ga_iload_n (z := F 352 (2 * p + 1).toNat) hm_164 rfl rfl ?_
        refine fx_icmp_ne (a := F 365 y.toNat) (b := F 352 (2 * p + 1).toNat) hm_164 rfl ⟨by omega, by omega⟩ ⟨by omega, by omega⟩ (fun h218_ => ?_) (fun h219_ => ?_)
        ·
          refine fl_iconst hm_164 rfl ?_
          refine gr_i hm_164 rfl rfl (ga_nb (by omega)) ?_
          clear h202_ h203_ f200_ l201_
          refine fl_if_eq hm_171 rfl ⟨by omega, by omega⟩ (fun _ => ?_) (fun h => absurd (by omega) h)
          refine fl_iconst hm_171 rfl ?_
          refine ga_istore (lv2 := [(5, .int (Int32.ofInt 0)), (4, .int (Int32.ofInt y)), (3, .int (Int32.ofInt x)), (2, .int (Int32.ofInt (F 351 p.toNat))), (1, .int (Int32.ofInt p)), (0, .ref 344)]) hm_171 rfl (Nat.le_of_ble_eq_true rfl) rfl ?_
          refine ga_aload_n (v := .ref 344) hm_171 rfl rfl rfl ?_
          refine ga_getr (b := 366) hm_171 rfl sc_344 rfl ?_
          refine fl_bipush hm_171 rfl rfl ?_
          refine ga_iload_n (z := p) hm_171 rfl rfl ?_
          refine ga_imul (a := 36) (b := p) (c := 36 * p) hm_171 rfl (by omega) ?_
          refine fl_bipush hm_171 rfl rfl ?_
          refine ga_iload_n (z := x) hm_171 rfl rfl ?_
          refine ga_imul (a := 6) (b := x) (c := 6 * x) hm_171 rfl (by omega) ?_
          refine ga_iadd (a := 36 * p) (b := 6 * x) (c := 36 * p + 6 * x) hm_171 rfl (by omega) ?_
          refine ga_iload (z := y) hm_171 rfl rfl ?_
          refine ga_iadd (a := 36 * p + 6 * x) (b := y) (c := 36 * p + 6 * x + y) hm_171 rfl (by omega) ?_
          refine ga_iload (z := 0) hm_171 rfl rfl ?_
          refine fl_if_eq hm_171 rfl ⟨by omega, by omega⟩ (fun _ => ?_) (fun h => absurd (by omega) h)
          refine fl_iconst hm_171 rfl ?_
          refine fl_iast (z := 36 * p + 6 * x + y) (v := 0) hm_171 rfl sc_366 (by omega) (by omega) (by omega) ?_
          refine ga_aload_n (v := .ref 344) hm_171 rfl rfl rfl ?_
          refine ga_dup hm_171 rfl rfl ?_
          have b220_ : 0 ≤ F3 344 36 ∧ F3 344 36 ≤ 216 := gi_g hg_F3 rfl
          refine ga_geti (z := F3 344 36) hm_171 rfl sc_344 rfl (fl_u_ne (by first | exact nc_ rfl | decide | omega)) ?_
          refine ga_iload (z := 0) hm_171 rfl rfl ?_
          refine fl_if_eq hm_171 rfl ⟨by omega, by omega⟩ (fun _ => ?_) (fun h => absurd (by omega) h)
          refine fl_iconst hm_171 rfl ?_
          refine ga_iadd (a := F3 344 36) (b := 0) (c := F3 344 36) hm_171 rfl (by omega) ?_
          refine ga_puti (z := F3 344 36) hm_171 rfl sc_344 rfl rfl ?_
          refine ga_inc (a := y) (c := y + 1) (lv2 := [(4, .int (Int32.ofInt (y + 1))), (5, .int (Int32.ofInt 0)), (3, .int (Int32.ofInt x)), (2, .int (Int32.ofInt (F 351 p.toNat))), (1, .int (Int32.ofInt p)), (0, .ref 344)]) hm_171 rfl rfl (Nat.le_of_ble_eq_true rfl) rfl rfl ?_
          refine fl_goto hm_171 rfl ?_
          obtain ⟨F221_, q222_⟩ : ∃ Fq_, Fq_ = (fl_u (fl_u F3 366 (36 * p + 6 * x + y).toNat 0) 344 36 (F3 344 36)) := ⟨_, rfl⟩
          rw [← q222_]
          have g223_ : gi F221_ := by rw [q222_]; exact gi_u (gi_u (hg_F3) rfl (by omega) (by omega)) rfl (by omega) (by omega)
          have g224_ : fs [(344, 344, 36, 36), (366, 366, 0, 100000)] F F221_ := by rw [q222_]; exact fs_u (fs_u (g68_) (fs_z (fs_y (by omega)))) rfl
          have e225_ : F221_ 344 36 = F3 344 36 := by rw [q222_]; exact fl_u_eq
          have e226_ : F221_ 366 (36 * p + 6 * x + y).toNat = 0 := by rw [q222_]; exact (fl_u_ne (by first | exact nc_ rfl | decide | omega)).trans (fl_u_eq)
          exact fl_R_sub (lv' := [(4, .int (Int32.ofInt (y + 1))), (3, .int (Int32.ofInt x)), (2, .int (Int32.ofInt (F 351 p.toNat))), (1, .int (Int32.ofInt p)), (0, .ref 344)]) rfl rfl (ih66_ _ (by omega) (y + 1) F221_ rfl g223_ (by rw [q222_]; exact fs_u (fs_u (hf_F3) (fs_z (fs_y (by omega)))) rfl) (⟨by omega, by omega⟩) (by omega) (by rw [show 36 * p.toNat + 6 * x.toNat + (y + 1).toNat = 36 * p.toNat + 6 * x.toNat + y.toNat + 1 by omega]; have hq0_ := hg0 (by omega); have hx0_ := (show F 365 x.toNat = tl.getD x.toNat 0 + 1 from by have h := rty_get hob.2 (j := x.toNat) (by omega); rwa [Nat.zero_add] at h); have hq1_ := hg1 (by omega); have hy0_ := (show F 365 y.toNat = tl.getD y.toNat 0 + 1 from by have h := rty_get hob.2 (j := y.toNat) (by omega); rwa [Nat.zero_add] at h); have h9_ := nfc_n (gf_n (ps := ps) (tl := tl) (p := p.toNat) (f1 := x) (f2 := y) (t := (ps.getD p.toNat [])) rfl (by omega) (by omega) (by omega)); omega) (by rw [show 36 * p.toNat + 6 * x.toNat + (y + 1).toNat = 36 * p.toNat + 6 * x.toNat + y.toNat + 1 by omega]; have hq0_ := hg0 (by omega); have hx0_ := (show F 365 x.toNat = tl.getD x.toNat 0 + 1 from by have h := rty_get hob.2 (j := x.toNat) (by omega); rwa [Nat.zero_add] at h); have hq1_ := hg1 (by omega); have hy0_ := (show F 365 y.toNat = tl.getD y.toNat 0 + 1 from by have h := rty_get hob.2 (j := y.toNat) (by omega); rwa [Nat.zero_add] at h); exact fnr_y hn3 (fun h9_ => by rw [(gf_n (ps := ps) (tl := tl) (p := p.toNat) (f1 := x) (f2 := y) (t := (ps.getD p.toNat [])) rfl (by omega) (by omega) (by omega))] at h9_; cases h9_) (fun j hj => (show F221_ 366 j = F3 366 j from (by rw [q222_]; exact (fl_u_ne (by first | exact nc_ rfl | decide | omega)).trans ((fl_u_ne (by first | exact nc_ rfl | decide | omega))))))))
        refine fl_iconst hm_164 rfl ?_
        refine fl_goto hm_164 rfl ?_
        refine gr_i hm_164 rfl rfl (ga_nb (by omega)) ?_
        clear h202_ h203_ f200_ l201_
        refine fl_if_eq hm_171 rfl ⟨by omega, by omega⟩ (fun h => absurd h (by omega)) (fun _ => ?_)
        refine fl_iconst hm_171 rfl ?_
        refine fl_goto hm_171 rfl ?_
        refine ga_istore (lv2 := [(5, .int (Int32.ofInt 1)), (4, .int (Int32.ofInt y)), (3, .int (Int32.ofInt x)), (2, .int (Int32.ofInt (F 351 p.toNat))), (1, .int (Int32.ofInt p)), (0, .ref 344)]) hm_171 rfl (Nat.le_of_ble_eq_true rfl) rfl ?_
        refine ga_aload_n (v := .ref 344) hm_171 rfl rfl rfl ?_
        refine ga_getr (b := 366) hm_171 rfl sc_344 rfl ?_
        refine fl_bipush hm_171 rfl rfl ?_
        refine ga_iload_n (z := p) hm_171 rfl rfl ?_
        refine ga_imul (a := 36) (b := p) (c := 36 * p) hm_171 rfl (by omega) ?_
        refine fl_bipush hm_171 rfl rfl ?_
        refine ga_iload_n (z := x) hm_171 rfl rfl ?_
        refine ga_imul (a := 6) (b := x) (c := 6 * x) hm_171 rfl (by omega) ?_
        refine ga_iadd (a := 36 * p) (b := 6 * x) (c := 36 * p + 6 * x) hm_171 rfl (by omega) ?_
        refine ga_iload (z := y) hm_171 rfl rfl ?_
        refine ga_iadd (a := 36 * p + 6 * x) (b := y) (c := 36 * p + 6 * x + y) hm_171 rfl (by omega) ?_
        refine ga_iload (z := 1) hm_171 rfl rfl ?_
        refine fl_if_eq hm_171 rfl ⟨by omega, by omega⟩ (fun h => absurd h (by omega)) (fun _ => ?_)
        refine ga_aload_n (v := .ref 344) hm_171 rfl rfl rfl ?_
        have b227_ : 0 ≤ F3 344 36 ∧ F3 344 36 ≤ 216 := gi_g hg_F3 rfl
        refine ga_geti (z := F3 344 36) hm_171 rfl sc_344 rfl (rfl) ?_
        refine fl_goto hm_171 rfl ?_
        refine fl_iast (z := 36 * p + 6 * x + y) (v := F3 344 36) hm_171 rfl sc_366 (by omega) (by omega) (by omega) ?_
        refine ga_aload_n (v := .ref 344) hm_171 rfl rfl rfl ?_
        refine ga_dup hm_171 rfl rfl ?_
        refine ga_geti (z := F3 344 36) hm_171 rfl sc_344 rfl (fl_u_ne (by first | exact nc_ rfl | decide | omega)) ?_
        refine ga_iload (z := 1) hm_171 rfl rfl ?_
        refine fl_if_eq hm_171 rfl ⟨by omega, by omega⟩ (fun h => absurd h (by omega)) (fun _ => ?_)
        refine fl_iconst hm_171 rfl ?_
        refine fl_goto hm_171 rfl ?_
        refine ga_iadd (a := F3 344 36) (b := 1) (c := F3 344 36 + 1) hm_171 rfl (by omega) ?_
        refine ga_puti (z := F3 344 36 + 1) hm_171 rfl sc_344 rfl rfl ?_
        refine ga_inc (a := y) (c := y + 1) (lv2 := [(4, .int (Int32.ofInt (y + 1))), (5, .int (Int32.ofInt 1)), (3, .int (Int32.ofInt x)), (2, .int (Int32.ofInt (F 351 p.toNat))), (1, .int (Int32.ofInt p)), (0, .ref 344)]) hm_171 rfl rfl (Nat.le_of_ble_eq_true rfl) rfl rfl ?_
        refine fl_goto hm_171 rfl ?_
        obtain ⟨F228_, q229_⟩ : ∃ Fq_, Fq_ = (fl_u (fl_u F3 366 (36 * p + 6 * x + y).toNat (F3 344 36)) 344 36 (F3 344 36 + 1)) := ⟨_, rfl⟩
        rw [← q229_]
        have g230_ : gi F228_ := by rw [q229_]; exact gi_u (gi_u (hg_F3) rfl (by omega) (by omega)) rfl (by omega) (by omega)
        have g231_ : fs [(344, 344, 36, 36), (366, 366, 0, 100000)] F F228_ := by rw [q229_]; exact fs_u (fs_u (g68_) (fs_z (fs_y (by omega)))) rfl
        have e232_ : F228_ 344 36 = F3 344 36 + 1 := by rw [q229_]; exact fl_u_eq
        have e233_ : F228_ 366 (36 * p + 6 * x + y).toNat = F3 344 36 := by rw [q229_]; exact (fl_u_ne (by first | exact nc_ rfl | decide | omega)).trans (fl_u_eq)
        exact fl_R_sub (lv' := [(4, .int (Int32.ofInt (y + 1))), (3, .int (Int32.ofInt x)), (2, .int (Int32.ofInt (F 351 p.toNat))), (1, .int (Int32.ofInt p)), (0, .ref 344)]) rfl rfl (ih66_ _ (by omega) (y + 1) F228_ rfl g230_ (by rw [q229_]; exact fs_u (fs_u (hf_F3) (fs_z (fs_y (by omega)))) rfl) (⟨by omega, by omega⟩) (by omega) (by rw [show 36 * p.toNat + 6 * x.toNat + (y + 1).toNat = 36 * p.toNat + 6 * x.toNat + y.toNat + 1 by omega]; have hq0_ := hg0 (by omega); have hx0_ := (show F 365 x.toNat = tl.getD x.toNat 0 + 1 from by have h := rty_get hob.2 (j := x.toNat) (by omega); rwa [Nat.zero_add] at h); have hq1_ := hg1 (by omega); have hy0_ := (show F 365 y.toNat = tl.getD y.toNat 0 + 1 from by have h := rty_get hob.2 (j := y.toNat) (by omega); rwa [Nat.zero_add] at h); have h9_ := nfc_y (gf_y (ps := ps) (tl := tl) (p := p.toNat) (f1 := x) (f2 := y) (t := (ps.getD p.toNat [])) (by omega) rfl (by omega) (by omega) (by omega) (by omega)); omega) (by rw [show 36 * p.toNat + 6 * x.toNat + (y + 1).toNat = 36 * p.toNat + 6 * x.toNat + y.toNat + 1 by omega]; exact fnr_y hn3 (fun h9_ => by rw [show 36 * p.toNat + 6 * x.toNat + y.toNat = (36 * p + 6 * x + y).toNat by omega]; exact Eq.trans (e233_) (by rw [show (36 * p + 6 * x + y).toNat = 36 * p.toNat + 6 * x.toNat + y.toNat by omega]; exact hf3)) (fun j hj => (show F228_ 366 j = F3 366 j from (by rw [q229_]; exact (fl_u_ne (by first | exact nc_ rfl | decide | omega)).trans ((fl_u_ne (by first | exact nc_ rfl | decide | omega))))))))
      have b234_ : 0 ≤ F2 344 36 ∧ F2 344 36 ≤ 216 := gi_g hg_F2 rfl
      exact L65_ _ (0) F2 rfl hg_F2 fs_refl (⟨by omega, by omega⟩) (by omega) (by simpa using hf2) (by simpa using hn2)
    have b235_ : 0 ≤ F 344 33 ∧ F 344 33 ≤ 6 := gi_g hgi rfl
    have b236_ : 0 ≤ F1 344 36 ∧ F1 344 36 ≤ 216 := gi_g hg_F1 rfl
    exact L20_ _ (0) F1 rfl hg_F1 fs_refl (⟨by omega, by omega⟩) (by omega) (by simpa using hf) (by simpa using hn1)
  have b237_ : 0 ≤ F 344 17 ∧ F 344 17 ≤ 6 := gi_g hgi rfl
  have e238_ : F1_ 344 36 = 0 := by rw [q2_]; exact fl_u_eq
  exact L6_ _ (0) F1_ rfl g3_ fs_refl (⟨by omega, by omega⟩) (by show _ = ((0 : Nat) : Int); omega) (fnr_0)

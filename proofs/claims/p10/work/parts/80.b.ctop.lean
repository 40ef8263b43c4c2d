/-! CheapPlanner itself -/
def fnd (F : fl_N) : Prop := F 331 11 = 1 → 0 ≤ F 335 200 ∧ F 335 200 ≤ 200
def dmi (F : fl_N) : Prop := F 0 7 = 1 → di F (F 15 2).toNat
theorem fnd_cg {F F2 : fl_N} (h : fnd F) (c : F2 331 11 = F 331 11) (o : F2 335 200 = F 335 200) : fnd F2 := by
  unfold fnd at *
  rw [c, o]
  exact h

/-- what the class holds of a problem that fits -/
def pbC (F : fl_N) (ps : List (List Int)) (tl : List Int) (D : List ad_T) (Li Lg : List lt_T) : Prop := (F 120 1 = (nfc ps tl 216 : Int) ∧ nfc ps tl 216 ≤ 40) ∧ fnr F 121 ps tl 216 ∧ (F 120 3 = ((stP tl D D.length).length : Int) ∧ F 120 3 ≤ 40) ∧ sts F D (stP tl D D.length) ∧ F 120 4 = msk (F 121) (F 125) 0 Li ∧ (F 123 0 = msk (F 121) (F 125) 0 Lg ∧ F 123 1 = msk (F 121) (F 125) 1 Lg ∧ F 123 2 = (if eqh Lg (F 125) = true then 1 else 0))

/- CheapPlanner.forgetProblem -/
abbrev pq_15 (G : Nat → Nat → Option Nat) (F : fl_N) (X : xi_H)  : Outcome → xi_H → Prop := gqv (fun A => ∃ F' : fl_N, fl_H sh_T G F' ++ X = A ∧ gi F' ∧ fs [(0, 0, 8, 8), (0, 0, 10, 10), (0, 0, 12, 12), (331, 331, 8, 8), (331, 331, 10, 11), (335, 335, 0, 100000), (338, 338, 0, 100000)] F F' ∧ (F' 331 11 = 0) ∧ (F' 0 8 = 0 ∧ F' 0 10 = 0)) gqn
theorem mc_15 {G : Nat → Nat → Option Nat} (hG : gg G) (F : fl_N) (X : xi_H) (hgi : gi F)  : fl_M xi_ms 15 2 43 [.ref 0] (fl_H sh_T G F ++ X) (pq_15 G F X) := by
  intro fr lo hfr hlo
  show fl_R xi_ms 15 fr lo 0 [(0, .ref 0)] [] _ _
  refine ga_aload_n (v := .ref 0) hm_15 rfl rfl rfl ?_
  refine fl_iconst hm_15 rfl ?_
  refine ga_putz (z := 0) hm_15 rfl sc_0 rfl rfl (by omega) ?_
  refine ga_aload_n (v := .ref 0) hm_15 rfl rfl rfl ?_
  refine ga_getr (b := 331) hm_15 rfl sc_0 rfl ?_
  obtain ⟨F1_, q2_⟩ : ∃ Fq_, Fq_ = (fl_u F 0 8 0) := ⟨_, rfl⟩
  rw [← q2_]
  have g3_ : gi F1_ := by rw [q2_]; exact gi_u (hgi) rfl (by omega) (by omega)
  have g4_ : fs [(0, 0, 8, 8), (0, 0, 10, 10), (0, 0, 12, 12), (331, 331, 8, 8), (331, 331, 10, 11), (335, 335, 0, 100000), (338, 338, 0, 100000)] F F1_ := by rw [q2_]; exact fs_u (fs_refl) rfl
  refine gVv (nY := 1) (F := 1) (L := 23) (As := []) (b := 331) (rest := []) hm_15 rfl hm_40 rfl rfl (fl_ob sc_331) rfl rfl rfl rfl rfl (by omega) (by omega) (mc_40 hG F1_ X g3_) (fun _ _ h => False.elim h) ?_
  rintro A1_ ⟨F9_, hA_, g10_, s11_, c6_, c7_, c8_⟩
  subst hA_
  have g12_ : fs [(0, 0, 8, 8), (0, 0, 10, 10), (0, 0, 12, 12), (331, 331, 8, 8), (331, 331, 10, 11), (335, 335, 0, 100000), (338, 338, 0, 100000)] F F9_ := fs_tr g4_ s11_ rfl
  refine ga_aload_n (v := .ref 0) hm_15 rfl rfl rfl ?_
  refine fl_iconst hm_15 rfl ?_
  refine ga_puti (z := 0) hm_15 rfl sc_0 rfl rfl ?_
  refine ga_aload_n (v := .ref 0) hm_15 rfl rfl rfl ?_
  refine fl_iconst hm_15 rfl ?_
  refine ga_puti (z := 0) hm_15 rfl sc_0 rfl rfl ?_
  obtain ⟨F13_, q14_⟩ : ∃ Fq_, Fq_ = (fl_u (fl_u F9_ 0 12 0) 0 10 0) := ⟨_, rfl⟩
  rw [← q14_]
  have g15_ : gi F13_ := by rw [q14_]; exact gi_u (gi_u (g10_) rfl (by omega) (by omega)) rfl (by omega) (by omega)
  have g16_ : fs [(0, 0, 8, 8), (0, 0, 10, 10), (0, 0, 12, 12), (331, 331, 8, 8), (331, 331, 10, 11), (335, 335, 0, 100000), (338, 338, 0, 100000)] F F13_ := by rw [q14_]; exact fs_u (fs_u (g12_) rfl) rfl
  refine gr_v hm_15 rfl rfl ?_
  have e17_ : F13_ 331 11 = F9_ 331 11 := by rw [q14_]; exact (fl_u_ne (by first | exact nc_ rfl | decide | omega)).trans (fl_u_ne (by first | exact nc_ rfl | decide | omega))
  have b18_ : 0 ≤ F9_ 331 11 ∧ F9_ 331 11 ≤ 1 := gi_g g10_ rfl
  have e19_ : F13_ 0 10 = 0 := by rw [q14_]; exact fl_u_eq
  have e20_ : F1_ 0 8 = 0 := by rw [q2_]; exact fl_u_eq
  have e21_ : F9_ 0 8 = 0 := (s11_ 0 8 rfl).trans (e20_)
  have e22_ : F13_ 0 8 = 0 := by rw [q14_]; exact (fl_u_ne (by first | exact nc_ rfl | decide | omega)).trans ((fl_u_ne (by first | exact nc_ rfl | decide | omega)).trans (e21_))
  exact ⟨F13_, rfl, g15_, g16_, (by omega), (⟨by omega, by omega⟩)⟩
/- CheapPlanner.fault -/
abbrev pq_4 (G : Nat → Nat → Option Nat) (F : fl_N) (X : xi_H)  : Outcome → xi_H → Prop := gqi (fun z A => fl_H sh_T G F ++ X = A ∧ (-2147483648 ≤ z ∧ z ≤ 2147483647) ∧ (z = F 1 8)) gqn
theorem mc_4 {G : Nat → Nat → Option Nat} (hG : gg G) (F : fl_N) (X : xi_H) (hgi : gi F)  : fl_M xi_ms 4 1 20 [.ref 0] (fl_H sh_T G F ++ X) (pq_4 G F X) := by
  intro fr lo hfr hlo
  show fl_R xi_ms 4 fr lo 0 [(0, .ref 0)] [] _ _
  refine ga_aload_n (v := .ref 0) hm_4 rfl rfl rfl ?_
  refine ga_getr (b := 1) hm_4 rfl sc_0 rfl ?_
  refine gIi (nY := 1) (F := 0) (L := 0) (As := []) (b := 1) (rest := []) hm_4 rfl hm_19 rfl rfl (fl_ob sc_1) rfl rfl rfl rfl rfl (by omega) (by omega) ?_
  intro f1_ l2_ h3_ h4_
  show fl_R xi_ms 19 f1_ l2_ 0 [(0, .ref 1)] [] _ _
  refine ga_aload_n (v := .ref 1) hm_19 rfl rfl rfl ?_
  have b5_ : 0 ≤ F 1 8 ∧ F 1 8 ≤ 100000 := gi_g hgi rfl
  refine ga_geti (z := F 1 8) hm_19 rfl sc_1 rfl (rfl) ?_
  refine gr_i hm_19 rfl rfl rfl ?_
  clear h3_ h4_ f1_ l2_
  refine gr_i (z := F 1 8) hm_4 rfl rfl rfl ?_
  exact ⟨rfl, (⟨by omega, by omega⟩), (by omega)⟩
/- CheapPlanner.steps -/
abbrev pq_6 (G : Nat → Nat → Option Nat) (F : fl_N) (X : xi_H)  : Outcome → xi_H → Prop := gqi (fun z A => ∃ F' : fl_N, fl_H sh_T G F' ++ X = A ∧ gi F' ∧ fs [] F F' ∧ (-2147483648 ≤ z ∧ z ≤ 2147483647)) (fun j A => ∃ (F' : fl_N) (ci : Nat), (ci = 17) ∧ (387 + X.length = j ∧ fl_H sh_T G F' ++ (X ++ [gx ci]) = A) ∧ gi F' ∧ fs [] F F')
theorem mc_6 {G : Nat → Nat → Option Nat} (hG : gg G) (F : fl_N) (X : xi_H) (hgi : gi F)  : fl_M xi_ms 6 6 100 [.ref 0] (fl_H sh_T G F ++ X) (pq_6 G F X) := by
  intro fr lo hfr hlo
  show fl_R xi_ms 6 fr lo 0 [(0, .ref 0)] [] _ _
  refine ga_aload_n (v := .ref 0) hm_6 rfl rfl rfl ?_
  refine ga_getr (b := 331) hm_6 rfl sc_0 rfl ?_
  refine gIi (nY := 1) (F := 0) (L := 0) (As := []) (b := 331) (rest := []) hm_6 rfl hm_41 rfl rfl (fl_ob sc_331) rfl rfl rfl rfl rfl (by omega) (by omega) ?_
  intro f1_ l2_ h3_ h4_
  show fl_R xi_ms 41 f1_ l2_ 0 [(0, .ref 331)] [] _ _
  refine ga_aload_n (v := .ref 331) hm_41 rfl rfl rfl ?_
  have b5_ : 0 ≤ F 331 11 ∧ F 331 11 ≤ 1 := gi_g hgi rfl
  refine ga_geti (z := F 331 11) hm_41 rfl sc_331 rfl (rfl) ?_
  refine gr_i hm_41 rfl rfl (ga_nb (by omega)) ?_
  clear h3_ h4_ f1_ l2_
  refine fx_if_ne (a := F 331 11) hm_6 rfl ⟨by omega, by omega⟩ (fun h6_ => ?_) (fun h7_ => ?_)
  ·
    refine ga_aload_n (v := .ref 0) hm_6 rfl rfl rfl ?_
    refine ga_getr (b := 331) hm_6 rfl sc_0 rfl ?_
    refine gIi (nY := 1) (F := 0) (L := 0) (As := []) (b := 331) (rest := []) hm_6 rfl hm_132 rfl rfl (fl_ob sc_331) rfl rfl rfl rfl rfl (by omega) (by omega) ?_
    intro f8_ l9_ h10_ h11_
    show fl_R xi_ms 132 f8_ l9_ 0 [(0, .ref 331)] [] _ _
    refine ga_aload_n (v := .ref 331) hm_132 rfl rfl rfl ?_
    refine ga_getr (b := 335) hm_132 rfl sc_331 rfl ?_
    refine fl_sipush hm_132 rfl rfl ?_
    have b12_ : -2147483648 ≤ F 335 200 ∧ F 335 200 ≤ 2147483647 := gi_g hgi rfl
    refine ga_iald (z := 200) (w := F 335 200) hm_132 rfl sc_335 (by omega) (by omega) (by omega) (rfl) ?_
    refine gr_i hm_132 rfl rfl rfl ?_
    clear h10_ h11_ f8_ l9_
    refine gr_i (z := F 335 200) hm_6 rfl rfl rfl ?_
    exact ⟨F, rfl, hgi, fs_refl, (⟨by omega, by omega⟩)⟩
  refine fl_thr hm_6 rfl rfl (by omega) (by omega) (Nat.le_of_ble_eq_true rfl) (fl_pos sc_0) ?_
  refine gw_i ?_
  exact ⟨F, 17, (rfl), ⟨ga_len.symm, (List.append_assoc _ _ _).symm⟩, hgi, fs_refl⟩
/- CheapPlanner.step -/
abbrev pq_7 (G : Nat → Nat → Option Nat) (F : fl_N) (X : xi_H) (k : Int) : Outcome → xi_H → Prop := gqi (fun z A => ∃ F' : fl_N, fl_H sh_T G F' ++ X = A ∧ gi F' ∧ fs [] F F' ∧ (-2147483648 ≤ z ∧ z ≤ 2147483647)) (fun j A => ∃ (F' : fl_N) (ci : Nat), (ci = 17) ∧ (387 + X.length = j ∧ fl_H sh_T G F' ++ (X ++ [gx ci]) = A) ∧ gi F' ∧ fs [] F F')
theorem mc_7 {G : Nat → Nat → Option Nat} (hG : gg G) (F : fl_N) (X : xi_H) (hgi : gi F) (k : Int) (hfd : fnd F) (hk : -2147483648 ≤ k ∧ k ≤ 2147483647) : fl_M xi_ms 7 6 100 [.ref 0, .int (Int32.ofInt k)] (fl_H sh_T G F ++ X) (pq_7 G F X k) := by
  intro fr lo hfr hlo
  show fl_R xi_ms 7 fr lo 0 [(0, .ref 0), (1, .int (Int32.ofInt k))] [] _ _
  refine ga_aload_n (v := .ref 0) hm_7 rfl rfl rfl ?_
  refine ga_getr (b := 331) hm_7 rfl sc_0 rfl ?_
  refine gIi (nY := 1) (F := 0) (L := 0) (As := []) (b := 331) (rest := []) hm_7 rfl hm_41 rfl rfl (fl_ob sc_331) rfl rfl rfl rfl rfl (by omega) (by omega) ?_
  intro f1_ l2_ h3_ h4_
  show fl_R xi_ms 41 f1_ l2_ 0 [(0, .ref 331)] [] _ _
  refine ga_aload_n (v := .ref 331) hm_41 rfl rfl rfl ?_
  have b5_ : 0 ≤ F 331 11 ∧ F 331 11 ≤ 1 := gi_g hgi rfl
  refine ga_geti (z := F 331 11) hm_41 rfl sc_331 rfl (rfl) ?_
  refine gr_i hm_41 rfl rfl (ga_nb (by omega)) ?_
  clear h3_ h4_ f1_ l2_
  refine fl_if_eq (a := F 331 11) hm_7 rfl ⟨by omega, by omega⟩ (fun h6_ => ?_) (fun h7_ => ?_)
  ·
    refine fl_thr hm_7 rfl rfl (by omega) (by omega) (Nat.le_of_ble_eq_true rfl) (fl_pos sc_0) ?_
    refine gw_i ?_
    exact ⟨F, 17, (rfl), ⟨ga_len.symm, (List.append_assoc _ _ _).symm⟩, hgi, fs_refl⟩
  refine ga_iload_n (z := k) hm_7 rfl rfl ?_
  refine fl_if_lt (a := k) hm_7 rfl ⟨by omega, by omega⟩ (fun h8_ => ?_) (fun h9_ => ?_)
  ·
    refine fl_thr hm_7 rfl rfl (by omega) (by omega) (Nat.le_of_ble_eq_true rfl) (fl_pos sc_0) ?_
    refine gw_i ?_
    exact ⟨F, 17, (rfl), ⟨ga_len.symm, (List.append_assoc _ _ _).symm⟩, hgi, fs_refl⟩
  refine ga_iload_n (z := k) hm_7 rfl rfl ?_
  refine ga_aload_n (v := .ref 0) hm_7 rfl rfl rfl ?_
  refine ga_getr (b := 331) hm_7 rfl sc_0 rfl ?_
  refine gIi (nY := 1) (F := 0) (L := 0) (As := []) (b := 331) (rest := [.int (Int32.ofInt k)]) hm_7 rfl hm_132 rfl rfl (fl_ob sc_331) rfl rfl rfl rfl rfl (by omega) (by omega) ?_
  intro f10_ l11_ h12_ h13_
  show fl_R xi_ms 132 f10_ l11_ 0 [(0, .ref 331)] [] _ _
  refine ga_aload_n (v := .ref 331) hm_132 rfl rfl rfl ?_
  refine ga_getr (b := 335) hm_132 rfl sc_331 rfl ?_
  refine fl_sipush hm_132 rfl rfl ?_
  have b14_ : -2147483648 ≤ F 335 200 ∧ F 335 200 ≤ 2147483647 := gi_g hgi rfl
  refine ga_iald (z := 200) (w := F 335 200) hm_132 rfl sc_335 (by omega) (by omega) (by omega) (rfl) ?_
  refine gr_i hm_132 rfl rfl rfl ?_
  clear h12_ h13_ f10_ l11_
  refine fl_icmp_lt (a := k) (b := F 335 200) hm_7 rfl ⟨by omega, by omega⟩ ⟨by omega, by omega⟩ (fun h15_ => ?_) (fun h16_ => ?_)
  ·
    have hf1 := hfd (by omega)
    refine ga_aload_n (v := .ref 0) hm_7 rfl rfl rfl ?_
    refine ga_getr (b := 331) hm_7 rfl sc_0 rfl ?_
    refine ga_iload_n (z := k) hm_7 rfl rfl ?_
    refine gIi (nY := 2) (F := 0) (L := 0) (As := [.int (Int32.ofInt k)]) (b := 331) (rest := []) hm_7 rfl hm_133 rfl rfl (fl_ob sc_331) rfl rfl rfl rfl rfl (by omega) (by omega) ?_
    intro f17_ l18_ h19_ h20_
    show fl_R xi_ms 133 f17_ l18_ 0 [(0, .ref 331), (1, .int (Int32.ofInt k))] [] _ _
    refine ga_aload_n (v := .ref 331) hm_133 rfl rfl rfl ?_
    refine ga_getr (b := 339) hm_133 rfl sc_331 rfl ?_
    refine ga_iload_n (z := k) hm_133 rfl rfl ?_
    have b21_ : 0 ≤ F 339 k.toNat ∧ F 339 k.toNat ≤ 40 := gi_g hgi rfl
    refine ga_iald (z := k) (w := F 339 k.toNat) hm_133 rfl sc_339 (by omega) (by omega) (by omega) (rfl) ?_
    refine gr_i hm_133 rfl rfl rfl ?_
    clear h19_ h20_ f17_ l18_
    refine gr_i (z := F 339 k.toNat) hm_7 rfl rfl rfl ?_
    exact ⟨F, rfl, hgi, fs_refl, (⟨by omega, by omega⟩)⟩
  refine fl_thr hm_7 rfl rfl (by omega) (by omega) (Nat.le_of_ble_eq_true rfl) (fl_pos sc_0) ?_
  refine gw_i ?_
  exact ⟨F, 17, (rfl), ⟨ga_len.symm, (List.append_assoc _ _ _).symm⟩, hgi, fs_refl⟩
/- CheapPlanner.ground -/
abbrev pq_8 (G : Nat → Nat → Option Nat) (F : fl_N) (X : xi_H) (k w : Int) : Outcome → xi_H → Prop := gqi (fun z A => ∃ F' : fl_N, fl_H sh_T G F' ++ X = A ∧ gi F' ∧ fs [] F F' ∧ (-2147483648 ≤ z ∧ z ≤ 2147483647) ∧ ((F 0 8 = 1 ∧ 0 ≤ k ∧ k < F 120 3) ∧ gV F k w z)) (fun j A => ∃ (F' : fl_N) (ci : Nat), (ci = 17 ∨ ci = 14) ∧ (387 + X.length = j ∧ fl_H sh_T G F' ++ (X ++ [gx ci]) = A) ∧ gi F' ∧ fs [] F F' ∧ ((ci = 17 ∧ ¬ (F 0 8 = 1 ∧ 0 ≤ k ∧ k < F 120 3)) ∨ (ci = 14 ∧ (F 0 8 = 1 ∧ 0 ≤ k ∧ k < F 120 3) ∧ ¬ (0 ≤ w ∧ w ≤ 4))))
theorem mc_8 {G : Nat → Nat → Option Nat} (hG : gg G) (F : fl_N) (X : xi_H) (hgi : gi F) (k w : Int) (hk : -2147483648 ≤ k ∧ k ≤ 2147483647) (hw : -2147483648 ≤ w ∧ w ≤ 2147483647) : fl_M xi_ms 8 6 100 [.ref 0, .int (Int32.ofInt k), .int (Int32.ofInt w)] (fl_H sh_T G F ++ X) (pq_8 G F X k w) := by
  intro fr lo hfr hlo
  show fl_R xi_ms 8 fr lo 0 [(0, .ref 0), (1, .int (Int32.ofInt k)), (2, .int (Int32.ofInt w))] [] _ _
  refine ga_aload_n (v := .ref 0) hm_8 rfl rfl rfl ?_
  refine ga_iload_n (z := k) hm_8 rfl rfl ?_
  refine gIi (nY := 2) (F := 0) (L := 0) (As := [.int (Int32.ofInt k)]) (b := 0) (rest := []) hm_8 rfl hm_14 rfl rfl (fl_ob sc_0) rfl rfl rfl rfl rfl (by omega) (by omega) ?_
  intro f1_ l2_ h3_ h4_
  show fl_R xi_ms 14 f1_ l2_ 0 [(0, .ref 0), (1, .int (Int32.ofInt k))] [] _ _
  refine ga_aload_n (v := .ref 0) hm_14 rfl rfl rfl ?_
  have b5_ : 0 ≤ F 0 8 ∧ F 0 8 ≤ 1 := gi_g hgi rfl
  refine ga_geti (z := F 0 8) hm_14 rfl sc_0 rfl (rfl) ?_
  refine fl_if_eq (a := F 0 8) hm_14 rfl ⟨by omega, by omega⟩ (fun h6_ => ?_) (fun h7_ => ?_)
  ·
    refine fl_iconst hm_14 rfl ?_
    refine gr_i hm_14 rfl rfl (ga_nb (by omega)) ?_
    clear h3_ h4_ f1_ l2_
    refine fl_if_ne hm_8 rfl ⟨by omega, by omega⟩ (fun h => absurd h (by omega)) (fun _ => ?_)
    refine fl_thr hm_8 rfl rfl (by omega) (by omega) (Nat.le_of_ble_eq_true rfl) (fl_pos sc_0) ?_
    refine gw_i ?_
    have b8_ : 0 ≤ F 120 3 ∧ F 120 3 ≤ 41 := gi_g hgi rfl
    exact ⟨F, 17, (Or.inl rfl), ⟨ga_len.symm, (List.append_assoc _ _ _).symm⟩, hgi, fs_refl, (by first | exact Or.inl ⟨rfl, by omega⟩ | exact Or.inr ⟨rfl, ⟨by omega, by omega, by omega⟩, by omega⟩)⟩
  refine ga_iload_n (z := k) hm_14 rfl rfl ?_
  refine fl_if_lt (a := k) hm_14 rfl ⟨by omega, by omega⟩ (fun h9_ => ?_) (fun h10_ => ?_)
  ·
    refine fl_iconst hm_14 rfl ?_
    refine gr_i hm_14 rfl rfl (ga_nb (by omega)) ?_
    clear h3_ h4_ f1_ l2_
    refine fl_if_ne hm_8 rfl ⟨by omega, by omega⟩ (fun h => absurd h (by omega)) (fun _ => ?_)
    refine fl_thr hm_8 rfl rfl (by omega) (by omega) (Nat.le_of_ble_eq_true rfl) (fl_pos sc_0) ?_
    refine gw_i ?_
    have b11_ : 0 ≤ F 120 3 ∧ F 120 3 ≤ 41 := gi_g hgi rfl
    exact ⟨F, 17, (Or.inl rfl), ⟨ga_len.symm, (List.append_assoc _ _ _).symm⟩, hgi, fs_refl, (by first | exact Or.inl ⟨rfl, by omega⟩ | exact Or.inr ⟨rfl, ⟨by omega, by omega, by omega⟩, by omega⟩)⟩
  refine ga_iload_n (z := k) hm_14 rfl rfl ?_
  refine ga_aload_n (v := .ref 0) hm_14 rfl rfl rfl ?_
  refine ga_getr (b := 120) hm_14 rfl sc_0 rfl ?_
  have b12_ : 0 ≤ F 120 3 ∧ F 120 3 ≤ 41 := gi_g hgi rfl
  refine ga_geti (z := F 120 3) hm_14 rfl sc_120 rfl (rfl) ?_
  refine fl_icmp_ge (a := k) (b := F 120 3) hm_14 rfl ⟨by omega, by omega⟩ ⟨by omega, by omega⟩ (fun h13_ => ?_) (fun h14_ => ?_)
  ·
    refine fl_iconst hm_14 rfl ?_
    refine gr_i hm_14 rfl rfl (ga_nb (by omega)) ?_
    clear h3_ h4_ f1_ l2_
    refine fl_if_ne hm_8 rfl ⟨by omega, by omega⟩ (fun h => absurd h (by omega)) (fun _ => ?_)
    refine fl_thr hm_8 rfl rfl (by omega) (by omega) (Nat.le_of_ble_eq_true rfl) (fl_pos sc_0) ?_
    refine gw_i ?_
    exact ⟨F, 17, (Or.inl rfl), ⟨ga_len.symm, (List.append_assoc _ _ _).symm⟩, hgi, fs_refl, (by first | exact Or.inl ⟨rfl, by omega⟩ | exact Or.inr ⟨rfl, ⟨by omega, by omega, by omega⟩, by omega⟩)⟩
  refine fl_iconst hm_14 rfl ?_
  refine fl_goto hm_14 rfl ?_
  refine gr_i hm_14 rfl rfl (ga_nb (by omega)) ?_
  clear h3_ h4_ f1_ l2_
  refine fl_if_ne hm_8 rfl ⟨by omega, by omega⟩ (fun _ => ?_) (fun h => absurd (by omega) h)
  refine ga_iload_n (z := w) hm_8 rfl rfl ?_
  refine fl_if_lt (a := w) hm_8 rfl ⟨by omega, by omega⟩ (fun h15_ => ?_) (fun h16_ => ?_)
  ·
    refine fl_thr hm_8 rfl rfl (by omega) (by omega) (Nat.le_of_ble_eq_true rfl) (fl_pos sc_0) ?_
    refine gw_i ?_
    exact ⟨F, 14, (Or.inr (rfl)), ⟨ga_len.symm, (List.append_assoc _ _ _).symm⟩, hgi, fs_refl, (by first | exact Or.inl ⟨rfl, by omega⟩ | exact Or.inr ⟨rfl, ⟨by omega, by omega, by omega⟩, by omega⟩)⟩
  refine ga_iload_n (z := w) hm_8 rfl rfl ?_
  refine fl_iconst hm_8 rfl ?_
  refine fl_icmp_le (a := w) (b := 4) hm_8 rfl ⟨by omega, by omega⟩ ⟨by omega, by omega⟩ (fun h17_ => ?_) (fun h18_ => ?_)
  ·
    refine ga_aload_n (v := .ref 0) hm_8 rfl rfl rfl ?_
    refine ga_getr (b := 120) hm_8 rfl sc_0 rfl ?_
    refine ga_getr (b := 122) hm_8 rfl sc_120 rfl ?_
    refine ga_iload_n (z := k) hm_8 rfl rfl ?_
    obtain ⟨a19_, r20_, n21_, q22_⟩ := ra_122 (k).toNat (by omega)
    refine fl_aald (z := k) (q := a19_) hm_8 rfl sc_122 (hG _ _ _ sc_122) rfl (by omega) (by simp only [List.length_cons, List.length_nil]; omega) (by simp only [List.length_cons, List.length_nil]; omega) r20_ ?_
    refine ga_astore_n (lv2 := [(3, .ref a19_), (0, .ref 0), (1, .int (Int32.ofInt k)), (2, .int (Int32.ofInt w))]) hm_8 rfl (Nat.le_of_ble_eq_true rfl) rfl ?_
    refine ga_iload_n (z := w) hm_8 rfl rfl ?_
    refine fx_if_ne (a := w) hm_8 rfl ⟨by omega, by omega⟩ (fun h23_ => ?_) (fun h24_ => ?_)
    ·
      refine ga_iload_n (z := w) hm_8 rfl rfl ?_
      refine fl_iconst hm_8 rfl ?_
      refine fx_icmp_ne (a := w) (b := 4) hm_8 rfl ⟨by omega, by omega⟩ ⟨by omega, by omega⟩ (fun h25_ => ?_) (fun h26_ => ?_)
      ·
        refine ga_aload_n (v := .ref a19_) hm_8 rfl rfl rfl ?_
        refine ga_getr (b := a19_ + 1) hm_8 rfl n21_.1.1 rfl ?_
        refine ga_iload_n (z := w) hm_8 rfl rfl ?_
        refine fl_iconst hm_8 rfl ?_
        refine ga_isub (a := w) (b := 1) (c := w - 1) hm_8 rfl (by omega) ?_
        have b27_ : -1 ≤ F (a19_ + 1) (w - 1).toNat ∧ F (a19_ + 1) (w - 1).toNat ≤ 5 := gi_g hgi (gb_a n21_.2.1.2.1)
        refine ga_iald (z := w - 1) (w := F (a19_ + 1) (w - 1).toNat) hm_8 rfl n21_.1.2.1 (by omega) (by omega) (by omega) (rfl) ?_
        refine gr_i (z := F (a19_ + 1) (w - 1).toNat) hm_8 rfl rfl rfl ?_
        exact ⟨F, rfl, hgi, fs_refl, (⟨by omega, by omega⟩), (⟨⟨by omega, by omega, by omega⟩, by unfold gV; rw [← q22_]; first | exact Or.inl ⟨by omega, rfl⟩ | exact Or.inr (Or.inl ⟨by omega, rfl⟩) | exact Or.inr (Or.inr ⟨⟨by omega, by omega⟩, rfl⟩)⟩)⟩
      refine ga_aload_n (v := .ref a19_) hm_8 rfl rfl rfl ?_
      have b28_ : 0 ≤ F a19_ 2 ∧ F a19_ 2 ≤ 999 := gi_g hgi n21_.2.1.2.2.1
      refine ga_geti (z := F a19_ 2) hm_8 rfl n21_.1.1 rfl (rfl) ?_
      refine fl_goto hm_8 rfl ?_
      refine gr_i (z := F a19_ 2) hm_8 rfl rfl rfl ?_
      exact ⟨F, rfl, hgi, fs_refl, (⟨by omega, by omega⟩), (⟨⟨by omega, by omega, by omega⟩, by unfold gV; rw [← q22_]; first | exact Or.inl ⟨by omega, rfl⟩ | exact Or.inr (Or.inl ⟨by omega, rfl⟩) | exact Or.inr (Or.inr ⟨⟨by omega, by omega⟩, rfl⟩)⟩)⟩
    refine ga_aload_n (v := .ref a19_) hm_8 rfl rfl rfl ?_
    have b29_ : 0 ≤ F a19_ 0 ∧ F a19_ 0 ≤ 4 := gi_g hgi n21_.2.1.1
    refine ga_geti (z := F a19_ 0) hm_8 rfl n21_.1.1 rfl (rfl) ?_
    refine gr_i (z := F a19_ 0) hm_8 rfl rfl rfl ?_
    exact ⟨F, rfl, hgi, fs_refl, (⟨by omega, by omega⟩), (⟨⟨by omega, by omega, by omega⟩, by unfold gV; rw [← q22_]; first | exact Or.inl ⟨by omega, rfl⟩ | exact Or.inr (Or.inl ⟨by omega, rfl⟩) | exact Or.inr (Or.inr ⟨⟨by omega, by omega⟩, rfl⟩)⟩)⟩
  refine fl_thr hm_8 rfl rfl (by omega) (by omega) (Nat.le_of_ble_eq_true rfl) (fl_pos sc_0) ?_
  refine gw_i ?_
  exact ⟨F, 14, (Or.inr (rfl)), ⟨ga_len.symm, (List.append_assoc _ _ _).symm⟩, hgi, fs_refl, (by first | exact Or.inl ⟨rfl, by omega⟩ | exact Or.inr ⟨rfl, ⟨by omega, by omega, by omega⟩, by omega⟩)⟩
/- CheapPlanner.letter -/
abbrev pq_9 (G : Nat → Nat → Option Nat) (F : fl_N) (X : xi_H) (k : Int) : Outcome → xi_H → Prop := gqi (fun z A => ∃ F' : fl_N, fl_H sh_T G F' ++ X = A ∧ gi F' ∧ fs [] F F' ∧ (0 ≤ z ∧ z ≤ 65535)) (fun j A => ∃ (F' : fl_N) (ci : Nat), (ci = 18) ∧ (387 + X.length = j ∧ fl_H sh_T G F' ++ (X ++ [gx ci]) = A) ∧ gi F' ∧ fs [] F F')
theorem mc_9 {G : Nat → Nat → Option Nat} (hG : gg G) (F : fl_N) (X : xi_H) (hgi : gi F) (k : Int) (hk : -2147483648 ≤ k ∧ k ≤ 2147483647) : fl_M xi_ms 9 6 100 [.ref 0, .int (Int32.ofInt k)] (fl_H sh_T G F ++ X) (pq_9 G F X k) := by
  intro fr lo hfr hlo
  show fl_R xi_ms 9 fr lo 0 [(0, .ref 0), (1, .int (Int32.ofInt k))] [] _ _
  refine ga_iload_n (z := k) hm_9 rfl rfl ?_
  refine fl_if_lt (a := k) hm_9 rfl ⟨by omega, by omega⟩ (fun h1_ => ?_) (fun h2_ => ?_)
  ·
    refine fl_thr hm_9 rfl rfl (by omega) (by omega) (Nat.le_of_ble_eq_true rfl) (fl_pos sc_0) ?_
    refine gw_i ?_
    exact ⟨F, 18, (rfl), ⟨ga_len.symm, (List.append_assoc _ _ _).symm⟩, hgi, fs_refl⟩
  refine ga_iload_n (z := k) hm_9 rfl rfl ?_
  refine ga_aload_n (v := .ref 0) hm_9 rfl rfl rfl ?_
  have b3_ : 0 ≤ F 0 12 ∧ F 0 12 ≤ 6000 := gi_g hgi rfl
  refine ga_geti (z := F 0 12) hm_9 rfl sc_0 rfl (rfl) ?_
  refine fl_icmp_lt (a := k) (b := F 0 12) hm_9 rfl ⟨by omega, by omega⟩ ⟨by omega, by omega⟩ (fun h4_ => ?_) (fun h5_ => ?_)
  ·
    refine ga_aload_n (v := .ref 0) hm_9 rfl rfl rfl ?_
    refine ga_getr (b := 343) hm_9 rfl sc_0 rfl ?_
    refine ga_iload_n (z := k) hm_9 rfl rfl ?_
    have b6_ : 0 ≤ F 343 k.toNat ∧ F 343 k.toNat ≤ 65535 := gi_g hgi rfl
    refine ga_cald (z := k) (w := F 343 k.toNat) hm_9 rfl sc_343 (by omega) (by omega) (by omega) (rfl) ?_
    refine gr_i (z := F 343 k.toNat) hm_9 rfl rfl (ga_nc (by omega) (by omega)) ?_
    exact ⟨F, rfl, hgi, fs_refl, (⟨by omega, by omega⟩)⟩
  refine fl_thr hm_9 rfl rfl (by omega) (by omega) (Nat.le_of_ble_eq_true rfl) (fl_pos sc_0) ?_
  refine gw_i ?_
  exact ⟨F, 18, (rfl), ⟨ga_len.symm, (List.append_assoc _ _ _).symm⟩, hgi, fs_refl⟩
/- CheapPlanner.put -/
abbrev pq_10 (G : Nat → Nat → Option Nat) (F : fl_N) (X : xi_H) (k : Int) : Outcome → xi_H → Prop := gqi (fun z A => ∃ F' : fl_N, fl_H sh_T G F' ++ X = A ∧ gi F' ∧ fs [(0, 0, 10, 10), (342, 342, 0, 100000)] F F' ∧ (0 ≤ z ∧ z ≤ 1) ∧ ((z = 1 ∧ (F 0 8 = 1 ∧ 0 ≤ k ∧ k < F 120 3 ∧ F 0 10 < 60) ∧ F' 0 10 = F 0 10 + 1 ∧ F' 342 (F 0 10).toNat = k ∧ ∀ j : Nat, (j : Int) < F 0 10 → F' 342 j = F 342 j) ∨ (z = 0 ∧ ¬ (F 0 8 = 1 ∧ 0 ≤ k ∧ k < F 120 3 ∧ F 0 10 < 60) ∧ F' 0 10 = F 0 10 ∧ ∀ j, F' 342 j = F 342 j))) gqn
theorem mc_10 {G : Nat → Nat → Option Nat} (hG : gg G) (F : fl_N) (X : xi_H) (hgi : gi F) (k : Int) (hk : -2147483648 ≤ k ∧ k ≤ 2147483647) : fl_M xi_ms 10 1 21 [.ref 0, .int (Int32.ofInt k)] (fl_H sh_T G F ++ X) (pq_10 G F X k) := by
  intro fr lo hfr hlo
  show fl_R xi_ms 10 fr lo 0 [(0, .ref 0), (1, .int (Int32.ofInt k))] [] _ _
  refine ga_aload_n (v := .ref 0) hm_10 rfl rfl rfl ?_
  refine ga_iload_n (z := k) hm_10 rfl rfl ?_
  refine gIi (nY := 2) (F := 0) (L := 0) (As := [.int (Int32.ofInt k)]) (b := 0) (rest := []) hm_10 rfl hm_14 rfl rfl (fl_ob sc_0) rfl rfl rfl rfl rfl (by omega) (by omega) ?_
  intro f1_ l2_ h3_ h4_
  show fl_R xi_ms 14 f1_ l2_ 0 [(0, .ref 0), (1, .int (Int32.ofInt k))] [] _ _
  refine ga_aload_n (v := .ref 0) hm_14 rfl rfl rfl ?_
  have b5_ : 0 ≤ F 0 8 ∧ F 0 8 ≤ 1 := gi_g hgi rfl
  refine ga_geti (z := F 0 8) hm_14 rfl sc_0 rfl (rfl) ?_
  refine fl_if_eq (a := F 0 8) hm_14 rfl ⟨by omega, by omega⟩ (fun h6_ => ?_) (fun h7_ => ?_)
  ·
    refine fl_iconst hm_14 rfl ?_
    refine gr_i hm_14 rfl rfl (ga_nb (by omega)) ?_
    clear h3_ h4_ f1_ l2_
    refine fl_if_eq hm_10 rfl ⟨by omega, by omega⟩ (fun _ => ?_) (fun h => absurd (by omega) h)
    refine fl_iconst hm_10 rfl ?_
    refine gr_i (z := 0) hm_10 rfl rfl (ga_nb (by omega)) ?_
    have b8_ : 0 ≤ F 0 10 ∧ F 0 10 ≤ 60 := gi_g hgi rfl
    have b9_ : 0 ≤ F 120 3 ∧ F 120 3 ≤ 41 := gi_g hgi rfl
    exact ⟨F, rfl, hgi, fs_refl, (⟨by omega, by omega⟩), (Or.inr ⟨rfl, by omega, by omega, fun j => rfl⟩)⟩
  refine ga_iload_n (z := k) hm_14 rfl rfl ?_
  refine fl_if_lt (a := k) hm_14 rfl ⟨by omega, by omega⟩ (fun h10_ => ?_) (fun h11_ => ?_)
  ·
    refine fl_iconst hm_14 rfl ?_
    refine gr_i hm_14 rfl rfl (ga_nb (by omega)) ?_
    clear h3_ h4_ f1_ l2_
    refine fl_if_eq hm_10 rfl ⟨by omega, by omega⟩ (fun _ => ?_) (fun h => absurd (by omega) h)
    refine fl_iconst hm_10 rfl ?_
    refine gr_i (z := 0) hm_10 rfl rfl (ga_nb (by omega)) ?_
    have b12_ : 0 ≤ F 0 10 ∧ F 0 10 ≤ 60 := gi_g hgi rfl
    have b13_ : 0 ≤ F 120 3 ∧ F 120 3 ≤ 41 := gi_g hgi rfl
    exact ⟨F, rfl, hgi, fs_refl, (⟨by omega, by omega⟩), (Or.inr ⟨rfl, by omega, by omega, fun j => rfl⟩)⟩
  refine ga_iload_n (z := k) hm_14 rfl rfl ?_
  refine ga_aload_n (v := .ref 0) hm_14 rfl rfl rfl ?_
  refine ga_getr (b := 120) hm_14 rfl sc_0 rfl ?_
  have b14_ : 0 ≤ F 120 3 ∧ F 120 3 ≤ 41 := gi_g hgi rfl
  refine ga_geti (z := F 120 3) hm_14 rfl sc_120 rfl (rfl) ?_
  refine fl_icmp_ge (a := k) (b := F 120 3) hm_14 rfl ⟨by omega, by omega⟩ ⟨by omega, by omega⟩ (fun h15_ => ?_) (fun h16_ => ?_)
  ·
    refine fl_iconst hm_14 rfl ?_
    refine gr_i hm_14 rfl rfl (ga_nb (by omega)) ?_
    clear h3_ h4_ f1_ l2_
    refine fl_if_eq hm_10 rfl ⟨by omega, by omega⟩ (fun _ => ?_) (fun h => absurd (by omega) h)
    refine fl_iconst hm_10 rfl ?_
    refine gr_i (z := 0) hm_10 rfl rfl (ga_nb (by omega)) ?_
    have b17_ : 0 ≤ F 0 10 ∧ F 0 10 ≤ 60 := gi_g hgi rfl
    exact ⟨F, rfl, hgi, fs_refl, (⟨by omega, by omega⟩), (Or.inr ⟨rfl, by omega, by omega, fun j => rfl⟩)⟩
  refine fl_iconst hm_14 rfl ?_
  refine fl_goto hm_14 rfl ?_
  refine gr_i hm_14 rfl rfl (ga_nb (by omega)) ?_
  clear h3_ h4_ f1_ l2_
  refine fl_if_eq hm_10 rfl ⟨by omega, by omega⟩ (fun h => absurd h (by omega)) (fun _ => ?_)
  refine ga_aload_n (v := .ref 0) hm_10 rfl rfl rfl ?_
  have b18_ : 0 ≤ F 0 10 ∧ F 0 10 ≤ 60 := gi_g hgi rfl
  refine ga_geti (z := F 0 10) hm_10 rfl sc_0 rfl (rfl) ?_
  refine fl_bipush hm_10 rfl rfl ?_
  refine fl_icmp_lt (a := F 0 10) (b := 60) hm_10 rfl ⟨by omega, by omega⟩ ⟨by omega, by omega⟩ (fun h19_ => ?_) (fun h20_ => ?_)
  ·
    refine ga_aload_n (v := .ref 0) hm_10 rfl rfl rfl ?_
    refine ga_getr (b := 342) hm_10 rfl sc_0 rfl ?_
    refine ga_aload_n (v := .ref 0) hm_10 rfl rfl rfl ?_
    refine ga_geti (z := F 0 10) hm_10 rfl sc_0 rfl (rfl) ?_
    refine ga_iload_n (z := k) hm_10 rfl rfl ?_
    refine fl_iast (z := F 0 10) (v := k) hm_10 rfl sc_342 (by omega) (by omega) (by omega) ?_
    refine ga_aload_n (v := .ref 0) hm_10 rfl rfl rfl ?_
    refine ga_dup hm_10 rfl rfl ?_
    refine ga_geti (z := F 0 10) hm_10 rfl sc_0 rfl (fl_u_ne (by first | exact nc_ rfl | decide | omega)) ?_
    refine fl_iconst hm_10 rfl ?_
    refine ga_iadd (a := F 0 10) (b := 1) (c := F 0 10 + 1) hm_10 rfl (by omega) ?_
    refine ga_puti (z := F 0 10 + 1) hm_10 rfl sc_0 rfl rfl ?_
    refine fl_iconst hm_10 rfl ?_
    obtain ⟨F21_, q22_⟩ : ∃ Fq_, Fq_ = (fl_u (fl_u F 342 (F 0 10).toNat k) 0 10 (F 0 10 + 1)) := ⟨_, rfl⟩
    rw [← q22_]
    have g23_ : gi F21_ := by rw [q22_]; exact gi_u (gi_u (hgi) rfl (by omega) (by omega)) rfl (by omega) (by omega)
    have g24_ : fs [(0, 0, 10, 10), (342, 342, 0, 100000)] F F21_ := by rw [q22_]; exact fs_u (fs_u (fs_refl) (fs_z (fs_y (by omega)))) rfl
    refine gr_i (z := 1) hm_10 rfl rfl (ga_nb (by omega)) ?_
    have e25_ : F21_ 0 10 = F 0 10 + 1 := by rw [q22_]; exact fl_u_eq
    have e26_ : F21_ 0 8 = F 0 8 := by rw [q22_]; exact (fl_u_ne (by first | exact nc_ rfl | decide | omega)).trans (fl_u_ne (by first | exact nc_ rfl | decide | omega))
    have e27_ : F21_ 342 (F 0 10).toNat = k := by rw [q22_]; exact (fl_u_ne (by first | exact nc_ rfl | decide | omega)).trans (fl_u_eq)
    exact ⟨F21_, rfl, g23_, g24_, (⟨by omega, by omega⟩), (Or.inl ⟨rfl, by omega, by omega, e27_, fun j hj => (show F21_ 342 j = F 342 j from (by rw [q22_]; exact (fl_u_ne (by first | exact nc_ rfl | decide | omega)).trans ((fl_u_ne (by first | exact nc_ rfl | decide | omega)))))⟩)⟩
  refine fl_iconst hm_10 rfl ?_
  refine gr_i (z := 0) hm_10 rfl rfl (ga_nb (by omega)) ?_
  exact ⟨F, rfl, hgi, fs_refl, (⟨by omega, by omega⟩), (Or.inr ⟨rfl, by omega, by omega, fun j => rfl⟩)⟩
/- CheapPlanner.check -/
abbrev pq_11 (G : Nat → Nat → Option Nat) (F : fl_N) (X : xi_H)  : Outcome → xi_H → Prop := gqi (fun z A => ∃ F' : fl_N, fl_H sh_T G F' ++ X = A ∧ gi F' ∧ fs [(0, 0, 10, 10)] F F' ∧ (-2147483648 ≤ z ∧ z ≤ 2147483647) ∧ (F 0 8 = 1 ∧ F' 0 10 = 0) ∧ (((∃ (j : Nat) (s c : Int), (j : Int) < F 0 10 ∧ ckC F j s c ∧ ¬ hC F (F 342 j) s ∧ z = -1 - (j : Int)) ∨ (∃ s c : Int, ckC F (F 0 10).toNat s c ∧ ((gC F s ∧ z = c) ∨ (¬ gC F s ∧ z = -100)))))) (fun j A => ∃ (F' : fl_N) (ci : Nat), (ci = 15) ∧ (387 + X.length = j ∧ fl_H sh_T G F' ++ (X ++ [gx ci]) = A) ∧ gi F' ∧ fs [(0, 0, 10, 10)] F F' ∧ (F 0 8 = 0))
theorem mc_11 {G : Nat → Nat → Option Nat} (hG : gg G) (F : fl_N) (X : xi_H) (hgi : gi F)  : fl_M xi_ms 11 7 120 [.ref 0] (fl_H sh_T G F ++ X) (pq_11 G F X) := by
  intro fr lo hfr hlo
  show fl_R xi_ms 11 fr lo 0 [(0, .ref 0)] [] _ _
  refine ga_aload_n (v := .ref 0) hm_11 rfl rfl rfl ?_
  refine gIv (nY := 1) (F := 6) (L := 100) (As := []) (b := 0) (rest := []) hm_11 rfl hm_13 rfl rfl (fl_ob sc_0) rfl rfl rfl rfl rfl (by omega) (by omega) ?_
  intro f1_ l2_ h3_ h4_
  show fl_R xi_ms 13 f1_ l2_ 0 [(0, .ref 0)] [] _ _
  refine ga_aload_n (v := .ref 0) hm_13 rfl rfl rfl ?_
  have b5_ : 0 ≤ F 0 8 ∧ F 0 8 ≤ 1 := gi_g hgi rfl
  refine ga_geti (z := F 0 8) hm_13 rfl sc_0 rfl (rfl) ?_
  refine fx_if_ne (a := F 0 8) hm_13 rfl ⟨by omega, by omega⟩ (fun h6_ => ?_) (fun h7_ => ?_)
  ·
    refine gr_v hm_13 rfl rfl ?_
    clear h3_ h4_ f1_ l2_
    refine ga_aload_n (v := .ref 0) hm_11 rfl rfl rfl ?_
    have b8_ : 0 ≤ F 0 10 ∧ F 0 10 ≤ 60 := gi_g hgi rfl
    refine ga_geti (z := F 0 10) hm_11 rfl sc_0 rfl (rfl) ?_
    refine ga_istore_n (lv2 := [(1, .int (Int32.ofInt (F 0 10))), (0, .ref 0)]) hm_11 rfl (Nat.le_of_ble_eq_true rfl) rfl ?_
    refine ga_aload_n (v := .ref 0) hm_11 rfl rfl rfl ?_
    refine fl_iconst hm_11 rfl ?_
    refine ga_puti (z := 0) hm_11 rfl sc_0 rfl rfl ?_
    refine ga_aload_n (v := .ref 0) hm_11 rfl rfl rfl ?_
    refine ga_getr (b := 120) hm_11 rfl sc_0 rfl ?_
    have b9_ : -9223372036854775808 ≤ F 120 4 ∧ F 120 4 ≤ 9223372036854775807 := gi_g hgi rfl
    refine ga_getl (z := F 120 4) hm_11 rfl sc_120 rfl (fl_u_ne (by first | exact nc_ rfl | decide | omega)) ?_
    refine ga_lstore_n (lv2 := [(2, .long (Int64.ofInt (F 120 4))), (1, .int (Int32.ofInt (F 0 10))), (0, .ref 0)]) hm_11 rfl (Nat.le_of_ble_eq_true rfl) rfl ?_
    refine fl_iconst hm_11 rfl ?_
    refine ga_istore (lv2 := [(4, .int (Int32.ofInt 0)), (2, .long (Int64.ofInt (F 120 4))), (1, .int (Int32.ofInt (F 0 10))), (0, .ref 0)]) hm_11 rfl (Nat.le_of_ble_eq_true rfl) rfl ?_
    refine fl_iconst hm_11 rfl ?_
    refine ga_istore (lv2 := [(5, .int (Int32.ofInt 0)), (4, .int (Int32.ofInt 0)), (2, .long (Int64.ofInt (F 120 4))), (1, .int (Int32.ofInt (F 0 10))), (0, .ref 0)]) hm_11 rfl (Nat.le_of_ble_eq_true rfl) rfl ?_
    obtain ⟨F10_, q11_⟩ : ∃ Fq_, Fq_ = (fl_u F 0 10 0) := ⟨_, rfl⟩
    rw [← q11_]
    have g12_ : gi F10_ := by rw [q11_]; exact gi_u (hgi) rfl (by omega) (by omega)
    have g13_ : fs [(0, 0, 10, 10)] F F10_ := by rw [q11_]; exact fs_u (fs_refl) rfl
    have L15_ : ∀ (n14_ : Nat) (k : Int) (co : Int) (st : Int), (60 - k : Int).toNat = n14_ → (0 ≤ k ∧ k ≤ 60 ∧ k ≤ F 0 10) → (0 ≤ co ∧ co ≤ 999 * k) → (-9223372036854775808 ≤ st ∧ st ≤ 9223372036854775807) → (ckC F k.toNat st co) → fl_R xi_ms 11 fr lo 28 [(5, .int (Int32.ofInt k)), (4, .int (Int32.ofInt co)), (2, .long (Int64.ofInt st)), (1, .int (Int32.ofInt (F 0 10))), (0, .ref 0)] [] (fl_H sh_T G F10_ ++ X) (pq_11 G F X) := by
      intro n14_
      induction n14_ using Nat.strongRecOn with
      | ind n14_ ih16_ =>
      intro k co st hn17_ hk hco hst hck
      refine ga_iload (z := k) hm_11 rfl rfl ?_
      refine ga_iload_n (z := F 0 10) hm_11 rfl rfl ?_
      refine fl_icmp_ge (a := k) (b := F 0 10) hm_11 rfl ⟨by omega, by omega⟩ ⟨by omega, by omega⟩ (fun h18_ => ?_) (fun h19_ => ?_)
      ·
        refine ga_aload_n (v := .ref 0) hm_11 rfl rfl rfl ?_
        refine ga_getr (b := 120) hm_11 rfl sc_0 rfl ?_
        refine ga_getr (b := 123) hm_11 rfl sc_120 rfl ?_
        refine ga_lload_n (z := st) hm_11 rfl rfl ?_
        refine gIi (nY := 3) (F := 0) (L := 0) (As := [.long (Int64.ofInt st)]) (b := 123) (rest := []) hm_11 rfl hm_115 rfl rfl (fl_ob sc_123) rfl rfl rfl rfl rfl (by omega) (by omega) ?_
        intro f20_ l21_ h22_ h23_
        show fl_R xi_ms 115 f20_ l21_ 0 [(0, .ref 123), (1, .long (Int64.ofInt st))] [] _ _
        refine ga_aload_n (v := .ref 123) hm_115 rfl rfl rfl ?_
        have e24_ : F10_ 123 2 = F 123 2 := by rw [q11_]; exact fl_u_ne (by first | exact nc_ rfl | decide | omega)
        have b25_ : 0 ≤ F 123 2 ∧ F 123 2 ≤ 1 := gi_g hgi rfl
        refine ga_geti (z := F 123 2) hm_115 rfl sc_123 rfl (e24_) ?_
        refine fl_if_eq (a := F 123 2) hm_115 rfl ⟨by omega, by omega⟩ (fun h26_ => ?_) (fun h27_ => ?_)
        ·
          refine fl_iconst hm_115 rfl ?_
          refine gr_i hm_115 rfl rfl (ga_nb (by omega)) ?_
          clear h22_ h23_ f20_ l21_
          refine fl_if_eq hm_11 rfl ⟨by omega, by omega⟩ (fun _ => ?_) (fun h => absurd (by omega) h)
          refine fl_bipush hm_11 rfl rfl ?_
          refine gr_i (z := -100) hm_11 rfl rfl rfl ?_
          have e28_ : F10_ 0 10 = 0 := by rw [q11_]; exact fl_u_eq
          exact ⟨F10_, rfl, g12_, g13_, (⟨by omega, by omega⟩), (⟨by omega, by omega⟩), (Or.inr ⟨st, co, (by rw [show (F 0 10).toNat = k.toNat by omega]; exact hck), by unfold gC; first | exact Or.inl ⟨⟨by omega, by omega, by omega⟩, rfl⟩ | exact Or.inr ⟨by rintro ⟨h7_, h8_, h9_⟩; first | omega | contradiction, rfl⟩⟩)⟩
        refine ga_lload_n (z := st) hm_115 rfl rfl ?_
        refine ga_aload_n (v := .ref 123) hm_115 rfl rfl rfl ?_
        have e29_ : F10_ 123 0 = F 123 0 := by rw [q11_]; exact fl_u_ne (by first | exact nc_ rfl | decide | omega)
        have b30_ : -9223372036854775808 ≤ F 123 0 ∧ F 123 0 ≤ 9223372036854775807 := gi_g hgi rfl
        refine ga_getl (z := F 123 0) hm_115 rfl sc_123 rfl (e29_) ?_
        refine ga_lx (z := (lan st (F 123 0))) hm_115 rfl rfl rfl (lop_e 0 _ _) (fun ⟨h31_, h32_⟩ => ?_)
        refine ga_aload_n (v := .ref 123) hm_115 rfl rfl rfl ?_
        refine ga_getl (z := F 123 0) hm_115 rfl sc_123 rfl (e29_) ?_
        refine ga_lcmpn (a := (lan st (F 123 0))) (b := F 123 0) hm_115 rfl rfl ⟨by omega, by omega⟩ ⟨by omega, by omega⟩ (fun h33_ => ?_) (fun h34_ => ?_)
        ·
          refine fl_iconst hm_115 rfl ?_
          refine gr_i hm_115 rfl rfl (ga_nb (by omega)) ?_
          clear h22_ h23_ f20_ l21_
          refine fl_if_eq hm_11 rfl ⟨by omega, by omega⟩ (fun _ => ?_) (fun h => absurd (by omega) h)
          refine fl_bipush hm_11 rfl rfl ?_
          refine gr_i (z := -100) hm_11 rfl rfl rfl ?_
          have e35_ : F10_ 0 10 = 0 := by rw [q11_]; exact fl_u_eq
          exact ⟨F10_, rfl, g12_, g13_, (⟨by omega, by omega⟩), (⟨by omega, by omega⟩), (Or.inr ⟨st, co, (by rw [show (F 0 10).toNat = k.toNat by omega]; exact hck), by unfold gC; first | exact Or.inl ⟨⟨by omega, by omega, by omega⟩, rfl⟩ | exact Or.inr ⟨by rintro ⟨h7_, h8_, h9_⟩; first | omega | contradiction, rfl⟩⟩)⟩
        refine ga_lload_n (z := st) hm_115 rfl rfl ?_
        refine ga_aload_n (v := .ref 123) hm_115 rfl rfl rfl ?_
        have e36_ : F10_ 123 1 = F 123 1 := by rw [q11_]; exact fl_u_ne (by first | exact nc_ rfl | decide | omega)
        have b37_ : -9223372036854775808 ≤ F 123 1 ∧ F 123 1 ≤ 9223372036854775807 := gi_g hgi rfl
        refine ga_getl (z := F 123 1) hm_115 rfl sc_123 rfl (e36_) ?_
        refine ga_lx (z := (lan st (F 123 1))) hm_115 rfl rfl rfl (lop_e 0 _ _) (fun ⟨h38_, h39_⟩ => ?_)
        refine ga_lconst (z := 0) hm_115 rfl rfl ?_
        refine ga_lcmpn (a := (lan st (F 123 1))) (b := 0) hm_115 rfl rfl ⟨by omega, by omega⟩ ⟨by omega, by omega⟩ (fun h40_ => ?_) (fun h41_ => ?_)
        ·
          refine fl_iconst hm_115 rfl ?_
          refine gr_i hm_115 rfl rfl (ga_nb (by omega)) ?_
          clear h22_ h23_ f20_ l21_
          refine fl_if_eq hm_11 rfl ⟨by omega, by omega⟩ (fun _ => ?_) (fun h => absurd (by omega) h)
          refine fl_bipush hm_11 rfl rfl ?_
          refine gr_i (z := -100) hm_11 rfl rfl rfl ?_
          have e42_ : F10_ 0 10 = 0 := by rw [q11_]; exact fl_u_eq
          exact ⟨F10_, rfl, g12_, g13_, (⟨by omega, by omega⟩), (⟨by omega, by omega⟩), (Or.inr ⟨st, co, (by rw [show (F 0 10).toNat = k.toNat by omega]; exact hck), by unfold gC; first | exact Or.inl ⟨⟨by omega, by omega, by omega⟩, rfl⟩ | exact Or.inr ⟨by rintro ⟨h7_, h8_, h9_⟩; first | omega | contradiction, rfl⟩⟩)⟩
        refine fl_iconst hm_115 rfl ?_
        refine fl_goto hm_115 rfl ?_
        refine gr_i hm_115 rfl rfl (ga_nb (by omega)) ?_
        clear h22_ h23_ f20_ l21_
        refine fl_if_eq hm_11 rfl ⟨by omega, by omega⟩ (fun h => absurd h (by omega)) (fun _ => ?_)
        refine ga_iload (z := co) hm_11 rfl rfl ?_
        refine fl_goto hm_11 rfl ?_
        refine gr_i (z := co) hm_11 rfl rfl rfl ?_
        have e43_ : F10_ 0 10 = 0 := by rw [q11_]; exact fl_u_eq
        exact ⟨F10_, rfl, g12_, g13_, (⟨by omega, by omega⟩), (⟨by omega, by omega⟩), (Or.inr ⟨st, co, (by rw [show (F 0 10).toNat = k.toNat by omega]; exact hck), by unfold gC; first | exact Or.inl ⟨⟨by omega, by omega, by omega⟩, rfl⟩ | exact Or.inr ⟨by rintro ⟨h7_, h8_, h9_⟩; first | omega | contradiction, rfl⟩⟩)⟩
      refine ga_aload_n (v := .ref 0) hm_11 rfl rfl rfl ?_
      refine ga_getr (b := 120) hm_11 rfl sc_0 rfl ?_
      refine ga_getr (b := 122) hm_11 rfl sc_120 rfl ?_
      refine ga_aload_n (v := .ref 0) hm_11 rfl rfl rfl ?_
      refine ga_getr (b := 342) hm_11 rfl sc_0 rfl ?_
      refine ga_iload (z := k) hm_11 rfl rfl ?_
      have e44_ : F10_ 342 k.toNat = F 342 k.toNat := by rw [q11_]; exact fl_u_ne (by first | exact nc_ rfl | decide | omega)
      have b45_ : 0 ≤ F 342 k.toNat ∧ F 342 k.toNat ≤ 40 := gi_g hgi rfl
      refine ga_iald (z := k) (w := F 342 k.toNat) hm_11 rfl sc_342 (by omega) (by omega) (by omega) (e44_) ?_
      obtain ⟨a46_, r47_, n48_, q49_⟩ := ra_122 (F 342 k.toNat).toNat (by omega)
      refine fl_aald (z := F 342 k.toNat) (q := a46_) hm_11 rfl sc_122 (hG _ _ _ sc_122) rfl (by omega) (by simp only [List.length_cons, List.length_nil]; omega) (by simp only [List.length_cons, List.length_nil]; omega) r47_ ?_
      refine ga_astore (lv2 := [(6, .ref a46_), (5, .int (Int32.ofInt k)), (4, .int (Int32.ofInt co)), (2, .long (Int64.ofInt st)), (1, .int (Int32.ofInt (F 0 10))), (0, .ref 0)]) hm_11 rfl (Nat.le_of_ble_eq_true rfl) rfl ?_
      refine ga_aload (v := .ref a46_) hm_11 rfl rfl rfl ?_
      refine ga_getr (b := a46_ + 2) hm_11 rfl n48_.1.1 rfl ?_
      refine ga_lload_n (z := st) hm_11 rfl rfl ?_
      refine gIi (nY := 3) (F := 0) (L := 0) (As := [.long (Int64.ofInt st)]) (b := a46_ + 2) (rest := []) hm_11 rfl hm_115 rfl rfl (fl_ob n48_.1.2.2.1) rfl rfl rfl rfl rfl (by omega) (by omega) ?_
      intro f50_ l51_ h52_ h53_
      show fl_R xi_ms 115 f50_ l51_ 0 [(0, .ref (a46_ + 2)), (1, .long (Int64.ofInt st))] [] _ _
      refine ga_aload_n (v := .ref (a46_ + 2)) hm_115 rfl rfl rfl ?_
      have e54_ : F10_ (a46_ + 2) 2 = F (a46_ + 2) 2 := by rw [q11_]; exact fl_u_ne (by first | exact nc_ rfl | decide | omega)
      have b55_ : 0 ≤ F (a46_ + 2) 2 ∧ F (a46_ + 2) 2 ≤ 1 := gi_g hgi n48_.2.1.2.2.2.2.2.2.2.2.1
      refine ga_geti (z := F (a46_ + 2) 2) hm_115 rfl n48_.1.2.2.1 rfl (e54_) ?_
      refine fl_if_eq (a := F (a46_ + 2) 2) hm_115 rfl ⟨by omega, by omega⟩ (fun h56_ => ?_) (fun h57_ => ?_)
      ·
        refine fl_iconst hm_115 rfl ?_
        refine gr_i hm_115 rfl rfl (ga_nb (by omega)) ?_
        clear h52_ h53_ f50_ l51_
        refine fl_if_ne hm_11 rfl ⟨by omega, by omega⟩ (fun h => absurd h (by omega)) (fun _ => ?_)
        refine fl_iconst hm_11 rfl ?_
        refine ga_iload (z := k) hm_11 rfl rfl ?_
        refine ga_isub (a := -1) (b := k) (c := -k - 1) hm_11 rfl (by omega) ?_
        refine gr_i (z := -k - 1) hm_11 rfl rfl rfl ?_
        have e58_ : F10_ 0 10 = 0 := by rw [q11_]; exact fl_u_eq
        exact ⟨F10_, rfl, g12_, g13_, (⟨by omega, by omega⟩), (⟨by omega, by omega⟩), (Or.inl ⟨k.toNat, st, co, by omega, hck, by unfold hC; rw [← q49_]; rintro ⟨h7_, h8_, h9_⟩; first | omega | contradiction, by omega⟩)⟩
      refine ga_lload_n (z := st) hm_115 rfl rfl ?_
      refine ga_aload_n (v := .ref (a46_ + 2)) hm_115 rfl rfl rfl ?_
      have e59_ : F10_ (a46_ + 2) 0 = F (a46_ + 2) 0 := by rw [q11_]; exact fl_u_ne (by first | exact nc_ rfl | decide | omega)
      have b60_ : -9223372036854775808 ≤ F (a46_ + 2) 0 ∧ F (a46_ + 2) 0 ≤ 9223372036854775807 := gi_g hgi n48_.2.1.2.2.2.2.2.2.1
      refine ga_getl (z := F (a46_ + 2) 0) hm_115 rfl n48_.1.2.2.1 rfl (e59_) ?_
      refine ga_lx (z := (lan st (F (a46_ + 2) 0))) hm_115 rfl rfl rfl (lop_e 0 _ _) (fun ⟨h61_, h62_⟩ => ?_)
      refine ga_aload_n (v := .ref (a46_ + 2)) hm_115 rfl rfl rfl ?_
      refine ga_getl (z := F (a46_ + 2) 0) hm_115 rfl n48_.1.2.2.1 rfl (e59_) ?_
      refine ga_lcmpn (a := (lan st (F (a46_ + 2) 0))) (b := F (a46_ + 2) 0) hm_115 rfl rfl ⟨by omega, by omega⟩ ⟨by omega, by omega⟩ (fun h63_ => ?_) (fun h64_ => ?_)
      ·
        refine fl_iconst hm_115 rfl ?_
        refine gr_i hm_115 rfl rfl (ga_nb (by omega)) ?_
        clear h52_ h53_ f50_ l51_
        refine fl_if_ne hm_11 rfl ⟨by omega, by omega⟩ (fun h => absurd h (by omega)) (fun _ => ?_)
        refine fl_iconst hm_11 rfl ?_
        refine ga_iload (z := k) hm_11 rfl rfl ?_
        refine ga_isub (a := -1) (b := k) (c := -k - 1) hm_11 rfl (by omega) ?_
        refine gr_i (z := -k - 1) hm_11 rfl rfl rfl ?_
        have e65_ : F10_ 0 10 = 0 := by rw [q11_]; exact fl_u_eq
        exact ⟨F10_, rfl, g12_, g13_, (⟨by omega, by omega⟩), (⟨by omega, by omega⟩), (Or.inl ⟨k.toNat, st, co, by omega, hck, by unfold hC; rw [← q49_]; rintro ⟨h7_, h8_, h9_⟩; first | omega | contradiction, by omega⟩)⟩
      refine ga_lload_n (z := st) hm_115 rfl rfl ?_
      refine ga_aload_n (v := .ref (a46_ + 2)) hm_115 rfl rfl rfl ?_
      have e66_ : F10_ (a46_ + 2) 1 = F (a46_ + 2) 1 := by rw [q11_]; exact fl_u_ne (by first | exact nc_ rfl | decide | omega)
      have b67_ : -9223372036854775808 ≤ F (a46_ + 2) 1 ∧ F (a46_ + 2) 1 ≤ 9223372036854775807 := gi_g hgi n48_.2.1.2.2.2.2.2.2.2.1
      refine ga_getl (z := F (a46_ + 2) 1) hm_115 rfl n48_.1.2.2.1 rfl (e66_) ?_
      refine ga_lx (z := (lan st (F (a46_ + 2) 1))) hm_115 rfl rfl rfl (lop_e 0 _ _) (fun ⟨h68_, h69_⟩ => ?_)
      refine ga_lconst (z := 0) hm_115 rfl rfl ?_
      refine ga_lcmpn (a := (lan st (F (a46_ + 2) 1))) (b := 0) hm_115 rfl rfl ⟨by omega, by omega⟩ ⟨by omega, by omega⟩ (fun h70_ => ?_) (fun h71_ => ?_)
      ·
        refine fl_iconst hm_115 rfl ?_
        refine gr_i hm_115 rfl rfl (ga_nb (by omega)) ?_
        clear h52_ h53_ f50_ l51_
        refine fl_if_ne hm_11 rfl ⟨by omega, by omega⟩ (fun h => absurd h (by omega)) (fun _ => ?_)
        refine fl_iconst hm_11 rfl ?_
        refine ga_iload (z := k) hm_11 rfl rfl ?_
        refine ga_isub (a := -1) (b := k) (c := -k - 1) hm_11 rfl (by omega) ?_
        refine gr_i (z := -k - 1) hm_11 rfl rfl rfl ?_
        have e72_ : F10_ 0 10 = 0 := by rw [q11_]; exact fl_u_eq
        exact ⟨F10_, rfl, g12_, g13_, (⟨by omega, by omega⟩), (⟨by omega, by omega⟩), (Or.inl ⟨k.toNat, st, co, by omega, hck, by unfold hC; rw [← q49_]; rintro ⟨h7_, h8_, h9_⟩; first | omega | contradiction, by omega⟩)⟩
      refine fl_iconst hm_115 rfl ?_
      refine fl_goto hm_115 rfl ?_
      refine gr_i hm_115 rfl rfl (ga_nb (by omega)) ?_
      clear h52_ h53_ f50_ l51_
      refine fl_if_ne hm_11 rfl ⟨by omega, by omega⟩ (fun _ => ?_) (fun h => absurd (by omega) h)
      refine ga_aload (v := .ref a46_) hm_11 rfl rfl rfl ?_
      refine ga_lload_n (z := st) hm_11 rfl rfl ?_
      refine gIl (nY := 3) (F := 0) (L := 0) (As := [.long (Int64.ofInt st)]) (b := a46_) (rest := []) hm_11 rfl hm_147 rfl rfl (fl_ob n48_.1.1) rfl rfl rfl rfl rfl (by omega) (by omega) ?_
      intro f73_ l74_ h75_ h76_
      show fl_R xi_ms 147 f73_ l74_ 0 [(0, .ref a46_), (1, .long (Int64.ofInt st))] [] _ _
      refine ga_lload_n (z := st) hm_147 rfl rfl ?_
      refine ga_aload_n (v := .ref a46_) hm_147 rfl rfl rfl ?_
      have e77_ : F10_ a46_ 4 = F a46_ 4 := by rw [q11_]; exact fl_u_ne (by first | exact nc_ rfl | decide | omega)
      have b78_ : -9223372036854775808 ≤ F a46_ 4 ∧ F a46_ 4 ≤ 9223372036854775807 := gi_g hgi n48_.2.1.2.2.2.1
      refine ga_getl (z := F a46_ 4) hm_147 rfl n48_.1.1 rfl (e77_) ?_
      refine ga_ldcl (z := -1) hm_147 rfl (by decide) ?_
      refine ga_lx (z := (lxo (F a46_ 4) (-1))) hm_147 rfl rfl rfl (lop_e 2 _ _) (fun ⟨h79_, h80_⟩ => ?_)
      refine ga_lx (z := (lan st ((lxo (F a46_ 4) (-1))))) hm_147 rfl rfl rfl (lop_e 0 _ _) (fun ⟨h81_, h82_⟩ => ?_)
      refine ga_aload_n (v := .ref a46_) hm_147 rfl rfl rfl ?_
      have e83_ : F10_ a46_ 5 = F a46_ 5 := by rw [q11_]; exact fl_u_ne (by first | exact nc_ rfl | decide | omega)
      have b84_ : -9223372036854775808 ≤ F a46_ 5 ∧ F a46_ 5 ≤ 9223372036854775807 := gi_g hgi n48_.2.1.2.2.2.2.1
      refine ga_getl (z := F a46_ 5) hm_147 rfl n48_.1.1 rfl (e83_) ?_
      refine ga_lx (z := (lorr ((lan st ((lxo (F a46_ 4) (-1))))) (F a46_ 5))) hm_147 rfl rfl rfl (lop_e 1 _ _) (fun ⟨h85_, h86_⟩ => ?_)
      refine gr_l hm_147 rfl rfl ?_
      clear h75_ h76_ f73_ l74_
      refine ga_lstore_n (lv2 := [(2, .long (Int64.ofInt ((lorr ((lan st ((lxo (F a46_ 4) (-1))))) (F a46_ 5))))), (6, .ref a46_), (5, .int (Int32.ofInt k)), (4, .int (Int32.ofInt co)), (1, .int (Int32.ofInt (F 0 10))), (0, .ref 0)]) hm_11 rfl (Nat.le_of_ble_eq_true rfl) rfl ?_
      refine ga_iload (z := co) hm_11 rfl rfl ?_
      refine ga_aload (v := .ref a46_) hm_11 rfl rfl rfl ?_
      have e87_ : F10_ a46_ 2 = F a46_ 2 := by rw [q11_]; exact fl_u_ne (by first | exact nc_ rfl | decide | omega)
      have b88_ : 0 ≤ F a46_ 2 ∧ F a46_ 2 ≤ 999 := gi_g hgi n48_.2.1.2.2.1
      refine ga_geti (z := F a46_ 2) hm_11 rfl n48_.1.1 rfl (e87_) ?_
      refine ga_iadd (a := co) (b := F a46_ 2) (c := co + F a46_ 2) hm_11 rfl (by omega) ?_
      refine ga_istore (lv2 := [(4, .int (Int32.ofInt (co + F a46_ 2))), (2, .long (Int64.ofInt ((lorr ((lan st ((lxo (F a46_ 4) (-1))))) (F a46_ 5))))), (6, .ref a46_), (5, .int (Int32.ofInt k)), (1, .int (Int32.ofInt (F 0 10))), (0, .ref 0)]) hm_11 rfl (Nat.le_of_ble_eq_true rfl) rfl ?_
      refine ga_inc (a := k) (c := k + 1) (lv2 := [(5, .int (Int32.ofInt (k + 1))), (4, .int (Int32.ofInt (co + F a46_ 2))), (2, .long (Int64.ofInt ((lorr ((lan st ((lxo (F a46_ 4) (-1))))) (F a46_ 5))))), (6, .ref a46_), (1, .int (Int32.ofInt (F 0 10))), (0, .ref 0)]) hm_11 rfl rfl (Nat.le_of_ble_eq_true rfl) rfl rfl ?_
      refine fl_goto hm_11 rfl ?_
      exact fl_R_sub (lv' := [(5, .int (Int32.ofInt (k + 1))), (4, .int (Int32.ofInt (co + F a46_ 2))), (2, .long (Int64.ofInt ((lorr ((lan st ((lxo (F a46_ 4) (-1))))) (F a46_ 5))))), (1, .int (Int32.ofInt (F 0 10))), (0, .ref 0)]) rfl rfl (ih16_ _ (by omega) (k + 1) (co + F a46_ 2) ((lorr ((lan st ((lxo (F a46_ 4) (-1))))) (F a46_ 5))) rfl (⟨by omega, by omega, by omega⟩) (⟨by omega, by omega⟩) (⟨by omega, by omega⟩) (by rw [show (k + 1).toNat = k.toNat + 1 by omega]; refine ⟨st, co, hck, ?_, ?_, ?_⟩ <;> (try unfold hC) <;> (try unfold aC) <;> rw [← q49_] <;> first | exact ⟨by omega, by omega, by omega⟩ | rfl | omega))
    exact L15_ _ (0) (0) (F 120 4) rfl (⟨by omega, by omega, by omega⟩) (⟨by omega, by omega⟩) (⟨by omega, by omega⟩) (⟨rfl, rfl⟩)
  refine fl_thr hm_13 rfl rfl (by omega) (by omega) (Nat.le_of_ble_eq_true rfl) (fl_pos sc_0) ?_
  refine gw_v ⟨rfl, ?_⟩
  refine gw_i ?_
  exact ⟨F, 15, (rfl), ⟨ga_len.symm, (List.append_assoc _ _ _).symm⟩, hgi, fs_refl, (by omega)⟩
/- CheapPlanner.estimate -/
abbrev pq_12 (G : Nat → Nat → Option Nat) (F : fl_N) (X : xi_H) (w : Int) : Outcome → xi_H → Prop := gqi (fun z A => ∃ F' : fl_N, fl_H sh_T G F' ++ X = A ∧ gi F' ∧ fs [(341, 341, 0, 100000)] F F' ∧ (-2147483648 ≤ z ∧ z ≤ 2147483647)) (fun j A => ∃ (F' : fl_N) (ci : Nat), (ci = 15 ∨ ci = 14) ∧ (387 + X.length = j ∧ fl_H sh_T G F' ++ (X ++ [gx ci]) = A) ∧ gi F' ∧ fs [(341, 341, 0, 100000)] F F')
theorem mc_12 {G : Nat → Nat → Option Nat} (hG : gg G) (F : fl_N) (X : xi_H) (hgi : gi F) (w : Int) (hw : -2147483648 ≤ w ∧ w ≤ 2147483647) : fl_M xi_ms 12 7 120 [.ref 0, .int (Int32.ofInt w)] (fl_H sh_T G F ++ X) (pq_12 G F X w) := by
  intro fr lo hfr hlo
  show fl_R xi_ms 12 fr lo 0 [(0, .ref 0), (1, .int (Int32.ofInt w))] [] _ _
  refine ga_aload_n (v := .ref 0) hm_12 rfl rfl rfl ?_
  refine gIv (nY := 1) (F := 6) (L := 100) (As := []) (b := 0) (rest := []) hm_12 rfl hm_13 rfl rfl (fl_ob sc_0) rfl rfl rfl rfl rfl (by omega) (by omega) ?_
  intro f1_ l2_ h3_ h4_
  show fl_R xi_ms 13 f1_ l2_ 0 [(0, .ref 0)] [] _ _
  refine ga_aload_n (v := .ref 0) hm_13 rfl rfl rfl ?_
  have b5_ : 0 ≤ F 0 8 ∧ F 0 8 ≤ 1 := gi_g hgi rfl
  refine ga_geti (z := F 0 8) hm_13 rfl sc_0 rfl (rfl) ?_
  refine fx_if_ne (a := F 0 8) hm_13 rfl ⟨by omega, by omega⟩ (fun h6_ => ?_) (fun h7_ => ?_)
  ·
    refine gr_v hm_13 rfl rfl ?_
    clear h3_ h4_ f1_ l2_
    refine ga_iload_n (z := w) hm_12 rfl rfl ?_
    refine fl_if_lt (a := w) hm_12 rfl ⟨by omega, by omega⟩ (fun h8_ => ?_) (fun h9_ => ?_)
    ·
      refine fl_thr hm_12 rfl rfl (by omega) (by omega) (Nat.le_of_ble_eq_true rfl) (fl_pos sc_0) ?_
      refine gw_i ?_
      exact ⟨F, 14, (Or.inr (rfl)), ⟨ga_len.symm, (List.append_assoc _ _ _).symm⟩, hgi, fs_refl⟩
    refine ga_iload_n (z := w) hm_12 rfl rfl ?_
    refine fl_iconst hm_12 rfl ?_
    refine fl_icmp_le (a := w) (b := 1) hm_12 rfl ⟨by omega, by omega⟩ ⟨by omega, by omega⟩ (fun h10_ => ?_) (fun h11_ => ?_)
    ·
      refine ga_aload_n (v := .ref 0) hm_12 rfl rfl rfl ?_
      refine ga_getr (b := 340) hm_12 rfl sc_0 rfl ?_
      refine ga_iload_n (z := w) hm_12 rfl rfl ?_
      refine fl_iconst hm_12 rfl ?_
      refine fx_icmp_ne (a := w) (b := 1) hm_12 rfl ⟨by omega, by omega⟩ ⟨by omega, by omega⟩ (fun h12_ => ?_) (fun h13_ => ?_)
      ·
        refine fl_iconst hm_12 rfl ?_
        refine gVi (nY := 4) (F := 3) (L := 71) (As := [.int (Int32.ofInt 0)]) (b := 340) (rest := []) hm_12 rfl hm_96 rfl rfl (fl_ob sc_340) rfl rfl rfl rfl rfl (by omega) (by omega) (mc_96 hG F X hgi (0) (⟨by omega, by omega⟩)) (fun _ _ h => False.elim h) ?_
        rintro z14_ A1_ ⟨F16_, hA_, g17_, s18_, c15_⟩
        subst hA_
        have g19_ : fs [(341, 341, 0, 100000)] F F16_ := fs_tr fs_refl s18_ rfl
        refine gr_i (z := z14_) hm_12 rfl rfl rfl ?_
        exact ⟨F16_, rfl, g17_, g19_, (⟨by omega, by omega⟩)⟩
      refine fl_iconst hm_12 rfl ?_
      refine fl_goto hm_12 rfl ?_
      refine gVi (nY := 4) (F := 3) (L := 71) (As := [.int (Int32.ofInt 1)]) (b := 340) (rest := []) hm_12 rfl hm_96 rfl rfl (fl_ob sc_340) rfl rfl rfl rfl rfl (by omega) (by omega) (mc_96 hG F X hgi (1) (⟨by omega, by omega⟩)) (fun _ _ h => False.elim h) ?_
      rintro z20_ A1_ ⟨F22_, hA_, g23_, s24_, c21_⟩
      subst hA_
      have g25_ : fs [(341, 341, 0, 100000)] F F22_ := fs_tr fs_refl s24_ rfl
      refine gr_i (z := z20_) hm_12 rfl rfl rfl ?_
      exact ⟨F22_, rfl, g23_, g25_, (⟨by omega, by omega⟩)⟩
    refine fl_thr hm_12 rfl rfl (by omega) (by omega) (Nat.le_of_ble_eq_true rfl) (fl_pos sc_0) ?_
    refine gw_i ?_
    exact ⟨F, 14, (Or.inr (rfl)), ⟨ga_len.symm, (List.append_assoc _ _ _).symm⟩, hgi, fs_refl⟩
  refine fl_thr hm_13 rfl rfl (by omega) (by omega) (Nat.le_of_ble_eq_true rfl) (fl_pos sc_0) ?_
  refine gw_v ⟨rfl, ?_⟩
  refine gw_i ?_
  exact ⟨F, 15, (Or.inl rfl), ⟨ga_len.symm, (List.append_assoc _ _ _).symm⟩, hgi, fs_refl⟩
/- CheapPlanner.plan -/
abbrev pq_5 (G : Nat → Nat → Option Nat) (F : fl_N) (X : xi_H) (mo : Int) : Outcome → xi_H → Prop := gqi (fun z A => ∃ F' : fl_N, fl_H sh_T G F' ++ X = A ∧ gi F' ∧ fs [(0, 0, 12, 12), (331, 331, 8, 12), (332, 339, 0, 100000), (343, 343, 0, 100000)] F F' ∧ (-2147483648 ≤ z ∧ z ≤ 2147483647) ∧ (fnd F')) (fun j A => ∃ (F' : fl_N) (ci : Nat), (ci = 15 ∨ ci = 14 ∨ ci = 16) ∧ (387 + X.length = j ∧ fl_H sh_T G F' ++ (X ++ [gx ci]) = A) ∧ gi F' ∧ fs [(0, 0, 12, 12), (331, 331, 8, 12), (332, 339, 0, 100000), (343, 343, 0, 100000)] F F' ∧ (fnd F'))
theorem mc_5 {G : Nat → Nat → Option Nat} (hG : gg G) (F : fl_N) (X : xi_H) (hgi : gi F) (mo : Int) (hfd : fnd F) (hmo : -2147483648 ≤ mo ∧ mo ≤ 2147483647) : fl_M xi_ms 5 7 145 [.ref 0, .int (Int32.ofInt mo)] (fl_H sh_T G F ++ X) (pq_5 G F X mo) := by
  intro fr lo hfr hlo
  show fl_R xi_ms 5 fr lo 0 [(0, .ref 0), (1, .int (Int32.ofInt mo))] [] _ _
  refine ga_aload_n (v := .ref 0) hm_5 rfl rfl rfl ?_
  refine gIv (nY := 1) (F := 6) (L := 100) (As := []) (b := 0) (rest := []) hm_5 rfl hm_13 rfl rfl (fl_ob sc_0) rfl rfl rfl rfl rfl (by omega) (by omega) ?_
  intro f1_ l2_ h3_ h4_
  show fl_R xi_ms 13 f1_ l2_ 0 [(0, .ref 0)] [] _ _
  refine ga_aload_n (v := .ref 0) hm_13 rfl rfl rfl ?_
  have b5_ : 0 ≤ F 0 8 ∧ F 0 8 ≤ 1 := gi_g hgi rfl
  refine ga_geti (z := F 0 8) hm_13 rfl sc_0 rfl (rfl) ?_
  refine fx_if_ne (a := F 0 8) hm_13 rfl ⟨by omega, by omega⟩ (fun h6_ => ?_) (fun h7_ => ?_)
  ·
    refine gr_v hm_13 rfl rfl ?_
    clear h3_ h4_ f1_ l2_
    refine ga_iload_n (z := mo) hm_5 rfl rfl ?_
    refine fl_iconst hm_5 rfl ?_
    refine fl_icmp_lt (a := mo) (b := 1) hm_5 rfl ⟨by omega, by omega⟩ ⟨by omega, by omega⟩ (fun h8_ => ?_) (fun h9_ => ?_)
    ·
      refine fl_thr hm_5 rfl rfl (by omega) (by omega) (Nat.le_of_ble_eq_true rfl) (fl_pos sc_0) ?_
      refine gw_i ?_
      exact ⟨F, 14, (Or.inr (Or.inl rfl)), ⟨ga_len.symm, (List.append_assoc _ _ _).symm⟩, hgi, fs_refl, (hfd)⟩
    refine ga_iload_n (z := mo) hm_5 rfl rfl ?_
    refine fl_sipush hm_5 rfl rfl ?_
    refine fl_icmp_le (a := mo) (b := 200) hm_5 rfl ⟨by omega, by omega⟩ ⟨by omega, by omega⟩ (fun h10_ => ?_) (fun h11_ => ?_)
    ·
      refine ga_aload_n (v := .ref 0) hm_5 rfl rfl rfl ?_
      refine fl_iconst hm_5 rfl ?_
      refine ga_puti (z := 0) hm_5 rfl sc_0 rfl rfl ?_
      refine ga_aload_n (v := .ref 0) hm_5 rfl rfl rfl ?_
      refine ga_getr (b := 331) hm_5 rfl sc_0 rfl ?_
      refine ga_iload_n (z := mo) hm_5 rfl rfl ?_
      obtain ⟨F12_, q13_⟩ : ∃ Fq_, Fq_ = (fl_u F 0 12 0) := ⟨_, rfl⟩
      rw [← q13_]
      have g14_ : gi F12_ := by rw [q13_]; exact gi_u (hgi) rfl (by omega) (by omega)
      have g15_ : fs [(0, 0, 12, 12), (331, 331, 8, 12), (332, 339, 0, 100000), (343, 343, 0, 100000)] F F12_ := by rw [q13_]; exact fs_u (fs_refl) rfl
      refine gVv (nY := 3) (F := 5) (L := 123) (As := [.int (Int32.ofInt mo)]) (b := 331) (rest := []) hm_5 rfl hm_139 rfl rfl (fl_ob sc_331) rfl rfl rfl rfl rfl (by omega) (by omega) (mc_139 hG F12_ X g14_ (mo) (⟨by omega, by omega⟩)) (fun _ _ h => False.elim h) ?_
      rintro A1_ ⟨F18_, hA_, g19_, s20_, c17_⟩
      subst hA_
      have g21_ : fs [(0, 0, 12, 12), (331, 331, 8, 12), (332, 339, 0, 100000), (343, 343, 0, 100000)] F F18_ := fs_tr g15_ s20_ rfl
      refine ga_aload_n (v := .ref 0) hm_5 rfl rfl rfl ?_
      refine ga_getr (b := 331) hm_5 rfl sc_0 rfl ?_
      refine gIi (nY := 1) (F := 0) (L := 0) (As := []) (b := 331) (rest := []) hm_5 rfl hm_137 rfl rfl (fl_ob sc_331) rfl rfl rfl rfl rfl (by omega) (by omega) ?_
      intro f22_ l23_ h24_ h25_
      show fl_R xi_ms 137 f22_ l23_ 0 [(0, .ref 331)] [] _ _
      refine ga_aload_n (v := .ref 331) hm_137 rfl rfl rfl ?_
      have b26_ : 0 ≤ F18_ 331 10 ∧ F18_ 331 10 ≤ 1 := gi_g g19_ rfl
      refine ga_geti (z := F18_ 331 10) hm_137 rfl sc_331 rfl (rfl) ?_
      refine gr_i hm_137 rfl rfl (ga_nb (by omega)) ?_
      clear h24_ h25_ f22_ l23_
      refine fl_if_eq (a := F18_ 331 10) hm_5 rfl ⟨by omega, by omega⟩ (fun h27_ => ?_) (fun h28_ => ?_)
      ·
        refine ga_aload_n (v := .ref 0) hm_5 rfl rfl rfl ?_
        refine ga_getr (b := 331) hm_5 rfl sc_0 rfl ?_
        refine gIi (nY := 1) (F := 0) (L := 0) (As := []) (b := 331) (rest := []) hm_5 rfl hm_41 rfl rfl (fl_ob sc_331) rfl rfl rfl rfl rfl (by omega) (by omega) ?_
        intro f29_ l30_ h31_ h32_
        show fl_R xi_ms 41 f29_ l30_ 0 [(0, .ref 331)] [] _ _
        refine ga_aload_n (v := .ref 331) hm_41 rfl rfl rfl ?_
        have b33_ : 0 ≤ F18_ 331 11 ∧ F18_ 331 11 ≤ 1 := gi_g g19_ rfl
        refine ga_geti (z := F18_ 331 11) hm_41 rfl sc_331 rfl (rfl) ?_
        refine gr_i hm_41 rfl rfl (ga_nb (by omega)) ?_
        clear h31_ h32_ f29_ l30_
        refine fx_if_ne (a := F18_ 331 11) hm_5 rfl ⟨by omega, by omega⟩ (fun h34_ => ?_) (fun h35_ => ?_)
        ·
          have hf1 := c17_ (by omega)
          refine fl_iconst hm_5 rfl ?_
          refine ga_istore_n (lv2 := [(2, .int (Int32.ofInt 0)), (0, .ref 0), (1, .int (Int32.ofInt mo))]) hm_5 rfl (Nat.le_of_ble_eq_true rfl) rfl ?_
          have L37_ : ∀ (n36_ : Nat) (k : Int) (F1 : fl_N), (200 - k : Int).toNat = n36_ → (gi F1) → (fs [(0, 0, 12, 12), (343, 343, 0, 100000)] F18_ F1) → (0 ≤ k ∧ k ≤ 200) → fl_R xi_ms 5 fr lo 73 [(2, .int (Int32.ofInt k)), (0, .ref 0), (1, .int (Int32.ofInt mo))] [] (fl_H sh_T G F1 ++ X) (pq_5 G F X mo) := by
            intro n36_
            induction n36_ using Nat.strongRecOn with
            | ind n36_ ih38_ =>
            intro k F1 hn39_ hg_F1 hf_F1 hk
            have g40_ : fs [(0, 0, 12, 12), (331, 331, 8, 12), (332, 339, 0, 100000), (343, 343, 0, 100000)] F F1 := fs_tr g21_ hf_F1 rfl
            refine ga_iload_n (z := k) hm_5 rfl rfl ?_
            refine ga_aload_n (v := .ref 0) hm_5 rfl rfl rfl ?_
            refine ga_getr (b := 331) hm_5 rfl sc_0 rfl ?_
            refine gIi (nY := 1) (F := 0) (L := 0) (As := []) (b := 331) (rest := [.int (Int32.ofInt k)]) hm_5 rfl hm_132 rfl rfl (fl_ob sc_331) rfl rfl rfl rfl rfl (by omega) (by omega) ?_
            intro f41_ l42_ h43_ h44_
            show fl_R xi_ms 132 f41_ l42_ 0 [(0, .ref 331)] [] _ _
            refine ga_aload_n (v := .ref 331) hm_132 rfl rfl rfl ?_
            refine ga_getr (b := 335) hm_132 rfl sc_331 rfl ?_
            refine fl_sipush hm_132 rfl rfl ?_
            have e45_ : F1 335 200 = F18_ 335 200 := (hf_F1 335 200 rfl).trans (rfl)
            have b46_ : -2147483648 ≤ F18_ 335 200 ∧ F18_ 335 200 ≤ 2147483647 := gi_g g19_ rfl
            refine ga_iald (z := 200) (w := F18_ 335 200) hm_132 rfl sc_335 (by omega) (by omega) (by omega) (e45_) ?_
            refine gr_i hm_132 rfl rfl rfl ?_
            clear h43_ h44_ f41_ l42_
            refine fl_icmp_ge (a := k) (b := F18_ 335 200) hm_5 rfl ⟨by omega, by omega⟩ ⟨by omega, by omega⟩ (fun h47_ => ?_) (fun h48_ => ?_)
            ·
              refine ga_aload_n (v := .ref 0) hm_5 rfl rfl rfl ?_
              refine ga_getr (b := 331) hm_5 rfl sc_0 rfl ?_
              refine gIi (nY := 1) (F := 0) (L := 0) (As := []) (b := 331) (rest := []) hm_5 rfl hm_131 rfl rfl (fl_ob sc_331) rfl rfl rfl rfl rfl (by omega) (by omega) ?_
              intro f49_ l50_ h51_ h52_
              show fl_R xi_ms 131 f49_ l50_ 0 [(0, .ref 331)] [] _ _
              refine ga_aload_n (v := .ref 331) hm_131 rfl rfl rfl ?_
              have e53_ : F1 331 12 = F18_ 331 12 := (hf_F1 331 12 rfl).trans (rfl)
              have b54_ : -2147483648 ≤ F18_ 331 12 ∧ F18_ 331 12 ≤ 2147483647 := gi_g g19_ rfl
              refine ga_geti (z := F18_ 331 12) hm_131 rfl sc_331 rfl (e53_) ?_
              refine gr_i hm_131 rfl rfl rfl ?_
              clear h51_ h52_ f49_ l50_
              refine gr_i (z := F18_ 331 12) hm_5 rfl rfl rfl ?_
              exact ⟨F1, rfl, hg_F1, g40_, (⟨by omega, by omega⟩), (fnd_cg (F := F18_) c17_ (show F1 331 11 = F18_ 331 11 from (hf_F1 331 11 (by first | exact fs_c rfl | exact (fs_n (by omega) (fs_n (by omega) rfl))))) (show F1 335 200 = F18_ 335 200 from (hf_F1 335 200 (by first | exact fs_c rfl | exact (fs_n (by omega) (fs_n (by omega) rfl))))))⟩
            refine ga_aload_n (v := .ref 0) hm_5 rfl rfl rfl ?_
            refine ga_aload_n (v := .ref 0) hm_5 rfl rfl rfl ?_
            refine ga_getr (b := 120) hm_5 rfl sc_0 rfl ?_
            refine ga_getr (b := 122) hm_5 rfl sc_120 rfl ?_
            refine ga_aload_n (v := .ref 0) hm_5 rfl rfl rfl ?_
            refine ga_getr (b := 331) hm_5 rfl sc_0 rfl ?_
            refine ga_iload_n (z := k) hm_5 rfl rfl ?_
            refine gIi (nY := 2) (F := 0) (L := 0) (As := [.int (Int32.ofInt k)]) (b := 331) (rest := [.ref 122, .ref 0]) hm_5 rfl hm_133 rfl rfl (fl_ob sc_331) rfl rfl rfl rfl rfl (by omega) (by omega) ?_
            intro f55_ l56_ h57_ h58_
            show fl_R xi_ms 133 f55_ l56_ 0 [(0, .ref 331), (1, .int (Int32.ofInt k))] [] _ _
            refine ga_aload_n (v := .ref 331) hm_133 rfl rfl rfl ?_
            refine ga_getr (b := 339) hm_133 rfl sc_331 rfl ?_
            refine ga_iload_n (z := k) hm_133 rfl rfl ?_
            have e59_ : F1 339 k.toNat = F18_ 339 k.toNat := (hf_F1 339 k.toNat (by first | exact fs_c rfl | exact (fs_n (by omega) (fs_n (by omega) rfl)))).trans (rfl)
            have b60_ : 0 ≤ F18_ 339 k.toNat ∧ F18_ 339 k.toNat ≤ 40 := gi_g g19_ rfl
            refine ga_iald (z := k) (w := F18_ 339 k.toNat) hm_133 rfl sc_339 (by omega) (by omega) (by omega) (e59_) ?_
            refine gr_i hm_133 rfl rfl rfl ?_
            clear h57_ h58_ f55_ l56_
            obtain ⟨a61_, r62_, n63_, q64_⟩ := ra_122 (F18_ 339 k.toNat).toNat (by omega)
            refine fl_aald (z := F18_ 339 k.toNat) (q := a61_) hm_5 rfl sc_122 (hG _ _ _ sc_122) rfl (by omega) (by simp only [List.length_cons, List.length_nil]; omega) (by simp only [List.length_cons, List.length_nil]; omega) r62_ ?_
            refine gVv (nY := 3) (F := 2) (L := 45) (As := [.ref a61_]) (b := 0) (rest := []) hm_5 rfl hm_85 rfl rfl (fl_ob sc_0) rfl rfl rfl rfl rfl (by omega) (by omega) (mc_85 hG F1 X hg_F1 (a61_) n63_) (fun _ _ h => False.elim h) ?_
            rintro A1_ ⟨F66_, hA_, g67_, s68_⟩
            subst hA_
            have g69_ : fs [(0, 0, 12, 12), (331, 331, 8, 12), (332, 339, 0, 100000), (343, 343, 0, 100000)] F F66_ := fs_tr g40_ s68_ rfl
            refine ga_inc (a := k) (c := k + 1) (lv2 := [(2, .int (Int32.ofInt (k + 1))), (0, .ref 0), (1, .int (Int32.ofInt mo))]) hm_5 rfl rfl (Nat.le_of_ble_eq_true rfl) rfl rfl ?_
            refine fl_goto hm_5 rfl ?_
            exact ih38_ _ (by omega) (k + 1) F66_ rfl g67_ (fs_tr hf_F1 s68_ rfl) (⟨by omega, by omega⟩)
          exact L37_ _ (0) F18_ rfl g19_ fs_refl (⟨by omega, by omega⟩)
        refine fl_iconst hm_5 rfl ?_
        refine gr_i (z := -1) hm_5 rfl rfl rfl ?_
        exact ⟨F18_, rfl, g19_, g21_, (⟨by omega, by omega⟩), (c17_)⟩
      refine fl_thr hm_5 rfl rfl (by omega) (by omega) (Nat.le_of_ble_eq_true rfl) (fl_pos sc_0) ?_
      refine gw_i ?_
      exact ⟨F18_, 16, (Or.inr (Or.inr (rfl))), ⟨ga_len.symm, (List.append_assoc _ _ _).symm⟩, g19_, g21_, (c17_)⟩
    refine fl_thr hm_5 rfl rfl (by omega) (by omega) (Nat.le_of_ble_eq_true rfl) (fl_pos sc_0) ?_
    refine gw_i ?_
    exact ⟨F, 14, (Or.inr (Or.inl rfl)), ⟨ga_len.symm, (List.append_assoc _ _ _).symm⟩, hgi, fs_refl, (hfd)⟩
  refine fl_thr hm_13 rfl rfl (by omega) (by omega) (Nat.le_of_ble_eq_true rfl) (fl_pos sc_0) ?_
  refine gw_v ⟨rfl, ?_⟩
  refine gw_i ?_
  exact ⟨F, 15, (Or.inl rfl), ⟨ga_len.symm, (List.append_assoc _ _ _).symm⟩, hgi, fs_refl, (hfd)⟩
/- CheapPlanner.problem -/
abbrev pq_3 (G : Nat → Nat → Option Nat) (F : fl_N) (X : xi_H) (nm : Int) (ts pl : List Int) (ps : List (List Int)) (D : List ad_T) : Outcome → xi_H → Prop := gqi (fun z A => ∃ F' : fl_N, fl_H sh_T G F' ++ X = A ∧ gi F' ∧ fs [(0, 0, 8, 8), (0, 0, 10, 10), (0, 0, 12, 12), (331, 331, 8, 8), (331, 331, 10, 11), (335, 335, 0, 100000), (338, 338, 0, 100000), (1, 1, 1, 1), (1, 1, 6, 8), (3, 6, 0, 100000), (105, 117, 0, 100000), (119, 119, 2, 3), (120, 120, 1, 1), (120, 120, 3, 4), (121, 121, 0, 100000), (123, 123, 0, 4), (124, 124, 0, 100000), (126, 330, 0, 100000)] F F' ∧ (-2147483648 ≤ z ∧ z ≤ 2147483647) ∧ (F 0 7 = 1 ∧ F' 1 1 = 0) ∧ (fnd F') ∧ (∃ K l tl, dmk K F ∧ sp_prb K nm ts pl ps = .inr (l, tl) ∧ z = ((stP tl D D.length).length : Int) ∧ pbC F' ps tl D (prb_i K nm ts pl ps) (prb_g K nm ts pl ps) ∧ tl.length ≤ 6) ∧ (F' 1 8 = 0) ∧ (F' 0 8 = 1 ∧ F' 0 10 = 0)) (fun j A => ∃ (F' : fl_N) (ci : Nat), (ci = 15 ∨ ci = 14 ∨ ci = 16) ∧ (387 + X.length = j ∧ fl_H sh_T G F' ++ (X ++ [gx ci]) = A) ∧ gi F' ∧ fs [(0, 0, 8, 8), (0, 0, 10, 10), (0, 0, 12, 12), (331, 331, 8, 8), (331, 331, 10, 11), (335, 335, 0, 100000), (338, 338, 0, 100000), (1, 1, 1, 1), (1, 1, 6, 8), (3, 6, 0, 100000), (105, 117, 0, 100000), (119, 119, 2, 3), (120, 120, 1, 1), (120, 120, 3, 4), (121, 121, 0, 100000), (123, 123, 0, 4), (124, 124, 0, 100000), (126, 330, 0, 100000)] F F' ∧ ((F 0 7 = 0 ∧ F' 1 1 = F 1 1) ∨ (F 0 7 = 1 ∧ F' 1 1 = 0)) ∧ (fnd F') ∧ ((F 0 7 = 0 ∧ ci = 15 ∧ F' 1 8 = F 1 8) ∨ (F 0 7 = 1 ∧ ci = 14 ∧ ∃ K e, dmk K F ∧ sp_prb K nm ts pl ps = .inl e ∧ F' 1 8 = e.1 + 10 * e.2) ∨ (F 0 7 = 1 ∧ ci = 16 ∧ F' 1 8 = 0 ∧ ∃ K l tl, dmk K F ∧ sp_prb K nm ts pl ps = .inr (l, tl) ∧ (40 < nfc ps tl 216 ∨ 40 < (stP tl D D.length).length))) ∧ (F' 0 8 = (if F 0 7 = 0 then F 0 8 else 0)))
theorem mc_3 {G : Nat → Nat → Option Nat} (hG : gg G) (F : fl_N) (X : xi_H) (hgi : gi F) (nm : Int) (ts pl : List Int) (ps : List (List Int)) (D : List ad_T) (hfd : fnd F) (hdm : dmi F) (hnm : F 7 0 = nm) (hts : rep (F 9) (F 8 2) ts) (hpl : rep (F 12) (F 11 2) pl) (hps : prd F ps) (hpn : pl.length = ps.length) (hDD : F 0 7 = 1 → dar F D ∧ (D.length : Int) = F 15 2) : fl_M xi_ms 3 12 235 [.ref 0] (fl_H sh_T G F ++ X) (pq_3 G F X nm ts pl ps D) := by
  intro fr lo hfr hlo
  show fl_R xi_ms 3 fr lo 0 [(0, .ref 0)] [] _ _
  have hb7 : 0 ≤ F 0 7 ∧ F 0 7 ≤ 1 := gi_g hgi rfl
  have hb15 : 0 ≤ F 15 2 ∧ F 15 2 ≤ 5 := gi_g hgi rfl
  have hpl1 := hpl.1
  have hb11 : 0 ≤ F 11 2 ∧ F 11 2 ≤ 6 := gi_g hgi rfl
  refine ga_aload_n (v := .ref 0) hm_3 rfl rfl rfl ?_
  have b1_ : 0 ≤ F 0 7 ∧ F 0 7 ≤ 1 := gi_g hgi rfl
  refine ga_geti (z := F 0 7) hm_3 rfl sc_0 rfl (rfl) ?_
  refine fx_if_ne (a := F 0 7) hm_3 rfl ⟨by omega, by omega⟩ (fun h2_ => ?_) (fun h3_ => ?_)
  ·
    refine ga_aload_n (v := .ref 0) hm_3 rfl rfl rfl ?_
    refine gVv (nY := 1) (F := 2) (L := 43) (As := []) (b := 0) (rest := []) hm_3 rfl hm_15 rfl rfl (fl_ob sc_0) rfl rfl rfl rfl rfl (by omega) (by omega) (mc_15 hG F X hgi) (fun _ _ h => False.elim h) ?_
    rintro A1_ ⟨F7_, hA_, g8_, s9_, c5_, c6_⟩
    subst hA_
    have g10_ : fs [(0, 0, 8, 8), (0, 0, 10, 10), (0, 0, 12, 12), (331, 331, 8, 8), (331, 331, 10, 11), (335, 335, 0, 100000), (338, 338, 0, 100000), (1, 1, 1, 1), (1, 1, 6, 8), (3, 6, 0, 100000), (105, 117, 0, 100000), (119, 119, 2, 3), (120, 120, 1, 1), (120, 120, 3, 4), (121, 121, 0, 100000), (123, 123, 0, 4), (124, 124, 0, 100000), (126, 330, 0, 100000)] F F7_ := fs_tr fs_refl s9_ rfl
    refine ga_aload_n (v := .ref 0) hm_3 rfl rfl rfl ?_
    refine ga_getr (b := 118) hm_3 rfl sc_0 rfl ?_
    refine gVv (nY := 1) (F := 11) (L := 215) (As := []) (b := 118) (rest := []) hm_3 rfl hm_125 rfl rfl (fl_ob sc_118) rfl rfl rfl rfl rfl (by omega) (by omega) (mc_125 hG F7_ X g8_ (nm) (ts) (pl) (ps) (Eq.trans ((show F7_ 7 0 = F 7 0 from (s9_ 7 0 (by first | exact fs_c rfl | exact (fs_n (by omega) (fs_n (by omega) (fs_n (by omega) (fs_n (by omega) (fs_n (by omega) (fs_n (by omega) (fs_n (by omega) rfl))))))))))) hnm) ((rep_fs hts s9_ (fun _ => (by first | exact fs_c rfl | exact (fs_n (by omega) (fs_n (by omega) (fs_n (by omega) (fs_n (by omega) (fs_n (by omega) (fs_n (by omega) (fs_n (by omega) rfl))))))))) (by first | exact fs_c rfl | exact (fs_n (by omega) (fs_n (by omega) (fs_n (by omega) (fs_n (by omega) (fs_n (by omega) (fs_n (by omega) (fs_n (by omega) rfl)))))))))) ((rep_fs hpl s9_ (fun _ => (by first | exact fs_c rfl | exact (fs_n (by omega) (fs_n (by omega) (fs_n (by omega) (fs_n (by omega) (fs_n (by omega) (fs_n (by omega) (fs_n (by omega) rfl))))))))) (by first | exact fs_c rfl | exact (fs_n (by omega) (fs_n (by omega) (fs_n (by omega) (fs_n (by omega) (fs_n (by omega) (fs_n (by omega) (fs_n (by omega) rfl)))))))))) ((prd_fs hps s9_ (fun _ _ _ => (by first | exact fs_c rfl | exact (fs_n (by omega) (fs_n (by omega) (fs_n (by omega) (fs_n (by omega) (fs_n (by omega) (fs_n (by omega) (fs_n (by omega) rfl))))))))))) (hpn)) ?_ ?_
    ·
      rintro j_ A1_ ⟨F13_, ⟨hJ_, hA_⟩, g14_, s15_, c11_, c12_⟩
      subst hA_
      subst hJ_
      refine ⟨rfl, ?_⟩
      refine gw_i ?_
      have g16_ : fs [(0, 0, 8, 8), (0, 0, 10, 10), (0, 0, 12, 12), (331, 331, 8, 8), (331, 331, 10, 11), (335, 335, 0, 100000), (338, 338, 0, 100000), (1, 1, 1, 1), (1, 1, 6, 8), (3, 6, 0, 100000), (105, 117, 0, 100000), (119, 119, 2, 3), (120, 120, 1, 1), (120, 120, 3, 4), (121, 121, 0, 100000), (123, 123, 0, 4), (124, 124, 0, 100000), (126, 330, 0, 100000)] F F13_ := fs_tr g10_ s15_ rfl
      have b17_ : 0 ≤ F13_ 1 1 ∧ F13_ 1 1 ≤ 600 := gi_g g14_ rfl
      have b18_ : 0 ≤ F 1 1 ∧ F 1 1 ≤ 600 := gi_g hgi rfl
      have e19_ : F13_ 331 11 = F7_ 331 11 := (s15_ 331 11 rfl).trans (rfl)
      have b20_ : 0 ≤ F13_ 1 8 ∧ F13_ 1 8 ≤ 100000 := gi_g g14_ rfl
      have b21_ : 0 ≤ F 1 8 ∧ F 1 8 ≤ 100000 := gi_g hgi rfl
      have e22_ : F13_ 0 8 = F7_ 0 8 := (s15_ 0 8 rfl).trans (rfl)
      have b23_ : 0 ≤ F7_ 0 8 ∧ F7_ 0 8 ≤ 1 := gi_g g8_ rfl
      have b24_ : 0 ≤ F 0 8 ∧ F 0 8 ≤ 1 := gi_g hgi rfl
      exact ⟨F13_, 14, (Or.inr (Or.inl rfl)), ⟨rfl, rfl⟩, g14_, g16_, (Or.inr ⟨by omega, by omega⟩), (fun h9_ => absurd h9_ (by omega)), (Or.inr (Or.inl ⟨by omega, rfl, by obtain ⟨K, e, c1, c2, c3⟩ := c11_; exact ⟨K, e, (by have e2_ : F7_ 2 = F 2 := funext (fun j => (show F7_ 2 j = F 2 j from (s9_ 2 j (by first | exact fs_c rfl | exact (fs_n (by omega) (fs_n (by omega) (fs_n (by omega) (fs_n (by omega) (fs_n (by omega) (fs_n (by omega) (fs_n (by omega) rfl))))))))))); have e1_ : F7_ 1 1 = F 1 1 := (show F7_ 1 1 = F 1 1 from (s9_ 1 1 (by first | exact fs_c rfl | exact (fs_n (by omega) (fs_n (by omega) (fs_n (by omega) (fs_n (by omega) (fs_n (by omega) (fs_n (by omega) (fs_n (by omega) rfl)))))))))); unfold dmk at c1 ⊢; rw [e2_, e1_] at c1; exact c1), c2, c3⟩⟩)), (by rw [if_neg (by omega)]; omega)⟩
    rintro A1_ ⟨F31_, hA_, g32_, s33_, c26_, c27_, c28_, c29_, c30_⟩
    subst hA_
    have g34_ : fs [(0, 0, 8, 8), (0, 0, 10, 10), (0, 0, 12, 12), (331, 331, 8, 8), (331, 331, 10, 11), (335, 335, 0, 100000), (338, 338, 0, 100000), (1, 1, 1, 1), (1, 1, 6, 8), (3, 6, 0, 100000), (105, 117, 0, 100000), (119, 119, 2, 3), (120, 120, 1, 1), (120, 120, 3, 4), (121, 121, 0, 100000), (123, 123, 0, 4), (124, 124, 0, 100000), (126, 330, 0, 100000)] F F31_ := fs_tr g10_ s33_ rfl
    obtain ⟨K, l, tl, hk1_, hk2_, hk3_, hk4_, hk5_, hk6_⟩ := c26_
    obtain ⟨hD, hDl⟩ := hDD (by omega)
    refine ga_aload_n (v := .ref 0) hm_3 rfl rfl rfl ?_
    refine ga_getr (b := 120) hm_3 rfl sc_0 rfl ?_
    refine ga_aload_n (v := .ref 0) hm_3 rfl rfl rfl ?_
    refine ga_getr (b := 7) hm_3 rfl sc_0 rfl ?_
    refine ga_aload_n (v := .ref 0) hm_3 rfl rfl rfl ?_
    refine ga_getr (b := 104) hm_3 rfl sc_0 rfl ?_
    refine gVi (nY := 4) (F := 6) (L := 144) (As := [.ref 7, .ref 104]) (b := 120) (rest := []) hm_3 rfl hm_101 rfl rfl (fl_ob sc_120) rfl rfl rfl rfl rfl (by omega) (by omega) (mc_101 hG F31_ X g32_ (pl) (tl) (ps) (D) ((prb_i K nm ts pl ps)) ((prb_g K nm ts pl ps)) (by rw [(Eq.trans (a := F31_ 15 2) (b := F7_ 15 2) (s33_ 15 2 (by first | exact fs_c rfl | exact (fs_n (by omega) (fs_n (by omega) (fs_n (by omega) (fs_n (by omega) (fs_n (by omega) rfl))))))) (show F7_ 15 2 = F 15 2 from (s9_ 15 2 (by first | exact fs_c rfl | exact (fs_n (by omega) (fs_n (by omega) (fs_n (by omega) (fs_n (by omega) (fs_n (by omega) (fs_n (by omega) (fs_n (by omega) rfl)))))))))))]; exact (di_fs (di_fs (hdm (by omega)) s9_ (by first | exact fs_rg rfl | exact fun r j hj => (fs_n (by omega) (fs_n (by omega) (fs_n (by omega) (fs_n (by omega) (fs_n (by omega) (fs_n (by omega) (fs_n (by omega) rfl))))))))) s33_ (by first | exact fs_rg rfl | exact fun r j hj => (fs_n (by omega) (fs_n (by omega) (fs_n (by omega) (fs_n (by omega) (fs_n (by omega) rfl)))))))) (c28_) (c29_) ((rep_fs (rep_fs hpl s9_ (fun _ => (by first | exact fs_c rfl | exact (fs_n (by omega) (fs_n (by omega) (fs_n (by omega) (fs_n (by omega) (fs_n (by omega) (fs_n (by omega) (fs_n (by omega) rfl))))))))) (by first | exact fs_c rfl | exact (fs_n (by omega) (fs_n (by omega) (fs_n (by omega) (fs_n (by omega) (fs_n (by omega) (fs_n (by omega) (fs_n (by omega) rfl))))))))) s33_ (fun _ => (by first | exact fs_c rfl | exact (fs_n (by omega) (fs_n (by omega) (fs_n (by omega) (fs_n (by omega) (fs_n (by omega) rfl))))))) (by first | exact fs_c rfl | exact (fs_n (by omega) (fs_n (by omega) (fs_n (by omega) (fs_n (by omega) (fs_n (by omega) rfl)))))))) ((prd_fs (prd_fs hps s9_ (fun _ _ _ => (by first | exact fs_c rfl | exact (fs_n (by omega) (fs_n (by omega) (fs_n (by omega) (fs_n (by omega) (fs_n (by omega) (fs_n (by omega) (fs_n (by omega) rfl)))))))))) s33_ (fun _ _ _ => (by first | exact fs_c rfl | exact (fs_n (by omega) (fs_n (by omega) (fs_n (by omega) (fs_n (by omega) (fs_n (by omega) rfl))))))))) (hpn) ((dar_fs (dar_fs hD s9_ (by first | exact fs_rg rfl | exact fun r j hj => (fs_n (by omega) (fs_n (by omega) (fs_n (by omega) (fs_n (by omega) (fs_n (by omega) (fs_n (by omega) (fs_n (by omega) rfl))))))))) s33_ (by first | exact fs_rg rfl | exact fun r j hj => (fs_n (by omega) (fs_n (by omega) (fs_n (by omega) (fs_n (by omega) (fs_n (by omega) rfl)))))))) (Eq.trans hDl ((Eq.trans (a := F31_ 15 2) (b := F7_ 15 2) (s33_ 15 2 (by first | exact fs_c rfl | exact (fs_n (by omega) (fs_n (by omega) (fs_n (by omega) (fs_n (by omega) (fs_n (by omega) rfl))))))) (show F7_ 15 2 = F 15 2 from (s9_ 15 2 (by first | exact fs_c rfl | exact (fs_n (by omega) (fs_n (by omega) (fs_n (by omega) (fs_n (by omega) (fs_n (by omega) (fs_n (by omega) (fs_n (by omega) rfl)))))))))))).symm) (hk4_) ((prb_ok hpn hk2_).1.2) (hk5_) (hk6_) (fun x hx => ((prb_ok hpn hk2_).2.1 x hx).2)) (fun _ _ h => False.elim h) ?_
    rintro z35_ A1_ (⟨F37_, hA_, g38_, s39_, hz_, c36_⟩ | ⟨F46_, hA_, g47_, s48_, hz_, c40_, c41_, c42_, c43_, c44_, c45_⟩)
    ·
      subst hA_
      subst hz_
      have g49_ : fs [(0, 0, 8, 8), (0, 0, 10, 10), (0, 0, 12, 12), (331, 331, 8, 8), (331, 331, 10, 11), (335, 335, 0, 100000), (338, 338, 0, 100000), (1, 1, 1, 1), (1, 1, 6, 8), (3, 6, 0, 100000), (105, 117, 0, 100000), (119, 119, 2, 3), (120, 120, 1, 1), (120, 120, 3, 4), (121, 121, 0, 100000), (123, 123, 0, 4), (124, 124, 0, 100000), (126, 330, 0, 100000)] F F37_ := fs_tr g34_ s39_ rfl
      refine fl_if_ne hm_3 rfl ⟨by omega, by omega⟩ (fun h => absurd h (by omega)) (fun _ => ?_)
      refine fl_thr hm_3 rfl rfl (by omega) (by omega) (Nat.le_of_ble_eq_true rfl) (fl_pos sc_0) ?_
      refine gw_i ?_
      have e50_ : F37_ 1 1 = F31_ 1 1 := (s39_ 1 1 rfl).trans (rfl)
      have b51_ : 0 ≤ F31_ 1 1 ∧ F31_ 1 1 ≤ 600 := gi_g g32_ rfl
      have b52_ : 0 ≤ F 1 1 ∧ F 1 1 ≤ 600 := gi_g hgi rfl
      have e53_ : F31_ 331 11 = F7_ 331 11 := (s33_ 331 11 rfl).trans (rfl)
      have e54_ : F37_ 331 11 = F7_ 331 11 := (s39_ 331 11 rfl).trans (e53_)
      have e55_ : F37_ 1 8 = F31_ 1 8 := (s39_ 1 8 rfl).trans (rfl)
      have b56_ : 0 ≤ F31_ 1 8 ∧ F31_ 1 8 ≤ 100000 := gi_g g32_ rfl
      have b57_ : 0 ≤ F 1 8 ∧ F 1 8 ≤ 100000 := gi_g hgi rfl
      have e58_ : F31_ 0 8 = F7_ 0 8 := (s33_ 0 8 rfl).trans (rfl)
      have e59_ : F37_ 0 8 = F7_ 0 8 := (s39_ 0 8 rfl).trans (e58_)
      have b60_ : 0 ≤ F7_ 0 8 ∧ F7_ 0 8 ≤ 1 := gi_g g8_ rfl
      have b61_ : 0 ≤ F 0 8 ∧ F 0 8 ≤ 1 := gi_g hgi rfl
      exact ⟨F37_, 16, (Or.inr (Or.inr (rfl))), ⟨ga_len.symm, (List.append_assoc _ _ _).symm⟩, g38_, g49_, (Or.inr ⟨by omega, by omega⟩), (fun h9_ => absurd h9_ (by omega)), (Or.inr (Or.inr ⟨by omega, rfl, Eq.trans ((show F37_ 1 8 = F31_ 1 8 from (s39_ 1 8 (by first | exact fs_c rfl | exact (fs_n (by omega) (fs_n (by omega) (fs_n (by omega) (fs_n (by omega) (fs_n (by omega) (fs_n (by omega) rfl)))))))))) c30_, K, l, tl, (by have c1 := hk1_; have e2_ : F7_ 2 = F 2 := funext (fun j => (show F7_ 2 j = F 2 j from (s9_ 2 j (by first | exact fs_c rfl | exact (fs_n (by omega) (fs_n (by omega) (fs_n (by omega) (fs_n (by omega) (fs_n (by omega) (fs_n (by omega) (fs_n (by omega) rfl))))))))))); have e1_ : F7_ 1 1 = F 1 1 := (show F7_ 1 1 = F 1 1 from (s9_ 1 1 (by first | exact fs_c rfl | exact (fs_n (by omega) (fs_n (by omega) (fs_n (by omega) (fs_n (by omega) (fs_n (by omega) (fs_n (by omega) (fs_n (by omega) rfl)))))))))); unfold dmk at c1 ⊢; rw [e2_, e1_] at c1; exact c1), hk2_, c36_⟩)), (by rw [if_neg (by omega)]; omega)⟩
    subst hA_
    subst hz_
    have g62_ : fs [(0, 0, 8, 8), (0, 0, 10, 10), (0, 0, 12, 12), (331, 331, 8, 8), (331, 331, 10, 11), (335, 335, 0, 100000), (338, 338, 0, 100000), (1, 1, 1, 1), (1, 1, 6, 8), (3, 6, 0, 100000), (105, 117, 0, 100000), (119, 119, 2, 3), (120, 120, 1, 1), (120, 120, 3, 4), (121, 121, 0, 100000), (123, 123, 0, 4), (124, 124, 0, 100000), (126, 330, 0, 100000)] F F46_ := fs_tr g34_ s48_ rfl
    refine fl_if_ne hm_3 rfl ⟨by omega, by omega⟩ (fun _ => ?_) (fun h => absurd (by omega) h)
    refine ga_aload_n (v := .ref 0) hm_3 rfl rfl rfl ?_
    refine fl_iconst hm_3 rfl ?_
    refine ga_putz (z := 1) hm_3 rfl sc_0 rfl rfl (by omega) ?_
    refine ga_aload_n (v := .ref 0) hm_3 rfl rfl rfl ?_
    refine ga_getr (b := 120) hm_3 rfl sc_0 rfl ?_
    have b63_ : 0 ≤ F46_ 120 3 ∧ F46_ 120 3 ≤ 41 := gi_g g47_ rfl
    refine ga_geti (z := F46_ 120 3) hm_3 rfl sc_120 rfl (fl_u_ne (by first | exact nc_ rfl | decide | omega)) ?_
    obtain ⟨F64_, q65_⟩ : ∃ Fq_, Fq_ = (fl_u F46_ 0 8 1) := ⟨_, rfl⟩
    rw [← q65_]
    have g66_ : gi F64_ := by rw [q65_]; exact gi_u (g47_) rfl (by omega) (by omega)
    have g67_ : fs [(0, 0, 8, 8), (0, 0, 10, 10), (0, 0, 12, 12), (331, 331, 8, 8), (331, 331, 10, 11), (335, 335, 0, 100000), (338, 338, 0, 100000), (1, 1, 1, 1), (1, 1, 6, 8), (3, 6, 0, 100000), (105, 117, 0, 100000), (119, 119, 2, 3), (120, 120, 1, 1), (120, 120, 3, 4), (121, 121, 0, 100000), (123, 123, 0, 4), (124, 124, 0, 100000), (126, 330, 0, 100000)] F F64_ := by rw [q65_]; exact fs_u (g62_) rfl
    refine gr_i (z := F46_ 120 3) hm_3 rfl rfl rfl ?_
    have e68_ : F46_ 1 1 = F31_ 1 1 := (s48_ 1 1 rfl).trans (rfl)
    have e69_ : F64_ 1 1 = F31_ 1 1 := by rw [q65_]; exact (fl_u_ne (by first | exact nc_ rfl | decide | omega)).trans (e68_)
    have b70_ : 0 ≤ F31_ 1 1 ∧ F31_ 1 1 ≤ 600 := gi_g g32_ rfl
    have e71_ : F31_ 331 11 = F7_ 331 11 := (s33_ 331 11 rfl).trans (rfl)
    have e72_ : F46_ 331 11 = F7_ 331 11 := (s48_ 331 11 rfl).trans (e71_)
    have e73_ : F64_ 331 11 = F7_ 331 11 := by rw [q65_]; exact (fl_u_ne (by first | exact nc_ rfl | decide | omega)).trans (e72_)
    have e74_ : F64_ 120 3 = F46_ 120 3 := by rw [q65_]; exact fl_u_ne (by first | exact nc_ rfl | decide | omega)
    have e75_ : F46_ 1 8 = F31_ 1 8 := (s48_ 1 8 rfl).trans (rfl)
    have e76_ : F64_ 1 8 = F31_ 1 8 := by rw [q65_]; exact (fl_u_ne (by first | exact nc_ rfl | decide | omega)).trans (e75_)
    have b77_ : 0 ≤ F31_ 1 8 ∧ F31_ 1 8 ≤ 100000 := gi_g g32_ rfl
    have e78_ : F31_ 0 10 = F7_ 0 10 := (s33_ 0 10 rfl).trans (rfl)
    have e79_ : F46_ 0 10 = F7_ 0 10 := (s48_ 0 10 rfl).trans (e78_)
    have e80_ : F64_ 0 10 = F7_ 0 10 := by rw [q65_]; exact (fl_u_ne (by first | exact nc_ rfl | decide | omega)).trans (e79_)
    have b81_ : 0 ≤ F7_ 0 10 ∧ F7_ 0 10 ≤ 60 := gi_g g8_ rfl
    have e82_ : F64_ 0 8 = 1 := by rw [q65_]; exact fl_u_eq
    exact ⟨F64_, rfl, g66_, g67_, (⟨by omega, by omega⟩), (⟨by omega, by omega⟩), (fun h9_ => absurd h9_ (by omega)), (⟨K, l, tl, (by have c1 := hk1_; have e2_ : F7_ 2 = F 2 := funext (fun j => (show F7_ 2 j = F 2 j from (s9_ 2 j (by first | exact fs_c rfl | exact (fs_n (by omega) (fs_n (by omega) (fs_n (by omega) (fs_n (by omega) (fs_n (by omega) (fs_n (by omega) (fs_n (by omega) rfl))))))))))); have e1_ : F7_ 1 1 = F 1 1 := (show F7_ 1 1 = F 1 1 from (s9_ 1 1 (by first | exact fs_c rfl | exact (fs_n (by omega) (fs_n (by omega) (fs_n (by omega) (fs_n (by omega) (fs_n (by omega) (fs_n (by omega) (fs_n (by omega) rfl)))))))))); unfold dmk at c1 ⊢; rw [e2_, e1_] at c1; exact c1), hk2_, by have h9_ := c42_.1; have h8_ := c42_.2; have h7_ : F64_ 120 3 = F46_ 120 3 := (show F64_ 120 3 = F46_ 120 3 from (by rw [q65_]; exact (fl_u_ne (by first | exact nc_ rfl | decide | omega)))); omega, ⟨⟨Eq.trans ((show F64_ 120 1 = F46_ 120 1 from (by rw [q65_]; exact (fl_u_ne (by first | exact nc_ rfl | decide | omega))))) c40_.1, c40_.2⟩, fnr_cg c41_ (fun j => (show F64_ 121 j = F46_ 121 j from (by rw [q65_]; exact (fl_u_ne (by first | exact nc_ rfl | decide | omega))))), ⟨Eq.trans ((show F64_ 120 3 = F46_ 120 3 from (by rw [q65_]; exact (fl_u_ne (by first | exact nc_ rfl | decide | omega))))) c42_.1, by rw [(show F64_ 120 3 = F46_ 120 3 from (by rw [q65_]; exact (fl_u_ne (by first | exact nc_ rfl | decide | omega))))]; exact c42_.2⟩, by have h7_ := c42_.1; have h8_ := c42_.2; exact sts_cg c43_ (fun r j hr => (show F64_ (r) j = F46_ (r) j from (by rw [q65_]; exact (fl_u_ne (by first | exact nc_ rfl | decide | omega))))) (fun j => (show F64_ 121 j = F46_ 121 j from (by rw [q65_]; exact (fl_u_ne (by first | exact nc_ rfl | decide | omega))))), by rw [(show F64_ 121 = F46_ 121 from funext (fun j => (show F64_ 121 j = F46_ 121 j from (by rw [q65_]; exact (fl_u_ne (by first | exact nc_ rfl | decide | omega)))))), (show F64_ 125 = F46_ 125 from funext (fun j => (show F64_ 125 j = F46_ 125 j from (by rw [q65_]; exact (fl_u_ne (by first | exact nc_ rfl | decide | omega))))))]; exact Eq.trans ((show F64_ 120 4 = F46_ 120 4 from (by rw [q65_]; exact (fl_u_ne (by first | exact nc_ rfl | decide | omega))))) c44_, by rw [(show F64_ 121 = F46_ 121 from funext (fun j => (show F64_ 121 j = F46_ 121 j from (by rw [q65_]; exact (fl_u_ne (by first | exact nc_ rfl | decide | omega)))))), (show F64_ 125 = F46_ 125 from funext (fun j => (show F64_ 125 j = F46_ 125 j from (by rw [q65_]; exact (fl_u_ne (by first | exact nc_ rfl | decide | omega))))))]; exact ⟨Eq.trans ((show F64_ 123 0 = F46_ 123 0 from (by rw [q65_]; exact (fl_u_ne (by first | exact nc_ rfl | decide | omega))))) c45_.1, Eq.trans ((show F64_ 123 1 = F46_ 123 1 from (by rw [q65_]; exact (fl_u_ne (by first | exact nc_ rfl | decide | omega))))) c45_.2.1, Eq.trans ((show F64_ 123 2 = F46_ 123 2 from (by rw [q65_]; exact (fl_u_ne (by first | exact nc_ rfl | decide | omega))))) c45_.2.2⟩⟩, by have h9_ := hk4_.1; have h8_ : 0 ≤ F31_ 105 2 ∧ F31_ 105 2 ≤ 6 := gi_g g32_ rfl; omega⟩), (Eq.trans ((Eq.trans (a := F64_ 1 8) (b := F46_ 1 8) (by rw [q65_]; exact (fl_u_ne (by first | exact nc_ rfl | decide | omega))) (show F46_ 1 8 = F31_ 1 8 from (s48_ 1 8 (by first | exact fs_c rfl | exact (fs_n (by omega) (fs_n (by omega) (fs_n (by omega) (fs_n (by omega) (fs_n (by omega) (fs_n (by omega) rfl))))))))))) c30_), (⟨by omega, by omega⟩)⟩
  refine fl_thr hm_3 rfl rfl (by omega) (by omega) (Nat.le_of_ble_eq_true rfl) (fl_pos sc_0) ?_
  refine gw_i ?_
  have b83_ : 0 ≤ F 1 1 ∧ F 1 1 ≤ 600 := gi_g hgi rfl
  have b84_ : 0 ≤ F 1 8 ∧ F 1 8 ≤ 100000 := gi_g hgi rfl
  have b85_ : 0 ≤ F 0 8 ∧ F 0 8 ≤ 1 := gi_g hgi rfl
  exact ⟨F, 15, (Or.inl rfl), ⟨ga_len.symm, (List.append_assoc _ _ _).symm⟩, hgi, fs_refl, (Or.inl ⟨by omega, rfl⟩), (hfd), (Or.inl ⟨by omega, rfl, rfl⟩), (by rw [if_pos (by omega)])⟩

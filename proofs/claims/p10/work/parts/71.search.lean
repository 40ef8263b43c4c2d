/-! the class's search: lengths -/
theorem u64_i (u : UInt64) : u.toInt64 = Int64.ofInt (u.toNat : Int) := by
  apply Int64.toBitVec_inj.mp
  show u.toBitVec = (Int64.ofInt (u.toNat : Int)).toBitVec
  apply BitVec.eq_of_toNat_eq
  rw [show (Int64.ofInt (u.toNat : Int)).toBitVec = BitVec.ofInt 64 (u.toNat : Int) from rfl, BitVec.toNat_ofInt]
  have h := u.toNat_lt
  have e : u.toBitVec.toNat = u.toNat := rfl
  omega
theorem ga_u55 (x : Int64) : ∃ z : Int, (x.toUInt64 >>> ((Int32.ofInt 55).toInt64.toUInt64 &&& Int64.toUInt64 63)).toInt64 = Int64.ofInt z ∧ 0 ≤ z ∧ z ≤ 511 := by
  have e : ((Int32.ofInt 55).toInt64.toUInt64 &&& Int64.toUInt64 63) = 55 := by decide +kernel
  rw [e]
  refine ⟨((x.toUInt64 >>> 55).toNat : Int), u64_i _, by omega, ?_⟩
  have h := x.toUInt64.toNat_lt
  have h2 : (x.toUInt64 >>> 55).toNat = x.toUInt64.toNat / 36028797018963968 := by
    rw [UInt64.toNat_shiftRight, Nat.shiftRight_eq_div_pow]
    rfl
  omega
section U55
variable {Ms : List xi_M} {y fr lo pc : Nat} {M : xi_M} {lv : xi_L} {r : List Value} {A : xi_H} {nx : Nat} {aux : List Nat} {Q : Outcome → xi_H → Prop}
theorem ga_lushr55 {x : Int} (hM : Ms[y]? = some M) (hrow : xi_row M.2.2.2.2.1 pc = some (.lushr, nx, aux)) (hk : ∀ z, 0 ≤ z → z ≤ 511 → fl_R Ms y fr lo nx lv (.long (Int64.ofInt z) :: r) A Q) : fl_R Ms y fr lo pc lv (.int (Int32.ofInt 55) :: .long (Int64.ofInt x) :: r) A Q := by
  obtain ⟨z, hz, h0, h1⟩ := ga_u55 (Int64.ofInt x)
  refine fl_s (pc' := nx) (lv' := lv) (st' := .long (((Int64.ofInt x).toUInt64 >>> ((Int32.ofInt 55).toInt64.toUInt64 &&& Int64.toUInt64 63)).toInt64) :: r) (A' := A) hM hrow rfl rfl rfl ?_
  rw [hz]
  exact hk z h0 h1
end U55
def li (F : fl_N) : Prop := (∀ i : Nat, (i : Int) < F 331 8 → 0 ≤ F 335 i ∧ F 335 i ≤ (i : Int)) ∧ (F 335 200 = 2147483647 ∨ (0 ≤ F 335 200 ∧ F 335 200 ≤ 200)) ∧ (F 331 11 = 1 → 0 ≤ F 335 200 ∧ F 335 200 ≤ 200)
theorem li_at {F : fl_N} (h : li F) {i : Int} (h0 : 0 ≤ i) (h1 : i < F 331 8) : 0 ≤ F 335 i.toNat ∧ F 335 i.toNat ≤ i := by
  have := h.1 i.toNat (by omega)
  omega
theorem li_goal {F F2 : fl_N} (h : li F) {fm : Int} (h8 : F 331 8 ≤ 200) (hf : 0 ≤ fm ∧ fm < F 331 8) (c : F2 331 8 = F 331 8) (o : ∀ i : Nat, i ≠ (200 : Int).toNat → F2 335 i = F 335 i) (w : (F2 335 (200 : Int).toNat = F 335 (200 : Int).toNat ∧ F 335 (200 : Int).toNat ≤ F 335 fm.toNat + 1) ∨ (F2 335 (200 : Int).toNat = F 335 fm.toNat + 1 ∧ F 335 fm.toNat + 1 ≤ F 335 (200 : Int).toNat)) : li F2 := by
  have hl := li_at h hf.1 hf.2
  rw [show (200 : Int).toNat = 200 from rfl] at *
  have h2 := h.2.1
  have hg : 0 ≤ F2 335 200 ∧ F2 335 200 ≤ 200 := by omega
  refine ⟨fun i hi => ?_, Or.inr hg, fun _ => hg⟩
  rw [o i (by omega)]
  exact h.1 i (by omega)
theorem li_known {F F2 : fl_N} (h : li F) {fm v : Int} (hf : 0 ≤ fm ∧ fm < F 331 8) (hv : 0 ≤ v ∧ v ≤ 199) (c : F2 331 8 = F 331 8) (c2 : F2 331 11 = F 331 11) (o : ∀ i : Nat, i ≠ v.toNat → F2 335 i = F 335 i) (w : (F2 335 v.toNat = F 335 v.toNat ∧ F 335 v.toNat ≤ F 335 fm.toNat + 1) ∨ (F2 335 v.toNat = F 335 fm.toNat + 1 ∧ F 335 fm.toNat + 1 ≤ F 335 v.toNat)) : li F2 := by
  have hl := li_at h hf.1 hf.2
  refine ⟨fun i hi => ?_, ?_, ?_⟩
  · by_cases e : i = v.toNat
    · subst e
      have := h.1 v.toNat (by omega)
      omega
    · rw [o i e]
      exact h.1 i (by omega)
  · rw [o 200 (by omega)]
    exact h.2.1
  · rw [o 200 (by omega), c2]
    exact h.2.2
theorem li_add {F F1 F2 : fl_N} (h : li F) {fm : Int} (h8 : F 331 8 ≤ 199) (hf : 0 ≤ fm ∧ fm < F 331 8) (a1 : F1 331 8 = F 331 8 + 1) (a2 : (F 331 8 = 0 ∧ F1 335 (F 331 8).toNat = 0) ∨ (0 < F 331 8 ∧ F1 335 (F 331 8).toNat = 2147483647)) (a3 : ∀ i : Nat, i ≠ (F 331 8).toNat → F1 335 i = F 335 i) (a4 : F1 331 11 = F 331 11) (c : F2 331 8 = F1 331 8) (c2 : F2 331 11 = F1 331 11) {v : Int} (hv : v = F1 331 8 - 1) (o : ∀ i : Nat, i ≠ v.toNat → F2 335 i = F1 335 i) (w : (F2 335 v.toNat = F1 335 v.toNat ∧ F1 335 v.toNat ≤ F1 335 fm.toNat + 1) ∨ (F2 335 v.toNat = F1 335 fm.toNat + 1 ∧ F1 335 fm.toNat + 1 ≤ F1 335 v.toNat)) : li F2 := by
  have hl := li_at h hf.1 hf.2
  have hv2 : v = F 331 8 := by omega
  subst hv2
  rw [a3 fm.toNat (by omega)] at w
  refine ⟨fun i hi => ?_, ?_, ?_⟩
  · by_cases e : i = (F 331 8).toNat
    · subst e
      omega
    · rw [o i e, a3 i e]
      exact h.1 i (by omega)
  · rw [o 200 (by omega), a3 200 (by omega)]
    exact h.2.1
  · rw [o 200 (by omega), a3 200 (by omega), c2, a4]
    exact h.2.2
theorem li_0 {F F1 : fl_N} {n : Int} (h0 : n = 0) (h1 : F 331 11 = 0) (h2 : F 335 200 = 2147483647) (a1 : F1 331 8 = n + 1) (a2 : (n = 0 ∧ F1 335 n.toNat = 0) ∨ (0 < n ∧ F1 335 n.toNat = 2147483647)) (a3 : ∀ i : Nat, i ≠ n.toNat → F1 335 i = F 335 i) (a4 : F1 331 11 = F 331 11) : li F1 := by
  subst h0
  rw [show (0 : Int).toNat = 0 from rfl] at *
  refine ⟨fun i hi => ?_, ?_, ?_⟩
  · have e : i = 0 := by omega
    subst e
    omega
  · rw [a3 200 (by omega)]
    exact Or.inl h2
  · intro e
    omega
theorem li_cg {F F2 : fl_N} (h : li F) (c : F2 331 8 = F 331 8) (c2 : F2 331 11 = F 331 11) (o : ∀ i : Nat, F2 335 i = F 335 i) : li F2 := by
  refine ⟨fun i hi => ?_, ?_, ?_⟩
  · rw [o i]
    exact h.1 i (by omega)
  · rw [o 200]
    exact h.2.1
  · rw [o 200, c2]
    exact h.2.2

/- java/util/Arrays.fill -/
abbrev pq_43 (G : Nat → Nat → Option Nat) (F : fl_N) (X : xi_H) (a n : Nat) (v lo_ hi_ : Int) : Outcome → xi_H → Prop := gqv (fun A => ∃ F' : fl_N, fl_H sh_T G F' ++ X = A ∧ gi F' ∧ fs [(a, a, 0, 100000)] F F' ∧ (∀ j : Nat, (j : Int) < (n : Int) → F' a j = v)) gqn
theorem mc_43 {G : Nat → Nat → Option Nat} (hG : gg G) (F : fl_N) (X : xi_H) (hgi : gi F) (a n : Nat) (v lo_ hi_ : Int) (h_a : sh_T[a]? = some (0, 0, [n])) (h_g : ∀ k, gb a k = (lo_, hi_)) (h_v : lo_ ≤ v ∧ v ≤ hi_) (h_n : n < 100000) (h_r : 126 ≤ a ∧ a ≤ 340) : fl_M xi_ms 43 0 0 [.ref a, .int (Int32.ofInt v)] (fl_H sh_T G F ++ X) (pq_43 G F X a n v lo_ hi_) := by
  intro fr lo hfr hlo
  show fl_R xi_ms 43 fr lo 0 [(0, .ref a), (1, .int (Int32.ofInt v))] [] _ _
  refine fl_iconst hm_43 rfl ?_
  refine ga_istore_n (lv2 := [(2, .int (Int32.ofInt 0)), (0, .ref a), (1, .int (Int32.ofInt v))]) hm_43 rfl (Nat.le_of_ble_eq_true rfl) rfl ?_
  refine ga_aload_n (v := .ref a) hm_43 rfl rfl rfl ?_
  refine fl_alen hm_43 rfl ⟨_, fl_at h_a⟩ rfl ?_
  refine ga_istore_n (lv2 := [(3, .int (Int32.ofInt ((n : Int)))), (2, .int (Int32.ofInt 0)), (0, .ref a), (1, .int (Int32.ofInt v))]) hm_43 rfl (Nat.le_of_ble_eq_true rfl) rfl ?_
  have L2_ : ∀ (n1_ : Nat) (i : Int) (F1 : fl_N), ((n : Int) - i : Int).toNat = n1_ → (gi F1) → (fs [(a, a, 0, 100000)] F F1) → (0 ≤ i ∧ i ≤ (n : Int)) → (∀ j : Nat, (j : Int) < i → F1 a j = v) → fl_R xi_ms 43 fr lo 5 [(3, .int (Int32.ofInt ((n : Int)))), (2, .int (Int32.ofInt i)), (0, .ref a), (1, .int (Int32.ofInt v))] [] (fl_H sh_T G F1 ++ X) (pq_43 G F X a n v lo_ hi_) := by
    intro n1_
    induction n1_ using Nat.strongRecOn with
    | ind n1_ ih3_ =>
    intro i F1 hn4_ hg_F1 hf_F1 hi hfl
    have g5_ : fs [(a, a, 0, 100000)] F F1 := fs_tr fs_refl hf_F1 (by simp [fs_le]; try omega)
    refine ga_iload_n (z := i) hm_43 rfl rfl ?_
    refine ga_iload_n (z := (n : Int)) hm_43 rfl rfl ?_
    refine fl_icmp_ge (a := i) (b := (n : Int)) hm_43 rfl ⟨by omega, by omega⟩ ⟨by omega, by omega⟩ (fun h6_ => ?_) (fun h7_ => ?_)
    ·
      refine gr_v hm_43 rfl rfl ?_
      exact ⟨F1, rfl, hg_F1, g5_, (fun j hj => hfl j (by omega))⟩
    refine ga_aload_n (v := .ref a) hm_43 rfl rfl rfl ?_
    refine ga_iload_n (z := i) hm_43 rfl rfl ?_
    refine ga_iload_n (z := v) hm_43 rfl rfl ?_
    refine fl_iast (z := i) (v := v) hm_43 rfl h_a (by omega) (by omega) (by omega) ?_
    refine ga_inc (a := i) (c := i + 1) (lv2 := [(2, .int (Int32.ofInt (i + 1))), (3, .int (Int32.ofInt ((n : Int)))), (0, .ref a), (1, .int (Int32.ofInt v))]) hm_43 rfl rfl (Nat.le_of_ble_eq_true rfl) rfl rfl ?_
    refine fl_goto hm_43 rfl ?_
    obtain ⟨F8_, q9_⟩ : ∃ Fq_, Fq_ = (fl_u F1 a i.toNat v) := ⟨_, rfl⟩
    rw [← q9_]
    have g10_ : gi F8_ := by rw [q9_]; exact gi_u (hg_F1) (h_g _) (by omega) (by omega)
    have g11_ : fs [(a, a, 0, 100000)] F F8_ := by rw [q9_]; exact fs_u (g5_) (fs_y (by omega))
    exact fl_R_sub (lv' := [(3, .int (Int32.ofInt ((n : Int)))), (2, .int (Int32.ofInt (i + 1))), (0, .ref a), (1, .int (Int32.ofInt v))]) rfl rfl (ih3_ _ (by omega) (i + 1) F8_ rfl g10_ (by rw [q9_]; exact fs_u (hf_F1) (fs_y (by omega))) (⟨by omega, by omega⟩) (by rw [q9_]; exact fi_step hfl (by omega)))
  exact L2_ _ (0) F rfl hgi fs_refl (⟨by omega, by omega⟩) (fun j hj => absurd hj (by omega))
/- CheapPlanner$Search.forget -/
abbrev pq_40 (G : Nat → Nat → Option Nat) (F : fl_N) (X : xi_H)  : Outcome → xi_H → Prop := gqv (fun A => ∃ F' : fl_N, fl_H sh_T G F' ++ X = A ∧ gi F' ∧ fs [(331, 331, 8, 8), (331, 331, 10, 11), (335, 335, 0, 100000), (338, 338, 0, 100000)] F F' ∧ (F' 331 8 = 0) ∧ (F' 331 11 = 0) ∧ (F' 335 200 = 2147483647)) gqn
theorem mc_40 {G : Nat → Nat → Option Nat} (hG : gg G) (F : fl_N) (X : xi_H) (hgi : gi F)  : fl_M xi_ms 40 1 23 [.ref 331] (fl_H sh_T G F ++ X) (pq_40 G F X) := by
  intro fr lo hfr hlo
  show fl_R xi_ms 40 fr lo 0 [(0, .ref 331)] [] _ _
  refine ga_aload_n (v := .ref 331) hm_40 rfl rfl rfl ?_
  refine fl_iconst hm_40 rfl ?_
  refine ga_putz (z := 0) hm_40 rfl sc_331 rfl rfl (by omega) ?_
  refine ga_aload_n (v := .ref 331) hm_40 rfl rfl rfl ?_
  refine fl_iconst hm_40 rfl ?_
  refine ga_putz (z := 0) hm_40 rfl sc_331 rfl rfl (by omega) ?_
  refine ga_aload_n (v := .ref 331) hm_40 rfl rfl rfl ?_
  refine fl_iconst hm_40 rfl ?_
  refine ga_puti (z := 0) hm_40 rfl sc_331 rfl rfl ?_
  refine ga_aload_n (v := .ref 331) hm_40 rfl rfl rfl ?_
  refine ga_getr (b := 335) hm_40 rfl sc_331 rfl ?_
  refine fl_sipush hm_40 rfl rfl ?_
  refine ga_ldci (z := 2147483647) hm_40 rfl (by decide) ?_
  refine fl_iast (z := 200) (v := 2147483647) hm_40 rfl sc_335 (by omega) (by omega) (by omega) ?_
  refine ga_aload_n (v := .ref 331) hm_40 rfl rfl rfl ?_
  refine ga_getr (b := 338) hm_40 rfl sc_331 rfl ?_
  refine fl_iconst hm_40 rfl ?_
  obtain ⟨F1_, q2_⟩ : ∃ Fq_, Fq_ = (fl_u (fl_u (fl_u (fl_u F 331 11 0) 331 10 0) 331 8 0) 335 (200 : Int).toNat 2147483647) := ⟨_, rfl⟩
  rw [← q2_]
  have g3_ : gi F1_ := by rw [q2_]; exact gi_u (gi_u (gi_u (gi_u (hgi) rfl (by omega) (by omega)) rfl (by omega) (by omega)) rfl (by omega) (by omega)) rfl (by omega) (by omega)
  have g4_ : fs [(331, 331, 8, 8), (331, 331, 10, 11), (335, 335, 0, 100000), (338, 338, 0, 100000)] F F1_ := by rw [q2_]; exact fs_u (fs_u (fs_u (fs_u (fs_refl) rfl) rfl) rfl) rfl
  refine gSv (nY := 4) (F := 0) (L := 0) (As := [.ref 338, .int (Int32.ofInt 0)]) (rest := []) hm_40 rfl hm_43 rfl rfl (fl_pos sc_0) rfl rfl rfl rfl (by omega) (by omega) (mc_43 hG F1_ X g3_ (338) (512) (0) (0) (200) sc_338 (fun _ => rfl) (⟨by omega, by omega⟩) (by omega) (⟨by omega, by omega⟩))  ?_
  rintro A1_ ⟨F7_, hA_, g8_, s9_, c6_⟩
  subst hA_
  have g10_ : fs [(331, 331, 8, 8), (331, 331, 10, 11), (335, 335, 0, 100000), (338, 338, 0, 100000)] F F7_ := fs_tr g4_ s9_ rfl
  refine gr_v hm_40 rfl rfl ?_
  have e11_ : F1_ 331 8 = 0 := by rw [q2_]; exact (fl_u_ne (by first | exact nc_ rfl | decide | omega)).trans (fl_u_eq)
  have e12_ : F7_ 331 8 = 0 := (s9_ 331 8 rfl).trans (e11_)
  have e13_ : F1_ 331 11 = 0 := by rw [q2_]; exact (fl_u_ne (by first | exact nc_ rfl | decide | omega)).trans ((fl_u_ne (by first | exact nc_ rfl | decide | omega)).trans ((fl_u_ne (by first | exact nc_ rfl | decide | omega)).trans (fl_u_eq)))
  have e14_ : F7_ 331 11 = 0 := (s9_ 331 11 rfl).trans (e13_)
  have e15_ : F1_ 335 200 = 2147483647 := by rw [q2_]; exact fl_u_eq
  have e16_ : F7_ 335 200 = 2147483647 := (s9_ 335 200 rfl).trans (e15_)
  exact ⟨F7_, rfl, g8_, g10_, (by omega), (by omega), (by omega)⟩
/- CheapPlanner$Search.leastDue -/
abbrev pq_138 (G : Nat → Nat → Option Nat) (F : fl_N) (X : xi_H)  : Outcome → xi_H → Prop := gqi (fun z A => fl_H sh_T G F ++ X = A ∧ (-2147483648 ≤ z ∧ z ≤ 2147483647)) gqn
theorem mc_138 {G : Nat → Nat → Option Nat} (hG : gg G) (F : fl_N) (X : xi_H) (hgi : gi F)  : fl_M xi_ms 138 1 21 [.ref 331] (fl_H sh_T G F ++ X) (pq_138 G F X) := by
  intro fr lo hfr hlo
  show fl_R xi_ms 138 fr lo 0 [(0, .ref 331)] [] _ _
  refine ga_ldci (z := 2147483647) hm_138 rfl (by decide) ?_
  refine ga_istore_n (lv2 := [(1, .int (Int32.ofInt 2147483647)), (0, .ref 331)]) hm_138 rfl (Nat.le_of_ble_eq_true rfl) rfl ?_
  refine fl_iconst hm_138 rfl ?_
  refine ga_istore_n (lv2 := [(2, .int (Int32.ofInt 0)), (1, .int (Int32.ofInt 2147483647)), (0, .ref 331)]) hm_138 rfl (Nat.le_of_ble_eq_true rfl) rfl ?_
  have L2_ : ∀ (n1_ : Nat) (k : Int) (le : Int), (F 331 8 - k : Int).toNat = n1_ → (0 ≤ k ∧ k ≤ 200) → (-2147483648 ≤ le ∧ le ≤ 2147483647) → fl_R xi_ms 138 fr lo 5 [(2, .int (Int32.ofInt k)), (1, .int (Int32.ofInt le)), (0, .ref 331)] [] (fl_H sh_T G F ++ X) (pq_138 G F X) := by
    intro n1_
    induction n1_ using Nat.strongRecOn with
    | ind n1_ ih3_ =>
    intro k le hn4_ hk hle
    refine ga_iload_n (z := k) hm_138 rfl rfl ?_
    refine ga_aload_n (v := .ref 331) hm_138 rfl rfl rfl ?_
    have b5_ : 0 ≤ F 331 8 ∧ F 331 8 ≤ 200 := gi_g hgi rfl
    refine ga_geti (z := F 331 8) hm_138 rfl sc_331 rfl (rfl) ?_
    refine fl_icmp_ge (a := k) (b := F 331 8) hm_138 rfl ⟨by omega, by omega⟩ ⟨by omega, by omega⟩ (fun h6_ => ?_) (fun h7_ => ?_)
    ·
      refine ga_iload_n (z := le) hm_138 rfl rfl ?_
      refine gr_i (z := le) hm_138 rfl rfl rfl ?_
      exact ⟨rfl, (⟨by omega, by omega⟩)⟩
    refine ga_iload_n (z := le) hm_138 rfl rfl ?_
    refine ga_aload_n (v := .ref 331) hm_138 rfl rfl rfl ?_
    refine ga_getr (b := 334) hm_138 rfl sc_331 rfl ?_
    refine ga_iload_n (z := k) hm_138 rfl rfl ?_
    have b8_ : -2147483648 ≤ F 334 k.toNat ∧ F 334 k.toNat ≤ 2147483647 := gi_g hgi rfl
    refine ga_iald (z := k) (w := F 334 k.toNat) hm_138 rfl sc_334 (by omega) (by omega) (by omega) (rfl) ?_
    refine gJi (nY := 2) (F := 0) (L := 0) (As := [.int (Int32.ofInt le), .int (Int32.ofInt (F 334 k.toNat))]) (rest := []) hm_138 rfl hm_196 rfl rfl (fl_pos sc_0) rfl rfl rfl rfl (by omega) (by omega) ?_
    intro f9_ l10_ h11_ h12_
    show fl_R xi_ms 196 f9_ l10_ 0 [(0, .int (Int32.ofInt le)), (1, .int (Int32.ofInt (F 334 k.toNat)))] [] _ _
    refine ga_iload_n (z := le) hm_196 rfl rfl ?_
    refine ga_iload_n (z := F 334 k.toNat) hm_196 rfl rfl ?_
    refine fl_icmp_gt (a := le) (b := F 334 k.toNat) hm_196 rfl ⟨by omega, by omega⟩ ⟨by omega, by omega⟩ (fun h13_ => ?_) (fun h14_ => ?_)
    ·
      refine ga_iload_n (z := F 334 k.toNat) hm_196 rfl rfl ?_
      refine gr_i hm_196 rfl rfl rfl ?_
      clear h11_ h12_ f9_ l10_
      refine ga_istore_n (lv2 := [(1, .int (Int32.ofInt (F 334 k.toNat))), (2, .int (Int32.ofInt k)), (0, .ref 331)]) hm_138 rfl (Nat.le_of_ble_eq_true rfl) rfl ?_
      refine ga_inc (a := k) (c := k + 1) (lv2 := [(2, .int (Int32.ofInt (k + 1))), (1, .int (Int32.ofInt (F 334 k.toNat))), (0, .ref 331)]) hm_138 rfl rfl (Nat.le_of_ble_eq_true rfl) rfl rfl ?_
      refine fl_goto hm_138 rfl ?_
      exact ih3_ _ (by omega) (k + 1) (F 334 k.toNat) rfl (⟨by omega, by omega⟩) (⟨by omega, by omega⟩)
    refine ga_iload_n (z := le) hm_196 rfl rfl ?_
    refine fl_goto hm_196 rfl ?_
    refine gr_i hm_196 rfl rfl rfl ?_
    clear h11_ h12_ f9_ l10_
    refine ga_istore_n (lv2 := [(1, .int (Int32.ofInt le)), (2, .int (Int32.ofInt k)), (0, .ref 331)]) hm_138 rfl (Nat.le_of_ble_eq_true rfl) rfl ?_
    refine ga_inc (a := k) (c := k + 1) (lv2 := [(2, .int (Int32.ofInt (k + 1))), (1, .int (Int32.ofInt le)), (0, .ref 331)]) hm_138 rfl rfl (Nat.le_of_ble_eq_true rfl) rfl rfl ?_
    refine fl_goto hm_138 rfl ?_
    exact ih3_ _ (by omega) (k + 1) (le) rfl (⟨by omega, by omega⟩) (⟨by omega, by omega⟩)
  have b15_ : 0 ≤ F 331 8 ∧ F 331 8 ≤ 200 := gi_g hgi rfl
  exact L2_ _ (0) (2147483647) rfl (⟨by omega, by omega⟩) (⟨by omega, by omega⟩)
/- CheapPlanner$Search.setDue -/
abbrev pq_141 (G : Nat → Nat → Option Nat) (F : fl_N) (X : xi_H) (w pr : Int) : Outcome → xi_H → Prop := gqv (fun A => ∃ F' : fl_N, fl_H sh_T G F' ++ X = A ∧ gi F' ∧ fs [(334, 334, 0, 100000)] F F') gqn
theorem mc_141 {G : Nat → Nat → Option Nat} (hG : gg G) (F : fl_N) (X : xi_H) (hgi : gi F) (w pr : Int) (hw : 0 ≤ w ∧ w ≤ 199) (hpr : -2147483648 ≤ pr ∧ pr ≤ 2147483647) : fl_M xi_ms 141 0 0 [.ref 331, .int (Int32.ofInt w), .int (Int32.ofInt pr)] (fl_H sh_T G F ++ X) (pq_141 G F X w pr) := by
  intro fr lo hfr hlo
  show fl_R xi_ms 141 fr lo 0 [(0, .ref 331), (1, .int (Int32.ofInt w)), (2, .int (Int32.ofInt pr))] [] _ _
  refine ga_ldci (z := 2147483647) hm_141 rfl (by decide) ?_
  refine ga_istore_n (lv2 := [(3, .int (Int32.ofInt 2147483647)), (0, .ref 331), (1, .int (Int32.ofInt w)), (2, .int (Int32.ofInt pr))]) hm_141 rfl (Nat.le_of_ble_eq_true rfl) rfl ?_
  refine fl_iconst hm_141 rfl ?_
  refine ga_istore (lv2 := [(4, .int (Int32.ofInt 0)), (3, .int (Int32.ofInt 2147483647)), (0, .ref 331), (1, .int (Int32.ofInt w)), (2, .int (Int32.ofInt pr))]) hm_141 rfl (Nat.le_of_ble_eq_true rfl) rfl ?_
  have L2_ : ∀ (n1_ : Nat) (k : Int) (hg : Int), (F 120 3 - k : Int).toNat = n1_ → (0 ≤ k ∧ k ≤ 41) → (-2147483648 ≤ hg ∧ hg ≤ 2147483647) → fl_R xi_ms 141 fr lo 6 [(4, .int (Int32.ofInt k)), (3, .int (Int32.ofInt hg)), (0, .ref 331), (1, .int (Int32.ofInt w)), (2, .int (Int32.ofInt pr))] [] (fl_H sh_T G F ++ X) (pq_141 G F X w pr) := by
    intro n1_
    induction n1_ using Nat.strongRecOn with
    | ind n1_ ih3_ =>
    intro k hg hn4_ hk hhg
    refine ga_iload (z := k) hm_141 rfl rfl ?_
    refine ga_aload_n (v := .ref 331) hm_141 rfl rfl rfl ?_
    refine ga_getr (b := 120) hm_141 rfl sc_331 rfl ?_
    have b5_ : 0 ≤ F 120 3 ∧ F 120 3 ≤ 41 := gi_g hgi rfl
    refine ga_geti (z := F 120 3) hm_141 rfl sc_120 rfl (rfl) ?_
    refine fl_icmp_ge (a := k) (b := F 120 3) hm_141 rfl ⟨by omega, by omega⟩ ⟨by omega, by omega⟩ (fun h6_ => ?_) (fun h7_ => ?_)
    ·
      refine ga_aload_n (v := .ref 331) hm_141 rfl rfl rfl ?_
      refine ga_getr (b := 334) hm_141 rfl sc_331 rfl ?_
      refine ga_iload_n (z := w) hm_141 rfl rfl ?_
      refine ga_iload_n (z := hg) hm_141 rfl rfl ?_
      refine ga_ldci (z := 2147483647) hm_141 rfl (by decide) ?_
      refine fx_icmp_ne (a := hg) (b := 2147483647) hm_141 rfl ⟨by omega, by omega⟩ ⟨by omega, by omega⟩ (fun h8_ => ?_) (fun h9_ => ?_)
      ·
        refine ga_aload_n (v := .ref 331) hm_141 rfl rfl rfl ?_
        refine ga_getr (b := 333) hm_141 rfl sc_331 rfl ?_
        refine ga_iload_n (z := w) hm_141 rfl rfl ?_
        have b10_ : -2147483648 ≤ F 333 w.toNat ∧ F 333 w.toNat ≤ 2147483647 := gi_g hgi rfl
        refine ga_iald (z := w) (w := F 333 w.toNat) hm_141 rfl sc_333 (by omega) (by omega) (by omega) (rfl) ?_
        refine ga_iload_n (z := hg) hm_141 rfl rfl ?_
        refine ga_iany hm_141 rfl rfl rfl (fun z11_ ⟨h12_, h13_⟩ => ?_)
        refine fl_iast (z := w) (v := z11_) hm_141 rfl sc_334 (by omega) (by omega) (by omega) ?_
        obtain ⟨F14_, q15_⟩ : ∃ Fq_, Fq_ = (fl_u F 334 w.toNat z11_) := ⟨_, rfl⟩
        rw [← q15_]
        have g16_ : gi F14_ := by rw [q15_]; exact gi_u (hgi) rfl (by omega) (by omega)
        have g17_ : fs [(334, 334, 0, 100000)] F F14_ := by rw [q15_]; exact fs_u (fs_refl) (fs_y (by omega))
        refine gr_v hm_141 rfl rfl ?_
        exact ⟨F14_, rfl, g16_, g17_⟩
      refine ga_ldci (z := 2147483647) hm_141 rfl (by decide) ?_
      refine fl_goto hm_141 rfl ?_
      refine fl_iast (z := w) (v := 2147483647) hm_141 rfl sc_334 (by omega) (by omega) (by omega) ?_
      obtain ⟨F18_, q19_⟩ : ∃ Fq_, Fq_ = (fl_u F 334 w.toNat 2147483647) := ⟨_, rfl⟩
      rw [← q19_]
      have g20_ : gi F18_ := by rw [q19_]; exact gi_u (hgi) rfl (by omega) (by omega)
      have g21_ : fs [(334, 334, 0, 100000)] F F18_ := by rw [q19_]; exact fs_u (fs_refl) (fs_y (by omega))
      refine gr_v hm_141 rfl rfl ?_
      exact ⟨F18_, rfl, g20_, g21_⟩
    refine ga_aload_n (v := .ref 331) hm_141 rfl rfl rfl ?_
    refine ga_getr (b := 120) hm_141 rfl sc_331 rfl ?_
    refine ga_getr (b := 122) hm_141 rfl sc_120 rfl ?_
    refine ga_iload (z := k) hm_141 rfl rfl ?_
    obtain ⟨a22_, r23_, n24_, q25_⟩ := ra_122 (k).toNat (by omega)
    refine fl_aald (z := k) (q := a22_) hm_141 rfl sc_122 (hG _ _ _ sc_122) rfl (by omega) (by simp only [List.length_cons, List.length_nil]; omega) (by simp only [List.length_cons, List.length_nil]; omega) r23_ ?_
    have b26_ : 0 ≤ F a22_ 2 ∧ F a22_ 2 ≤ 999 := gi_g hgi n24_.2.1.2.2.1
    refine ga_geti (z := F a22_ 2) hm_141 rfl n24_.1.1 rfl (rfl) ?_
    refine ga_istore (lv2 := [(5, .int (Int32.ofInt (F a22_ 2))), (4, .int (Int32.ofInt k)), (3, .int (Int32.ofInt hg)), (0, .ref 331), (1, .int (Int32.ofInt w)), (2, .int (Int32.ofInt pr))]) hm_141 rfl (Nat.le_of_ble_eq_true rfl) rfl ?_
    refine ga_iload (z := F a22_ 2) hm_141 rfl rfl ?_
    refine ga_iload_n (z := pr) hm_141 rfl rfl ?_
    refine fl_icmp_le (a := F a22_ 2) (b := pr) hm_141 rfl ⟨by omega, by omega⟩ ⟨by omega, by omega⟩ (fun h27_ => ?_) (fun h28_ => ?_)
    ·
      refine ga_inc (a := k) (c := k + 1) (lv2 := [(4, .int (Int32.ofInt (k + 1))), (5, .int (Int32.ofInt (F a22_ 2))), (3, .int (Int32.ofInt hg)), (0, .ref 331), (1, .int (Int32.ofInt w)), (2, .int (Int32.ofInt pr))]) hm_141 rfl rfl (Nat.le_of_ble_eq_true rfl) rfl rfl ?_
      refine fl_goto hm_141 rfl ?_
      exact fl_R_sub (lv' := [(4, .int (Int32.ofInt (k + 1))), (3, .int (Int32.ofInt hg)), (0, .ref 331), (1, .int (Int32.ofInt w)), (2, .int (Int32.ofInt pr))]) rfl rfl (ih3_ _ (by omega) (k + 1) (hg) rfl (⟨by omega, by omega⟩) (⟨by omega, by omega⟩))
    refine ga_iload (z := F a22_ 2) hm_141 rfl rfl ?_
    refine ga_iload_n (z := hg) hm_141 rfl rfl ?_
    refine fl_icmp_ge (a := F a22_ 2) (b := hg) hm_141 rfl ⟨by omega, by omega⟩ ⟨by omega, by omega⟩ (fun h29_ => ?_) (fun h30_ => ?_)
    ·
      refine ga_inc (a := k) (c := k + 1) (lv2 := [(4, .int (Int32.ofInt (k + 1))), (5, .int (Int32.ofInt (F a22_ 2))), (3, .int (Int32.ofInt hg)), (0, .ref 331), (1, .int (Int32.ofInt w)), (2, .int (Int32.ofInt pr))]) hm_141 rfl rfl (Nat.le_of_ble_eq_true rfl) rfl rfl ?_
      refine fl_goto hm_141 rfl ?_
      exact fl_R_sub (lv' := [(4, .int (Int32.ofInt (k + 1))), (3, .int (Int32.ofInt hg)), (0, .ref 331), (1, .int (Int32.ofInt w)), (2, .int (Int32.ofInt pr))]) rfl rfl (ih3_ _ (by omega) (k + 1) (hg) rfl (⟨by omega, by omega⟩) (⟨by omega, by omega⟩))
    refine ga_iload (z := F a22_ 2) hm_141 rfl rfl ?_
    refine ga_istore_n (lv2 := [(3, .int (Int32.ofInt (F a22_ 2))), (5, .int (Int32.ofInt (F a22_ 2))), (4, .int (Int32.ofInt k)), (0, .ref 331), (1, .int (Int32.ofInt w)), (2, .int (Int32.ofInt pr))]) hm_141 rfl (Nat.le_of_ble_eq_true rfl) rfl ?_
    refine ga_inc (a := k) (c := k + 1) (lv2 := [(4, .int (Int32.ofInt (k + 1))), (3, .int (Int32.ofInt (F a22_ 2))), (5, .int (Int32.ofInt (F a22_ 2))), (0, .ref 331), (1, .int (Int32.ofInt w)), (2, .int (Int32.ofInt pr))]) hm_141 rfl rfl (Nat.le_of_ble_eq_true rfl) rfl rfl ?_
    refine fl_goto hm_141 rfl ?_
    exact fl_R_sub (lv' := [(4, .int (Int32.ofInt (k + 1))), (3, .int (Int32.ofInt (F a22_ 2))), (0, .ref 331), (1, .int (Int32.ofInt w)), (2, .int (Int32.ofInt pr))]) rfl rfl (ih3_ _ (by omega) (k + 1) (F a22_ 2) rfl (⟨by omega, by omega⟩) (⟨by omega, by omega⟩))
  have b31_ : 0 ≤ F 120 3 ∧ F 120 3 ≤ 41 := gi_g hgi rfl
  exact L2_ _ (0) (2147483647) rfl (⟨by omega, by omega⟩) (⟨by omega, by omega⟩)
/- CheapPlanner$Search.slotOf -/
abbrev pq_142 (G : Nat → Nat → Option Nat) (F : fl_N) (X : xi_H) (st : Int) : Outcome → xi_H → Prop := gqi (fun z A => fl_H sh_T G F ++ X = A ∧ (0 ≤ z ∧ z ≤ 511)) gqn
theorem mc_142 {G : Nat → Nat → Option Nat} (hG : gg G) (F : fl_N) (X : xi_H) (hgi : gi F) (st : Int) (hst : -9223372036854775808 ≤ st ∧ st ≤ 9223372036854775807) : fl_M xi_ms 142 0 0 [.ref 331, .long (Int64.ofInt st)] (fl_H sh_T G F ++ X) (pq_142 G F X st) := by
  intro fr lo hfr hlo
  show fl_R xi_ms 142 fr lo 0 [(0, .ref 331), (1, .long (Int64.ofInt st))] [] _ _
  refine ga_lload_n (z := st) hm_142 rfl rfl ?_
  refine ga_ldcl (z := -7046029254386353131) hm_142 rfl (by decide) ?_
  refine ga_lany hm_142 rfl rfl rfl (fun z1_ ⟨h2_, h3_⟩ => ?_)
  refine fl_bipush hm_142 rfl rfl ?_
  refine ga_lushr55 (x := z1_) hm_142 rfl (fun z4_ h5_ h6_ => ?_)
  refine ga_l2i hm_142 rfl ?_
  refine ga_istore_n (lv2 := [(3, .int (Int32.ofInt z4_)), (0, .ref 331), (1, .long (Int64.ofInt st))]) hm_142 rfl (Nat.le_of_ble_eq_true rfl) rfl ?_
  refine fl_iconst hm_142 rfl ?_
  refine ga_istore (lv2 := [(4, .int (Int32.ofInt 0)), (3, .int (Int32.ofInt z4_)), (0, .ref 331), (1, .long (Int64.ofInt st))]) hm_142 rfl (Nat.le_of_ble_eq_true rfl) rfl ?_
  have L8_ : ∀ (n7_ : Nat) (k : Int) (sl : Int), (512 - k : Int).toNat = n7_ → (0 ≤ k ∧ k ≤ 512) → (0 ≤ sl ∧ sl ≤ 511) → fl_R xi_ms 142 fr lo 13 [(4, .int (Int32.ofInt k)), (3, .int (Int32.ofInt sl)), (0, .ref 331), (1, .long (Int64.ofInt st))] [] (fl_H sh_T G F ++ X) (pq_142 G F X st) := by
    intro n7_
    induction n7_ using Nat.strongRecOn with
    | ind n7_ ih9_ =>
    intro k sl hn10_ hk hsl
    refine ga_iload (z := k) hm_142 rfl rfl ?_
    refine fl_sipush hm_142 rfl rfl ?_
    refine fl_icmp_ge (a := k) (b := 512) hm_142 rfl ⟨by omega, by omega⟩ ⟨by omega, by omega⟩ (fun h11_ => ?_) (fun h12_ => ?_)
    ·
      refine ga_iload_n (z := sl) hm_142 rfl rfl ?_
      refine gr_i (z := sl) hm_142 rfl rfl rfl ?_
      exact ⟨rfl, (⟨by omega, by omega⟩)⟩
    refine ga_aload_n (v := .ref 331) hm_142 rfl rfl rfl ?_
    refine ga_getr (b := 338) hm_142 rfl sc_331 rfl ?_
    refine ga_iload_n (z := sl) hm_142 rfl rfl ?_
    have b13_ : 0 ≤ F 338 sl.toNat ∧ F 338 sl.toNat ≤ 200 := gi_g hgi rfl
    refine ga_iald (z := sl) (w := F 338 sl.toNat) hm_142 rfl sc_338 (by omega) (by omega) (by omega) (rfl) ?_
    refine fl_if_eq (a := F 338 sl.toNat) hm_142 rfl ⟨by omega, by omega⟩ (fun h14_ => ?_) (fun h15_ => ?_)
    ·
      refine ga_iload_n (z := sl) hm_142 rfl rfl ?_
      refine gr_i (z := sl) hm_142 rfl rfl rfl ?_
      exact ⟨rfl, (⟨by omega, by omega⟩)⟩
    refine ga_aload_n (v := .ref 331) hm_142 rfl rfl rfl ?_
    refine ga_getr (b := 332) hm_142 rfl sc_331 rfl ?_
    refine ga_aload_n (v := .ref 331) hm_142 rfl rfl rfl ?_
    refine ga_getr (b := 338) hm_142 rfl sc_331 rfl ?_
    refine ga_iload_n (z := sl) hm_142 rfl rfl ?_
    refine ga_iald (z := sl) (w := F 338 sl.toNat) hm_142 rfl sc_338 (by omega) (by omega) (by omega) (rfl) ?_
    refine fl_iconst hm_142 rfl ?_
    refine ga_isub (a := F 338 sl.toNat) (b := 1) (c := F 338 sl.toNat - 1) hm_142 rfl (by omega) ?_
    have b16_ : -9223372036854775808 ≤ F 332 (F 338 sl.toNat - 1).toNat ∧ F 332 (F 338 sl.toNat - 1).toNat ≤ 9223372036854775807 := gi_g hgi rfl
    refine ga_lald (z := F 338 sl.toNat - 1) (w := F 332 (F 338 sl.toNat - 1).toNat) hm_142 rfl sc_332 (by omega) (by omega) (by omega) (rfl) ?_
    refine ga_lload_n (z := st) hm_142 rfl rfl ?_
    refine ga_lcmpn (a := F 332 (F 338 sl.toNat - 1).toNat) (b := st) hm_142 rfl rfl ⟨by omega, by omega⟩ ⟨by omega, by omega⟩ (fun h17_ => ?_) (fun h18_ => ?_)
    ·
      refine ga_iload_n (z := sl) hm_142 rfl rfl ?_
      refine fl_iconst hm_142 rfl ?_
      refine ga_iadd (a := sl) (b := 1) (c := sl + 1) hm_142 rfl (by omega) ?_
      refine fl_sipush hm_142 rfl rfl ?_
      refine ga_irem (a := sl + 1) (b := 512) hm_142 rfl (by omega) (by omega) (by omega) (by omega) ?_
      refine ga_istore_n (lv2 := [(3, .int (Int32.ofInt (((sl + 1) % 512)))), (4, .int (Int32.ofInt k)), (0, .ref 331), (1, .long (Int64.ofInt st))]) hm_142 rfl (Nat.le_of_ble_eq_true rfl) rfl ?_
      refine ga_inc (a := k) (c := k + 1) (lv2 := [(4, .int (Int32.ofInt (k + 1))), (3, .int (Int32.ofInt (((sl + 1) % 512)))), (0, .ref 331), (1, .long (Int64.ofInt st))]) hm_142 rfl rfl (Nat.le_of_ble_eq_true rfl) rfl rfl ?_
      refine fl_goto hm_142 rfl ?_
      exact ih9_ _ (by omega) (k + 1) (((sl + 1) % 512)) rfl (⟨by omega, by omega⟩) (⟨by omega, by omega⟩)
    refine ga_iload_n (z := sl) hm_142 rfl rfl ?_
    refine gr_i (z := sl) hm_142 rfl rfl rfl ?_
    exact ⟨rfl, (⟨by omega, by omega⟩)⟩
  exact L8_ _ (0) (z4_) rfl (⟨by omega, by omega⟩) (⟨by omega, by omega⟩)
/- CheapPlanner$Search.isBefore -/
abbrev pq_136 (G : Nat → Nat → Option Nat) (F : fl_N) (X : xi_H) (fm nb w : Int) : Outcome → xi_H → Prop := gqi (fun z A => fl_H sh_T G F ++ X = A ∧ (0 ≤ z ∧ z ≤ 1)) gqn
theorem mc_136 {G : Nat → Nat → Option Nat} (hG : gg G) (F : fl_N) (X : xi_H) (hgi : gi F) (fm nb w : Int) (hf : 0 ≤ fm ∧ fm ≤ 200) (hn : 0 ≤ nb ∧ nb ≤ 40) (hw : 0 ≤ w ∧ w ≤ 200) : fl_M xi_ms 136 0 0 [.ref 331, .int (Int32.ofInt fm), .int (Int32.ofInt nb), .int (Int32.ofInt w)] (fl_H sh_T G F ++ X) (pq_136 G F X fm nb w) := by
  intro fr lo hfr hlo
  show fl_R xi_ms 136 fr lo 0 [(0, .ref 331), (1, .int (Int32.ofInt fm)), (2, .int (Int32.ofInt nb)), (3, .int (Int32.ofInt w))] [] _ _
  refine ga_iload_n (z := nb) hm_136 rfl rfl ?_
  refine ga_aload_n (v := .ref 331) hm_136 rfl rfl rfl ?_
  refine ga_getr (b := 337) hm_136 rfl sc_331 rfl ?_
  refine ga_iload_n (z := w) hm_136 rfl rfl ?_
  have b1_ : 0 ≤ F 337 w.toNat ∧ F 337 w.toNat ≤ 40 := gi_g hgi rfl
  refine ga_iald (z := w) (w := F 337 w.toNat) hm_136 rfl sc_337 (by omega) (by omega) (by omega) (rfl) ?_
  refine ga_isub (a := nb) (b := F 337 w.toNat) (c := nb - (F 337 w.toNat)) hm_136 rfl (by omega) ?_
  refine ga_istore (lv2 := [(4, .int (Int32.ofInt (nb - (F 337 w.toNat)))), (0, .ref 331), (1, .int (Int32.ofInt fm)), (2, .int (Int32.ofInt nb)), (3, .int (Int32.ofInt w))]) hm_136 rfl (Nat.le_of_ble_eq_true rfl) rfl ?_
  refine ga_iload_n (z := fm) hm_136 rfl rfl ?_
  refine ga_istore (lv2 := [(5, .int (Int32.ofInt fm)), (4, .int (Int32.ofInt (nb - (F 337 w.toNat)))), (0, .ref 331), (1, .int (Int32.ofInt fm)), (2, .int (Int32.ofInt nb)), (3, .int (Int32.ofInt w))]) hm_136 rfl (Nat.le_of_ble_eq_true rfl) rfl ?_
  refine ga_aload_n (v := .ref 331) hm_136 rfl rfl rfl ?_
  refine ga_getr (b := 336) hm_136 rfl sc_331 rfl ?_
  refine ga_iload_n (z := w) hm_136 rfl rfl ?_
  have b2_ : 0 ≤ F 336 w.toNat ∧ F 336 w.toNat ≤ 199 := gi_g hgi rfl
  refine ga_iald (z := w) (w := F 336 w.toNat) hm_136 rfl sc_336 (by omega) (by omega) (by omega) (rfl) ?_
  refine ga_istore (lv2 := [(6, .int (Int32.ofInt (F 336 w.toNat))), (5, .int (Int32.ofInt fm)), (4, .int (Int32.ofInt (nb - (F 337 w.toNat)))), (0, .ref 331), (1, .int (Int32.ofInt fm)), (2, .int (Int32.ofInt nb)), (3, .int (Int32.ofInt w))]) hm_136 rfl (Nat.le_of_ble_eq_true rfl) rfl ?_
  refine fl_iconst hm_136 rfl ?_
  refine ga_istore (lv2 := [(7, .int (Int32.ofInt 0)), (6, .int (Int32.ofInt (F 336 w.toNat))), (5, .int (Int32.ofInt fm)), (4, .int (Int32.ofInt (nb - (F 337 w.toNat)))), (0, .ref 331), (1, .int (Int32.ofInt fm)), (2, .int (Int32.ofInt nb)), (3, .int (Int32.ofInt w))]) hm_136 rfl (Nat.le_of_ble_eq_true rfl) rfl ?_
  have L4_ : ∀ (n3_ : Nat) (k : Int) (ot : Int) (on : Int) (df : Int), (200 - k : Int).toNat = n3_ → (0 ≤ k ∧ k ≤ 200) → (0 ≤ ot ∧ ot ≤ 200) → (0 ≤ on ∧ on ≤ 200) → (-100 ≤ df ∧ df ≤ 100) → fl_R xi_ms 136 fr lo 24 [(7, .int (Int32.ofInt k)), (6, .int (Int32.ofInt ot)), (5, .int (Int32.ofInt on)), (4, .int (Int32.ofInt df)), (0, .ref 331), (1, .int (Int32.ofInt fm)), (2, .int (Int32.ofInt nb)), (3, .int (Int32.ofInt w))] [] (fl_H sh_T G F ++ X) (pq_136 G F X fm nb w) := by
    intro n3_
    induction n3_ using Nat.strongRecOn with
    | ind n3_ ih5_ =>
    intro k ot on df hn6_ hk hot hon hdf
    refine ga_iload (z := k) hm_136 rfl rfl ?_
    refine fl_sipush hm_136 rfl rfl ?_
    refine fl_icmp_ge (a := k) (b := 200) hm_136 rfl ⟨by omega, by omega⟩ ⟨by omega, by omega⟩ (fun h7_ => ?_) (fun h8_ => ?_)
    ·
      refine ga_iload (z := df) hm_136 rfl rfl ?_
      refine fl_if_ge (a := df) hm_136 rfl ⟨by omega, by omega⟩ (fun h9_ => ?_) (fun h10_ => ?_)
      ·
        refine fl_iconst hm_136 rfl ?_
        refine gr_i (z := 0) hm_136 rfl rfl (ga_nb (by omega)) ?_
        exact ⟨rfl, (⟨by omega, by omega⟩)⟩
      refine fl_iconst hm_136 rfl ?_
      refine fl_goto hm_136 rfl ?_
      refine gr_i (z := 1) hm_136 rfl rfl (ga_nb (by omega)) ?_
      exact ⟨rfl, (⟨by omega, by omega⟩)⟩
    refine ga_iload (z := on) hm_136 rfl rfl ?_
    refine ga_iload (z := ot) hm_136 rfl rfl ?_
    refine fl_icmp_eq (a := on) (b := ot) hm_136 rfl ⟨by omega, by omega⟩ ⟨by omega, by omega⟩ (fun h11_ => ?_) (fun h12_ => ?_)
    ·
      refine ga_iload (z := df) hm_136 rfl rfl ?_
      refine fl_if_ge (a := df) hm_136 rfl ⟨by omega, by omega⟩ (fun h13_ => ?_) (fun h14_ => ?_)
      ·
        refine fl_iconst hm_136 rfl ?_
        refine gr_i (z := 0) hm_136 rfl rfl (ga_nb (by omega)) ?_
        exact ⟨rfl, (⟨by omega, by omega⟩)⟩
      refine fl_iconst hm_136 rfl ?_
      refine fl_goto hm_136 rfl ?_
      refine gr_i (z := 1) hm_136 rfl rfl (ga_nb (by omega)) ?_
      exact ⟨rfl, (⟨by omega, by omega⟩)⟩
    refine ga_aload_n (v := .ref 331) hm_136 rfl rfl rfl ?_
    refine ga_getr (b := 337) hm_136 rfl sc_331 rfl ?_
    refine ga_iload (z := on) hm_136 rfl rfl ?_
    have b15_ : 0 ≤ F 337 on.toNat ∧ F 337 on.toNat ≤ 40 := gi_g hgi rfl
    refine ga_iald (z := on) (w := F 337 on.toNat) hm_136 rfl sc_337 (by omega) (by omega) (by omega) (rfl) ?_
    refine ga_aload_n (v := .ref 331) hm_136 rfl rfl rfl ?_
    refine ga_getr (b := 337) hm_136 rfl sc_331 rfl ?_
    refine ga_iload (z := ot) hm_136 rfl rfl ?_
    have b16_ : 0 ≤ F 337 ot.toNat ∧ F 337 ot.toNat ≤ 40 := gi_g hgi rfl
    refine ga_iald (z := ot) (w := F 337 ot.toNat) hm_136 rfl sc_337 (by omega) (by omega) (by omega) (rfl) ?_
    refine fl_icmp_eq (a := F 337 on.toNat) (b := F 337 ot.toNat) hm_136 rfl ⟨by omega, by omega⟩ ⟨by omega, by omega⟩ (fun h17_ => ?_) (fun h18_ => ?_)
    ·
      refine ga_aload_n (v := .ref 331) hm_136 rfl rfl rfl ?_
      refine ga_getr (b := 336) hm_136 rfl sc_331 rfl ?_
      refine ga_iload (z := on) hm_136 rfl rfl ?_
      have b19_ : 0 ≤ F 336 on.toNat ∧ F 336 on.toNat ≤ 199 := gi_g hgi rfl
      refine ga_iald (z := on) (w := F 336 on.toNat) hm_136 rfl sc_336 (by omega) (by omega) (by omega) (rfl) ?_
      refine ga_istore (lv2 := [(5, .int (Int32.ofInt (F 336 on.toNat))), (7, .int (Int32.ofInt k)), (6, .int (Int32.ofInt ot)), (4, .int (Int32.ofInt df)), (0, .ref 331), (1, .int (Int32.ofInt fm)), (2, .int (Int32.ofInt nb)), (3, .int (Int32.ofInt w))]) hm_136 rfl (Nat.le_of_ble_eq_true rfl) rfl ?_
      refine ga_aload_n (v := .ref 331) hm_136 rfl rfl rfl ?_
      refine ga_getr (b := 336) hm_136 rfl sc_331 rfl ?_
      refine ga_iload (z := ot) hm_136 rfl rfl ?_
      have b20_ : 0 ≤ F 336 ot.toNat ∧ F 336 ot.toNat ≤ 199 := gi_g hgi rfl
      refine ga_iald (z := ot) (w := F 336 ot.toNat) hm_136 rfl sc_336 (by omega) (by omega) (by omega) (rfl) ?_
      refine ga_istore (lv2 := [(6, .int (Int32.ofInt (F 336 ot.toNat))), (5, .int (Int32.ofInt (F 336 on.toNat))), (7, .int (Int32.ofInt k)), (4, .int (Int32.ofInt df)), (0, .ref 331), (1, .int (Int32.ofInt fm)), (2, .int (Int32.ofInt nb)), (3, .int (Int32.ofInt w))]) hm_136 rfl (Nat.le_of_ble_eq_true rfl) rfl ?_
      refine ga_inc (a := k) (c := k + 1) (lv2 := [(7, .int (Int32.ofInt (k + 1))), (6, .int (Int32.ofInt (F 336 ot.toNat))), (5, .int (Int32.ofInt (F 336 on.toNat))), (4, .int (Int32.ofInt df)), (0, .ref 331), (1, .int (Int32.ofInt fm)), (2, .int (Int32.ofInt nb)), (3, .int (Int32.ofInt w))]) hm_136 rfl rfl (Nat.le_of_ble_eq_true rfl) rfl rfl ?_
      refine fl_goto hm_136 rfl ?_
      exact ih5_ _ (by omega) (k + 1) (F 336 ot.toNat) (F 336 on.toNat) (df) rfl (⟨by omega, by omega⟩) (⟨by omega, by omega⟩) (⟨by omega, by omega⟩) (⟨by omega, by omega⟩)
    refine ga_aload_n (v := .ref 331) hm_136 rfl rfl rfl ?_
    refine ga_getr (b := 337) hm_136 rfl sc_331 rfl ?_
    refine ga_iload (z := on) hm_136 rfl rfl ?_
    refine ga_iald (z := on) (w := F 337 on.toNat) hm_136 rfl sc_337 (by omega) (by omega) (by omega) (rfl) ?_
    refine ga_aload_n (v := .ref 331) hm_136 rfl rfl rfl ?_
    refine ga_getr (b := 337) hm_136 rfl sc_331 rfl ?_
    refine ga_iload (z := ot) hm_136 rfl rfl ?_
    refine ga_iald (z := ot) (w := F 337 ot.toNat) hm_136 rfl sc_337 (by omega) (by omega) (by omega) (rfl) ?_
    refine ga_isub (a := F 337 on.toNat) (b := F 337 ot.toNat) (c := F 337 on.toNat - (F 337 ot.toNat)) hm_136 rfl (by omega) ?_
    refine ga_istore (lv2 := [(4, .int (Int32.ofInt (F 337 on.toNat - (F 337 ot.toNat)))), (7, .int (Int32.ofInt k)), (6, .int (Int32.ofInt ot)), (5, .int (Int32.ofInt on)), (0, .ref 331), (1, .int (Int32.ofInt fm)), (2, .int (Int32.ofInt nb)), (3, .int (Int32.ofInt w))]) hm_136 rfl (Nat.le_of_ble_eq_true rfl) rfl ?_
    refine ga_aload_n (v := .ref 331) hm_136 rfl rfl rfl ?_
    refine ga_getr (b := 336) hm_136 rfl sc_331 rfl ?_
    refine ga_iload (z := on) hm_136 rfl rfl ?_
    have b21_ : 0 ≤ F 336 on.toNat ∧ F 336 on.toNat ≤ 199 := gi_g hgi rfl
    refine ga_iald (z := on) (w := F 336 on.toNat) hm_136 rfl sc_336 (by omega) (by omega) (by omega) (rfl) ?_
    refine ga_istore (lv2 := [(5, .int (Int32.ofInt (F 336 on.toNat))), (4, .int (Int32.ofInt (F 337 on.toNat - (F 337 ot.toNat)))), (7, .int (Int32.ofInt k)), (6, .int (Int32.ofInt ot)), (0, .ref 331), (1, .int (Int32.ofInt fm)), (2, .int (Int32.ofInt nb)), (3, .int (Int32.ofInt w))]) hm_136 rfl (Nat.le_of_ble_eq_true rfl) rfl ?_
    refine ga_aload_n (v := .ref 331) hm_136 rfl rfl rfl ?_
    refine ga_getr (b := 336) hm_136 rfl sc_331 rfl ?_
    refine ga_iload (z := ot) hm_136 rfl rfl ?_
    have b22_ : 0 ≤ F 336 ot.toNat ∧ F 336 ot.toNat ≤ 199 := gi_g hgi rfl
    refine ga_iald (z := ot) (w := F 336 ot.toNat) hm_136 rfl sc_336 (by omega) (by omega) (by omega) (rfl) ?_
    refine ga_istore (lv2 := [(6, .int (Int32.ofInt (F 336 ot.toNat))), (5, .int (Int32.ofInt (F 336 on.toNat))), (4, .int (Int32.ofInt (F 337 on.toNat - (F 337 ot.toNat)))), (7, .int (Int32.ofInt k)), (0, .ref 331), (1, .int (Int32.ofInt fm)), (2, .int (Int32.ofInt nb)), (3, .int (Int32.ofInt w))]) hm_136 rfl (Nat.le_of_ble_eq_true rfl) rfl ?_
    refine ga_inc (a := k) (c := k + 1) (lv2 := [(7, .int (Int32.ofInt (k + 1))), (6, .int (Int32.ofInt (F 336 ot.toNat))), (5, .int (Int32.ofInt (F 336 on.toNat))), (4, .int (Int32.ofInt (F 337 on.toNat - (F 337 ot.toNat)))), (0, .ref 331), (1, .int (Int32.ofInt fm)), (2, .int (Int32.ofInt nb)), (3, .int (Int32.ofInt w))]) hm_136 rfl rfl (Nat.le_of_ble_eq_true rfl) rfl rfl ?_
    refine fl_goto hm_136 rfl ?_
    exact ih5_ _ (by omega) (k + 1) (F 336 ot.toNat) (F 336 on.toNat) (F 337 on.toNat - (F 337 ot.toNat)) rfl (⟨by omega, by omega⟩) (⟨by omega, by omega⟩) (⟨by omega, by omega⟩) (⟨by omega, by omega⟩)
  exact L4_ _ (0) (F 336 w.toNat) (fm) (nb - (F 337 w.toNat)) rfl (⟨by omega, by omega⟩) (⟨by omega, by omega⟩) (⟨by omega, by omega⟩) (⟨by omega, by omega⟩)
/- CheapPlanner$Search.offer -/
abbrev pq_140 (G : Nat → Nat → Option Nat) (F : fl_N) (X : xi_H) (w fm nb : Int) : Outcome → xi_H → Prop := gqv (fun A => ∃ F' : fl_N, fl_H sh_T G F' ++ X = A ∧ gi F' ∧ fs [(335, 337, 0, 100000)] F F' ∧ (∀ i : Nat, i ≠ w.toNat → F' 335 i = F 335 i) ∧ ((F' 335 w.toNat = F 335 w.toNat ∧ F 335 w.toNat ≤ F 335 fm.toNat + 1) ∨ (F' 335 w.toNat = F 335 fm.toNat + 1 ∧ F 335 fm.toNat + 1 ≤ F 335 w.toNat))) gqn
theorem mc_140 {G : Nat → Nat → Option Nat} (hG : gg G) (F : fl_N) (X : xi_H) (hgi : gi F) (w fm nb : Int) (hw : 0 ≤ w ∧ w ≤ 200) (hf : 0 ≤ fm ∧ fm ≤ 199) (hn : 0 ≤ nb ∧ nb ≤ 40) (hl : 0 ≤ F 335 fm.toNat ∧ F 335 fm.toNat ≤ 199) : fl_M xi_ms 140 1 27 [.ref 331, .int (Int32.ofInt w), .int (Int32.ofInt fm), .int (Int32.ofInt nb)] (fl_H sh_T G F ++ X) (pq_140 G F X w fm nb) := by
  intro fr lo hfr hlo
  show fl_R xi_ms 140 fr lo 0 [(0, .ref 331), (1, .int (Int32.ofInt w)), (2, .int (Int32.ofInt fm)), (3, .int (Int32.ofInt nb))] [] _ _
  refine ga_aload_n (v := .ref 331) hm_140 rfl rfl rfl ?_
  refine ga_getr (b := 335) hm_140 rfl sc_331 rfl ?_
  refine ga_iload_n (z := fm) hm_140 rfl rfl ?_
  have b1_ : -2147483648 ≤ F 335 fm.toNat ∧ F 335 fm.toNat ≤ 2147483647 := gi_g hgi rfl
  refine ga_iald (z := fm) (w := F 335 fm.toNat) hm_140 rfl sc_335 (by omega) (by omega) (by omega) (rfl) ?_
  refine fl_iconst hm_140 rfl ?_
  refine ga_iadd (a := F 335 fm.toNat) (b := 1) (c := F 335 fm.toNat + 1) hm_140 rfl (by omega) ?_
  refine ga_istore (lv2 := [(4, .int (Int32.ofInt (F 335 fm.toNat + 1))), (0, .ref 331), (1, .int (Int32.ofInt w)), (2, .int (Int32.ofInt fm)), (3, .int (Int32.ofInt nb))]) hm_140 rfl (Nat.le_of_ble_eq_true rfl) rfl ?_
  refine ga_iload (z := F 335 fm.toNat + 1) hm_140 rfl rfl ?_
  refine ga_aload_n (v := .ref 331) hm_140 rfl rfl rfl ?_
  refine ga_getr (b := 335) hm_140 rfl sc_331 rfl ?_
  refine ga_iload_n (z := w) hm_140 rfl rfl ?_
  have b2_ : -2147483648 ≤ F 335 w.toNat ∧ F 335 w.toNat ≤ 2147483647 := gi_g hgi rfl
  refine ga_iald (z := w) (w := F 335 w.toNat) hm_140 rfl sc_335 (by omega) (by omega) (by omega) (rfl) ?_
  refine fl_icmp_lt (a := F 335 fm.toNat + 1) (b := F 335 w.toNat) hm_140 rfl ⟨by omega, by omega⟩ ⟨by omega, by omega⟩ (fun h3_ => ?_) (fun h4_ => ?_)
  ·
    refine ga_aload_n (v := .ref 331) hm_140 rfl rfl rfl ?_
    refine ga_getr (b := 335) hm_140 rfl sc_331 rfl ?_
    refine ga_iload_n (z := w) hm_140 rfl rfl ?_
    refine ga_iload (z := F 335 fm.toNat + 1) hm_140 rfl rfl ?_
    refine fl_iast (z := w) (v := F 335 fm.toNat + 1) hm_140 rfl sc_335 (by omega) (by omega) (by omega) ?_
    refine ga_aload_n (v := .ref 331) hm_140 rfl rfl rfl ?_
    refine ga_getr (b := 336) hm_140 rfl sc_331 rfl ?_
    refine ga_iload_n (z := w) hm_140 rfl rfl ?_
    refine ga_iload_n (z := fm) hm_140 rfl rfl ?_
    refine fl_iast (z := w) (v := fm) hm_140 rfl sc_336 (by omega) (by omega) (by omega) ?_
    refine ga_aload_n (v := .ref 331) hm_140 rfl rfl rfl ?_
    refine ga_getr (b := 337) hm_140 rfl sc_331 rfl ?_
    refine ga_iload_n (z := w) hm_140 rfl rfl ?_
    refine ga_iload_n (z := nb) hm_140 rfl rfl ?_
    refine fl_iast (z := w) (v := nb) hm_140 rfl sc_337 (by omega) (by omega) (by omega) ?_
    obtain ⟨F5_, q6_⟩ : ∃ Fq_, Fq_ = (fl_u (fl_u (fl_u F 335 w.toNat (F 335 fm.toNat + 1)) 336 w.toNat fm) 337 w.toNat nb) := ⟨_, rfl⟩
    rw [← q6_]
    have g7_ : gi F5_ := by rw [q6_]; exact gi_u (gi_u (gi_u (hgi) rfl (by omega) (by omega)) rfl (by omega) (by omega)) rfl (by omega) (by omega)
    have g8_ : fs [(335, 337, 0, 100000)] F F5_ := by rw [q6_]; exact fs_u (fs_u (fs_u (fs_refl) (fs_y (by omega))) (fs_y (by omega))) (fs_y (by omega))
    refine gr_v hm_140 rfl rfl ?_
    have e9_ : F5_ 335 w.toNat = F 335 fm.toNat + 1 := by rw [q6_]; exact (fl_u_ne (by first | exact nc_ rfl | decide | omega)).trans ((fl_u_ne (by first | exact nc_ rfl | decide | omega)).trans (fl_u_eq))
    exact ⟨F5_, rfl, g7_, g8_, (fun i hi => (show F5_ 335 i = F 335 i from (by rw [q6_]; exact (fl_u_ne (by first | exact nc_ rfl | decide | omega)).trans ((fl_u_ne (by first | exact nc_ rfl | decide | omega)).trans ((fl_u_ne (by first | exact nc_ rfl | decide | omega))))))), (by omega)⟩
  refine ga_iload (z := F 335 fm.toNat + 1) hm_140 rfl rfl ?_
  refine ga_aload_n (v := .ref 331) hm_140 rfl rfl rfl ?_
  refine ga_getr (b := 335) hm_140 rfl sc_331 rfl ?_
  refine ga_iload_n (z := w) hm_140 rfl rfl ?_
  refine ga_iald (z := w) (w := F 335 w.toNat) hm_140 rfl sc_335 (by omega) (by omega) (by omega) (rfl) ?_
  refine fx_icmp_ne (a := F 335 fm.toNat + 1) (b := F 335 w.toNat) hm_140 rfl ⟨by omega, by omega⟩ ⟨by omega, by omega⟩ (fun h10_ => ?_) (fun h11_ => ?_)
  ·
    refine gr_v hm_140 rfl rfl ?_
    exact ⟨F, rfl, hgi, fs_refl, (fun i hi => rfl), (by omega)⟩
  refine ga_aload_n (v := .ref 331) hm_140 rfl rfl rfl ?_
  refine ga_iload_n (z := fm) hm_140 rfl rfl ?_
  refine ga_iload_n (z := nb) hm_140 rfl rfl ?_
  refine ga_iload_n (z := w) hm_140 rfl rfl ?_
  refine gVi (nY := 8) (F := 0) (L := 0) (As := [.int (Int32.ofInt fm), .int (Int32.ofInt nb), .int (Int32.ofInt w)]) (b := 331) (rest := []) hm_140 rfl hm_136 rfl rfl (fl_ob sc_331) rfl rfl rfl rfl rfl (by omega) (by omega) (mc_136 hG F X hgi (fm) (nb) (w) (⟨by omega, by omega⟩) (⟨by omega, by omega⟩) (⟨by omega, by omega⟩)) (fun _ _ h => False.elim h) ?_
  rintro z12_ A1_ ⟨hA_, c13_⟩
  subst hA_
  refine fl_if_eq (a := z12_) hm_140 rfl ⟨by omega, by omega⟩ (fun h14_ => ?_) (fun h15_ => ?_)
  ·
    refine gr_v hm_140 rfl rfl ?_
    exact ⟨F, rfl, hgi, fs_refl, (fun i hi => rfl), (by omega)⟩
  refine ga_aload_n (v := .ref 331) hm_140 rfl rfl rfl ?_
  refine ga_getr (b := 335) hm_140 rfl sc_331 rfl ?_
  refine ga_iload_n (z := w) hm_140 rfl rfl ?_
  refine ga_iload (z := F 335 fm.toNat + 1) hm_140 rfl rfl ?_
  refine fl_iast (z := w) (v := F 335 fm.toNat + 1) hm_140 rfl sc_335 (by omega) (by omega) (by omega) ?_
  refine ga_aload_n (v := .ref 331) hm_140 rfl rfl rfl ?_
  refine ga_getr (b := 336) hm_140 rfl sc_331 rfl ?_
  refine ga_iload_n (z := w) hm_140 rfl rfl ?_
  refine ga_iload_n (z := fm) hm_140 rfl rfl ?_
  refine fl_iast (z := w) (v := fm) hm_140 rfl sc_336 (by omega) (by omega) (by omega) ?_
  refine ga_aload_n (v := .ref 331) hm_140 rfl rfl rfl ?_
  refine ga_getr (b := 337) hm_140 rfl sc_331 rfl ?_
  refine ga_iload_n (z := w) hm_140 rfl rfl ?_
  refine ga_iload_n (z := nb) hm_140 rfl rfl ?_
  refine fl_iast (z := w) (v := nb) hm_140 rfl sc_337 (by omega) (by omega) (by omega) ?_
  obtain ⟨F16_, q17_⟩ : ∃ Fq_, Fq_ = (fl_u (fl_u (fl_u F 335 w.toNat (F 335 fm.toNat + 1)) 336 w.toNat fm) 337 w.toNat nb) := ⟨_, rfl⟩
  rw [← q17_]
  have g18_ : gi F16_ := by rw [q17_]; exact gi_u (gi_u (gi_u (hgi) rfl (by omega) (by omega)) rfl (by omega) (by omega)) rfl (by omega) (by omega)
  have g19_ : fs [(335, 337, 0, 100000)] F F16_ := by rw [q17_]; exact fs_u (fs_u (fs_u (fs_refl) (fs_y (by omega))) (fs_y (by omega))) (fs_y (by omega))
  refine gr_v hm_140 rfl rfl ?_
  have e20_ : F16_ 335 w.toNat = F 335 fm.toNat + 1 := by rw [q17_]; exact (fl_u_ne (by first | exact nc_ rfl | decide | omega)).trans ((fl_u_ne (by first | exact nc_ rfl | decide | omega)).trans (fl_u_eq))
  exact ⟨F16_, rfl, g18_, g19_, (fun i hi => (show F16_ 335 i = F 335 i from (by rw [q17_]; exact (fl_u_ne (by first | exact nc_ rfl | decide | omega)).trans ((fl_u_ne (by first | exact nc_ rfl | decide | omega)).trans ((fl_u_ne (by first | exact nc_ rfl | decide | omega))))))), (by omega)⟩
/- CheapPlanner$Search.add -/
abbrev pq_129 (G : Nat → Nat → Option Nat) (F : fl_N) (X : xi_H) (sl st co : Int) : Outcome → xi_H → Prop := gqv (fun A => ∃ F' : fl_N, fl_H sh_T G F' ++ X = A ∧ gi F' ∧ fs [(331, 331, 8, 8), (332, 336, 0, 100000), (338, 338, 0, 100000)] F F' ∧ (F' 331 8 = F 331 8 + 1) ∧ ((F 331 8 = 0 ∧ F' 335 (F 331 8).toNat = 0) ∨ (0 < F 331 8 ∧ F' 335 (F 331 8).toNat = 2147483647)) ∧ (∀ i : Nat, i ≠ (F 331 8).toNat → F' 335 i = F 335 i)) gqn
theorem mc_129 {G : Nat → Nat → Option Nat} (hG : gg G) (F : fl_N) (X : xi_H) (hgi : gi F) (sl st co : Int) (hs : 0 ≤ sl ∧ sl ≤ 511) (hst : -9223372036854775808 ≤ st ∧ st ≤ 9223372036854775807) (hco : -2147483648 ≤ co ∧ co ≤ 2147483647) (h8 : F 331 8 ≤ 199) : fl_M xi_ms 129 1 25 [.ref 331, .int (Int32.ofInt sl), .long (Int64.ofInt st), .int (Int32.ofInt co)] (fl_H sh_T G F ++ X) (pq_129 G F X sl st co) := by
  intro fr lo hfr hlo
  show fl_R xi_ms 129 fr lo 0 [(0, .ref 331), (1, .int (Int32.ofInt sl)), (2, .long (Int64.ofInt st)), (4, .int (Int32.ofInt co))] [] _ _
  refine ga_aload_n (v := .ref 331) hm_129 rfl rfl rfl ?_
  refine ga_getr (b := 332) hm_129 rfl sc_331 rfl ?_
  refine ga_aload_n (v := .ref 331) hm_129 rfl rfl rfl ?_
  have b1_ : 0 ≤ F 331 8 ∧ F 331 8 ≤ 200 := gi_g hgi rfl
  refine ga_geti (z := F 331 8) hm_129 rfl sc_331 rfl (rfl) ?_
  refine ga_lload_n (z := st) hm_129 rfl rfl ?_
  refine fl_last (z := F 331 8) (v := st) hm_129 rfl sc_332 (by omega) (by omega) (by omega) ?_
  refine ga_aload_n (v := .ref 331) hm_129 rfl rfl rfl ?_
  refine ga_getr (b := 333) hm_129 rfl sc_331 rfl ?_
  refine ga_aload_n (v := .ref 331) hm_129 rfl rfl rfl ?_
  refine ga_geti (z := F 331 8) hm_129 rfl sc_331 rfl (fl_u_ne (by first | exact nc_ rfl | decide | omega)) ?_
  refine ga_iload (z := co) hm_129 rfl rfl ?_
  refine fl_iast (z := F 331 8) (v := co) hm_129 rfl sc_333 (by omega) (by omega) (by omega) ?_
  refine ga_aload_n (v := .ref 331) hm_129 rfl rfl rfl ?_
  refine ga_getr (b := 335) hm_129 rfl sc_331 rfl ?_
  refine ga_aload_n (v := .ref 331) hm_129 rfl rfl rfl ?_
  refine ga_geti (z := F 331 8) hm_129 rfl sc_331 rfl ((fl_u_ne (by first | exact nc_ rfl | decide | omega)).trans (fl_u_ne (by first | exact nc_ rfl | decide | omega))) ?_
  refine ga_aload_n (v := .ref 331) hm_129 rfl rfl rfl ?_
  refine ga_geti (z := F 331 8) hm_129 rfl sc_331 rfl ((fl_u_ne (by first | exact nc_ rfl | decide | omega)).trans (fl_u_ne (by first | exact nc_ rfl | decide | omega))) ?_
  refine fx_if_ne (a := F 331 8) hm_129 rfl ⟨by omega, by omega⟩ (fun h2_ => ?_) (fun h3_ => ?_)
  ·
    refine ga_ldci (z := 2147483647) hm_129 rfl (by decide) ?_
    refine fl_iast (z := F 331 8) (v := 2147483647) hm_129 rfl sc_335 (by omega) (by omega) (by omega) ?_
    refine ga_aload_n (v := .ref 331) hm_129 rfl rfl rfl ?_
    refine ga_getr (b := 336) hm_129 rfl sc_331 rfl ?_
    refine ga_aload_n (v := .ref 331) hm_129 rfl rfl rfl ?_
    refine ga_geti (z := F 331 8) hm_129 rfl sc_331 rfl ((fl_u_ne (by first | exact nc_ rfl | decide | omega)).trans ((fl_u_ne (by first | exact nc_ rfl | decide | omega)).trans (fl_u_ne (by first | exact nc_ rfl | decide | omega)))) ?_
    refine fl_iconst hm_129 rfl ?_
    refine fl_iast (z := F 331 8) (v := 0) hm_129 rfl sc_336 (by omega) (by omega) (by omega) ?_
    refine ga_aload_n (v := .ref 331) hm_129 rfl rfl rfl ?_
    refine ga_aload_n (v := .ref 331) hm_129 rfl rfl rfl ?_
    refine ga_geti (z := F 331 8) hm_129 rfl sc_331 rfl ((fl_u_ne (by first | exact nc_ rfl | decide | omega)).trans ((fl_u_ne (by first | exact nc_ rfl | decide | omega)).trans ((fl_u_ne (by first | exact nc_ rfl | decide | omega)).trans (fl_u_ne (by first | exact nc_ rfl | decide | omega))))) ?_
    refine fl_iconst hm_129 rfl ?_
    obtain ⟨F4_, q5_⟩ : ∃ Fq_, Fq_ = (fl_u (fl_u (fl_u (fl_u F 332 (F 331 8).toNat st) 333 (F 331 8).toNat co) 335 (F 331 8).toNat 2147483647) 336 (F 331 8).toNat 0) := ⟨_, rfl⟩
    rw [← q5_]
    have g6_ : gi F4_ := by rw [q5_]; exact gi_u (gi_u (gi_u (gi_u (hgi) rfl (by omega) (by omega)) rfl (by omega) (by omega)) rfl (by omega) (by omega)) rfl (by omega) (by omega)
    have g7_ : fs [(331, 331, 8, 8), (332, 336, 0, 100000), (338, 338, 0, 100000)] F F4_ := by rw [q5_]; exact fs_u (fs_u (fs_u (fs_u (fs_refl) (fs_z (fs_y (by omega)))) (fs_z (fs_y (by omega)))) (fs_z (fs_y (by omega)))) (fs_z (fs_y (by omega)))
    refine gVv (nY := 6) (F := 0) (L := 0) (As := [.int (Int32.ofInt (F 331 8)), .int (Int32.ofInt 0)]) (b := 331) (rest := []) hm_129 rfl hm_141 rfl rfl (fl_ob sc_331) rfl rfl rfl rfl rfl (by omega) (by omega) (mc_141 hG F4_ X g6_ (F 331 8) (0) (⟨by omega, by omega⟩) (⟨by omega, by omega⟩)) (fun _ _ h => False.elim h) ?_
    rintro A1_ ⟨F9_, hA_, g10_, s11_⟩
    subst hA_
    have g12_ : fs [(331, 331, 8, 8), (332, 336, 0, 100000), (338, 338, 0, 100000)] F F9_ := fs_tr g7_ s11_ rfl
    refine ga_aload_n (v := .ref 331) hm_129 rfl rfl rfl ?_
    refine ga_getr (b := 338) hm_129 rfl sc_331 rfl ?_
    refine ga_iload_n (z := sl) hm_129 rfl rfl ?_
    refine ga_aload_n (v := .ref 331) hm_129 rfl rfl rfl ?_
    have e13_ : F4_ 331 8 = F 331 8 := by rw [q5_]; exact (fl_u_ne (by first | exact nc_ rfl | decide | omega)).trans ((fl_u_ne (by first | exact nc_ rfl | decide | omega)).trans ((fl_u_ne (by first | exact nc_ rfl | decide | omega)).trans (fl_u_ne (by first | exact nc_ rfl | decide | omega))))
    have e14_ : F9_ 331 8 = F 331 8 := (s11_ 331 8 rfl).trans (e13_)
    refine ga_geti (z := F 331 8) hm_129 rfl sc_331 rfl (e14_) ?_
    refine fl_iconst hm_129 rfl ?_
    refine ga_iadd (a := F 331 8) (b := 1) (c := F 331 8 + 1) hm_129 rfl (by omega) ?_
    refine fl_iast (z := sl) (v := F 331 8 + 1) hm_129 rfl sc_338 (by omega) (by omega) (by omega) ?_
    refine ga_aload_n (v := .ref 331) hm_129 rfl rfl rfl ?_
    refine ga_dup hm_129 rfl rfl ?_
    refine ga_geti (z := F 331 8) hm_129 rfl sc_331 rfl ((fl_u_ne (by first | exact nc_ rfl | decide | omega)).trans (e14_)) ?_
    refine fl_iconst hm_129 rfl ?_
    refine ga_iadd (a := F 331 8) (b := 1) (c := F 331 8 + 1) hm_129 rfl (by omega) ?_
    refine ga_puti (z := F 331 8 + 1) hm_129 rfl sc_331 rfl rfl ?_
    obtain ⟨F15_, q16_⟩ : ∃ Fq_, Fq_ = (fl_u (fl_u F9_ 338 sl.toNat (F 331 8 + 1)) 331 8 (F 331 8 + 1)) := ⟨_, rfl⟩
    rw [← q16_]
    have g17_ : gi F15_ := by rw [q16_]; exact gi_u (gi_u (g10_) rfl (by omega) (by omega)) rfl (by omega) (by omega)
    have g18_ : fs [(331, 331, 8, 8), (332, 336, 0, 100000), (338, 338, 0, 100000)] F F15_ := by rw [q16_]; exact fs_u (fs_u (g12_) (fs_z (fs_z (fs_y (by omega))))) rfl
    refine gr_v hm_129 rfl rfl ?_
    have e19_ : F15_ 331 8 = F 331 8 + 1 := by rw [q16_]; exact fl_u_eq
    have e20_ : F4_ 335 (F 331 8).toNat = 2147483647 := by rw [q5_]; exact (fl_u_ne (by first | exact nc_ rfl | decide | omega)).trans (fl_u_eq)
    have e21_ : F9_ 335 (F 331 8).toNat = 2147483647 := (s11_ 335 (F 331 8).toNat (by first | exact fs_c rfl | exact (fs_n (by omega) rfl))).trans (e20_)
    have e22_ : F15_ 335 (F 331 8).toNat = 2147483647 := by rw [q16_]; exact (fl_u_ne (by first | exact nc_ rfl | decide | omega)).trans ((fl_u_ne (by first | exact nc_ rfl | decide | omega)).trans (e21_))
    exact ⟨F15_, rfl, g17_, g18_, (by omega), (by omega), (fun i hi => (Eq.trans (a := F15_ 335 i) (b := F9_ 335 i) (by rw [q16_]; exact (fl_u_ne (by first | exact nc_ rfl | decide | omega)).trans ((fl_u_ne (by first | exact nc_ rfl | decide | omega)))) (Eq.trans (a := F9_ 335 i) (b := F4_ 335 i) (s11_ 335 i (by first | exact fs_c rfl | exact (fs_n (by omega) rfl))) (show F4_ 335 i = F 335 i from (by rw [q5_]; exact (fl_u_ne (by first | exact nc_ rfl | decide | omega)).trans ((fl_u_ne (by first | exact nc_ rfl | decide | omega)).trans ((fl_u_ne (by first | exact nc_ rfl | decide | omega)).trans ((fl_u_ne (by first | exact nc_ rfl | decide | omega))))))))))⟩
  refine fl_iconst hm_129 rfl ?_
  refine fl_goto hm_129 rfl ?_
  refine fl_iast (z := F 331 8) (v := 0) hm_129 rfl sc_335 (by omega) (by omega) (by omega) ?_
  refine ga_aload_n (v := .ref 331) hm_129 rfl rfl rfl ?_
  refine ga_getr (b := 336) hm_129 rfl sc_331 rfl ?_
  refine ga_aload_n (v := .ref 331) hm_129 rfl rfl rfl ?_
  refine ga_geti (z := F 331 8) hm_129 rfl sc_331 rfl ((fl_u_ne (by first | exact nc_ rfl | decide | omega)).trans ((fl_u_ne (by first | exact nc_ rfl | decide | omega)).trans (fl_u_ne (by first | exact nc_ rfl | decide | omega)))) ?_
  refine fl_iconst hm_129 rfl ?_
  refine fl_iast (z := F 331 8) (v := 0) hm_129 rfl sc_336 (by omega) (by omega) (by omega) ?_
  refine ga_aload_n (v := .ref 331) hm_129 rfl rfl rfl ?_
  refine ga_aload_n (v := .ref 331) hm_129 rfl rfl rfl ?_
  refine ga_geti (z := F 331 8) hm_129 rfl sc_331 rfl ((fl_u_ne (by first | exact nc_ rfl | decide | omega)).trans ((fl_u_ne (by first | exact nc_ rfl | decide | omega)).trans ((fl_u_ne (by first | exact nc_ rfl | decide | omega)).trans (fl_u_ne (by first | exact nc_ rfl | decide | omega))))) ?_
  refine fl_iconst hm_129 rfl ?_
  obtain ⟨F23_, q24_⟩ : ∃ Fq_, Fq_ = (fl_u (fl_u (fl_u (fl_u F 332 (F 331 8).toNat st) 333 (F 331 8).toNat co) 335 (F 331 8).toNat 0) 336 (F 331 8).toNat 0) := ⟨_, rfl⟩
  rw [← q24_]
  have g25_ : gi F23_ := by rw [q24_]; exact gi_u (gi_u (gi_u (gi_u (hgi) rfl (by omega) (by omega)) rfl (by omega) (by omega)) rfl (by omega) (by omega)) rfl (by omega) (by omega)
  have g26_ : fs [(331, 331, 8, 8), (332, 336, 0, 100000), (338, 338, 0, 100000)] F F23_ := by rw [q24_]; exact fs_u (fs_u (fs_u (fs_u (fs_refl) (fs_z (fs_y (by omega)))) (fs_z (fs_y (by omega)))) (fs_z (fs_y (by omega)))) (fs_z (fs_y (by omega)))
  refine gVv (nY := 6) (F := 0) (L := 0) (As := [.int (Int32.ofInt (F 331 8)), .int (Int32.ofInt 0)]) (b := 331) (rest := []) hm_129 rfl hm_141 rfl rfl (fl_ob sc_331) rfl rfl rfl rfl rfl (by omega) (by omega) (mc_141 hG F23_ X g25_ (F 331 8) (0) (⟨by omega, by omega⟩) (⟨by omega, by omega⟩)) (fun _ _ h => False.elim h) ?_
  rintro A1_ ⟨F28_, hA_, g29_, s30_⟩
  subst hA_
  have g31_ : fs [(331, 331, 8, 8), (332, 336, 0, 100000), (338, 338, 0, 100000)] F F28_ := fs_tr g26_ s30_ rfl
  refine ga_aload_n (v := .ref 331) hm_129 rfl rfl rfl ?_
  refine ga_getr (b := 338) hm_129 rfl sc_331 rfl ?_
  refine ga_iload_n (z := sl) hm_129 rfl rfl ?_
  refine ga_aload_n (v := .ref 331) hm_129 rfl rfl rfl ?_
  have e32_ : F23_ 331 8 = F 331 8 := by rw [q24_]; exact (fl_u_ne (by first | exact nc_ rfl | decide | omega)).trans ((fl_u_ne (by first | exact nc_ rfl | decide | omega)).trans ((fl_u_ne (by first | exact nc_ rfl | decide | omega)).trans (fl_u_ne (by first | exact nc_ rfl | decide | omega))))
  have e33_ : F28_ 331 8 = F 331 8 := (s30_ 331 8 rfl).trans (e32_)
  refine ga_geti (z := F 331 8) hm_129 rfl sc_331 rfl (e33_) ?_
  refine fl_iconst hm_129 rfl ?_
  refine ga_iadd (a := F 331 8) (b := 1) (c := F 331 8 + 1) hm_129 rfl (by omega) ?_
  refine fl_iast (z := sl) (v := F 331 8 + 1) hm_129 rfl sc_338 (by omega) (by omega) (by omega) ?_
  refine ga_aload_n (v := .ref 331) hm_129 rfl rfl rfl ?_
  refine ga_dup hm_129 rfl rfl ?_
  refine ga_geti (z := F 331 8) hm_129 rfl sc_331 rfl ((fl_u_ne (by first | exact nc_ rfl | decide | omega)).trans (e33_)) ?_
  refine fl_iconst hm_129 rfl ?_
  refine ga_iadd (a := F 331 8) (b := 1) (c := F 331 8 + 1) hm_129 rfl (by omega) ?_
  refine ga_puti (z := F 331 8 + 1) hm_129 rfl sc_331 rfl rfl ?_
  obtain ⟨F34_, q35_⟩ : ∃ Fq_, Fq_ = (fl_u (fl_u F28_ 338 sl.toNat (F 331 8 + 1)) 331 8 (F 331 8 + 1)) := ⟨_, rfl⟩
  rw [← q35_]
  have g36_ : gi F34_ := by rw [q35_]; exact gi_u (gi_u (g29_) rfl (by omega) (by omega)) rfl (by omega) (by omega)
  have g37_ : fs [(331, 331, 8, 8), (332, 336, 0, 100000), (338, 338, 0, 100000)] F F34_ := by rw [q35_]; exact fs_u (fs_u (g31_) (fs_z (fs_z (fs_y (by omega))))) rfl
  refine gr_v hm_129 rfl rfl ?_
  have e38_ : F34_ 331 8 = F 331 8 + 1 := by rw [q35_]; exact fl_u_eq
  have e39_ : F23_ 335 (F 331 8).toNat = 0 := by rw [q24_]; exact (fl_u_ne (by first | exact nc_ rfl | decide | omega)).trans (fl_u_eq)
  have e40_ : F28_ 335 (F 331 8).toNat = 0 := (s30_ 335 (F 331 8).toNat (by first | exact fs_c rfl | exact (fs_n (by omega) rfl))).trans (e39_)
  have e41_ : F34_ 335 (F 331 8).toNat = 0 := by rw [q35_]; exact (fl_u_ne (by first | exact nc_ rfl | decide | omega)).trans ((fl_u_ne (by first | exact nc_ rfl | decide | omega)).trans (e40_))
  exact ⟨F34_, rfl, g36_, g37_, (by omega), (by omega), (fun i hi => (Eq.trans (a := F34_ 335 i) (b := F28_ 335 i) (by rw [q35_]; exact (fl_u_ne (by first | exact nc_ rfl | decide | omega)).trans ((fl_u_ne (by first | exact nc_ rfl | decide | omega)))) (Eq.trans (a := F28_ 335 i) (b := F23_ 335 i) (s30_ 335 i (by first | exact fs_c rfl | exact (fs_n (by omega) rfl))) (show F23_ 335 i = F 335 i from (by rw [q24_]; exact (fl_u_ne (by first | exact nc_ rfl | decide | omega)).trans ((fl_u_ne (by first | exact nc_ rfl | decide | omega)).trans ((fl_u_ne (by first | exact nc_ rfl | decide | omega)).trans ((fl_u_ne (by first | exact nc_ rfl | decide | omega))))))))))⟩
/- CheapPlanner$Search.traceSteps -/
abbrev pq_143 (G : Nat → Nat → Option Nat) (F : fl_N) (X : xi_H)  : Outcome → xi_H → Prop := gqv (fun A => ∃ F' : fl_N, fl_H sh_T G F' ++ X = A ∧ gi F' ∧ fs [(339, 339, 0, 100000)] F F') gqn
theorem mc_143 {G : Nat → Nat → Option Nat} (hG : gg G) (F : fl_N) (X : xi_H) (hgi : gi F)  (hl : 0 ≤ F 335 200 ∧ F 335 200 ≤ 200) : fl_M xi_ms 143 0 0 [.ref 331] (fl_H sh_T G F ++ X) (pq_143 G F X) := by
  intro fr lo hfr hlo
  show fl_R xi_ms 143 fr lo 0 [(0, .ref 331)] [] _ _
  refine fl_sipush hm_143 rfl rfl ?_
  refine ga_istore_n (lv2 := [(1, .int (Int32.ofInt 200)), (0, .ref 331)]) hm_143 rfl (Nat.le_of_ble_eq_true rfl) rfl ?_
  refine ga_aload_n (v := .ref 331) hm_143 rfl rfl rfl ?_
  refine ga_getr (b := 335) hm_143 rfl sc_331 rfl ?_
  refine fl_sipush hm_143 rfl rfl ?_
  have b1_ : -2147483648 ≤ F 335 200 ∧ F 335 200 ≤ 2147483647 := gi_g hgi rfl
  refine ga_iald (z := 200) (w := F 335 200) hm_143 rfl sc_335 (by omega) (by omega) (by omega) (rfl) ?_
  refine fl_iconst hm_143 rfl ?_
  refine ga_isub (a := F 335 200) (b := 1) (c := F 335 200 - 1) hm_143 rfl (by omega) ?_
  refine ga_istore_n (lv2 := [(2, .int (Int32.ofInt (F 335 200 - 1))), (1, .int (Int32.ofInt 200)), (0, .ref 331)]) hm_143 rfl (Nat.le_of_ble_eq_true rfl) rfl ?_
  have L3_ : ∀ (n2_ : Nat) (k : Int) (w : Int) (F1 : fl_N), (k + 1 : Int).toNat = n2_ → (gi F1) → (fs [(339, 339, 0, 100000)] F F1) → (-1 ≤ k ∧ k ≤ 199) → (0 ≤ w ∧ w ≤ 200) → fl_R xi_ms 143 fr lo 15 [(2, .int (Int32.ofInt k)), (1, .int (Int32.ofInt w)), (0, .ref 331)] [] (fl_H sh_T G F1 ++ X) (pq_143 G F X) := by
    intro n2_
    induction n2_ using Nat.strongRecOn with
    | ind n2_ ih4_ =>
    intro k w F1 hn5_ hg_F1 hf_F1 hk hw
    have g6_ : fs [(339, 339, 0, 100000)] F F1 := fs_tr fs_refl hf_F1 rfl
    refine ga_iload_n (z := k) hm_143 rfl rfl ?_
    refine fl_if_lt (a := k) hm_143 rfl ⟨by omega, by omega⟩ (fun h7_ => ?_) (fun h8_ => ?_)
    ·
      refine gr_v hm_143 rfl rfl ?_
      exact ⟨F1, rfl, hg_F1, g6_⟩
    refine ga_aload_n (v := .ref 331) hm_143 rfl rfl rfl ?_
    refine ga_getr (b := 339) hm_143 rfl sc_331 rfl ?_
    refine ga_iload_n (z := k) hm_143 rfl rfl ?_
    refine ga_aload_n (v := .ref 331) hm_143 rfl rfl rfl ?_
    refine ga_getr (b := 337) hm_143 rfl sc_331 rfl ?_
    refine ga_iload_n (z := w) hm_143 rfl rfl ?_
    have e9_ : F1 337 w.toNat = F 337 w.toNat := (hf_F1 337 w.toNat (by first | exact fs_c rfl | exact (fs_n (by omega) rfl))).trans (rfl)
    have b10_ : 0 ≤ F 337 w.toNat ∧ F 337 w.toNat ≤ 40 := gi_g hgi rfl
    refine ga_iald (z := w) (w := F 337 w.toNat) hm_143 rfl sc_337 (by omega) (by omega) (by omega) (e9_) ?_
    refine fl_iast (z := k) (v := F 337 w.toNat) hm_143 rfl sc_339 (by omega) (by omega) (by omega) ?_
    refine ga_aload_n (v := .ref 331) hm_143 rfl rfl rfl ?_
    refine ga_getr (b := 336) hm_143 rfl sc_331 rfl ?_
    refine ga_iload_n (z := w) hm_143 rfl rfl ?_
    have e11_ : F1 336 w.toNat = F 336 w.toNat := (hf_F1 336 w.toNat (by first | exact fs_c rfl | exact (fs_n (by omega) rfl))).trans (rfl)
    have b12_ : 0 ≤ F 336 w.toNat ∧ F 336 w.toNat ≤ 199 := gi_g hgi rfl
    refine ga_iald (z := w) (w := F 336 w.toNat) hm_143 rfl sc_336 (by omega) (by omega) (by omega) ((fl_u_ne (by first | exact nc_ rfl | decide | omega)).trans (e11_)) ?_
    refine ga_istore_n (lv2 := [(1, .int (Int32.ofInt (F 336 w.toNat))), (2, .int (Int32.ofInt k)), (0, .ref 331)]) hm_143 rfl (Nat.le_of_ble_eq_true rfl) rfl ?_
    refine ga_inc (a := k) (c := k - 1) (lv2 := [(2, .int (Int32.ofInt (k - 1))), (1, .int (Int32.ofInt (F 336 w.toNat))), (0, .ref 331)]) hm_143 rfl rfl (Nat.le_of_ble_eq_true rfl) (by omega) rfl ?_
    refine fl_goto hm_143 rfl ?_
    obtain ⟨F13_, q14_⟩ : ∃ Fq_, Fq_ = (fl_u F1 339 k.toNat (F 337 w.toNat)) := ⟨_, rfl⟩
    rw [← q14_]
    have g15_ : gi F13_ := by rw [q14_]; exact gi_u (hg_F1) rfl (by omega) (by omega)
    have g16_ : fs [(339, 339, 0, 100000)] F F13_ := by rw [q14_]; exact fs_u (g6_) (fs_y (by omega))
    exact ih4_ _ (by omega) (k - 1) (F 336 w.toNat) F13_ rfl g15_ (by rw [q14_]; exact fs_u (hf_F1) (fs_y (by omega))) (⟨by omega, by omega⟩) (⟨by omega, by omega⟩)
  exact L3_ _ (F 335 200 - 1) (200) F rfl hgi fs_refl (⟨by omega, by omega⟩) (⟨by omega, by omega⟩)
/- CheapPlanner$Search.comeTo -/
abbrev pq_130 (G : Nat → Nat → Option Nat) (F : fl_N) (X : xi_H) (st fm nb : Int) : Outcome → xi_H → Prop := gqv (fun A => ∃ F' : fl_N, fl_H sh_T G F' ++ X = A ∧ gi F' ∧ fs [(331, 331, 8, 8), (331, 331, 10, 11), (332, 338, 0, 100000)] F F' ∧ (li F') ∧ (F 331 8 ≤ F' 331 8)) gqn
theorem mc_130 {G : Nat → Nat → Option Nat} (hG : gg G) (F : fl_N) (X : xi_H) (hgi : gi F) (st fm nb : Int) (hst : -9223372036854775808 ≤ st ∧ st ≤ 9223372036854775807) (hli : li F) (hf : 0 ≤ fm ∧ fm < F 331 8) (hn : 0 ≤ nb ∧ nb ≤ 40) : fl_M xi_ms 130 2 51 [.ref 331, .long (Int64.ofInt st), .int (Int32.ofInt fm), .int (Int32.ofInt nb)] (fl_H sh_T G F ++ X) (pq_130 G F X st fm nb) := by
  intro fr lo hfr hlo
  show fl_R xi_ms 130 fr lo 0 [(0, .ref 331), (1, .long (Int64.ofInt st)), (3, .int (Int32.ofInt fm)), (4, .int (Int32.ofInt nb))] [] _ _
  have hlf := li_at hli hf.1 hf.2
  have hb8 : 0 ≤ F 331 8 ∧ F 331 8 ≤ 200 := gi_g hgi rfl
  refine ga_aload_n (v := .ref 331) hm_130 rfl rfl rfl ?_
  refine ga_getr (b := 120) hm_130 rfl sc_331 rfl ?_
  refine ga_getr (b := 123) hm_130 rfl sc_120 rfl ?_
  refine ga_lload_n (z := st) hm_130 rfl rfl ?_
  refine gIi (nY := 3) (F := 0) (L := 0) (As := [.long (Int64.ofInt st)]) (b := 123) (rest := []) hm_130 rfl hm_115 rfl rfl (fl_ob sc_123) rfl rfl rfl rfl rfl (by omega) (by omega) ?_
  intro f1_ l2_ h3_ h4_
  show fl_R xi_ms 115 f1_ l2_ 0 [(0, .ref 123), (1, .long (Int64.ofInt st))] [] _ _
  refine ga_aload_n (v := .ref 123) hm_115 rfl rfl rfl ?_
  have b5_ : 0 ≤ F 123 2 ∧ F 123 2 ≤ 1 := gi_g hgi rfl
  refine ga_geti (z := F 123 2) hm_115 rfl sc_123 rfl (rfl) ?_
  refine fl_if_eq (a := F 123 2) hm_115 rfl ⟨by omega, by omega⟩ (fun h6_ => ?_) (fun h7_ => ?_)
  ·
    refine fl_iconst hm_115 rfl ?_
    refine gr_i hm_115 rfl rfl (ga_nb (by omega)) ?_
    clear h3_ h4_ f1_ l2_
    refine fl_if_eq hm_130 rfl ⟨by omega, by omega⟩ (fun _ => ?_) (fun h => absurd (by omega) h)
    refine ga_aload_n (v := .ref 331) hm_130 rfl rfl rfl ?_
    refine ga_lload_n (z := st) hm_130 rfl rfl ?_
    refine gVi (nY := 5) (F := 0) (L := 0) (As := [.long (Int64.ofInt st)]) (b := 331) (rest := []) hm_130 rfl hm_142 rfl rfl (fl_ob sc_331) rfl rfl rfl rfl rfl (by omega) (by omega) (mc_142 hG F X hgi (st) (⟨by omega, by omega⟩)) (fun _ _ h => False.elim h) ?_
    rintro z8_ A1_ ⟨hA_, c9_⟩
    subst hA_
    refine ga_istore (lv2 := [(5, .int (Int32.ofInt z8_)), (0, .ref 331), (1, .long (Int64.ofInt st)), (3, .int (Int32.ofInt fm)), (4, .int (Int32.ofInt nb))]) hm_130 rfl (Nat.le_of_ble_eq_true rfl) rfl ?_
    refine ga_aload_n (v := .ref 331) hm_130 rfl rfl rfl ?_
    refine ga_getr (b := 338) hm_130 rfl sc_331 rfl ?_
    refine ga_iload (z := z8_) hm_130 rfl rfl ?_
    have b10_ : 0 ≤ F 338 z8_.toNat ∧ F 338 z8_.toNat ≤ 200 := gi_g hgi rfl
    refine ga_iald (z := z8_) (w := F 338 z8_.toNat) hm_130 rfl sc_338 (by omega) (by omega) (by omega) (rfl) ?_
    refine fl_if_eq (a := F 338 z8_.toNat) hm_130 rfl ⟨by omega, by omega⟩ (fun h11_ => ?_) (fun h12_ => ?_)
    ·
      refine ga_aload_n (v := .ref 331) hm_130 rfl rfl rfl ?_
      have b13_ : 0 ≤ F 331 8 ∧ F 331 8 ≤ 200 := gi_g hgi rfl
      refine ga_geti (z := F 331 8) hm_130 rfl sc_331 rfl (rfl) ?_
      refine ga_aload_n (v := .ref 331) hm_130 rfl rfl rfl ?_
      have b14_ : 0 ≤ F 331 9 ∧ F 331 9 ≤ 200 := gi_g hgi rfl
      refine ga_geti (z := F 331 9) hm_130 rfl sc_331 rfl (rfl) ?_
      refine fl_icmp_ge (a := F 331 8) (b := F 331 9) hm_130 rfl ⟨by omega, by omega⟩ ⟨by omega, by omega⟩ (fun h15_ => ?_) (fun h16_ => ?_)
      ·
        refine ga_aload_n (v := .ref 331) hm_130 rfl rfl rfl ?_
        refine fl_iconst hm_130 rfl ?_
        refine ga_putz (z := 1) hm_130 rfl sc_331 rfl rfl (by omega) ?_
        obtain ⟨F17_, q18_⟩ : ∃ Fq_, Fq_ = (fl_u F 331 10 1) := ⟨_, rfl⟩
        rw [← q18_]
        have g19_ : gi F17_ := by rw [q18_]; exact gi_u (hgi) rfl (by omega) (by omega)
        have g20_ : fs [(331, 331, 8, 8), (331, 331, 10, 11), (332, 338, 0, 100000)] F F17_ := by rw [q18_]; exact fs_u (fs_refl) rfl
        refine gr_v hm_130 rfl rfl ?_
        have e21_ : F17_ 331 8 = F 331 8 := by rw [q18_]; exact fl_u_ne (by first | exact nc_ rfl | decide | omega)
        exact ⟨F17_, rfl, g19_, g20_, (li_cg hli ((show F17_ 331 8 = F 331 8 from (by rw [q18_]; exact (fl_u_ne (by first | exact nc_ rfl | decide | omega))))) ((show F17_ 331 11 = F 331 11 from (by rw [q18_]; exact (fl_u_ne (by first | exact nc_ rfl | decide | omega))))) (fun i => (show F17_ 335 i = F 335 i from (by rw [q18_]; exact (fl_u_ne (by first | exact nc_ rfl | decide | omega)))))), (by omega)⟩
      refine ga_aload_n (v := .ref 331) hm_130 rfl rfl rfl ?_
      refine ga_iload (z := z8_) hm_130 rfl rfl ?_
      refine ga_lload_n (z := st) hm_130 rfl rfl ?_
      refine ga_aload_n (v := .ref 331) hm_130 rfl rfl rfl ?_
      have b22_ : -2147483648 ≤ F 331 12 ∧ F 331 12 ≤ 2147483647 := gi_g hgi rfl
      refine ga_geti (z := F 331 12) hm_130 rfl sc_331 rfl (rfl) ?_
      refine gVv (nY := 5) (F := 1) (L := 25) (As := [.int (Int32.ofInt z8_), .long (Int64.ofInt st), .int (Int32.ofInt (F 331 12))]) (b := 331) (rest := []) hm_130 rfl hm_129 rfl rfl (fl_ob sc_331) rfl rfl rfl rfl rfl (by omega) (by omega) (mc_129 hG F X hgi (z8_) (st) (F 331 12) (⟨by omega, by omega⟩) (⟨by omega, by omega⟩) (⟨by omega, by omega⟩) (by omega)) (fun _ _ h => False.elim h) ?_
      rintro A1_ ⟨F27_, hA_, g28_, s29_, c24_, c25_, c26_⟩
      subst hA_
      have g30_ : fs [(331, 331, 8, 8), (331, 331, 10, 11), (332, 338, 0, 100000)] F F27_ := fs_tr fs_refl s29_ rfl
      refine ga_aload_n (v := .ref 331) hm_130 rfl rfl rfl ?_
      refine ga_aload_n (v := .ref 331) hm_130 rfl rfl rfl ?_
      have b31_ : 0 ≤ F27_ 331 8 ∧ F27_ 331 8 ≤ 200 := gi_g g28_ rfl
      refine ga_geti (z := F27_ 331 8) hm_130 rfl sc_331 rfl (rfl) ?_
      refine fl_iconst hm_130 rfl ?_
      refine ga_isub (a := F27_ 331 8) (b := 1) (c := F27_ 331 8 - 1) hm_130 rfl (by omega) ?_
      refine ga_iload_n (z := fm) hm_130 rfl rfl ?_
      refine ga_iload (z := nb) hm_130 rfl rfl ?_
      refine gVv (nY := 5) (F := 1) (L := 27) (As := [.int (Int32.ofInt (F27_ 331 8 - 1)), .int (Int32.ofInt fm), .int (Int32.ofInt nb)]) (b := 331) (rest := []) hm_130 rfl hm_140 rfl rfl (fl_ob sc_331) rfl rfl rfl rfl rfl (by omega) (by omega) (mc_140 hG F27_ X g28_ (F27_ 331 8 - 1) (fm) (nb) (⟨by omega, by omega⟩) (⟨by omega, by omega⟩) (⟨by omega, by omega⟩) (by rw [c26_ fm.toNat (by omega)]; omega)) (fun _ _ h => False.elim h) ?_
      rintro A1_ ⟨F35_, hA_, g36_, s37_, c33_, c34_⟩
      subst hA_
      have g38_ : fs [(331, 331, 8, 8), (331, 331, 10, 11), (332, 338, 0, 100000)] F F35_ := fs_tr g30_ s37_ rfl
      refine fl_goto hm_130 rfl ?_
      refine gr_v hm_130 rfl rfl ?_
      have e39_ : F35_ 331 8 = F27_ 331 8 := (s37_ 331 8 rfl).trans (rfl)
      exact ⟨F35_, rfl, g36_, g38_, (li_add (F := F) (F1 := F27_) (fm := fm) (v := F27_ 331 8 - 1) hli (by omega) (by omega) c24_ c25_ c26_ ((show F27_ 331 11 = F 331 11 from (s29_ 331 11 (by first | exact fs_c rfl | exact (fs_n (by omega) (fs_n (by omega) (fs_n (by omega) rfl))))))) ((show F35_ 331 8 = F27_ 331 8 from (s37_ 331 8 (by first | exact fs_c rfl | exact (fs_n (by omega) rfl))))) ((show F35_ 331 11 = F27_ 331 11 from (s37_ 331 11 (by first | exact fs_c rfl | exact (fs_n (by omega) rfl))))) (by omega) c33_ c34_), (by omega)⟩
    refine ga_aload_n (v := .ref 331) hm_130 rfl rfl rfl ?_
    refine ga_getr (b := 338) hm_130 rfl sc_331 rfl ?_
    refine ga_iload (z := z8_) hm_130 rfl rfl ?_
    refine ga_iald (z := z8_) (w := F 338 z8_.toNat) hm_130 rfl sc_338 (by omega) (by omega) (by omega) (rfl) ?_
    refine fl_iconst hm_130 rfl ?_
    refine ga_isub (a := F 338 z8_.toNat) (b := 1) (c := F 338 z8_.toNat - 1) hm_130 rfl (by omega) ?_
    refine ga_istore (lv2 := [(6, .int (Int32.ofInt (F 338 z8_.toNat - 1))), (5, .int (Int32.ofInt z8_)), (0, .ref 331), (1, .long (Int64.ofInt st)), (3, .int (Int32.ofInt fm)), (4, .int (Int32.ofInt nb))]) hm_130 rfl (Nat.le_of_ble_eq_true rfl) rfl ?_
    refine ga_aload_n (v := .ref 331) hm_130 rfl rfl rfl ?_
    refine ga_getr (b := 333) hm_130 rfl sc_331 rfl ?_
    refine ga_iload (z := F 338 z8_.toNat - 1) hm_130 rfl rfl ?_
    have b40_ : -2147483648 ≤ F 333 (F 338 z8_.toNat - 1).toNat ∧ F 333 (F 338 z8_.toNat - 1).toNat ≤ 2147483647 := gi_g hgi rfl
    refine ga_iald (z := F 338 z8_.toNat - 1) (w := F 333 (F 338 z8_.toNat - 1).toNat) hm_130 rfl sc_333 (by omega) (by omega) (by omega) (rfl) ?_
    refine ga_aload_n (v := .ref 331) hm_130 rfl rfl rfl ?_
    have b41_ : -2147483648 ≤ F 331 12 ∧ F 331 12 ≤ 2147483647 := gi_g hgi rfl
    refine ga_geti (z := F 331 12) hm_130 rfl sc_331 rfl (rfl) ?_
    refine fx_icmp_ne (a := F 333 (F 338 z8_.toNat - 1).toNat) (b := F 331 12) hm_130 rfl ⟨by omega, by omega⟩ ⟨by omega, by omega⟩ (fun h42_ => ?_) (fun h43_ => ?_)
    ·
      refine fl_goto hm_130 rfl ?_
      refine gr_v hm_130 rfl rfl ?_
      have b44_ : 0 ≤ F 331 8 ∧ F 331 8 ≤ 200 := gi_g hgi rfl
      exact ⟨F, rfl, hgi, fs_refl, (li_cg hli (rfl) (rfl) (fun i => rfl)), (by omega)⟩
    refine ga_aload_n (v := .ref 331) hm_130 rfl rfl rfl ?_
    refine ga_iload (z := F 338 z8_.toNat - 1) hm_130 rfl rfl ?_
    refine ga_iload_n (z := fm) hm_130 rfl rfl ?_
    refine ga_iload (z := nb) hm_130 rfl rfl ?_
    refine gVv (nY := 5) (F := 1) (L := 27) (As := [.int (Int32.ofInt (F 338 z8_.toNat - 1)), .int (Int32.ofInt fm), .int (Int32.ofInt nb)]) (b := 331) (rest := []) hm_130 rfl hm_140 rfl rfl (fl_ob sc_331) rfl rfl rfl rfl rfl (by omega) (by omega) (mc_140 hG F X hgi (F 338 z8_.toNat - 1) (fm) (nb) (⟨by omega, by omega⟩) (⟨by omega, by omega⟩) (⟨by omega, by omega⟩) (by omega)) (fun _ _ h => False.elim h) ?_
    rintro A1_ ⟨F48_, hA_, g49_, s50_, c46_, c47_⟩
    subst hA_
    have g51_ : fs [(331, 331, 8, 8), (331, 331, 10, 11), (332, 338, 0, 100000)] F F48_ := fs_tr fs_refl s50_ rfl
    refine fl_goto hm_130 rfl ?_
    refine gr_v hm_130 rfl rfl ?_
    have e52_ : F48_ 331 8 = F 331 8 := (s50_ 331 8 rfl).trans (rfl)
    have b53_ : 0 ≤ F 331 8 ∧ F 331 8 ≤ 200 := gi_g hgi rfl
    exact ⟨F48_, rfl, g49_, g51_, (li_known (F := F) (fm := fm) (v := F 338 z8_.toNat - 1) hli (by omega) (by omega) ((show F48_ 331 8 = F 331 8 from (s50_ 331 8 (by first | exact fs_c rfl | exact (fs_n (by omega) rfl))))) ((show F48_ 331 11 = F 331 11 from (s50_ 331 11 (by first | exact fs_c rfl | exact (fs_n (by omega) rfl))))) c46_ c47_), (by omega)⟩
  refine ga_lload_n (z := st) hm_115 rfl rfl ?_
  refine ga_aload_n (v := .ref 123) hm_115 rfl rfl rfl ?_
  have b54_ : -9223372036854775808 ≤ F 123 0 ∧ F 123 0 ≤ 9223372036854775807 := gi_g hgi rfl
  refine ga_getl (z := F 123 0) hm_115 rfl sc_123 rfl (rfl) ?_
  refine ga_lany hm_115 rfl rfl rfl (fun z55_ ⟨h56_, h57_⟩ => ?_)
  refine ga_aload_n (v := .ref 123) hm_115 rfl rfl rfl ?_
  refine ga_getl (z := F 123 0) hm_115 rfl sc_123 rfl (rfl) ?_
  refine ga_lcmpn (a := z55_) (b := F 123 0) hm_115 rfl rfl ⟨by omega, by omega⟩ ⟨by omega, by omega⟩ (fun h58_ => ?_) (fun h59_ => ?_)
  ·
    refine fl_iconst hm_115 rfl ?_
    refine gr_i hm_115 rfl rfl (ga_nb (by omega)) ?_
    clear h3_ h4_ f1_ l2_
    refine fl_if_eq hm_130 rfl ⟨by omega, by omega⟩ (fun _ => ?_) (fun h => absurd (by omega) h)
    refine ga_aload_n (v := .ref 331) hm_130 rfl rfl rfl ?_
    refine ga_lload_n (z := st) hm_130 rfl rfl ?_
    refine gVi (nY := 5) (F := 0) (L := 0) (As := [.long (Int64.ofInt st)]) (b := 331) (rest := []) hm_130 rfl hm_142 rfl rfl (fl_ob sc_331) rfl rfl rfl rfl rfl (by omega) (by omega) (mc_142 hG F X hgi (st) (⟨by omega, by omega⟩)) (fun _ _ h => False.elim h) ?_
    rintro z60_ A1_ ⟨hA_, c61_⟩
    subst hA_
    refine ga_istore (lv2 := [(5, .int (Int32.ofInt z60_)), (0, .ref 331), (1, .long (Int64.ofInt st)), (3, .int (Int32.ofInt fm)), (4, .int (Int32.ofInt nb))]) hm_130 rfl (Nat.le_of_ble_eq_true rfl) rfl ?_
    refine ga_aload_n (v := .ref 331) hm_130 rfl rfl rfl ?_
    refine ga_getr (b := 338) hm_130 rfl sc_331 rfl ?_
    refine ga_iload (z := z60_) hm_130 rfl rfl ?_
    have b62_ : 0 ≤ F 338 z60_.toNat ∧ F 338 z60_.toNat ≤ 200 := gi_g hgi rfl
    refine ga_iald (z := z60_) (w := F 338 z60_.toNat) hm_130 rfl sc_338 (by omega) (by omega) (by omega) (rfl) ?_
    refine fl_if_eq (a := F 338 z60_.toNat) hm_130 rfl ⟨by omega, by omega⟩ (fun h63_ => ?_) (fun h64_ => ?_)
    ·
      refine ga_aload_n (v := .ref 331) hm_130 rfl rfl rfl ?_
      have b65_ : 0 ≤ F 331 8 ∧ F 331 8 ≤ 200 := gi_g hgi rfl
      refine ga_geti (z := F 331 8) hm_130 rfl sc_331 rfl (rfl) ?_
      refine ga_aload_n (v := .ref 331) hm_130 rfl rfl rfl ?_
      have b66_ : 0 ≤ F 331 9 ∧ F 331 9 ≤ 200 := gi_g hgi rfl
      refine ga_geti (z := F 331 9) hm_130 rfl sc_331 rfl (rfl) ?_
      refine fl_icmp_ge (a := F 331 8) (b := F 331 9) hm_130 rfl ⟨by omega, by omega⟩ ⟨by omega, by omega⟩ (fun h67_ => ?_) (fun h68_ => ?_)
      ·
        refine ga_aload_n (v := .ref 331) hm_130 rfl rfl rfl ?_
        refine fl_iconst hm_130 rfl ?_
        refine ga_putz (z := 1) hm_130 rfl sc_331 rfl rfl (by omega) ?_
        obtain ⟨F69_, q70_⟩ : ∃ Fq_, Fq_ = (fl_u F 331 10 1) := ⟨_, rfl⟩
        rw [← q70_]
        have g71_ : gi F69_ := by rw [q70_]; exact gi_u (hgi) rfl (by omega) (by omega)
        have g72_ : fs [(331, 331, 8, 8), (331, 331, 10, 11), (332, 338, 0, 100000)] F F69_ := by rw [q70_]; exact fs_u (fs_refl) rfl
        refine gr_v hm_130 rfl rfl ?_
        have e73_ : F69_ 331 8 = F 331 8 := by rw [q70_]; exact fl_u_ne (by first | exact nc_ rfl | decide | omega)
        exact ⟨F69_, rfl, g71_, g72_, (li_cg hli ((show F69_ 331 8 = F 331 8 from (by rw [q70_]; exact (fl_u_ne (by first | exact nc_ rfl | decide | omega))))) ((show F69_ 331 11 = F 331 11 from (by rw [q70_]; exact (fl_u_ne (by first | exact nc_ rfl | decide | omega))))) (fun i => (show F69_ 335 i = F 335 i from (by rw [q70_]; exact (fl_u_ne (by first | exact nc_ rfl | decide | omega)))))), (by omega)⟩
      refine ga_aload_n (v := .ref 331) hm_130 rfl rfl rfl ?_
      refine ga_iload (z := z60_) hm_130 rfl rfl ?_
      refine ga_lload_n (z := st) hm_130 rfl rfl ?_
      refine ga_aload_n (v := .ref 331) hm_130 rfl rfl rfl ?_
      have b74_ : -2147483648 ≤ F 331 12 ∧ F 331 12 ≤ 2147483647 := gi_g hgi rfl
      refine ga_geti (z := F 331 12) hm_130 rfl sc_331 rfl (rfl) ?_
      refine gVv (nY := 5) (F := 1) (L := 25) (As := [.int (Int32.ofInt z60_), .long (Int64.ofInt st), .int (Int32.ofInt (F 331 12))]) (b := 331) (rest := []) hm_130 rfl hm_129 rfl rfl (fl_ob sc_331) rfl rfl rfl rfl rfl (by omega) (by omega) (mc_129 hG F X hgi (z60_) (st) (F 331 12) (⟨by omega, by omega⟩) (⟨by omega, by omega⟩) (⟨by omega, by omega⟩) (by omega)) (fun _ _ h => False.elim h) ?_
      rintro A1_ ⟨F79_, hA_, g80_, s81_, c76_, c77_, c78_⟩
      subst hA_
      have g82_ : fs [(331, 331, 8, 8), (331, 331, 10, 11), (332, 338, 0, 100000)] F F79_ := fs_tr fs_refl s81_ rfl
      refine ga_aload_n (v := .ref 331) hm_130 rfl rfl rfl ?_
      refine ga_aload_n (v := .ref 331) hm_130 rfl rfl rfl ?_
      have b83_ : 0 ≤ F79_ 331 8 ∧ F79_ 331 8 ≤ 200 := gi_g g80_ rfl
      refine ga_geti (z := F79_ 331 8) hm_130 rfl sc_331 rfl (rfl) ?_
      refine fl_iconst hm_130 rfl ?_
      refine ga_isub (a := F79_ 331 8) (b := 1) (c := F79_ 331 8 - 1) hm_130 rfl (by omega) ?_
      refine ga_iload_n (z := fm) hm_130 rfl rfl ?_
      refine ga_iload (z := nb) hm_130 rfl rfl ?_
      refine gVv (nY := 5) (F := 1) (L := 27) (As := [.int (Int32.ofInt (F79_ 331 8 - 1)), .int (Int32.ofInt fm), .int (Int32.ofInt nb)]) (b := 331) (rest := []) hm_130 rfl hm_140 rfl rfl (fl_ob sc_331) rfl rfl rfl rfl rfl (by omega) (by omega) (mc_140 hG F79_ X g80_ (F79_ 331 8 - 1) (fm) (nb) (⟨by omega, by omega⟩) (⟨by omega, by omega⟩) (⟨by omega, by omega⟩) (by rw [c78_ fm.toNat (by omega)]; omega)) (fun _ _ h => False.elim h) ?_
      rintro A1_ ⟨F87_, hA_, g88_, s89_, c85_, c86_⟩
      subst hA_
      have g90_ : fs [(331, 331, 8, 8), (331, 331, 10, 11), (332, 338, 0, 100000)] F F87_ := fs_tr g82_ s89_ rfl
      refine fl_goto hm_130 rfl ?_
      refine gr_v hm_130 rfl rfl ?_
      have e91_ : F87_ 331 8 = F79_ 331 8 := (s89_ 331 8 rfl).trans (rfl)
      exact ⟨F87_, rfl, g88_, g90_, (li_add (F := F) (F1 := F79_) (fm := fm) (v := F79_ 331 8 - 1) hli (by omega) (by omega) c76_ c77_ c78_ ((show F79_ 331 11 = F 331 11 from (s81_ 331 11 (by first | exact fs_c rfl | exact (fs_n (by omega) (fs_n (by omega) (fs_n (by omega) rfl))))))) ((show F87_ 331 8 = F79_ 331 8 from (s89_ 331 8 (by first | exact fs_c rfl | exact (fs_n (by omega) rfl))))) ((show F87_ 331 11 = F79_ 331 11 from (s89_ 331 11 (by first | exact fs_c rfl | exact (fs_n (by omega) rfl))))) (by omega) c85_ c86_), (by omega)⟩
    refine ga_aload_n (v := .ref 331) hm_130 rfl rfl rfl ?_
    refine ga_getr (b := 338) hm_130 rfl sc_331 rfl ?_
    refine ga_iload (z := z60_) hm_130 rfl rfl ?_
    refine ga_iald (z := z60_) (w := F 338 z60_.toNat) hm_130 rfl sc_338 (by omega) (by omega) (by omega) (rfl) ?_
    refine fl_iconst hm_130 rfl ?_
    refine ga_isub (a := F 338 z60_.toNat) (b := 1) (c := F 338 z60_.toNat - 1) hm_130 rfl (by omega) ?_
    refine ga_istore (lv2 := [(6, .int (Int32.ofInt (F 338 z60_.toNat - 1))), (5, .int (Int32.ofInt z60_)), (0, .ref 331), (1, .long (Int64.ofInt st)), (3, .int (Int32.ofInt fm)), (4, .int (Int32.ofInt nb))]) hm_130 rfl (Nat.le_of_ble_eq_true rfl) rfl ?_
    refine ga_aload_n (v := .ref 331) hm_130 rfl rfl rfl ?_
    refine ga_getr (b := 333) hm_130 rfl sc_331 rfl ?_
    refine ga_iload (z := F 338 z60_.toNat - 1) hm_130 rfl rfl ?_
    have b92_ : -2147483648 ≤ F 333 (F 338 z60_.toNat - 1).toNat ∧ F 333 (F 338 z60_.toNat - 1).toNat ≤ 2147483647 := gi_g hgi rfl
    refine ga_iald (z := F 338 z60_.toNat - 1) (w := F 333 (F 338 z60_.toNat - 1).toNat) hm_130 rfl sc_333 (by omega) (by omega) (by omega) (rfl) ?_
    refine ga_aload_n (v := .ref 331) hm_130 rfl rfl rfl ?_
    have b93_ : -2147483648 ≤ F 331 12 ∧ F 331 12 ≤ 2147483647 := gi_g hgi rfl
    refine ga_geti (z := F 331 12) hm_130 rfl sc_331 rfl (rfl) ?_
    refine fx_icmp_ne (a := F 333 (F 338 z60_.toNat - 1).toNat) (b := F 331 12) hm_130 rfl ⟨by omega, by omega⟩ ⟨by omega, by omega⟩ (fun h94_ => ?_) (fun h95_ => ?_)
    ·
      refine fl_goto hm_130 rfl ?_
      refine gr_v hm_130 rfl rfl ?_
      have b96_ : 0 ≤ F 331 8 ∧ F 331 8 ≤ 200 := gi_g hgi rfl
      exact ⟨F, rfl, hgi, fs_refl, (li_cg hli (rfl) (rfl) (fun i => rfl)), (by omega)⟩
    refine ga_aload_n (v := .ref 331) hm_130 rfl rfl rfl ?_
    refine ga_iload (z := F 338 z60_.toNat - 1) hm_130 rfl rfl ?_
    refine ga_iload_n (z := fm) hm_130 rfl rfl ?_
    refine ga_iload (z := nb) hm_130 rfl rfl ?_
    refine gVv (nY := 5) (F := 1) (L := 27) (As := [.int (Int32.ofInt (F 338 z60_.toNat - 1)), .int (Int32.ofInt fm), .int (Int32.ofInt nb)]) (b := 331) (rest := []) hm_130 rfl hm_140 rfl rfl (fl_ob sc_331) rfl rfl rfl rfl rfl (by omega) (by omega) (mc_140 hG F X hgi (F 338 z60_.toNat - 1) (fm) (nb) (⟨by omega, by omega⟩) (⟨by omega, by omega⟩) (⟨by omega, by omega⟩) (by omega)) (fun _ _ h => False.elim h) ?_
    rintro A1_ ⟨F100_, hA_, g101_, s102_, c98_, c99_⟩
    subst hA_
    have g103_ : fs [(331, 331, 8, 8), (331, 331, 10, 11), (332, 338, 0, 100000)] F F100_ := fs_tr fs_refl s102_ rfl
    refine fl_goto hm_130 rfl ?_
    refine gr_v hm_130 rfl rfl ?_
    have e104_ : F100_ 331 8 = F 331 8 := (s102_ 331 8 rfl).trans (rfl)
    have b105_ : 0 ≤ F 331 8 ∧ F 331 8 ≤ 200 := gi_g hgi rfl
    exact ⟨F100_, rfl, g101_, g103_, (li_known (F := F) (fm := fm) (v := F 338 z60_.toNat - 1) hli (by omega) (by omega) ((show F100_ 331 8 = F 331 8 from (s102_ 331 8 (by first | exact fs_c rfl | exact (fs_n (by omega) rfl))))) ((show F100_ 331 11 = F 331 11 from (s102_ 331 11 (by first | exact fs_c rfl | exact (fs_n (by omega) rfl))))) c98_ c99_), (by omega)⟩
  refine ga_lload_n (z := st) hm_115 rfl rfl ?_
  refine ga_aload_n (v := .ref 123) hm_115 rfl rfl rfl ?_
  have b106_ : -9223372036854775808 ≤ F 123 1 ∧ F 123 1 ≤ 9223372036854775807 := gi_g hgi rfl
  refine ga_getl (z := F 123 1) hm_115 rfl sc_123 rfl (rfl) ?_
  refine ga_lany hm_115 rfl rfl rfl (fun z107_ ⟨h108_, h109_⟩ => ?_)
  refine ga_lconst (z := 0) hm_115 rfl rfl ?_
  refine ga_lcmpn (a := z107_) (b := 0) hm_115 rfl rfl ⟨by omega, by omega⟩ ⟨by omega, by omega⟩ (fun h110_ => ?_) (fun h111_ => ?_)
  ·
    refine fl_iconst hm_115 rfl ?_
    refine gr_i hm_115 rfl rfl (ga_nb (by omega)) ?_
    clear h3_ h4_ f1_ l2_
    refine fl_if_eq hm_130 rfl ⟨by omega, by omega⟩ (fun _ => ?_) (fun h => absurd (by omega) h)
    refine ga_aload_n (v := .ref 331) hm_130 rfl rfl rfl ?_
    refine ga_lload_n (z := st) hm_130 rfl rfl ?_
    refine gVi (nY := 5) (F := 0) (L := 0) (As := [.long (Int64.ofInt st)]) (b := 331) (rest := []) hm_130 rfl hm_142 rfl rfl (fl_ob sc_331) rfl rfl rfl rfl rfl (by omega) (by omega) (mc_142 hG F X hgi (st) (⟨by omega, by omega⟩)) (fun _ _ h => False.elim h) ?_
    rintro z112_ A1_ ⟨hA_, c113_⟩
    subst hA_
    refine ga_istore (lv2 := [(5, .int (Int32.ofInt z112_)), (0, .ref 331), (1, .long (Int64.ofInt st)), (3, .int (Int32.ofInt fm)), (4, .int (Int32.ofInt nb))]) hm_130 rfl (Nat.le_of_ble_eq_true rfl) rfl ?_
    refine ga_aload_n (v := .ref 331) hm_130 rfl rfl rfl ?_
    refine ga_getr (b := 338) hm_130 rfl sc_331 rfl ?_
    refine ga_iload (z := z112_) hm_130 rfl rfl ?_
    have b114_ : 0 ≤ F 338 z112_.toNat ∧ F 338 z112_.toNat ≤ 200 := gi_g hgi rfl
    refine ga_iald (z := z112_) (w := F 338 z112_.toNat) hm_130 rfl sc_338 (by omega) (by omega) (by omega) (rfl) ?_
    refine fl_if_eq (a := F 338 z112_.toNat) hm_130 rfl ⟨by omega, by omega⟩ (fun h115_ => ?_) (fun h116_ => ?_)
    ·
      refine ga_aload_n (v := .ref 331) hm_130 rfl rfl rfl ?_
      have b117_ : 0 ≤ F 331 8 ∧ F 331 8 ≤ 200 := gi_g hgi rfl
      refine ga_geti (z := F 331 8) hm_130 rfl sc_331 rfl (rfl) ?_
      refine ga_aload_n (v := .ref 331) hm_130 rfl rfl rfl ?_
      have b118_ : 0 ≤ F 331 9 ∧ F 331 9 ≤ 200 := gi_g hgi rfl
      refine ga_geti (z := F 331 9) hm_130 rfl sc_331 rfl (rfl) ?_
      refine fl_icmp_ge (a := F 331 8) (b := F 331 9) hm_130 rfl ⟨by omega, by omega⟩ ⟨by omega, by omega⟩ (fun h119_ => ?_) (fun h120_ => ?_)
      ·
        refine ga_aload_n (v := .ref 331) hm_130 rfl rfl rfl ?_
        refine fl_iconst hm_130 rfl ?_
        refine ga_putz (z := 1) hm_130 rfl sc_331 rfl rfl (by omega) ?_
        obtain ⟨F121_, q122_⟩ : ∃ Fq_, Fq_ = (fl_u F 331 10 1) := ⟨_, rfl⟩
        rw [← q122_]
        have g123_ : gi F121_ := by rw [q122_]; exact gi_u (hgi) rfl (by omega) (by omega)
        have g124_ : fs [(331, 331, 8, 8), (331, 331, 10, 11), (332, 338, 0, 100000)] F F121_ := by rw [q122_]; exact fs_u (fs_refl) rfl
        refine gr_v hm_130 rfl rfl ?_
        have e125_ : F121_ 331 8 = F 331 8 := by rw [q122_]; exact fl_u_ne (by first | exact nc_ rfl | decide | omega)
        exact ⟨F121_, rfl, g123_, g124_, (li_cg hli ((show F121_ 331 8 = F 331 8 from (by rw [q122_]; exact (fl_u_ne (by first | exact nc_ rfl | decide | omega))))) ((show F121_ 331 11 = F 331 11 from (by rw [q122_]; exact (fl_u_ne (by first | exact nc_ rfl | decide | omega))))) (fun i => (show F121_ 335 i = F 335 i from (by rw [q122_]; exact (fl_u_ne (by first | exact nc_ rfl | decide | omega)))))), (by omega)⟩
      refine ga_aload_n (v := .ref 331) hm_130 rfl rfl rfl ?_
      refine ga_iload (z := z112_) hm_130 rfl rfl ?_
      refine ga_lload_n (z := st) hm_130 rfl rfl ?_
      refine ga_aload_n (v := .ref 331) hm_130 rfl rfl rfl ?_
      have b126_ : -2147483648 ≤ F 331 12 ∧ F 331 12 ≤ 2147483647 := gi_g hgi rfl
      refine ga_geti (z := F 331 12) hm_130 rfl sc_331 rfl (rfl) ?_
      refine gVv (nY := 5) (F := 1) (L := 25) (As := [.int (Int32.ofInt z112_), .long (Int64.ofInt st), .int (Int32.ofInt (F 331 12))]) (b := 331) (rest := []) hm_130 rfl hm_129 rfl rfl (fl_ob sc_331) rfl rfl rfl rfl rfl (by omega) (by omega) (mc_129 hG F X hgi (z112_) (st) (F 331 12) (⟨by omega, by omega⟩) (⟨by omega, by omega⟩) (⟨by omega, by omega⟩) (by omega)) (fun _ _ h => False.elim h) ?_
      rintro A1_ ⟨F131_, hA_, g132_, s133_, c128_, c129_, c130_⟩
      subst hA_
      have g134_ : fs [(331, 331, 8, 8), (331, 331, 10, 11), (332, 338, 0, 100000)] F F131_ := fs_tr fs_refl s133_ rfl
      refine ga_aload_n (v := .ref 331) hm_130 rfl rfl rfl ?_
      refine ga_aload_n (v := .ref 331) hm_130 rfl rfl rfl ?_
      have b135_ : 0 ≤ F131_ 331 8 ∧ F131_ 331 8 ≤ 200 := gi_g g132_ rfl
      refine ga_geti (z := F131_ 331 8) hm_130 rfl sc_331 rfl (rfl) ?_
      refine fl_iconst hm_130 rfl ?_
      refine ga_isub (a := F131_ 331 8) (b := 1) (c := F131_ 331 8 - 1) hm_130 rfl (by omega) ?_
      refine ga_iload_n (z := fm) hm_130 rfl rfl ?_
      refine ga_iload (z := nb) hm_130 rfl rfl ?_
      refine gVv (nY := 5) (F := 1) (L := 27) (As := [.int (Int32.ofInt (F131_ 331 8 - 1)), .int (Int32.ofInt fm), .int (Int32.ofInt nb)]) (b := 331) (rest := []) hm_130 rfl hm_140 rfl rfl (fl_ob sc_331) rfl rfl rfl rfl rfl (by omega) (by omega) (mc_140 hG F131_ X g132_ (F131_ 331 8 - 1) (fm) (nb) (⟨by omega, by omega⟩) (⟨by omega, by omega⟩) (⟨by omega, by omega⟩) (by rw [c130_ fm.toNat (by omega)]; omega)) (fun _ _ h => False.elim h) ?_
      rintro A1_ ⟨F139_, hA_, g140_, s141_, c137_, c138_⟩
      subst hA_
      have g142_ : fs [(331, 331, 8, 8), (331, 331, 10, 11), (332, 338, 0, 100000)] F F139_ := fs_tr g134_ s141_ rfl
      refine fl_goto hm_130 rfl ?_
      refine gr_v hm_130 rfl rfl ?_
      have e143_ : F139_ 331 8 = F131_ 331 8 := (s141_ 331 8 rfl).trans (rfl)
      exact ⟨F139_, rfl, g140_, g142_, (li_add (F := F) (F1 := F131_) (fm := fm) (v := F131_ 331 8 - 1) hli (by omega) (by omega) c128_ c129_ c130_ ((show F131_ 331 11 = F 331 11 from (s133_ 331 11 (by first | exact fs_c rfl | exact (fs_n (by omega) (fs_n (by omega) (fs_n (by omega) rfl))))))) ((show F139_ 331 8 = F131_ 331 8 from (s141_ 331 8 (by first | exact fs_c rfl | exact (fs_n (by omega) rfl))))) ((show F139_ 331 11 = F131_ 331 11 from (s141_ 331 11 (by first | exact fs_c rfl | exact (fs_n (by omega) rfl))))) (by omega) c137_ c138_), (by omega)⟩
    refine ga_aload_n (v := .ref 331) hm_130 rfl rfl rfl ?_
    refine ga_getr (b := 338) hm_130 rfl sc_331 rfl ?_
    refine ga_iload (z := z112_) hm_130 rfl rfl ?_
    refine ga_iald (z := z112_) (w := F 338 z112_.toNat) hm_130 rfl sc_338 (by omega) (by omega) (by omega) (rfl) ?_
    refine fl_iconst hm_130 rfl ?_
    refine ga_isub (a := F 338 z112_.toNat) (b := 1) (c := F 338 z112_.toNat - 1) hm_130 rfl (by omega) ?_
    refine ga_istore (lv2 := [(6, .int (Int32.ofInt (F 338 z112_.toNat - 1))), (5, .int (Int32.ofInt z112_)), (0, .ref 331), (1, .long (Int64.ofInt st)), (3, .int (Int32.ofInt fm)), (4, .int (Int32.ofInt nb))]) hm_130 rfl (Nat.le_of_ble_eq_true rfl) rfl ?_
    refine ga_aload_n (v := .ref 331) hm_130 rfl rfl rfl ?_
    refine ga_getr (b := 333) hm_130 rfl sc_331 rfl ?_
    refine ga_iload (z := F 338 z112_.toNat - 1) hm_130 rfl rfl ?_
    have b144_ : -2147483648 ≤ F 333 (F 338 z112_.toNat - 1).toNat ∧ F 333 (F 338 z112_.toNat - 1).toNat ≤ 2147483647 := gi_g hgi rfl
    refine ga_iald (z := F 338 z112_.toNat - 1) (w := F 333 (F 338 z112_.toNat - 1).toNat) hm_130 rfl sc_333 (by omega) (by omega) (by omega) (rfl) ?_
    refine ga_aload_n (v := .ref 331) hm_130 rfl rfl rfl ?_
    have b145_ : -2147483648 ≤ F 331 12 ∧ F 331 12 ≤ 2147483647 := gi_g hgi rfl
    refine ga_geti (z := F 331 12) hm_130 rfl sc_331 rfl (rfl) ?_
    refine fx_icmp_ne (a := F 333 (F 338 z112_.toNat - 1).toNat) (b := F 331 12) hm_130 rfl ⟨by omega, by omega⟩ ⟨by omega, by omega⟩ (fun h146_ => ?_) (fun h147_ => ?_)
    ·
      refine fl_goto hm_130 rfl ?_
      refine gr_v hm_130 rfl rfl ?_
      have b148_ : 0 ≤ F 331 8 ∧ F 331 8 ≤ 200 := gi_g hgi rfl
      exact ⟨F, rfl, hgi, fs_refl, (li_cg hli (rfl) (rfl) (fun i => rfl)), (by omega)⟩
    refine ga_aload_n (v := .ref 331) hm_130 rfl rfl rfl ?_
    refine ga_iload (z := F 338 z112_.toNat - 1) hm_130 rfl rfl ?_
    refine ga_iload_n (z := fm) hm_130 rfl rfl ?_
    refine ga_iload (z := nb) hm_130 rfl rfl ?_
    refine gVv (nY := 5) (F := 1) (L := 27) (As := [.int (Int32.ofInt (F 338 z112_.toNat - 1)), .int (Int32.ofInt fm), .int (Int32.ofInt nb)]) (b := 331) (rest := []) hm_130 rfl hm_140 rfl rfl (fl_ob sc_331) rfl rfl rfl rfl rfl (by omega) (by omega) (mc_140 hG F X hgi (F 338 z112_.toNat - 1) (fm) (nb) (⟨by omega, by omega⟩) (⟨by omega, by omega⟩) (⟨by omega, by omega⟩) (by omega)) (fun _ _ h => False.elim h) ?_
    rintro A1_ ⟨F152_, hA_, g153_, s154_, c150_, c151_⟩
    subst hA_
    have g155_ : fs [(331, 331, 8, 8), (331, 331, 10, 11), (332, 338, 0, 100000)] F F152_ := fs_tr fs_refl s154_ rfl
    refine fl_goto hm_130 rfl ?_
    refine gr_v hm_130 rfl rfl ?_
    have e156_ : F152_ 331 8 = F 331 8 := (s154_ 331 8 rfl).trans (rfl)
    have b157_ : 0 ≤ F 331 8 ∧ F 331 8 ≤ 200 := gi_g hgi rfl
    exact ⟨F152_, rfl, g153_, g155_, (li_known (F := F) (fm := fm) (v := F 338 z112_.toNat - 1) hli (by omega) (by omega) ((show F152_ 331 8 = F 331 8 from (s154_ 331 8 (by first | exact fs_c rfl | exact (fs_n (by omega) rfl))))) ((show F152_ 331 11 = F 331 11 from (s154_ 331 11 (by first | exact fs_c rfl | exact (fs_n (by omega) rfl))))) c150_ c151_), (by omega)⟩
  refine fl_iconst hm_115 rfl ?_
  refine fl_goto hm_115 rfl ?_
  refine gr_i hm_115 rfl rfl (ga_nb (by omega)) ?_
  clear h3_ h4_ f1_ l2_
  refine fl_if_eq hm_130 rfl ⟨by omega, by omega⟩ (fun h => absurd h (by omega)) (fun _ => ?_)
  refine ga_aload_n (v := .ref 331) hm_130 rfl rfl rfl ?_
  refine fl_iconst hm_130 rfl ?_
  refine ga_putz (z := 1) hm_130 rfl sc_331 rfl rfl (by omega) ?_
  refine ga_aload_n (v := .ref 331) hm_130 rfl rfl rfl ?_
  refine fl_sipush hm_130 rfl rfl ?_
  refine ga_iload_n (z := fm) hm_130 rfl rfl ?_
  refine ga_iload (z := nb) hm_130 rfl rfl ?_
  obtain ⟨F158_, q159_⟩ : ∃ Fq_, Fq_ = (fl_u F 331 11 1) := ⟨_, rfl⟩
  rw [← q159_]
  have g160_ : gi F158_ := by rw [q159_]; exact gi_u (hgi) rfl (by omega) (by omega)
  have g161_ : fs [(331, 331, 8, 8), (331, 331, 10, 11), (332, 338, 0, 100000)] F F158_ := by rw [q159_]; exact fs_u (fs_refl) rfl
  refine gVv (nY := 5) (F := 1) (L := 27) (As := [.int (Int32.ofInt 200), .int (Int32.ofInt fm), .int (Int32.ofInt nb)]) (b := 331) (rest := []) hm_130 rfl hm_140 rfl rfl (fl_ob sc_331) rfl rfl rfl rfl rfl (by omega) (by omega) (mc_140 hG F158_ X g160_ (200) (fm) (nb) (⟨by omega, by omega⟩) (⟨by omega, by omega⟩) (⟨by omega, by omega⟩) (by rw [(show F158_ 335 fm.toNat = F 335 fm.toNat from (by rw [q159_]; exact (fl_u_ne (by first | exact nc_ rfl | decide | omega))))]; omega)) (fun _ _ h => False.elim h) ?_
  rintro A1_ ⟨F165_, hA_, g166_, s167_, c163_, c164_⟩
  subst hA_
  have g168_ : fs [(331, 331, 8, 8), (331, 331, 10, 11), (332, 338, 0, 100000)] F F165_ := fs_tr g161_ s167_ rfl
  refine gr_v hm_130 rfl rfl ?_
  have e169_ : F158_ 331 8 = F 331 8 := by rw [q159_]; exact fl_u_ne (by first | exact nc_ rfl | decide | omega)
  have e170_ : F165_ 331 8 = F 331 8 := (s167_ 331 8 rfl).trans (e169_)
  have b171_ : 0 ≤ F 331 8 ∧ F 331 8 ≤ 200 := gi_g hgi rfl
  exact ⟨F165_, rfl, g166_, g168_, (li_goal (F := F) (fm := fm) hli (by omega) (by omega) ((Eq.trans (a := F165_ 331 8) (b := F158_ 331 8) (s167_ 331 8 (by first | exact fs_c rfl | exact (fs_n (by omega) rfl))) (show F158_ 331 8 = F 331 8 from (by rw [q159_]; exact (fl_u_ne (by first | exact nc_ rfl | decide | omega)))))) (fun i hi => Eq.trans (c163_ i hi) (show F158_ 335 i = F 335 i from (by rw [q159_]; exact (fl_u_ne (by first | exact nc_ rfl | decide | omega))))) (by have h9_ := c164_; have e1_ := (show F158_ 335 (200 : Int).toNat = F 335 (200 : Int).toNat from (by rw [q159_]; exact (fl_u_ne (by first | exact nc_ rfl | decide | omega)))); have e2_ := (show F158_ 335 fm.toNat = F 335 fm.toNat from (by rw [q159_]; exact (fl_u_ne (by first | exact nc_ rfl | decide | omega)))); rw [e1_, e2_] at h9_; exact h9_)), (by omega)⟩
/- CheapPlanner$Search.goOnFrom -/
abbrev pq_135 (G : Nat → Nat → Option Nat) (F : fl_N) (X : xi_H) (fm pr : Int) : Outcome → xi_H → Prop := gqv (fun A => ∃ F' : fl_N, fl_H sh_T G F' ++ X = A ∧ gi F' ∧ fs [(331, 331, 8, 8), (331, 331, 10, 11), (332, 338, 0, 100000)] F F' ∧ (li F') ∧ (F 331 8 ≤ F' 331 8)) gqn
theorem mc_135 {G : Nat → Nat → Option Nat} (hG : gg G) (F : fl_N) (X : xi_H) (hgi : gi F) (fm pr : Int) (hli : li F) (hf : 0 ≤ fm ∧ fm < F 331 8) (hpr : -2147483648 ≤ pr ∧ pr ≤ 2147483647) : fl_M xi_ms 135 3 77 [.ref 331, .int (Int32.ofInt fm), .int (Int32.ofInt pr)] (fl_H sh_T G F ++ X) (pq_135 G F X fm pr) := by
  intro fr lo hfr hlo
  show fl_R xi_ms 135 fr lo 0 [(0, .ref 331), (1, .int (Int32.ofInt fm)), (2, .int (Int32.ofInt pr))] [] _ _
  have hb8 : 0 ≤ F 331 8 ∧ F 331 8 ≤ 200 := gi_g hgi rfl
  refine fl_iconst hm_135 rfl ?_
  refine ga_istore_n (lv2 := [(3, .int (Int32.ofInt 0)), (0, .ref 331), (1, .int (Int32.ofInt fm)), (2, .int (Int32.ofInt pr))]) hm_135 rfl (Nat.le_of_ble_eq_true rfl) rfl ?_
  have b4_ : 0 ≤ F 331 8 ∧ F 331 8 ≤ 200 := gi_g hgi rfl
  have L2_ : ∀ (n1_ : Nat) (k : Int) (F1 : fl_N), (F1 120 3 - k : Int).toNat = n1_ → (gi F1) → (fs [(331, 331, 8, 8), (331, 331, 10, 11), (332, 338, 0, 100000)] F F1) → (0 ≤ k ∧ k ≤ 41) → (li F1) → (F 331 8 ≤ F1 331 8) → fl_R xi_ms 135 fr lo 2 [(3, .int (Int32.ofInt k)), (0, .ref 331), (1, .int (Int32.ofInt fm)), (2, .int (Int32.ofInt pr))] [] (fl_H sh_T G F1 ++ X) (pq_135 G F X fm pr) := by
    intro n1_
    induction n1_ using Nat.strongRecOn with
    | ind n1_ ih3_ =>
    intro k F1 hn5_ hg_F1 hf_F1 hk hl1 hg
    have g6_ : fs [(331, 331, 8, 8), (331, 331, 10, 11), (332, 338, 0, 100000)] F F1 := fs_tr fs_refl hf_F1 rfl
    refine ga_iload_n (z := k) hm_135 rfl rfl ?_
    refine ga_aload_n (v := .ref 331) hm_135 rfl rfl rfl ?_
    refine ga_getr (b := 120) hm_135 rfl sc_331 rfl ?_
    have e7_ : F1 120 3 = F 120 3 := (hf_F1 120 3 rfl).trans (rfl)
    have b8_ : 0 ≤ F 120 3 ∧ F 120 3 ≤ 41 := gi_g hgi rfl
    refine ga_geti (z := F 120 3) hm_135 rfl sc_120 rfl (e7_) ?_
    refine fl_icmp_ge (a := k) (b := F 120 3) hm_135 rfl ⟨by omega, by omega⟩ ⟨by omega, by omega⟩ (fun h9_ => ?_) (fun h10_ => ?_)
    ·
      refine ga_aload_n (v := .ref 331) hm_135 rfl rfl rfl ?_
      refine ga_iload_n (z := fm) hm_135 rfl rfl ?_
      refine ga_iload_n (z := pr) hm_135 rfl rfl ?_
      refine gVv (nY := 6) (F := 0) (L := 0) (As := [.int (Int32.ofInt fm), .int (Int32.ofInt pr)]) (b := 331) (rest := []) hm_135 rfl hm_141 rfl rfl (fl_ob sc_331) rfl rfl rfl rfl rfl (by omega) (by omega) (mc_141 hG F1 X hg_F1 (fm) (pr) (⟨by omega, by omega⟩) (⟨by omega, by omega⟩)) (fun _ _ h => False.elim h) ?_
      rintro A1_ ⟨F12_, hA_, g13_, s14_⟩
      subst hA_
      have g15_ : fs [(331, 331, 8, 8), (331, 331, 10, 11), (332, 338, 0, 100000)] F F12_ := fs_tr g6_ s14_ rfl
      refine gr_v hm_135 rfl rfl ?_
      have e16_ : F12_ 331 8 = F1 331 8 := (s14_ 331 8 rfl).trans (rfl)
      have b17_ : 0 ≤ F1 331 8 ∧ F1 331 8 ≤ 200 := gi_g hg_F1 rfl
      exact ⟨F12_, rfl, g13_, g15_, (li_cg hl1 ((show F12_ 331 8 = F1 331 8 from (s14_ 331 8 (by first | exact fs_c rfl | exact (fs_n (by omega) rfl))))) ((show F12_ 331 11 = F1 331 11 from (s14_ 331 11 (by first | exact fs_c rfl | exact (fs_n (by omega) rfl))))) (fun i => (show F12_ 335 i = F1 335 i from (s14_ 335 i (by first | exact fs_c rfl | exact (fs_n (by omega) rfl)))))), (by omega)⟩
    refine ga_aload_n (v := .ref 331) hm_135 rfl rfl rfl ?_
    refine ga_getr (b := 120) hm_135 rfl sc_331 rfl ?_
    refine ga_getr (b := 122) hm_135 rfl sc_120 rfl ?_
    refine ga_iload_n (z := k) hm_135 rfl rfl ?_
    obtain ⟨a18_, r19_, n20_, q21_⟩ := ra_122 (k).toNat (by omega)
    refine fl_aald (z := k) (q := a18_) hm_135 rfl sc_122 (hG _ _ _ sc_122) rfl (by omega) (by simp only [List.length_cons, List.length_nil]; omega) (by simp only [List.length_cons, List.length_nil]; omega) r19_ ?_
    refine ga_astore (lv2 := [(4, .ref a18_), (3, .int (Int32.ofInt k)), (0, .ref 331), (1, .int (Int32.ofInt fm)), (2, .int (Int32.ofInt pr))]) hm_135 rfl (Nat.le_of_ble_eq_true rfl) rfl ?_
    refine ga_aload (v := .ref a18_) hm_135 rfl rfl rfl ?_
    have e22_ : F1 a18_ 2 = F a18_ 2 := (hf_F1 a18_ 2 (by first | exact fs_c rfl | exact (fs_n (by omega) (fs_n (by omega) (fs_n (by omega) rfl))))).trans (rfl)
    have b23_ : 0 ≤ F a18_ 2 ∧ F a18_ 2 ≤ 999 := gi_g hgi n20_.2.1.2.2.1
    refine ga_geti (z := F a18_ 2) hm_135 rfl n20_.1.1 rfl (e22_) ?_
    refine ga_iload_n (z := pr) hm_135 rfl rfl ?_
    refine fx_icmp_ne (a := F a18_ 2) (b := pr) hm_135 rfl ⟨by omega, by omega⟩ ⟨by omega, by omega⟩ (fun h24_ => ?_) (fun h25_ => ?_)
    ·
      refine ga_inc (a := k) (c := k + 1) (lv2 := [(3, .int (Int32.ofInt (k + 1))), (4, .ref a18_), (0, .ref 331), (1, .int (Int32.ofInt fm)), (2, .int (Int32.ofInt pr))]) hm_135 rfl rfl (Nat.le_of_ble_eq_true rfl) rfl rfl ?_
      refine fl_goto hm_135 rfl ?_
      have b26_ : 0 ≤ F1 331 8 ∧ F1 331 8 ≤ 200 := gi_g hg_F1 rfl
      exact fl_R_sub (lv' := [(3, .int (Int32.ofInt (k + 1))), (0, .ref 331), (1, .int (Int32.ofInt fm)), (2, .int (Int32.ofInt pr))]) rfl rfl (ih3_ _ (by omega) (k + 1) F1 rfl hg_F1 hf_F1 (⟨by omega, by omega⟩) (hl1) (by omega))
    refine ga_aload (v := .ref a18_) hm_135 rfl rfl rfl ?_
    refine ga_getr (b := a18_ + 2) hm_135 rfl n20_.1.1 rfl ?_
    refine ga_aload_n (v := .ref 331) hm_135 rfl rfl rfl ?_
    refine ga_getr (b := 332) hm_135 rfl sc_331 rfl ?_
    refine ga_iload_n (z := fm) hm_135 rfl rfl ?_
    have b27_ : -9223372036854775808 ≤ F1 332 fm.toNat ∧ F1 332 fm.toNat ≤ 9223372036854775807 := gi_g hg_F1 rfl
    refine ga_lald (z := fm) (w := F1 332 fm.toNat) hm_135 rfl sc_332 (by omega) (by omega) (by omega) (rfl) ?_
    refine gIi (nY := 3) (F := 0) (L := 0) (As := [.long (Int64.ofInt (F1 332 fm.toNat))]) (b := a18_ + 2) (rest := []) hm_135 rfl hm_115 rfl rfl (fl_ob n20_.1.2.2.1) rfl rfl rfl rfl rfl (by omega) (by omega) ?_
    intro f28_ l29_ h30_ h31_
    show fl_R xi_ms 115 f28_ l29_ 0 [(0, .ref (a18_ + 2)), (1, .long (Int64.ofInt (F1 332 fm.toNat)))] [] _ _
    refine ga_aload_n (v := .ref (a18_ + 2)) hm_115 rfl rfl rfl ?_
    have e32_ : F1 (a18_ + 2) 2 = F (a18_ + 2) 2 := (hf_F1 (a18_ + 2) 2 (by first | exact fs_c rfl | exact (fs_n (by omega) (fs_n (by omega) (fs_n (by omega) rfl))))).trans (rfl)
    have b33_ : 0 ≤ F (a18_ + 2) 2 ∧ F (a18_ + 2) 2 ≤ 1 := gi_g hgi n20_.2.1.2.2.2.2.2.2.2.2.1
    refine ga_geti (z := F (a18_ + 2) 2) hm_115 rfl n20_.1.2.2.1 rfl (e32_) ?_
    refine fl_if_eq (a := F (a18_ + 2) 2) hm_115 rfl ⟨by omega, by omega⟩ (fun h34_ => ?_) (fun h35_ => ?_)
    ·
      refine fl_iconst hm_115 rfl ?_
      refine gr_i hm_115 rfl rfl (ga_nb (by omega)) ?_
      clear h30_ h31_ f28_ l29_
      refine fl_if_eq hm_135 rfl ⟨by omega, by omega⟩ (fun _ => ?_) (fun h => absurd (by omega) h)
      refine ga_inc (a := k) (c := k + 1) (lv2 := [(3, .int (Int32.ofInt (k + 1))), (4, .ref a18_), (0, .ref 331), (1, .int (Int32.ofInt fm)), (2, .int (Int32.ofInt pr))]) hm_135 rfl rfl (Nat.le_of_ble_eq_true rfl) rfl rfl ?_
      refine fl_goto hm_135 rfl ?_
      have b36_ : 0 ≤ F1 331 8 ∧ F1 331 8 ≤ 200 := gi_g hg_F1 rfl
      exact fl_R_sub (lv' := [(3, .int (Int32.ofInt (k + 1))), (0, .ref 331), (1, .int (Int32.ofInt fm)), (2, .int (Int32.ofInt pr))]) rfl rfl (ih3_ _ (by omega) (k + 1) F1 rfl hg_F1 hf_F1 (⟨by omega, by omega⟩) (hl1) (by omega))
    refine ga_lload_n (z := F1 332 fm.toNat) hm_115 rfl rfl ?_
    refine ga_aload_n (v := .ref (a18_ + 2)) hm_115 rfl rfl rfl ?_
    have e37_ : F1 (a18_ + 2) 0 = F (a18_ + 2) 0 := (hf_F1 (a18_ + 2) 0 (by first | exact fs_c rfl | exact (fs_n (by omega) (fs_n (by omega) (fs_n (by omega) rfl))))).trans (rfl)
    have b38_ : -9223372036854775808 ≤ F (a18_ + 2) 0 ∧ F (a18_ + 2) 0 ≤ 9223372036854775807 := gi_g hgi n20_.2.1.2.2.2.2.2.2.1
    refine ga_getl (z := F (a18_ + 2) 0) hm_115 rfl n20_.1.2.2.1 rfl (e37_) ?_
    refine ga_lany hm_115 rfl rfl rfl (fun z39_ ⟨h40_, h41_⟩ => ?_)
    refine ga_aload_n (v := .ref (a18_ + 2)) hm_115 rfl rfl rfl ?_
    refine ga_getl (z := F (a18_ + 2) 0) hm_115 rfl n20_.1.2.2.1 rfl (e37_) ?_
    refine ga_lcmpn (a := z39_) (b := F (a18_ + 2) 0) hm_115 rfl rfl ⟨by omega, by omega⟩ ⟨by omega, by omega⟩ (fun h42_ => ?_) (fun h43_ => ?_)
    ·
      refine fl_iconst hm_115 rfl ?_
      refine gr_i hm_115 rfl rfl (ga_nb (by omega)) ?_
      clear h30_ h31_ f28_ l29_
      refine fl_if_eq hm_135 rfl ⟨by omega, by omega⟩ (fun _ => ?_) (fun h => absurd (by omega) h)
      refine ga_inc (a := k) (c := k + 1) (lv2 := [(3, .int (Int32.ofInt (k + 1))), (4, .ref a18_), (0, .ref 331), (1, .int (Int32.ofInt fm)), (2, .int (Int32.ofInt pr))]) hm_135 rfl rfl (Nat.le_of_ble_eq_true rfl) rfl rfl ?_
      refine fl_goto hm_135 rfl ?_
      have b44_ : 0 ≤ F1 331 8 ∧ F1 331 8 ≤ 200 := gi_g hg_F1 rfl
      exact fl_R_sub (lv' := [(3, .int (Int32.ofInt (k + 1))), (0, .ref 331), (1, .int (Int32.ofInt fm)), (2, .int (Int32.ofInt pr))]) rfl rfl (ih3_ _ (by omega) (k + 1) F1 rfl hg_F1 hf_F1 (⟨by omega, by omega⟩) (hl1) (by omega))
    refine ga_lload_n (z := F1 332 fm.toNat) hm_115 rfl rfl ?_
    refine ga_aload_n (v := .ref (a18_ + 2)) hm_115 rfl rfl rfl ?_
    have e45_ : F1 (a18_ + 2) 1 = F (a18_ + 2) 1 := (hf_F1 (a18_ + 2) 1 (by first | exact fs_c rfl | exact (fs_n (by omega) (fs_n (by omega) (fs_n (by omega) rfl))))).trans (rfl)
    have b46_ : -9223372036854775808 ≤ F (a18_ + 2) 1 ∧ F (a18_ + 2) 1 ≤ 9223372036854775807 := gi_g hgi n20_.2.1.2.2.2.2.2.2.2.1
    refine ga_getl (z := F (a18_ + 2) 1) hm_115 rfl n20_.1.2.2.1 rfl (e45_) ?_
    refine ga_lany hm_115 rfl rfl rfl (fun z47_ ⟨h48_, h49_⟩ => ?_)
    refine ga_lconst (z := 0) hm_115 rfl rfl ?_
    refine ga_lcmpn (a := z47_) (b := 0) hm_115 rfl rfl ⟨by omega, by omega⟩ ⟨by omega, by omega⟩ (fun h50_ => ?_) (fun h51_ => ?_)
    ·
      refine fl_iconst hm_115 rfl ?_
      refine gr_i hm_115 rfl rfl (ga_nb (by omega)) ?_
      clear h30_ h31_ f28_ l29_
      refine fl_if_eq hm_135 rfl ⟨by omega, by omega⟩ (fun _ => ?_) (fun h => absurd (by omega) h)
      refine ga_inc (a := k) (c := k + 1) (lv2 := [(3, .int (Int32.ofInt (k + 1))), (4, .ref a18_), (0, .ref 331), (1, .int (Int32.ofInt fm)), (2, .int (Int32.ofInt pr))]) hm_135 rfl rfl (Nat.le_of_ble_eq_true rfl) rfl rfl ?_
      refine fl_goto hm_135 rfl ?_
      have b52_ : 0 ≤ F1 331 8 ∧ F1 331 8 ≤ 200 := gi_g hg_F1 rfl
      exact fl_R_sub (lv' := [(3, .int (Int32.ofInt (k + 1))), (0, .ref 331), (1, .int (Int32.ofInt fm)), (2, .int (Int32.ofInt pr))]) rfl rfl (ih3_ _ (by omega) (k + 1) F1 rfl hg_F1 hf_F1 (⟨by omega, by omega⟩) (hl1) (by omega))
    refine fl_iconst hm_115 rfl ?_
    refine fl_goto hm_115 rfl ?_
    refine gr_i hm_115 rfl rfl (ga_nb (by omega)) ?_
    clear h30_ h31_ f28_ l29_
    refine fl_if_eq hm_135 rfl ⟨by omega, by omega⟩ (fun h => absurd h (by omega)) (fun _ => ?_)
    refine ga_aload_n (v := .ref 331) hm_135 rfl rfl rfl ?_
    refine ga_aload (v := .ref a18_) hm_135 rfl rfl rfl ?_
    refine ga_aload_n (v := .ref 331) hm_135 rfl rfl rfl ?_
    refine ga_getr (b := 332) hm_135 rfl sc_331 rfl ?_
    refine ga_iload_n (z := fm) hm_135 rfl rfl ?_
    refine ga_lald (z := fm) (w := F1 332 fm.toNat) hm_135 rfl sc_332 (by omega) (by omega) (by omega) (rfl) ?_
    refine gIl (nY := 3) (F := 0) (L := 0) (As := [.long (Int64.ofInt (F1 332 fm.toNat))]) (b := a18_) (rest := [.ref 331]) hm_135 rfl hm_147 rfl rfl (fl_ob n20_.1.1) rfl rfl rfl rfl rfl (by omega) (by omega) ?_
    intro f53_ l54_ h55_ h56_
    show fl_R xi_ms 147 f53_ l54_ 0 [(0, .ref a18_), (1, .long (Int64.ofInt (F1 332 fm.toNat)))] [] _ _
    refine ga_lload_n (z := F1 332 fm.toNat) hm_147 rfl rfl ?_
    refine ga_aload_n (v := .ref a18_) hm_147 rfl rfl rfl ?_
    have e57_ : F1 a18_ 4 = F a18_ 4 := (hf_F1 a18_ 4 (by first | exact fs_c rfl | exact (fs_n (by omega) (fs_n (by omega) (fs_n (by omega) rfl))))).trans (rfl)
    have b58_ : -9223372036854775808 ≤ F a18_ 4 ∧ F a18_ 4 ≤ 9223372036854775807 := gi_g hgi n20_.2.1.2.2.2.1
    refine ga_getl (z := F a18_ 4) hm_147 rfl n20_.1.1 rfl (e57_) ?_
    refine ga_ldcl (z := -1) hm_147 rfl (by decide) ?_
    refine ga_lany hm_147 rfl rfl rfl (fun z59_ ⟨h60_, h61_⟩ => ?_)
    refine ga_lany hm_147 rfl rfl rfl (fun z62_ ⟨h63_, h64_⟩ => ?_)
    refine ga_aload_n (v := .ref a18_) hm_147 rfl rfl rfl ?_
    have e65_ : F1 a18_ 5 = F a18_ 5 := (hf_F1 a18_ 5 (by first | exact fs_c rfl | exact (fs_n (by omega) (fs_n (by omega) (fs_n (by omega) rfl))))).trans (rfl)
    have b66_ : -9223372036854775808 ≤ F a18_ 5 ∧ F a18_ 5 ≤ 9223372036854775807 := gi_g hgi n20_.2.1.2.2.2.2.1
    refine ga_getl (z := F a18_ 5) hm_147 rfl n20_.1.1 rfl (e65_) ?_
    refine ga_lany hm_147 rfl rfl rfl (fun z67_ ⟨h68_, h69_⟩ => ?_)
    refine gr_l hm_147 rfl rfl ?_
    clear h55_ h56_ f53_ l54_
    refine ga_iload_n (z := fm) hm_135 rfl rfl ?_
    refine ga_iload_n (z := k) hm_135 rfl rfl ?_
    have b70_ : 0 ≤ F1 331 8 ∧ F1 331 8 ≤ 200 := gi_g hg_F1 rfl
    refine gVv (nY := 7) (F := 2) (L := 51) (As := [.long (Int64.ofInt z67_), .int (Int32.ofInt fm), .int (Int32.ofInt k)]) (b := 331) (rest := []) hm_135 rfl hm_130 rfl rfl (fl_ob sc_331) rfl rfl rfl rfl rfl (by omega) (by omega) (mc_130 hG F1 X hg_F1 (z67_) (fm) (k) (⟨by omega, by omega⟩) (hl1) (⟨by omega, by omega⟩) (⟨by omega, by omega⟩)) (fun _ _ h => False.elim h) ?_
    rintro A1_ ⟨F74_, hA_, g75_, s76_, c72_, c73_⟩
    subst hA_
    have g77_ : fs [(331, 331, 8, 8), (331, 331, 10, 11), (332, 338, 0, 100000)] F F74_ := fs_tr g6_ s76_ rfl
    refine ga_inc (a := k) (c := k + 1) (lv2 := [(3, .int (Int32.ofInt (k + 1))), (4, .ref a18_), (0, .ref 331), (1, .int (Int32.ofInt fm)), (2, .int (Int32.ofInt pr))]) hm_135 rfl rfl (Nat.le_of_ble_eq_true rfl) rfl rfl ?_
    refine fl_goto hm_135 rfl ?_
    have b78_ : 0 ≤ F74_ 331 8 ∧ F74_ 331 8 ≤ 200 := gi_g g75_ rfl
    have e79_ : F74_ 120 3 = F 120 3 := (s76_ 120 3 rfl).trans (e7_)
    exact fl_R_sub (lv' := [(3, .int (Int32.ofInt (k + 1))), (0, .ref 331), (1, .int (Int32.ofInt fm)), (2, .int (Int32.ofInt pr))]) rfl rfl (ih3_ _ (by omega) (k + 1) F74_ rfl g75_ (fs_tr hf_F1 s76_ rfl) (⟨by omega, by omega⟩) (c72_) (by omega))
  have b80_ : 0 ≤ F 120 3 ∧ F 120 3 ≤ 41 := gi_g hgi rfl
  exact L2_ _ (0) F rfl hgi fs_refl (⟨by omega, by omega⟩) (hli) (by omega)
/- CheapPlanner$Search.goOn -/
abbrev pq_134 (G : Nat → Nat → Option Nat) (F : fl_N) (X : xi_H)  : Outcome → xi_H → Prop := gqv (fun A => ∃ F' : fl_N, fl_H sh_T G F' ++ X = A ∧ gi F' ∧ fs [(331, 331, 8, 8), (331, 331, 10, 11), (332, 338, 0, 100000)] F F' ∧ (li F') ∧ (F 331 8 ≤ F' 331 8)) gqn
theorem mc_134 {G : Nat → Nat → Option Nat} (hG : gg G) (F : fl_N) (X : xi_H) (hgi : gi F)  (hli : li F) : fl_M xi_ms 134 4 101 [.ref 331] (fl_H sh_T G F ++ X) (pq_134 G F X) := by
  intro fr lo hfr hlo
  show fl_R xi_ms 134 fr lo 0 [(0, .ref 331)] [] _ _
  have hb8 : 0 ≤ F 331 8 ∧ F 331 8 ≤ 200 := gi_g hgi rfl
  refine ga_aload_n (v := .ref 331) hm_134 rfl rfl rfl ?_
  have b1_ : 0 ≤ F 331 8 ∧ F 331 8 ≤ 200 := gi_g hgi rfl
  refine ga_geti (z := F 331 8) hm_134 rfl sc_331 rfl (rfl) ?_
  refine ga_istore_n (lv2 := [(1, .int (Int32.ofInt (F 331 8))), (0, .ref 331)]) hm_134 rfl (Nat.le_of_ble_eq_true rfl) rfl ?_
  refine fl_iconst hm_134 rfl ?_
  refine ga_istore_n (lv2 := [(2, .int (Int32.ofInt 0)), (1, .int (Int32.ofInt (F 331 8))), (0, .ref 331)]) hm_134 rfl (Nat.le_of_ble_eq_true rfl) rfl ?_
  have L3_ : ∀ (n2_ : Nat) (k : Int) (F1 : fl_N), (F 331 8 - k : Int).toNat = n2_ → (gi F1) → (fs [(331, 331, 8, 8), (331, 331, 10, 11), (332, 338, 0, 100000)] F F1) → (0 ≤ k ∧ k ≤ F 331 8) → (li F1) → (F 331 8 ≤ F1 331 8) → fl_R xi_ms 134 fr lo 7 [(2, .int (Int32.ofInt k)), (1, .int (Int32.ofInt (F 331 8))), (0, .ref 331)] [] (fl_H sh_T G F1 ++ X) (pq_134 G F X) := by
    intro n2_
    induction n2_ using Nat.strongRecOn with
    | ind n2_ ih4_ =>
    intro k F1 hn5_ hg_F1 hf_F1 hk hl1 hg
    have g6_ : fs [(331, 331, 8, 8), (331, 331, 10, 11), (332, 338, 0, 100000)] F F1 := fs_tr fs_refl hf_F1 rfl
    refine ga_iload_n (z := k) hm_134 rfl rfl ?_
    refine ga_iload_n (z := F 331 8) hm_134 rfl rfl ?_
    refine fl_icmp_ge (a := k) (b := F 331 8) hm_134 rfl ⟨by omega, by omega⟩ ⟨by omega, by omega⟩ (fun h7_ => ?_) (fun h8_ => ?_)
    ·
      refine gr_v hm_134 rfl rfl ?_
      have b9_ : 0 ≤ F1 331 8 ∧ F1 331 8 ≤ 200 := gi_g hg_F1 rfl
      exact ⟨F1, rfl, hg_F1, g6_, (hl1), (by omega)⟩
    refine ga_aload_n (v := .ref 331) hm_134 rfl rfl rfl ?_
    refine ga_getr (b := 334) hm_134 rfl sc_331 rfl ?_
    refine ga_iload_n (z := k) hm_134 rfl rfl ?_
    have b10_ : -2147483648 ≤ F1 334 k.toNat ∧ F1 334 k.toNat ≤ 2147483647 := gi_g hg_F1 rfl
    refine ga_iald (z := k) (w := F1 334 k.toNat) hm_134 rfl sc_334 (by omega) (by omega) (by omega) (rfl) ?_
    refine ga_aload_n (v := .ref 331) hm_134 rfl rfl rfl ?_
    have e11_ : F1 331 12 = F 331 12 := (hf_F1 331 12 rfl).trans (rfl)
    have b12_ : -2147483648 ≤ F 331 12 ∧ F 331 12 ≤ 2147483647 := gi_g hgi rfl
    refine ga_geti (z := F 331 12) hm_134 rfl sc_331 rfl (e11_) ?_
    refine fx_icmp_ne (a := F1 334 k.toNat) (b := F 331 12) hm_134 rfl ⟨by omega, by omega⟩ ⟨by omega, by omega⟩ (fun h13_ => ?_) (fun h14_ => ?_)
    ·
      refine ga_inc (a := k) (c := k + 1) (lv2 := [(2, .int (Int32.ofInt (k + 1))), (1, .int (Int32.ofInt (F 331 8))), (0, .ref 331)]) hm_134 rfl rfl (Nat.le_of_ble_eq_true rfl) rfl rfl ?_
      refine fl_goto hm_134 rfl ?_
      have b15_ : 0 ≤ F1 331 8 ∧ F1 331 8 ≤ 200 := gi_g hg_F1 rfl
      exact ih4_ _ (by omega) (k + 1) F1 rfl hg_F1 hf_F1 (⟨by omega, by omega⟩) (hl1) (by omega)
    refine ga_aload_n (v := .ref 331) hm_134 rfl rfl rfl ?_
    refine ga_iload_n (z := k) hm_134 rfl rfl ?_
    refine ga_aload_n (v := .ref 331) hm_134 rfl rfl rfl ?_
    refine ga_geti (z := F 331 12) hm_134 rfl sc_331 rfl (e11_) ?_
    refine ga_aload_n (v := .ref 331) hm_134 rfl rfl rfl ?_
    refine ga_getr (b := 333) hm_134 rfl sc_331 rfl ?_
    refine ga_iload_n (z := k) hm_134 rfl rfl ?_
    have b16_ : -2147483648 ≤ F1 333 k.toNat ∧ F1 333 k.toNat ≤ 2147483647 := gi_g hg_F1 rfl
    refine ga_iald (z := k) (w := F1 333 k.toNat) hm_134 rfl sc_333 (by omega) (by omega) (by omega) (rfl) ?_
    refine ga_iany hm_134 rfl rfl rfl (fun z17_ ⟨h18_, h19_⟩ => ?_)
    have b20_ : 0 ≤ F1 331 8 ∧ F1 331 8 ≤ 200 := gi_g hg_F1 rfl
    refine gVv (nY := 5) (F := 3) (L := 77) (As := [.int (Int32.ofInt k), .int (Int32.ofInt z17_)]) (b := 331) (rest := []) hm_134 rfl hm_135 rfl rfl (fl_ob sc_331) rfl rfl rfl rfl rfl (by omega) (by omega) (mc_135 hG F1 X hg_F1 (k) (z17_) (hl1) (⟨by omega, by omega⟩) (⟨by omega, by omega⟩)) (fun _ _ h => False.elim h) ?_
    rintro A1_ ⟨F24_, hA_, g25_, s26_, c22_, c23_⟩
    subst hA_
    have g27_ : fs [(331, 331, 8, 8), (331, 331, 10, 11), (332, 338, 0, 100000)] F F24_ := fs_tr g6_ s26_ rfl
    refine ga_inc (a := k) (c := k + 1) (lv2 := [(2, .int (Int32.ofInt (k + 1))), (1, .int (Int32.ofInt (F 331 8))), (0, .ref 331)]) hm_134 rfl rfl (Nat.le_of_ble_eq_true rfl) rfl rfl ?_
    refine fl_goto hm_134 rfl ?_
    have b28_ : 0 ≤ F24_ 331 8 ∧ F24_ 331 8 ≤ 200 := gi_g g25_ rfl
    exact ih4_ _ (by omega) (k + 1) F24_ rfl g25_ (fs_tr hf_F1 s26_ rfl) (⟨by omega, by omega⟩) (c22_) (by omega)
  exact L3_ _ (0) F rfl hgi fs_refl (⟨by omega, by omega⟩) (hli) (by omega)
/- CheapPlanner$Search.look -/
abbrev pq_139 (G : Nat → Nat → Option Nat) (F : fl_N) (X : xi_H) (mo : Int) : Outcome → xi_H → Prop := gqv (fun A => ∃ F' : fl_N, fl_H sh_T G F' ++ X = A ∧ gi F' ∧ fs [(331, 331, 8, 12), (332, 339, 0, 100000)] F F' ∧ (F' 331 11 = 1 → 0 ≤ F' 335 200 ∧ F' 335 200 ≤ 200)) gqn
theorem mc_139 {G : Nat → Nat → Option Nat} (hG : gg G) (F : fl_N) (X : xi_H) (hgi : gi F) (mo : Int) (hmo : 1 ≤ mo ∧ mo ≤ 200) : fl_M xi_ms 139 5 123 [.ref 331, .int (Int32.ofInt mo)] (fl_H sh_T G F ++ X) (pq_139 G F X mo) := by
  intro fr lo hfr hlo
  show fl_R xi_ms 139 fr lo 0 [(0, .ref 331), (1, .int (Int32.ofInt mo))] [] _ _
  refine ga_aload_n (v := .ref 331) hm_139 rfl rfl rfl ?_
  refine gVv (nY := 1) (F := 1) (L := 23) (As := []) (b := 331) (rest := []) hm_139 rfl hm_40 rfl rfl (fl_ob sc_331) rfl rfl rfl rfl rfl (by omega) (by omega) (mc_40 hG F X hgi) (fun _ _ h => False.elim h) ?_
  rintro A1_ ⟨F5_, hA_, g6_, s7_, c2_, c3_, c4_⟩
  subst hA_
  have g8_ : fs [(331, 331, 8, 12), (332, 339, 0, 100000)] F F5_ := fs_tr fs_refl s7_ rfl
  refine ga_aload_n (v := .ref 331) hm_139 rfl rfl rfl ?_
  refine ga_iload_n (z := mo) hm_139 rfl rfl ?_
  refine ga_puti (z := mo) hm_139 rfl sc_331 rfl rfl ?_
  refine ga_aload_n (v := .ref 331) hm_139 rfl rfl rfl ?_
  refine fl_iconst hm_139 rfl ?_
  refine ga_puti (z := 0) hm_139 rfl sc_331 rfl rfl ?_
  refine ga_aload_n (v := .ref 331) hm_139 rfl rfl rfl ?_
  refine ga_getr (b := 120) hm_139 rfl sc_331 rfl ?_
  refine ga_getr (b := 123) hm_139 rfl sc_120 rfl ?_
  refine ga_aload_n (v := .ref 331) hm_139 rfl rfl rfl ?_
  refine ga_getr (b := 120) hm_139 rfl sc_331 rfl ?_
  have e9_ : F5_ 120 4 = F 120 4 := (s7_ 120 4 rfl).trans (rfl)
  have b10_ : -9223372036854775808 ≤ F 120 4 ∧ F 120 4 ≤ 9223372036854775807 := gi_g hgi rfl
  refine ga_getl (z := F 120 4) hm_139 rfl sc_120 rfl ((fl_u_ne (by first | exact nc_ rfl | decide | omega)).trans ((fl_u_ne (by first | exact nc_ rfl | decide | omega)).trans (e9_))) ?_
  refine gIi (nY := 3) (F := 0) (L := 0) (As := [.long (Int64.ofInt (F 120 4))]) (b := 123) (rest := []) hm_139 rfl hm_115 rfl rfl (fl_ob sc_123) rfl rfl rfl rfl rfl (by omega) (by omega) ?_
  intro f11_ l12_ h13_ h14_
  show fl_R xi_ms 115 f11_ l12_ 0 [(0, .ref 123), (1, .long (Int64.ofInt (F 120 4)))] [] _ _
  refine ga_aload_n (v := .ref 123) hm_115 rfl rfl rfl ?_
  have e15_ : F5_ 123 2 = F 123 2 := (s7_ 123 2 rfl).trans (rfl)
  have b16_ : 0 ≤ F 123 2 ∧ F 123 2 ≤ 1 := gi_g hgi rfl
  refine ga_geti (z := F 123 2) hm_115 rfl sc_123 rfl ((fl_u_ne (by first | exact nc_ rfl | decide | omega)).trans ((fl_u_ne (by first | exact nc_ rfl | decide | omega)).trans (e15_))) ?_
  refine fl_if_eq (a := F 123 2) hm_115 rfl ⟨by omega, by omega⟩ (fun h17_ => ?_) (fun h18_ => ?_)
  ·
    refine fl_iconst hm_115 rfl ?_
    refine gr_i hm_115 rfl rfl (ga_nb (by omega)) ?_
    clear h13_ h14_ f11_ l12_
    refine fl_if_eq hm_139 rfl ⟨by omega, by omega⟩ (fun _ => ?_) (fun h => absurd (by omega) h)
    refine ga_aload_n (v := .ref 331) hm_139 rfl rfl rfl ?_
    refine ga_aload_n (v := .ref 331) hm_139 rfl rfl rfl ?_
    refine ga_aload_n (v := .ref 331) hm_139 rfl rfl rfl ?_
    refine ga_getr (b := 120) hm_139 rfl sc_331 rfl ?_
    refine ga_getl (z := F 120 4) hm_139 rfl sc_120 rfl ((fl_u_ne (by first | exact nc_ rfl | decide | omega)).trans ((fl_u_ne (by first | exact nc_ rfl | decide | omega)).trans (e9_))) ?_
    obtain ⟨F19_, q20_⟩ : ∃ Fq_, Fq_ = (fl_u (fl_u F5_ 331 9 mo) 331 12 0) := ⟨_, rfl⟩
    rw [← q20_]
    have g21_ : gi F19_ := by rw [q20_]; exact gi_u (gi_u (g6_) rfl (by omega) (by omega)) rfl (by omega) (by omega)
    have g22_ : fs [(331, 331, 8, 12), (332, 339, 0, 100000)] F F19_ := by rw [q20_]; exact fs_u (fs_u (g8_) rfl) rfl
    refine gVi (nY := 5) (F := 0) (L := 0) (As := [.long (Int64.ofInt (F 120 4))]) (b := 331) (rest := [.ref 331]) hm_139 rfl hm_142 rfl rfl (fl_ob sc_331) rfl rfl rfl rfl rfl (by omega) (by omega) (mc_142 hG F19_ X g21_ (F 120 4) (⟨by omega, by omega⟩)) (fun _ _ h => False.elim h) ?_
    rintro z23_ A1_ ⟨hA_, c24_⟩
    subst hA_
    refine ga_aload_n (v := .ref 331) hm_139 rfl rfl rfl ?_
    refine ga_getr (b := 120) hm_139 rfl sc_331 rfl ?_
    have e25_ : F19_ 120 4 = F 120 4 := by rw [q20_]; exact (fl_u_ne (by first | exact nc_ rfl | decide | omega)).trans ((fl_u_ne (by first | exact nc_ rfl | decide | omega)).trans (e9_))
    refine ga_getl (z := F 120 4) hm_139 rfl sc_120 rfl (e25_) ?_
    refine fl_iconst hm_139 rfl ?_
    have e26_ : F19_ 331 8 = F5_ 331 8 := by rw [q20_]; exact (fl_u_ne (by first | exact nc_ rfl | decide | omega)).trans (fl_u_ne (by first | exact nc_ rfl | decide | omega))
    have b27_ : 0 ≤ F5_ 331 8 ∧ F5_ 331 8 ≤ 200 := gi_g g6_ rfl
    refine gVv (nY := 5) (F := 1) (L := 25) (As := [.int (Int32.ofInt z23_), .long (Int64.ofInt (F 120 4)), .int (Int32.ofInt 0)]) (b := 331) (rest := []) hm_139 rfl hm_129 rfl rfl (fl_ob sc_331) rfl rfl rfl rfl rfl (by omega) (by omega) (mc_129 hG F19_ X g21_ (z23_) (F 120 4) (0) (⟨by omega, by omega⟩) (⟨by omega, by omega⟩) (⟨by omega, by omega⟩) (by omega)) (fun _ _ h => False.elim h) ?_
    rintro A1_ ⟨F32_, hA_, g33_, s34_, c29_, c30_, c31_⟩
    subst hA_
    have g35_ : fs [(331, 331, 8, 12), (332, 339, 0, 100000)] F F32_ := fs_tr g22_ s34_ rfl
    try simp only [e26_] at c29_
    try simp only [e26_] at c30_
    try simp only [e26_] at c31_
    refine fl_iconst hm_139 rfl ?_
    refine ga_istore_n (lv2 := [(2, .int (Int32.ofInt 0)), (0, .ref 331), (1, .int (Int32.ofInt mo))]) hm_139 rfl (Nat.le_of_ble_eq_true rfl) rfl ?_
    have L37_ : ∀ (n36_ : Nat) (k : Int) (F1 : fl_N), (1001 - k : Int).toNat = n36_ → (gi F1) → (fs [(331, 331, 8, 12), (332, 339, 0, 100000)] F32_ F1) → (0 ≤ k ∧ k ≤ 1001) → (li F1) → fl_R xi_ms 139 fr lo 74 [(2, .int (Int32.ofInt k)), (0, .ref 331), (1, .int (Int32.ofInt mo))] [] (fl_H sh_T G F1 ++ X) (pq_139 G F X mo) := by
      intro n36_
      induction n36_ using Nat.strongRecOn with
      | ind n36_ ih38_ =>
      intro k F1 hn39_ hg_F1 hf_F1 hk hl1
      have g40_ : fs [(331, 331, 8, 12), (332, 339, 0, 100000)] F F1 := fs_tr g35_ hf_F1 rfl
      refine ga_iload_n (z := k) hm_139 rfl rfl ?_
      refine fl_sipush hm_139 rfl rfl ?_
      refine fl_icmp_gt (a := k) (b := 1000) hm_139 rfl ⟨by omega, by omega⟩ ⟨by omega, by omega⟩ (fun h41_ => ?_) (fun h42_ => ?_)
      ·
        refine ga_aload_n (v := .ref 331) hm_139 rfl rfl rfl ?_
        have b43_ : 0 ≤ F1 331 11 ∧ F1 331 11 ≤ 1 := gi_g hg_F1 rfl
        refine ga_geti (z := F1 331 11) hm_139 rfl sc_331 rfl (rfl) ?_
        refine fl_if_eq (a := F1 331 11) hm_139 rfl ⟨by omega, by omega⟩ (fun h44_ => ?_) (fun h45_ => ?_)
        ·
          refine gr_v hm_139 rfl rfl ?_
          have b46_ : -2147483648 ≤ F1 335 200 ∧ F1 335 200 ≤ 2147483647 := gi_g hg_F1 rfl
          exact ⟨F1, rfl, hg_F1, g40_, ((hl1).2.2)⟩
        refine ga_aload_n (v := .ref 331) hm_139 rfl rfl rfl ?_
        refine fl_iconst hm_139 rfl ?_
        refine ga_putz (z := 0) hm_139 rfl sc_331 rfl rfl (by omega) ?_
        refine ga_aload_n (v := .ref 331) hm_139 rfl rfl rfl ?_
        obtain ⟨F47_, q48_⟩ : ∃ Fq_, Fq_ = (fl_u F1 331 10 0) := ⟨_, rfl⟩
        rw [← q48_]
        have g49_ : gi F47_ := by rw [q48_]; exact gi_u (hg_F1) rfl (by omega) (by omega)
        have g50_ : fs [(331, 331, 8, 12), (332, 339, 0, 100000)] F F47_ := by rw [q48_]; exact fs_u (g40_) rfl
        refine gVv (nY := 3) (F := 0) (L := 0) (As := []) (b := 331) (rest := []) hm_139 rfl hm_143 rfl rfl (fl_ob sc_331) rfl rfl rfl rfl rfl (by omega) (by omega) (mc_143 hG F47_ X g49_ (by have h9_ := hl1.2.2 (by omega); rw [(show F47_ 335 200 = F1 335 200 from (by rw [q48_]; exact (fl_u_ne (by first | exact nc_ rfl | decide | omega))))]; exact h9_)) (fun _ _ h => False.elim h) ?_
        rintro A1_ ⟨F52_, hA_, g53_, s54_⟩
        subst hA_
        have g55_ : fs [(331, 331, 8, 12), (332, 339, 0, 100000)] F F52_ := fs_tr g50_ s54_ rfl
        refine gr_v hm_139 rfl rfl ?_
        have e56_ : F47_ 331 11 = F1 331 11 := by rw [q48_]; exact fl_u_ne (by first | exact nc_ rfl | decide | omega)
        have e57_ : F52_ 331 11 = F1 331 11 := (s54_ 331 11 rfl).trans (e56_)
        have e58_ : F47_ 335 200 = F1 335 200 := by rw [q48_]; exact fl_u_ne (by first | exact nc_ rfl | decide | omega)
        have e59_ : F52_ 335 200 = F1 335 200 := (s54_ 335 200 rfl).trans (e58_)
        have b60_ : -2147483648 ≤ F1 335 200 ∧ F1 335 200 ≤ 2147483647 := gi_g hg_F1 rfl
        exact ⟨F52_, rfl, g53_, g55_, ((li_cg hl1 ((Eq.trans (a := F52_ 331 8) (b := F47_ 331 8) (s54_ 331 8 (by first | exact fs_c rfl | exact (fs_n (by omega) rfl))) (show F47_ 331 8 = F1 331 8 from (by rw [q48_]; exact (fl_u_ne (by first | exact nc_ rfl | decide | omega)))))) ((Eq.trans (a := F52_ 331 11) (b := F47_ 331 11) (s54_ 331 11 (by first | exact fs_c rfl | exact (fs_n (by omega) rfl))) (show F47_ 331 11 = F1 331 11 from (by rw [q48_]; exact (fl_u_ne (by first | exact nc_ rfl | decide | omega)))))) (fun i => (Eq.trans (a := F52_ 335 i) (b := F47_ 335 i) (s54_ 335 i (by first | exact fs_c rfl | exact (fs_n (by omega) rfl))) (show F47_ 335 i = F1 335 i from (by rw [q48_]; exact (fl_u_ne (by first | exact nc_ rfl | decide | omega))))))).2.2)⟩
      refine ga_aload_n (v := .ref 331) hm_139 rfl rfl rfl ?_
      have b61_ : 0 ≤ F1 331 11 ∧ F1 331 11 ≤ 1 := gi_g hg_F1 rfl
      refine ga_geti (z := F1 331 11) hm_139 rfl sc_331 rfl (rfl) ?_
      refine fx_if_ne (a := F1 331 11) hm_139 rfl ⟨by omega, by omega⟩ (fun h62_ => ?_) (fun h63_ => ?_)
      ·
        refine ga_aload_n (v := .ref 331) hm_139 rfl rfl rfl ?_
        refine ga_geti (z := F1 331 11) hm_139 rfl sc_331 rfl (rfl) ?_
        refine fl_if_eq (a := F1 331 11) hm_139 rfl ⟨by omega, by omega⟩ (fun h64_ => ?_) (fun h65_ => ?_)
        · exfalso; omega
        refine ga_aload_n (v := .ref 331) hm_139 rfl rfl rfl ?_
        refine fl_iconst hm_139 rfl ?_
        refine ga_putz (z := 0) hm_139 rfl sc_331 rfl rfl (by omega) ?_
        refine ga_aload_n (v := .ref 331) hm_139 rfl rfl rfl ?_
        obtain ⟨F66_, q67_⟩ : ∃ Fq_, Fq_ = (fl_u F1 331 10 0) := ⟨_, rfl⟩
        rw [← q67_]
        have g68_ : gi F66_ := by rw [q67_]; exact gi_u (hg_F1) rfl (by omega) (by omega)
        have g69_ : fs [(331, 331, 8, 12), (332, 339, 0, 100000)] F F66_ := by rw [q67_]; exact fs_u (g40_) rfl
        refine gVv (nY := 3) (F := 0) (L := 0) (As := []) (b := 331) (rest := []) hm_139 rfl hm_143 rfl rfl (fl_ob sc_331) rfl rfl rfl rfl rfl (by omega) (by omega) (mc_143 hG F66_ X g68_ (by have h9_ := hl1.2.2 (by omega); rw [(show F66_ 335 200 = F1 335 200 from (by rw [q67_]; exact (fl_u_ne (by first | exact nc_ rfl | decide | omega))))]; exact h9_)) (fun _ _ h => False.elim h) ?_
        rintro A1_ ⟨F71_, hA_, g72_, s73_⟩
        subst hA_
        have g74_ : fs [(331, 331, 8, 12), (332, 339, 0, 100000)] F F71_ := fs_tr g69_ s73_ rfl
        refine gr_v hm_139 rfl rfl ?_
        have e75_ : F66_ 331 11 = F1 331 11 := by rw [q67_]; exact fl_u_ne (by first | exact nc_ rfl | decide | omega)
        have e76_ : F71_ 331 11 = F1 331 11 := (s73_ 331 11 rfl).trans (e75_)
        have e77_ : F66_ 335 200 = F1 335 200 := by rw [q67_]; exact fl_u_ne (by first | exact nc_ rfl | decide | omega)
        have e78_ : F71_ 335 200 = F1 335 200 := (s73_ 335 200 rfl).trans (e77_)
        have b79_ : -2147483648 ≤ F1 335 200 ∧ F1 335 200 ≤ 2147483647 := gi_g hg_F1 rfl
        exact ⟨F71_, rfl, g72_, g74_, ((li_cg hl1 ((Eq.trans (a := F71_ 331 8) (b := F66_ 331 8) (s73_ 331 8 (by first | exact fs_c rfl | exact (fs_n (by omega) rfl))) (show F66_ 331 8 = F1 331 8 from (by rw [q67_]; exact (fl_u_ne (by first | exact nc_ rfl | decide | omega)))))) ((Eq.trans (a := F71_ 331 11) (b := F66_ 331 11) (s73_ 331 11 (by first | exact fs_c rfl | exact (fs_n (by omega) rfl))) (show F66_ 331 11 = F1 331 11 from (by rw [q67_]; exact (fl_u_ne (by first | exact nc_ rfl | decide | omega)))))) (fun i => (Eq.trans (a := F71_ 335 i) (b := F66_ 335 i) (s73_ 335 i (by first | exact fs_c rfl | exact (fs_n (by omega) rfl))) (show F66_ 335 i = F1 335 i from (by rw [q67_]; exact (fl_u_ne (by first | exact nc_ rfl | decide | omega))))))).2.2)⟩
      refine ga_aload_n (v := .ref 331) hm_139 rfl rfl rfl ?_
      have b80_ : 0 ≤ F1 331 10 ∧ F1 331 10 ≤ 1 := gi_g hg_F1 rfl
      refine ga_geti (z := F1 331 10) hm_139 rfl sc_331 rfl (rfl) ?_
      refine fx_if_ne (a := F1 331 10) hm_139 rfl ⟨by omega, by omega⟩ (fun h81_ => ?_) (fun h82_ => ?_)
      ·
        refine ga_aload_n (v := .ref 331) hm_139 rfl rfl rfl ?_
        refine ga_geti (z := F1 331 11) hm_139 rfl sc_331 rfl (rfl) ?_
        refine fl_if_eq (a := F1 331 11) hm_139 rfl ⟨by omega, by omega⟩ (fun h83_ => ?_) (fun h84_ => ?_)
        ·
          refine gr_v hm_139 rfl rfl ?_
          have b85_ : -2147483648 ≤ F1 335 200 ∧ F1 335 200 ≤ 2147483647 := gi_g hg_F1 rfl
          exact ⟨F1, rfl, hg_F1, g40_, ((hl1).2.2)⟩
        exfalso; omega
      refine ga_aload_n (v := .ref 331) hm_139 rfl rfl rfl ?_
      refine ga_aload_n (v := .ref 331) hm_139 rfl rfl rfl ?_
      refine gVi (nY := 3) (F := 1) (L := 21) (As := []) (b := 331) (rest := [.ref 331]) hm_139 rfl hm_138 rfl rfl (fl_ob sc_331) rfl rfl rfl rfl rfl (by omega) (by omega) (mc_138 hG F1 X hg_F1) (fun _ _ h => False.elim h) ?_
      rintro z86_ A1_ ⟨hA_, c87_⟩
      subst hA_
      refine ga_puti (z := z86_) hm_139 rfl sc_331 rfl rfl ?_
      refine ga_aload_n (v := .ref 331) hm_139 rfl rfl rfl ?_
      refine ga_geti (z := z86_) hm_139 rfl sc_331 rfl (fl_u_eq) ?_
      refine ga_ldci (z := 2147483647) hm_139 rfl (by decide) ?_
      refine fx_icmp_ne (a := z86_) (b := 2147483647) hm_139 rfl ⟨by omega, by omega⟩ ⟨by omega, by omega⟩ (fun h88_ => ?_) (fun h89_ => ?_)
      ·
        refine ga_aload_n (v := .ref 331) hm_139 rfl rfl rfl ?_
        obtain ⟨F90_, q91_⟩ : ∃ Fq_, Fq_ = (fl_u F1 331 12 z86_) := ⟨_, rfl⟩
        rw [← q91_]
        have g92_ : gi F90_ := by rw [q91_]; exact gi_u (hg_F1) rfl (by omega) (by omega)
        have g93_ : fs [(331, 331, 8, 12), (332, 339, 0, 100000)] F F90_ := by rw [q91_]; exact fs_u (g40_) rfl
        refine gVv (nY := 3) (F := 4) (L := 101) (As := []) (b := 331) (rest := []) hm_139 rfl hm_134 rfl rfl (fl_ob sc_331) rfl rfl rfl rfl rfl (by omega) (by omega) (mc_134 hG F90_ X g92_ (li_cg hl1 ((show F90_ 331 8 = F1 331 8 from (by rw [q91_]; exact (fl_u_ne (by first | exact nc_ rfl | decide | omega))))) ((show F90_ 331 11 = F1 331 11 from (by rw [q91_]; exact (fl_u_ne (by first | exact nc_ rfl | decide | omega))))) (fun i => (show F90_ 335 i = F1 335 i from (by rw [q91_]; exact (fl_u_ne (by first | exact nc_ rfl | decide | omega))))))) (fun _ _ h => False.elim h) ?_
        have e95_ : F90_ 331 8 = F1 331 8 := by rw [q91_]; exact fl_u_ne (by first | exact nc_ rfl | decide | omega)
        have b96_ : 0 ≤ F1 331 8 ∧ F1 331 8 ≤ 200 := gi_g hg_F1 rfl
        rintro A1_ ⟨F99_, hA_, g100_, s101_, c97_, c98_⟩
        subst hA_
        have g102_ : fs [(331, 331, 8, 12), (332, 339, 0, 100000)] F F99_ := fs_tr g93_ s101_ rfl
        try simp only [e95_] at c98_
        refine ga_inc (a := k) (c := k + 1) (lv2 := [(2, .int (Int32.ofInt (k + 1))), (0, .ref 331), (1, .int (Int32.ofInt mo))]) hm_139 rfl rfl (Nat.le_of_ble_eq_true rfl) rfl rfl ?_
        refine fl_goto hm_139 rfl ?_
        exact ih38_ _ (by omega) (k + 1) F99_ rfl g100_ (fs_tr (by rw [q91_]; exact fs_u (hf_F1) rfl) s101_ rfl) (⟨by omega, by omega⟩) (c97_)
      obtain ⟨F103_, q104_⟩ : ∃ Fq_, Fq_ = (fl_u F1 331 12 z86_) := ⟨_, rfl⟩
      rw [← q104_]
      have g105_ : gi F103_ := by rw [q104_]; exact gi_u (hg_F1) rfl (by omega) (by omega)
      have g106_ : fs [(331, 331, 8, 12), (332, 339, 0, 100000)] F F103_ := by rw [q104_]; exact fs_u (g40_) rfl
      refine gr_v hm_139 rfl rfl ?_
      have e107_ : F103_ 331 11 = F1 331 11 := by rw [q104_]; exact fl_u_ne (by first | exact nc_ rfl | decide | omega)
      have e108_ : F103_ 335 200 = F1 335 200 := by rw [q104_]; exact fl_u_ne (by first | exact nc_ rfl | decide | omega)
      have b109_ : -2147483648 ≤ F1 335 200 ∧ F1 335 200 ≤ 2147483647 := gi_g hg_F1 rfl
      exact ⟨F103_, rfl, g105_, g106_, ((li_cg hl1 ((show F103_ 331 8 = F1 331 8 from (by rw [q104_]; exact (fl_u_ne (by first | exact nc_ rfl | decide | omega))))) ((show F103_ 331 11 = F1 331 11 from (by rw [q104_]; exact (fl_u_ne (by first | exact nc_ rfl | decide | omega))))) (fun i => (show F103_ 335 i = F1 335 i from (by rw [q104_]; exact (fl_u_ne (by first | exact nc_ rfl | decide | omega)))))).2.2)⟩
    exact L37_ _ (0) F32_ rfl g33_ fs_refl (⟨by omega, by omega⟩) (li_0 (F := F19_) (by first | exact c2_ | exact (Eq.trans ((show F19_ 331 8 = F5_ 331 8 from (by rw [q20_]; exact (fl_u_ne (by first | exact nc_ rfl | decide | omega)).trans ((fl_u_ne (by first | exact nc_ rfl | decide | omega)))))) c2_)) (Eq.trans ((show F19_ 331 11 = F5_ 331 11 from (by rw [q20_]; exact (fl_u_ne (by first | exact nc_ rfl | decide | omega)).trans ((fl_u_ne (by first | exact nc_ rfl | decide | omega)))))) c3_) (Eq.trans ((show F19_ 335 200 = F5_ 335 200 from (by rw [q20_]; exact (fl_u_ne (by first | exact nc_ rfl | decide | omega)).trans ((fl_u_ne (by first | exact nc_ rfl | decide | omega)))))) c4_) c29_ c30_ c31_ ((show F32_ 331 11 = F19_ 331 11 from (s34_ 331 11 (by first | exact fs_c rfl | exact (fs_n (by omega) (fs_n (by omega) (fs_n (by omega) rfl))))))))
  refine ga_lload_n (z := F 120 4) hm_115 rfl rfl ?_
  refine ga_aload_n (v := .ref 123) hm_115 rfl rfl rfl ?_
  have e110_ : F5_ 123 0 = F 123 0 := (s7_ 123 0 rfl).trans (rfl)
  have b111_ : -9223372036854775808 ≤ F 123 0 ∧ F 123 0 ≤ 9223372036854775807 := gi_g hgi rfl
  refine ga_getl (z := F 123 0) hm_115 rfl sc_123 rfl ((fl_u_ne (by first | exact nc_ rfl | decide | omega)).trans ((fl_u_ne (by first | exact nc_ rfl | decide | omega)).trans (e110_))) ?_
  refine ga_lany hm_115 rfl rfl rfl (fun z112_ ⟨h113_, h114_⟩ => ?_)
  refine ga_aload_n (v := .ref 123) hm_115 rfl rfl rfl ?_
  refine ga_getl (z := F 123 0) hm_115 rfl sc_123 rfl ((fl_u_ne (by first | exact nc_ rfl | decide | omega)).trans ((fl_u_ne (by first | exact nc_ rfl | decide | omega)).trans (e110_))) ?_
  refine ga_lcmpn (a := z112_) (b := F 123 0) hm_115 rfl rfl ⟨by omega, by omega⟩ ⟨by omega, by omega⟩ (fun h115_ => ?_) (fun h116_ => ?_)
  ·
    refine fl_iconst hm_115 rfl ?_
    refine gr_i hm_115 rfl rfl (ga_nb (by omega)) ?_
    clear h13_ h14_ f11_ l12_
    refine fl_if_eq hm_139 rfl ⟨by omega, by omega⟩ (fun _ => ?_) (fun h => absurd (by omega) h)
    refine ga_aload_n (v := .ref 331) hm_139 rfl rfl rfl ?_
    refine ga_aload_n (v := .ref 331) hm_139 rfl rfl rfl ?_
    refine ga_aload_n (v := .ref 331) hm_139 rfl rfl rfl ?_
    refine ga_getr (b := 120) hm_139 rfl sc_331 rfl ?_
    refine ga_getl (z := F 120 4) hm_139 rfl sc_120 rfl ((fl_u_ne (by first | exact nc_ rfl | decide | omega)).trans ((fl_u_ne (by first | exact nc_ rfl | decide | omega)).trans (e9_))) ?_
    obtain ⟨F117_, q118_⟩ : ∃ Fq_, Fq_ = (fl_u (fl_u F5_ 331 9 mo) 331 12 0) := ⟨_, rfl⟩
    rw [← q118_]
    have g119_ : gi F117_ := by rw [q118_]; exact gi_u (gi_u (g6_) rfl (by omega) (by omega)) rfl (by omega) (by omega)
    have g120_ : fs [(331, 331, 8, 12), (332, 339, 0, 100000)] F F117_ := by rw [q118_]; exact fs_u (fs_u (g8_) rfl) rfl
    refine gVi (nY := 5) (F := 0) (L := 0) (As := [.long (Int64.ofInt (F 120 4))]) (b := 331) (rest := [.ref 331]) hm_139 rfl hm_142 rfl rfl (fl_ob sc_331) rfl rfl rfl rfl rfl (by omega) (by omega) (mc_142 hG F117_ X g119_ (F 120 4) (⟨by omega, by omega⟩)) (fun _ _ h => False.elim h) ?_
    rintro z121_ A1_ ⟨hA_, c122_⟩
    subst hA_
    refine ga_aload_n (v := .ref 331) hm_139 rfl rfl rfl ?_
    refine ga_getr (b := 120) hm_139 rfl sc_331 rfl ?_
    have e123_ : F117_ 120 4 = F 120 4 := by rw [q118_]; exact (fl_u_ne (by first | exact nc_ rfl | decide | omega)).trans ((fl_u_ne (by first | exact nc_ rfl | decide | omega)).trans (e9_))
    refine ga_getl (z := F 120 4) hm_139 rfl sc_120 rfl (e123_) ?_
    refine fl_iconst hm_139 rfl ?_
    have e124_ : F117_ 331 8 = F5_ 331 8 := by rw [q118_]; exact (fl_u_ne (by first | exact nc_ rfl | decide | omega)).trans (fl_u_ne (by first | exact nc_ rfl | decide | omega))
    have b125_ : 0 ≤ F5_ 331 8 ∧ F5_ 331 8 ≤ 200 := gi_g g6_ rfl
    refine gVv (nY := 5) (F := 1) (L := 25) (As := [.int (Int32.ofInt z121_), .long (Int64.ofInt (F 120 4)), .int (Int32.ofInt 0)]) (b := 331) (rest := []) hm_139 rfl hm_129 rfl rfl (fl_ob sc_331) rfl rfl rfl rfl rfl (by omega) (by omega) (mc_129 hG F117_ X g119_ (z121_) (F 120 4) (0) (⟨by omega, by omega⟩) (⟨by omega, by omega⟩) (⟨by omega, by omega⟩) (by omega)) (fun _ _ h => False.elim h) ?_
    rintro A1_ ⟨F130_, hA_, g131_, s132_, c127_, c128_, c129_⟩
    subst hA_
    have g133_ : fs [(331, 331, 8, 12), (332, 339, 0, 100000)] F F130_ := fs_tr g120_ s132_ rfl
    try simp only [e124_] at c127_
    try simp only [e124_] at c128_
    try simp only [e124_] at c129_
    refine fl_iconst hm_139 rfl ?_
    refine ga_istore_n (lv2 := [(2, .int (Int32.ofInt 0)), (0, .ref 331), (1, .int (Int32.ofInt mo))]) hm_139 rfl (Nat.le_of_ble_eq_true rfl) rfl ?_
    have L135_ : ∀ (n134_ : Nat) (k : Int) (F1 : fl_N), (1001 - k : Int).toNat = n134_ → (gi F1) → (fs [(331, 331, 8, 12), (332, 339, 0, 100000)] F130_ F1) → (0 ≤ k ∧ k ≤ 1001) → (li F1) → fl_R xi_ms 139 fr lo 74 [(2, .int (Int32.ofInt k)), (0, .ref 331), (1, .int (Int32.ofInt mo))] [] (fl_H sh_T G F1 ++ X) (pq_139 G F X mo) := by
      intro n134_
      induction n134_ using Nat.strongRecOn with
      | ind n134_ ih136_ =>
      intro k F1 hn137_ hg_F1 hf_F1 hk hl1
      have g138_ : fs [(331, 331, 8, 12), (332, 339, 0, 100000)] F F1 := fs_tr g133_ hf_F1 rfl
      refine ga_iload_n (z := k) hm_139 rfl rfl ?_
      refine fl_sipush hm_139 rfl rfl ?_
      refine fl_icmp_gt (a := k) (b := 1000) hm_139 rfl ⟨by omega, by omega⟩ ⟨by omega, by omega⟩ (fun h139_ => ?_) (fun h140_ => ?_)
      ·
        refine ga_aload_n (v := .ref 331) hm_139 rfl rfl rfl ?_
        have b141_ : 0 ≤ F1 331 11 ∧ F1 331 11 ≤ 1 := gi_g hg_F1 rfl
        refine ga_geti (z := F1 331 11) hm_139 rfl sc_331 rfl (rfl) ?_
        refine fl_if_eq (a := F1 331 11) hm_139 rfl ⟨by omega, by omega⟩ (fun h142_ => ?_) (fun h143_ => ?_)
        ·
          refine gr_v hm_139 rfl rfl ?_
          have b144_ : -2147483648 ≤ F1 335 200 ∧ F1 335 200 ≤ 2147483647 := gi_g hg_F1 rfl
          exact ⟨F1, rfl, hg_F1, g138_, ((hl1).2.2)⟩
        refine ga_aload_n (v := .ref 331) hm_139 rfl rfl rfl ?_
        refine fl_iconst hm_139 rfl ?_
        refine ga_putz (z := 0) hm_139 rfl sc_331 rfl rfl (by omega) ?_
        refine ga_aload_n (v := .ref 331) hm_139 rfl rfl rfl ?_
        obtain ⟨F145_, q146_⟩ : ∃ Fq_, Fq_ = (fl_u F1 331 10 0) := ⟨_, rfl⟩
        rw [← q146_]
        have g147_ : gi F145_ := by rw [q146_]; exact gi_u (hg_F1) rfl (by omega) (by omega)
        have g148_ : fs [(331, 331, 8, 12), (332, 339, 0, 100000)] F F145_ := by rw [q146_]; exact fs_u (g138_) rfl
        refine gVv (nY := 3) (F := 0) (L := 0) (As := []) (b := 331) (rest := []) hm_139 rfl hm_143 rfl rfl (fl_ob sc_331) rfl rfl rfl rfl rfl (by omega) (by omega) (mc_143 hG F145_ X g147_ (by have h9_ := hl1.2.2 (by omega); rw [(show F145_ 335 200 = F1 335 200 from (by rw [q146_]; exact (fl_u_ne (by first | exact nc_ rfl | decide | omega))))]; exact h9_)) (fun _ _ h => False.elim h) ?_
        rintro A1_ ⟨F150_, hA_, g151_, s152_⟩
        subst hA_
        have g153_ : fs [(331, 331, 8, 12), (332, 339, 0, 100000)] F F150_ := fs_tr g148_ s152_ rfl
        refine gr_v hm_139 rfl rfl ?_
        have e154_ : F145_ 331 11 = F1 331 11 := by rw [q146_]; exact fl_u_ne (by first | exact nc_ rfl | decide | omega)
        have e155_ : F150_ 331 11 = F1 331 11 := (s152_ 331 11 rfl).trans (e154_)
        have e156_ : F145_ 335 200 = F1 335 200 := by rw [q146_]; exact fl_u_ne (by first | exact nc_ rfl | decide | omega)
        have e157_ : F150_ 335 200 = F1 335 200 := (s152_ 335 200 rfl).trans (e156_)
        have b158_ : -2147483648 ≤ F1 335 200 ∧ F1 335 200 ≤ 2147483647 := gi_g hg_F1 rfl
        exact ⟨F150_, rfl, g151_, g153_, ((li_cg hl1 ((Eq.trans (a := F150_ 331 8) (b := F145_ 331 8) (s152_ 331 8 (by first | exact fs_c rfl | exact (fs_n (by omega) rfl))) (show F145_ 331 8 = F1 331 8 from (by rw [q146_]; exact (fl_u_ne (by first | exact nc_ rfl | decide | omega)))))) ((Eq.trans (a := F150_ 331 11) (b := F145_ 331 11) (s152_ 331 11 (by first | exact fs_c rfl | exact (fs_n (by omega) rfl))) (show F145_ 331 11 = F1 331 11 from (by rw [q146_]; exact (fl_u_ne (by first | exact nc_ rfl | decide | omega)))))) (fun i => (Eq.trans (a := F150_ 335 i) (b := F145_ 335 i) (s152_ 335 i (by first | exact fs_c rfl | exact (fs_n (by omega) rfl))) (show F145_ 335 i = F1 335 i from (by rw [q146_]; exact (fl_u_ne (by first | exact nc_ rfl | decide | omega))))))).2.2)⟩
      refine ga_aload_n (v := .ref 331) hm_139 rfl rfl rfl ?_
      have b159_ : 0 ≤ F1 331 11 ∧ F1 331 11 ≤ 1 := gi_g hg_F1 rfl
      refine ga_geti (z := F1 331 11) hm_139 rfl sc_331 rfl (rfl) ?_
      refine fx_if_ne (a := F1 331 11) hm_139 rfl ⟨by omega, by omega⟩ (fun h160_ => ?_) (fun h161_ => ?_)
      ·
        refine ga_aload_n (v := .ref 331) hm_139 rfl rfl rfl ?_
        refine ga_geti (z := F1 331 11) hm_139 rfl sc_331 rfl (rfl) ?_
        refine fl_if_eq (a := F1 331 11) hm_139 rfl ⟨by omega, by omega⟩ (fun h162_ => ?_) (fun h163_ => ?_)
        · exfalso; omega
        refine ga_aload_n (v := .ref 331) hm_139 rfl rfl rfl ?_
        refine fl_iconst hm_139 rfl ?_
        refine ga_putz (z := 0) hm_139 rfl sc_331 rfl rfl (by omega) ?_
        refine ga_aload_n (v := .ref 331) hm_139 rfl rfl rfl ?_
        obtain ⟨F164_, q165_⟩ : ∃ Fq_, Fq_ = (fl_u F1 331 10 0) := ⟨_, rfl⟩
        rw [← q165_]
        have g166_ : gi F164_ := by rw [q165_]; exact gi_u (hg_F1) rfl (by omega) (by omega)
        have g167_ : fs [(331, 331, 8, 12), (332, 339, 0, 100000)] F F164_ := by rw [q165_]; exact fs_u (g138_) rfl
        refine gVv (nY := 3) (F := 0) (L := 0) (As := []) (b := 331) (rest := []) hm_139 rfl hm_143 rfl rfl (fl_ob sc_331) rfl rfl rfl rfl rfl (by omega) (by omega) (mc_143 hG F164_ X g166_ (by have h9_ := hl1.2.2 (by omega); rw [(show F164_ 335 200 = F1 335 200 from (by rw [q165_]; exact (fl_u_ne (by first | exact nc_ rfl | decide | omega))))]; exact h9_)) (fun _ _ h => False.elim h) ?_
        rintro A1_ ⟨F169_, hA_, g170_, s171_⟩
        subst hA_
        have g172_ : fs [(331, 331, 8, 12), (332, 339, 0, 100000)] F F169_ := fs_tr g167_ s171_ rfl
        refine gr_v hm_139 rfl rfl ?_
        have e173_ : F164_ 331 11 = F1 331 11 := by rw [q165_]; exact fl_u_ne (by first | exact nc_ rfl | decide | omega)
        have e174_ : F169_ 331 11 = F1 331 11 := (s171_ 331 11 rfl).trans (e173_)
        have e175_ : F164_ 335 200 = F1 335 200 := by rw [q165_]; exact fl_u_ne (by first | exact nc_ rfl | decide | omega)
        have e176_ : F169_ 335 200 = F1 335 200 := (s171_ 335 200 rfl).trans (e175_)
        have b177_ : -2147483648 ≤ F1 335 200 ∧ F1 335 200 ≤ 2147483647 := gi_g hg_F1 rfl
        exact ⟨F169_, rfl, g170_, g172_, ((li_cg hl1 ((Eq.trans (a := F169_ 331 8) (b := F164_ 331 8) (s171_ 331 8 (by first | exact fs_c rfl | exact (fs_n (by omega) rfl))) (show F164_ 331 8 = F1 331 8 from (by rw [q165_]; exact (fl_u_ne (by first | exact nc_ rfl | decide | omega)))))) ((Eq.trans (a := F169_ 331 11) (b := F164_ 331 11) (s171_ 331 11 (by first | exact fs_c rfl | exact (fs_n (by omega) rfl))) (show F164_ 331 11 = F1 331 11 from (by rw [q165_]; exact (fl_u_ne (by first | exact nc_ rfl | decide | omega)))))) (fun i => (Eq.trans (a := F169_ 335 i) (b := F164_ 335 i) (s171_ 335 i (by first | exact fs_c rfl | exact (fs_n (by omega) rfl))) (show F164_ 335 i = F1 335 i from (by rw [q165_]; exact (fl_u_ne (by first | exact nc_ rfl | decide | omega))))))).2.2)⟩
      refine ga_aload_n (v := .ref 331) hm_139 rfl rfl rfl ?_
      have b178_ : 0 ≤ F1 331 10 ∧ F1 331 10 ≤ 1 := gi_g hg_F1 rfl
      refine ga_geti (z := F1 331 10) hm_139 rfl sc_331 rfl (rfl) ?_
      refine fx_if_ne (a := F1 331 10) hm_139 rfl ⟨by omega, by omega⟩ (fun h179_ => ?_) (fun h180_ => ?_)
      ·
        refine ga_aload_n (v := .ref 331) hm_139 rfl rfl rfl ?_
        refine ga_geti (z := F1 331 11) hm_139 rfl sc_331 rfl (rfl) ?_
        refine fl_if_eq (a := F1 331 11) hm_139 rfl ⟨by omega, by omega⟩ (fun h181_ => ?_) (fun h182_ => ?_)
        ·
          refine gr_v hm_139 rfl rfl ?_
          have b183_ : -2147483648 ≤ F1 335 200 ∧ F1 335 200 ≤ 2147483647 := gi_g hg_F1 rfl
          exact ⟨F1, rfl, hg_F1, g138_, ((hl1).2.2)⟩
        exfalso; omega
      refine ga_aload_n (v := .ref 331) hm_139 rfl rfl rfl ?_
      refine ga_aload_n (v := .ref 331) hm_139 rfl rfl rfl ?_
      refine gVi (nY := 3) (F := 1) (L := 21) (As := []) (b := 331) (rest := [.ref 331]) hm_139 rfl hm_138 rfl rfl (fl_ob sc_331) rfl rfl rfl rfl rfl (by omega) (by omega) (mc_138 hG F1 X hg_F1) (fun _ _ h => False.elim h) ?_
      rintro z184_ A1_ ⟨hA_, c185_⟩
      subst hA_
      refine ga_puti (z := z184_) hm_139 rfl sc_331 rfl rfl ?_
      refine ga_aload_n (v := .ref 331) hm_139 rfl rfl rfl ?_
      refine ga_geti (z := z184_) hm_139 rfl sc_331 rfl (fl_u_eq) ?_
      refine ga_ldci (z := 2147483647) hm_139 rfl (by decide) ?_
      refine fx_icmp_ne (a := z184_) (b := 2147483647) hm_139 rfl ⟨by omega, by omega⟩ ⟨by omega, by omega⟩ (fun h186_ => ?_) (fun h187_ => ?_)
      ·
        refine ga_aload_n (v := .ref 331) hm_139 rfl rfl rfl ?_
        obtain ⟨F188_, q189_⟩ : ∃ Fq_, Fq_ = (fl_u F1 331 12 z184_) := ⟨_, rfl⟩
        rw [← q189_]
        have g190_ : gi F188_ := by rw [q189_]; exact gi_u (hg_F1) rfl (by omega) (by omega)
        have g191_ : fs [(331, 331, 8, 12), (332, 339, 0, 100000)] F F188_ := by rw [q189_]; exact fs_u (g138_) rfl
        refine gVv (nY := 3) (F := 4) (L := 101) (As := []) (b := 331) (rest := []) hm_139 rfl hm_134 rfl rfl (fl_ob sc_331) rfl rfl rfl rfl rfl (by omega) (by omega) (mc_134 hG F188_ X g190_ (li_cg hl1 ((show F188_ 331 8 = F1 331 8 from (by rw [q189_]; exact (fl_u_ne (by first | exact nc_ rfl | decide | omega))))) ((show F188_ 331 11 = F1 331 11 from (by rw [q189_]; exact (fl_u_ne (by first | exact nc_ rfl | decide | omega))))) (fun i => (show F188_ 335 i = F1 335 i from (by rw [q189_]; exact (fl_u_ne (by first | exact nc_ rfl | decide | omega))))))) (fun _ _ h => False.elim h) ?_
        have e193_ : F188_ 331 8 = F1 331 8 := by rw [q189_]; exact fl_u_ne (by first | exact nc_ rfl | decide | omega)
        have b194_ : 0 ≤ F1 331 8 ∧ F1 331 8 ≤ 200 := gi_g hg_F1 rfl
        rintro A1_ ⟨F197_, hA_, g198_, s199_, c195_, c196_⟩
        subst hA_
        have g200_ : fs [(331, 331, 8, 12), (332, 339, 0, 100000)] F F197_ := fs_tr g191_ s199_ rfl
        try simp only [e193_] at c196_
        refine ga_inc (a := k) (c := k + 1) (lv2 := [(2, .int (Int32.ofInt (k + 1))), (0, .ref 331), (1, .int (Int32.ofInt mo))]) hm_139 rfl rfl (Nat.le_of_ble_eq_true rfl) rfl rfl ?_
        refine fl_goto hm_139 rfl ?_
        exact ih136_ _ (by omega) (k + 1) F197_ rfl g198_ (fs_tr (by rw [q189_]; exact fs_u (hf_F1) rfl) s199_ rfl) (⟨by omega, by omega⟩) (c195_)
      obtain ⟨F201_, q202_⟩ : ∃ Fq_, Fq_ = (fl_u F1 331 12 z184_) := ⟨_, rfl⟩
      rw [← q202_]
      have g203_ : gi F201_ := by rw [q202_]; exact gi_u (hg_F1) rfl (by omega) (by omega)
      have g204_ : fs [(331, 331, 8, 12), (332, 339, 0, 100000)] F F201_ := by rw [q202_]; exact fs_u (g138_) rfl
      refine gr_v hm_139 rfl rfl ?_
      have e205_ : F201_ 331 11 = F1 331 11 := by rw [q202_]; exact fl_u_ne (by first | exact nc_ rfl | decide | omega)
      have e206_ : F201_ 335 200 = F1 335 200 := by rw [q202_]; exact fl_u_ne (by first | exact nc_ rfl | decide | omega)
      have b207_ : -2147483648 ≤ F1 335 200 ∧ F1 335 200 ≤ 2147483647 := gi_g hg_F1 rfl
      exact ⟨F201_, rfl, g203_, g204_, ((li_cg hl1 ((show F201_ 331 8 = F1 331 8 from (by rw [q202_]; exact (fl_u_ne (by first | exact nc_ rfl | decide | omega))))) ((show F201_ 331 11 = F1 331 11 from (by rw [q202_]; exact (fl_u_ne (by first | exact nc_ rfl | decide | omega))))) (fun i => (show F201_ 335 i = F1 335 i from (by rw [q202_]; exact (fl_u_ne (by first | exact nc_ rfl | decide | omega)))))).2.2)⟩
    exact L135_ _ (0) F130_ rfl g131_ fs_refl (⟨by omega, by omega⟩) (li_0 (F := F117_) (by first | exact c2_ | exact (Eq.trans ((show F117_ 331 8 = F5_ 331 8 from (by rw [q118_]; exact (fl_u_ne (by first | exact nc_ rfl | decide | omega)).trans ((fl_u_ne (by first | exact nc_ rfl | decide | omega)))))) c2_)) (Eq.trans ((show F117_ 331 11 = F5_ 331 11 from (by rw [q118_]; exact (fl_u_ne (by first | exact nc_ rfl | decide | omega)).trans ((fl_u_ne (by first | exact nc_ rfl | decide | omega)))))) c3_) (Eq.trans ((show F117_ 335 200 = F5_ 335 200 from (by rw [q118_]; exact (fl_u_ne (by first | exact nc_ rfl | decide | omega)).trans ((fl_u_ne (by first | exact nc_ rfl | decide | omega)))))) c4_) c127_ c128_ c129_ ((show F130_ 331 11 = F117_ 331 11 from (s132_ 331 11 (by first | exact fs_c rfl | exact (fs_n (by omega) (fs_n (by omega) (fs_n (by omega) rfl))))))))
  refine ga_lload_n (z := F 120 4) hm_115 rfl rfl ?_
  refine ga_aload_n (v := .ref 123) hm_115 rfl rfl rfl ?_
  have e208_ : F5_ 123 1 = F 123 1 := (s7_ 123 1 rfl).trans (rfl)
  have b209_ : -9223372036854775808 ≤ F 123 1 ∧ F 123 1 ≤ 9223372036854775807 := gi_g hgi rfl
  refine ga_getl (z := F 123 1) hm_115 rfl sc_123 rfl ((fl_u_ne (by first | exact nc_ rfl | decide | omega)).trans ((fl_u_ne (by first | exact nc_ rfl | decide | omega)).trans (e208_))) ?_
  refine ga_lany hm_115 rfl rfl rfl (fun z210_ ⟨h211_, h212_⟩ => ?_)
  refine ga_lconst (z := 0) hm_115 rfl rfl ?_
  refine ga_lcmpn (a := z210_) (b := 0) hm_115 rfl rfl ⟨by omega, by omega⟩ ⟨by omega, by omega⟩ (fun h213_ => ?_) (fun h214_ => ?_)
  ·
    refine fl_iconst hm_115 rfl ?_
    refine gr_i hm_115 rfl rfl (ga_nb (by omega)) ?_
    clear h13_ h14_ f11_ l12_
    refine fl_if_eq hm_139 rfl ⟨by omega, by omega⟩ (fun _ => ?_) (fun h => absurd (by omega) h)
    refine ga_aload_n (v := .ref 331) hm_139 rfl rfl rfl ?_
    refine ga_aload_n (v := .ref 331) hm_139 rfl rfl rfl ?_
    refine ga_aload_n (v := .ref 331) hm_139 rfl rfl rfl ?_
    refine ga_getr (b := 120) hm_139 rfl sc_331 rfl ?_
    refine ga_getl (z := F 120 4) hm_139 rfl sc_120 rfl ((fl_u_ne (by first | exact nc_ rfl | decide | omega)).trans ((fl_u_ne (by first | exact nc_ rfl | decide | omega)).trans (e9_))) ?_
    obtain ⟨F215_, q216_⟩ : ∃ Fq_, Fq_ = (fl_u (fl_u F5_ 331 9 mo) 331 12 0) := ⟨_, rfl⟩
    rw [← q216_]
    have g217_ : gi F215_ := by rw [q216_]; exact gi_u (gi_u (g6_) rfl (by omega) (by omega)) rfl (by omega) (by omega)
    have g218_ : fs [(331, 331, 8, 12), (332, 339, 0, 100000)] F F215_ := by rw [q216_]; exact fs_u (fs_u (g8_) rfl) rfl
    refine gVi (nY := 5) (F := 0) (L := 0) (As := [.long (Int64.ofInt (F 120 4))]) (b := 331) (rest := [.ref 331]) hm_139 rfl hm_142 rfl rfl (fl_ob sc_331) rfl rfl rfl rfl rfl (by omega) (by omega) (mc_142 hG F215_ X g217_ (F 120 4) (⟨by omega, by omega⟩)) (fun _ _ h => False.elim h) ?_
    rintro z219_ A1_ ⟨hA_, c220_⟩
    subst hA_
    refine ga_aload_n (v := .ref 331) hm_139 rfl rfl rfl ?_
    refine ga_getr (b := 120) hm_139 rfl sc_331 rfl ?_
    have e221_ : F215_ 120 4 = F 120 4 := by rw [q216_]; exact (fl_u_ne (by first | exact nc_ rfl | decide | omega)).trans ((fl_u_ne (by first | exact nc_ rfl | decide | omega)).trans (e9_))
    refine ga_getl (z := F 120 4) hm_139 rfl sc_120 rfl (e221_) ?_
    refine fl_iconst hm_139 rfl ?_
    have e222_ : F215_ 331 8 = F5_ 331 8 := by rw [q216_]; exact (fl_u_ne (by first | exact nc_ rfl | decide | omega)).trans (fl_u_ne (by first | exact nc_ rfl | decide | omega))
    have b223_ : 0 ≤ F5_ 331 8 ∧ F5_ 331 8 ≤ 200 := gi_g g6_ rfl
    refine gVv (nY := 5) (F := 1) (L := 25) (As := [.int (Int32.ofInt z219_), .long (Int64.ofInt (F 120 4)), .int (Int32.ofInt 0)]) (b := 331) (rest := []) hm_139 rfl hm_129 rfl rfl (fl_ob sc_331) rfl rfl rfl rfl rfl (by omega) (by omega) (mc_129 hG F215_ X g217_ (z219_) (F 120 4) (0) (⟨by omega, by omega⟩) (⟨by omega, by omega⟩) (⟨by omega, by omega⟩) (by omega)) (fun _ _ h => False.elim h) ?_
    rintro A1_ ⟨F228_, hA_, g229_, s230_, c225_, c226_, c227_⟩
    subst hA_
    have g231_ : fs [(331, 331, 8, 12), (332, 339, 0, 100000)] F F228_ := fs_tr g218_ s230_ rfl
    try simp only [e222_] at c225_
    try simp only [e222_] at c226_
    try simp only [e222_] at c227_
    refine fl_iconst hm_139 rfl ?_
    refine ga_istore_n (lv2 := [(2, .int (Int32.ofInt 0)), (0, .ref 331), (1, .int (Int32.ofInt mo))]) hm_139 rfl (Nat.le_of_ble_eq_true rfl) rfl ?_
    have L233_ : ∀ (n232_ : Nat) (k : Int) (F1 : fl_N), (1001 - k : Int).toNat = n232_ → (gi F1) → (fs [(331, 331, 8, 12), (332, 339, 0, 100000)] F228_ F1) → (0 ≤ k ∧ k ≤ 1001) → (li F1) → fl_R xi_ms 139 fr lo 74 [(2, .int (Int32.ofInt k)), (0, .ref 331), (1, .int (Int32.ofInt mo))] [] (fl_H sh_T G F1 ++ X) (pq_139 G F X mo) := by
      intro n232_
      induction n232_ using Nat.strongRecOn with
      | ind n232_ ih234_ =>
      intro k F1 hn235_ hg_F1 hf_F1 hk hl1
      have g236_ : fs [(331, 331, 8, 12), (332, 339, 0, 100000)] F F1 := fs_tr g231_ hf_F1 rfl
      refine ga_iload_n (z := k) hm_139 rfl rfl ?_
      refine fl_sipush hm_139 rfl rfl ?_
      refine fl_icmp_gt (a := k) (b := 1000) hm_139 rfl ⟨by omega, by omega⟩ ⟨by omega, by omega⟩ (fun h237_ => ?_) (fun h238_ => ?_)
      ·
        refine ga_aload_n (v := .ref 331) hm_139 rfl rfl rfl ?_
        have b239_ : 0 ≤ F1 331 11 ∧ F1 331 11 ≤ 1 := gi_g hg_F1 rfl
        refine ga_geti (z := F1 331 11) hm_139 rfl sc_331 rfl (rfl) ?_
        refine fl_if_eq (a := F1 331 11) hm_139 rfl ⟨by omega, by omega⟩ (fun h240_ => ?_) (fun h241_ => ?_)
        ·
          refine gr_v hm_139 rfl rfl ?_
          have b242_ : -2147483648 ≤ F1 335 200 ∧ F1 335 200 ≤ 2147483647 := gi_g hg_F1 rfl
          exact ⟨F1, rfl, hg_F1, g236_, ((hl1).2.2)⟩
        refine ga_aload_n (v := .ref 331) hm_139 rfl rfl rfl ?_
        refine fl_iconst hm_139 rfl ?_
        refine ga_putz (z := 0) hm_139 rfl sc_331 rfl rfl (by omega) ?_
        refine ga_aload_n (v := .ref 331) hm_139 rfl rfl rfl ?_
        obtain ⟨F243_, q244_⟩ : ∃ Fq_, Fq_ = (fl_u F1 331 10 0) := ⟨_, rfl⟩
        rw [← q244_]
        have g245_ : gi F243_ := by rw [q244_]; exact gi_u (hg_F1) rfl (by omega) (by omega)
        have g246_ : fs [(331, 331, 8, 12), (332, 339, 0, 100000)] F F243_ := by rw [q244_]; exact fs_u (g236_) rfl
        refine gVv (nY := 3) (F := 0) (L := 0) (As := []) (b := 331) (rest := []) hm_139 rfl hm_143 rfl rfl (fl_ob sc_331) rfl rfl rfl rfl rfl (by omega) (by omega) (mc_143 hG F243_ X g245_ (by have h9_ := hl1.2.2 (by omega); rw [(show F243_ 335 200 = F1 335 200 from (by rw [q244_]; exact (fl_u_ne (by first | exact nc_ rfl | decide | omega))))]; exact h9_)) (fun _ _ h => False.elim h) ?_
        rintro A1_ ⟨F248_, hA_, g249_, s250_⟩
        subst hA_
        have g251_ : fs [(331, 331, 8, 12), (332, 339, 0, 100000)] F F248_ := fs_tr g246_ s250_ rfl
        refine gr_v hm_139 rfl rfl ?_
        have e252_ : F243_ 331 11 = F1 331 11 := by rw [q244_]; exact fl_u_ne (by first | exact nc_ rfl | decide | omega)
        have e253_ : F248_ 331 11 = F1 331 11 := (s250_ 331 11 rfl).trans (e252_)
        have e254_ : F243_ 335 200 = F1 335 200 := by rw [q244_]; exact fl_u_ne (by first | exact nc_ rfl | decide | omega)
        have e255_ : F248_ 335 200 = F1 335 200 := (s250_ 335 200 rfl).trans (e254_)
        have b256_ : -2147483648 ≤ F1 335 200 ∧ F1 335 200 ≤ 2147483647 := gi_g hg_F1 rfl
        exact ⟨F248_, rfl, g249_, g251_, ((li_cg hl1 ((Eq.trans (a := F248_ 331 8) (b := F243_ 331 8) (s250_ 331 8 (by first | exact fs_c rfl | exact (fs_n (by omega) rfl))) (show F243_ 331 8 = F1 331 8 from (by rw [q244_]; exact (fl_u_ne (by first | exact nc_ rfl | decide | omega)))))) ((Eq.trans (a := F248_ 331 11) (b := F243_ 331 11) (s250_ 331 11 (by first | exact fs_c rfl | exact (fs_n (by omega) rfl))) (show F243_ 331 11 = F1 331 11 from (by rw [q244_]; exact (fl_u_ne (by first | exact nc_ rfl | decide | omega)))))) (fun i => (Eq.trans (a := F248_ 335 i) (b := F243_ 335 i) (s250_ 335 i (by first | exact fs_c rfl | exact (fs_n (by omega) rfl))) (show F243_ 335 i = F1 335 i from (by rw [q244_]; exact (fl_u_ne (by first | exact nc_ rfl | decide | omega))))))).2.2)⟩
      refine ga_aload_n (v := .ref 331) hm_139 rfl rfl rfl ?_
      have b257_ : 0 ≤ F1 331 11 ∧ F1 331 11 ≤ 1 := gi_g hg_F1 rfl
      refine ga_geti (z := F1 331 11) hm_139 rfl sc_331 rfl (rfl) ?_
      refine fx_if_ne (a := F1 331 11) hm_139 rfl ⟨by omega, by omega⟩ (fun h258_ => ?_) (fun h259_ => ?_)
      ·
        refine ga_aload_n (v := .ref 331) hm_139 rfl rfl rfl ?_
        refine ga_geti (z := F1 331 11) hm_139 rfl sc_331 rfl (rfl) ?_
        refine fl_if_eq (a := F1 331 11) hm_139 rfl ⟨by omega, by omega⟩ (fun h260_ => ?_) (fun h261_ => ?_)
        · exfalso; omega
        refine ga_aload_n (v := .ref 331) hm_139 rfl rfl rfl ?_
        refine fl_iconst hm_139 rfl ?_
        refine ga_putz (z := 0) hm_139 rfl sc_331 rfl rfl (by omega) ?_
        refine ga_aload_n (v := .ref 331) hm_139 rfl rfl rfl ?_
        obtain ⟨F262_, q263_⟩ : ∃ Fq_, Fq_ = (fl_u F1 331 10 0) := ⟨_, rfl⟩
        rw [← q263_]
        have g264_ : gi F262_ := by rw [q263_]; exact gi_u (hg_F1) rfl (by omega) (by omega)
        have g265_ : fs [(331, 331, 8, 12), (332, 339, 0, 100000)] F F262_ := by rw [q263_]; exact fs_u (g236_) rfl
        refine gVv (nY := 3) (F := 0) (L := 0) (As := []) (b := 331) (rest := []) hm_139 rfl hm_143 rfl rfl (fl_ob sc_331) rfl rfl rfl rfl rfl (by omega) (by omega) (mc_143 hG F262_ X g264_ (by have h9_ := hl1.2.2 (by omega); rw [(show F262_ 335 200 = F1 335 200 from (by rw [q263_]; exact (fl_u_ne (by first | exact nc_ rfl | decide | omega))))]; exact h9_)) (fun _ _ h => False.elim h) ?_
        rintro A1_ ⟨F267_, hA_, g268_, s269_⟩
        subst hA_
        have g270_ : fs [(331, 331, 8, 12), (332, 339, 0, 100000)] F F267_ := fs_tr g265_ s269_ rfl
        refine gr_v hm_139 rfl rfl ?_
        have e271_ : F262_ 331 11 = F1 331 11 := by rw [q263_]; exact fl_u_ne (by first | exact nc_ rfl | decide | omega)
        have e272_ : F267_ 331 11 = F1 331 11 := (s269_ 331 11 rfl).trans (e271_)
        have e273_ : F262_ 335 200 = F1 335 200 := by rw [q263_]; exact fl_u_ne (by first | exact nc_ rfl | decide | omega)
        have e274_ : F267_ 335 200 = F1 335 200 := (s269_ 335 200 rfl).trans (e273_)
        have b275_ : -2147483648 ≤ F1 335 200 ∧ F1 335 200 ≤ 2147483647 := gi_g hg_F1 rfl
        exact ⟨F267_, rfl, g268_, g270_, ((li_cg hl1 ((Eq.trans (a := F267_ 331 8) (b := F262_ 331 8) (s269_ 331 8 (by first | exact fs_c rfl | exact (fs_n (by omega) rfl))) (show F262_ 331 8 = F1 331 8 from (by rw [q263_]; exact (fl_u_ne (by first | exact nc_ rfl | decide | omega)))))) ((Eq.trans (a := F267_ 331 11) (b := F262_ 331 11) (s269_ 331 11 (by first | exact fs_c rfl | exact (fs_n (by omega) rfl))) (show F262_ 331 11 = F1 331 11 from (by rw [q263_]; exact (fl_u_ne (by first | exact nc_ rfl | decide | omega)))))) (fun i => (Eq.trans (a := F267_ 335 i) (b := F262_ 335 i) (s269_ 335 i (by first | exact fs_c rfl | exact (fs_n (by omega) rfl))) (show F262_ 335 i = F1 335 i from (by rw [q263_]; exact (fl_u_ne (by first | exact nc_ rfl | decide | omega))))))).2.2)⟩
      refine ga_aload_n (v := .ref 331) hm_139 rfl rfl rfl ?_
      have b276_ : 0 ≤ F1 331 10 ∧ F1 331 10 ≤ 1 := gi_g hg_F1 rfl
      refine ga_geti (z := F1 331 10) hm_139 rfl sc_331 rfl (rfl) ?_
      refine fx_if_ne (a := F1 331 10) hm_139 rfl ⟨by omega, by omega⟩ (fun h277_ => ?_) (fun h278_ => ?_)
      ·
        refine ga_aload_n (v := .ref 331) hm_139 rfl rfl rfl ?_
        refine ga_geti (z := F1 331 11) hm_139 rfl sc_331 rfl (rfl) ?_
        refine fl_if_eq (a := F1 331 11) hm_139 rfl ⟨by omega, by omega⟩ (fun h279_ => ?_) (fun h280_ => ?_)
        ·
          refine gr_v hm_139 rfl rfl ?_
          have b281_ : -2147483648 ≤ F1 335 200 ∧ F1 335 200 ≤ 2147483647 := gi_g hg_F1 rfl
          exact ⟨F1, rfl, hg_F1, g236_, ((hl1).2.2)⟩
        exfalso; omega
      refine ga_aload_n (v := .ref 331) hm_139 rfl rfl rfl ?_
      refine ga_aload_n (v := .ref 331) hm_139 rfl rfl rfl ?_
      refine gVi (nY := 3) (F := 1) (L := 21) (As := []) (b := 331) (rest := [.ref 331]) hm_139 rfl hm_138 rfl rfl (fl_ob sc_331) rfl rfl rfl rfl rfl (by omega) (by omega) (mc_138 hG F1 X hg_F1) (fun _ _ h => False.elim h) ?_
      rintro z282_ A1_ ⟨hA_, c283_⟩
      subst hA_
      refine ga_puti (z := z282_) hm_139 rfl sc_331 rfl rfl ?_
      refine ga_aload_n (v := .ref 331) hm_139 rfl rfl rfl ?_
      refine ga_geti (z := z282_) hm_139 rfl sc_331 rfl (fl_u_eq) ?_
      refine ga_ldci (z := 2147483647) hm_139 rfl (by decide) ?_
      refine fx_icmp_ne (a := z282_) (b := 2147483647) hm_139 rfl ⟨by omega, by omega⟩ ⟨by omega, by omega⟩ (fun h284_ => ?_) (fun h285_ => ?_)
      ·
        refine ga_aload_n (v := .ref 331) hm_139 rfl rfl rfl ?_
        obtain ⟨F286_, q287_⟩ : ∃ Fq_, Fq_ = (fl_u F1 331 12 z282_) := ⟨_, rfl⟩
        rw [← q287_]
        have g288_ : gi F286_ := by rw [q287_]; exact gi_u (hg_F1) rfl (by omega) (by omega)
        have g289_ : fs [(331, 331, 8, 12), (332, 339, 0, 100000)] F F286_ := by rw [q287_]; exact fs_u (g236_) rfl
        refine gVv (nY := 3) (F := 4) (L := 101) (As := []) (b := 331) (rest := []) hm_139 rfl hm_134 rfl rfl (fl_ob sc_331) rfl rfl rfl rfl rfl (by omega) (by omega) (mc_134 hG F286_ X g288_ (li_cg hl1 ((show F286_ 331 8 = F1 331 8 from (by rw [q287_]; exact (fl_u_ne (by first | exact nc_ rfl | decide | omega))))) ((show F286_ 331 11 = F1 331 11 from (by rw [q287_]; exact (fl_u_ne (by first | exact nc_ rfl | decide | omega))))) (fun i => (show F286_ 335 i = F1 335 i from (by rw [q287_]; exact (fl_u_ne (by first | exact nc_ rfl | decide | omega))))))) (fun _ _ h => False.elim h) ?_
        have e291_ : F286_ 331 8 = F1 331 8 := by rw [q287_]; exact fl_u_ne (by first | exact nc_ rfl | decide | omega)
        have b292_ : 0 ≤ F1 331 8 ∧ F1 331 8 ≤ 200 := gi_g hg_F1 rfl
        rintro A1_ ⟨F295_, hA_, g296_, s297_, c293_, c294_⟩
        subst hA_
        have g298_ : fs [(331, 331, 8, 12), (332, 339, 0, 100000)] F F295_ := fs_tr g289_ s297_ rfl
        try simp only [e291_] at c294_
        refine ga_inc (a := k) (c := k + 1) (lv2 := [(2, .int (Int32.ofInt (k + 1))), (0, .ref 331), (1, .int (Int32.ofInt mo))]) hm_139 rfl rfl (Nat.le_of_ble_eq_true rfl) rfl rfl ?_
        refine fl_goto hm_139 rfl ?_
        exact ih234_ _ (by omega) (k + 1) F295_ rfl g296_ (fs_tr (by rw [q287_]; exact fs_u (hf_F1) rfl) s297_ rfl) (⟨by omega, by omega⟩) (c293_)
      obtain ⟨F299_, q300_⟩ : ∃ Fq_, Fq_ = (fl_u F1 331 12 z282_) := ⟨_, rfl⟩
      rw [← q300_]
      have g301_ : gi F299_ := by rw [q300_]; exact gi_u (hg_F1) rfl (by omega) (by omega)
      have g302_ : fs [(331, 331, 8, 12), (332, 339, 0, 100000)] F F299_ := by rw [q300_]; exact fs_u (g236_) rfl
      refine gr_v hm_139 rfl rfl ?_
      have e303_ : F299_ 331 11 = F1 331 11 := by rw [q300_]; exact fl_u_ne (by first | exact nc_ rfl | decide | omega)
      have e304_ : F299_ 335 200 = F1 335 200 := by rw [q300_]; exact fl_u_ne (by first | exact nc_ rfl | decide | omega)
      have b305_ : -2147483648 ≤ F1 335 200 ∧ F1 335 200 ≤ 2147483647 := gi_g hg_F1 rfl
      exact ⟨F299_, rfl, g301_, g302_, ((li_cg hl1 ((show F299_ 331 8 = F1 331 8 from (by rw [q300_]; exact (fl_u_ne (by first | exact nc_ rfl | decide | omega))))) ((show F299_ 331 11 = F1 331 11 from (by rw [q300_]; exact (fl_u_ne (by first | exact nc_ rfl | decide | omega))))) (fun i => (show F299_ 335 i = F1 335 i from (by rw [q300_]; exact (fl_u_ne (by first | exact nc_ rfl | decide | omega)))))).2.2)⟩
    exact L233_ _ (0) F228_ rfl g229_ fs_refl (⟨by omega, by omega⟩) (li_0 (F := F215_) (by first | exact c2_ | exact (Eq.trans ((show F215_ 331 8 = F5_ 331 8 from (by rw [q216_]; exact (fl_u_ne (by first | exact nc_ rfl | decide | omega)).trans ((fl_u_ne (by first | exact nc_ rfl | decide | omega)))))) c2_)) (Eq.trans ((show F215_ 331 11 = F5_ 331 11 from (by rw [q216_]; exact (fl_u_ne (by first | exact nc_ rfl | decide | omega)).trans ((fl_u_ne (by first | exact nc_ rfl | decide | omega)))))) c3_) (Eq.trans ((show F215_ 335 200 = F5_ 335 200 from (by rw [q216_]; exact (fl_u_ne (by first | exact nc_ rfl | decide | omega)).trans ((fl_u_ne (by first | exact nc_ rfl | decide | omega)))))) c4_) c225_ c226_ c227_ ((show F228_ 331 11 = F215_ 331 11 from (s230_ 331 11 (by first | exact fs_c rfl | exact (fs_n (by omega) (fs_n (by omega) (fs_n (by omega) rfl))))))))
  refine fl_iconst hm_115 rfl ?_
  refine fl_goto hm_115 rfl ?_
  refine gr_i hm_115 rfl rfl (ga_nb (by omega)) ?_
  clear h13_ h14_ f11_ l12_
  refine fl_if_eq hm_139 rfl ⟨by omega, by omega⟩ (fun h => absurd h (by omega)) (fun _ => ?_)
  refine ga_aload_n (v := .ref 331) hm_139 rfl rfl rfl ?_
  refine fl_iconst hm_139 rfl ?_
  refine ga_putz (z := 1) hm_139 rfl sc_331 rfl rfl (by omega) ?_
  refine ga_aload_n (v := .ref 331) hm_139 rfl rfl rfl ?_
  refine ga_getr (b := 335) hm_139 rfl sc_331 rfl ?_
  refine fl_sipush hm_139 rfl rfl ?_
  refine fl_iconst hm_139 rfl ?_
  refine fl_iast (z := 200) (v := 0) hm_139 rfl sc_335 (by omega) (by omega) (by omega) ?_
  obtain ⟨F306_, q307_⟩ : ∃ Fq_, Fq_ = (fl_u (fl_u (fl_u (fl_u F5_ 331 9 mo) 331 12 0) 331 11 1) 335 (200 : Int).toNat 0) := ⟨_, rfl⟩
  rw [← q307_]
  have g308_ : gi F306_ := by rw [q307_]; exact gi_u (gi_u (gi_u (gi_u (g6_) rfl (by omega) (by omega)) rfl (by omega) (by omega)) rfl (by omega) (by omega)) rfl (by omega) (by omega)
  have g309_ : fs [(331, 331, 8, 12), (332, 339, 0, 100000)] F F306_ := by rw [q307_]; exact fs_u (fs_u (fs_u (fs_u (g8_) rfl) rfl) rfl) rfl
  refine gr_v hm_139 rfl rfl ?_
  have e310_ : F306_ 331 11 = 1 := by rw [q307_]; exact (fl_u_ne (by first | exact nc_ rfl | decide | omega)).trans (fl_u_eq)
  have e311_ : F306_ 335 200 = 0 := by rw [q307_]; exact fl_u_eq
  exact ⟨F306_, rfl, g308_, g309_, (fun _ => by rw [e311_]; omega)⟩

theorem wm_step {f : Nat → Int} {w : List Int} {s i : Int} (h : ∀ q : Nat, (q : Int) < i → f (s.toNat + q) = w.getD q 0) (hi : 0 ≤ i) (he : f (s + i).toNat = w.getD i.toNat 0) (hs : 0 ≤ s) : ∀ q : Nat, (q : Int) < i + 1 → f (s.toNat + q) = w.getD q 0 := by
  intro q hq
  by_cases e : (q : Int) < i
  · exact h q e
  · have e2 : q = i.toNat := by omega
    subst e2
    rw [← he]
    congr 1
    omega
theorem na_l {F : fl_N} {a : Nat} {c : Int} {l : List Int} (h : rep (F (a + 1)) (F a 2) l) : rep ((fl_u (fl_u (fl_u F (a + 1) (F a 2).toNat c) (a + 2) (F a 2).toNat (-1)) a 2 (F a 2 + 1)) (a + 1)) ((fl_u (fl_u (fl_u F (a + 1) (F a 2).toNat c) (a + 2) (F a 2).toNat (-1)) a 2 (F a 2 + 1)) a 2) (l ++ [c]) := by
  have e : (fl_u (fl_u (fl_u F (a + 1) (F a 2).toNat c) (a + 2) (F a 2).toNat (-1)) a 2 (F a 2 + 1)) a 2 = F a 2 + 1 := fl_u_eq
  rw [e]
  refine rep_snoc h (fun j => ?_)
  rw [fl_u_ne (by omega), fl_u_ne (by omega)]
  simp [fl_u]
theorem na_t {F : fl_N} {a : Nat} {c : Int} {l : List Int} (h : rep (F (a + 2)) (F a 2) l) : rep ((fl_u (fl_u (fl_u F (a + 1) (F a 2).toNat c) (a + 2) (F a 2).toNat (-1)) a 2 (F a 2 + 1)) (a + 2)) ((fl_u (fl_u (fl_u F (a + 1) (F a 2).toNat c) (a + 2) (F a 2).toNat (-1)) a 2 (F a 2 + 1)) a 2) (l ++ [-1]) := by
  have e : (fl_u (fl_u (fl_u F (a + 1) (F a 2).toNat c) (a + 2) (F a 2).toNat (-1)) a 2 (F a 2 + 1)) a 2 = F a 2 + 1 := fl_u_eq
  rw [e]
  refine rep_snoc h (fun j => ?_)
  rw [fl_u_ne (by omega)]
  by_cases hj : j = (F a 2).toNat
  · simp [fl_u, hj]
  · rw [if_neg hj, fl_u_ne (by omega), fl_u_ne (by omega)]
theorem rep_u {F : fl_N} {a b k c j : Nat} {z : Int} {l : List Int} (h : rep (F a) (F b k) l) (h1 : c ≠ a) (h2 : ¬ (b = c ∧ k = j)) : rep ((fl_u F c j z) a) ((fl_u F c j z) b k) l := by
  rw [fl_u_r (Ne.symm h1), fl_u_ne h2]
  exact h

/- CheapPlanner$Tokens.skip -/
abbrev pq_154 (G : Nat → Nat → Option Nat) (F : fl_N) (X : xi_H) (K : fl_N) : Outcome → xi_H → Prop := gqv (fun A => ∃ F' : fl_N, fl_H sh_T G F' ++ X = A ∧ gi F' ∧ fs [(1, 1, 7, 7)] F F' ∧ (F' 1 7 = sk K (F 1 7)) ∧ (0 ≤ F' 1 7 ∧ F' 1 7 ≤ K 1 6 - 1)) gqn
theorem mc_154 {G : Nat → Nat → Option Nat} (hG : gg G) (F : fl_N) (X : xi_H) (hgi : gi F) (K : fl_N) (hgK : gi K) (hK : tkh K F) (hko : tko K) (hp : 0 ≤ F 1 7 ∧ F 1 7 ≤ K 1 6 - 1) : fl_M xi_ms 154 0 0 [.ref 1] (fl_H sh_T G F ++ X) (pq_154 G F X K) := by
  intro fr lo hfr hlo
  show fl_R xi_ms 154 fr lo 0 [(0, .ref 1)] [] _ _
  refine ga_aload_n (v := .ref 1) hm_154 rfl rfl rfl ?_
  have b1_ : 0 ≤ F 1 7 ∧ F 1 7 ≤ 600 := gi_g hgi rfl
  refine ga_geti (z := F 1 7) hm_154 rfl sc_1 rfl (rfl) ?_
  refine ga_aload_n (v := .ref 1) hm_154 rfl rfl rfl ?_
  have e2_ : F 1 6 = K 1 6 := hK.2
  have b3_ : 0 ≤ K 1 6 ∧ K 1 6 ≤ 601 := gi_g hgK rfl
  refine ga_geti (z := K 1 6) hm_154 rfl sc_1 rfl (e2_) ?_
  refine fl_iconst hm_154 rfl ?_
  refine ga_isub (a := K 1 6) (b := 1) (c := K 1 6 - 1) hm_154 rfl (by omega) ?_
  refine fl_icmp_ge (a := F 1 7) (b := K 1 6 - 1) hm_154 rfl ⟨by omega, by omega⟩ ⟨by omega, by omega⟩ (fun h4_ => ?_) (fun h5_ => ?_)
  ·
    refine gr_v hm_154 rfl rfl ?_
    exact ⟨F, rfl, hgi, fs_refl, (by unfold sk; first | (rw [if_pos (by omega)]; omega) | (rw [if_neg (by omega)])), (by omega)⟩
  refine ga_aload_n (v := .ref 1) hm_154 rfl rfl rfl ?_
  refine ga_dup hm_154 rfl rfl ?_
  refine ga_geti (z := F 1 7) hm_154 rfl sc_1 rfl (rfl) ?_
  refine fl_iconst hm_154 rfl ?_
  refine ga_iadd (a := F 1 7) (b := 1) (c := F 1 7 + 1) hm_154 rfl (by omega) ?_
  refine ga_puti (z := F 1 7 + 1) hm_154 rfl sc_1 rfl rfl ?_
  obtain ⟨F6_, q7_⟩ : ∃ F9_, F9_ = (fl_u F 1 7 (F 1 7 + 1)) := ⟨_, rfl⟩
  rw [← q7_]
  have g8_ : gi F6_ := by rw [q7_]; exact gi_u (hgi) rfl (by omega) (by omega)
  have g9_ : fs [(1, 1, 7, 7)] F F6_ := by rw [q7_]; exact fs_u (fs_refl) rfl
  have tk10_ : tkh K F6_ := by rw [q7_]; exact tkh_u (hK) (by omega) (by omega)
  refine gr_v hm_154 rfl rfl ?_
  have e11_ : F6_ 1 7 = F 1 7 + 1 := by rw [q7_]; exact fl_u_eq
  exact ⟨F6_, rfl, g8_, g9_, (by unfold sk; first | (rw [if_pos (by omega)]; omega) | (rw [if_neg (by omega)])), (by omega)⟩
/- CheapPlanner$Tokens.want -/
abbrev pq_24 (G : Nat → Nat → Option Nat) (F : fl_N) (X : xi_H) (K : fl_N) (k : Int) : Outcome → xi_H → Prop := gqv (fun A => ∃ F' : fl_N, fl_H sh_T G F' ++ X = A ∧ gi F' ∧ fs [(1, 1, 7, 8)] F F' ∧ (sp_kind K k (F 1 7) = .inr (F' 1 7)) ∧ (0 ≤ F' 1 7 ∧ F' 1 7 ≤ K 1 6 - 1)) (fun j A => ∃ F' : fl_N, (387 + X.length = j ∧ fl_H sh_T G F' ++ (X ++ [gx 14]) = A) ∧ gi F' ∧ fs [(1, 1, 7, 8)] F F' ∧ (∃ e, sp_kind K k (F 1 7) = .inl e ∧ F' 1 8 = e.1 + 10 * e.2))
theorem mc_24 {G : Nat → Nat → Option Nat} (hG : gg G) (F : fl_N) (X : xi_H) (hgi : gi F) (K : fl_N) (k : Int) (hgK : gi K) (hK : tkh K F) (hko : tko K) (hp : 0 ≤ F 1 7 ∧ F 1 7 ≤ K 1 6 - 1) (hk : 0 ≤ k ∧ k ≤ 5) : fl_M xi_ms 24 7 121 [.ref 1, .int (Int32.ofInt k)] (fl_H sh_T G F ++ X) (pq_24 G F X K k) := by
  intro fr lo hfr hlo
  show fl_R xi_ms 24 fr lo 0 [(0, .ref 1), (1, .int (Int32.ofInt k))] [] _ _
  refine ga_aload_n (v := .ref 1) hm_24 rfl rfl rfl ?_
  refine ga_getr (b := 3) hm_24 rfl sc_1 rfl ?_
  refine ga_aload_n (v := .ref 1) hm_24 rfl rfl rfl ?_
  have b1_ : 0 ≤ F 1 7 ∧ F 1 7 ≤ 600 := gi_g hgi rfl
  refine ga_geti (z := F 1 7) hm_24 rfl sc_1 rfl (rfl) ?_
  have e2_ : F 3 (F 1 7).toNat = K 3 (F 1 7).toNat := hK.1 3 (F 1 7).toNat (by omega)
  have b3_ : 0 ≤ K 3 (F 1 7).toNat ∧ K 3 (F 1 7).toNat ≤ 5 := gi_g hgK rfl
  refine ga_iald (z := F 1 7) (w := K 3 (F 1 7).toNat) hm_24 rfl sc_3 (by omega) (by omega) (by omega) (e2_) ?_
  refine ga_iload_n (z := k) hm_24 rfl rfl ?_
  refine fl_icmp_eq (a := K 3 (F 1 7).toNat) (b := k) hm_24 rfl ⟨by omega, by omega⟩ ⟨by omega, by omega⟩ (fun h4_ => ?_) (fun h5_ => ?_)
  ·
    refine ga_aload_n (v := .ref 1) hm_24 rfl rfl rfl ?_
    refine gVv (nY := 1) (F := 0) (L := 0) (As := []) (b := 1) (rest := []) hm_24 rfl hm_154 rfl rfl (fl_ob sc_1) rfl rfl rfl rfl rfl (by omega) (by omega) (mc_154 hG F X hgi (K) hgK hK hko (by omega)) (fun _ _ h => False.elim h) ?_
    rintro A1_ ⟨F9_, hA_, g10_, s11_, c7_, c8_⟩
    subst hA_
    have g12_ : fs [(1, 1, 7, 8)] F F9_ := fs_tr fs_refl s11_ rfl
    have tk13_ : tkh K F9_ := tkh_fs hK s11_ (fun r k h => (fs_n (by omega) rfl)) (fs_n (by omega) rfl)
    refine gr_v hm_24 rfl rfl ?_
    have b14_ : 0 ≤ F9_ 1 7 ∧ F9_ 1 7 ≤ 600 := gi_g g10_ rfl
    exact ⟨F9_, rfl, g10_, g12_, (by simp [sp_kind, pf, pb, *]; try omega), (by omega)⟩
  refine ga_aload_n (v := .ref 1) hm_24 rfl rfl rfl ?_
  refine fl_iconst hm_24 rfl ?_
  refine gIv (nY := 2) (F := 6) (L := 100) (As := [.int (Int32.ofInt 1)]) (b := 1) (rest := []) hm_24 rfl hm_25 rfl rfl (fl_ob sc_1) rfl rfl rfl rfl rfl (by omega) (by omega) ?_
  intro f15_ l16_ h17_ h18_
  show fl_R xi_ms 25 f15_ l16_ 0 [(0, .ref 1), (1, .int (Int32.ofInt 1))] [] _ _
  refine ga_aload_n (v := .ref 1) hm_25 rfl rfl rfl ?_
  refine ga_iload_n (z := 1) hm_25 rfl rfl ?_
  refine fl_bipush hm_25 rfl rfl ?_
  refine ga_aload_n (v := .ref 1) hm_25 rfl rfl rfl ?_
  refine ga_getr (b := 4) hm_25 rfl sc_1 rfl ?_
  refine ga_aload_n (v := .ref 1) hm_25 rfl rfl rfl ?_
  refine ga_geti (z := F 1 7) hm_25 rfl sc_1 rfl (rfl) ?_
  have e19_ : F 4 (F 1 7).toNat = K 4 (F 1 7).toNat := hK.1 4 (F 1 7).toNat (by omega)
  have b20_ : 0 ≤ K 4 (F 1 7).toNat ∧ K 4 (F 1 7).toNat ≤ 600 := gi_g hgK rfl
  refine ga_iald (z := F 1 7) (w := K 4 (F 1 7).toNat) hm_25 rfl sc_4 (by omega) (by omega) (by omega) (e19_) ?_
  refine ga_imul (a := 10) (b := K 4 (F 1 7).toNat) (c := 10 * (K 4 (F 1 7).toNat)) hm_25 rfl (by omega) ?_
  refine ga_iadd (a := 1) (b := 10 * (K 4 (F 1 7).toNat)) (c := 10 * (K 4 (F 1 7).toNat) + 1) hm_25 rfl (by omega) ?_
  refine ga_puti (z := 10 * (K 4 (F 1 7).toNat) + 1) hm_25 rfl sc_1 rfl rfl ?_
  obtain ⟨F21_, q22_⟩ : ∃ F9_, F9_ = (fl_u F 1 8 (10 * (K 4 (F 1 7).toNat) + 1)) := ⟨_, rfl⟩
  rw [← q22_]
  have g23_ : gi F21_ := by rw [q22_]; exact gi_u (hgi) rfl (by omega) (by omega)
  have g24_ : fs [(1, 1, 7, 8)] F F21_ := by rw [q22_]; exact fs_u (fs_refl) rfl
  have tk25_ : tkh K F21_ := by rw [q22_]; exact tkh_u (hK) (by omega) (by omega)
  refine fl_thr hm_25 rfl rfl (by omega) (by omega) (Nat.le_of_ble_eq_true rfl) (fl_pos sc_0) ?_
  refine gw_v ⟨rfl, ?_⟩
  refine gw_v ?_
  have e26_ : F21_ 1 8 = 10 * (K 4 (F 1 7).toNat) + 1 := by rw [q22_]; exact fl_u_eq
  exact ⟨F21_, ⟨ga_len.symm, (List.append_assoc _ _ _).symm⟩, g23_, g24_, (⟨(1, K 4 (F 1 7).toNat), by simp [sp_kind, pf, pb, *]; try omega, by show _ = (1 : Int) + 10 * K 4 (F 1 7).toNat; omega⟩)⟩
/- CheapPlanner$Tokens.says -/
abbrev pq_152 (G : Nat → Nat → Option Nat) (F : fl_N) (X : xi_H) (K : fl_N) (j : Nat) (w : List Int) : Outcome → xi_H → Prop := gqi (fun z A => (fl_H sh_T G F ++ X = A ∧ (z = 0) ∧ (isw K (F 1 7) w = false)) ∨ (fl_H sh_T G F ++ X = A ∧ (z = 1) ∧ (isw K (F 1 7) w = true))) gqn
theorem mc_152 {G : Nat → Nat → Option Nat} (hG : gg G) (F : fl_N) (X : xi_H) (hgi : gi F) (K : fl_N) (j : Nat) (w : List Int) (hgK : gi K) (hK : tkh K F) (hko : tko K) (hp : 0 ≤ F 1 7 ∧ F 1 7 ≤ K 1 6 - 1) (ht : xi_tx[j]? = some w) (hw : w.length ≤ 20 ∧ ∀ i : Nat, i < w.length → 0 ≤ w.getD i 0 ∧ w.getD i 0 < 65536) : fl_M xi_ms 152 6 100 [.ref 1, .retAddr j] (fl_H sh_T G F ++ X) (pq_152 G F X K j w) := by
  intro fr lo hfr hlo
  show fl_R xi_ms 152 fr lo 0 [(0, .ref 1), (1, .retAddr j)] [] _ _
  refine ga_aload_n (v := .ref 1) hm_152 rfl rfl rfl ?_
  refine ga_getr (b := 4) hm_152 rfl sc_1 rfl ?_
  refine ga_aload_n (v := .ref 1) hm_152 rfl rfl rfl ?_
  have b1_ : 0 ≤ F 1 7 ∧ F 1 7 ≤ 600 := gi_g hgi rfl
  refine ga_geti (z := F 1 7) hm_152 rfl sc_1 rfl (rfl) ?_
  have e2_ : F 4 (F 1 7).toNat = K 4 (F 1 7).toNat := hK.1 4 (F 1 7).toNat (by omega)
  have b3_ : 0 ≤ K 4 (F 1 7).toNat ∧ K 4 (F 1 7).toNat ≤ 600 := gi_g hgK rfl
  refine ga_iald (z := F 1 7) (w := K 4 (F 1 7).toNat) hm_152 rfl sc_4 (by omega) (by omega) (by omega) (e2_) ?_
  refine ga_istore_n (lv2 := [(2, .int (Int32.ofInt (K 4 (F 1 7).toNat))), (0, .ref 1), (1, .retAddr j)]) hm_152 rfl (Nat.le_of_ble_eq_true rfl) rfl ?_
  refine ga_aload_n (v := .ref 1) hm_152 rfl rfl rfl ?_
  refine ga_getr (b := 5) hm_152 rfl sc_1 rfl ?_
  refine ga_aload_n (v := .ref 1) hm_152 rfl rfl rfl ?_
  refine ga_geti (z := F 1 7) hm_152 rfl sc_1 rfl (rfl) ?_
  have e4_ : F 5 (F 1 7).toNat = K 5 (F 1 7).toNat := hK.1 5 (F 1 7).toNat (by omega)
  have b5_ : 0 ≤ K 5 (F 1 7).toNat ∧ K 5 (F 1 7).toNat ≤ 600 := gi_g hgK rfl
  refine ga_iald (z := F 1 7) (w := K 5 (F 1 7).toNat) hm_152 rfl sc_5 (by omega) (by omega) (by omega) (e4_) ?_
  refine ga_iload_n (z := K 4 (F 1 7).toNat) hm_152 rfl rfl ?_
  refine ga_isub (a := K 5 (F 1 7).toNat) (b := K 4 (F 1 7).toNat) (c := K 5 (F 1 7).toNat - (K 4 (F 1 7).toNat)) hm_152 rfl (by omega) ?_
  refine ga_aload_n (v := .retAddr j) hm_152 rfl rfl rfl ?_
  refine ga_slen (j := j) (t := w) hm_152 rfl ht ⟨⟨by omega, by omega, Nat.le_of_ble_eq_true rfl⟩, fl_pos sc_0⟩ ?_
  refine fl_icmp_eq (a := K 5 (F 1 7).toNat - (K 4 (F 1 7).toNat)) (b := (w.length : Int)) hm_152 rfl ⟨by omega, by omega⟩ ⟨by omega, by omega⟩ (fun h6_ => ?_) (fun h7_ => ?_)
  ·
    refine fl_iconst hm_152 rfl ?_
    refine ga_istore_n (lv2 := [(3, .int (Int32.ofInt 0)), (2, .int (Int32.ofInt (K 4 (F 1 7).toNat))), (0, .ref 1), (1, .retAddr j)]) hm_152 rfl (Nat.le_of_ble_eq_true rfl) rfl ?_
    have L9_ : ∀ (n8_ : Nat) (i : Int), ((w.length : Int) - i : Int).toNat = n8_ → (0 ≤ i ∧ i ≤ (w.length : Int)) → (∀ q : Nat, (q : Int) < i → K 2 ((K 4 (F 1 7).toNat).toNat + q) = w.getD q 0) → fl_R xi_ms 152 fr lo 32 [(3, .int (Int32.ofInt i)), (2, .int (Int32.ofInt (K 4 (F 1 7).toNat))), (0, .ref 1), (1, .retAddr j)] [] (fl_H sh_T G F ++ X) (pq_152 G F X K j w) := by
      intro n8_
      induction n8_ using Nat.strongRecOn with
      | ind n8_ ih10_ =>
      intro i hn11_ hi hm
      refine ga_iload_n (z := i) hm_152 rfl rfl ?_
      refine ga_aload_n (v := .retAddr j) hm_152 rfl rfl rfl ?_
      refine ga_slen (j := j) (t := w) hm_152 rfl ht ⟨⟨by omega, by omega, Nat.le_of_ble_eq_true rfl⟩, fl_pos sc_0⟩ ?_
      refine fl_icmp_ge (a := i) (b := (w.length : Int)) hm_152 rfl ⟨by omega, by omega⟩ ⟨by omega, by omega⟩ (fun h12_ => ?_) (fun h13_ => ?_)
      ·
        refine fl_iconst hm_152 rfl ?_
        refine gr_i (z := 1) hm_152 rfl rfl (ga_nb (by omega)) ?_
        exact Or.inr (⟨rfl, rfl, (isw_t (by omega) (fun q hq => hm q (by omega)))⟩)
      refine ga_aload_n (v := .ref 1) hm_152 rfl rfl rfl ?_
      refine ga_getr (b := 2) hm_152 rfl sc_1 rfl ?_
      refine ga_iload_n (z := K 4 (F 1 7).toNat) hm_152 rfl rfl ?_
      refine ga_iload_n (z := i) hm_152 rfl rfl ?_
      refine ga_iadd (a := K 4 (F 1 7).toNat) (b := i) (c := K 4 (F 1 7).toNat + i) hm_152 rfl (by omega) ?_
      have e14_ : F 2 (K 4 (F 1 7).toNat + i).toNat = K 2 (K 4 (F 1 7).toNat + i).toNat := hK.1 2 (K 4 (F 1 7).toNat + i).toNat (by omega)
      have b15_ : 0 ≤ K 2 (K 4 (F 1 7).toNat + i).toNat ∧ K 2 (K 4 (F 1 7).toNat + i).toNat ≤ 126 := gi_g hgK rfl
      refine ga_cald (z := K 4 (F 1 7).toNat + i) (w := K 2 (K 4 (F 1 7).toNat + i).toNat) hm_152 rfl sc_2 (by omega) (by omega) (by omega) (e14_) ?_
      refine ga_aload_n (v := .retAddr j) hm_152 rfl rfl rfl ?_
      refine ga_iload_n (z := i) hm_152 rfl rfl ?_
      have u16_ : w[(i).toNat]? = some (w.getD (i).toNat 0) := by simp [show (i).toNat < w.length by omega]
      refine ga_schr (j := j) (t := w) (k := i) (z := (w.getD (i).toNat 0)) hm_152 rfl ht (by omega) (by omega) u16_ ⟨⟨by omega, by omega, Nat.le_of_ble_eq_true rfl⟩, fl_pos sc_0⟩ ?_
      have hb_ := hw.2 i.toNat (by omega)
      refine fl_icmp_eq (a := K 2 (K 4 (F 1 7).toNat + i).toNat) (b := (w.getD (i).toNat 0)) hm_152 rfl ⟨by omega, by omega⟩ ⟨by omega, by omega⟩ (fun h17_ => ?_) (fun h18_ => ?_)
      ·
        refine ga_inc (a := i) (c := i + 1) (lv2 := [(3, .int (Int32.ofInt (i + 1))), (2, .int (Int32.ofInt (K 4 (F 1 7).toNat))), (0, .ref 1), (1, .retAddr j)]) hm_152 rfl rfl (Nat.le_of_ble_eq_true rfl) rfl rfl ?_
        refine fl_goto hm_152 rfl ?_
        exact ih10_ _ (by omega) (i + 1) rfl (by omega) (wm_step hm (by omega) (by assumption) (by omega))
      refine fl_iconst hm_152 rfl ?_
      refine gr_i (z := 0) hm_152 rfl rfl (ga_nb (by omega)) ?_
      exact Or.inl ⟨rfl, rfl, (isw_f (i := i.toNat) (by omega) (by rw [show (K 4 (F 1 7).toNat).toNat + i.toNat = (K 4 (F 1 7).toNat + i).toNat by omega]; assumption))⟩
    exact L9_ _ (0) rfl (by omega) (fun q hq => absurd hq (by omega))
  refine fl_iconst hm_152 rfl ?_
  refine gr_i (z := 0) hm_152 rfl rfl (ga_nb (by omega)) ?_
  exact Or.inl ⟨rfl, rfl, (isw_l (by omega))⟩
/- CheapPlanner$Tokens.wantWord -/
abbrev pq_155 (G : Nat → Nat → Option Nat) (F : fl_N) (X : xi_H) (K : fl_N) (j : Nat) (w : List Int) : Outcome → xi_H → Prop := gqv (fun A => ∃ F' : fl_N, fl_H sh_T G F' ++ X = A ∧ gi F' ∧ fs [(1, 1, 7, 8)] F F' ∧ (sp_word K w (F 1 7) = .inr (F' 1 7)) ∧ (0 ≤ F' 1 7 ∧ F' 1 7 ≤ K 1 6 - 1)) (fun j A => ∃ F' : fl_N, (387 + X.length = j ∧ fl_H sh_T G F' ++ (X ++ [gx 14]) = A) ∧ gi F' ∧ fs [(1, 1, 7, 8)] F F' ∧ (∃ e, sp_word K w (F 1 7) = .inl e ∧ F' 1 8 = e.1 + 10 * e.2))
theorem mc_155 {G : Nat → Nat → Option Nat} (hG : gg G) (F : fl_N) (X : xi_H) (hgi : gi F) (K : fl_N) (j : Nat) (w : List Int) (hgK : gi K) (hK : tkh K F) (hko : tko K) (hp : 0 ≤ F 1 7 ∧ F 1 7 ≤ K 1 6 - 1) (ht : xi_tx[j]? = some w) (hw : w.length ≤ 20 ∧ ∀ i : Nat, i < w.length → 0 ≤ w.getD i 0 ∧ w.getD i 0 < 65536) : fl_M xi_ms 155 7 123 [.ref 1, .retAddr j] (fl_H sh_T G F ++ X) (pq_155 G F X K j w) := by
  intro fr lo hfr hlo
  show fl_R xi_ms 155 fr lo 0 [(0, .ref 1), (1, .retAddr j)] [] _ _
  refine ga_aload_n (v := .ref 1) hm_155 rfl rfl rfl ?_
  refine ga_aload_n (v := .retAddr j) hm_155 rfl rfl rfl ?_
  have b1_ : 0 ≤ F 1 7 ∧ F 1 7 ≤ 600 := gi_g hgi rfl
  refine gVi (nY := 4) (F := 6) (L := 100) (As := [.retAddr j]) (b := 1) (rest := []) hm_155 rfl hm_152 rfl rfl (fl_ob sc_1) rfl rfl rfl rfl rfl (by omega) (by omega) (mc_152 hG F X hgi (K) (j) (w) hgK hK hko (by omega) (ht) (hw)) (fun _ _ h => False.elim h) ?_
  rintro z2_ A1_ (⟨hA_, hz_, c3_⟩ | ⟨hA_, hz_, c4_⟩)
  ·
    subst hA_
    subst hz_
    refine fl_if_ne hm_155 rfl ⟨by omega, by omega⟩ (fun h => absurd h (by omega)) (fun _ => ?_)
    refine ga_aload_n (v := .ref 1) hm_155 rfl rfl rfl ?_
    refine fl_iconst hm_155 rfl ?_
    refine gIv (nY := 2) (F := 6) (L := 100) (As := [.int (Int32.ofInt 1)]) (b := 1) (rest := []) hm_155 rfl hm_25 rfl rfl (fl_ob sc_1) rfl rfl rfl rfl rfl (by omega) (by omega) ?_
    intro f5_ l6_ h7_ h8_
    show fl_R xi_ms 25 f5_ l6_ 0 [(0, .ref 1), (1, .int (Int32.ofInt 1))] [] _ _
    refine ga_aload_n (v := .ref 1) hm_25 rfl rfl rfl ?_
    refine ga_iload_n (z := 1) hm_25 rfl rfl ?_
    refine fl_bipush hm_25 rfl rfl ?_
    refine ga_aload_n (v := .ref 1) hm_25 rfl rfl rfl ?_
    refine ga_getr (b := 4) hm_25 rfl sc_1 rfl ?_
    refine ga_aload_n (v := .ref 1) hm_25 rfl rfl rfl ?_
    refine ga_geti (z := F 1 7) hm_25 rfl sc_1 rfl (rfl) ?_
    have e9_ : F 4 (F 1 7).toNat = K 4 (F 1 7).toNat := hK.1 4 (F 1 7).toNat (by omega)
    have b10_ : 0 ≤ K 4 (F 1 7).toNat ∧ K 4 (F 1 7).toNat ≤ 600 := gi_g hgK rfl
    refine ga_iald (z := F 1 7) (w := K 4 (F 1 7).toNat) hm_25 rfl sc_4 (by omega) (by omega) (by omega) (e9_) ?_
    refine ga_imul (a := 10) (b := K 4 (F 1 7).toNat) (c := 10 * (K 4 (F 1 7).toNat)) hm_25 rfl (by omega) ?_
    refine ga_iadd (a := 1) (b := 10 * (K 4 (F 1 7).toNat)) (c := 10 * (K 4 (F 1 7).toNat) + 1) hm_25 rfl (by omega) ?_
    refine ga_puti (z := 10 * (K 4 (F 1 7).toNat) + 1) hm_25 rfl sc_1 rfl rfl ?_
    obtain ⟨F11_, q12_⟩ : ∃ F9_, F9_ = (fl_u F 1 8 (10 * (K 4 (F 1 7).toNat) + 1)) := ⟨_, rfl⟩
    rw [← q12_]
    have g13_ : gi F11_ := by rw [q12_]; exact gi_u (hgi) rfl (by omega) (by omega)
    have g14_ : fs [(1, 1, 7, 8)] F F11_ := by rw [q12_]; exact fs_u (fs_refl) rfl
    have tk15_ : tkh K F11_ := by rw [q12_]; exact tkh_u (hK) (by omega) (by omega)
    refine fl_thr hm_25 rfl rfl (by omega) (by omega) (Nat.le_of_ble_eq_true rfl) (fl_pos sc_0) ?_
    refine gw_v ⟨rfl, ?_⟩
    refine gw_v ?_
    have e16_ : F11_ 1 8 = 10 * (K 4 (F 1 7).toNat) + 1 := by rw [q12_]; exact fl_u_eq
    exact ⟨F11_, ⟨ga_len.symm, (List.append_assoc _ _ _).symm⟩, g13_, g14_, (⟨(1, K 4 (F 1 7).toNat), by simp [sp_word, pf, pb, *]; try omega, by show _ = (1 : Int) + 10 * K 4 (F 1 7).toNat; omega⟩)⟩
  subst hA_
  subst hz_
  refine fl_if_ne hm_155 rfl ⟨by omega, by omega⟩ (fun _ => ?_) (fun h => absurd (by omega) h)
  refine ga_aload_n (v := .ref 1) hm_155 rfl rfl rfl ?_
  refine gVv (nY := 1) (F := 0) (L := 0) (As := []) (b := 1) (rest := []) hm_155 rfl hm_154 rfl rfl (fl_ob sc_1) rfl rfl rfl rfl rfl (by omega) (by omega) (mc_154 hG F X hgi (K) hgK hK hko (by omega)) (fun _ _ h => False.elim h) ?_
  rintro A1_ ⟨F20_, hA_, g21_, s22_, c18_, c19_⟩
  subst hA_
  have g23_ : fs [(1, 1, 7, 8)] F F20_ := fs_tr fs_refl s22_ rfl
  have tk24_ : tkh K F20_ := tkh_fs hK s22_ (fun r k h => (fs_n (by omega) rfl)) (fs_n (by omega) rfl)
  refine gr_v hm_155 rfl rfl ?_
  have b25_ : 0 ≤ F20_ 1 7 ∧ F20_ 1 7 ≤ 600 := gi_g g21_ rfl
  exact ⟨F20_, rfl, g21_, g23_, (by simp [sp_word, pf, pb, *]; try omega), (by omega)⟩
/- CheapPlanner$Names.add -/
abbrev pq_108 (G : Nat → Nat → Option Nat) (F : fl_N) (X : xi_H) (a n : Nat) (c : Int) (l tl : List Int) : Outcome → xi_H → Prop := gqv (fun A => ∃ F' : fl_N, fl_H sh_T G F' ++ X = A ∧ gi F' ∧ fs [(a, a + 2, 0, 100000)] F F' ∧ (rep (F' (a + 1)) (F' a 2) (l ++ [c])) ∧ (rep (F' (a + 2)) (F' a 2) (tl ++ [-1]))) gqn
theorem mc_108 {G : Nat → Nat → Option Nat} (hG : gg G) (F : fl_N) (X : xi_H) (hgi : gi F) (a n : Nat) (c : Int) (l tl : List Int) (h_a : nm a n) (hc : -9223372036854775808 ≤ c ∧ c ≤ 9223372036854775807) (hl : rep (F (a + 1)) (F a 2) l) (htl : rep (F (a + 2)) (F a 2) tl) (hr : (l.length : Int) < (n : Int)) : fl_M xi_ms 108 0 0 [.ref a, .long (Int64.ofInt c)] (fl_H sh_T G F ++ X) (pq_108 G F X a n c l tl) := by
  intro fr lo hfr hlo
  show fl_R xi_ms 108 fr lo 0 [(0, .ref a), (1, .long (Int64.ofInt c))] [] _ _
  have hl1 := hl.1
  have hr_a := h_a.2.2
  refine ga_aload_n (v := .ref a) hm_108 rfl rfl rfl ?_
  have b1_ : 0 ≤ F a 2 ∧ F a 2 ≤ (n : Int) := gi_g hgi h_a.2.1.1
  refine ga_geti (z := F a 2) hm_108 rfl h_a.1.1 rfl (rfl) ?_
  refine ga_aload_n (v := .ref a) hm_108 rfl rfl rfl ?_
  refine ga_getr (b := a + 1) hm_108 rfl h_a.1.1 rfl ?_
  refine fl_alen hm_108 rfl ⟨_, fl_at h_a.1.2.1⟩ rfl ?_
  refine fl_icmp_ge (a := F a 2) (b := (n : Int)) hm_108 rfl ⟨by omega, by omega⟩ ⟨by omega, by omega⟩ (fun h2_ => ?_) (fun h3_ => ?_)
  ·
    refine gr_v hm_108 rfl rfl ?_
    exact ⟨F, rfl, hgi, fs_refl, (by exfalso; omega), (by exfalso; omega)⟩
  refine ga_aload_n (v := .ref a) hm_108 rfl rfl rfl ?_
  refine ga_getr (b := a + 1) hm_108 rfl h_a.1.1 rfl ?_
  refine ga_aload_n (v := .ref a) hm_108 rfl rfl rfl ?_
  refine ga_geti (z := F a 2) hm_108 rfl h_a.1.1 rfl (rfl) ?_
  refine ga_lload_n (z := c) hm_108 rfl rfl ?_
  refine fl_last (z := F a 2) (v := c) hm_108 rfl h_a.1.2.1 (by omega) (by omega) (by omega) ?_
  refine ga_aload_n (v := .ref a) hm_108 rfl rfl rfl ?_
  refine ga_getr (b := a + 2) hm_108 rfl h_a.1.1 rfl ?_
  refine ga_aload_n (v := .ref a) hm_108 rfl rfl rfl ?_
  refine ga_geti (z := F a 2) hm_108 rfl h_a.1.1 rfl (fl_u_ne (by omega)) ?_
  refine fl_iconst hm_108 rfl ?_
  refine fl_iast (z := F a 2) (v := -1) hm_108 rfl h_a.1.2.2 (by omega) (by omega) (by omega) ?_
  refine ga_aload_n (v := .ref a) hm_108 rfl rfl rfl ?_
  refine ga_dup hm_108 rfl rfl ?_
  refine ga_geti (z := F a 2) hm_108 rfl h_a.1.1 rfl ((fl_u_ne (by omega)).trans (fl_u_ne (by omega))) ?_
  refine fl_iconst hm_108 rfl ?_
  refine ga_iadd (a := F a 2) (b := 1) (c := F a 2 + 1) hm_108 rfl (by omega) ?_
  refine ga_puti (z := F a 2 + 1) hm_108 rfl h_a.1.1 rfl rfl ?_
  obtain ⟨F4_, q5_⟩ : ∃ F9_, F9_ = (fl_u (fl_u (fl_u F (a + 1) (F a 2).toNat c) (a + 2) (F a 2).toNat (-1)) a 2 (F a 2 + 1)) := ⟨_, rfl⟩
  rw [← q5_]
  have g6_ : gi F4_ := by rw [q5_]; exact gi_u (gi_u (gi_u (hgi) (gb_a h_a.2.1.2.2) (by omega) (by omega)) (gb_a h_a.2.1.2.1) (by omega) (by omega)) h_a.2.1.1 (by omega) (by omega)
  have g7_ : fs [(a, a + 2, 0, 100000)] F F4_ := by rw [q5_]; exact fs_u (fs_u (fs_u (fs_refl) (fs_y (by omega))) (fs_y (by omega))) (fs_y (by omega))
  refine gr_v hm_108 rfl rfl ?_
  have e8_ : F4_ a 2 = F a 2 + 1 := by rw [q5_]; exact fl_u_eq
  exact ⟨F4_, rfl, g6_, g7_, (by rw [q5_]; exact na_l hl), (by rw [q5_]; exact na_t htl)⟩
/- CheapPlanner$Reader.readNew -/
abbrev pq_121 (G : Nat → Nat → Option Nat) (F : fl_N) (X : xi_H) (K : fl_N) (a n : Nat) (k : Int) (l tl : List Int) : Outcome → xi_H → Prop := gqv (fun A => ∃ F' : fl_N, fl_H sh_T G F' ++ X = A ∧ gi F' ∧ fs [(1, 1, 7, 8), (a, a + 2, 0, 100000)] F F' ∧ (sp_new K k l (F 1 7) = .inr (F' 1 7, l ++ [K 6 (F 1 7).toNat])) ∧ (0 ≤ F' 1 7 ∧ F' 1 7 ≤ K 1 6 - 1) ∧ (rep (F' (a + 1)) (F' a 2) (l ++ [K 6 (F 1 7).toNat])) ∧ (rep (F' (a + 2)) (F' a 2) (tl ++ [-1]))) (fun j A => ∃ F' : fl_N, (387 + X.length = j ∧ fl_H sh_T G F' ++ (X ++ [gx 14]) = A) ∧ gi F' ∧ fs [(1, 1, 7, 8), (a, a + 2, 0, 100000)] F F' ∧ (∃ e, sp_new K k l (F 1 7) = .inl e ∧ F' 1 8 = e.1 + 10 * e.2))
theorem mc_121 {G : Nat → Nat → Option Nat} (hG : gg G) (F : fl_N) (X : xi_H) (hgi : gi F) (K : fl_N) (a n : Nat) (k : Int) (l tl : List Int) (hgK : gi K) (hK : tkh K F) (hko : tko K) (hp : 0 ≤ F 1 7 ∧ F 1 7 ≤ K 1 6 - 1) (h_a : nm a n) (hk : 0 ≤ k ∧ k ≤ 5) (hl : rep (F (a + 1)) (F a 2) l) (htl : rep (F (a + 2)) (F a 2) tl) (hr : (l.length : Int) < (n : Int)) : fl_M xi_ms 121 7 121 [.ref 118, .ref a, .int (Int32.ofInt k)] (fl_H sh_T G F ++ X) (pq_121 G F X K a n k l tl) := by
  intro fr lo hfr hlo
  show fl_R xi_ms 121 fr lo 0 [(0, .ref 118), (1, .ref a), (2, .int (Int32.ofInt k))] [] _ _
  have hr_a := h_a.2.2
  refine ga_aload_n (v := .ref 118) hm_121 rfl rfl rfl ?_
  refine ga_getr (b := 1) hm_121 rfl sc_118 rfl ?_
  refine ga_iload_n (z := k) hm_121 rfl rfl ?_
  refine gIi (nY := 2) (F := 0) (L := 0) (As := [.int (Int32.ofInt k)]) (b := 1) (rest := []) hm_121 rfl hm_153 rfl rfl (fl_ob sc_1) rfl rfl rfl rfl rfl (by omega) (by omega) ?_
  intro f1_ l2_ h3_ h4_
  show fl_R xi_ms 153 f1_ l2_ 0 [(0, .ref 1), (1, .int (Int32.ofInt k))] [] _ _
  refine ga_aload_n (v := .ref 1) hm_153 rfl rfl rfl ?_
  refine ga_getr (b := 3) hm_153 rfl sc_1 rfl ?_
  refine ga_aload_n (v := .ref 1) hm_153 rfl rfl rfl ?_
  have b5_ : 0 ≤ F 1 7 ∧ F 1 7 ≤ 600 := gi_g hgi rfl
  refine ga_geti (z := F 1 7) hm_153 rfl sc_1 rfl (rfl) ?_
  have e6_ : F 3 (F 1 7).toNat = K 3 (F 1 7).toNat := hK.1 3 (F 1 7).toNat (by omega)
  have b7_ : 0 ≤ K 3 (F 1 7).toNat ∧ K 3 (F 1 7).toNat ≤ 5 := gi_g hgK rfl
  refine ga_iald (z := F 1 7) (w := K 3 (F 1 7).toNat) hm_153 rfl sc_3 (by omega) (by omega) (by omega) (e6_) ?_
  refine ga_iload_n (z := k) hm_153 rfl rfl ?_
  refine fx_icmp_ne (a := K 3 (F 1 7).toNat) (b := k) hm_153 rfl ⟨by omega, by omega⟩ ⟨by omega, by omega⟩ (fun h8_ => ?_) (fun h9_ => ?_)
  ·
    refine fl_iconst hm_153 rfl ?_
    refine gr_i hm_153 rfl rfl (ga_nb (by omega)) ?_
    refine fl_if_ne hm_121 rfl ⟨by omega, by omega⟩ (fun h => absurd h (by omega)) (fun _ => ?_)
    refine ga_aload_n (v := .ref 118) hm_121 rfl rfl rfl ?_
    refine ga_getr (b := 1) hm_121 rfl sc_118 rfl ?_
    refine fl_iconst hm_121 rfl ?_
    refine gIv (nY := 2) (F := 6) (L := 100) (As := [.int (Int32.ofInt 1)]) (b := 1) (rest := []) hm_121 rfl hm_25 rfl rfl (fl_ob sc_1) rfl rfl rfl rfl rfl (by omega) (by omega) ?_
    intro f10_ l11_ h12_ h13_
    show fl_R xi_ms 25 f10_ l11_ 0 [(0, .ref 1), (1, .int (Int32.ofInt 1))] [] _ _
    refine ga_aload_n (v := .ref 1) hm_25 rfl rfl rfl ?_
    refine ga_iload_n (z := 1) hm_25 rfl rfl ?_
    refine fl_bipush hm_25 rfl rfl ?_
    refine ga_aload_n (v := .ref 1) hm_25 rfl rfl rfl ?_
    refine ga_getr (b := 4) hm_25 rfl sc_1 rfl ?_
    refine ga_aload_n (v := .ref 1) hm_25 rfl rfl rfl ?_
    refine ga_geti (z := F 1 7) hm_25 rfl sc_1 rfl (rfl) ?_
    have e14_ : F 4 (F 1 7).toNat = K 4 (F 1 7).toNat := hK.1 4 (F 1 7).toNat (by omega)
    have b15_ : 0 ≤ K 4 (F 1 7).toNat ∧ K 4 (F 1 7).toNat ≤ 600 := gi_g hgK rfl
    refine ga_iald (z := F 1 7) (w := K 4 (F 1 7).toNat) hm_25 rfl sc_4 (by omega) (by omega) (by omega) (e14_) ?_
    refine ga_imul (a := 10) (b := K 4 (F 1 7).toNat) (c := 10 * (K 4 (F 1 7).toNat)) hm_25 rfl (by omega) ?_
    refine ga_iadd (a := 1) (b := 10 * (K 4 (F 1 7).toNat)) (c := 10 * (K 4 (F 1 7).toNat) + 1) hm_25 rfl (by omega) ?_
    refine ga_puti (z := 10 * (K 4 (F 1 7).toNat) + 1) hm_25 rfl sc_1 rfl rfl ?_
    obtain ⟨F16_, q17_⟩ : ∃ F9_, F9_ = (fl_u F 1 8 (10 * (K 4 (F 1 7).toNat) + 1)) := ⟨_, rfl⟩
    rw [← q17_]
    have g18_ : gi F16_ := by rw [q17_]; exact gi_u (hgi) rfl (by omega) (by omega)
    have g19_ : fs [(1, 1, 7, 8), (a, a + 2, 0, 100000)] F F16_ := by rw [q17_]; exact fs_u (fs_refl) (fs_y (by omega))
    have tk20_ : tkh K F16_ := by rw [q17_]; exact tkh_u (hK) (by omega) (by omega)
    refine fl_thr hm_25 rfl rfl (by omega) (by omega) (Nat.le_of_ble_eq_true rfl) (fl_pos sc_0) ?_
    refine gw_v ⟨rfl, ?_⟩
    refine gw_v ?_
    have e21_ : F16_ 1 8 = 10 * (K 4 (F 1 7).toNat) + 1 := by rw [q17_]; exact fl_u_eq
    exact ⟨F16_, ⟨ga_len.symm, (List.append_assoc _ _ _).symm⟩, g18_, g19_, (⟨(1, K 4 (F 1 7).toNat), by simp [sp_new, pf, pb, *]; try omega, by show _ = (1 : Int) + 10 * K 4 (F 1 7).toNat; omega⟩)⟩
  refine fl_iconst hm_153 rfl ?_
  refine fl_goto hm_153 rfl ?_
  refine gr_i hm_153 rfl rfl (ga_nb (by omega)) ?_
  refine fl_if_ne hm_121 rfl ⟨by omega, by omega⟩ (fun _ => ?_) (fun h => absurd (by omega) h)
  refine ga_aload_n (v := .ref a) hm_121 rfl rfl rfl ?_
  refine ga_aload_n (v := .ref 118) hm_121 rfl rfl rfl ?_
  refine ga_getr (b := 1) hm_121 rfl sc_118 rfl ?_
  refine gIl (nY := 1) (F := 0) (L := 0) (As := []) (b := 1) (rest := [.ref a]) hm_121 rfl hm_149 rfl rfl (fl_ob sc_1) rfl rfl rfl rfl rfl (by omega) (by omega) ?_
  intro f22_ l23_ h24_ h25_
  show fl_R xi_ms 149 f22_ l23_ 0 [(0, .ref 1)] [] _ _
  refine ga_aload_n (v := .ref 1) hm_149 rfl rfl rfl ?_
  refine ga_getr (b := 6) hm_149 rfl sc_1 rfl ?_
  refine ga_aload_n (v := .ref 1) hm_149 rfl rfl rfl ?_
  refine ga_geti (z := F 1 7) hm_149 rfl sc_1 rfl (rfl) ?_
  have e26_ : F 6 (F 1 7).toNat = K 6 (F 1 7).toNat := hK.1 6 (F 1 7).toNat (by omega)
  have b27_ : -9223372036854775808 ≤ K 6 (F 1 7).toNat ∧ K 6 (F 1 7).toNat ≤ 9223372036854775807 := gi_g hgK rfl
  refine ga_lald (z := F 1 7) (w := K 6 (F 1 7).toNat) hm_149 rfl sc_6 (by omega) (by omega) (by omega) (e26_) ?_
  refine gr_l hm_149 rfl rfl ?_
  refine gVi (nY := 4) (F := 0) (L := 0) (As := [.long (Int64.ofInt (K 6 (F 1 7).toNat))]) (b := a) (rest := []) hm_121 rfl hm_109 rfl rfl (fl_ob h_a.1.1) rfl rfl rfl rfl rfl (by omega) (by omega) (mc_109 hG F X hgi (a) (n) (K 6 (F 1 7).toNat) h_a (by omega)) (fun _ _ h => False.elim h) ?_
  have b29_ : 0 ≤ F a 2 ∧ F a 2 ≤ (n : Int) := gi_g hgi h_a.2.1.1
  rintro z28_ A1_ ⟨hA_, c30_, c31_, c32_⟩
  subst hA_
  have hix := idx_find hl c30_ c31_ c32_
  refine fl_if_lt (a := z28_) hm_121 rfl ⟨by omega, by omega⟩ (fun h33_ => ?_) (fun h34_ => ?_)
  ·
    refine ga_aload_n (v := .ref a) hm_121 rfl rfl rfl ?_
    refine ga_aload_n (v := .ref 118) hm_121 rfl rfl rfl ?_
    refine ga_getr (b := 1) hm_121 rfl sc_118 rfl ?_
    refine gIl (nY := 1) (F := 0) (L := 0) (As := []) (b := 1) (rest := [.ref a]) hm_121 rfl hm_149 rfl rfl (fl_ob sc_1) rfl rfl rfl rfl rfl (by omega) (by omega) ?_
    intro f35_ l36_ h37_ h38_
    show fl_R xi_ms 149 f35_ l36_ 0 [(0, .ref 1)] [] _ _
    refine ga_aload_n (v := .ref 1) hm_149 rfl rfl rfl ?_
    refine ga_getr (b := 6) hm_149 rfl sc_1 rfl ?_
    refine ga_aload_n (v := .ref 1) hm_149 rfl rfl rfl ?_
    refine ga_geti (z := F 1 7) hm_149 rfl sc_1 rfl (rfl) ?_
    refine ga_lald (z := F 1 7) (w := K 6 (F 1 7).toNat) hm_149 rfl sc_6 (by omega) (by omega) (by omega) (e26_) ?_
    refine gr_l hm_149 rfl rfl ?_
    refine gVv (nY := 3) (F := 0) (L := 0) (As := [.long (Int64.ofInt (K 6 (F 1 7).toNat))]) (b := a) (rest := []) hm_121 rfl hm_108 rfl rfl (fl_ob h_a.1.1) rfl rfl rfl rfl rfl (by omega) (by omega) (mc_108 hG F X hgi (a) (n) (K 6 (F 1 7).toNat) (l) (tl) h_a (by omega) (hl) (htl) (by omega)) (fun _ _ h => False.elim h) ?_
    rintro A1_ ⟨F42_, hA_, g43_, s44_, c40_, c41_⟩
    subst hA_
    have g45_ : fs [(1, 1, 7, 8), (a, a + 2, 0, 100000)] F F42_ := fs_tr fs_refl s44_ (by simp [fs_le])
    have tk46_ : tkh K F42_ := tkh_fs hK s44_ (fun r k h => (fs_n (by omega) rfl)) (fs_n (by omega) rfl)
    refine ga_aload_n (v := .ref 118) hm_121 rfl rfl rfl ?_
    refine ga_getr (b := 1) hm_121 rfl sc_118 rfl ?_
    have e47_ : F42_ 1 7 = F 1 7 := (s44_ 1 7 (fs_n (by omega) rfl)).trans (rfl)
    refine gVv (nY := 1) (F := 0) (L := 0) (As := []) (b := 1) (rest := []) hm_121 rfl hm_154 rfl rfl (fl_ob sc_1) rfl rfl rfl rfl rfl (by omega) (by omega) (mc_154 hG F42_ X g43_ (K) hgK tk46_ hko (by omega)) (fun _ _ h => False.elim h) ?_
    rintro A1_ ⟨F51_, hA_, g52_, s53_, c49_, c50_⟩
    subst hA_
    have g54_ : fs [(1, 1, 7, 8), (a, a + 2, 0, 100000)] F F51_ := fs_tr g45_ s53_ (by simp [fs_le])
    have tk55_ : tkh K F51_ := tkh_fs tk46_ s53_ (fun r k h => (fs_n (by omega) rfl)) (fs_n (by omega) rfl)
    refine gr_v hm_121 rfl rfl ?_
    have b56_ : 0 ≤ F51_ 1 7 ∧ F51_ 1 7 ≤ 600 := gi_g g52_ rfl
    have e57_ : F51_ a 2 = F42_ a 2 := (s53_ a 2 (fs_n (by omega) rfl)).trans (rfl)
    have b58_ : 0 ≤ F42_ a 2 ∧ F42_ a 2 ≤ (n : Int) := gi_g g43_ h_a.2.1.1
    exact ⟨F51_, rfl, g52_, g54_, (by simp [sp_new, pf, pb, *]; try omega), (by omega), ((rep_fs c40_ s53_ (fun _ => (fs_n (by omega) rfl)) (fs_n (by omega) rfl))), ((rep_fs c41_ s53_ (fun _ => (fs_n (by omega) rfl)) (fs_n (by omega) rfl)))⟩
  refine ga_aload_n (v := .ref 118) hm_121 rfl rfl rfl ?_
  refine ga_getr (b := 1) hm_121 rfl sc_118 rfl ?_
  refine fl_iconst hm_121 rfl ?_
  refine gIv (nY := 2) (F := 6) (L := 100) (As := [.int (Int32.ofInt 2)]) (b := 1) (rest := []) hm_121 rfl hm_25 rfl rfl (fl_ob sc_1) rfl rfl rfl rfl rfl (by omega) (by omega) ?_
  intro f59_ l60_ h61_ h62_
  show fl_R xi_ms 25 f59_ l60_ 0 [(0, .ref 1), (1, .int (Int32.ofInt 2))] [] _ _
  refine ga_aload_n (v := .ref 1) hm_25 rfl rfl rfl ?_
  refine ga_iload_n (z := 2) hm_25 rfl rfl ?_
  refine fl_bipush hm_25 rfl rfl ?_
  refine ga_aload_n (v := .ref 1) hm_25 rfl rfl rfl ?_
  refine ga_getr (b := 4) hm_25 rfl sc_1 rfl ?_
  refine ga_aload_n (v := .ref 1) hm_25 rfl rfl rfl ?_
  refine ga_geti (z := F 1 7) hm_25 rfl sc_1 rfl (rfl) ?_
  have e63_ : F 4 (F 1 7).toNat = K 4 (F 1 7).toNat := hK.1 4 (F 1 7).toNat (by omega)
  have b64_ : 0 ≤ K 4 (F 1 7).toNat ∧ K 4 (F 1 7).toNat ≤ 600 := gi_g hgK rfl
  refine ga_iald (z := F 1 7) (w := K 4 (F 1 7).toNat) hm_25 rfl sc_4 (by omega) (by omega) (by omega) (e63_) ?_
  refine ga_imul (a := 10) (b := K 4 (F 1 7).toNat) (c := 10 * (K 4 (F 1 7).toNat)) hm_25 rfl (by omega) ?_
  refine ga_iadd (a := 2) (b := 10 * (K 4 (F 1 7).toNat)) (c := 10 * (K 4 (F 1 7).toNat) + 2) hm_25 rfl (by omega) ?_
  refine ga_puti (z := 10 * (K 4 (F 1 7).toNat) + 2) hm_25 rfl sc_1 rfl rfl ?_
  obtain ⟨F65_, q66_⟩ : ∃ F9_, F9_ = (fl_u F 1 8 (10 * (K 4 (F 1 7).toNat) + 2)) := ⟨_, rfl⟩
  rw [← q66_]
  have g67_ : gi F65_ := by rw [q66_]; exact gi_u (hgi) rfl (by omega) (by omega)
  have g68_ : fs [(1, 1, 7, 8), (a, a + 2, 0, 100000)] F F65_ := by rw [q66_]; exact fs_u (fs_refl) (fs_y (by omega))
  have tk69_ : tkh K F65_ := by rw [q66_]; exact tkh_u (hK) (by omega) (by omega)
  refine fl_thr hm_25 rfl rfl (by omega) (by omega) (Nat.le_of_ble_eq_true rfl) (fl_pos sc_0) ?_
  refine gw_v ⟨rfl, ?_⟩
  refine gw_v ?_
  have e70_ : F65_ 1 8 = 10 * (K 4 (F 1 7).toNat) + 2 := by rw [q66_]; exact fl_u_eq
  exact ⟨F65_, ⟨ga_len.symm, (List.append_assoc _ _ _).symm⟩, g67_, g68_, (⟨(2, K 4 (F 1 7).toNat), by simp [sp_new, pf, pb, *]; try omega, by show _ = (2 : Int) + 10 * K 4 (F 1 7).toNat; omega⟩)⟩

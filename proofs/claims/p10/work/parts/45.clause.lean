/- CheapPlanner$Clause.add -/
abbrev pq_86 (G : Nat → Nat → Option Nat) (F : fl_N) (X : xi_H) (b nb : Nat) (t q pr nt f1 s1 m : Int) (L : List lt_T) : Outcome → xi_H → Prop := gqv (fun A => ∃ F' : fl_N, fl_H sh_T G F' ++ X = A ∧ gi F' ∧ fs [(b, b, 4, 4), (b + 1, b + 4, 0, 100000)] F F' ∧ (cw F' b m) ∧ (clr F' b (L ++ [(pr, nt, f1, s1)]))) gqn
theorem mc_86 {G : Nat → Nat → Option Nat} (hG : gg G) (F : fl_N) (X : xi_H) (hgi : gi F) (b nb : Nat) (t q pr nt f1 s1 m : Int) (L : List lt_T) (h_b : cl b nb t q) (hpr : q ≤ pr ∧ pr ≤ 5) (hnt : nt = 0 ∨ nt = 1) (hf : -1 ≤ f1 ∧ f1 < m ∧ f1 ≤ t) (hs : -1 ≤ s1 ∧ s1 < m ∧ s1 ≤ t) (he : pr = -1 → 0 ≤ f1 ∧ 0 ≤ s1) (hcw : cw F b m) (hcr : clr F b L) (hrm : (L.length : Int) < (nb : Int)) : fl_M xi_ms 86 0 0 [.ref b, .int (Int32.ofInt pr), .int (Int32.ofInt nt), .int (Int32.ofInt f1), .int (Int32.ofInt s1)] (fl_H sh_T G F ++ X) (pq_86 G F X b nb t q pr nt f1 s1 m L) := by
  intro fr lo hfr hlo
  show fl_R xi_ms 86 fr lo 0 [(0, .ref b), (1, .int (Int32.ofInt pr)), (2, .int (Int32.ofInt nt)), (3, .int (Int32.ofInt f1)), (4, .int (Int32.ofInt s1))] [] _ _
  have hr_b := h_b.2.2
  refine ga_aload_n (v := .ref b) hm_86 rfl rfl rfl ?_
  have b1_ : 0 ≤ F b 4 ∧ F b 4 ≤ (nb : Int) := gi_g hgi h_b.2.1.1
  refine ga_geti (z := F b 4) hm_86 rfl h_b.1.1 rfl (rfl) ?_
  refine ga_aload_n (v := .ref b) hm_86 rfl rfl rfl ?_
  refine ga_getr (b := b + 1) hm_86 rfl h_b.1.1 rfl ?_
  refine fl_alen hm_86 rfl ⟨_, fl_at h_b.1.2.1⟩ rfl ?_
  refine fl_icmp_ge (a := F b 4) (b := (nb : Int)) hm_86 rfl ⟨by omega, by omega⟩ ⟨by omega, by omega⟩ (fun h2_ => ?_) (fun h3_ => ?_)
  ·
    refine gr_v hm_86 rfl rfl ?_
    exact ⟨F, rfl, hgi, fs_refl, (hcw), (by exfalso; have h9_ := hcr.1; omega)⟩
  refine ga_aload_n (v := .ref b) hm_86 rfl rfl rfl ?_
  refine ga_getr (b := b + 1) hm_86 rfl h_b.1.1 rfl ?_
  refine ga_aload_n (v := .ref b) hm_86 rfl rfl rfl ?_
  refine ga_geti (z := F b 4) hm_86 rfl h_b.1.1 rfl (rfl) ?_
  refine ga_iload_n (z := pr) hm_86 rfl rfl ?_
  refine fl_iast (z := F b 4) (v := pr) hm_86 rfl h_b.1.2.1 (by omega) (by omega) (by omega) ?_
  refine ga_aload_n (v := .ref b) hm_86 rfl rfl rfl ?_
  refine ga_getr (b := b + 2) hm_86 rfl h_b.1.1 rfl ?_
  refine ga_aload_n (v := .ref b) hm_86 rfl rfl rfl ?_
  refine ga_geti (z := F b 4) hm_86 rfl h_b.1.1 rfl (fl_u_ne (by omega)) ?_
  refine ga_iload_n (z := nt) hm_86 rfl rfl ?_
  refine fl_zast (z := F b 4) (v := nt) hm_86 rfl h_b.1.2.2.1 (by omega) (by omega) (by omega) (ga_vb (by omega)) ?_
  refine ga_aload_n (v := .ref b) hm_86 rfl rfl rfl ?_
  refine ga_getr (b := b + 3) hm_86 rfl h_b.1.1 rfl ?_
  refine ga_aload_n (v := .ref b) hm_86 rfl rfl rfl ?_
  refine ga_geti (z := F b 4) hm_86 rfl h_b.1.1 rfl ((fl_u_ne (by omega)).trans (fl_u_ne (by omega))) ?_
  refine ga_iload_n (z := f1) hm_86 rfl rfl ?_
  refine fl_iast (z := F b 4) (v := f1) hm_86 rfl h_b.1.2.2.2.1 (by omega) (by omega) (by omega) ?_
  refine ga_aload_n (v := .ref b) hm_86 rfl rfl rfl ?_
  refine ga_getr (b := b + 4) hm_86 rfl h_b.1.1 rfl ?_
  refine ga_aload_n (v := .ref b) hm_86 rfl rfl rfl ?_
  refine ga_geti (z := F b 4) hm_86 rfl h_b.1.1 rfl ((fl_u_ne (by omega)).trans ((fl_u_ne (by omega)).trans (fl_u_ne (by omega)))) ?_
  refine ga_iload (z := s1) hm_86 rfl rfl ?_
  refine fl_iast (z := F b 4) (v := s1) hm_86 rfl h_b.1.2.2.2.2 (by omega) (by omega) (by omega) ?_
  refine ga_aload_n (v := .ref b) hm_86 rfl rfl rfl ?_
  refine ga_dup hm_86 rfl rfl ?_
  refine ga_geti (z := F b 4) hm_86 rfl h_b.1.1 rfl ((fl_u_ne (by omega)).trans ((fl_u_ne (by omega)).trans ((fl_u_ne (by omega)).trans (fl_u_ne (by omega))))) ?_
  refine fl_iconst hm_86 rfl ?_
  refine ga_iadd (a := F b 4) (b := 1) (c := F b 4 + 1) hm_86 rfl (by omega) ?_
  refine ga_puti (z := F b 4 + 1) hm_86 rfl h_b.1.1 rfl rfl ?_
  obtain ⟨F4_, q5_⟩ : ∃ F9_, F9_ = (fl_u (fl_u (fl_u (fl_u (fl_u F (b + 1) (F b 4).toNat pr) (b + 2) (F b 4).toNat nt) (b + 3) (F b 4).toNat f1) (b + 4) (F b 4).toNat s1) b 4 (F b 4 + 1)) := ⟨_, rfl⟩
  rw [← q5_]
  have g6_ : gi F4_ := by rw [q5_]; exact gi_u (gi_u (gi_u (gi_u (gi_u (hgi) (gb_a h_b.2.1.2.2.1) (by omega) (by omega)) (gb_a h_b.2.1.2.2.2.1) (by omega) (by omega)) (gb_a h_b.2.1.2.2.2.2.1) (by omega) (by omega)) (gb_a h_b.2.1.2.2.2.2.2) (by omega) (by omega)) h_b.2.1.1 (by omega) (by omega)
  have g7_ : fs [(b, b, 4, 4), (b + 1, b + 4, 0, 100000)] F F4_ := by rw [q5_]; exact fs_u (fs_u (fs_u (fs_u (fs_u (fs_refl) (fs_z (fs_y (by omega)))) (fs_z (fs_y (by omega)))) (fs_z (fs_y (by omega)))) (fs_z (fs_y (by omega)))) (fs_y (by omega))
  refine gr_v hm_86 rfl rfl ?_
  exact ⟨F4_, rfl, g6_, g7_, (by rw [q5_]; exact cw_add hcw (by omega) (by omega) (by omega)), (by rw [q5_]; exact clr_add hcr)⟩
/- CheapPlanner$ClauseReader.readTerm -/
abbrev pq_94 (G : Nat → Nat → Option Nat) (F : fl_N) (X : xi_H) (K : fl_N) (a n : Nat) (k w : Int) (l tl : List Int) : Outcome → xi_H → Prop := gqi (fun z A => ∃ F' : fl_N, fl_H sh_T G F' ++ X = A ∧ gi F' ∧ fs [(1, 1, 7, 7)] F F' ∧ (sp_term K k l tl w (F 1 7) = .inr (F' 1 7)) ∧ (0 ≤ F' 1 7 ∧ F' 1 7 ≤ K 1 6 - 1) ∧ (0 ≤ z ∧ z < (l.length : Int) ∧ (l.length : Int) ≤ (n : Int)) ∧ (idx l (K 6 (F 1 7).toNat) = z) ∧ (sk K (F 1 7) = F' 1 7)) (fun j A => ∃ F' : fl_N, (387 + X.length = j ∧ fl_H sh_T G F' ++ (X ++ [gx 14]) = A) ∧ gi F' ∧ fs [(1, 1, 7, 8)] F F' ∧ (∃ e, sp_term K k l tl w (F 1 7) = .inl e ∧ F' 1 8 = e.1 + 10 * e.2))
theorem mc_94 {G : Nat → Nat → Option Nat} (hG : gg G) (F : fl_N) (X : xi_H) (hgi : gi F) (K : fl_N) (a n : Nat) (k w : Int) (l tl : List Int) (hgK : gi K) (hK : tkh K F) (hko : tko K) (hp : 0 ≤ F 1 7 ∧ F 1 7 ≤ K 1 6 - 1) (h_a : nm a n) (hta : F 119 2 = (a : Int)) (htk2 : F 119 3 = k) (hl : rep (F (a + 1)) (F a 2) l) (htl : rep (F (a + 2)) (F a 2) tl) (hw : -1 ≤ w ∧ w ≤ 3) (hk : 2 ≤ k ∧ k ≤ 3) : fl_M xi_ms 94 7 121 [.ref 119, .int (Int32.ofInt w)] (fl_H sh_T G F ++ X) (pq_94 G F X K a n k w l tl) := by
  intro fr lo hfr hlo
  show fl_R xi_ms 94 fr lo 0 [(0, .ref 119), (1, .int (Int32.ofInt w))] [] _ _
  have hl1 := hl.1
  have htl1 := htl.1
  have hr_a := h_a.2.2
  refine ga_aload_n (v := .ref 119) hm_94 rfl rfl rfl ?_
  refine ga_getr (b := 1) hm_94 rfl sc_119 rfl ?_
  refine ga_aload_n (v := .ref 119) hm_94 rfl rfl rfl ?_
  have b1_ : 2 ≤ F 119 3 ∧ F 119 3 ≤ 3 := gi_g hgi rfl
  refine ga_geti (z := F 119 3) hm_94 rfl sc_119 rfl (rfl) ?_
  refine gIi (nY := 2) (F := 0) (L := 0) (As := [.int (Int32.ofInt (F 119 3))]) (b := 1) (rest := []) hm_94 rfl hm_153 rfl rfl (fl_ob sc_1) rfl rfl rfl rfl rfl (by omega) (by omega) ?_
  intro f2_ l3_ h4_ h5_
  show fl_R xi_ms 153 f2_ l3_ 0 [(0, .ref 1), (1, .int (Int32.ofInt (F 119 3)))] [] _ _
  refine ga_aload_n (v := .ref 1) hm_153 rfl rfl rfl ?_
  refine ga_getr (b := 3) hm_153 rfl sc_1 rfl ?_
  refine ga_aload_n (v := .ref 1) hm_153 rfl rfl rfl ?_
  have b6_ : 0 ≤ F 1 7 ∧ F 1 7 ≤ 600 := gi_g hgi rfl
  refine ga_geti (z := F 1 7) hm_153 rfl sc_1 rfl (rfl) ?_
  have e7_ : F 3 (F 1 7).toNat = K 3 (F 1 7).toNat := hK.1 3 (F 1 7).toNat (by omega)
  have b8_ : 0 ≤ K 3 (F 1 7).toNat ∧ K 3 (F 1 7).toNat ≤ 5 := gi_g hgK rfl
  refine ga_iald (z := F 1 7) (w := K 3 (F 1 7).toNat) hm_153 rfl sc_3 (by omega) (by omega) (by omega) (e7_) ?_
  refine ga_iload_n (z := F 119 3) hm_153 rfl rfl ?_
  refine fx_icmp_ne (a := K 3 (F 1 7).toNat) (b := F 119 3) hm_153 rfl ⟨by omega, by omega⟩ ⟨by omega, by omega⟩ (fun h9_ => ?_) (fun h10_ => ?_)
  ·
    refine fl_iconst hm_153 rfl ?_
    refine gr_i hm_153 rfl rfl (ga_nb (by omega)) ?_
    clear h4_ h5_ f2_ l3_
    refine fl_if_ne hm_94 rfl ⟨by omega, by omega⟩ (fun h => absurd h (by omega)) (fun _ => ?_)
    refine ga_aload_n (v := .ref 119) hm_94 rfl rfl rfl ?_
    refine ga_getr (b := 1) hm_94 rfl sc_119 rfl ?_
    refine fl_iconst hm_94 rfl ?_
    refine gIv (nY := 2) (F := 6) (L := 100) (As := [.int (Int32.ofInt 1)]) (b := 1) (rest := []) hm_94 rfl hm_25 rfl rfl (fl_ob sc_1) rfl rfl rfl rfl rfl (by omega) (by omega) ?_
    intro f11_ l12_ h13_ h14_
    show fl_R xi_ms 25 f11_ l12_ 0 [(0, .ref 1), (1, .int (Int32.ofInt 1))] [] _ _
    refine ga_aload_n (v := .ref 1) hm_25 rfl rfl rfl ?_
    refine ga_iload_n (z := 1) hm_25 rfl rfl ?_
    refine fl_bipush hm_25 rfl rfl ?_
    refine ga_aload_n (v := .ref 1) hm_25 rfl rfl rfl ?_
    refine ga_getr (b := 4) hm_25 rfl sc_1 rfl ?_
    refine ga_aload_n (v := .ref 1) hm_25 rfl rfl rfl ?_
    refine ga_geti (z := F 1 7) hm_25 rfl sc_1 rfl (rfl) ?_
    have e15_ : F 4 (F 1 7).toNat = K 4 (F 1 7).toNat := hK.1 4 (F 1 7).toNat (by omega)
    have b16_ : 0 ≤ K 4 (F 1 7).toNat ∧ K 4 (F 1 7).toNat ≤ 600 := gi_g hgK rfl
    refine ga_iald (z := F 1 7) (w := K 4 (F 1 7).toNat) hm_25 rfl sc_4 (by omega) (by omega) (by omega) (e15_) ?_
    refine ga_imul (a := 10) (b := K 4 (F 1 7).toNat) (c := 10 * (K 4 (F 1 7).toNat)) hm_25 rfl (by omega) ?_
    refine ga_iadd (a := 1) (b := 10 * (K 4 (F 1 7).toNat)) (c := 10 * (K 4 (F 1 7).toNat) + 1) hm_25 rfl (by omega) ?_
    refine ga_puti (z := 10 * (K 4 (F 1 7).toNat) + 1) hm_25 rfl sc_1 rfl rfl ?_
    obtain ⟨F17_, q18_⟩ : ∃ F9_, F9_ = (fl_u F 1 8 (10 * (K 4 (F 1 7).toNat) + 1)) := ⟨_, rfl⟩
    rw [← q18_]
    have g19_ : gi F17_ := by rw [q18_]; exact gi_u (hgi) rfl (by omega) (by omega)
    have g20_ : fs [(1, 1, 7, 8)] F F17_ := by rw [q18_]; exact fs_u (fs_refl) rfl
    have tk21_ : tkh K F17_ := by rw [q18_]; exact tkh_u (hK) (by omega) (by omega)
    refine fl_thr hm_25 rfl rfl (by omega) (by omega) (Nat.le_of_ble_eq_true rfl) (fl_pos sc_0) ?_
    refine gw_v ⟨rfl, ?_⟩
    refine gw_i ?_
    have e22_ : F17_ 1 8 = 10 * (K 4 (F 1 7).toNat) + 1 := by rw [q18_]; exact fl_u_eq
    exact ⟨F17_, ⟨ga_len.symm, (List.append_assoc _ _ _).symm⟩, g19_, g20_, (⟨(1, K 4 (F 1 7).toNat), by simp [sp_term, htk2, pf, pb, h9_, e22_]; try first | omega | ((repeat' split) <;> first | rfl | (exfalso; omega) | omega), by show _ = (1 : Int) + 10 * K 4 (F 1 7).toNat; omega⟩)⟩
  refine fl_iconst hm_153 rfl ?_
  refine fl_goto hm_153 rfl ?_
  refine gr_i hm_153 rfl rfl (ga_nb (by omega)) ?_
  clear h4_ h5_ f2_ l3_
  refine fl_if_ne hm_94 rfl ⟨by omega, by omega⟩ (fun _ => ?_) (fun h => absurd (by omega) h)
  refine ga_aload_n (v := .ref 119) hm_94 rfl rfl rfl ?_
  refine ga_getm (b := a) hm_94 rfl sc_119 rfl (by omega) ?_
  refine ga_aload_n (v := .ref 119) hm_94 rfl rfl rfl ?_
  refine ga_getr (b := 1) hm_94 rfl sc_119 rfl ?_
  refine gIl (nY := 1) (F := 0) (L := 0) (As := []) (b := 1) (rest := [.ref a]) hm_94 rfl hm_149 rfl rfl (fl_ob sc_1) rfl rfl rfl rfl rfl (by omega) (by omega) ?_
  intro f23_ l24_ h25_ h26_
  show fl_R xi_ms 149 f23_ l24_ 0 [(0, .ref 1)] [] _ _
  refine ga_aload_n (v := .ref 1) hm_149 rfl rfl rfl ?_
  refine ga_getr (b := 6) hm_149 rfl sc_1 rfl ?_
  refine ga_aload_n (v := .ref 1) hm_149 rfl rfl rfl ?_
  refine ga_geti (z := F 1 7) hm_149 rfl sc_1 rfl (rfl) ?_
  have e27_ : F 6 (F 1 7).toNat = K 6 (F 1 7).toNat := hK.1 6 (F 1 7).toNat (by omega)
  have b28_ : -9223372036854775808 ≤ K 6 (F 1 7).toNat ∧ K 6 (F 1 7).toNat ≤ 9223372036854775807 := gi_g hgK rfl
  refine ga_lald (z := F 1 7) (w := K 6 (F 1 7).toNat) hm_149 rfl sc_6 (by omega) (by omega) (by omega) (e27_) ?_
  refine gr_l hm_149 rfl rfl ?_
  clear h25_ h26_ f23_ l24_
  refine gVi (nY := 4) (F := 0) (L := 0) (As := [.long (Int64.ofInt (K 6 (F 1 7).toNat))]) (b := a) (rest := []) hm_94 rfl hm_109 rfl rfl (fl_ob h_a.1.1) rfl rfl rfl rfl rfl (by omega) (by omega) (mc_109 hG F X hgi (a) (n) (K 6 (F 1 7).toNat) (l) h_a (by omega) (hl)) (fun _ _ h => False.elim h) ?_
  rintro z29_ A1_ ⟨hA_, c30_, c31_⟩
  subst hA_
  refine ga_istore_n (lv2 := [(2, .int (Int32.ofInt z29_)), (0, .ref 119), (1, .int (Int32.ofInt w))]) hm_94 rfl (Nat.le_of_ble_eq_true rfl) rfl ?_
  refine ga_iload_n (z := z29_) hm_94 rfl rfl ?_
  refine fl_if_ge (a := z29_) hm_94 rfl ⟨by omega, by omega⟩ (fun h32_ => ?_) (fun h33_ => ?_)
  ·
    have hty : tl[(z29_).toNat]?.getD 0 = F (a + 2) (z29_).toNat := (rep_get htl (j := (z29_).toNat) (by omega)).symm
    refine ga_aload_n (v := .ref 119) hm_94 rfl rfl rfl ?_
    refine ga_getm (b := a) hm_94 rfl sc_119 rfl (by omega) ?_
    refine ga_iload_n (z := z29_) hm_94 rfl rfl ?_
    refine ga_iload_n (z := w) hm_94 rfl rfl ?_
    refine gIi (nY := 3) (F := 0) (L := 0) (As := [.int (Int32.ofInt z29_), .int (Int32.ofInt w)]) (b := a) (rest := []) hm_94 rfl hm_110 rfl rfl (fl_ob h_a.1.1) rfl rfl rfl rfl rfl (by omega) (by omega) ?_
    intro f34_ l35_ h36_ h37_
    show fl_R xi_ms 110 f34_ l35_ 0 [(0, .ref a), (1, .int (Int32.ofInt z29_)), (2, .int (Int32.ofInt w))] [] _ _
    refine ga_iload_n (z := w) hm_110 rfl rfl ?_
    refine fl_iconst hm_110 rfl ?_
    refine fl_icmp_eq (a := w) (b := -1) hm_110 rfl ⟨by omega, by omega⟩ ⟨by omega, by omega⟩ (fun h38_ => ?_) (fun h39_ => ?_)
    ·
      refine fl_iconst hm_110 rfl ?_
      refine fl_goto hm_110 rfl ?_
      refine gr_i hm_110 rfl rfl (ga_nb (by omega)) ?_
      clear h36_ h37_ f34_ l35_
      refine fl_if_ne hm_94 rfl ⟨by omega, by omega⟩ (fun _ => ?_) (fun h => absurd (by omega) h)
      refine ga_aload_n (v := .ref 119) hm_94 rfl rfl rfl ?_
      refine ga_getr (b := 1) hm_94 rfl sc_119 rfl ?_
      refine gVv (nY := 1) (F := 0) (L := 0) (As := []) (b := 1) (rest := []) hm_94 rfl hm_154 rfl rfl (fl_ob sc_1) rfl rfl rfl rfl rfl (by omega) (by omega) (mc_154 hG F X hgi (K) hgK hK hko (by omega)) (fun _ _ h => False.elim h) ?_
      rintro A1_ ⟨F43_, hA_, g44_, s45_, c41_, c42_⟩
      subst hA_
      have g46_ : fs [(1, 1, 7, 7)] F F43_ := fs_tr fs_refl s45_ rfl
      have tk47_ : tkh K F43_ := tkh_fs hK s45_ (fun r k h => (fs_n (by omega) rfl)) (fs_n (by omega) rfl)
      refine ga_iload_n (z := z29_) hm_94 rfl rfl ?_
      refine gr_i (z := z29_) hm_94 rfl rfl rfl ?_
      have b48_ : 0 ≤ F43_ 1 7 ∧ F43_ 1 7 ≤ 600 := gi_g g44_ rfl
      exact ⟨F43_, rfl, g44_, g46_, (by simp [sp_term, hty, htk2, pf, pb, h10_, c30_, c31_, h32_, h38_, c41_, c42_]; try first | omega | ((repeat' split) <;> first | rfl | (exfalso; omega) | omega)), (by omega), (by omega), (c30_), (c41_)⟩
    refine ga_aload_n (v := .ref a) hm_110 rfl rfl rfl ?_
    refine ga_getr (b := a + 2) hm_110 rfl h_a.1.1 rfl ?_
    refine ga_iload_n (z := z29_) hm_110 rfl rfl ?_
    have b49_ : -1 ≤ F (a + 2) z29_.toNat ∧ F (a + 2) z29_.toNat ≤ 3 := gi_g hgi (gb_a h_a.2.1.2.1)
    refine ga_iald (z := z29_) (w := F (a + 2) z29_.toNat) hm_110 rfl h_a.1.2.2 (by omega) (by omega) (by omega) (rfl) ?_
    refine ga_iload_n (z := w) hm_110 rfl rfl ?_
    refine fx_icmp_ne (a := F (a + 2) z29_.toNat) (b := w) hm_110 rfl ⟨by omega, by omega⟩ ⟨by omega, by omega⟩ (fun h50_ => ?_) (fun h51_ => ?_)
    ·
      refine fl_iconst hm_110 rfl ?_
      refine gr_i hm_110 rfl rfl (ga_nb (by omega)) ?_
      clear h36_ h37_ f34_ l35_
      refine fl_if_ne hm_94 rfl ⟨by omega, by omega⟩ (fun h => absurd h (by omega)) (fun _ => ?_)
      refine ga_aload_n (v := .ref 119) hm_94 rfl rfl rfl ?_
      refine ga_getr (b := 1) hm_94 rfl sc_119 rfl ?_
      refine fl_iconst hm_94 rfl ?_
      refine gIv (nY := 2) (F := 6) (L := 100) (As := [.int (Int32.ofInt 4)]) (b := 1) (rest := []) hm_94 rfl hm_25 rfl rfl (fl_ob sc_1) rfl rfl rfl rfl rfl (by omega) (by omega) ?_
      intro f52_ l53_ h54_ h55_
      show fl_R xi_ms 25 f52_ l53_ 0 [(0, .ref 1), (1, .int (Int32.ofInt 4))] [] _ _
      refine ga_aload_n (v := .ref 1) hm_25 rfl rfl rfl ?_
      refine ga_iload_n (z := 4) hm_25 rfl rfl ?_
      refine fl_bipush hm_25 rfl rfl ?_
      refine ga_aload_n (v := .ref 1) hm_25 rfl rfl rfl ?_
      refine ga_getr (b := 4) hm_25 rfl sc_1 rfl ?_
      refine ga_aload_n (v := .ref 1) hm_25 rfl rfl rfl ?_
      refine ga_geti (z := F 1 7) hm_25 rfl sc_1 rfl (rfl) ?_
      have e56_ : F 4 (F 1 7).toNat = K 4 (F 1 7).toNat := hK.1 4 (F 1 7).toNat (by omega)
      have b57_ : 0 ≤ K 4 (F 1 7).toNat ∧ K 4 (F 1 7).toNat ≤ 600 := gi_g hgK rfl
      refine ga_iald (z := F 1 7) (w := K 4 (F 1 7).toNat) hm_25 rfl sc_4 (by omega) (by omega) (by omega) (e56_) ?_
      refine ga_imul (a := 10) (b := K 4 (F 1 7).toNat) (c := 10 * (K 4 (F 1 7).toNat)) hm_25 rfl (by omega) ?_
      refine ga_iadd (a := 4) (b := 10 * (K 4 (F 1 7).toNat)) (c := 10 * (K 4 (F 1 7).toNat) + 4) hm_25 rfl (by omega) ?_
      refine ga_puti (z := 10 * (K 4 (F 1 7).toNat) + 4) hm_25 rfl sc_1 rfl rfl ?_
      obtain ⟨F58_, q59_⟩ : ∃ F9_, F9_ = (fl_u F 1 8 (10 * (K 4 (F 1 7).toNat) + 4)) := ⟨_, rfl⟩
      rw [← q59_]
      have g60_ : gi F58_ := by rw [q59_]; exact gi_u (hgi) rfl (by omega) (by omega)
      have g61_ : fs [(1, 1, 7, 8)] F F58_ := by rw [q59_]; exact fs_u (fs_refl) rfl
      have tk62_ : tkh K F58_ := by rw [q59_]; exact tkh_u (hK) (by omega) (by omega)
      refine fl_thr hm_25 rfl rfl (by omega) (by omega) (Nat.le_of_ble_eq_true rfl) (fl_pos sc_0) ?_
      refine gw_v ⟨rfl, ?_⟩
      refine gw_i ?_
      have e63_ : F58_ 1 8 = 10 * (K 4 (F 1 7).toNat) + 4 := by rw [q59_]; exact fl_u_eq
      exact ⟨F58_, ⟨ga_len.symm, (List.append_assoc _ _ _).symm⟩, g60_, g61_, (⟨(4, K 4 (F 1 7).toNat), by simp [sp_term, hty, htk2, pf, pb, h10_, c30_, c31_, h32_, h39_, h50_, e63_]; try first | omega | ((repeat' split) <;> first | rfl | (exfalso; omega) | omega), by show _ = (4 : Int) + 10 * K 4 (F 1 7).toNat; omega⟩)⟩
    refine fl_iconst hm_110 rfl ?_
    refine fl_goto hm_110 rfl ?_
    refine gr_i hm_110 rfl rfl (ga_nb (by omega)) ?_
    clear h36_ h37_ f34_ l35_
    refine fl_if_ne hm_94 rfl ⟨by omega, by omega⟩ (fun _ => ?_) (fun h => absurd (by omega) h)
    refine ga_aload_n (v := .ref 119) hm_94 rfl rfl rfl ?_
    refine ga_getr (b := 1) hm_94 rfl sc_119 rfl ?_
    refine gVv (nY := 1) (F := 0) (L := 0) (As := []) (b := 1) (rest := []) hm_94 rfl hm_154 rfl rfl (fl_ob sc_1) rfl rfl rfl rfl rfl (by omega) (by omega) (mc_154 hG F X hgi (K) hgK hK hko (by omega)) (fun _ _ h => False.elim h) ?_
    rintro A1_ ⟨F67_, hA_, g68_, s69_, c65_, c66_⟩
    subst hA_
    have g70_ : fs [(1, 1, 7, 7)] F F67_ := fs_tr fs_refl s69_ rfl
    have tk71_ : tkh K F67_ := tkh_fs hK s69_ (fun r k h => (fs_n (by omega) rfl)) (fs_n (by omega) rfl)
    refine ga_iload_n (z := z29_) hm_94 rfl rfl ?_
    refine gr_i (z := z29_) hm_94 rfl rfl rfl ?_
    have b72_ : 0 ≤ F67_ 1 7 ∧ F67_ 1 7 ≤ 600 := gi_g g68_ rfl
    exact ⟨F67_, rfl, g68_, g70_, (by simp [sp_term, hty, htk2, pf, pb, h10_, c30_, c31_, h32_, h39_, h51_, c65_, c66_]; try first | omega | ((repeat' split) <;> first | rfl | (exfalso; omega) | omega)), (by omega), (by omega), (c30_), (c65_)⟩
  refine ga_aload_n (v := .ref 119) hm_94 rfl rfl rfl ?_
  refine ga_getr (b := 1) hm_94 rfl sc_119 rfl ?_
  refine fl_iconst hm_94 rfl ?_
  refine gIv (nY := 2) (F := 6) (L := 100) (As := [.int (Int32.ofInt 3)]) (b := 1) (rest := []) hm_94 rfl hm_25 rfl rfl (fl_ob sc_1) rfl rfl rfl rfl rfl (by omega) (by omega) ?_
  intro f73_ l74_ h75_ h76_
  show fl_R xi_ms 25 f73_ l74_ 0 [(0, .ref 1), (1, .int (Int32.ofInt 3))] [] _ _
  refine ga_aload_n (v := .ref 1) hm_25 rfl rfl rfl ?_
  refine ga_iload_n (z := 3) hm_25 rfl rfl ?_
  refine fl_bipush hm_25 rfl rfl ?_
  refine ga_aload_n (v := .ref 1) hm_25 rfl rfl rfl ?_
  refine ga_getr (b := 4) hm_25 rfl sc_1 rfl ?_
  refine ga_aload_n (v := .ref 1) hm_25 rfl rfl rfl ?_
  refine ga_geti (z := F 1 7) hm_25 rfl sc_1 rfl (rfl) ?_
  have e77_ : F 4 (F 1 7).toNat = K 4 (F 1 7).toNat := hK.1 4 (F 1 7).toNat (by omega)
  have b78_ : 0 ≤ K 4 (F 1 7).toNat ∧ K 4 (F 1 7).toNat ≤ 600 := gi_g hgK rfl
  refine ga_iald (z := F 1 7) (w := K 4 (F 1 7).toNat) hm_25 rfl sc_4 (by omega) (by omega) (by omega) (e77_) ?_
  refine ga_imul (a := 10) (b := K 4 (F 1 7).toNat) (c := 10 * (K 4 (F 1 7).toNat)) hm_25 rfl (by omega) ?_
  refine ga_iadd (a := 3) (b := 10 * (K 4 (F 1 7).toNat)) (c := 10 * (K 4 (F 1 7).toNat) + 3) hm_25 rfl (by omega) ?_
  refine ga_puti (z := 10 * (K 4 (F 1 7).toNat) + 3) hm_25 rfl sc_1 rfl rfl ?_
  obtain ⟨F79_, q80_⟩ : ∃ F9_, F9_ = (fl_u F 1 8 (10 * (K 4 (F 1 7).toNat) + 3)) := ⟨_, rfl⟩
  rw [← q80_]
  have g81_ : gi F79_ := by rw [q80_]; exact gi_u (hgi) rfl (by omega) (by omega)
  have g82_ : fs [(1, 1, 7, 8)] F F79_ := by rw [q80_]; exact fs_u (fs_refl) rfl
  have tk83_ : tkh K F79_ := by rw [q80_]; exact tkh_u (hK) (by omega) (by omega)
  refine fl_thr hm_25 rfl rfl (by omega) (by omega) (Nat.le_of_ble_eq_true rfl) (fl_pos sc_0) ?_
  refine gw_v ⟨rfl, ?_⟩
  refine gw_i ?_
  have e84_ : F79_ 1 8 = 10 * (K 4 (F 1 7).toNat) + 3 := by rw [q80_]; exact fl_u_eq
  exact ⟨F79_, ⟨ga_len.symm, (List.append_assoc _ _ _).symm⟩, g81_, g82_, (⟨(3, K 4 (F 1 7).toNat), by simp [sp_term, htk2, pf, pb, h10_, c30_, c31_, h33_, e84_]; try first | omega | ((repeat' split) <;> first | rfl | (exfalso; omega) | omega), by show _ = (3 : Int) + 10 * K 4 (F 1 7).toNat; omega⟩)⟩

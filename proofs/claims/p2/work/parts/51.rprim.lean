/- CheapPlannerModel.isSign -/
abbrev pq_52 (G : Nat → Nat → Option Nat) (F : fl_N) (X : xi_H) (K : fl_N) (c : Int) : Outcome → xi_H → Prop := gqi (fun z A => (fl_H sh_T G F ++ X = A ∧ (z = 0) ∧ (¬ (F 344 9 = 0 ∧ K 3 (F 344 5).toNat = c - 40))) ∨ (fl_H sh_T G F ++ X = A ∧ (z = 1) ∧ (F 344 9 = 0 ∧ K 3 (F 344 5).toNat = c - 40))) gqn
theorem mc_52 {G : Nat → Nat → Option Nat} (hG : gg G) (F : fl_N) (X : xi_H) (hgi : gi F) (K : fl_N) (c : Int) (hgK : gi K) (hrk : rk K F) (hkt : rkt K) (hp : 0 ≤ F 344 5 ∧ F 344 5 ≤ K 1 6 - 1) (hc : c = 40 ∨ c = 41) : fl_M xi_ms 52 1 20 [.ref 344, .int (Int32.ofInt c)] (fl_H sh_T G F ++ X) (pq_52 G F X K c) := by
  intro fr lo hfr hlo
  show fl_R xi_ms 52 fr lo 0 [(0, .ref 344), (1, .int (Int32.ofInt c))] [] _ _
  have hP := rkt_p hkt hp.1 hp.2 hgK
  have hK16 : 0 ≤ K 1 6 ∧ K 1 6 ≤ 601 := gi_g hgK rfl
  have hsg := sg_iff hkt hp.1 hp.2 hc
  refine ga_aload_n (v := .ref 344) hm_52 rfl rfl rfl ?_
  have b1_ : 0 ≤ F 344 9 ∧ F 344 9 ≤ 5 := gi_g hgi rfl
  refine ga_geti (z := F 344 9) hm_52 rfl sc_344 rfl (rfl) ?_
  refine fx_if_ne (a := F 344 9) hm_52 rfl ⟨by omega, by omega⟩ (fun h2_ => ?_) (fun h3_ => ?_)
  ·
    refine fl_iconst hm_52 rfl ?_
    refine gr_i (z := 0) hm_52 rfl rfl (ga_nb (by omega)) ?_
    have b4_ : 0 ≤ F 344 5 ∧ F 344 5 ≤ 600 := gi_g hgi rfl
    exact Or.inl ⟨rfl, rfl, (by omega)⟩
  refine ga_aload_n (v := .ref 344) hm_52 rfl rfl rfl ?_
  refine gIi (nY := 1) (F := 0) (L := 0) (As := []) (b := 344) (rest := []) hm_52 rfl hm_53 rfl rfl (fl_ob sc_344) rfl rfl rfl rfl rfl (by omega) (by omega) ?_
  intro f5_ l6_ h7_ h8_
  show fl_R xi_ms 53 f5_ l6_ 0 [(0, .ref 344)] [] _ _
  refine ga_aload_n (v := .ref 344) hm_53 rfl rfl rfl ?_
  refine ga_getr (b := 348) hm_53 rfl sc_344 rfl ?_
  refine ga_aload_n (v := .ref 344) hm_53 rfl rfl rfl ?_
  have b9_ : 0 ≤ F 344 5 ∧ F 344 5 ≤ 600 := gi_g hgi rfl
  refine ga_geti (z := F 344 5) hm_53 rfl sc_344 rfl (rfl) ?_
  have e10_ : F 348 (F 344 5).toNat = K 5 (F 344 5).toNat := (hrk.1 (F 344 5) (by omega) (by omega)).2
  have b11_ : 0 ≤ K 5 (F 344 5).toNat ∧ K 5 (F 344 5).toNat ≤ 600 := gi_g hgK rfl
  refine ga_iald (z := F 344 5) (w := K 5 (F 344 5).toNat) hm_53 rfl sc_348 (by omega) (by omega) (by omega) (e10_) ?_
  refine ga_aload_n (v := .ref 344) hm_53 rfl rfl rfl ?_
  refine ga_getr (b := 347) hm_53 rfl sc_344 rfl ?_
  refine ga_aload_n (v := .ref 344) hm_53 rfl rfl rfl ?_
  refine ga_geti (z := F 344 5) hm_53 rfl sc_344 rfl (rfl) ?_
  have e12_ : F 347 (F 344 5).toNat = K 4 (F 344 5).toNat := (hrk.1 (F 344 5) (by omega) (by omega)).1
  have b13_ : 0 ≤ K 4 (F 344 5).toNat ∧ K 4 (F 344 5).toNat ≤ 600 := gi_g hgK rfl
  refine ga_iald (z := F 344 5) (w := K 4 (F 344 5).toNat) hm_53 rfl sc_347 (by omega) (by omega) (by omega) (e12_) ?_
  refine ga_isub (a := K 5 (F 344 5).toNat) (b := K 4 (F 344 5).toNat) (c := K 5 (F 344 5).toNat - (K 4 (F 344 5).toNat)) hm_53 rfl (by omega) ?_
  refine gr_i hm_53 rfl rfl rfl ?_
  refine fl_iconst hm_52 rfl ?_
  refine fx_icmp_ne (a := K 5 (F 344 5).toNat - (K 4 (F 344 5).toNat)) (b := 1) hm_52 rfl ⟨by omega, by omega⟩ ⟨by omega, by omega⟩ (fun h14_ => ?_) (fun h15_ => ?_)
  ·
    refine fl_iconst hm_52 rfl ?_
    refine gr_i (z := 0) hm_52 rfl rfl (ga_nb (by omega)) ?_
    exact Or.inl ⟨rfl, rfl, (by omega)⟩
  refine ga_aload_n (v := .ref 344) hm_52 rfl rfl rfl ?_
  refine ga_getr (b := 345) hm_52 rfl sc_344 rfl ?_
  refine ga_aload_n (v := .ref 344) hm_52 rfl rfl rfl ?_
  refine ga_getr (b := 347) hm_52 rfl sc_344 rfl ?_
  refine ga_aload_n (v := .ref 344) hm_52 rfl rfl rfl ?_
  refine ga_geti (z := F 344 5) hm_52 rfl sc_344 rfl (rfl) ?_
  refine ga_iald (z := F 344 5) (w := K 4 (F 344 5).toNat) hm_52 rfl sc_347 (by omega) (by omega) (by omega) (e12_) ?_
  have e16_ : F 345 (K 4 (F 344 5).toNat).toNat = K 2 (K 4 (F 344 5).toNat).toNat := hrk.2.2.1 (K 4 (F 344 5).toNat) (by omega) (by omega)
  have b17_ : 0 ≤ K 2 (K 4 (F 344 5).toNat).toNat ∧ K 2 (K 4 (F 344 5).toNat).toNat ≤ 126 := gi_g hgK rfl
  refine ga_iald (z := K 4 (F 344 5).toNat) (w := K 2 (K 4 (F 344 5).toNat).toNat) hm_52 rfl sc_345 (by omega) (by omega) (by omega) (e16_) ?_
  refine ga_iload_n (z := c) hm_52 rfl rfl ?_
  refine fx_icmp_ne (a := K 2 (K 4 (F 344 5).toNat).toNat) (b := c) hm_52 rfl ⟨by omega, by omega⟩ ⟨by omega, by omega⟩ (fun h18_ => ?_) (fun h19_ => ?_)
  ·
    refine fl_iconst hm_52 rfl ?_
    refine gr_i (z := 0) hm_52 rfl rfl (ga_nb (by omega)) ?_
    exact Or.inl ⟨rfl, rfl, (by omega)⟩
  refine fl_iconst hm_52 rfl ?_
  refine fl_goto hm_52 rfl ?_
  refine gr_i (z := 1) hm_52 rfl rfl (ga_nb (by omega)) ?_
  exact Or.inr (⟨rfl, rfl, (by omega)⟩)
/- CheapPlannerModel.wrong -/
abbrev pq_54 (G : Nat → Nat → Option Nat) (F : fl_N) (X : xi_H) (K : fl_N) (n : Int) : Outcome → xi_H → Prop := gqv (fun A => ∃ F' : fl_N, fl_H sh_T G F' ++ X = A ∧ gi F' ∧ fs [(344, 344, 9, 10)] F F' ∧ (rst F' = pb (rst F) (fun p => pf K p n)) ∧ (F' 344 5 = F 344 5 ∧ ¬ F' 344 9 = 0)) gqn
theorem mc_54 {G : Nat → Nat → Option Nat} (hG : gg G) (F : fl_N) (X : xi_H) (hgi : gi F) (K : fl_N) (n : Int) (hgK : gi K) (hrk : rk K F) (hkt : rkt K) (hp : 0 ≤ F 344 5 ∧ F 344 5 ≤ K 1 6 - 1) (hn : 1 ≤ n ∧ n ≤ 5) : fl_M xi_ms 54 0 0 [.ref 344, .int (Int32.ofInt n)] (fl_H sh_T G F ++ X) (pq_54 G F X K n) := by
  intro fr lo hfr hlo
  show fl_R xi_ms 54 fr lo 0 [(0, .ref 344), (1, .int (Int32.ofInt n))] [] _ _
  have hP := rkt_p hkt hp.1 hp.2 hgK
  have hK16 : 0 ≤ K 1 6 ∧ K 1 6 ≤ 601 := gi_g hgK rfl
  refine ga_aload_n (v := .ref 344) hm_54 rfl rfl rfl ?_
  have b1_ : 0 ≤ F 344 9 ∧ F 344 9 ≤ 5 := gi_g hgi rfl
  refine ga_geti (z := F 344 9) hm_54 rfl sc_344 rfl (rfl) ?_
  refine fl_if_le (a := F 344 9) hm_54 rfl ⟨by omega, by omega⟩ (fun h2_ => ?_) (fun h3_ => ?_)
  ·
    refine ga_aload_n (v := .ref 344) hm_54 rfl rfl rfl ?_
    refine ga_iload_n (z := n) hm_54 rfl rfl ?_
    refine ga_puti (z := n) hm_54 rfl sc_344 rfl rfl ?_
    refine ga_aload_n (v := .ref 344) hm_54 rfl rfl rfl ?_
    refine ga_aload_n (v := .ref 344) hm_54 rfl rfl rfl ?_
    refine ga_getr (b := 347) hm_54 rfl sc_344 rfl ?_
    refine ga_aload_n (v := .ref 344) hm_54 rfl rfl rfl ?_
    have b4_ : 0 ≤ F 344 5 ∧ F 344 5 ≤ 600 := gi_g hgi rfl
    refine ga_geti (z := F 344 5) hm_54 rfl sc_344 rfl (fl_u_ne (by omega)) ?_
    have e5_ : F 347 (F 344 5).toNat = K 4 (F 344 5).toNat := (hrk.1 (F 344 5) (by omega) (by omega)).1
    have b6_ : 0 ≤ K 4 (F 344 5).toNat ∧ K 4 (F 344 5).toNat ≤ 600 := gi_g hgK rfl
    refine ga_iald (z := F 344 5) (w := K 4 (F 344 5).toNat) hm_54 rfl sc_347 (by omega) (by omega) (by omega) ((fl_u_ne (by omega)).trans (e5_)) ?_
    refine ga_puti (z := K 4 (F 344 5).toNat) hm_54 rfl sc_344 rfl rfl ?_
    obtain ⟨F7_, q8_⟩ : ∃ F9_, F9_ = (fl_u (fl_u F 344 9 n) 344 10 (K 4 (F 344 5).toNat)) := ⟨_, rfl⟩
    rw [← q8_]
    have g9_ : gi F7_ := by rw [q8_]; exact gi_u (gi_u (hgi) rfl (by omega) (by omega)) rfl (by omega) (by omega)
    have g10_ : fs [(344, 344, 9, 10)] F F7_ := by rw [q8_]; exact fs_u (fs_u (fs_refl) rfl) rfl
    have rk11_ : rk K F7_ := by rw [q8_]; exact rk_u (rk_u (hrk) (by omega) (by omega)) (by omega) (by omega)
    refine gr_v hm_54 rfl rfl ?_
    have e12_ : F7_ 344 9 = n := by rw [q8_]; exact (fl_u_ne (by omega)).trans (fl_u_eq)
    have e13_ : F7_ 344 10 = K 4 (F 344 5).toNat := by rw [q8_]; exact fl_u_eq
    have e14_ : F7_ 344 5 = F 344 5 := by rw [q8_]; exact (fl_u_ne (by omega)).trans (fl_u_ne (by omega))
    exact ⟨F7_, rfl, g9_, g10_, (by rw [rst_ok (F := F) (by omega), rst_bad (F := F7_) (by omega)]; show _ = Sum.inl _; rw [e12_, e13_]), (by omega)⟩
  refine gr_v hm_54 rfl rfl ?_
  have b15_ : 0 ≤ F 344 5 ∧ F 344 5 ≤ 600 := gi_g hgi rfl
  exact ⟨F, rfl, hgi, fs_refl, (by rw [rst_bad (by omega)]; rfl), (by omega)⟩
/- CheapPlannerModel.pass -/
abbrev pq_61 (G : Nat → Nat → Option Nat) (F : fl_N) (X : xi_H) (K : fl_N) : Outcome → xi_H → Prop := gqv (fun A => ∃ F' : fl_N, fl_H sh_T G F' ++ X = A ∧ gi F' ∧ fs [(344, 344, 5, 5)] F F' ∧ (rst F' = pb (rst F) (fun p => .inr (p + 1))) ∧ (0 ≤ F' 344 5 ∧ F' 344 5 ≤ K 1 6 - 1)) gqn
theorem mc_61 {G : Nat → Nat → Option Nat} (hG : gg G) (F : fl_N) (X : xi_H) (hgi : gi F) (K : fl_N) (hgK : gi K) (hrk : rk K F) (hkt : rkt K) (hp : 0 ≤ F 344 5 ∧ F 344 5 ≤ K 1 6 - 1) (hlt : F 344 9 = 0 → F 344 5 < K 1 6 - 1) : fl_M xi_ms 61 1 20 [.ref 344] (fl_H sh_T G F ++ X) (pq_61 G F X K) := by
  intro fr lo hfr hlo
  show fl_R xi_ms 61 fr lo 0 [(0, .ref 344)] [] _ _
  have hP := rkt_p hkt hp.1 hp.2 hgK
  have hK16 : 0 ≤ K 1 6 ∧ K 1 6 ≤ 601 := gi_g hgK rfl
  refine ga_aload_n (v := .ref 344) hm_61 rfl rfl rfl ?_
  refine ga_dup hm_61 rfl rfl ?_
  have b1_ : 0 ≤ F 344 5 ∧ F 344 5 ≤ 600 := gi_g hgi rfl
  refine ga_geti (z := F 344 5) hm_61 rfl sc_344 rfl (rfl) ?_
  refine ga_aload_n (v := .ref 344) hm_61 rfl rfl rfl ?_
  refine gIi (nY := 1) (F := 0) (L := 0) (As := []) (b := 344) (rest := [.int (Int32.ofInt (F 344 5)), .ref 344]) hm_61 rfl hm_59 rfl rfl (fl_ob sc_344) rfl rfl rfl rfl rfl (by omega) (by omega) ?_
  intro f2_ l3_ h4_ h5_
  show fl_R xi_ms 59 f2_ l3_ 0 [(0, .ref 344)] [] _ _
  refine ga_aload_n (v := .ref 344) hm_59 rfl rfl rfl ?_
  have b6_ : 0 ≤ F 344 9 ∧ F 344 9 ≤ 5 := gi_g hgi rfl
  refine ga_geti (z := F 344 9) hm_59 rfl sc_344 rfl (rfl) ?_
  refine fl_if_le (a := F 344 9) hm_59 rfl ⟨by omega, by omega⟩ (fun h7_ => ?_) (fun h8_ => ?_)
  ·
    refine fl_iconst hm_59 rfl ?_
    refine gr_i hm_59 rfl rfl (ga_nb (by omega)) ?_
    refine fl_if_eq hm_61 rfl ⟨by omega, by omega⟩ (fun _ => ?_) (fun h => absurd (by omega) h)
    refine fl_iconst hm_61 rfl ?_
    refine ga_iadd (a := F 344 5) (b := 1) (c := F 344 5 + 1) hm_61 rfl (by omega) ?_
    refine ga_puti (z := F 344 5 + 1) hm_61 rfl sc_344 rfl rfl ?_
    obtain ⟨F9_, q10_⟩ : ∃ F9_, F9_ = (fl_u F 344 5 (F 344 5 + 1)) := ⟨_, rfl⟩
    rw [← q10_]
    have g11_ : gi F9_ := by rw [q10_]; exact gi_u (hgi) rfl (by omega) (by omega)
    have g12_ : fs [(344, 344, 5, 5)] F F9_ := by rw [q10_]; exact fs_u (fs_refl) rfl
    have rk13_ : rk K F9_ := by rw [q10_]; exact rk_u (hrk) (by omega) (by omega)
    refine gr_v hm_61 rfl rfl ?_
    have e14_ : F9_ 344 5 = F 344 5 + 1 := by rw [q10_]; exact fl_u_eq
    have e15_ : F9_ 344 9 = F 344 9 := by rw [q10_]; exact fl_u_ne (by omega)
    have e16_ : F9_ 344 10 = F 344 10 := by rw [q10_]; exact fl_u_ne (by omega)
    exact ⟨F9_, rfl, g11_, g12_, (by rw [rst_ok (F := F) (by omega), rst_ok (F := F9_) (by omega)]; show Sum.inr _ = Sum.inr _; rw [e14_]), (by omega)⟩
  refine fl_iconst hm_59 rfl ?_
  refine fl_goto hm_59 rfl ?_
  refine gr_i hm_59 rfl rfl (ga_nb (by omega)) ?_
  refine fl_if_eq hm_61 rfl ⟨by omega, by omega⟩ (fun h => absurd h (by omega)) (fun _ => ?_)
  refine fl_iconst hm_61 rfl ?_
  refine fl_goto hm_61 rfl ?_
  refine ga_iadd (a := F 344 5) (b := 0) (c := F 344 5) hm_61 rfl (by omega) ?_
  refine ga_puti (z := F 344 5) hm_61 rfl sc_344 rfl rfl ?_
  obtain ⟨F17_, q18_⟩ : ∃ F9_, F9_ = (fl_u F 344 5 (F 344 5)) := ⟨_, rfl⟩
  rw [← q18_]
  have g19_ : gi F17_ := by rw [q18_]; exact gi_u (hgi) rfl (by omega) (by omega)
  have g20_ : fs [(344, 344, 5, 5)] F F17_ := by rw [q18_]; exact fs_u (fs_refl) rfl
  have rk21_ : rk K F17_ := by rw [q18_]; exact rk_u (hrk) (by omega) (by omega)
  refine gr_v hm_61 rfl rfl ?_
  have e22_ : F17_ 344 5 = F 344 5 := by rw [q18_]; exact fl_u_eq
  have e23_ : F17_ 344 9 = F 344 9 := by rw [q18_]; exact fl_u_ne (by omega)
  have e24_ : F17_ 344 10 = F 344 10 := by rw [q18_]; exact fl_u_ne (by omega)
  exact ⟨F17_, rfl, g19_, g20_, (by rw [rst_bad (F := F) (by omega), rst_bad (F := F17_) (by omega), e23_, e24_]; rfl), (by omega)⟩
/- CheapPlannerModel.needSign -/
abbrev pq_51 (G : Nat → Nat → Option Nat) (F : fl_N) (X : xi_H) (K : fl_N) (c : Int) : Outcome → xi_H → Prop := gqv (fun A => ∃ F' : fl_N, fl_H sh_T G F' ++ X = A ∧ gi F' ∧ fs [(344, 344, 5, 5), (344, 344, 9, 10)] F F' ∧ (rst F' = pb (rst F) (fun p => sp_kind K (c - 40) p)) ∧ (0 ≤ F' 344 5 ∧ F' 344 5 ≤ K 1 6 - 1)) gqn
theorem mc_51 {G : Nat → Nat → Option Nat} (hG : gg G) (F : fl_N) (X : xi_H) (hgi : gi F) (K : fl_N) (c : Int) (hgK : gi K) (hrk : rk K F) (hkt : rkt K) (hp : 0 ≤ F 344 5 ∧ F 344 5 ≤ K 1 6 - 1) (hc : c = 40 ∨ c = 41) : fl_M xi_ms 51 2 41 [.ref 344, .int (Int32.ofInt c)] (fl_H sh_T G F ++ X) (pq_51 G F X K c) := by
  intro fr lo hfr hlo
  show fl_R xi_ms 51 fr lo 0 [(0, .ref 344), (1, .int (Int32.ofInt c))] [] _ _
  have hP := rkt_p hkt hp.1 hp.2 hgK
  have hK16 : 0 ≤ K 1 6 ∧ K 1 6 ≤ 601 := gi_g hgK rfl
  have hko := hkt.1
  refine ga_aload_n (v := .ref 344) hm_51 rfl rfl rfl ?_
  refine ga_iload_n (z := c) hm_51 rfl rfl ?_
  have b1_ : 0 ≤ F 344 5 ∧ F 344 5 ≤ 600 := gi_g hgi rfl
  refine gVi (nY := 2) (F := 1) (L := 20) (As := [.int (Int32.ofInt c)]) (b := 344) (rest := []) hm_51 rfl hm_52 rfl rfl (fl_ob sc_344) rfl rfl rfl rfl rfl (by omega) (by omega) (mc_52 hG F X hgi (K) (c) hgK hrk hkt (by omega) (by omega)) (fun _ _ h => False.elim h) ?_
  have b3_ : 0 ≤ F 344 9 ∧ F 344 9 ≤ 5 := gi_g hgi rfl
  rintro z2_ A1_ (⟨hA_, hz_, c4_⟩ | ⟨hA_, hz_, c5_⟩)
  ·
    subst hA_
    subst hz_
    refine fl_if_eq hm_51 rfl ⟨by omega, by omega⟩ (fun _ => ?_) (fun h => absurd (by omega) h)
    refine ga_aload_n (v := .ref 344) hm_51 rfl rfl rfl ?_
    refine fl_iconst hm_51 rfl ?_
    refine gVv (nY := 2) (F := 0) (L := 0) (As := [.int (Int32.ofInt 1)]) (b := 344) (rest := []) hm_51 rfl hm_54 rfl rfl (fl_ob sc_344) rfl rfl rfl rfl rfl (by omega) (by omega) (mc_54 hG F X hgi (K) (1) hgK hrk hkt (by omega) (by omega)) (fun _ _ h => False.elim h) ?_
    rintro A1_ ⟨F9_, hA_, g10_, s11_, c7_, c8_⟩
    subst hA_
    have g12_ : fs [(344, 344, 5, 5), (344, 344, 9, 10)] F F9_ := fs_tr fs_refl s11_ rfl
    have rk13_ : rk K F9_ := rk_fs hrk s11_ (fun r k h => (fs_n (by omega) rfl)) (fs_n (by omega) rfl)
    refine gr_v hm_51 rfl rfl ?_
    have e14_ : F9_ 344 5 = F 344 5 := (s11_ 344 5 rfl).trans (rfl)
    exact ⟨F9_, rfl, g10_, g12_, (by rw [c7_]; unfold rst; split; exact (by rw [pb_r, pb_r, sp_kind, if_neg (by omega)]); rfl), (by omega)⟩
  subst hA_
  subst hz_
  refine fl_if_eq hm_51 rfl ⟨by omega, by omega⟩ (fun h => absurd h (by omega)) (fun _ => ?_)
  refine ga_aload_n (v := .ref 344) hm_51 rfl rfl rfl ?_
  refine ga_dup hm_51 rfl rfl ?_
  refine ga_geti (z := F 344 5) hm_51 rfl sc_344 rfl (rfl) ?_
  refine fl_iconst hm_51 rfl ?_
  refine ga_iadd (a := F 344 5) (b := 1) (c := F 344 5 + 1) hm_51 rfl (by omega) ?_
  refine ga_puti (z := F 344 5 + 1) hm_51 rfl sc_344 rfl rfl ?_
  refine fl_goto hm_51 rfl ?_
  obtain ⟨F15_, q16_⟩ : ∃ F9_, F9_ = (fl_u F 344 5 (F 344 5 + 1)) := ⟨_, rfl⟩
  rw [← q16_]
  have g17_ : gi F15_ := by rw [q16_]; exact gi_u (hgi) rfl (by omega) (by omega)
  have g18_ : fs [(344, 344, 5, 5), (344, 344, 9, 10)] F F15_ := by rw [q16_]; exact fs_u (fs_refl) rfl
  have rk19_ : rk K F15_ := by rw [q16_]; exact rk_u (hrk) (by omega) (by omega)
  refine gr_v hm_51 rfl rfl ?_
  have e20_ : F15_ 344 9 = F 344 9 := by rw [q16_]; exact fl_u_ne (by omega)
  have e21_ : F15_ 344 5 = F 344 5 + 1 := by rw [q16_]; exact fl_u_eq
  exact ⟨F15_, rfl, g17_, g18_, (by rw [rst_ok (F := F) (by omega), rst_ok (F := F15_) (by omega), pb_r, sp_kind, if_pos (by omega), sk, if_pos (by omega), e21_]), (by omega)⟩
/- CheapPlannerModel.letterAt -/
abbrev pq_57 (G : Nat → Nat → Option Nat) (F : fl_N) (X : xi_H) (K : fl_N) (j : Int) : Outcome → xi_H → Prop := gqi (fun z A => fl_H sh_T G F ++ X = A ∧ (z = if j < K 5 (F 344 5).toNat then K 2 j.toNat else 0) ∧ (0 ≤ z ∧ z ≤ 126)) gqn
theorem mc_57 {G : Nat → Nat → Option Nat} (hG : gg G) (F : fl_N) (X : xi_H) (hgi : gi F) (K : fl_N) (j : Int) (hgK : gi K) (hrk : rk K F) (hkt : rkt K) (hp : 0 ≤ F 344 5 ∧ F 344 5 ≤ K 1 6 - 1) (hj : K 4 (F 344 5).toNat ≤ j ∧ j ≤ 700) : fl_M xi_ms 57 0 0 [.ref 344, .int (Int32.ofInt j)] (fl_H sh_T G F ++ X) (pq_57 G F X K j) := by
  intro fr lo hfr hlo
  show fl_R xi_ms 57 fr lo 0 [(0, .ref 344), (1, .int (Int32.ofInt j))] [] _ _
  have hP := rkt_p hkt hp.1 hp.2 hgK
  have hK16 : 0 ≤ K 1 6 ∧ K 1 6 ≤ 601 := gi_g hgK rfl
  refine ga_iload_n (z := j) hm_57 rfl rfl ?_
  refine ga_aload_n (v := .ref 344) hm_57 rfl rfl rfl ?_
  refine ga_getr (b := 348) hm_57 rfl sc_344 rfl ?_
  refine ga_aload_n (v := .ref 344) hm_57 rfl rfl rfl ?_
  have b1_ : 0 ≤ F 344 5 ∧ F 344 5 ≤ 600 := gi_g hgi rfl
  refine ga_geti (z := F 344 5) hm_57 rfl sc_344 rfl (rfl) ?_
  have e2_ : F 348 (F 344 5).toNat = K 5 (F 344 5).toNat := (hrk.1 (F 344 5) (by omega) (by omega)).2
  have b3_ : 0 ≤ K 5 (F 344 5).toNat ∧ K 5 (F 344 5).toNat ≤ 600 := gi_g hgK rfl
  refine ga_iald (z := F 344 5) (w := K 5 (F 344 5).toNat) hm_57 rfl sc_348 (by omega) (by omega) (by omega) (e2_) ?_
  refine fl_icmp_ge (a := j) (b := K 5 (F 344 5).toNat) hm_57 rfl ⟨by omega, by omega⟩ ⟨by omega, by omega⟩ (fun h4_ => ?_) (fun h5_ => ?_)
  ·
    refine fl_iconst hm_57 rfl ?_
    refine gr_i (z := 0) hm_57 rfl rfl rfl ?_
    exact ⟨rfl, (by first | rw [if_pos (by omega)] | rw [if_neg (by omega)]), (by omega)⟩
  refine ga_aload_n (v := .ref 344) hm_57 rfl rfl rfl ?_
  refine ga_getr (b := 345) hm_57 rfl sc_344 rfl ?_
  refine ga_iload_n (z := j) hm_57 rfl rfl ?_
  have e6_ : F 345 j.toNat = K 2 j.toNat := hrk.2.2.1 j (by omega) (by omega)
  have b7_ : 0 ≤ K 2 j.toNat ∧ K 2 j.toNat ≤ 126 := gi_g hgK rfl
  refine ga_iald (z := j) (w := K 2 j.toNat) hm_57 rfl sc_345 (by omega) (by omega) (by omega) (e6_) ?_
  refine fl_goto hm_57 rfl ?_
  refine gr_i (z := K 2 j.toNat) hm_57 rfl rfl rfl ?_
  exact ⟨rfl, (by first | rw [if_pos (by omega)] | rw [if_neg (by omega)]), (by omega)⟩

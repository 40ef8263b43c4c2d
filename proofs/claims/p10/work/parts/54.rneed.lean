/- CheapPlannerModel.wrong -/
abbrev pq_54 (G : Nat → Nat → Option Nat) (F : fl_N) (X : xi_H) (K : fl_N) (n : Int) : Outcome → xi_H → Prop := gqv (fun A => ∃ F' : fl_N, fl_H sh_T G F' ++ X = A ∧ gi F' ∧ fs [(344, 344, 9, 10)] F F' ∧ (¬ F' 344 9 = 0) ∧ ((F 344 9 = 0 → F' 344 9 = n ∧ F' 344 10 = K 4 (F 344 5).toNat) ∧ (¬ F 344 9 = 0 → F' 344 9 = F 344 9 ∧ F' 344 10 = F 344 10)) ∧ (F' 344 5 = F 344 5)) gqn
theorem mc_54 {G : Nat → Nat → Option Nat} (hG : gg G) (F : fl_N) (X : xi_H) (hgi : gi F) (K : fl_N) (n : Int) (hgK : gi K) (hrk : rk K F) (hkt : rkt K) (hp : 0 ≤ F 344 5 ∧ F 344 5 ≤ K 1 6 - 1) (hn : 1 ≤ n ∧ n ≤ 5) : fl_M xi_ms 54 0 0 [.ref 344, .int (Int32.ofInt n)] (fl_H sh_T G F ++ X) (pq_54 G F X K n) := by
  intro fr lo hfr hlo
  show fl_R xi_ms 54 fr lo 0 [(0, .ref 344), (1, .int (Int32.ofInt n))] [] _ _
  have hP := rkt_p hkt hp.1 hp.2 hgK
  have hK16 : 0 ≤ K 1 6 ∧ K 1 6 ≤ 601 := gi_g hgK rfl
  refine ga_aload_n (v := .ref 344) hm_54 rfl rfl rfl ?_
  have b1_ : 0 ≤ F 344 9 ∧ F 344 9 ≤ 5 := gi_g hgi rfl
  refine ga_geti (z := F 344 9) hm_54 rfl sc_344 rfl (rfl) ?_
  refine fl_if_le (a := F 344 9) hm_54 rfl ⟨by omega, by omega⟩ (fun h2_ => ?_) (fun h3_ => ?_)
  ·
    refine ga_aload_n (v := .ref 344) hm_54 rfl rfl rfl ?_
    refine ga_iload_n (z := n) hm_54 rfl rfl ?_
    refine ga_puti (z := n) hm_54 rfl sc_344 rfl rfl ?_
    refine ga_aload_n (v := .ref 344) hm_54 rfl rfl rfl ?_
    refine ga_aload_n (v := .ref 344) hm_54 rfl rfl rfl ?_
    refine ga_getr (b := 347) hm_54 rfl sc_344 rfl ?_
    refine ga_aload_n (v := .ref 344) hm_54 rfl rfl rfl ?_
    have b4_ : 0 ≤ F 344 5 ∧ F 344 5 ≤ 600 := gi_g hgi rfl
    refine ga_geti (z := F 344 5) hm_54 rfl sc_344 rfl (fl_u_ne (by omega)) ?_
    have e5_ : F 347 (F 344 5).toNat = K 4 (F 344 5).toNat := (hrk.1 (F 344 5) (by omega) (by omega)).1
    have b6_ : 0 ≤ K 4 (F 344 5).toNat ∧ K 4 (F 344 5).toNat ≤ 600 := gi_g hgK rfl
    refine ga_iald (z := F 344 5) (w := K 4 (F 344 5).toNat) hm_54 rfl sc_347 (by omega) (by omega) (by omega) ((fl_u_ne (by omega)).trans (e5_)) ?_
    refine ga_puti (z := K 4 (F 344 5).toNat) hm_54 rfl sc_344 rfl rfl ?_
    obtain ⟨F7_, q8_⟩ : ∃ F9_, F9_ = (fl_u (fl_u F 344 9 n) 344 10 (K 4 (F 344 5).toNat)) := ⟨_, rfl⟩
    rw [← q8_]
    have g9_ : gi F7_ := by rw [q8_]; exact gi_u (gi_u (hgi) rfl (by omega) (by omega)) rfl (by omega) (by omega)
    have g10_ : fs [(344, 344, 9, 10)] F F7_ := by rw [q8_]; exact fs_u (fs_u (fs_refl) rfl) rfl
    have rk11_ : rk K F7_ := by rw [q8_]; exact rk_u (rk_u (hrk) (by omega) (by omega)) (by omega) (by omega)
    refine gr_v hm_54 rfl rfl ?_
    have e12_ : F7_ 344 9 = n := by rw [q8_]; exact (fl_u_ne (by omega)).trans (fl_u_eq)
    have e13_ : F7_ 344 10 = K 4 (F 344 5).toNat := by rw [q8_]; exact fl_u_eq
    have e14_ : F7_ 344 5 = F 344 5 := by rw [q8_]; exact (fl_u_ne (by omega)).trans (fl_u_ne (by omega))
    have b15_ : 0 ≤ F 344 10 ∧ F 344 10 ≤ 600 := gi_g hgi rfl
    exact ⟨F7_, rfl, g9_, g10_, (by omega), (by omega), (by omega)⟩
  refine gr_v hm_54 rfl rfl ?_
  have b16_ : 0 ≤ F 344 10 ∧ F 344 10 ≤ 600 := gi_g hgi rfl
  have b17_ : 0 ≤ F 344 5 ∧ F 344 5 ≤ 600 := gi_g hgi rfl
  exact ⟨F, rfl, hgi, fs_refl, (by omega), (by omega), (by omega)⟩
/- CheapPlannerModel.needSign -/
abbrev pq_51 (G : Nat → Nat → Option Nat) (F : fl_N) (X : xi_H) (K : fl_N) (c k : Int) : Outcome → xi_H → Prop := gqv (fun A => (∃ F' : fl_N, fl_H sh_T G F' ++ X = A ∧ gi F' ∧ fs [(344, 344, 5, 5), (344, 344, 9, 10)] F F' ∧ (¬ F' 344 9 = 0) ∧ ((F 344 9 = 0 → sp_kind K k (F 344 5) = .inl (F' 344 9, F' 344 10)) ∧ (¬ F 344 9 = 0 → F' 344 9 = F 344 9 ∧ F' 344 10 = F 344 10)) ∧ (0 ≤ F' 344 5 ∧ F' 344 5 ≤ K 1 6 - 1)) ∨ (∃ F' : fl_N, fl_H sh_T G F' ++ X = A ∧ gi F' ∧ fs [(344, 344, 5, 5), (344, 344, 9, 10)] F F' ∧ (F' 344 9 = 0 ∧ F 344 9 = 0) ∧ (sp_kind K k (F 344 5) = .inr (F' 344 5)) ∧ (0 ≤ F' 344 5 ∧ F' 344 5 ≤ K 1 6 - 1))) gqn
theorem mc_51 {G : Nat → Nat → Option Nat} (hG : gg G) (F : fl_N) (X : xi_H) (hgi : gi F) (K : fl_N) (c k : Int) (hgK : gi K) (hrk : rk K F) (hkt : rkt K) (hp : 0 ≤ F 344 5 ∧ F 344 5 ≤ K 1 6 - 1) (hc : c = 40 ∨ c = 41) (hck : k = c - 40) : fl_M xi_ms 51 2 41 [.ref 344, .int (Int32.ofInt c)] (fl_H sh_T G F ++ X) (pq_51 G F X K c k) := by
  intro fr lo hfr hlo
  show fl_R xi_ms 51 fr lo 0 [(0, .ref 344), (1, .int (Int32.ofInt c))] [] _ _
  have hP := rkt_p hkt hp.1 hp.2 hgK
  have hK16 : 0 ≤ K 1 6 ∧ K 1 6 ≤ 601 := gi_g hgK rfl
  have hko := hkt.1
  refine ga_aload_n (v := .ref 344) hm_51 rfl rfl rfl ?_
  refine ga_iload_n (z := c) hm_51 rfl rfl ?_
  have b1_ : 0 ≤ F 344 5 ∧ F 344 5 ≤ 600 := gi_g hgi rfl
  refine gVi (nY := 2) (F := 1) (L := 20) (As := [.int (Int32.ofInt c)]) (b := 344) (rest := []) hm_51 rfl hm_52 rfl rfl (fl_ob sc_344) rfl rfl rfl rfl rfl (by omega) (by omega) (mc_52 hG F X hgi (K) (c) hgK hrk hkt (by omega) (by omega)) (fun _ _ h => False.elim h) ?_
  have b3_ : 0 ≤ F 344 9 ∧ F 344 9 ≤ 5 := gi_g hgi rfl
  rintro z2_ A1_ (⟨hA_, hz_, c4_⟩ | ⟨hA_, hz_, c5_, c6_⟩)
  ·
    subst hA_
    subst hz_
    refine fl_if_eq hm_51 rfl ⟨by omega, by omega⟩ (fun _ => ?_) (fun h => absurd (by omega) h)
    refine ga_aload_n (v := .ref 344) hm_51 rfl rfl rfl ?_
    refine fl_iconst hm_51 rfl ?_
    refine gVv (nY := 2) (F := 0) (L := 0) (As := [.int (Int32.ofInt 1)]) (b := 344) (rest := []) hm_51 rfl hm_54 rfl rfl (fl_ob sc_344) rfl rfl rfl rfl rfl (by omega) (by omega) (mc_54 hG F X hgi (K) (1) hgK hrk hkt (by omega) (by omega)) (fun _ _ h => False.elim h) ?_
    have b8_ : 0 ≤ F 344 10 ∧ F 344 10 ≤ 600 := gi_g hgi rfl
    rintro A1_ ⟨F12_, hA_, g13_, s14_, c9_, c10_, c11_⟩
    subst hA_
    have g15_ : fs [(344, 344, 5, 5), (344, 344, 9, 10)] F F12_ := fs_tr fs_refl s14_ rfl
    have rk16_ : rk K F12_ := rk_fs hrk s14_ (fun r k h => (fs_n (by omega) rfl)) (fs_n (by omega) rfl)
    refine gr_v hm_51 rfl rfl ?_
    have b17_ : 0 ≤ F12_ 344 9 ∧ F12_ 344 9 ≤ 5 := gi_g g13_ rfl
    have e18_ : F12_ 344 5 = F 344 5 := (s14_ 344 5 rfl).trans (rfl)
    have b19_ : 0 ≤ F12_ 344 10 ∧ F12_ 344 10 ≤ 600 := gi_g g13_ rfl
    exact Or.inl ⟨F12_, rfl, g13_, g15_, (by omega), (⟨by intro h0_; have h1_ := c10_.1 h0_; rw [sp_kind, if_neg (by omega), pf, h1_.1, h1_.2], by intro h0_; exact c10_.2 h0_⟩), (by omega)⟩
  subst hA_
  subst hz_
  refine fl_if_eq hm_51 rfl ⟨by omega, by omega⟩ (fun h => absurd h (by omega)) (fun _ => ?_)
  refine ga_aload_n (v := .ref 344) hm_51 rfl rfl rfl ?_
  refine ga_dup hm_51 rfl rfl ?_
  refine ga_geti (z := F 344 5) hm_51 rfl sc_344 rfl (rfl) ?_
  refine fl_iconst hm_51 rfl ?_
  refine ga_iadd (a := F 344 5) (b := 1) (c := F 344 5 + 1) hm_51 rfl (by omega) ?_
  refine ga_puti (z := F 344 5 + 1) hm_51 rfl sc_344 rfl rfl ?_
  refine fl_goto hm_51 rfl ?_
  obtain ⟨F20_, q21_⟩ : ∃ F9_, F9_ = (fl_u F 344 5 (F 344 5 + 1)) := ⟨_, rfl⟩
  rw [← q21_]
  have g22_ : gi F20_ := by rw [q21_]; exact gi_u (hgi) rfl (by omega) (by omega)
  have g23_ : fs [(344, 344, 5, 5), (344, 344, 9, 10)] F F20_ := by rw [q21_]; exact fs_u (fs_refl) rfl
  have rk24_ : rk K F20_ := by rw [q21_]; exact rk_u (hrk) (by omega) (by omega)
  refine gr_v hm_51 rfl rfl ?_
  have e25_ : F20_ 344 9 = F 344 9 := by rw [q21_]; exact fl_u_ne (by omega)
  have e26_ : F20_ 344 10 = F 344 10 := by rw [q21_]; exact fl_u_ne (by omega)
  have e27_ : F20_ 344 5 = F 344 5 + 1 := by rw [q21_]; exact fl_u_eq
  exact Or.inr (⟨F20_, rfl, g22_, g23_, (by omega), (by rw [sp_kind, if_pos (by omega), sk, if_pos (by omega)]; congr 1; omega), (by omega)⟩)
/- CheapPlannerModel.needWord -/
abbrev pq_55 (G : Nat → Nat → Option Nat) (F : fl_N) (X : xi_H) (K : fl_N) (kw : Int) (w : List Int) : Outcome → xi_H → Prop := gqv (fun A => (∃ F' : fl_N, fl_H sh_T G F' ++ X = A ∧ gi F' ∧ fs [(344, 344, 5, 5), (344, 344, 9, 10)] F F' ∧ (¬ F' 344 9 = 0) ∧ ((F 344 9 = 0 → sp_word K w (F 344 5) = .inl (F' 344 9, F' 344 10)) ∧ (¬ F 344 9 = 0 → F' 344 9 = F 344 9 ∧ F' 344 10 = F 344 10)) ∧ (0 ≤ F' 344 5 ∧ F' 344 5 ≤ K 1 6 - 1)) ∨ (∃ F' : fl_N, fl_H sh_T G F' ++ X = A ∧ gi F' ∧ fs [(344, 344, 5, 5), (344, 344, 9, 10)] F F' ∧ (F' 344 9 = 0 ∧ F 344 9 = 0) ∧ (sp_word K w (F 344 5) = .inr (F' 344 5)) ∧ (0 ≤ F' 344 5 ∧ F' 344 5 ≤ K 1 6 - 1))) gqn
theorem mc_55 {G : Nat → Nat → Option Nat} (hG : gg G) (F : fl_N) (X : xi_H) (hgi : gi F) (K : fl_N) (kw : Int) (w : List Int) (hgK : gi K) (hrk : rk K F) (hkt : rkt K) (hp : 0 ≤ F 344 5 ∧ F 344 5 ≤ K 1 6 - 1) (hkw : 0 ≤ kw ∧ kw ≤ 18) (hw : (1 ≤ w.length ∧ w.length ≤ 16) ∧ ∀ q : Nat, q < w.length → w.getD q 0 ≠ 0) (hb : ∀ q : Nat, q < 16 → bt8 (F 346 (4 * kw.toNat + q / 4)) (24 - 8 * ((q : Int) % 4)) = w.getD q 0) : fl_M xi_ms 55 2 44 [.ref 344, .int (Int32.ofInt kw)] (fl_H sh_T G F ++ X) (pq_55 G F X K kw w) := by
  intro fr lo hfr hlo
  show fl_R xi_ms 55 fr lo 0 [(0, .ref 344), (1, .int (Int32.ofInt kw))] [] _ _
  have hP := rkt_p hkt hp.1 hp.2 hgK
  have hK16 : 0 ≤ K 1 6 ∧ K 1 6 ≤ 601 := gi_g hgK rfl
  have hko := hkt.1
  refine ga_aload_n (v := .ref 344) hm_55 rfl rfl rfl ?_
  refine ga_iload_n (z := kw) hm_55 rfl rfl ?_
  have b1_ : 0 ≤ F 344 5 ∧ F 344 5 ≤ 600 := gi_g hgi rfl
  refine gVi (nY := 4) (F := 1) (L := 21) (As := [.int (Int32.ofInt kw)]) (b := 344) (rest := []) hm_55 rfl hm_56 rfl rfl (fl_ob sc_344) rfl rfl rfl rfl rfl (by omega) (by omega) (mc_56 hG F X hgi (K) (kw) (w) hgK hrk hkt (by omega) (by omega) (hw) (hb)) (fun _ _ h => False.elim h) ?_
  have b3_ : 0 ≤ F 344 9 ∧ F 344 9 ≤ 5 := gi_g hgi rfl
  rintro z2_ A1_ (⟨hA_, hz_, c4_⟩ | ⟨hA_, hz_, c5_, c6_⟩)
  ·
    subst hA_
    subst hz_
    refine fl_if_eq hm_55 rfl ⟨by omega, by omega⟩ (fun _ => ?_) (fun h => absurd (by omega) h)
    refine ga_aload_n (v := .ref 344) hm_55 rfl rfl rfl ?_
    refine fl_iconst hm_55 rfl ?_
    refine gVv (nY := 2) (F := 0) (L := 0) (As := [.int (Int32.ofInt 1)]) (b := 344) (rest := []) hm_55 rfl hm_54 rfl rfl (fl_ob sc_344) rfl rfl rfl rfl rfl (by omega) (by omega) (mc_54 hG F X hgi (K) (1) hgK hrk hkt (by omega) (by omega)) (fun _ _ h => False.elim h) ?_
    have b8_ : 0 ≤ F 344 10 ∧ F 344 10 ≤ 600 := gi_g hgi rfl
    rintro A1_ ⟨F12_, hA_, g13_, s14_, c9_, c10_, c11_⟩
    subst hA_
    have g15_ : fs [(344, 344, 5, 5), (344, 344, 9, 10)] F F12_ := fs_tr fs_refl s14_ rfl
    have rk16_ : rk K F12_ := rk_fs hrk s14_ (fun r k h => (fs_n (by omega) rfl)) (fs_n (by omega) rfl)
    refine gr_v hm_55 rfl rfl ?_
    have b17_ : 0 ≤ F12_ 344 9 ∧ F12_ 344 9 ≤ 5 := gi_g g13_ rfl
    have e18_ : F12_ 344 5 = F 344 5 := (s14_ 344 5 rfl).trans (rfl)
    have b19_ : 0 ≤ F12_ 344 10 ∧ F12_ 344 10 ≤ 600 := gi_g g13_ rfl
    exact Or.inl ⟨F12_, rfl, g13_, g15_, (by omega), (⟨by intro h0_; have h1_ := c10_.1 h0_; rw [sp_word, if_neg (fun h8_ => c4_ ⟨h0_, h8_⟩), pf, h1_.1, h1_.2], by intro h0_; exact c10_.2 h0_⟩), (by omega)⟩
  subst hA_
  subst hz_
  refine fl_if_eq hm_55 rfl ⟨by omega, by omega⟩ (fun h => absurd h (by omega)) (fun _ => ?_)
  have hsz := (kw_iff hkt hgK hp.1 hp.2 hw.1 hw.2).mp c5_.2
  refine ga_aload_n (v := .ref 344) hm_55 rfl rfl rfl ?_
  refine ga_dup hm_55 rfl rfl ?_
  refine ga_geti (z := F 344 5) hm_55 rfl sc_344 rfl (rfl) ?_
  refine fl_iconst hm_55 rfl ?_
  refine ga_iadd (a := F 344 5) (b := 1) (c := F 344 5 + 1) hm_55 rfl (by omega) ?_
  refine ga_puti (z := F 344 5 + 1) hm_55 rfl sc_344 rfl rfl ?_
  refine fl_goto hm_55 rfl ?_
  obtain ⟨F20_, q21_⟩ : ∃ F9_, F9_ = (fl_u F 344 5 (F 344 5 + 1)) := ⟨_, rfl⟩
  rw [← q21_]
  have g22_ : gi F20_ := by rw [q21_]; exact gi_u (hgi) rfl (by omega) (by omega)
  have g23_ : fs [(344, 344, 5, 5), (344, 344, 9, 10)] F F20_ := by rw [q21_]; exact fs_u (fs_refl) rfl
  have rk24_ : rk K F20_ := by rw [q21_]; exact rk_u (hrk) (by omega) (by omega)
  refine gr_v hm_55 rfl rfl ?_
  have e25_ : F20_ 344 9 = F 344 9 := by rw [q21_]; exact fl_u_ne (by omega)
  have e26_ : F20_ 344 10 = F 344 10 := by rw [q21_]; exact fl_u_ne (by omega)
  have e27_ : F20_ 344 5 = F 344 5 + 1 := by rw [q21_]; exact fl_u_eq
  exact Or.inr (⟨F20_, rfl, g22_, g23_, (by omega), (by rw [sp_word, if_pos c5_.2, sk, if_pos (by omega)]; congr 1; omega), (by omega)⟩)
/- CheapPlannerModel.needName -/
abbrev pq_58 (G : Nat → Nat → Option Nat) (F : fl_N) (X : xi_H) (K : fl_N) : Outcome → xi_H → Prop := gql (fun z A => (∃ F' : fl_N, fl_H sh_T G F' ++ X = A ∧ gi F' ∧ fs [(344, 344, 9, 10)] F F' ∧ (¬ F' 344 9 = 0) ∧ ((F 344 9 = 0 → sp_nm K (F 344 5) = .inl (F' 344 9, F' 344 10)) ∧ (¬ F 344 9 = 0 → F' 344 9 = F 344 9 ∧ F' 344 10 = F 344 10)) ∧ (0 ≤ F' 344 5 ∧ F' 344 5 ≤ K 1 6 - 1) ∧ (0 ≤ z ∧ z < 2565726409)) ∨ (∃ F' : fl_N, fl_H sh_T G F' ++ X = A ∧ gi F' ∧ fs [(344, 344, 9, 10)] F F' ∧ (F' 344 9 = 0 ∧ F 344 9 = 0) ∧ (sp_nm K (F 344 5) = .inr (F' 344 5)) ∧ (0 ≤ F' 344 5 ∧ F' 344 5 ≤ K 1 6 - 1) ∧ (nrel (K 6 (F 344 5).toNat) z) ∧ (0 ≤ z ∧ z < 2565726409) ∧ (K 3 (F 344 5).toNat = 2) ∧ (F 344 5 < K 1 6 - 1))) gqn
theorem mc_58 {G : Nat → Nat → Option Nat} (hG : gg G) (F : fl_N) (X : xi_H) (hgi : gi F) (K : fl_N) (hgK : gi K) (hrk : rk K F) (hkt : rkt K) (hp : 0 ≤ F 344 5 ∧ F 344 5 ≤ K 1 6 - 1) : fl_M xi_ms 58 2 46 [.ref 344] (fl_H sh_T G F ++ X) (pq_58 G F X K) := by
  intro fr lo hfr hlo
  show fl_R xi_ms 58 fr lo 0 [(0, .ref 344)] [] _ _
  have hP := (rkt_p hkt hp.1 hp.2 hgK).1
  have hK16 : 0 ≤ K 1 6 ∧ K 1 6 ≤ 601 := gi_g hgK rfl
  have hko := hkt.1
  have hnm := tk_name hkt hgK hp.1 hp.2
  refine ga_aload_n (v := .ref 344) hm_58 rfl rfl rfl ?_
  refine gIi (nY := 1) (F := 0) (L := 0) (As := []) (b := 344) (rest := []) hm_58 rfl hm_59 rfl rfl (fl_ob sc_344) rfl rfl rfl rfl rfl (by omega) (by omega) ?_
  intro f1_ l2_ h3_ h4_
  show fl_R xi_ms 59 f1_ l2_ 0 [(0, .ref 344)] [] _ _
  refine ga_aload_n (v := .ref 344) hm_59 rfl rfl rfl ?_
  have b5_ : 0 ≤ F 344 9 ∧ F 344 9 ≤ 5 := gi_g hgi rfl
  refine ga_geti (z := F 344 9) hm_59 rfl sc_344 rfl (rfl) ?_
  refine fl_if_le (a := F 344 9) hm_59 rfl ⟨by omega, by omega⟩ (fun h6_ => ?_) (fun h7_ => ?_)
  ·
    refine fl_iconst hm_59 rfl ?_
    refine gr_i hm_59 rfl rfl (ga_nb (by omega)) ?_
    clear h3_ h4_ f1_ l2_
    refine fl_if_eq hm_58 rfl ⟨by omega, by omega⟩ (fun _ => ?_) (fun h => absurd (by omega) h)
    refine ga_aload_n (v := .ref 344) hm_58 rfl rfl rfl ?_
    refine fl_iconst hm_58 rfl ?_
    have b8_ : 0 ≤ F 344 5 ∧ F 344 5 ≤ 600 := gi_g hgi rfl
    refine gVl (nY := 7) (F := 1) (L := 20) (As := [.int (Int32.ofInt 0)]) (b := 344) (rest := []) hm_58 rfl hm_60 rfl rfl (fl_ob sc_344) rfl rfl rfl rfl rfl (by omega) (by omega) (mc_60 hG F X hgi (K) (0) hgK hrk hkt (by omega) (by omega)) (fun _ _ h => False.elim h) ?_
    rintro z9_ A1_ ⟨hA_, c10_, c11_⟩
    subst hA_
    refine ga_lstore_n (lv2 := [(1, .long (Int64.ofInt z9_)), (0, .ref 344)]) hm_58 rfl (Nat.le_of_ble_eq_true rfl) rfl ?_
    refine ga_lload_n (z := z9_) hm_58 rfl rfl ?_
    refine ga_lconst (z := 0) hm_58 rfl rfl ?_
    refine ga_lcmpn (a := z9_) (b := 0) hm_58 rfl rfl ⟨by omega, by omega⟩ ⟨by omega, by omega⟩ (fun h12_ => ?_) (fun h13_ => ?_)
    ·
      refine ga_lload_n (z := z9_) hm_58 rfl rfl ?_
      refine gr_l hm_58 rfl rfl ?_
      exact Or.inr (⟨F, rfl, hgi, fs_refl, (by omega), (by rw [sp_nm, if_pos (nn_k hnm.2 (show z9_ = nmr (K 2) (K 4 (F 344 5).toNat) (K 5 (F 344 5).toNat) by rw [c10_, if_pos (by omega), Int.add_zero]) (by assumption))]; try (congr 1; omega)), (by omega), (nn_r hnm (show z9_ = nmr (K 2) (K 4 (F 344 5).toNat) (K 5 (F 344 5).toNat) by rw [c10_, if_pos (by omega), Int.add_zero]) (by assumption)), (by omega), (nn_k hnm.2 (show z9_ = nmr (K 2) (K 4 (F 344 5).toNat) (K 5 (F 344 5).toNat) by rw [c10_, if_pos (by omega), Int.add_zero]) (by assumption)), (rkt_lt hkt hp.2 (by rw [nn_k hnm.2 (show z9_ = nmr (K 2) (K 4 (F 344 5).toNat) (K 5 (F 344 5).toNat) by rw [c10_, if_pos (by omega), Int.add_zero]) (by assumption)]; omega))⟩)
    refine ga_aload_n (v := .ref 344) hm_58 rfl rfl rfl ?_
    refine fl_iconst hm_58 rfl ?_
    refine gVv (nY := 2) (F := 0) (L := 0) (As := [.int (Int32.ofInt 1)]) (b := 344) (rest := []) hm_58 rfl hm_54 rfl rfl (fl_ob sc_344) rfl rfl rfl rfl rfl (by omega) (by omega) (mc_54 hG F X hgi (K) (1) hgK hrk hkt (by omega) (by omega)) (fun _ _ h => False.elim h) ?_
    have b15_ : 0 ≤ F 344 10 ∧ F 344 10 ≤ 600 := gi_g hgi rfl
    rintro A1_ ⟨F19_, hA_, g20_, s21_, c16_, c17_, c18_⟩
    subst hA_
    have g22_ : fs [(344, 344, 9, 10)] F F19_ := fs_tr fs_refl s21_ rfl
    have rk23_ : rk K F19_ := rk_fs hrk s21_ (fun r k h => (fs_n (by omega) rfl)) (fs_n (by omega) rfl)
    have c17_s := c17_.1 (by omega)
    clear c17_
    refine ga_lload_n (z := z9_) hm_58 rfl rfl ?_
    refine gr_l hm_58 rfl rfl ?_
    have b24_ : 0 ≤ F19_ 344 9 ∧ F19_ 344 9 ≤ 5 := gi_g g20_ rfl
    have e25_ : F19_ 344 5 = F 344 5 := (s21_ 344 5 rfl).trans (rfl)
    have b26_ : 0 ≤ F19_ 344 10 ∧ F19_ 344 10 ≤ 600 := gi_g g20_ rfl
    exact Or.inl ⟨F19_, rfl, g20_, g22_, (by omega), (⟨by intro h0_; have h1_ := c17_s; rw [sp_nm, if_neg (nn_n hnm.1 (show z9_ = nmr (K 2) (K 4 (F 344 5).toNat) (K 5 (F 344 5).toNat) by rw [c10_, if_pos (by omega), Int.add_zero]) (by assumption)), pf, h1_.1, h1_.2], fun h0_ => by exfalso; omega⟩), (by omega), (by omega)⟩
  refine fl_iconst hm_59 rfl ?_
  refine fl_goto hm_59 rfl ?_
  refine gr_i hm_59 rfl rfl (ga_nb (by omega)) ?_
  clear h3_ h4_ f1_ l2_
  refine fl_if_eq hm_58 rfl ⟨by omega, by omega⟩ (fun h => absurd h (by omega)) (fun _ => ?_)
  refine ga_lconst (z := 0) hm_58 rfl rfl ?_
  refine fl_goto hm_58 rfl ?_
  refine ga_lstore_n (lv2 := [(1, .long (Int64.ofInt 0)), (0, .ref 344)]) hm_58 rfl (Nat.le_of_ble_eq_true rfl) rfl ?_
  refine ga_lload_n (z := 0) hm_58 rfl rfl ?_
  refine ga_lconst (z := 0) hm_58 rfl rfl ?_
  refine ga_lcmpn (a := 0) (b := 0) hm_58 rfl rfl ⟨by omega, by omega⟩ ⟨by omega, by omega⟩ (fun h27_ => ?_) (fun h28_ => ?_)
  · exfalso; omega
  refine ga_aload_n (v := .ref 344) hm_58 rfl rfl rfl ?_
  refine fl_iconst hm_58 rfl ?_
  have b29_ : 0 ≤ F 344 5 ∧ F 344 5 ≤ 600 := gi_g hgi rfl
  refine gVv (nY := 2) (F := 0) (L := 0) (As := [.int (Int32.ofInt 1)]) (b := 344) (rest := []) hm_58 rfl hm_54 rfl rfl (fl_ob sc_344) rfl rfl rfl rfl rfl (by omega) (by omega) (mc_54 hG F X hgi (K) (1) hgK hrk hkt (by omega) (by omega)) (fun _ _ h => False.elim h) ?_
  have b31_ : 0 ≤ F 344 10 ∧ F 344 10 ≤ 600 := gi_g hgi rfl
  rintro A1_ ⟨F35_, hA_, g36_, s37_, c32_, c33_, c34_⟩
  subst hA_
  have g38_ : fs [(344, 344, 9, 10)] F F35_ := fs_tr fs_refl s37_ rfl
  have rk39_ : rk K F35_ := rk_fs hrk s37_ (fun r k h => (fs_n (by omega) rfl)) (fs_n (by omega) rfl)
  have c33_k := c33_.2 (by omega)
  clear c33_
  refine ga_lload_n (z := 0) hm_58 rfl rfl ?_
  refine gr_l hm_58 rfl rfl ?_
  have b40_ : 0 ≤ F35_ 344 9 ∧ F35_ 344 9 ≤ 5 := gi_g g36_ rfl
  have e41_ : F35_ 344 5 = F 344 5 := (s37_ 344 5 rfl).trans (rfl)
  have b42_ : 0 ≤ F35_ 344 10 ∧ F35_ 344 10 ≤ 600 := gi_g g36_ rfl
  exact Or.inl ⟨F35_, rfl, g36_, g38_, (by omega), (⟨fun h0_ => by exfalso; omega, fun h0_ => c33_k⟩), (by omega), (by omega)⟩
/- CheapPlannerModel.isVariable -/
abbrev pq_169 (G : Nat → Nat → Option Nat) (F : fl_N) (X : xi_H) (K : fl_N) : Outcome → xi_H → Prop := gqi (fun z A => (fl_H sh_T G F ++ X = A ∧ (z = 0) ∧ (¬ (F 344 9 = 0 ∧ K 3 (F 344 5).toNat = 3))) ∨ (fl_H sh_T G F ++ X = A ∧ (z = 1) ∧ (F 344 9 = 0 ∧ K 3 (F 344 5).toNat = 3) ∧ (F 344 5 < K 1 6 - 1) ∧ (nmr (K 2) (K 4 (F 344 5).toNat + 1) (K 5 (F 344 5).toNat) ≠ 0))) gqn
theorem mc_169 {G : Nat → Nat → Option Nat} (hG : gg G) (F : fl_N) (X : xi_H) (hgi : gi F) (K : fl_N) (hgK : gi K) (hrk : rk K F) (hkt : rkt K) (hp : 0 ≤ F 344 5 ∧ F 344 5 ≤ K 1 6 - 1) : fl_M xi_ms 169 2 46 [.ref 344] (fl_H sh_T G F ++ X) (pq_169 G F X K) := by
  intro fr lo hfr hlo
  show fl_R xi_ms 169 fr lo 0 [(0, .ref 344)] [] _ _
  have hP := rkt_p hkt hp.1 hp.2 hgK
  have hK16 : 0 ≤ K 1 6 ∧ K 1 6 ≤ 601 := gi_g hgK rfl
  have hvr := tk_var hkt hgK hp.1 hp.2
  refine ga_aload_n (v := .ref 344) hm_169 rfl rfl rfl ?_
  refine gIi (nY := 1) (F := 0) (L := 0) (As := []) (b := 344) (rest := []) hm_169 rfl hm_53 rfl rfl (fl_ob sc_344) rfl rfl rfl rfl rfl (by omega) (by omega) ?_
  intro f1_ l2_ h3_ h4_
  show fl_R xi_ms 53 f1_ l2_ 0 [(0, .ref 344)] [] _ _
  refine ga_aload_n (v := .ref 344) hm_53 rfl rfl rfl ?_
  refine ga_getr (b := 348) hm_53 rfl sc_344 rfl ?_
  refine ga_aload_n (v := .ref 344) hm_53 rfl rfl rfl ?_
  have b5_ : 0 ≤ F 344 5 ∧ F 344 5 ≤ 600 := gi_g hgi rfl
  refine ga_geti (z := F 344 5) hm_53 rfl sc_344 rfl (rfl) ?_
  have e6_ : F 348 (F 344 5).toNat = K 5 (F 344 5).toNat := (hrk.1 (F 344 5) (by omega) (by omega)).2
  have b7_ : 0 ≤ K 5 (F 344 5).toNat ∧ K 5 (F 344 5).toNat ≤ 600 := gi_g hgK rfl
  refine ga_iald (z := F 344 5) (w := K 5 (F 344 5).toNat) hm_53 rfl sc_348 (by omega) (by omega) (by omega) (e6_) ?_
  refine ga_aload_n (v := .ref 344) hm_53 rfl rfl rfl ?_
  refine ga_getr (b := 347) hm_53 rfl sc_344 rfl ?_
  refine ga_aload_n (v := .ref 344) hm_53 rfl rfl rfl ?_
  refine ga_geti (z := F 344 5) hm_53 rfl sc_344 rfl (rfl) ?_
  have e8_ : F 347 (F 344 5).toNat = K 4 (F 344 5).toNat := (hrk.1 (F 344 5) (by omega) (by omega)).1
  have b9_ : 0 ≤ K 4 (F 344 5).toNat ∧ K 4 (F 344 5).toNat ≤ 600 := gi_g hgK rfl
  refine ga_iald (z := F 344 5) (w := K 4 (F 344 5).toNat) hm_53 rfl sc_347 (by omega) (by omega) (by omega) (e8_) ?_
  refine ga_isub (a := K 5 (F 344 5).toNat) (b := K 4 (F 344 5).toNat) (c := K 5 (F 344 5).toNat - (K 4 (F 344 5).toNat)) hm_53 rfl (by omega) ?_
  refine gr_i hm_53 rfl rfl rfl ?_
  clear h3_ h4_ f1_ l2_
  refine fl_iconst hm_169 rfl ?_
  refine fl_icmp_le (a := K 5 (F 344 5).toNat - (K 4 (F 344 5).toNat)) (b := 1) hm_169 rfl ⟨by omega, by omega⟩ ⟨by omega, by omega⟩ (fun h10_ => ?_) (fun h11_ => ?_)
  ·
    refine fl_iconst hm_169 rfl ?_
    refine gr_i (z := 0) hm_169 rfl rfl (ga_nb (by omega)) ?_
    have b12_ : 0 ≤ F 344 9 ∧ F 344 9 ≤ 5 := gi_g hgi rfl
    exact Or.inl ⟨rfl, rfl, (fun h9_ => by have h8_ := (hvr.1 h9_.2).1; omega)⟩
  refine ga_aload_n (v := .ref 344) hm_169 rfl rfl rfl ?_
  refine ga_getr (b := 345) hm_169 rfl sc_344 rfl ?_
  refine ga_aload_n (v := .ref 344) hm_169 rfl rfl rfl ?_
  refine ga_getr (b := 347) hm_169 rfl sc_344 rfl ?_
  refine ga_aload_n (v := .ref 344) hm_169 rfl rfl rfl ?_
  refine ga_geti (z := F 344 5) hm_169 rfl sc_344 rfl (rfl) ?_
  refine ga_iald (z := F 344 5) (w := K 4 (F 344 5).toNat) hm_169 rfl sc_347 (by omega) (by omega) (by omega) (e8_) ?_
  have e13_ : F 345 (K 4 (F 344 5).toNat).toNat = K 2 (K 4 (F 344 5).toNat).toNat := hrk.2.2.1 (K 4 (F 344 5).toNat) (by omega) (by omega)
  have b14_ : 0 ≤ K 2 (K 4 (F 344 5).toNat).toNat ∧ K 2 (K 4 (F 344 5).toNat).toNat ≤ 126 := gi_g hgK rfl
  refine ga_iald (z := K 4 (F 344 5).toNat) (w := K 2 (K 4 (F 344 5).toNat).toNat) hm_169 rfl sc_345 (by omega) (by omega) (by omega) (e13_) ?_
  refine fl_bipush hm_169 rfl rfl ?_
  refine fx_icmp_ne (a := K 2 (K 4 (F 344 5).toNat).toNat) (b := 63) hm_169 rfl ⟨by omega, by omega⟩ ⟨by omega, by omega⟩ (fun h15_ => ?_) (fun h16_ => ?_)
  ·
    refine fl_iconst hm_169 rfl ?_
    refine gr_i (z := 0) hm_169 rfl rfl (ga_nb (by omega)) ?_
    have b17_ : 0 ≤ F 344 9 ∧ F 344 9 ≤ 5 := gi_g hgi rfl
    exact Or.inl ⟨rfl, rfl, (fun h9_ => by have h8_ := (hvr.1 h9_.2).1; omega)⟩
  refine ga_aload_n (v := .ref 344) hm_169 rfl rfl rfl ?_
  refine fl_iconst hm_169 rfl ?_
  refine gVl (nY := 7) (F := 1) (L := 20) (As := [.int (Int32.ofInt 1)]) (b := 344) (rest := []) hm_169 rfl hm_60 rfl rfl (fl_ob sc_344) rfl rfl rfl rfl rfl (by omega) (by omega) (mc_60 hG F X hgi (K) (1) hgK hrk hkt (by omega) (by omega)) (fun _ _ h => False.elim h) ?_
  have b19_ : 0 ≤ F 344 9 ∧ F 344 9 ≤ 5 := gi_g hgi rfl
  rintro z18_ A1_ ⟨hA_, c20_, c21_⟩
  subst hA_
  refine ga_lconst (z := 0) hm_169 rfl rfl ?_
  refine ga_lcmp (a := z18_) (b := 0) hm_169 rfl ⟨by omega, by omega⟩ ⟨by omega, by omega⟩ (fun h22_ => ?_) (fun h23_ => ?_) (fun h24_ => ?_)
  ·
    refine fl_if_le hm_169 rfl ⟨by omega, by omega⟩ (fun _ => ?_) (fun h => absurd (by omega) h)
    refine fl_iconst hm_169 rfl ?_
    refine gr_i (z := 0) hm_169 rfl rfl (ga_nb (by omega)) ?_
    exact Or.inl ⟨rfl, rfl, (fun h9_ => by have h8_ := nrel_pos (hvr.1 h9_.2).2; have h7_ := c20_; rw [if_pos h9_.1] at h7_; omega)⟩
  ·
    refine fl_if_le hm_169 rfl ⟨by omega, by omega⟩ (fun _ => ?_) (fun h => absurd (by omega) h)
    refine fl_iconst hm_169 rfl ?_
    refine gr_i (z := 0) hm_169 rfl rfl (ga_nb (by omega)) ?_
    exact Or.inl ⟨rfl, rfl, (fun h9_ => by have h8_ := nrel_pos (hvr.1 h9_.2).2; have h7_ := c20_; rw [if_pos h9_.1] at h7_; omega)⟩
  ·
    refine fl_if_le hm_169 rfl ⟨by omega, by omega⟩ (fun h => absurd h (by omega)) (fun _ => ?_)
    refine fl_iconst hm_169 rfl ?_
    refine fl_goto hm_169 rfl ?_
    refine gr_i (z := 1) hm_169 rfl rfl (ga_nb (by omega)) ?_
    exact Or.inr (⟨rfl, rfl, (⟨by by_cases h9_ : F 344 9 = 0; exact h9_; exfalso; rw [if_neg h9_] at c20_; omega, iv_k hvr.2 (by omega) (by assumption) (show z18_ = nmr (K 2) (K 4 (F 344 5).toNat + 1) (K 5 (F 344 5).toNat) by rw [c20_, if_pos (by by_cases h9_ : F 344 9 = 0; exact h9_; exfalso; rw [if_neg h9_] at c20_; omega)]) (by omega)⟩), (by omega), (by rw [← (show z18_ = nmr (K 2) (K 4 (F 344 5).toNat + 1) (K 5 (F 344 5).toNat) by rw [c20_, if_pos (by by_cases h9_ : F 344 9 = 0; exact h9_; exfalso; rw [if_neg h9_] at c20_; omega)])]; omega)⟩)
/- CheapPlannerModel.find -/
abbrev pq_162 (G : Nat → Nat → Option Nat) (F : fl_N) (X : xi_H) (g ln : Nat) (fm n v : Int) : Outcome → xi_H → Prop := gqi (fun z A => fl_H sh_T G F ++ X = A ∧ (-1 ≤ z ∧ z < n ∨ z = -1) ∧ (z = -1 → ∀ j : Nat, (j : Int) < n → F g (fm.toNat + j) ≠ v) ∧ (0 ≤ z → F g (fm.toNat + z.toNat) = v ∧ ∀ j : Nat, (j : Int) < z → F g (fm.toNat + j) ≠ v)) gqn
theorem mc_162 {G : Nat → Nat → Option Nat} (hG : gg G) (F : fl_N) (X : xi_H) (hgi : gi F) (g ln : Nat) (fm n v : Int) (h_g_ : sh_T[g]? = some (0, 1, [ln])) (h_g : ∀ k, gb g k = (0, 2565726408)) (hr : 0 ≤ fm ∧ 0 ≤ n ∧ fm + n ≤ (ln : Int) ∧ ln ≤ 100) (hv : 0 ≤ v ∧ v < 2565726409) : fl_M xi_ms 162 0 0 [.ref g, .int (Int32.ofInt fm), .int (Int32.ofInt n), .long (Int64.ofInt v)] (fl_H sh_T G F ++ X) (pq_162 G F X g ln fm n v) := by
  intro fr lo hfr hlo
  show fl_R xi_ms 162 fr lo 0 [(0, .ref g), (1, .int (Int32.ofInt fm)), (2, .int (Int32.ofInt n)), (3, .long (Int64.ofInt v))] [] _ _
  refine fl_iconst hm_162 rfl ?_
  refine ga_istore (lv2 := [(5, .int (Int32.ofInt (-1))), (0, .ref g), (1, .int (Int32.ofInt fm)), (2, .int (Int32.ofInt n)), (3, .long (Int64.ofInt v))]) hm_162 rfl (Nat.le_of_ble_eq_true rfl) rfl ?_
  refine ga_iload_n (z := n) hm_162 rfl rfl ?_
  refine fl_iconst hm_162 rfl ?_
  refine ga_isub (a := n) (b := 1) (c := n - 1) hm_162 rfl (by omega) ?_
  refine ga_istore (lv2 := [(6, .int (Int32.ofInt (n - 1))), (5, .int (Int32.ofInt (-1))), (0, .ref g), (1, .int (Int32.ofInt fm)), (2, .int (Int32.ofInt n)), (3, .long (Int64.ofInt v))]) hm_162 rfl (Nat.le_of_ble_eq_true rfl) rfl ?_
  have L2_ : ∀ (n1_ : Nat) (k : Int) (z : Int), (k + 1 : Int).toNat = n1_ → (-1 ≤ k ∧ k < n ∨ k = -1) → ((z = -1 ∧ ∀ j : Nat, k < (j : Int) → (j : Int) < n → F g (fm.toNat + j) ≠ v) ∨ ((k < z ∧ z < n) ∧ F g (fm.toNat + z.toNat) = v ∧ ∀ j : Nat, k < (j : Int) → (j : Int) < z → F g (fm.toNat + j) ≠ v)) → fl_R xi_ms 162 fr lo 8 [(6, .int (Int32.ofInt k)), (5, .int (Int32.ofInt z)), (0, .ref g), (1, .int (Int32.ofInt fm)), (2, .int (Int32.ofInt n)), (3, .long (Int64.ofInt v))] [] (fl_H sh_T G F ++ X) (pq_162 G F X g ln fm n v) := by
    intro n1_
    induction n1_ using Nat.strongRecOn with
    | ind n1_ ih3_ =>
    intro k z hn4_ hi hz
    refine ga_iload (z := k) hm_162 rfl rfl ?_
    refine fl_if_lt (a := k) hm_162 rfl ⟨by omega, by omega⟩ (fun h5_ => ?_) (fun h6_ => ?_)
    ·
      refine ga_iload (z := z) hm_162 rfl rfl ?_
      refine gr_i (z := z) hm_162 rfl rfl rfl ?_
      exact ⟨rfl, (by rcases hz with h | h <;> omega), (fun h9_ j hj => by rcases hz with h | h; exact h.2 j (by omega) hj; omega), (fun h9_ => by rcases hz with h | h; omega; exact ⟨h.2.1, fun j hj => h.2.2 j (by omega) hj⟩)⟩
    refine ga_aload_n (v := .ref g) hm_162 rfl rfl rfl ?_
    refine ga_iload_n (z := fm) hm_162 rfl rfl ?_
    refine ga_iload (z := k) hm_162 rfl rfl ?_
    refine ga_iadd (a := fm) (b := k) (c := fm + k) hm_162 rfl (by omega) ?_
    have b7_ : 0 ≤ F g (fm + k).toNat ∧ F g (fm + k).toNat ≤ 2565726408 := gi_g hgi (h_g _)
    refine ga_lald (z := fm + k) (w := F g (fm + k).toNat) hm_162 rfl h_g_ (by omega) (by omega) (by omega) (rfl) ?_
    refine ga_lload_n (z := v) hm_162 rfl rfl ?_
    refine ga_lcmpn (a := F g (fm + k).toNat) (b := v) hm_162 rfl rfl ⟨by omega, by omega⟩ ⟨by omega, by omega⟩ (fun h8_ => ?_) (fun h9_ => ?_)
    ·
      refine ga_inc (a := k) (c := k - 1) (lv2 := [(6, .int (Int32.ofInt (k - 1))), (5, .int (Int32.ofInt z)), (0, .ref g), (1, .int (Int32.ofInt fm)), (2, .int (Int32.ofInt n)), (3, .long (Int64.ofInt v))]) hm_162 rfl rfl (Nat.le_of_ble_eq_true rfl) (by omega) rfl ?_
      refine fl_goto hm_162 rfl ?_
      exact ih3_ _ (by omega) (k - 1) (z) rfl (by omega) (fd_ne hz (by omega) (by assumption))
    refine ga_iload (z := k) hm_162 rfl rfl ?_
    refine ga_istore (lv2 := [(5, .int (Int32.ofInt k)), (6, .int (Int32.ofInt k)), (0, .ref g), (1, .int (Int32.ofInt fm)), (2, .int (Int32.ofInt n)), (3, .long (Int64.ofInt v))]) hm_162 rfl (Nat.le_of_ble_eq_true rfl) rfl ?_
    refine ga_inc (a := k) (c := k - 1) (lv2 := [(6, .int (Int32.ofInt (k - 1))), (5, .int (Int32.ofInt k)), (0, .ref g), (1, .int (Int32.ofInt fm)), (2, .int (Int32.ofInt n)), (3, .long (Int64.ofInt v))]) hm_162 rfl rfl (Nat.le_of_ble_eq_true rfl) (by omega) rfl ?_
    refine fl_goto hm_162 rfl ?_
    exact ih3_ _ (by omega) (k - 1) (k) rfl (by omega) (fd_eq hz (by omega) (by assumption))
  exact L2_ _ (n - 1) (-1) rfl (by omega) (Or.inl ⟨rfl, fun j h1 h2 => absurd h2 (by omega)⟩)

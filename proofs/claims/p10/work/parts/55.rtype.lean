/- CheapPlannerModel.readType -/
abbrev pq_186 (G : Nat → Nat → Option Nat) (F : fl_N) (X : xi_H) (K : fl_N) (ts : List Int) : Outcome → xi_H → Prop := gqi (fun z A => (∃ F' : fl_N, fl_H sh_T G F' ++ X = A ∧ gi F' ∧ fs [(344, 344, 5, 5), (344, 344, 9, 10)] F F' ∧ (¬ F' 344 9 = 0) ∧ ((F 344 9 = 0 → sp_rt K ts (F 344 5) = .inl (F' 344 9, F' 344 10)) ∧ (¬ F 344 9 = 0 → F' 344 9 = F 344 9 ∧ F' 344 10 = F 344 10)) ∧ (0 ≤ F' 344 5 ∧ F' 344 5 ≤ K 1 6 - 1) ∧ (0 ≤ z ∧ z ≤ 4)) ∨ (∃ F' : fl_N, fl_H sh_T G F' ++ X = A ∧ gi F' ∧ fs [(344, 344, 5, 5), (344, 344, 9, 10)] F F' ∧ (F' 344 9 = 0 ∧ F 344 9 = 0) ∧ (sp_rt K ts (F 344 5) = .inr (F' 344 5, z - 1)) ∧ (0 ≤ F' 344 5 ∧ F' 344 5 ≤ K 1 6 - 1) ∧ (0 ≤ z ∧ z ≤ 4))) gqn
theorem mc_186 {G : Nat → Nat → Option Nat} (hG : gg G) (F : fl_N) (X : xi_H) (hgi : gi F) (K : fl_N) (ts : List Int) (hgK : gi K) (hrk : rk K F) (hkt : rkt K) (hp : 0 ≤ F 344 5 ∧ F 344 5 ≤ K 1 6 - 1) (hts : rpn (F 349) (F 344 15) ts) : fl_M xi_ms 186 3 68 [.ref 344] (fl_H sh_T G F ++ X) (pq_186 G F X K ts) := by
  intro fr lo hfr hlo
  show fl_R xi_ms 186 fr lo 0 [(0, .ref 344)] [] _ _
  have hP := (rkt_p hkt hp.1 hp.2 hgK).1
  have hK16 : 0 ≤ K 1 6 ∧ K 1 6 ≤ 601 := gi_g hgK rfl
  have hko := hkt.1
  have hts1 := hts.1
  have hb15 : 0 ≤ F 344 15 ∧ F 344 15 ≤ 4 := gi_g hgi rfl
  refine ga_aload_n (v := .ref 344) hm_186 rfl rfl rfl ?_
  refine fl_bipush hm_186 rfl rfl ?_
  have b1_ : 0 ≤ F 344 5 ∧ F 344 5 ≤ 600 := gi_g hgi rfl
  refine gVi (nY := 4) (F := 1) (L := 21) (As := [.int (Int32.ofInt 18)]) (b := 344) (rest := []) hm_186 rfl hm_56 rfl rfl (fl_ob sc_344) rfl rfl rfl rfl rfl (by omega) (by omega) (mc_56 hG F X hgi (K) (18) ([45]) hgK hrk hkt (by omega) (by omega) (by decide) (kw_18 hrk)) (fun _ _ h => False.elim h) ?_
  have b3_ : 0 ≤ F 344 9 ∧ F 344 9 ≤ 5 := gi_g hgi rfl
  rintro z2_ A1_ (⟨hA_, hz_, c4_⟩ | ⟨hA_, hz_, c5_, c6_⟩)
  ·
    subst hA_
    subst hz_
    refine fl_if_ne hm_186 rfl ⟨by omega, by omega⟩ (fun h => absurd h (by omega)) (fun _ => ?_)
    refine fl_iconst hm_186 rfl ?_
    refine gr_i (z := 0) hm_186 rfl rfl rfl ?_
    by_cases h7_ : F 344 9 = 0
    ·
      exact Or.inr (⟨F, rfl, hgi, fs_refl, (by omega), (by rw [sp_rt, if_neg (fun h8_ => c4_ ⟨by omega, h8_⟩)]; rfl), (by omega), (by omega)⟩)
    have b8_ : 0 ≤ F 344 10 ∧ F 344 10 ≤ 600 := gi_g hgi rfl
    exact Or.inl ⟨F, rfl, hgi, fs_refl, (by omega), (⟨fun h0_ => by exfalso; omega, fun h0_ => by constructor <;> omega⟩), (by omega), (by omega)⟩
  subst hA_
  subst hz_
  refine fl_if_ne hm_186 rfl ⟨by omega, by omega⟩ (fun _ => ?_) (fun h => absurd (by omega) h)
  have hsz := (kw_iff (w := [45]) hkt hgK hp.1 hp.2 (by decide) (by decide)).mp c5_.2
  refine ga_aload_n (v := .ref 344) hm_186 rfl rfl rfl ?_
  refine ga_dup hm_186 rfl rfl ?_
  refine ga_geti (z := F 344 5) hm_186 rfl sc_344 rfl (rfl) ?_
  refine fl_iconst hm_186 rfl ?_
  refine ga_iadd (a := F 344 5) (b := 1) (c := F 344 5 + 1) hm_186 rfl (by omega) ?_
  refine ga_puti (z := F 344 5 + 1) hm_186 rfl sc_344 rfl rfl ?_
  refine ga_aload_n (v := .ref 344) hm_186 rfl rfl rfl ?_
  refine ga_getr (b := 349) hm_186 rfl sc_344 rfl ?_
  refine fl_iconst hm_186 rfl ?_
  refine ga_aload_n (v := .ref 344) hm_186 rfl rfl rfl ?_
  have b9_ : 0 ≤ F 344 15 ∧ F 344 15 ≤ 4 := gi_g hgi rfl
  refine ga_geti (z := F 344 15) hm_186 rfl sc_344 rfl (fl_u_ne (by omega)) ?_
  refine ga_aload_n (v := .ref 344) hm_186 rfl rfl rfl ?_
  obtain ⟨F10_, q11_⟩ : ∃ F9_, F9_ = (fl_u F 344 5 (F 344 5 + 1)) := ⟨_, rfl⟩
  rw [← q11_]
  have g12_ : gi F10_ := by rw [q11_]; exact gi_u (hgi) rfl (by omega) (by omega)
  have g13_ : fs [(344, 344, 5, 5), (344, 344, 9, 10)] F F10_ := by rw [q11_]; exact fs_u (fs_refl) rfl
  have rk14_ : rk K F10_ := by rw [q11_]; exact rk_u (hrk) (by omega) (by omega)
  have e15_ : F10_ 344 5 = F 344 5 + 1 := by rw [q11_]; exact fl_u_eq
  refine gVl (nY := 3) (F := 2) (L := 46) (As := []) (b := 344) (rest := [.int (Int32.ofInt (F 344 15)), .int (Int32.ofInt 0), .ref 349]) hm_186 rfl hm_58 rfl rfl (fl_ob sc_344) rfl rfl rfl rfl rfl (by omega) (by omega) (mc_58 hG F10_ X g12_ (K) hgK rk14_ hkt (by omega)) (fun _ _ h => False.elim h) ?_
  have e17_ : F10_ 344 10 = F 344 10 := by rw [q11_]; exact fl_u_ne (by omega)
  have b18_ : 0 ≤ F 344 10 ∧ F 344 10 ≤ 600 := gi_g hgi rfl
  have e19_ : F10_ 344 9 = F 344 9 := by rw [q11_]; exact fl_u_ne (by omega)
  rintro z16_ A1_ (⟨F24_, hA_, g25_, s26_, c20_, c21_, c22_, c23_⟩ | ⟨F34_, hA_, g35_, s36_, c27_, c28_, c29_, c30_, c31_, c32_, c33_⟩)
  ·
    subst hA_
    have g37_ : fs [(344, 344, 5, 5), (344, 344, 9, 10)] F F24_ := fs_tr g13_ s26_ rfl
    have rk38_ : rk K F24_ := rk_fs rk14_ s26_ (fun r k h => (fs_n (by omega) rfl)) (fs_n (by omega) rfl)
    try simp only [e15_, e17_, e19_] at c21_
    have c21_s := c21_.1 (by omega)
    clear c21_
    refine gSi (nY := 7) (F := 0) (L := 0) (As := [.ref 349, .int (Int32.ofInt 0), .int (Int32.ofInt (F 344 15)), .long (Int64.ofInt z16_)]) (rest := []) hm_186 rfl hm_162 rfl rfl (fl_pos sc_0) rfl rfl rfl rfl (by omega) (by omega) (mc_162 hG F24_ X g25_ (349) (5) (0) (F 344 15) (z16_) sc_349 (fun _ => rfl) (by omega) (by omega))  ?_
    rintro z39_ A1_ ⟨hA_, c40_, c41_, c42_⟩
    subst hA_
    refine ga_istore_n (lv2 := [(1, .int (Int32.ofInt z39_)), (0, .ref 344)]) hm_186 rfl (Nat.le_of_ble_eq_true rfl) rfl ?_
    refine ga_iload_n (z := z39_) hm_186 rfl rfl ?_
    refine fl_iconst hm_186 rfl ?_
    refine fx_icmp_ne (a := z39_) (b := -1) hm_186 rfl ⟨by omega, by omega⟩ ⟨by omega, by omega⟩ (fun h43_ => ?_) (fun h44_ => ?_)
    ·
      refine ga_aload_n (v := .ref 344) hm_186 rfl rfl rfl ?_
      refine gIv (nY := 1) (F := 1) (L := 20) (As := []) (b := 344) (rest := []) hm_186 rfl hm_61 rfl rfl (fl_ob sc_344) rfl rfl rfl rfl rfl (by omega) (by omega) ?_
      intro f45_ l46_ h47_ h48_
      show fl_R xi_ms 61 f45_ l46_ 0 [(0, .ref 344)] [] _ _
      refine ga_aload_n (v := .ref 344) hm_61 rfl rfl rfl ?_
      refine ga_dup hm_61 rfl rfl ?_
      have e49_ : F24_ 344 5 = F 344 5 + 1 := (s26_ 344 5 rfl).trans (e15_)
      refine ga_geti (z := F 344 5 + 1) hm_61 rfl sc_344 rfl (e49_) ?_
      refine ga_aload_n (v := .ref 344) hm_61 rfl rfl rfl ?_
      refine gIi (nY := 1) (F := 0) (L := 0) (As := []) (b := 344) (rest := [.int (Int32.ofInt (F 344 5 + 1)), .ref 344]) hm_61 rfl hm_59 rfl rfl (fl_ob sc_344) rfl rfl rfl rfl rfl (by omega) (by omega) ?_
      intro f50_ l51_ h52_ h53_
      show fl_R xi_ms 59 f50_ l51_ 0 [(0, .ref 344)] [] _ _
      refine ga_aload_n (v := .ref 344) hm_59 rfl rfl rfl ?_
      have b54_ : 0 ≤ F24_ 344 9 ∧ F24_ 344 9 ≤ 5 := gi_g g25_ rfl
      refine ga_geti (z := F24_ 344 9) hm_59 rfl sc_344 rfl (rfl) ?_
      refine fl_if_le (a := F24_ 344 9) hm_59 rfl ⟨by omega, by omega⟩ (fun h55_ => ?_) (fun h56_ => ?_)
      · exfalso; omega
      refine fl_iconst hm_59 rfl ?_
      refine fl_goto hm_59 rfl ?_
      refine gr_i hm_59 rfl rfl (ga_nb (by omega)) ?_
      clear h52_ h53_ f50_ l51_
      refine fl_if_eq hm_61 rfl ⟨by omega, by omega⟩ (fun h => absurd h (by omega)) (fun _ => ?_)
      refine fl_iconst hm_61 rfl ?_
      refine fl_goto hm_61 rfl ?_
      refine ga_iadd (a := F 344 5 + 1) (b := 0) (c := F 344 5 + 1) hm_61 rfl (by omega) ?_
      refine ga_puti (z := F 344 5 + 1) hm_61 rfl sc_344 rfl rfl ?_
      refine gr_v hm_61 rfl rfl ?_
      clear h47_ h48_ f45_ l46_
      refine ga_iload_n (z := z39_) hm_186 rfl rfl ?_
      refine fl_iconst hm_186 rfl ?_
      refine ga_iadd (a := z39_) (b := 1) (c := z39_ + 1) hm_186 rfl (by omega) ?_
      obtain ⟨F57_, q58_⟩ : ∃ F9_, F9_ = (fl_u F24_ 344 5 (F 344 5 + 1)) := ⟨_, rfl⟩
      rw [← q58_]
      have g59_ : gi F57_ := by rw [q58_]; exact gi_u (g25_) rfl (by omega) (by omega)
      have g60_ : fs [(344, 344, 5, 5), (344, 344, 9, 10)] F F57_ := by rw [q58_]; exact fs_u (g37_) rfl
      have rk61_ : rk K F57_ := by rw [q58_]; exact rk_u (rk38_) (by omega) (by omega)
      refine gr_i (z := z39_ + 1) hm_186 rfl rfl rfl ?_
      have e62_ : F57_ 344 9 = F24_ 344 9 := by rw [q58_]; exact fl_u_ne (by omega)
      have e63_ : F57_ 344 10 = F24_ 344 10 := by rw [q58_]; exact fl_u_ne (by omega)
      have e64_ : F57_ 344 5 = F 344 5 + 1 := by rw [q58_]; exact fl_u_eq
      have b65_ : 0 ≤ F24_ 344 10 ∧ F24_ 344 10 ≤ 600 := gi_g g25_ rfl
      exact Or.inl ⟨F57_, rfl, g59_, g60_, (by omega), (⟨by intro h0_; have hs_ := c21_s; rw [sp_rt, if_pos c5_.2, sk, if_pos (by omega), sp_type, if_neg (nm_no hs_)]; rw [sp_nm, if_neg (nm_no hs_)] at hs_; have h2_ := Prod.mk.inj (Sum.inl.inj hs_); show Sum.inl (1, K 4 _) = _; congr 2 <;> omega, fun h0_ => by exfalso; omega⟩), (by omega), (by omega)⟩
    refine ga_aload_n (v := .ref 344) hm_186 rfl rfl rfl ?_
    refine fl_iconst hm_186 rfl ?_
    have e66_ : F24_ 344 5 = F 344 5 + 1 := (s26_ 344 5 rfl).trans (e15_)
    refine gVv (nY := 2) (F := 0) (L := 0) (As := [.int (Int32.ofInt 3)]) (b := 344) (rest := []) hm_186 rfl hm_54 rfl rfl (fl_ob sc_344) rfl rfl rfl rfl rfl (by omega) (by omega) (mc_54 hG F24_ X g25_ (K) (3) hgK rk38_ hkt (by omega) (by omega)) (fun _ _ h => False.elim h) ?_
    have b68_ : 0 ≤ F24_ 344 10 ∧ F24_ 344 10 ≤ 600 := gi_g g25_ rfl
    have b69_ : 0 ≤ F24_ 344 9 ∧ F24_ 344 9 ≤ 5 := gi_g g25_ rfl
    rintro A1_ ⟨F73_, hA_, g74_, s75_, c70_, c71_, c72_⟩
    subst hA_
    have g76_ : fs [(344, 344, 5, 5), (344, 344, 9, 10)] F F73_ := fs_tr g37_ s75_ rfl
    have rk77_ : rk K F73_ := rk_fs rk38_ s75_ (fun r k h => (fs_n (by omega) rfl)) (fs_n (by omega) rfl)
    try simp only [e66_] at c71_
    try simp only [e66_] at c72_
    have c71_k := c71_.2 (by omega)
    clear c71_
    refine ga_aload_n (v := .ref 344) hm_186 rfl rfl rfl ?_
    refine gIv (nY := 1) (F := 1) (L := 20) (As := []) (b := 344) (rest := []) hm_186 rfl hm_61 rfl rfl (fl_ob sc_344) rfl rfl rfl rfl rfl (by omega) (by omega) ?_
    intro f78_ l79_ h80_ h81_
    show fl_R xi_ms 61 f78_ l79_ 0 [(0, .ref 344)] [] _ _
    refine ga_aload_n (v := .ref 344) hm_61 rfl rfl rfl ?_
    refine ga_dup hm_61 rfl rfl ?_
    have e82_ : F73_ 344 5 = F 344 5 + 1 := (s75_ 344 5 rfl).trans (e66_)
    refine ga_geti (z := F 344 5 + 1) hm_61 rfl sc_344 rfl (e82_) ?_
    refine ga_aload_n (v := .ref 344) hm_61 rfl rfl rfl ?_
    refine gIi (nY := 1) (F := 0) (L := 0) (As := []) (b := 344) (rest := [.int (Int32.ofInt (F 344 5 + 1)), .ref 344]) hm_61 rfl hm_59 rfl rfl (fl_ob sc_344) rfl rfl rfl rfl rfl (by omega) (by omega) ?_
    intro f83_ l84_ h85_ h86_
    show fl_R xi_ms 59 f83_ l84_ 0 [(0, .ref 344)] [] _ _
    refine ga_aload_n (v := .ref 344) hm_59 rfl rfl rfl ?_
    have b87_ : 0 ≤ F73_ 344 9 ∧ F73_ 344 9 ≤ 5 := gi_g g74_ rfl
    refine ga_geti (z := F73_ 344 9) hm_59 rfl sc_344 rfl (rfl) ?_
    refine fl_if_le (a := F73_ 344 9) hm_59 rfl ⟨by omega, by omega⟩ (fun h88_ => ?_) (fun h89_ => ?_)
    · exfalso; omega
    refine fl_iconst hm_59 rfl ?_
    refine fl_goto hm_59 rfl ?_
    refine gr_i hm_59 rfl rfl (ga_nb (by omega)) ?_
    clear h85_ h86_ f83_ l84_
    refine fl_if_eq hm_61 rfl ⟨by omega, by omega⟩ (fun h => absurd h (by omega)) (fun _ => ?_)
    refine fl_iconst hm_61 rfl ?_
    refine fl_goto hm_61 rfl ?_
    refine ga_iadd (a := F 344 5 + 1) (b := 0) (c := F 344 5 + 1) hm_61 rfl (by omega) ?_
    refine ga_puti (z := F 344 5 + 1) hm_61 rfl sc_344 rfl rfl ?_
    refine gr_v hm_61 rfl rfl ?_
    clear h80_ h81_ f78_ l79_
    refine ga_iload_n (z := z39_) hm_186 rfl rfl ?_
    refine fl_iconst hm_186 rfl ?_
    refine ga_iadd (a := z39_) (b := 1) (c := z39_ + 1) hm_186 rfl (by omega) ?_
    obtain ⟨F90_, q91_⟩ : ∃ F9_, F9_ = (fl_u F73_ 344 5 (F 344 5 + 1)) := ⟨_, rfl⟩
    rw [← q91_]
    have g92_ : gi F90_ := by rw [q91_]; exact gi_u (g74_) rfl (by omega) (by omega)
    have g93_ : fs [(344, 344, 5, 5), (344, 344, 9, 10)] F F90_ := by rw [q91_]; exact fs_u (g76_) rfl
    have rk94_ : rk K F90_ := by rw [q91_]; exact rk_u (rk77_) (by omega) (by omega)
    refine gr_i (z := z39_ + 1) hm_186 rfl rfl rfl ?_
    have e95_ : F90_ 344 9 = F73_ 344 9 := by rw [q91_]; exact fl_u_ne (by omega)
    have e96_ : F90_ 344 10 = F73_ 344 10 := by rw [q91_]; exact fl_u_ne (by omega)
    have e97_ : F90_ 344 5 = F 344 5 + 1 := by rw [q91_]; exact fl_u_eq
    have b98_ : 0 ≤ F73_ 344 10 ∧ F73_ 344 10 ≤ 600 := gi_g g74_ rfl
    exact Or.inl ⟨F90_, rfl, g92_, g93_, (by omega), (⟨by intro h0_; have hs_ := c21_s; rw [sp_rt, if_pos c5_.2, sk, if_pos (by omega), sp_type, if_neg (nm_no hs_)]; rw [sp_nm, if_neg (nm_no hs_)] at hs_; have h2_ := Prod.mk.inj (Sum.inl.inj hs_); show Sum.inl (1, K 4 _) = _; congr 2 <;> omega, fun h0_ => by exfalso; omega⟩), (by omega), (by omega)⟩
  subst hA_
  have g99_ : fs [(344, 344, 5, 5), (344, 344, 9, 10)] F F34_ := fs_tr g13_ s36_ rfl
  have rk100_ : rk K F34_ := rk_fs rk14_ s36_ (fun r k h => (fs_n (by omega) rfl)) (fs_n (by omega) rfl)
  try simp only [e19_] at c27_
  try simp only [e15_] at c28_
  try simp only [e15_] at c30_
  try simp only [e15_] at c32_
  try simp only [e15_] at c33_
  refine gSi (nY := 7) (F := 0) (L := 0) (As := [.ref 349, .int (Int32.ofInt 0), .int (Int32.ofInt (F 344 15)), .long (Int64.ofInt z16_)]) (rest := []) hm_186 rfl hm_162 rfl rfl (fl_pos sc_0) rfl rfl rfl rfl (by omega) (by omega) (mc_162 hG F34_ X g35_ (349) (5) (0) (F 344 15) (z16_) sc_349 (fun _ => rfl) (by omega) (by omega))  ?_
  rintro z101_ A1_ ⟨hA_, c102_, c103_, c104_⟩
  subst hA_
  refine ga_istore_n (lv2 := [(1, .int (Int32.ofInt z101_)), (0, .ref 344)]) hm_186 rfl (Nat.le_of_ble_eq_true rfl) rfl ?_
  refine ga_iload_n (z := z101_) hm_186 rfl rfl ?_
  refine fl_iconst hm_186 rfl ?_
  refine fx_icmp_ne (a := z101_) (b := -1) hm_186 rfl ⟨by omega, by omega⟩ ⟨by omega, by omega⟩ (fun h105_ => ?_) (fun h106_ => ?_)
  ·
    refine ga_aload_n (v := .ref 344) hm_186 rfl rfl rfl ?_
    refine gIv (nY := 1) (F := 1) (L := 20) (As := []) (b := 344) (rest := []) hm_186 rfl hm_61 rfl rfl (fl_ob sc_344) rfl rfl rfl rfl rfl (by omega) (by omega) ?_
    intro f107_ l108_ h109_ h110_
    show fl_R xi_ms 61 f107_ l108_ 0 [(0, .ref 344)] [] _ _
    refine ga_aload_n (v := .ref 344) hm_61 rfl rfl rfl ?_
    refine ga_dup hm_61 rfl rfl ?_
    have e111_ : F34_ 344 5 = F 344 5 + 1 := (s36_ 344 5 rfl).trans (e15_)
    refine ga_geti (z := F 344 5 + 1) hm_61 rfl sc_344 rfl (e111_) ?_
    refine ga_aload_n (v := .ref 344) hm_61 rfl rfl rfl ?_
    refine gIi (nY := 1) (F := 0) (L := 0) (As := []) (b := 344) (rest := [.int (Int32.ofInt (F 344 5 + 1)), .ref 344]) hm_61 rfl hm_59 rfl rfl (fl_ob sc_344) rfl rfl rfl rfl rfl (by omega) (by omega) ?_
    intro f112_ l113_ h114_ h115_
    show fl_R xi_ms 59 f112_ l113_ 0 [(0, .ref 344)] [] _ _
    refine ga_aload_n (v := .ref 344) hm_59 rfl rfl rfl ?_
    have b116_ : 0 ≤ F34_ 344 9 ∧ F34_ 344 9 ≤ 5 := gi_g g35_ rfl
    refine ga_geti (z := F34_ 344 9) hm_59 rfl sc_344 rfl (rfl) ?_
    refine fl_if_le (a := F34_ 344 9) hm_59 rfl ⟨by omega, by omega⟩ (fun h117_ => ?_) (fun h118_ => ?_)
    ·
      refine fl_iconst hm_59 rfl ?_
      refine gr_i hm_59 rfl rfl (ga_nb (by omega)) ?_
      clear h114_ h115_ f112_ l113_
      refine fl_if_eq hm_61 rfl ⟨by omega, by omega⟩ (fun _ => ?_) (fun h => absurd (by omega) h)
      refine fl_iconst hm_61 rfl ?_
      refine ga_iadd (a := F 344 5 + 1) (b := 1) (c := F 344 5 + 2) hm_61 rfl (by omega) ?_
      refine ga_puti (z := F 344 5 + 2) hm_61 rfl sc_344 rfl rfl ?_
      refine gr_v hm_61 rfl rfl ?_
      clear h109_ h110_ f107_ l108_
      refine ga_iload_n (z := z101_) hm_186 rfl rfl ?_
      refine fl_iconst hm_186 rfl ?_
      refine ga_iadd (a := z101_) (b := 1) (c := z101_ + 1) hm_186 rfl (by omega) ?_
      obtain ⟨F119_, q120_⟩ : ∃ F9_, F9_ = (fl_u F34_ 344 5 (F 344 5 + 2)) := ⟨_, rfl⟩
      rw [← q120_]
      have g121_ : gi F119_ := by rw [q120_]; exact gi_u (g35_) rfl (by omega) (by omega)
      have g122_ : fs [(344, 344, 5, 5), (344, 344, 9, 10)] F F119_ := by rw [q120_]; exact fs_u (g99_) rfl
      have rk123_ : rk K F119_ := by rw [q120_]; exact rk_u (rk100_) (by omega) (by omega)
      refine gr_i (z := z101_ + 1) hm_186 rfl rfl rfl ?_
      have e124_ : F119_ 344 9 = F34_ 344 9 := by rw [q120_]; exact fl_u_ne (by omega)
      have e125_ : F119_ 344 10 = F34_ 344 10 := by rw [q120_]; exact fl_u_ne (by omega)
      have e126_ : F119_ 344 5 = F 344 5 + 2 := by rw [q120_]; exact fl_u_eq
      have e127_ : F10_ 344 15 = F 344 15 := by rw [q11_]; exact fl_u_ne (by omega)
      have e128_ : F34_ 344 15 = F 344 15 := (s36_ 344 15 rfl).trans (e127_)
      exact Or.inr (⟨F119_, rfl, g121_, g122_, (by omega), (by rw [sp_rt, if_pos c5_.2, sk, if_pos (by omega), sp_type, if_pos (by omega), (ra_fi (by have x_ := (rpn_fs (by rw [q11_]; exact (rpn_u hts (by omega) (by omega))) s36_ (fun _ => (fs_n (by omega) rfl)) (fs_n (by omega) rfl)); rw [e128_] at x_; exact x_) c30_ c102_ c103_ c104_), if_neg (by omega), sk, if_pos (by omega)]; congr 2; omega; omega), (by omega), (by omega)⟩)
    exfalso; omega
  refine ga_aload_n (v := .ref 344) hm_186 rfl rfl rfl ?_
  refine fl_iconst hm_186 rfl ?_
  have e129_ : F34_ 344 5 = F 344 5 + 1 := (s36_ 344 5 rfl).trans (e15_)
  refine gVv (nY := 2) (F := 0) (L := 0) (As := [.int (Int32.ofInt 3)]) (b := 344) (rest := []) hm_186 rfl hm_54 rfl rfl (fl_ob sc_344) rfl rfl rfl rfl rfl (by omega) (by omega) (mc_54 hG F34_ X g35_ (K) (3) hgK rk100_ hkt (by omega) (by omega)) (fun _ _ h => False.elim h) ?_
  have b131_ : 0 ≤ F34_ 344 10 ∧ F34_ 344 10 ≤ 600 := gi_g g35_ rfl
  have b132_ : 0 ≤ F34_ 344 9 ∧ F34_ 344 9 ≤ 5 := gi_g g35_ rfl
  rintro A1_ ⟨F136_, hA_, g137_, s138_, c133_, c134_, c135_⟩
  subst hA_
  have g139_ : fs [(344, 344, 5, 5), (344, 344, 9, 10)] F F136_ := fs_tr g99_ s138_ rfl
  have rk140_ : rk K F136_ := rk_fs rk100_ s138_ (fun r k h => (fs_n (by omega) rfl)) (fs_n (by omega) rfl)
  try simp only [e129_] at c134_
  try simp only [e129_] at c135_
  have c134_s := c134_.1 (by omega)
  clear c134_
  refine ga_aload_n (v := .ref 344) hm_186 rfl rfl rfl ?_
  refine gIv (nY := 1) (F := 1) (L := 20) (As := []) (b := 344) (rest := []) hm_186 rfl hm_61 rfl rfl (fl_ob sc_344) rfl rfl rfl rfl rfl (by omega) (by omega) ?_
  intro f141_ l142_ h143_ h144_
  show fl_R xi_ms 61 f141_ l142_ 0 [(0, .ref 344)] [] _ _
  refine ga_aload_n (v := .ref 344) hm_61 rfl rfl rfl ?_
  refine ga_dup hm_61 rfl rfl ?_
  have e145_ : F136_ 344 5 = F 344 5 + 1 := (s138_ 344 5 rfl).trans (e129_)
  refine ga_geti (z := F 344 5 + 1) hm_61 rfl sc_344 rfl (e145_) ?_
  refine ga_aload_n (v := .ref 344) hm_61 rfl rfl rfl ?_
  refine gIi (nY := 1) (F := 0) (L := 0) (As := []) (b := 344) (rest := [.int (Int32.ofInt (F 344 5 + 1)), .ref 344]) hm_61 rfl hm_59 rfl rfl (fl_ob sc_344) rfl rfl rfl rfl rfl (by omega) (by omega) ?_
  intro f146_ l147_ h148_ h149_
  show fl_R xi_ms 59 f146_ l147_ 0 [(0, .ref 344)] [] _ _
  refine ga_aload_n (v := .ref 344) hm_59 rfl rfl rfl ?_
  have b150_ : 0 ≤ F136_ 344 9 ∧ F136_ 344 9 ≤ 5 := gi_g g137_ rfl
  refine ga_geti (z := F136_ 344 9) hm_59 rfl sc_344 rfl (rfl) ?_
  refine fl_if_le (a := F136_ 344 9) hm_59 rfl ⟨by omega, by omega⟩ (fun h151_ => ?_) (fun h152_ => ?_)
  · exfalso; omega
  refine fl_iconst hm_59 rfl ?_
  refine fl_goto hm_59 rfl ?_
  refine gr_i hm_59 rfl rfl (ga_nb (by omega)) ?_
  clear h148_ h149_ f146_ l147_
  refine fl_if_eq hm_61 rfl ⟨by omega, by omega⟩ (fun h => absurd h (by omega)) (fun _ => ?_)
  refine fl_iconst hm_61 rfl ?_
  refine fl_goto hm_61 rfl ?_
  refine ga_iadd (a := F 344 5 + 1) (b := 0) (c := F 344 5 + 1) hm_61 rfl (by omega) ?_
  refine ga_puti (z := F 344 5 + 1) hm_61 rfl sc_344 rfl rfl ?_
  refine gr_v hm_61 rfl rfl ?_
  clear h143_ h144_ f141_ l142_
  refine ga_iload_n (z := z101_) hm_186 rfl rfl ?_
  refine fl_iconst hm_186 rfl ?_
  refine ga_iadd (a := z101_) (b := 1) (c := z101_ + 1) hm_186 rfl (by omega) ?_
  obtain ⟨F153_, q154_⟩ : ∃ F9_, F9_ = (fl_u F136_ 344 5 (F 344 5 + 1)) := ⟨_, rfl⟩
  rw [← q154_]
  have g155_ : gi F153_ := by rw [q154_]; exact gi_u (g137_) rfl (by omega) (by omega)
  have g156_ : fs [(344, 344, 5, 5), (344, 344, 9, 10)] F F153_ := by rw [q154_]; exact fs_u (g139_) rfl
  have rk157_ : rk K F153_ := by rw [q154_]; exact rk_u (rk140_) (by omega) (by omega)
  refine gr_i (z := z101_ + 1) hm_186 rfl rfl rfl ?_
  have e158_ : F153_ 344 9 = F136_ 344 9 := by rw [q154_]; exact fl_u_ne (by omega)
  have e159_ : F153_ 344 10 = F136_ 344 10 := by rw [q154_]; exact fl_u_ne (by omega)
  have e160_ : F153_ 344 5 = F 344 5 + 1 := by rw [q154_]; exact fl_u_eq
  have b161_ : 0 ≤ F136_ 344 10 ∧ F136_ 344 10 ≤ 600 := gi_g g137_ rfl
  have e162_ : F10_ 344 15 = F 344 15 := by rw [q11_]; exact fl_u_ne (by omega)
  have e163_ : F34_ 344 15 = F 344 15 := (s36_ 344 15 rfl).trans (e162_)
  exact Or.inl ⟨F153_, rfl, g155_, g156_, (by omega), (⟨by intro h0_; have hs_ := c134_s; rw [sp_rt, if_pos c5_.2, sk, if_pos (by omega), sp_type, if_pos (by omega), (ra_fi (by have x_ := (rpn_fs (by rw [q11_]; exact (rpn_u hts (by omega) (by omega))) s36_ (fun _ => (fs_n (by omega) rfl)) (fs_n (by omega) rfl)); rw [e163_] at x_; exact x_) c30_ c102_ c103_ c104_), if_pos (by omega), pf]; congr 2 <;> omega, fun h0_ => by exfalso; omega⟩), (by omega), (by omega)⟩

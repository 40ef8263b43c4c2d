/- CheapPlannerModel.readType -/
abbrev pq_186 (G : Nat → Nat → Option Nat) (F : fl_N) (X : xi_H) (K : fl_N) (ts : List Int) : Outcome → xi_H → Prop := gqi (fun z A => (∃ F' : fl_N, fl_H sh_T G F' ++ X = A ∧ gi F' ∧ fs [(344, 344, 5, 5), (344, 344, 9, 10)] F F' ∧ (¬ F' 344 9 = 0) ∧ ((F 344 9 = 0 → sp_rt K ts (F 344 5) = .inl (F' 344 9, F' 344 10)) ∧ (¬ F 344 9 = 0 → F' 344 9 = F 344 9 ∧ F' 344 10 = F 344 10)) ∧ (0 ≤ F' 344 5 ∧ F' 344 5 ≤ K 1 6 - 1) ∧ (0 ≤ z ∧ z ≤ 4)) ∨ (∃ F' : fl_N, fl_H sh_T G F' ++ X = A ∧ gi F' ∧ fs [(344, 344, 5, 5), (344, 344, 9, 10)] F F' ∧ (F' 344 9 = 0 ∧ F 344 9 = 0) ∧ (sp_rt K ts (F 344 5) = .inr (F' 344 5, z - 1)) ∧ (0 ≤ F' 344 5 ∧ F' 344 5 ≤ K 1 6 - 1) ∧ (0 ≤ z ∧ z ≤ 4))) gqn
theorem mc_186 {G : Nat → Nat → Option Nat} (hG : gg G) (F : fl_N) (X : xi_H) (hgi : gi F) (K : fl_N) (ts : List Int) (hgK : gi K) (hrk : rk K F) (hkt : rkt K) (hp : 0 ≤ F 344 5 ∧ F 344 5 ≤ K 1 6 - 1) (hts : rpn (F 349) (F 344 15) ts) : fl_M xi_ms 186 3 68 [.ref 344] (fl_H sh_T G F ++ X) (pq_186 G F X K ts) := by
  intro fr lo hfr hlo
  show fl_R xi_ms 186 fr lo 0 [(0, .ref 344)] [] _ _
  have hP := rkt_p hkt hp.1 hp.2 hgK
  have hK16 : 0 ≤ K 1 6 ∧ K 1 6 ≤ 601 := gi_g hgK rfl
  have hko := hkt.1
  have hts1 := hts.1
  have hb15 : 0 ≤ F 344 15 ∧ F 344 15 ≤ 4 := gi_g hgi rfl
  refine ga_aload_n (v := .ref 344) hm_186 rfl rfl rfl ?_
  refine fl_bipush hm_186 rfl rfl ?_
  have b1_ : 0 ≤ F 344 5 ∧ F 344 5 ≤ 600 := gi_g hgi rfl
  refine gVi (nY := 4) (F := 1) (L := 21) (As := [.int (Int32.ofInt 18)]) (b := 344) (rest := []) hm_186 rfl hm_56 rfl rfl (fl_ob sc_344) rfl rfl rfl rfl rfl (by omega) (by omega) (mc_56 hG F X hgi (K) (18) ([45]) hgK hrk hkt (by omega) (by omega) (by decide) (kw_18 hrk)) (fun _ _ h => False.elim h) ?_
  have b3_ : 0 ≤ F 344 9 ∧ F 344 9 ≤ 5 := gi_g hgi rfl
  rintro z2_ A1_ (⟨hA_, hz_, c4_⟩ | ⟨hA_, hz_, c5_⟩)
  ·
    subst hA_
    subst hz_
    refine fl_if_ne hm_186 rfl ⟨by omega, by omega⟩ (fun h => absurd h (by omega)) (fun _ => ?_)
    refine fl_iconst hm_186 rfl ?_
    refine gr_i (z := 0) hm_186 rfl rfl rfl ?_
    by_cases h6_ : F 344 9 = 0
    ·
      exact Or.inr (⟨F, rfl, hgi, fs_refl, (by omega), (by rw [sp_rt, if_neg (fun h8_ => c4_ ⟨by omega, h8_⟩)]; rfl), (by omega), (by omega)⟩)
    have b7_ : 0 ≤ F 344 10 ∧ F 344 10 ≤ 600 := gi_g hgi rfl
    exact Or.inl ⟨F, rfl, hgi, fs_refl, (by omega), (⟨fun h0_ => by exfalso; omega, fun h0_ => by constructor <;> omega⟩), (by omega), (by omega)⟩
  subst hA_
  subst hz_
  refine fl_if_ne hm_186 rfl ⟨by omega, by omega⟩ (fun _ => ?_) (fun h => absurd (by omega) h)
  have hsz := (kw_iff (w := [45]) hkt hgK hp.1 hp.2 (by decide) (by decide)).mp c5_.2
  refine ga_aload_n (v := .ref 344) hm_186 rfl rfl rfl ?_
  refine ga_dup hm_186 rfl rfl ?_
  refine ga_geti (z := F 344 5) hm_186 rfl sc_344 rfl (rfl) ?_
  refine fl_iconst hm_186 rfl ?_
  refine ga_iadd (a := F 344 5) (b := 1) (c := F 344 5 + 1) hm_186 rfl (by omega) ?_
  refine ga_puti (z := F 344 5 + 1) hm_186 rfl sc_344 rfl rfl ?_
  refine ga_aload_n (v := .ref 344) hm_186 rfl rfl rfl ?_
  refine ga_getr (b := 349) hm_186 rfl sc_344 rfl ?_
  refine fl_iconst hm_186 rfl ?_
  refine ga_aload_n (v := .ref 344) hm_186 rfl rfl rfl ?_
  have b8_ : 0 ≤ F 344 15 ∧ F 344 15 ≤ 4 := gi_g hgi rfl
  refine ga_geti (z := F 344 15) hm_186 rfl sc_344 rfl (fl_u_ne (by omega)) ?_
  refine ga_aload_n (v := .ref 344) hm_186 rfl rfl rfl ?_
  obtain ⟨F9_, q10_⟩ : ∃ F9_, F9_ = (fl_u F 344 5 (F 344 5 + 1)) := ⟨_, rfl⟩
  rw [← q10_]
  have g11_ : gi F9_ := by rw [q10_]; exact gi_u (hgi) rfl (by omega) (by omega)
  have g12_ : fs [(344, 344, 5, 5), (344, 344, 9, 10)] F F9_ := by rw [q10_]; exact fs_u (fs_refl) rfl
  have rk13_ : rk K F9_ := by rw [q10_]; exact rk_u (hrk) (by omega) (by omega)
  have e14_ : F9_ 344 5 = F 344 5 + 1 := by rw [q10_]; exact fl_u_eq
  refine gVl (nY := 3) (F := 2) (L := 46) (As := []) (b := 344) (rest := [.int (Int32.ofInt (F 344 15)), .int (Int32.ofInt 0), .ref 349]) hm_186 rfl hm_58 rfl rfl (fl_ob sc_344) rfl rfl rfl rfl rfl (by omega) (by omega) (mc_58 hG F9_ X g11_ (K) hgK rk13_ hkt (by omega)) (fun _ _ h => False.elim h) ?_
  have e16_ : F9_ 344 10 = F 344 10 := by rw [q10_]; exact fl_u_ne (by omega)
  have b17_ : 0 ≤ F 344 10 ∧ F 344 10 ≤ 600 := gi_g hgi rfl
  have e18_ : F9_ 344 9 = F 344 9 := by rw [q10_]; exact fl_u_ne (by omega)
  rintro z15_ A1_ (⟨F23_, hA_, g24_, s25_, c19_, c20_, c21_, c22_⟩ | ⟨F32_, hA_, g33_, s34_, c26_, c27_, c28_, c29_, c30_, c31_⟩)
  ·
    subst hA_
    have g35_ : fs [(344, 344, 5, 5), (344, 344, 9, 10)] F F23_ := fs_tr g12_ s25_ rfl
    have rk36_ : rk K F23_ := rk_fs rk13_ s25_ (fun r k h => (fs_n (by omega) rfl)) (fs_n (by omega) rfl)
    try simp only [e14_, e16_, e18_] at c20_
    have hP37_ := rkt_p hkt (p := F 344 5 + 1) (by omega) (by omega) hgK
    have e38_ : F23_ 344 5 = F 344 5 + 1 := (s25_ 344 5 rfl).trans (e14_)
    refine gSi (nY := 7) (F := 0) (L := 0) (As := [.ref 349, .int (Int32.ofInt 0), .int (Int32.ofInt (F 344 15)), .long (Int64.ofInt z15_)]) (rest := []) hm_186 rfl hm_162 rfl rfl (fl_pos sc_0) rfl rfl rfl rfl (by omega) (by omega) (mc_162 hG F23_ X g24_ (349) (5) (0) (F 344 15) (z15_) sc_349 (fun _ => rfl) (by omega) (by omega))  ?_
    rintro z39_ A1_ ⟨hA_, c40_, c41_, c42_⟩
    subst hA_
    refine ga_istore_n (lv2 := [(1, .int (Int32.ofInt z39_)), (0, .ref 344)]) hm_186 rfl (Nat.le_of_ble_eq_true rfl) rfl ?_
    refine ga_iload_n (z := z39_) hm_186 rfl rfl ?_
    refine fl_iconst hm_186 rfl ?_
    refine fx_icmp_ne (a := z39_) (b := -1) hm_186 rfl ⟨by omega, by omega⟩ ⟨by omega, by omega⟩ (fun h43_ => ?_) (fun h44_ => ?_)
    ·
      refine ga_aload_n (v := .ref 344) hm_186 rfl rfl rfl ?_
      refine gIv (nY := 1) (F := 1) (L := 20) (As := []) (b := 344) (rest := []) hm_186 rfl hm_61 rfl rfl (fl_ob sc_344) rfl rfl rfl rfl rfl (by omega) (by omega) ?_
      intro f45_ l46_ h47_ h48_
      show fl_R xi_ms 61 f45_ l46_ 0 [(0, .ref 344)] [] _ _
      refine ga_aload_n (v := .ref 344) hm_61 rfl rfl rfl ?_
      refine ga_dup hm_61 rfl rfl ?_
      refine ga_geti (z := F 344 5 + 1) hm_61 rfl sc_344 rfl (e38_) ?_
      refine ga_aload_n (v := .ref 344) hm_61 rfl rfl rfl ?_
      refine gIi (nY := 1) (F := 0) (L := 0) (As := []) (b := 344) (rest := [.int (Int32.ofInt (F 344 5 + 1)), .ref 344]) hm_61 rfl hm_59 rfl rfl (fl_ob sc_344) rfl rfl rfl rfl rfl (by omega) (by omega) ?_
      intro f49_ l50_ h51_ h52_
      show fl_R xi_ms 59 f49_ l50_ 0 [(0, .ref 344)] [] _ _
      refine ga_aload_n (v := .ref 344) hm_59 rfl rfl rfl ?_
      have b53_ : 0 ≤ F23_ 344 9 ∧ F23_ 344 9 ≤ 5 := gi_g g24_ rfl
      refine ga_geti (z := F23_ 344 9) hm_59 rfl sc_344 rfl (rfl) ?_
      refine fl_if_le (a := F23_ 344 9) hm_59 rfl ⟨by omega, by omega⟩ (fun h54_ => ?_) (fun h55_ => ?_)
      · exfalso; omega
      refine fl_iconst hm_59 rfl ?_
      refine fl_goto hm_59 rfl ?_
      refine gr_i hm_59 rfl rfl (ga_nb (by omega)) ?_
      refine fl_if_eq hm_61 rfl ⟨by omega, by omega⟩ (fun h => absurd h (by omega)) (fun _ => ?_)
      refine fl_iconst hm_61 rfl ?_
      refine fl_goto hm_61 rfl ?_
      refine ga_iadd (a := F 344 5 + 1) (b := 0) (c := F 344 5 + 1) hm_61 rfl (by omega) ?_
      refine ga_puti (z := F 344 5 + 1) hm_61 rfl sc_344 rfl rfl ?_
      refine gr_v hm_61 rfl rfl ?_
      refine ga_iload_n (z := z39_) hm_186 rfl rfl ?_
      refine fl_iconst hm_186 rfl ?_
      refine ga_iadd (a := z39_) (b := 1) (c := z39_ + 1) hm_186 rfl (by omega) ?_
      obtain ⟨F56_, q57_⟩ : ∃ F9_, F9_ = (fl_u F23_ 344 5 (F 344 5 + 1)) := ⟨_, rfl⟩
      rw [← q57_]
      have g58_ : gi F56_ := by rw [q57_]; exact gi_u (g24_) rfl (by omega) (by omega)
      have g59_ : fs [(344, 344, 5, 5), (344, 344, 9, 10)] F F56_ := by rw [q57_]; exact fs_u (g35_) rfl
      have rk60_ : rk K F56_ := by rw [q57_]; exact rk_u (rk36_) (by omega) (by omega)
      refine gr_i (z := z39_ + 1) hm_186 rfl rfl rfl ?_
      have e61_ : F56_ 344 9 = F23_ 344 9 := by rw [q57_]; exact fl_u_ne (by omega)
      have e62_ : F56_ 344 10 = F23_ 344 10 := by rw [q57_]; exact fl_u_ne (by omega)
      have e63_ : F56_ 344 5 = F 344 5 + 1 := by rw [q57_]; exact fl_u_eq
      have b64_ : 0 ≤ F23_ 344 10 ∧ F23_ 344 10 ≤ 600 := gi_g g24_ rfl
      exact Or.inl ⟨F56_, rfl, g58_, g59_, (by omega), (⟨by intro h0_; have hs_ := c20_.1 (by omega); rw [sp_rt, if_pos c5_.2, sk, if_pos (by omega), sp_type, if_neg (nm_no hs_)]; rw [sp_nm, if_neg (nm_no hs_)] at hs_; have h2_ := Sum.inl.inj hs_; show Sum.inl (1, K 4 _) = _; rw [h2_]; congr 2 <;> omega, fun h0_ => by exfalso; omega⟩), (by omega), (by omega)⟩
    refine ga_aload_n (v := .ref 344) hm_186 rfl rfl rfl ?_
    refine fl_iconst hm_186 rfl ?_
    refine gVv (nY := 2) (F := 0) (L := 0) (As := [.int (Int32.ofInt 3)]) (b := 344) (rest := []) hm_186 rfl hm_54 rfl rfl (fl_ob sc_344) rfl rfl rfl rfl rfl (by omega) (by omega) (mc_54 hG F23_ X g24_ (K) (3) hgK rk36_ hkt (by omega) (by omega)) (fun _ _ h => False.elim h) ?_
    have b66_ : 0 ≤ F23_ 344 10 ∧ F23_ 344 10 ≤ 600 := gi_g g24_ rfl
    have b67_ : 0 ≤ F23_ 344 9 ∧ F23_ 344 9 ≤ 5 := gi_g g24_ rfl
    rintro A1_ ⟨F71_, hA_, g72_, s73_, c68_, c69_, c70_⟩
    subst hA_
    have g74_ : fs [(344, 344, 5, 5), (344, 344, 9, 10)] F F71_ := fs_tr g35_ s73_ rfl
    have rk75_ : rk K F71_ := rk_fs rk36_ s73_ (fun r k h => (fs_n (by omega) rfl)) (fs_n (by omega) rfl)
    try simp only [e38_] at c69_
    try simp only [e38_] at c70_
    refine ga_aload_n (v := .ref 344) hm_186 rfl rfl rfl ?_
    refine gIv (nY := 1) (F := 1) (L := 20) (As := []) (b := 344) (rest := []) hm_186 rfl hm_61 rfl rfl (fl_ob sc_344) rfl rfl rfl rfl rfl (by omega) (by omega) ?_
    intro f76_ l77_ h78_ h79_
    show fl_R xi_ms 61 f76_ l77_ 0 [(0, .ref 344)] [] _ _
    refine ga_aload_n (v := .ref 344) hm_61 rfl rfl rfl ?_
    refine ga_dup hm_61 rfl rfl ?_
    have e80_ : F71_ 344 5 = F 344 5 + 1 := (s73_ 344 5 rfl).trans (e38_)
    refine ga_geti (z := F 344 5 + 1) hm_61 rfl sc_344 rfl (e80_) ?_
    refine ga_aload_n (v := .ref 344) hm_61 rfl rfl rfl ?_
    refine gIi (nY := 1) (F := 0) (L := 0) (As := []) (b := 344) (rest := [.int (Int32.ofInt (F 344 5 + 1)), .ref 344]) hm_61 rfl hm_59 rfl rfl (fl_ob sc_344) rfl rfl rfl rfl rfl (by omega) (by omega) ?_
    intro f81_ l82_ h83_ h84_
    show fl_R xi_ms 59 f81_ l82_ 0 [(0, .ref 344)] [] _ _
    refine ga_aload_n (v := .ref 344) hm_59 rfl rfl rfl ?_
    have b85_ : 0 ≤ F71_ 344 9 ∧ F71_ 344 9 ≤ 5 := gi_g g72_ rfl
    refine ga_geti (z := F71_ 344 9) hm_59 rfl sc_344 rfl (rfl) ?_
    refine fl_if_le (a := F71_ 344 9) hm_59 rfl ⟨by omega, by omega⟩ (fun h86_ => ?_) (fun h87_ => ?_)
    · exfalso; omega
    refine fl_iconst hm_59 rfl ?_
    refine fl_goto hm_59 rfl ?_
    refine gr_i hm_59 rfl rfl (ga_nb (by omega)) ?_
    refine fl_if_eq hm_61 rfl ⟨by omega, by omega⟩ (fun h => absurd h (by omega)) (fun _ => ?_)
    refine fl_iconst hm_61 rfl ?_
    refine fl_goto hm_61 rfl ?_
    refine ga_iadd (a := F 344 5 + 1) (b := 0) (c := F 344 5 + 1) hm_61 rfl (by omega) ?_
    refine ga_puti (z := F 344 5 + 1) hm_61 rfl sc_344 rfl rfl ?_
    refine gr_v hm_61 rfl rfl ?_
    refine ga_iload_n (z := z39_) hm_186 rfl rfl ?_
    refine fl_iconst hm_186 rfl ?_
    refine ga_iadd (a := z39_) (b := 1) (c := z39_ + 1) hm_186 rfl (by omega) ?_
    obtain ⟨F88_, q89_⟩ : ∃ F9_, F9_ = (fl_u F71_ 344 5 (F 344 5 + 1)) := ⟨_, rfl⟩
    rw [← q89_]
    have g90_ : gi F88_ := by rw [q89_]; exact gi_u (g72_) rfl (by omega) (by omega)
    have g91_ : fs [(344, 344, 5, 5), (344, 344, 9, 10)] F F88_ := by rw [q89_]; exact fs_u (g74_) rfl
    have rk92_ : rk K F88_ := by rw [q89_]; exact rk_u (rk75_) (by omega) (by omega)
    refine gr_i (z := z39_ + 1) hm_186 rfl rfl rfl ?_
    have e93_ : F88_ 344 9 = F71_ 344 9 := by rw [q89_]; exact fl_u_ne (by omega)
    have e94_ : F88_ 344 10 = F71_ 344 10 := by rw [q89_]; exact fl_u_ne (by omega)
    have e95_ : F88_ 344 5 = F 344 5 + 1 := by rw [q89_]; exact fl_u_eq
    have b96_ : 0 ≤ F71_ 344 10 ∧ F71_ 344 10 ≤ 600 := gi_g g72_ rfl
    exact Or.inl ⟨F88_, rfl, g90_, g91_, (by omega), (⟨by intro h0_; have hs_ := c20_.1 (by omega); have k_ := c69_.2 (by omega); rw [sp_rt, if_pos c5_.2, sk, if_pos (by omega), sp_type, if_neg (nm_no hs_)]; rw [sp_nm, if_neg (nm_no hs_)] at hs_; have h2_ := Sum.inl.inj hs_; show Sum.inl (1, K 4 _) = _; rw [h2_]; congr 2 <;> omega, fun h0_ => by exfalso; omega⟩), (by omega), (by omega)⟩
  subst hA_
  have g97_ : fs [(344, 344, 5, 5), (344, 344, 9, 10)] F F32_ := fs_tr g12_ s34_ rfl
  have rk98_ : rk K F32_ := rk_fs rk13_ s34_ (fun r k h => (fs_n (by omega) rfl)) (fs_n (by omega) rfl)
  try simp only [e18_] at c26_
  try simp only [e14_] at c27_
  try simp only [e14_] at c29_
  try simp only [e14_] at c31_
  have hP99_ := rkt_p hkt (p := F 344 5 + 1) (by omega) (by omega) hgK
  have e100_ : F32_ 344 5 = F 344 5 + 1 := (s34_ 344 5 rfl).trans (e14_)
  refine gSi (nY := 7) (F := 0) (L := 0) (As := [.ref 349, .int (Int32.ofInt 0), .int (Int32.ofInt (F 344 15)), .long (Int64.ofInt z15_)]) (rest := []) hm_186 rfl hm_162 rfl rfl (fl_pos sc_0) rfl rfl rfl rfl (by omega) (by omega) (mc_162 hG F32_ X g33_ (349) (5) (0) (F 344 15) (z15_) sc_349 (fun _ => rfl) (by omega) (by omega))  ?_
  rintro z101_ A1_ ⟨hA_, c102_, c103_, c104_⟩
  subst hA_
  refine ga_istore_n (lv2 := [(1, .int (Int32.ofInt z101_)), (0, .ref 344)]) hm_186 rfl (Nat.le_of_ble_eq_true rfl) rfl ?_
  refine ga_iload_n (z := z101_) hm_186 rfl rfl ?_
  refine fl_iconst hm_186 rfl ?_
  refine fx_icmp_ne (a := z101_) (b := -1) hm_186 rfl ⟨by omega, by omega⟩ ⟨by omega, by omega⟩ (fun h105_ => ?_) (fun h106_ => ?_)
  ·
    refine ga_aload_n (v := .ref 344) hm_186 rfl rfl rfl ?_
    refine gIv (nY := 1) (F := 1) (L := 20) (As := []) (b := 344) (rest := []) hm_186 rfl hm_61 rfl rfl (fl_ob sc_344) rfl rfl rfl rfl rfl (by omega) (by omega) ?_
    intro f107_ l108_ h109_ h110_
    show fl_R xi_ms 61 f107_ l108_ 0 [(0, .ref 344)] [] _ _
    refine ga_aload_n (v := .ref 344) hm_61 rfl rfl rfl ?_
    refine ga_dup hm_61 rfl rfl ?_
    refine ga_geti (z := F 344 5 + 1) hm_61 rfl sc_344 rfl (e100_) ?_
    refine ga_aload_n (v := .ref 344) hm_61 rfl rfl rfl ?_
    refine gIi (nY := 1) (F := 0) (L := 0) (As := []) (b := 344) (rest := [.int (Int32.ofInt (F 344 5 + 1)), .ref 344]) hm_61 rfl hm_59 rfl rfl (fl_ob sc_344) rfl rfl rfl rfl rfl (by omega) (by omega) ?_
    intro f111_ l112_ h113_ h114_
    show fl_R xi_ms 59 f111_ l112_ 0 [(0, .ref 344)] [] _ _
    refine ga_aload_n (v := .ref 344) hm_59 rfl rfl rfl ?_
    have b115_ : 0 ≤ F32_ 344 9 ∧ F32_ 344 9 ≤ 5 := gi_g g33_ rfl
    refine ga_geti (z := F32_ 344 9) hm_59 rfl sc_344 rfl (rfl) ?_
    refine fl_if_le (a := F32_ 344 9) hm_59 rfl ⟨by omega, by omega⟩ (fun h116_ => ?_) (fun h117_ => ?_)
    ·
      refine fl_iconst hm_59 rfl ?_
      refine gr_i hm_59 rfl rfl (ga_nb (by omega)) ?_
      refine fl_if_eq hm_61 rfl ⟨by omega, by omega⟩ (fun _ => ?_) (fun h => absurd (by omega) h)
      refine fl_iconst hm_61 rfl ?_
      refine ga_iadd (a := F 344 5 + 1) (b := 1) (c := F 344 5 + 2) hm_61 rfl (by omega) ?_
      refine ga_puti (z := F 344 5 + 2) hm_61 rfl sc_344 rfl rfl ?_
      refine gr_v hm_61 rfl rfl ?_
      refine ga_iload_n (z := z101_) hm_186 rfl rfl ?_
      refine fl_iconst hm_186 rfl ?_
      refine ga_iadd (a := z101_) (b := 1) (c := z101_ + 1) hm_186 rfl (by omega) ?_
      obtain ⟨F118_, q119_⟩ : ∃ F9_, F9_ = (fl_u F32_ 344 5 (F 344 5 + 2)) := ⟨_, rfl⟩
      rw [← q119_]
      have g120_ : gi F118_ := by rw [q119_]; exact gi_u (g33_) rfl (by omega) (by omega)
      have g121_ : fs [(344, 344, 5, 5), (344, 344, 9, 10)] F F118_ := by rw [q119_]; exact fs_u (g97_) rfl
      have rk122_ : rk K F118_ := by rw [q119_]; exact rk_u (rk98_) (by omega) (by omega)
      refine gr_i (z := z101_ + 1) hm_186 rfl rfl rfl ?_
      have e123_ : F118_ 344 9 = F32_ 344 9 := by rw [q119_]; exact fl_u_ne (by omega)
      have e124_ : F118_ 344 10 = F32_ 344 10 := by rw [q119_]; exact fl_u_ne (by omega)
      have e125_ : F118_ 344 5 = F 344 5 + 2 := by rw [q119_]; exact fl_u_eq
      have e126_ : F9_ 344 15 = F 344 15 := by rw [q10_]; exact fl_u_ne (by omega)
      have e127_ : F32_ 344 15 = F 344 15 := (s34_ 344 15 rfl).trans (e126_)
      exact Or.inr (⟨F118_, rfl, g120_, g121_, (by omega), (by rw [sp_rt, if_pos c5_.2, sk, if_pos (by omega), sp_type, if_pos (by omega), (ra_fi (by have x_ := (rpn_fs (by rw [q10_]; exact (rpn_u hts (by omega) (by omega))) s34_ (fun _ => (fs_n (by omega) rfl)) (fs_n (by omega) rfl)); rw [e127_] at x_; exact x_) c29_ c102_ c103_ c104_), if_neg (by omega), sk, if_pos (by omega)]; congr 2; omega; omega), (by omega), (by omega)⟩)
    exfalso; omega
  refine ga_aload_n (v := .ref 344) hm_186 rfl rfl rfl ?_
  refine fl_iconst hm_186 rfl ?_
  refine gVv (nY := 2) (F := 0) (L := 0) (As := [.int (Int32.ofInt 3)]) (b := 344) (rest := []) hm_186 rfl hm_54 rfl rfl (fl_ob sc_344) rfl rfl rfl rfl rfl (by omega) (by omega) (mc_54 hG F32_ X g33_ (K) (3) hgK rk98_ hkt (by omega) (by omega)) (fun _ _ h => False.elim h) ?_
  have b129_ : 0 ≤ F32_ 344 10 ∧ F32_ 344 10 ≤ 600 := gi_g g33_ rfl
  have b130_ : 0 ≤ F32_ 344 9 ∧ F32_ 344 9 ≤ 5 := gi_g g33_ rfl
  rintro A1_ ⟨F134_, hA_, g135_, s136_, c131_, c132_, c133_⟩
  subst hA_
  have g137_ : fs [(344, 344, 5, 5), (344, 344, 9, 10)] F F134_ := fs_tr g97_ s136_ rfl
  have rk138_ : rk K F134_ := rk_fs rk98_ s136_ (fun r k h => (fs_n (by omega) rfl)) (fs_n (by omega) rfl)
  try simp only [e100_] at c132_
  try simp only [e100_] at c133_
  refine ga_aload_n (v := .ref 344) hm_186 rfl rfl rfl ?_
  refine gIv (nY := 1) (F := 1) (L := 20) (As := []) (b := 344) (rest := []) hm_186 rfl hm_61 rfl rfl (fl_ob sc_344) rfl rfl rfl rfl rfl (by omega) (by omega) ?_
  intro f139_ l140_ h141_ h142_
  show fl_R xi_ms 61 f139_ l140_ 0 [(0, .ref 344)] [] _ _
  refine ga_aload_n (v := .ref 344) hm_61 rfl rfl rfl ?_
  refine ga_dup hm_61 rfl rfl ?_
  have e143_ : F134_ 344 5 = F 344 5 + 1 := (s136_ 344 5 rfl).trans (e100_)
  refine ga_geti (z := F 344 5 + 1) hm_61 rfl sc_344 rfl (e143_) ?_
  refine ga_aload_n (v := .ref 344) hm_61 rfl rfl rfl ?_
  refine gIi (nY := 1) (F := 0) (L := 0) (As := []) (b := 344) (rest := [.int (Int32.ofInt (F 344 5 + 1)), .ref 344]) hm_61 rfl hm_59 rfl rfl (fl_ob sc_344) rfl rfl rfl rfl rfl (by omega) (by omega) ?_
  intro f144_ l145_ h146_ h147_
  show fl_R xi_ms 59 f144_ l145_ 0 [(0, .ref 344)] [] _ _
  refine ga_aload_n (v := .ref 344) hm_59 rfl rfl rfl ?_
  have b148_ : 0 ≤ F134_ 344 9 ∧ F134_ 344 9 ≤ 5 := gi_g g135_ rfl
  refine ga_geti (z := F134_ 344 9) hm_59 rfl sc_344 rfl (rfl) ?_
  refine fl_if_le (a := F134_ 344 9) hm_59 rfl ⟨by omega, by omega⟩ (fun h149_ => ?_) (fun h150_ => ?_)
  · exfalso; omega
  refine fl_iconst hm_59 rfl ?_
  refine fl_goto hm_59 rfl ?_
  refine gr_i hm_59 rfl rfl (ga_nb (by omega)) ?_
  refine fl_if_eq hm_61 rfl ⟨by omega, by omega⟩ (fun h => absurd h (by omega)) (fun _ => ?_)
  refine fl_iconst hm_61 rfl ?_
  refine fl_goto hm_61 rfl ?_
  refine ga_iadd (a := F 344 5 + 1) (b := 0) (c := F 344 5 + 1) hm_61 rfl (by omega) ?_
  refine ga_puti (z := F 344 5 + 1) hm_61 rfl sc_344 rfl rfl ?_
  refine gr_v hm_61 rfl rfl ?_
  refine ga_iload_n (z := z101_) hm_186 rfl rfl ?_
  refine fl_iconst hm_186 rfl ?_
  refine ga_iadd (a := z101_) (b := 1) (c := z101_ + 1) hm_186 rfl (by omega) ?_
  obtain ⟨F151_, q152_⟩ : ∃ F9_, F9_ = (fl_u F134_ 344 5 (F 344 5 + 1)) := ⟨_, rfl⟩
  rw [← q152_]
  have g153_ : gi F151_ := by rw [q152_]; exact gi_u (g135_) rfl (by omega) (by omega)
  have g154_ : fs [(344, 344, 5, 5), (344, 344, 9, 10)] F F151_ := by rw [q152_]; exact fs_u (g137_) rfl
  have rk155_ : rk K F151_ := by rw [q152_]; exact rk_u (rk138_) (by omega) (by omega)
  refine gr_i (z := z101_ + 1) hm_186 rfl rfl rfl ?_
  have e156_ : F151_ 344 9 = F134_ 344 9 := by rw [q152_]; exact fl_u_ne (by omega)
  have e157_ : F151_ 344 10 = F134_ 344 10 := by rw [q152_]; exact fl_u_ne (by omega)
  have e158_ : F151_ 344 5 = F 344 5 + 1 := by rw [q152_]; exact fl_u_eq
  have b159_ : 0 ≤ F134_ 344 10 ∧ F134_ 344 10 ≤ 600 := gi_g g135_ rfl
  have e160_ : F9_ 344 15 = F 344 15 := by rw [q10_]; exact fl_u_ne (by omega)
  have e161_ : F32_ 344 15 = F 344 15 := (s34_ 344 15 rfl).trans (e160_)
  exact Or.inl ⟨F151_, rfl, g153_, g154_, (by omega), (⟨by intro h0_; have h1_ := c132_.1 (by omega); rw [sp_rt, if_pos c5_.2, sk, if_pos (by omega), sp_type, if_pos (by omega), (ra_fi (by have x_ := (rpn_fs (by rw [q10_]; exact (rpn_u hts (by omega) (by omega))) s34_ (fun _ => (fs_n (by omega) rfl)) (fs_n (by omega) rfl)); rw [e161_] at x_; exact x_) c29_ c102_ c103_ c104_), if_pos (by omega), pf]; congr 2; omega; (have h2_ := h1_.2; omega), fun h0_ => by exfalso; omega⟩), (by omega), (by omega)⟩

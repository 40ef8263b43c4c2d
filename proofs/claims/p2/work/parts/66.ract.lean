def sp_a1 (K : fl_N) (ts pl : List Int) (ps : List (List Int)) (al : List Int) (p : Int) : PR (Int × List Int) := if (al.length : Int) = 5 then pf K p 1 else sp_action K ts pl ps al p

/- CheapPlannerModel.readAction -/
abbrev pq_173 (G : Nat → Nat → Option Nat) (F : fl_N) (X : xi_H) (K : fl_N) (ts pl al : List Int) (ps : List (List Int)) : Outcome → xi_H → Prop := gqv (fun A => (∃ F' : fl_N, fl_H sh_T G F' ++ X = A ∧ gi F' ∧ fs [(344, 344, 5, 5), (344, 344, 9, 10), (344, 344, 21, 21), (344, 344, 63, 63), (353, 363, 0, 100000)] F F' ∧ (¬ F' 344 9 = 0) ∧ ((F 344 9 = 0 → sp_a1 K ts pl ps al (F 344 5) = .inl (F' 344 9, F' 344 10)) ∧ (¬ F 344 9 = 0 → F' 344 9 = F 344 9 ∧ F' 344 10 = F 344 10)) ∧ (0 ≤ F' 344 5 ∧ F' 344 5 ≤ K 1 6 - 1)) ∨ (∃ F' : fl_N, fl_H sh_T G F' ++ X = A ∧ gi F' ∧ fs [(344, 344, 5, 5), (344, 344, 9, 10), (344, 344, 21, 21), (344, 344, 63, 63), (353, 363, 0, 100000)] F F' ∧ (F' 344 9 = 0 ∧ F 344 9 = 0) ∧ (∃ c, sp_a1 K ts pl ps al (F 344 5) = .inr (F' 344 5, al ++ [c]) ∧ rpn (F' 353) (F' 344 21) (al ++ [c])) ∧ (0 ≤ F' 344 5 ∧ F' 344 5 ≤ K 1 6 - 1))) gqn
set_option maxHeartbeats 16000000 in
theorem mc_173 {G : Nat → Nat → Option Nat} (hG : gg G) (F : fl_N) (X : xi_H) (hgi : gi F) (K : fl_N) (ts pl al : List Int) (ps : List (List Int)) (hgK : gi K) (hrk : rk K F) (hkt : rkt K) (hp : 0 ≤ F 344 5 ∧ F 344 5 ≤ K 1 6 - 1) (hts : rpn (F 349) (F 344 15) ts) (hal : rpn (F 353) (F 344 21) al) (hpl : rpn (F 350) (F 344 17) pl) (hps : rprd F ps ∧ ps.length = pl.length) : fl_M xi_ms 173 7 165 [.ref 344] (fl_H sh_T G F ++ X) (pq_173 G F X K ts pl al ps) := by
  intro fr lo hfr hlo
  show fl_R xi_ms 173 fr lo 0 [(0, .ref 344)] [] _ _
  have hP := (rkt_p hkt hp.1 hp.2 hgK).1
  have hK16 : 0 ≤ K 1 6 ∧ K 1 6 ≤ 601 := gi_g hgK rfl
  have hko := hkt.1
  have hal1 := hal.1
  have hb21 : 0 ≤ F 344 21 ∧ F 344 21 ≤ 5 := gi_g hgi rfl
  have B187_ : ∀ (Fb : fl_N), (gi Fb) → (fs [(344, 344, 5, 5), (344, 344, 9, 10), (344, 344, 21, 21), (344, 344, 63, 63), (353, 363, 0, 100000)] F Fb) → (rk K Fb) → (¬ Fb 344 9 = 0) → (0 ≤ Fb 344 5 ∧ Fb 344 5 ≤ K 1 6 - 1) → ((F 344 9 = 0 → sp_a1 K ts pl ps al (F 344 5) = .inl (Fb 344 9, Fb 344 10)) ∧ (¬ F 344 9 = 0 → Fb 344 9 = F 344 9 ∧ Fb 344 10 = F 344 10)) → (Fb 344 21 = F 344 21 ∧ F 344 21 ≤ 4) → fl_R xi_ms 173 fr lo 187 [(3, .int (Int32.ofInt (F 344 21))), (0, .ref 344)] [] (fl_H sh_T G Fb ++ X) (pq_173 G F X K ts pl al ps) := by
    intro Fb hg_Fb hf_Fb hrk_b hbd hp_b hb h21b
    refine ga_aload_n (v := .ref 344) hm_173 rfl rfl rfl ?_
    refine ga_dup hm_173 rfl rfl ?_
    have b1_ : 0 ≤ Fb 344 21 ∧ Fb 344 21 ≤ 5 := gi_g hg_Fb rfl
    refine ga_geti (z := Fb 344 21) hm_173 rfl sc_344 rfl (rfl) ?_
    refine fl_iconst hm_173 rfl ?_
    refine ga_iadd (a := Fb 344 21) (b := 1) (c := Fb 344 21 + 1) hm_173 rfl (by omega) ?_
    refine ga_puti (z := Fb 344 21 + 1) hm_173 rfl sc_344 rfl rfl ?_
    obtain ⟨F2_, q3_⟩ : ∃ F9_, F9_ = (fl_u Fb 344 21 (Fb 344 21 + 1)) := ⟨_, rfl⟩
    rw [← q3_]
    have g4_ : gi F2_ := by rw [q3_]; exact gi_u (hg_Fb) rfl (by omega) (by omega)
    have g5_ : fs [(344, 344, 5, 5), (344, 344, 9, 10), (344, 344, 21, 21), (344, 344, 63, 63), (353, 363, 0, 100000)] F F2_ := by rw [q3_]; exact fs_u (hf_Fb) rfl
    have rk6_ : rk K F2_ := by rw [q3_]; exact rk_u (hrk_b) (by omega) (by omega)
    refine gr_v hm_173 rfl rfl ?_
    have e7_ : F2_ 344 9 = Fb 344 9 := by rw [q3_]; exact fl_u_ne (by omega)
    have b8_ : 0 ≤ Fb 344 9 ∧ Fb 344 9 ≤ 5 := gi_g hg_Fb rfl
    have e9_ : F2_ 344 10 = Fb 344 10 := by rw [q3_]; exact fl_u_ne (by omega)
    have e10_ : F2_ 344 5 = Fb 344 5 := by rw [q3_]; exact fl_u_ne (by omega)
    have b11_ : 0 ≤ Fb 344 10 ∧ Fb 344 10 ≤ 600 := gi_g hg_Fb rfl
    have b12_ : 0 ≤ F 344 10 ∧ F 344 10 ≤ 600 := gi_g hgi rfl
    have b13_ : 0 ≤ F 344 5 ∧ F 344 5 ≤ 600 := gi_g hgi rfl
    have b14_ : 0 ≤ F 344 9 ∧ F 344 9 ≤ 5 := gi_g hgi rfl
    have b15_ : 0 ≤ Fb 344 5 ∧ Fb 344 5 ≤ 600 := gi_g hg_Fb rfl
    exact Or.inl ⟨F2_, rfl, g4_, g5_, (by omega), (⟨fun h0_ => by rw [show F2_ 344 9 = Fb 344 9 by omega, show F2_ 344 10 = Fb 344 10 by omega]; exact hb.1 h0_, fun h0_ => by have h1_ := hb.2 h0_; omega⟩), (by omega)⟩
  have B181_ : ∀ (Fb : fl_N), (gi Fb) → (fs [(344, 344, 5, 5), (344, 344, 9, 10), (344, 344, 21, 21), (344, 344, 63, 63), (353, 363, 0, 100000)] F Fb) → (rk K Fb) → (¬ Fb 344 9 = 0) → (0 ≤ Fb 344 5 ∧ Fb 344 5 ≤ K 1 6 - 1) → ((F 344 9 = 0 → sp_a1 K ts pl ps al (F 344 5) = .inl (Fb 344 9, Fb 344 10)) ∧ (¬ F 344 9 = 0 → Fb 344 9 = F 344 9 ∧ Fb 344 10 = F 344 10)) → (Fb 344 21 = F 344 21 ∧ F 344 21 ≤ 4) → fl_R xi_ms 173 fr lo 181 [(3, .int (Int32.ofInt (F 344 21))), (0, .ref 344)] [] (fl_H sh_T G Fb ++ X) (pq_173 G F X K ts pl al ps) := by
    intro Fb hg_Fb hf_Fb hrk_b hbd hp_b hb h21b
    refine ga_aload_n (v := .ref 344) hm_173 rfl rfl rfl ?_
    refine fl_bipush hm_173 rfl rfl ?_
    have b16_ : 0 ≤ Fb 344 5 ∧ Fb 344 5 ≤ 600 := gi_g hg_Fb rfl
    refine gVv (nY := 2) (F := 2) (L := 41) (As := [.int (Int32.ofInt 41)]) (b := 344) (rest := []) hm_173 rfl hm_51 rfl rfl (fl_ob sc_344) rfl rfl rfl rfl rfl (by omega) (by omega) (mc_51 hG Fb X hg_Fb (K) (41) (1) hgK hrk_b hkt (by omega) (by omega) (by omega)) (fun _ _ h => False.elim h) ?_
    have b18_ : 0 ≤ Fb 344 10 ∧ Fb 344 10 ≤ 600 := gi_g hg_Fb rfl
    have b19_ : 0 ≤ Fb 344 9 ∧ Fb 344 9 ≤ 5 := gi_g hg_Fb rfl
    rintro A1_ (⟨F23_, hA_, g24_, s25_, c20_, c21_, c22_⟩ | ⟨F29_, hA_, g30_, s31_, c26_, c27_, c28_⟩)
    ·
      subst hA_
      have g32_ : fs [(344, 344, 5, 5), (344, 344, 9, 10), (344, 344, 21, 21), (344, 344, 63, 63), (353, 363, 0, 100000)] F F23_ := fs_tr hf_Fb s25_ rfl
      have rk33_ : rk K F23_ := rk_fs hrk_b s25_ (fun r k h => (fs_n (by omega) (fs_n (by omega) rfl))) (fs_n (by omega) (fs_n (by omega) rfl))
      have c21_k := c21_.2 (by omega)
      clear c21_
      have b34_ : 0 ≤ F23_ 344 9 ∧ F23_ 344 9 ≤ 5 := gi_g g24_ rfl
      have b35_ : 0 ≤ F23_ 344 10 ∧ F23_ 344 10 ≤ 600 := gi_g g24_ rfl
      have b36_ : 0 ≤ F23_ 344 5 ∧ F23_ 344 5 ≤ 600 := gi_g g24_ rfl
      have e37_ : F23_ 344 21 = Fb 344 21 := (s25_ 344 21 rfl).trans (rfl)
      have b38_ : 0 ≤ Fb 344 21 ∧ Fb 344 21 ≤ 5 := gi_g hg_Fb rfl
      exact B187_ F23_ g24_ g32_ rk33_ (by omega) (by omega) (⟨fun h0_ => by rw [show F23_ 344 9 = Fb 344 9 by omega, show F23_ 344 10 = Fb 344 10 by omega]; exact hb.1 h0_, fun h0_ => by have h1_ := hb.2 h0_; omega⟩) (by omega)
    exfalso; omega
  have B176_ : ∀ (Fb : fl_N), (gi Fb) → (fs [(344, 344, 5, 5), (344, 344, 9, 10), (344, 344, 21, 21), (344, 344, 63, 63), (353, 363, 0, 100000)] F Fb) → (rk K Fb) → (¬ Fb 344 9 = 0) → (0 ≤ Fb 344 5 ∧ Fb 344 5 ≤ K 1 6 - 1) → ((F 344 9 = 0 → sp_a1 K ts pl ps al (F 344 5) = .inl (Fb 344 9, Fb 344 10)) ∧ (¬ F 344 9 = 0 → Fb 344 9 = F 344 9 ∧ Fb 344 10 = F 344 10)) → (Fb 344 21 = F 344 21 ∧ F 344 21 ≤ 4) → fl_R xi_ms 173 fr lo 176 [(3, .int (Int32.ofInt (F 344 21))), (0, .ref 344)] [] (fl_H sh_T G Fb ++ X) (pq_173 G F X K ts pl al ps) := by
    intro Fb hg_Fb hf_Fb hrk_b hbd hp_b hb h21b
    refine ga_aload_n (v := .ref 344) hm_173 rfl rfl rfl ?_
    refine ga_iload_n (z := F 344 21) hm_173 rfl rfl ?_
    have b39_ : 0 ≤ Fb 344 5 ∧ Fb 344 5 ≤ 600 := gi_g hg_Fb rfl
    refine gVv (nY := 4) (F := 6) (L := 140) (As := [.int (Int32.ofInt (F 344 21))]) (b := 344) (rest := []) hm_173 rfl hm_176 rfl rfl (fl_ob sc_344) rfl rfl rfl rfl rfl (by omega) (by omega) (mc_176 hG Fb X hg_Fb (K) (F 344 21) (3) ([]) ([]) (pl) (ps) hgK hrk_b hkt (by omega) (fun h9_ => absurd h9_ (by omega)) (by omega) ((rpn_fs hpl hf_Fb (fun _ => (fs_n (by omega) (fs_n (by omega) (fs_n (by omega) (fs_n (by omega) (fs_n (by omega) rfl)))))) (fs_n (by omega) (fs_n (by omega) (fs_n (by omega) (fs_n (by omega) (fs_n (by omega) rfl))))))) (⟨(rprd_fs hps.1 hf_Fb (fun r j hj => (fs_n (by omega) (fs_n (by omega) (fs_n (by omega) (fs_n (by omega) (fs_n (by omega) rfl))))))), hps.2⟩) (fun h9_ => absurd h9_ (by omega))) (fun _ _ h => False.elim h) ?_
    have b41_ : 0 ≤ Fb 344 10 ∧ Fb 344 10 ≤ 600 := gi_g hg_Fb rfl
    have b42_ : 0 ≤ Fb 344 9 ∧ Fb 344 9 ≤ 5 := gi_g hg_Fb rfl
    rintro A1_ (⟨F46_, hA_, g47_, s48_, c43_, c44_, c45_⟩ | ⟨F52_, hA_, g53_, s54_, c49_, c50_, c51_⟩)
    ·
      subst hA_
      have g55_ : fs [(344, 344, 5, 5), (344, 344, 9, 10), (344, 344, 21, 21), (344, 344, 63, 63), (353, 363, 0, 100000)] F F46_ := fs_tr hf_Fb s48_ rfl
      have rk56_ : rk K F46_ := rk_fs hrk_b s48_ (fun r k h => (fs_n (by omega) (fs_n (by omega) (fs_n (by omega) (fs_n (by omega) (fs_n (by omega) rfl)))))) (fs_n (by omega) (fs_n (by omega) (fs_n (by omega) (fs_n (by omega) (fs_n (by omega) rfl)))))
      have c44_k := c44_.2 (by omega)
      clear c44_
      try obtain ⟨c2_, ce1_⟩ := c44_k
      have b57_ : 0 ≤ F46_ 344 9 ∧ F46_ 344 9 ≤ 5 := gi_g g47_ rfl
      have b58_ : 0 ≤ F46_ 344 10 ∧ F46_ 344 10 ≤ 600 := gi_g g47_ rfl
      have b59_ : 0 ≤ F46_ 344 5 ∧ F46_ 344 5 ≤ 600 := gi_g g47_ rfl
      have e60_ : F46_ 344 21 = Fb 344 21 := (s48_ 344 21 rfl).trans (rfl)
      have b61_ : 0 ≤ Fb 344 21 ∧ Fb 344 21 ≤ 5 := gi_g hg_Fb rfl
      exact B181_ F46_ g47_ g55_ rk56_ (by omega) (by omega) (⟨fun h0_ => by rw [show F46_ 344 9 = Fb 344 9 by omega, show F46_ 344 10 = Fb 344 10 by omega]; exact hb.1 h0_, fun h0_ => by have h1_ := hb.2 h0_; omega⟩) (by omega)
    exfalso; omega
  have B170_ : ∀ (Fb : fl_N), (gi Fb) → (fs [(344, 344, 5, 5), (344, 344, 9, 10), (344, 344, 21, 21), (344, 344, 63, 63), (353, 363, 0, 100000)] F Fb) → (rk K Fb) → (¬ Fb 344 9 = 0) → (0 ≤ Fb 344 5 ∧ Fb 344 5 ≤ K 1 6 - 1) → ((F 344 9 = 0 → sp_a1 K ts pl ps al (F 344 5) = .inl (Fb 344 9, Fb 344 10)) ∧ (¬ F 344 9 = 0 → Fb 344 9 = F 344 9 ∧ Fb 344 10 = F 344 10)) → (Fb 344 21 = F 344 21 ∧ F 344 21 ≤ 4) → fl_R xi_ms 173 fr lo 170 [(3, .int (Int32.ofInt (F 344 21))), (0, .ref 344)] [] (fl_H sh_T G Fb ++ X) (pq_173 G F X K ts pl al ps) := by
    intro Fb hg_Fb hf_Fb hrk_b hbd hp_b hb h21b
    refine ga_aload_n (v := .ref 344) hm_173 rfl rfl rfl ?_
    refine fl_bipush hm_173 rfl rfl ?_
    have b62_ : 0 ≤ Fb 344 5 ∧ Fb 344 5 ≤ 600 := gi_g hg_Fb rfl
    refine gVv (nY := 2) (F := 2) (L := 44) (As := [.int (Int32.ofInt 7)]) (b := 344) (rest := []) hm_173 rfl hm_55 rfl rfl (fl_ob sc_344) rfl rfl rfl rfl rfl (by omega) (by omega) (mc_55 hG Fb X hg_Fb (K) (7) ([58, 101, 102, 102, 101, 99, 116]) hgK hrk_b hkt (by omega) (by omega) (by decide) (kw_7 hrk_b)) (fun _ _ h => False.elim h) ?_
    have b64_ : 0 ≤ Fb 344 10 ∧ Fb 344 10 ≤ 600 := gi_g hg_Fb rfl
    have b65_ : 0 ≤ Fb 344 9 ∧ Fb 344 9 ≤ 5 := gi_g hg_Fb rfl
    rintro A1_ (⟨F69_, hA_, g70_, s71_, c66_, c67_, c68_⟩ | ⟨F75_, hA_, g76_, s77_, c72_, c73_, c74_⟩)
    ·
      subst hA_
      have g78_ : fs [(344, 344, 5, 5), (344, 344, 9, 10), (344, 344, 21, 21), (344, 344, 63, 63), (353, 363, 0, 100000)] F F69_ := fs_tr hf_Fb s71_ rfl
      have rk79_ : rk K F69_ := rk_fs hrk_b s71_ (fun r k h => (fs_n (by omega) (fs_n (by omega) rfl))) (fs_n (by omega) (fs_n (by omega) rfl))
      have c67_k := c67_.2 (by omega)
      clear c67_
      have b80_ : 0 ≤ F69_ 344 9 ∧ F69_ 344 9 ≤ 5 := gi_g g70_ rfl
      have b81_ : 0 ≤ F69_ 344 10 ∧ F69_ 344 10 ≤ 600 := gi_g g70_ rfl
      have b82_ : 0 ≤ F69_ 344 5 ∧ F69_ 344 5 ≤ 600 := gi_g g70_ rfl
      have e83_ : F69_ 344 21 = Fb 344 21 := (s71_ 344 21 rfl).trans (rfl)
      have b84_ : 0 ≤ Fb 344 21 ∧ Fb 344 21 ≤ 5 := gi_g hg_Fb rfl
      exact B176_ F69_ g70_ g78_ rk79_ (by omega) (by omega) (⟨fun h0_ => by rw [show F69_ 344 9 = Fb 344 9 by omega, show F69_ 344 10 = Fb 344 10 by omega]; exact hb.1 h0_, fun h0_ => by have h1_ := hb.2 h0_; omega⟩) (by omega)
    exfalso; omega
  have B142_ : ∀ (Fb : fl_N), (gi Fb) → (fs [(344, 344, 5, 5), (344, 344, 9, 10), (344, 344, 21, 21), (344, 344, 63, 63), (353, 363, 0, 100000)] F Fb) → (rk K Fb) → (¬ Fb 344 9 = 0) → (0 ≤ Fb 344 5 ∧ Fb 344 5 ≤ K 1 6 - 1) → ((F 344 9 = 0 → sp_a1 K ts pl ps al (F 344 5) = .inl (Fb 344 9, Fb 344 10)) ∧ (¬ F 344 9 = 0 → Fb 344 9 = F 344 9 ∧ Fb 344 10 = F 344 10)) → (Fb 344 21 = F 344 21 ∧ F 344 21 ≤ 4) → fl_R xi_ms 173 fr lo 142 [(3, .int (Int32.ofInt (F 344 21))), (0, .ref 344)] [] (fl_H sh_T G Fb ++ X) (pq_173 G F X K ts pl al ps) := by
    intro Fb hg_Fb hf_Fb hrk_b hbd hp_b hb h21b
    refine ga_aload_n (v := .ref 344) hm_173 rfl rfl rfl ?_
    refine fl_bipush hm_173 rfl rfl ?_
    have b85_ : 0 ≤ Fb 344 5 ∧ Fb 344 5 ≤ 600 := gi_g hg_Fb rfl
    refine gVi (nY := 4) (F := 1) (L := 21) (As := [.int (Int32.ofInt 6)]) (b := 344) (rest := []) hm_173 rfl hm_56 rfl rfl (fl_ob sc_344) rfl rfl rfl rfl rfl (by omega) (by omega) (mc_56 hG Fb X hg_Fb (K) (6) ([58, 112, 114, 101, 99, 111, 110, 100, 105, 116, 105, 111, 110]) hgK hrk_b hkt (by omega) (by omega) (by decide) (kw_6 hrk_b)) (fun _ _ h => False.elim h) ?_
    have b87_ : 0 ≤ Fb 344 9 ∧ Fb 344 9 ≤ 5 := gi_g hg_Fb rfl
    rintro z86_ A1_ (⟨hA_, hz_, c88_⟩ | ⟨hA_, hz_, c89_, c90_⟩)
    ·
      subst hA_
      subst hz_
      refine fl_if_eq hm_173 rfl ⟨by omega, by omega⟩ (fun _ => ?_) (fun h => absurd (by omega) h)
      have b91_ : 0 ≤ Fb 344 10 ∧ Fb 344 10 ≤ 600 := gi_g hg_Fb rfl
      have b92_ : 0 ≤ Fb 344 21 ∧ Fb 344 21 ≤ 5 := gi_g hg_Fb rfl
      exact B170_ Fb hg_Fb hf_Fb hrk_b (by omega) (by omega) (hb) (by omega)
    exfalso; omega
  have B136_ : ∀ (Fb : fl_N), (gi Fb) → (fs [(344, 344, 5, 5), (344, 344, 9, 10), (344, 344, 21, 21), (344, 344, 63, 63), (353, 363, 0, 100000)] F Fb) → (rk K Fb) → (¬ Fb 344 9 = 0) → (0 ≤ Fb 344 5 ∧ Fb 344 5 ≤ K 1 6 - 1) → ((F 344 9 = 0 → sp_a1 K ts pl ps al (F 344 5) = .inl (Fb 344 9, Fb 344 10)) ∧ (¬ F 344 9 = 0 → Fb 344 9 = F 344 9 ∧ Fb 344 10 = F 344 10)) → (Fb 344 21 = F 344 21 ∧ F 344 21 ≤ 4) → fl_R xi_ms 173 fr lo 136 [(3, .int (Int32.ofInt (F 344 21))), (0, .ref 344)] [] (fl_H sh_T G Fb ++ X) (pq_173 G F X K ts pl al ps) := by
    intro Fb hg_Fb hf_Fb hrk_b hbd hp_b hb h21b
    refine ga_aload_n (v := .ref 344) hm_173 rfl rfl rfl ?_
    refine fl_bipush hm_173 rfl rfl ?_
    have b93_ : 0 ≤ Fb 344 5 ∧ Fb 344 5 ≤ 600 := gi_g hg_Fb rfl
    refine gVv (nY := 2) (F := 2) (L := 41) (As := [.int (Int32.ofInt 41)]) (b := 344) (rest := []) hm_173 rfl hm_51 rfl rfl (fl_ob sc_344) rfl rfl rfl rfl rfl (by omega) (by omega) (mc_51 hG Fb X hg_Fb (K) (41) (1) hgK hrk_b hkt (by omega) (by omega) (by omega)) (fun _ _ h => False.elim h) ?_
    have b95_ : 0 ≤ Fb 344 10 ∧ Fb 344 10 ≤ 600 := gi_g hg_Fb rfl
    have b96_ : 0 ≤ Fb 344 9 ∧ Fb 344 9 ≤ 5 := gi_g hg_Fb rfl
    rintro A1_ (⟨F100_, hA_, g101_, s102_, c97_, c98_, c99_⟩ | ⟨F106_, hA_, g107_, s108_, c103_, c104_, c105_⟩)
    ·
      subst hA_
      have g109_ : fs [(344, 344, 5, 5), (344, 344, 9, 10), (344, 344, 21, 21), (344, 344, 63, 63), (353, 363, 0, 100000)] F F100_ := fs_tr hf_Fb s102_ rfl
      have rk110_ : rk K F100_ := rk_fs hrk_b s102_ (fun r k h => (fs_n (by omega) (fs_n (by omega) rfl))) (fs_n (by omega) (fs_n (by omega) rfl))
      have c98_k := c98_.2 (by omega)
      clear c98_
      have b111_ : 0 ≤ F100_ 344 9 ∧ F100_ 344 9 ≤ 5 := gi_g g101_ rfl
      have b112_ : 0 ≤ F100_ 344 10 ∧ F100_ 344 10 ≤ 600 := gi_g g101_ rfl
      have b113_ : 0 ≤ F100_ 344 5 ∧ F100_ 344 5 ≤ 600 := gi_g g101_ rfl
      have e114_ : F100_ 344 21 = Fb 344 21 := (s102_ 344 21 rfl).trans (rfl)
      have b115_ : 0 ≤ Fb 344 21 ∧ Fb 344 21 ≤ 5 := gi_g hg_Fb rfl
      exact B142_ F100_ g101_ g109_ rk110_ (by omega) (by omega) (⟨fun h0_ => by rw [show F100_ 344 9 = Fb 344 9 by omega, show F100_ 344 10 = Fb 344 10 by omega]; exact hb.1 h0_, fun h0_ => by have h1_ := hb.2 h0_; omega⟩) (by omega)
    exfalso; omega
  have B73_ : ∀ (Fb : fl_N), (gi Fb) → (fs [(344, 344, 5, 5), (344, 344, 9, 10), (344, 344, 21, 21), (344, 344, 63, 63), (353, 363, 0, 100000)] F Fb) → (rk K Fb) → (¬ Fb 344 9 = 0) → (0 ≤ Fb 344 5 ∧ Fb 344 5 ≤ K 1 6 - 1) → ((F 344 9 = 0 → sp_a1 K ts pl ps al (F 344 5) = .inl (Fb 344 9, Fb 344 10)) ∧ (¬ F 344 9 = 0 → Fb 344 9 = F 344 9 ∧ Fb 344 10 = F 344 10)) → fl_R xi_ms 173 fr lo 73 [(0, .ref 344)] [] (fl_H sh_T G Fb ++ X) (pq_173 G F X K ts pl al ps) := by
    intro Fb hg_Fb hf_Fb hrk_b hbd hp_b hb
    refine ga_aload_n (v := .ref 344) hm_173 rfl rfl rfl ?_
    refine gIi (nY := 1) (F := 0) (L := 0) (As := []) (b := 344) (rest := []) hm_173 rfl hm_59 rfl rfl (fl_ob sc_344) rfl rfl rfl rfl rfl (by omega) (by omega) ?_
    intro f116_ l117_ h118_ h119_
    show fl_R xi_ms 59 f116_ l117_ 0 [(0, .ref 344)] [] _ _
    refine ga_aload_n (v := .ref 344) hm_59 rfl rfl rfl ?_
    have b120_ : 0 ≤ Fb 344 9 ∧ Fb 344 9 ≤ 5 := gi_g hg_Fb rfl
    refine ga_geti (z := Fb 344 9) hm_59 rfl sc_344 rfl (rfl) ?_
    refine fl_if_le (a := Fb 344 9) hm_59 rfl ⟨by omega, by omega⟩ (fun h121_ => ?_) (fun h122_ => ?_)
    · exfalso; omega
    refine fl_iconst hm_59 rfl ?_
    refine fl_goto hm_59 rfl ?_
    refine gr_i hm_59 rfl rfl (ga_nb (by omega)) ?_
    clear h118_ h119_ f116_ l117_
    refine fl_if_eq hm_173 rfl ⟨by omega, by omega⟩ (fun h => absurd h (by omega)) (fun _ => ?_)
    refine gr_v hm_173 rfl rfl ?_
    have b123_ : 0 ≤ Fb 344 10 ∧ Fb 344 10 ≤ 600 := gi_g hg_Fb rfl
    have b124_ : 0 ≤ F 344 10 ∧ F 344 10 ≤ 600 := gi_g hgi rfl
    have b125_ : 0 ≤ F 344 5 ∧ F 344 5 ≤ 600 := gi_g hgi rfl
    have b126_ : 0 ≤ F 344 9 ∧ F 344 9 ≤ 5 := gi_g hgi rfl
    have b127_ : 0 ≤ Fb 344 5 ∧ Fb 344 5 ≤ 600 := gi_g hg_Fb rfl
    exact Or.inl ⟨Fb, rfl, hg_Fb, hf_Fb, (by omega), (hb), (by omega)⟩
  have B67_ : ∀ (Fb : fl_N), (gi Fb) → (fs [(344, 344, 5, 5), (344, 344, 9, 10), (344, 344, 21, 21), (344, 344, 63, 63), (353, 363, 0, 100000)] F Fb) → (rk K Fb) → (¬ Fb 344 9 = 0) → (0 ≤ Fb 344 5 ∧ Fb 344 5 ≤ K 1 6 - 1) → ((F 344 9 = 0 → sp_a1 K ts pl ps al (F 344 5) = .inl (Fb 344 9, Fb 344 10)) ∧ (¬ F 344 9 = 0 → Fb 344 9 = F 344 9 ∧ Fb 344 10 = F 344 10)) → fl_R xi_ms 173 fr lo 67 [(0, .ref 344)] [] (fl_H sh_T G Fb ++ X) (pq_173 G F X K ts pl al ps) := by
    intro Fb hg_Fb hf_Fb hrk_b hbd hp_b hb
    refine ga_aload_n (v := .ref 344) hm_173 rfl rfl rfl ?_
    refine fl_bipush hm_173 rfl rfl ?_
    have b128_ : 0 ≤ Fb 344 5 ∧ Fb 344 5 ≤ 600 := gi_g hg_Fb rfl
    refine gVv (nY := 2) (F := 2) (L := 41) (As := [.int (Int32.ofInt 40)]) (b := 344) (rest := []) hm_173 rfl hm_51 rfl rfl (fl_ob sc_344) rfl rfl rfl rfl rfl (by omega) (by omega) (mc_51 hG Fb X hg_Fb (K) (40) (0) hgK hrk_b hkt (by omega) (by omega) (by omega)) (fun _ _ h => False.elim h) ?_
    have b130_ : 0 ≤ Fb 344 10 ∧ Fb 344 10 ≤ 600 := gi_g hg_Fb rfl
    have b131_ : 0 ≤ Fb 344 9 ∧ Fb 344 9 ≤ 5 := gi_g hg_Fb rfl
    rintro A1_ (⟨F135_, hA_, g136_, s137_, c132_, c133_, c134_⟩ | ⟨F141_, hA_, g142_, s143_, c138_, c139_, c140_⟩)
    ·
      subst hA_
      have g144_ : fs [(344, 344, 5, 5), (344, 344, 9, 10), (344, 344, 21, 21), (344, 344, 63, 63), (353, 363, 0, 100000)] F F135_ := fs_tr hf_Fb s137_ rfl
      have rk145_ : rk K F135_ := rk_fs hrk_b s137_ (fun r k h => (fs_n (by omega) (fs_n (by omega) rfl))) (fs_n (by omega) (fs_n (by omega) rfl))
      have c133_k := c133_.2 (by omega)
      clear c133_
      have b146_ : 0 ≤ F135_ 344 9 ∧ F135_ 344 9 ≤ 5 := gi_g g136_ rfl
      have b147_ : 0 ≤ F135_ 344 10 ∧ F135_ 344 10 ≤ 600 := gi_g g136_ rfl
      have b148_ : 0 ≤ F135_ 344 5 ∧ F135_ 344 5 ≤ 600 := gi_g g136_ rfl
      exact B73_ F135_ g136_ g144_ rk145_ (by omega) (by omega) (⟨fun h0_ => by rw [show F135_ 344 9 = Fb 344 9 by omega, show F135_ 344 10 = Fb 344 10 by omega]; exact hb.1 h0_, fun h0_ => by have h1_ := hb.2 h0_; omega⟩)
    exfalso; omega
  have B62_ : ∀ (Fb : fl_N), (gi Fb) → (fs [(344, 344, 5, 5), (344, 344, 9, 10), (344, 344, 21, 21), (344, 344, 63, 63), (353, 363, 0, 100000)] F Fb) → (rk K Fb) → (¬ Fb 344 9 = 0) → (0 ≤ Fb 344 5 ∧ Fb 344 5 ≤ K 1 6 - 1) → ((F 344 9 = 0 → sp_a1 K ts pl ps al (F 344 5) = .inl (Fb 344 9, Fb 344 10)) ∧ (¬ F 344 9 = 0 → Fb 344 9 = F 344 9 ∧ Fb 344 10 = F 344 10)) → fl_R xi_ms 173 fr lo 62 [(0, .ref 344)] [] (fl_H sh_T G Fb ++ X) (pq_173 G F X K ts pl al ps) := by
    intro Fb hg_Fb hf_Fb hrk_b hbd hp_b hb
    refine ga_aload_n (v := .ref 344) hm_173 rfl rfl rfl ?_
    refine fl_iconst hm_173 rfl ?_
    have b149_ : 0 ≤ Fb 344 5 ∧ Fb 344 5 ≤ 600 := gi_g hg_Fb rfl
    refine gVv (nY := 2) (F := 2) (L := 44) (As := [.int (Int32.ofInt 5)]) (b := 344) (rest := []) hm_173 rfl hm_55 rfl rfl (fl_ob sc_344) rfl rfl rfl rfl rfl (by omega) (by omega) (mc_55 hG Fb X hg_Fb (K) (5) ([58, 112, 97, 114, 97, 109, 101, 116, 101, 114, 115]) hgK hrk_b hkt (by omega) (by omega) (by decide) (kw_5 hrk_b)) (fun _ _ h => False.elim h) ?_
    have b151_ : 0 ≤ Fb 344 10 ∧ Fb 344 10 ≤ 600 := gi_g hg_Fb rfl
    have b152_ : 0 ≤ Fb 344 9 ∧ Fb 344 9 ≤ 5 := gi_g hg_Fb rfl
    rintro A1_ (⟨F156_, hA_, g157_, s158_, c153_, c154_, c155_⟩ | ⟨F162_, hA_, g163_, s164_, c159_, c160_, c161_⟩)
    ·
      subst hA_
      have g165_ : fs [(344, 344, 5, 5), (344, 344, 9, 10), (344, 344, 21, 21), (344, 344, 63, 63), (353, 363, 0, 100000)] F F156_ := fs_tr hf_Fb s158_ rfl
      have rk166_ : rk K F156_ := rk_fs hrk_b s158_ (fun r k h => (fs_n (by omega) (fs_n (by omega) rfl))) (fs_n (by omega) (fs_n (by omega) rfl))
      have c154_k := c154_.2 (by omega)
      clear c154_
      have b167_ : 0 ≤ F156_ 344 9 ∧ F156_ 344 9 ≤ 5 := gi_g g157_ rfl
      have b168_ : 0 ≤ F156_ 344 10 ∧ F156_ 344 10 ≤ 600 := gi_g g157_ rfl
      have b169_ : 0 ≤ F156_ 344 5 ∧ F156_ 344 5 ≤ 600 := gi_g g157_ rfl
      exact B67_ F156_ g157_ g165_ rk166_ (by omega) (by omega) (⟨fun h0_ => by rw [show F156_ 344 9 = Fb 344 9 by omega, show F156_ 344 10 = Fb 344 10 by omega]; exact hb.1 h0_, fun h0_ => by have h1_ := hb.2 h0_; omega⟩)
    exfalso; omega
  have B24_ : ∀ (Fb : fl_N), (gi Fb) → (fs [(344, 344, 5, 5), (344, 344, 9, 10), (344, 344, 21, 21), (344, 344, 63, 63), (353, 363, 0, 100000)] F Fb) → (rk K Fb) → (¬ Fb 344 9 = 0) → (0 ≤ Fb 344 5 ∧ Fb 344 5 ≤ K 1 6 - 1) → ((F 344 9 = 0 → sp_a1 K ts pl ps al (F 344 5) = .inl (Fb 344 9, Fb 344 10)) ∧ (¬ F 344 9 = 0 → Fb 344 9 = F 344 9 ∧ Fb 344 10 = F 344 10)) → fl_R xi_ms 173 fr lo 24 [(0, .ref 344)] [] (fl_H sh_T G Fb ++ X) (pq_173 G F X K ts pl al ps) := by
    intro Fb hg_Fb hf_Fb hrk_b hbd hp_b hb
    refine ga_aload_n (v := .ref 344) hm_173 rfl rfl rfl ?_
    have b170_ : 0 ≤ Fb 344 5 ∧ Fb 344 5 ≤ 600 := gi_g hg_Fb rfl
    refine gVl (nY := 3) (F := 2) (L := 46) (As := []) (b := 344) (rest := []) hm_173 rfl hm_58 rfl rfl (fl_ob sc_344) rfl rfl rfl rfl rfl (by omega) (by omega) (mc_58 hG Fb X hg_Fb (K) hgK hrk_b hkt (by omega)) (fun _ _ h => False.elim h) ?_
    have b172_ : 0 ≤ Fb 344 10 ∧ Fb 344 10 ≤ 600 := gi_g hg_Fb rfl
    have b173_ : 0 ≤ Fb 344 9 ∧ Fb 344 9 ≤ 5 := gi_g hg_Fb rfl
    rintro z171_ A1_ (⟨F178_, hA_, g179_, s180_, c174_, c175_, c176_, c177_⟩ | ⟨F188_, hA_, g189_, s190_, c181_, c182_, c183_, c184_, c185_, c186_, c187_⟩)
    ·
      subst hA_
      have g191_ : fs [(344, 344, 5, 5), (344, 344, 9, 10), (344, 344, 21, 21), (344, 344, 63, 63), (353, 363, 0, 100000)] F F178_ := fs_tr hf_Fb s180_ rfl
      have rk192_ : rk K F178_ := rk_fs hrk_b s180_ (fun r k h => (fs_n (by omega) rfl)) (fs_n (by omega) rfl)
      have c175_k := c175_.2 (by omega)
      clear c175_
      refine ga_lstore_n (lv2 := [(1, .long (Int64.ofInt z171_)), (0, .ref 344)]) hm_173 rfl (Nat.le_of_ble_eq_true rfl) rfl ?_
      refine ga_aload_n (v := .ref 344) hm_173 rfl rfl rfl ?_
      refine gIi (nY := 1) (F := 0) (L := 0) (As := []) (b := 344) (rest := []) hm_173 rfl hm_59 rfl rfl (fl_ob sc_344) rfl rfl rfl rfl rfl (by omega) (by omega) ?_
      intro f193_ l194_ h195_ h196_
      show fl_R xi_ms 59 f193_ l194_ 0 [(0, .ref 344)] [] _ _
      refine ga_aload_n (v := .ref 344) hm_59 rfl rfl rfl ?_
      have b197_ : 0 ≤ F178_ 344 9 ∧ F178_ 344 9 ≤ 5 := gi_g g179_ rfl
      refine ga_geti (z := F178_ 344 9) hm_59 rfl sc_344 rfl (rfl) ?_
      refine fl_if_le (a := F178_ 344 9) hm_59 rfl ⟨by omega, by omega⟩ (fun h198_ => ?_) (fun h199_ => ?_)
      · exfalso; omega
      refine fl_iconst hm_59 rfl ?_
      refine fl_goto hm_59 rfl ?_
      refine gr_i hm_59 rfl rfl (ga_nb (by omega)) ?_
      clear h195_ h196_ f193_ l194_
      refine fl_if_ne hm_173 rfl ⟨by omega, by omega⟩ (fun _ => ?_) (fun h => absurd (by omega) h)
      refine ga_aload_n (v := .ref 344) hm_173 rfl rfl rfl ?_
      refine gIv (nY := 1) (F := 1) (L := 20) (As := []) (b := 344) (rest := []) hm_173 rfl hm_61 rfl rfl (fl_ob sc_344) rfl rfl rfl rfl rfl (by omega) (by omega) ?_
      intro f200_ l201_ h202_ h203_
      show fl_R xi_ms 61 f200_ l201_ 0 [(0, .ref 344)] [] _ _
      refine ga_aload_n (v := .ref 344) hm_61 rfl rfl rfl ?_
      refine ga_dup hm_61 rfl rfl ?_
      have e204_ : F178_ 344 5 = Fb 344 5 := (s180_ 344 5 rfl).trans (rfl)
      refine ga_geti (z := Fb 344 5) hm_61 rfl sc_344 rfl (e204_) ?_
      refine ga_aload_n (v := .ref 344) hm_61 rfl rfl rfl ?_
      refine gIi (nY := 1) (F := 0) (L := 0) (As := []) (b := 344) (rest := [.int (Int32.ofInt (Fb 344 5)), .ref 344]) hm_61 rfl hm_59 rfl rfl (fl_ob sc_344) rfl rfl rfl rfl rfl (by omega) (by omega) ?_
      intro f205_ l206_ h207_ h208_
      show fl_R xi_ms 59 f205_ l206_ 0 [(0, .ref 344)] [] _ _
      refine ga_aload_n (v := .ref 344) hm_59 rfl rfl rfl ?_
      refine ga_geti (z := F178_ 344 9) hm_59 rfl sc_344 rfl (rfl) ?_
      refine fl_if_le (a := F178_ 344 9) hm_59 rfl ⟨by omega, by omega⟩ (fun h209_ => ?_) (fun h210_ => ?_)
      · exfalso; omega
      refine fl_iconst hm_59 rfl ?_
      refine fl_goto hm_59 rfl ?_
      refine gr_i hm_59 rfl rfl (ga_nb (by omega)) ?_
      clear h207_ h208_ f205_ l206_
      refine fl_if_eq hm_61 rfl ⟨by omega, by omega⟩ (fun h => absurd h (by omega)) (fun _ => ?_)
      refine fl_iconst hm_61 rfl ?_
      refine fl_goto hm_61 rfl ?_
      refine ga_iadd (a := Fb 344 5) (b := 0) (c := Fb 344 5) hm_61 rfl (by omega) ?_
      refine ga_puti (z := Fb 344 5) hm_61 rfl sc_344 rfl rfl ?_
      refine gr_v hm_61 rfl rfl ?_
      clear h202_ h203_ f200_ l201_
      obtain ⟨F211_, q212_⟩ : ∃ F9_, F9_ = (fl_u F178_ 344 5 (Fb 344 5)) := ⟨_, rfl⟩
      rw [← q212_]
      have g213_ : gi F211_ := by rw [q212_]; exact gi_u (g179_) rfl (by omega) (by omega)
      have g214_ : fs [(344, 344, 5, 5), (344, 344, 9, 10), (344, 344, 21, 21), (344, 344, 63, 63), (353, 363, 0, 100000)] F F211_ := by rw [q212_]; exact fs_u (g191_) rfl
      have rk215_ : rk K F211_ := by rw [q212_]; exact rk_u (rk192_) (by omega) (by omega)
      have e216_ : F211_ 344 9 = F178_ 344 9 := by rw [q212_]; exact fl_u_ne (by omega)
      have e217_ : F211_ 344 10 = F178_ 344 10 := by rw [q212_]; exact fl_u_ne (by omega)
      have b218_ : 0 ≤ F178_ 344 10 ∧ F178_ 344 10 ≤ 600 := gi_g g179_ rfl
      have e219_ : F211_ 344 5 = Fb 344 5 := by rw [q212_]; exact fl_u_eq
      exact fl_R_sub (lv' := [(0, .ref 344)]) rfl rfl (B62_ F211_ g213_ g214_ rk215_ (by omega) (by omega) (⟨fun h0_ => by rw [show F211_ 344 9 = Fb 344 9 by omega, show F211_ 344 10 = Fb 344 10 by omega]; exact hb.1 h0_, fun h0_ => by have h1_ := hb.2 h0_; omega⟩))
    exfalso; omega
  have B19_ : ∀ (Fb : fl_N), (gi Fb) → (fs [(344, 344, 5, 5), (344, 344, 9, 10), (344, 344, 21, 21), (344, 344, 63, 63), (353, 363, 0, 100000)] F Fb) → (rk K Fb) → (¬ Fb 344 9 = 0) → (0 ≤ Fb 344 5 ∧ Fb 344 5 ≤ K 1 6 - 1) → ((F 344 9 = 0 → sp_a1 K ts pl ps al (F 344 5) = .inl (Fb 344 9, Fb 344 10)) ∧ (¬ F 344 9 = 0 → Fb 344 9 = F 344 9 ∧ Fb 344 10 = F 344 10)) → fl_R xi_ms 173 fr lo 19 [(0, .ref 344)] [] (fl_H sh_T G Fb ++ X) (pq_173 G F X K ts pl al ps) := by
    intro Fb hg_Fb hf_Fb hrk_b hbd hp_b hb
    refine ga_aload_n (v := .ref 344) hm_173 rfl rfl rfl ?_
    refine fl_iconst hm_173 rfl ?_
    have b220_ : 0 ≤ Fb 344 5 ∧ Fb 344 5 ≤ 600 := gi_g hg_Fb rfl
    refine gVv (nY := 2) (F := 2) (L := 44) (As := [.int (Int32.ofInt 4)]) (b := 344) (rest := []) hm_173 rfl hm_55 rfl rfl (fl_ob sc_344) rfl rfl rfl rfl rfl (by omega) (by omega) (mc_55 hG Fb X hg_Fb (K) (4) ([58, 97, 99, 116, 105, 111, 110]) hgK hrk_b hkt (by omega) (by omega) (by decide) (kw_4 hrk_b)) (fun _ _ h => False.elim h) ?_
    have b222_ : 0 ≤ Fb 344 10 ∧ Fb 344 10 ≤ 600 := gi_g hg_Fb rfl
    have b223_ : 0 ≤ Fb 344 9 ∧ Fb 344 9 ≤ 5 := gi_g hg_Fb rfl
    rintro A1_ (⟨F227_, hA_, g228_, s229_, c224_, c225_, c226_⟩ | ⟨F233_, hA_, g234_, s235_, c230_, c231_, c232_⟩)
    ·
      subst hA_
      have g236_ : fs [(344, 344, 5, 5), (344, 344, 9, 10), (344, 344, 21, 21), (344, 344, 63, 63), (353, 363, 0, 100000)] F F227_ := fs_tr hf_Fb s229_ rfl
      have rk237_ : rk K F227_ := rk_fs hrk_b s229_ (fun r k h => (fs_n (by omega) (fs_n (by omega) rfl))) (fs_n (by omega) (fs_n (by omega) rfl))
      have c225_k := c225_.2 (by omega)
      clear c225_
      have b238_ : 0 ≤ F227_ 344 9 ∧ F227_ 344 9 ≤ 5 := gi_g g228_ rfl
      have b239_ : 0 ≤ F227_ 344 10 ∧ F227_ 344 10 ≤ 600 := gi_g g228_ rfl
      have b240_ : 0 ≤ F227_ 344 5 ∧ F227_ 344 5 ≤ 600 := gi_g g228_ rfl
      exact B24_ F227_ g228_ g236_ rk237_ (by omega) (by omega) (⟨fun h0_ => by rw [show F227_ 344 9 = Fb 344 9 by omega, show F227_ 344 10 = Fb 344 10 by omega]; exact hb.1 h0_, fun h0_ => by have h1_ := hb.2 h0_; omega⟩)
    exfalso; omega
  have B13_ : ∀ (Fb : fl_N), (gi Fb) → (fs [(344, 344, 5, 5), (344, 344, 9, 10), (344, 344, 21, 21), (344, 344, 63, 63), (353, 363, 0, 100000)] F Fb) → (rk K Fb) → (¬ Fb 344 9 = 0) → (0 ≤ Fb 344 5 ∧ Fb 344 5 ≤ K 1 6 - 1) → ((F 344 9 = 0 → sp_a1 K ts pl ps al (F 344 5) = .inl (Fb 344 9, Fb 344 10)) ∧ (¬ F 344 9 = 0 → Fb 344 9 = F 344 9 ∧ Fb 344 10 = F 344 10)) → fl_R xi_ms 173 fr lo 13 [(0, .ref 344)] [] (fl_H sh_T G Fb ++ X) (pq_173 G F X K ts pl al ps) := by
    intro Fb hg_Fb hf_Fb hrk_b hbd hp_b hb
    refine ga_aload_n (v := .ref 344) hm_173 rfl rfl rfl ?_
    refine fl_bipush hm_173 rfl rfl ?_
    have b241_ : 0 ≤ Fb 344 5 ∧ Fb 344 5 ≤ 600 := gi_g hg_Fb rfl
    refine gVv (nY := 2) (F := 2) (L := 41) (As := [.int (Int32.ofInt 40)]) (b := 344) (rest := []) hm_173 rfl hm_51 rfl rfl (fl_ob sc_344) rfl rfl rfl rfl rfl (by omega) (by omega) (mc_51 hG Fb X hg_Fb (K) (40) (0) hgK hrk_b hkt (by omega) (by omega) (by omega)) (fun _ _ h => False.elim h) ?_
    have b243_ : 0 ≤ Fb 344 10 ∧ Fb 344 10 ≤ 600 := gi_g hg_Fb rfl
    have b244_ : 0 ≤ Fb 344 9 ∧ Fb 344 9 ≤ 5 := gi_g hg_Fb rfl
    rintro A1_ (⟨F248_, hA_, g249_, s250_, c245_, c246_, c247_⟩ | ⟨F254_, hA_, g255_, s256_, c251_, c252_, c253_⟩)
    ·
      subst hA_
      have g257_ : fs [(344, 344, 5, 5), (344, 344, 9, 10), (344, 344, 21, 21), (344, 344, 63, 63), (353, 363, 0, 100000)] F F248_ := fs_tr hf_Fb s250_ rfl
      have rk258_ : rk K F248_ := rk_fs hrk_b s250_ (fun r k h => (fs_n (by omega) (fs_n (by omega) rfl))) (fs_n (by omega) (fs_n (by omega) rfl))
      have c246_k := c246_.2 (by omega)
      clear c246_
      have b259_ : 0 ≤ F248_ 344 9 ∧ F248_ 344 9 ≤ 5 := gi_g g249_ rfl
      have b260_ : 0 ≤ F248_ 344 10 ∧ F248_ 344 10 ≤ 600 := gi_g g249_ rfl
      have b261_ : 0 ≤ F248_ 344 5 ∧ F248_ 344 5 ≤ 600 := gi_g g249_ rfl
      exact B19_ F248_ g249_ g257_ rk258_ (by omega) (by omega) (⟨fun h0_ => by rw [show F248_ 344 9 = Fb 344 9 by omega, show F248_ 344 10 = Fb 344 10 by omega]; exact hb.1 h0_, fun h0_ => by have h1_ := hb.2 h0_; omega⟩)
    exfalso; omega
  have b262_ : 0 ≤ F 344 9 ∧ F 344 9 ≤ 5 := gi_g hgi rfl
  by_cases h263_ : F 344 9 = 0
  ·
    refine ga_aload_n (v := .ref 344) hm_173 rfl rfl rfl ?_
    have b264_ : 0 ≤ F 344 21 ∧ F 344 21 ≤ 5 := gi_g hgi rfl
    refine ga_geti (z := F 344 21) hm_173 rfl sc_344 rfl (rfl) ?_
    refine fl_iconst hm_173 rfl ?_
    refine fx_icmp_ne (a := F 344 21) (b := 5) hm_173 rfl ⟨by omega, by omega⟩ ⟨by omega, by omega⟩ (fun h265_ => ?_) (fun h266_ => ?_)
    ·
      refine ga_aload_n (v := .ref 344) hm_173 rfl rfl rfl ?_
      refine fl_bipush hm_173 rfl rfl ?_
      have b267_ : 0 ≤ F 344 5 ∧ F 344 5 ≤ 600 := gi_g hgi rfl
      refine gVv (nY := 2) (F := 2) (L := 41) (As := [.int (Int32.ofInt 40)]) (b := 344) (rest := []) hm_173 rfl hm_51 rfl rfl (fl_ob sc_344) rfl rfl rfl rfl rfl (by omega) (by omega) (mc_51 hG F X hgi (K) (40) (0) hgK hrk hkt (by omega) (by omega) (by omega)) (fun _ _ h => False.elim h) ?_
      have b269_ : 0 ≤ F 344 10 ∧ F 344 10 ≤ 600 := gi_g hgi rfl
      rintro A1_ (⟨F273_, hA_, g274_, s275_, c270_, c271_, c272_⟩ | ⟨F279_, hA_, g280_, s281_, c276_, c277_, c278_⟩)
      ·
        subst hA_
        have g282_ : fs [(344, 344, 5, 5), (344, 344, 9, 10), (344, 344, 21, 21), (344, 344, 63, 63), (353, 363, 0, 100000)] F F273_ := fs_tr fs_refl s275_ rfl
        have rk283_ : rk K F273_ := rk_fs hrk s275_ (fun r k h => (fs_n (by omega) (fs_n (by omega) rfl))) (fs_n (by omega) (fs_n (by omega) rfl))
        have c271_s := c271_.1 (by omega)
        clear c271_
        have b284_ : 0 ≤ F273_ 344 9 ∧ F273_ 344 9 ≤ 5 := gi_g g274_ rfl
        have b285_ : 0 ≤ F273_ 344 10 ∧ F273_ 344 10 ≤ 600 := gi_g g274_ rfl
        have b286_ : 0 ≤ F273_ 344 5 ∧ F273_ 344 5 ≤ 600 := gi_g g274_ rfl
        exact B19_ F273_ g274_ g282_ rk283_ (by omega) (by omega) (⟨by intro h0_; have hs_ := c271_s; rw [sp_a1, if_neg (by omega), sp_action]; rw [hs_]; try (show Sum.inl _ = _); try (congr 2 <;> omega), fun h0_ => by exfalso; omega⟩)
      subst hA_
      have g287_ : fs [(344, 344, 5, 5), (344, 344, 9, 10), (344, 344, 21, 21), (344, 344, 63, 63), (353, 363, 0, 100000)] F F279_ := fs_tr fs_refl s281_ rfl
      have rk288_ : rk K F279_ := rk_fs hrk s281_ (fun r k h => (fs_n (by omega) (fs_n (by omega) rfl))) (fs_n (by omega) (fs_n (by omega) rfl))
      refine ga_aload_n (v := .ref 344) hm_173 rfl rfl rfl ?_
      refine fl_iconst hm_173 rfl ?_
      have b289_ : 0 ≤ F279_ 344 5 ∧ F279_ 344 5 ≤ 600 := gi_g g280_ rfl
      refine gVv (nY := 2) (F := 2) (L := 44) (As := [.int (Int32.ofInt 4)]) (b := 344) (rest := []) hm_173 rfl hm_55 rfl rfl (fl_ob sc_344) rfl rfl rfl rfl rfl (by omega) (by omega) (mc_55 hG F279_ X g280_ (K) (4) ([58, 97, 99, 116, 105, 111, 110]) hgK rk288_ hkt (by omega) (by omega) (by decide) (kw_4 rk288_)) (fun _ _ h => False.elim h) ?_
      have b291_ : 0 ≤ F279_ 344 10 ∧ F279_ 344 10 ≤ 600 := gi_g g280_ rfl
      have b292_ : 0 ≤ F279_ 344 9 ∧ F279_ 344 9 ≤ 5 := gi_g g280_ rfl
      rintro A1_ (⟨F296_, hA_, g297_, s298_, c293_, c294_, c295_⟩ | ⟨F302_, hA_, g303_, s304_, c299_, c300_, c301_⟩)
      ·
        subst hA_
        have g305_ : fs [(344, 344, 5, 5), (344, 344, 9, 10), (344, 344, 21, 21), (344, 344, 63, 63), (353, 363, 0, 100000)] F F296_ := fs_tr g287_ s298_ rfl
        have rk306_ : rk K F296_ := rk_fs rk288_ s298_ (fun r k h => (fs_n (by omega) (fs_n (by omega) rfl))) (fs_n (by omega) (fs_n (by omega) rfl))
        have c294_s := c294_.1 (by omega)
        clear c294_
        have b307_ : 0 ≤ F296_ 344 9 ∧ F296_ 344 9 ≤ 5 := gi_g g297_ rfl
        have b308_ : 0 ≤ F296_ 344 10 ∧ F296_ 344 10 ≤ 600 := gi_g g297_ rfl
        have b309_ : 0 ≤ F296_ 344 5 ∧ F296_ 344 5 ≤ 600 := gi_g g297_ rfl
        exact B24_ F296_ g297_ g305_ rk306_ (by omega) (by omega) (⟨by intro h0_; have hs_ := c294_s; rw [sp_a1, if_neg (by omega), sp_action]; rw [c277_]; simp only [pb_r]; rw [hs_]; try (show Sum.inl _ = _); try (congr 2 <;> omega), fun h0_ => by exfalso; omega⟩)
      subst hA_
      have g310_ : fs [(344, 344, 5, 5), (344, 344, 9, 10), (344, 344, 21, 21), (344, 344, 63, 63), (353, 363, 0, 100000)] F F302_ := fs_tr g287_ s304_ rfl
      have rk311_ : rk K F302_ := rk_fs rk288_ s304_ (fun r k h => (fs_n (by omega) (fs_n (by omega) rfl))) (fs_n (by omega) (fs_n (by omega) rfl))
      refine ga_aload_n (v := .ref 344) hm_173 rfl rfl rfl ?_
      have b312_ : 0 ≤ F302_ 344 5 ∧ F302_ 344 5 ≤ 600 := gi_g g303_ rfl
      refine gVl (nY := 3) (F := 2) (L := 46) (As := []) (b := 344) (rest := []) hm_173 rfl hm_58 rfl rfl (fl_ob sc_344) rfl rfl rfl rfl rfl (by omega) (by omega) (mc_58 hG F302_ X g303_ (K) hgK rk311_ hkt (by omega)) (fun _ _ h => False.elim h) ?_
      have b314_ : 0 ≤ F302_ 344 10 ∧ F302_ 344 10 ≤ 600 := gi_g g303_ rfl
      have b315_ : 0 ≤ F302_ 344 9 ∧ F302_ 344 9 ≤ 5 := gi_g g303_ rfl
      rintro z313_ A1_ (⟨F320_, hA_, g321_, s322_, c316_, c317_, c318_, c319_⟩ | ⟨F330_, hA_, g331_, s332_, c323_, c324_, c325_, c326_, c327_, c328_, c329_⟩)
      ·
        subst hA_
        have g333_ : fs [(344, 344, 5, 5), (344, 344, 9, 10), (344, 344, 21, 21), (344, 344, 63, 63), (353, 363, 0, 100000)] F F320_ := fs_tr g310_ s322_ rfl
        have rk334_ : rk K F320_ := rk_fs rk311_ s322_ (fun r k h => (fs_n (by omega) rfl)) (fs_n (by omega) rfl)
        have c317_s := c317_.1 (by omega)
        clear c317_
        refine ga_lstore_n (lv2 := [(1, .long (Int64.ofInt z313_)), (0, .ref 344)]) hm_173 rfl (Nat.le_of_ble_eq_true rfl) rfl ?_
        refine ga_aload_n (v := .ref 344) hm_173 rfl rfl rfl ?_
        refine gIi (nY := 1) (F := 0) (L := 0) (As := []) (b := 344) (rest := []) hm_173 rfl hm_59 rfl rfl (fl_ob sc_344) rfl rfl rfl rfl rfl (by omega) (by omega) ?_
        intro f335_ l336_ h337_ h338_
        show fl_R xi_ms 59 f335_ l336_ 0 [(0, .ref 344)] [] _ _
        refine ga_aload_n (v := .ref 344) hm_59 rfl rfl rfl ?_
        have b339_ : 0 ≤ F320_ 344 9 ∧ F320_ 344 9 ≤ 5 := gi_g g321_ rfl
        refine ga_geti (z := F320_ 344 9) hm_59 rfl sc_344 rfl (rfl) ?_
        refine fl_if_le (a := F320_ 344 9) hm_59 rfl ⟨by omega, by omega⟩ (fun h340_ => ?_) (fun h341_ => ?_)
        · exfalso; omega
        refine fl_iconst hm_59 rfl ?_
        refine fl_goto hm_59 rfl ?_
        refine gr_i hm_59 rfl rfl (ga_nb (by omega)) ?_
        clear h337_ h338_ f335_ l336_
        refine fl_if_ne hm_173 rfl ⟨by omega, by omega⟩ (fun _ => ?_) (fun h => absurd (by omega) h)
        refine ga_aload_n (v := .ref 344) hm_173 rfl rfl rfl ?_
        refine gIv (nY := 1) (F := 1) (L := 20) (As := []) (b := 344) (rest := []) hm_173 rfl hm_61 rfl rfl (fl_ob sc_344) rfl rfl rfl rfl rfl (by omega) (by omega) ?_
        intro f342_ l343_ h344_ h345_
        show fl_R xi_ms 61 f342_ l343_ 0 [(0, .ref 344)] [] _ _
        refine ga_aload_n (v := .ref 344) hm_61 rfl rfl rfl ?_
        refine ga_dup hm_61 rfl rfl ?_
        have e346_ : F320_ 344 5 = F302_ 344 5 := (s322_ 344 5 rfl).trans (rfl)
        refine ga_geti (z := F302_ 344 5) hm_61 rfl sc_344 rfl (e346_) ?_
        refine ga_aload_n (v := .ref 344) hm_61 rfl rfl rfl ?_
        refine gIi (nY := 1) (F := 0) (L := 0) (As := []) (b := 344) (rest := [.int (Int32.ofInt (F302_ 344 5)), .ref 344]) hm_61 rfl hm_59 rfl rfl (fl_ob sc_344) rfl rfl rfl rfl rfl (by omega) (by omega) ?_
        intro f347_ l348_ h349_ h350_
        show fl_R xi_ms 59 f347_ l348_ 0 [(0, .ref 344)] [] _ _
        refine ga_aload_n (v := .ref 344) hm_59 rfl rfl rfl ?_
        refine ga_geti (z := F320_ 344 9) hm_59 rfl sc_344 rfl (rfl) ?_
        refine fl_if_le (a := F320_ 344 9) hm_59 rfl ⟨by omega, by omega⟩ (fun h351_ => ?_) (fun h352_ => ?_)
        · exfalso; omega
        refine fl_iconst hm_59 rfl ?_
        refine fl_goto hm_59 rfl ?_
        refine gr_i hm_59 rfl rfl (ga_nb (by omega)) ?_
        clear h349_ h350_ f347_ l348_
        refine fl_if_eq hm_61 rfl ⟨by omega, by omega⟩ (fun h => absurd h (by omega)) (fun _ => ?_)
        refine fl_iconst hm_61 rfl ?_
        refine fl_goto hm_61 rfl ?_
        refine ga_iadd (a := F302_ 344 5) (b := 0) (c := F302_ 344 5) hm_61 rfl (by omega) ?_
        refine ga_puti (z := F302_ 344 5) hm_61 rfl sc_344 rfl rfl ?_
        refine gr_v hm_61 rfl rfl ?_
        clear h344_ h345_ f342_ l343_
        obtain ⟨F353_, q354_⟩ : ∃ F9_, F9_ = (fl_u F320_ 344 5 (F302_ 344 5)) := ⟨_, rfl⟩
        rw [← q354_]
        have g355_ : gi F353_ := by rw [q354_]; exact gi_u (g321_) rfl (by omega) (by omega)
        have g356_ : fs [(344, 344, 5, 5), (344, 344, 9, 10), (344, 344, 21, 21), (344, 344, 63, 63), (353, 363, 0, 100000)] F F353_ := by rw [q354_]; exact fs_u (g333_) rfl
        have rk357_ : rk K F353_ := by rw [q354_]; exact rk_u (rk334_) (by omega) (by omega)
        have e358_ : F353_ 344 9 = F320_ 344 9 := by rw [q354_]; exact fl_u_ne (by omega)
        have e359_ : F353_ 344 10 = F320_ 344 10 := by rw [q354_]; exact fl_u_ne (by omega)
        have b360_ : 0 ≤ F320_ 344 10 ∧ F320_ 344 10 ≤ 600 := gi_g g321_ rfl
        have e361_ : F353_ 344 5 = F302_ 344 5 := by rw [q354_]; exact fl_u_eq
        exact fl_R_sub (lv' := [(0, .ref 344)]) rfl rfl (B62_ F353_ g355_ g356_ rk357_ (by omega) (by omega) (⟨by intro h0_; have hs_ := c317_s; rw [sp_a1, if_neg (by omega), sp_action]; rw [c277_]; simp only [pb_r]; rw [c300_]; simp only [pb_r]; have h1_ := nm_no hs_; rw [sp_nm, if_neg h1_] at hs_; have h2_ := Prod.mk.inj (Sum.inl.inj hs_); rw [sp_new, if_neg h1_]; show Sum.inl (1, K 4 _) = _; congr 2 <;> omega, fun h0_ => by exfalso; omega⟩))
      subst hA_
      have g362_ : fs [(344, 344, 5, 5), (344, 344, 9, 10), (344, 344, 21, 21), (344, 344, 63, 63), (353, 363, 0, 100000)] F F330_ := fs_tr g310_ s332_ rfl
      have rk363_ : rk K F330_ := rk_fs rk311_ s332_ (fun r k h => (fs_n (by omega) rfl)) (fs_n (by omega) rfl)
      refine ga_lstore_n (lv2 := [(1, .long (Int64.ofInt z313_)), (0, .ref 344)]) hm_173 rfl (Nat.le_of_ble_eq_true rfl) rfl ?_
      refine ga_aload_n (v := .ref 344) hm_173 rfl rfl rfl ?_
      refine gIi (nY := 1) (F := 0) (L := 0) (As := []) (b := 344) (rest := []) hm_173 rfl hm_59 rfl rfl (fl_ob sc_344) rfl rfl rfl rfl rfl (by omega) (by omega) ?_
      intro f364_ l365_ h366_ h367_
      show fl_R xi_ms 59 f364_ l365_ 0 [(0, .ref 344)] [] _ _
      refine ga_aload_n (v := .ref 344) hm_59 rfl rfl rfl ?_
      have b368_ : 0 ≤ F330_ 344 9 ∧ F330_ 344 9 ≤ 5 := gi_g g331_ rfl
      refine ga_geti (z := F330_ 344 9) hm_59 rfl sc_344 rfl (rfl) ?_
      refine fl_if_le (a := F330_ 344 9) hm_59 rfl ⟨by omega, by omega⟩ (fun h369_ => ?_) (fun h370_ => ?_)
      ·
        refine fl_iconst hm_59 rfl ?_
        refine gr_i hm_59 rfl rfl (ga_nb (by omega)) ?_
        clear h366_ h367_ f364_ l365_
        refine fl_if_ne hm_173 rfl ⟨by omega, by omega⟩ (fun h => absurd h (by omega)) (fun _ => ?_)
        refine ga_aload_n (v := .ref 344) hm_173 rfl rfl rfl ?_
        refine ga_getr (b := 353) hm_173 rfl sc_344 rfl ?_
        refine fl_iconst hm_173 rfl ?_
        refine ga_aload_n (v := .ref 344) hm_173 rfl rfl rfl ?_
        have e371_ : F279_ 344 21 = F 344 21 := (s281_ 344 21 rfl).trans (rfl)
        have e372_ : F302_ 344 21 = F 344 21 := (s304_ 344 21 rfl).trans (e371_)
        have e373_ : F330_ 344 21 = F 344 21 := (s332_ 344 21 rfl).trans (e372_)
        refine ga_geti (z := F 344 21) hm_173 rfl sc_344 rfl (e373_) ?_
        refine ga_lload_n (z := z313_) hm_173 rfl rfl ?_
        refine gSi (nY := 7) (F := 0) (L := 0) (As := [.ref 353, .int (Int32.ofInt 0), .int (Int32.ofInt (F 344 21)), .long (Int64.ofInt z313_)]) (rest := []) hm_173 rfl hm_162 rfl rfl (fl_pos sc_0) rfl rfl rfl rfl (by omega) (by omega) (mc_162 hG F330_ X g331_ (353) (5) (0) (F 344 21) (z313_) sc_353 (fun _ => rfl) (by omega) (by omega))  ?_
        rintro z374_ A1_ ⟨hA_, c375_, c376_, c377_⟩
        subst hA_
        refine fl_iconst hm_173 rfl ?_
        refine fl_icmp_eq (a := z374_) (b := -1) hm_173 rfl ⟨by omega, by omega⟩ ⟨by omega, by omega⟩ (fun h378_ => ?_) (fun h379_ => ?_)
        ·
          refine ga_aload_n (v := .ref 344) hm_173 rfl rfl rfl ?_
          refine gIv (nY := 1) (F := 1) (L := 20) (As := []) (b := 344) (rest := []) hm_173 rfl hm_61 rfl rfl (fl_ob sc_344) rfl rfl rfl rfl rfl (by omega) (by omega) ?_
          intro f380_ l381_ h382_ h383_
          show fl_R xi_ms 61 f380_ l381_ 0 [(0, .ref 344)] [] _ _
          refine ga_aload_n (v := .ref 344) hm_61 rfl rfl rfl ?_
          refine ga_dup hm_61 rfl rfl ?_
          have e384_ : F330_ 344 5 = F302_ 344 5 := (s332_ 344 5 rfl).trans (rfl)
          refine ga_geti (z := F302_ 344 5) hm_61 rfl sc_344 rfl (e384_) ?_
          refine ga_aload_n (v := .ref 344) hm_61 rfl rfl rfl ?_
          refine gIi (nY := 1) (F := 0) (L := 0) (As := []) (b := 344) (rest := [.int (Int32.ofInt (F302_ 344 5)), .ref 344]) hm_61 rfl hm_59 rfl rfl (fl_ob sc_344) rfl rfl rfl rfl rfl (by omega) (by omega) ?_
          intro f385_ l386_ h387_ h388_
          show fl_R xi_ms 59 f385_ l386_ 0 [(0, .ref 344)] [] _ _
          refine ga_aload_n (v := .ref 344) hm_59 rfl rfl rfl ?_
          refine ga_geti (z := F330_ 344 9) hm_59 rfl sc_344 rfl (rfl) ?_
          refine fl_if_le (a := F330_ 344 9) hm_59 rfl ⟨by omega, by omega⟩ (fun h389_ => ?_) (fun h390_ => ?_)
          ·
            refine fl_iconst hm_59 rfl ?_
            refine gr_i hm_59 rfl rfl (ga_nb (by omega)) ?_
            clear h387_ h388_ f385_ l386_
            refine fl_if_eq hm_61 rfl ⟨by omega, by omega⟩ (fun _ => ?_) (fun h => absurd (by omega) h)
            refine fl_iconst hm_61 rfl ?_
            refine ga_iadd (a := F302_ 344 5) (b := 1) (c := F302_ 344 5 + 1) hm_61 rfl (by omega) ?_
            refine ga_puti (z := F302_ 344 5 + 1) hm_61 rfl sc_344 rfl rfl ?_
            refine gr_v hm_61 rfl rfl ?_
            clear h382_ h383_ f380_ l381_
            refine ga_aload_n (v := .ref 344) hm_173 rfl rfl rfl ?_
            refine fl_iconst hm_173 rfl ?_
            obtain ⟨F391_, q392_⟩ : ∃ F9_, F9_ = (fl_u F330_ 344 5 (F302_ 344 5 + 1)) := ⟨_, rfl⟩
            rw [← q392_]
            have g393_ : gi F391_ := by rw [q392_]; exact gi_u (g331_) rfl (by omega) (by omega)
            have g394_ : fs [(344, 344, 5, 5), (344, 344, 9, 10), (344, 344, 21, 21), (344, 344, 63, 63), (353, 363, 0, 100000)] F F391_ := by rw [q392_]; exact fs_u (g362_) rfl
            have rk395_ : rk K F391_ := by rw [q392_]; exact rk_u (rk363_) (by omega) (by omega)
            have e396_ : F391_ 344 5 = F302_ 344 5 + 1 := by rw [q392_]; exact fl_u_eq
            refine gVv (nY := 2) (F := 2) (L := 44) (As := [.int (Int32.ofInt 5)]) (b := 344) (rest := []) hm_173 rfl hm_55 rfl rfl (fl_ob sc_344) rfl rfl rfl rfl rfl (by omega) (by omega) (mc_55 hG F391_ X g393_ (K) (5) ([58, 112, 97, 114, 97, 109, 101, 116, 101, 114, 115]) hgK rk395_ hkt (by omega) (by omega) (by decide) (kw_5 rk395_)) (fun _ _ h => False.elim h) ?_
            have e398_ : F391_ 344 10 = F330_ 344 10 := by rw [q392_]; exact fl_u_ne (by omega)
            have b399_ : 0 ≤ F330_ 344 10 ∧ F330_ 344 10 ≤ 600 := gi_g g331_ rfl
            have e400_ : F391_ 344 9 = F330_ 344 9 := by rw [q392_]; exact fl_u_ne (by omega)
            rintro A1_ (⟨F404_, hA_, g405_, s406_, c401_, c402_, c403_⟩ | ⟨F410_, hA_, g411_, s412_, c407_, c408_, c409_⟩)
            ·
              subst hA_
              have g413_ : fs [(344, 344, 5, 5), (344, 344, 9, 10), (344, 344, 21, 21), (344, 344, 63, 63), (353, 363, 0, 100000)] F F404_ := fs_tr g394_ s406_ rfl
              have rk414_ : rk K F404_ := rk_fs rk395_ s406_ (fun r k h => (fs_n (by omega) (fs_n (by omega) rfl))) (fs_n (by omega) (fs_n (by omega) rfl))
              try simp only [e396_, e398_, e400_] at c402_
              have c402_s := c402_.1 (by omega)
              clear c402_
              have b415_ : 0 ≤ F404_ 344 9 ∧ F404_ 344 9 ≤ 5 := gi_g g405_ rfl
              have b416_ : 0 ≤ F404_ 344 10 ∧ F404_ 344 10 ≤ 600 := gi_g g405_ rfl
              have b417_ : 0 ≤ F404_ 344 5 ∧ F404_ 344 5 ≤ 600 := gi_g g405_ rfl
              exact fl_R_sub (lv' := [(0, .ref 344)]) rfl rfl (B67_ F404_ g405_ g413_ rk414_ (by omega) (by omega) (⟨by intro h0_; have hs_ := c402_s; rw [sp_a1, if_neg (by omega), sp_action]; rw [c277_]; simp only [pb_r]; rw [c300_]; simp only [pb_r]; rw [sp_new, if_pos (by omega), (ra_fi (by have x_ := (rpn_fs (rpn_fs (rpn_fs hal s281_ (fun _ => (fs_n (by omega) (fs_n (by omega) rfl))) (fs_n (by omega) (fs_n (by omega) rfl))) s304_ (fun _ => (fs_n (by omega) (fs_n (by omega) rfl))) (fs_n (by omega) (fs_n (by omega) rfl))) s332_ (fun _ => (fs_n (by omega) rfl)) (fs_n (by omega) rfl)); rw [e373_] at x_; exact x_) c326_ c375_ c376_ c377_), if_pos (by omega), (show sk K (F302_ 344 5) = F302_ 344 5 + 1 by rw [sk, if_pos (by omega)])]; simp only [pb_r]; rw [hs_]; try (show Sum.inl _ = _); try (congr 2 <;> omega), fun h0_ => by exfalso; omega⟩))
            subst hA_
            have g418_ : fs [(344, 344, 5, 5), (344, 344, 9, 10), (344, 344, 21, 21), (344, 344, 63, 63), (353, 363, 0, 100000)] F F410_ := fs_tr g394_ s412_ rfl
            have rk419_ : rk K F410_ := rk_fs rk395_ s412_ (fun r k h => (fs_n (by omega) (fs_n (by omega) rfl))) (fs_n (by omega) (fs_n (by omega) rfl))
            try simp only [e400_] at c407_
            try simp only [e396_] at c408_
            refine ga_aload_n (v := .ref 344) hm_173 rfl rfl rfl ?_
            refine fl_bipush hm_173 rfl rfl ?_
            have b420_ : 0 ≤ F410_ 344 5 ∧ F410_ 344 5 ≤ 600 := gi_g g411_ rfl
            refine gVv (nY := 2) (F := 2) (L := 41) (As := [.int (Int32.ofInt 40)]) (b := 344) (rest := []) hm_173 rfl hm_51 rfl rfl (fl_ob sc_344) rfl rfl rfl rfl rfl (by omega) (by omega) (mc_51 hG F410_ X g411_ (K) (40) (0) hgK rk419_ hkt (by omega) (by omega) (by omega)) (fun _ _ h => False.elim h) ?_
            have b422_ : 0 ≤ F410_ 344 10 ∧ F410_ 344 10 ≤ 600 := gi_g g411_ rfl
            have b423_ : 0 ≤ F410_ 344 9 ∧ F410_ 344 9 ≤ 5 := gi_g g411_ rfl
            rintro A1_ (⟨F427_, hA_, g428_, s429_, c424_, c425_, c426_⟩ | ⟨F433_, hA_, g434_, s435_, c430_, c431_, c432_⟩)
            ·
              subst hA_
              have g436_ : fs [(344, 344, 5, 5), (344, 344, 9, 10), (344, 344, 21, 21), (344, 344, 63, 63), (353, 363, 0, 100000)] F F427_ := fs_tr g418_ s429_ rfl
              have rk437_ : rk K F427_ := rk_fs rk419_ s429_ (fun r k h => (fs_n (by omega) (fs_n (by omega) rfl))) (fs_n (by omega) (fs_n (by omega) rfl))
              have c425_s := c425_.1 (by omega)
              clear c425_
              have b438_ : 0 ≤ F427_ 344 9 ∧ F427_ 344 9 ≤ 5 := gi_g g428_ rfl
              have b439_ : 0 ≤ F427_ 344 10 ∧ F427_ 344 10 ≤ 600 := gi_g g428_ rfl
              have b440_ : 0 ≤ F427_ 344 5 ∧ F427_ 344 5 ≤ 600 := gi_g g428_ rfl
              exact fl_R_sub (lv' := [(0, .ref 344)]) rfl rfl (B73_ F427_ g428_ g436_ rk437_ (by omega) (by omega) (⟨by intro h0_; have hs_ := c425_s; rw [sp_a1, if_neg (by omega), sp_action]; rw [c277_]; simp only [pb_r]; rw [c300_]; simp only [pb_r]; rw [sp_new, if_pos (by omega), (ra_fi (by have x_ := (rpn_fs (rpn_fs (rpn_fs hal s281_ (fun _ => (fs_n (by omega) (fs_n (by omega) rfl))) (fs_n (by omega) (fs_n (by omega) rfl))) s304_ (fun _ => (fs_n (by omega) (fs_n (by omega) rfl))) (fs_n (by omega) (fs_n (by omega) rfl))) s332_ (fun _ => (fs_n (by omega) rfl)) (fs_n (by omega) rfl)); rw [e373_] at x_; exact x_) c326_ c375_ c376_ c377_), if_pos (by omega), (show sk K (F302_ 344 5) = F302_ 344 5 + 1 by rw [sk, if_pos (by omega)])]; simp only [pb_r]; rw [c408_]; simp only [pb_r]; rw [hs_]; try (show Sum.inl _ = _); try (congr 2 <;> omega), fun h0_ => by exfalso; omega⟩))
            subst hA_
            have g441_ : fs [(344, 344, 5, 5), (344, 344, 9, 10), (344, 344, 21, 21), (344, 344, 63, 63), (353, 363, 0, 100000)] F F433_ := fs_tr g418_ s435_ rfl
            have rk442_ : rk K F433_ := rk_fs rk419_ s435_ (fun r k h => (fs_n (by omega) (fs_n (by omega) rfl))) (fs_n (by omega) (fs_n (by omega) rfl))
            refine ga_aload_n (v := .ref 344) hm_173 rfl rfl rfl ?_
            refine gIi (nY := 1) (F := 0) (L := 0) (As := []) (b := 344) (rest := []) hm_173 rfl hm_59 rfl rfl (fl_ob sc_344) rfl rfl rfl rfl rfl (by omega) (by omega) ?_
            intro f443_ l444_ h445_ h446_
            show fl_R xi_ms 59 f443_ l444_ 0 [(0, .ref 344)] [] _ _
            refine ga_aload_n (v := .ref 344) hm_59 rfl rfl rfl ?_
            have b447_ : 0 ≤ F433_ 344 9 ∧ F433_ 344 9 ≤ 5 := gi_g g434_ rfl
            refine ga_geti (z := F433_ 344 9) hm_59 rfl sc_344 rfl (rfl) ?_
            refine fl_if_le (a := F433_ 344 9) hm_59 rfl ⟨by omega, by omega⟩ (fun h448_ => ?_) (fun h449_ => ?_)
            ·
              refine fl_iconst hm_59 rfl ?_
              refine gr_i hm_59 rfl rfl (ga_nb (by omega)) ?_
              clear h445_ h446_ f443_ l444_
              refine fl_if_eq hm_173 rfl ⟨by omega, by omega⟩ (fun _ => ?_) (fun h => absurd (by omega) h)
              refine ga_aload_n (v := .ref 344) hm_173 rfl rfl rfl ?_
              have e450_ : F391_ 344 21 = F 344 21 := by rw [q392_]; exact (fl_u_ne (by omega)).trans (e373_)
              have e451_ : F410_ 344 21 = F 344 21 := (s412_ 344 21 rfl).trans (e450_)
              have e452_ : F433_ 344 21 = F 344 21 := (s435_ 344 21 rfl).trans (e451_)
              refine ga_geti (z := F 344 21) hm_173 rfl sc_344 rfl (e452_) ?_
              refine ga_istore_n (lv2 := [(3, .int (Int32.ofInt (F 344 21))), (1, .long (Int64.ofInt z313_)), (0, .ref 344)]) hm_173 rfl (Nat.le_of_ble_eq_true rfl) rfl ?_
              refine ga_aload_n (v := .ref 344) hm_173 rfl rfl rfl ?_
              refine ga_getr (b := 353) hm_173 rfl sc_344 rfl ?_
              refine ga_iload_n (z := F 344 21) hm_173 rfl rfl ?_
              refine ga_lload_n (z := z313_) hm_173 rfl rfl ?_
              refine fl_last (z := F 344 21) (v := z313_) hm_173 rfl sc_353 (by omega) (by omega) (by omega) ?_
              refine ga_aload_n (v := .ref 344) hm_173 rfl rfl rfl ?_
              refine ga_getr (b := 357) hm_173 rfl sc_344 rfl ?_
              refine ga_iload_n (z := F 344 21) hm_173 rfl rfl ?_
              refine fl_iconst hm_173 rfl ?_
              refine fl_iast (z := F 344 21) (v := 1) hm_173 rfl sc_357 (by omega) (by omega) (by omega) ?_
              refine ga_aload_n (v := .ref 344) hm_173 rfl rfl rfl ?_
              refine ga_getr (b := 358) hm_173 rfl sc_344 rfl ?_
              refine ga_iload_n (z := F 344 21) hm_173 rfl rfl ?_
              refine fl_iconst hm_173 rfl ?_
              refine fl_iast (z := F 344 21) (v := 0) hm_173 rfl sc_358 (by omega) (by omega) (by omega) ?_
              refine ga_aload_n (v := .ref 344) hm_173 rfl rfl rfl ?_
              refine ga_getr (b := 359) hm_173 rfl sc_344 rfl ?_
              refine ga_iload_n (z := F 344 21) hm_173 rfl rfl ?_
              refine fl_iconst hm_173 rfl ?_
              refine fl_iast (z := F 344 21) (v := 0) hm_173 rfl sc_359 (by omega) (by omega) (by omega) ?_
              refine ga_aload_n (v := .ref 344) hm_173 rfl rfl rfl ?_
              refine ga_getr (b := 354) hm_173 rfl sc_344 rfl ?_
              refine ga_iload_n (z := F 344 21) hm_173 rfl rfl ?_
              refine ga_aload_n (v := .ref 344) hm_173 rfl rfl rfl ?_
              refine fl_iconst hm_173 rfl ?_
              refine ga_aload_n (v := .ref 344) hm_173 rfl rfl rfl ?_
              refine ga_getr (b := 356) hm_173 rfl sc_344 rfl ?_
              refine ga_aload_n (v := .ref 344) hm_173 rfl rfl rfl ?_
              refine ga_getr (b := 355) hm_173 rfl sc_344 rfl ?_
              refine fl_iconst hm_173 rfl ?_
              refine ga_iload_n (z := F 344 21) hm_173 rfl rfl ?_
              refine ga_imul (a := 3) (b := F 344 21) (c := 3 * (F 344 21)) hm_173 rfl (by omega) ?_
              obtain ⟨F453_, q454_⟩ : ∃ F9_, F9_ = (fl_u (fl_u (fl_u (fl_u F433_ 353 (F 344 21).toNat z313_) 357 (F 344 21).toNat 1) 358 (F 344 21).toNat 0) 359 (F 344 21).toNat 0) := ⟨_, rfl⟩
              rw [← q454_]
              have g455_ : gi F453_ := by rw [q454_]; exact gi_u (gi_u (gi_u (gi_u (g434_) rfl (by omega) (by omega)) rfl (by omega) (by omega)) rfl (by omega) (by omega)) rfl (by omega) (by omega)
              have g456_ : fs [(344, 344, 5, 5), (344, 344, 9, 10), (344, 344, 21, 21), (344, 344, 63, 63), (353, 363, 0, 100000)] F F453_ := by rw [q454_]; exact fs_u (fs_u (fs_u (fs_u (g441_) (fs_z (fs_z (fs_z (fs_z (fs_y (by omega))))))) (fs_z (fs_z (fs_z (fs_z (fs_y (by omega))))))) (fs_z (fs_z (fs_z (fs_z (fs_y (by omega))))))) (fs_z (fs_z (fs_z (fs_z (fs_y (by omega))))))
              have rk457_ : rk K F453_ := by rw [q454_]; exact rk_u (rk_u (rk_u (rk_u (rk442_) (by omega) (by omega)) (by omega) (by omega)) (by omega) (by omega)) (by omega) (by omega)
              have e458_ : F453_ 344 5 = F433_ 344 5 := by rw [q454_]; exact (fl_u_ne (by omega)).trans ((fl_u_ne (by omega)).trans ((fl_u_ne (by omega)).trans (fl_u_ne (by omega))))
              have b459_ : 0 ≤ F433_ 344 5 ∧ F433_ 344 5 ≤ 600 := gi_g g434_ rfl
              refine gVi (nY := 8) (F := 4) (L := 89) (As := [.int (Int32.ofInt 3), .ref 356, .ref 355, .int (Int32.ofInt (3 * (F 344 21)))]) (b := 344) (rest := [.int (Int32.ofInt (F 344 21)), .ref 354]) hm_173 rfl hm_188 rfl rfl (fl_ob sc_344) rfl rfl rfl rfl rfl (by omega) (by omega) (mc_188 hG F453_ X g455_ (K) (3) (3 * (F 344 21)) (ts) hgK rk457_ hkt (by omega) ((by rw [q454_]; exact (rpn_u (rpn_u (rpn_u (rpn_u (rpn_fs (rpn_fs (by rw [q392_]; exact (rpn_u (rpn_fs (rpn_fs (rpn_fs hts s281_ (fun _ => (fs_n (by omega) (fs_n (by omega) rfl))) (fs_n (by omega) (fs_n (by omega) rfl))) s304_ (fun _ => (fs_n (by omega) (fs_n (by omega) rfl))) (fs_n (by omega) (fs_n (by omega) rfl))) s332_ (fun _ => (fs_n (by omega) rfl)) (fs_n (by omega) rfl)) (by omega) (by omega))) s412_ (fun _ => (fs_n (by omega) (fs_n (by omega) rfl))) (fs_n (by omega) (fs_n (by omega) rfl))) s435_ (fun _ => (fs_n (by omega) (fs_n (by omega) rfl))) (fs_n (by omega) (fs_n (by omega) rfl))) (by omega) (by omega)) (by omega) (by omega)) (by omega) (by omega)) (by omega) (by omega)))) (by omega) (by omega)) (fun _ _ h => False.elim h) ?_
              have e461_ : F453_ 344 10 = F433_ 344 10 := by rw [q454_]; exact (fl_u_ne (by omega)).trans ((fl_u_ne (by omega)).trans ((fl_u_ne (by omega)).trans (fl_u_ne (by omega))))
              have b462_ : 0 ≤ F433_ 344 10 ∧ F433_ 344 10 ≤ 600 := gi_g g434_ rfl
              have e463_ : F453_ 344 9 = F433_ 344 9 := by rw [q454_]; exact (fl_u_ne (by omega)).trans ((fl_u_ne (by omega)).trans ((fl_u_ne (by omega)).trans (fl_u_ne (by omega))))
              rintro z460_ A1_ (⟨F468_, hA_, g469_, s470_, c464_, c465_, c466_, c467_⟩ | ⟨F475_, hA_, g476_, s477_, c471_, c472_, c473_, c474_⟩)
              ·
                subst hA_
                have g478_ : fs [(344, 344, 5, 5), (344, 344, 9, 10), (344, 344, 21, 21), (344, 344, 63, 63), (353, 363, 0, 100000)] F F468_ := fs_tr g456_ s470_ rfl
                have rk479_ : rk K F468_ := rk_fs rk457_ s470_ (fun r k h => (fs_n (by omega) (fs_n (by omega) (fs_n (by omega) rfl)))) (fs_n (by omega) (fs_n (by omega) (fs_n (by omega) rfl)))
                try simp only [e458_, e461_, e463_] at c465_
                have c465_s := c465_.1 (by omega)
                clear c465_
                try obtain ⟨l2_, tl2_, ⟨ct1_, ct2_⟩, ⟨ct3_, ct6n_⟩, ct4_, ct5_⟩ := c465_s
                try have ct6_ := ct6n_.symm
                refine fl_iast (z := F 344 21) (v := z460_) hm_173 rfl sc_354 (by omega) (by omega) (by omega) ?_
                obtain ⟨F480_, q481_⟩ : ∃ F9_, F9_ = (fl_u F468_ 354 (F 344 21).toNat z460_) := ⟨_, rfl⟩
                rw [← q481_]
                have g482_ : gi F480_ := by rw [q481_]; exact gi_u (g469_) rfl (by omega) (by omega)
                have g483_ : fs [(344, 344, 5, 5), (344, 344, 9, 10), (344, 344, 21, 21), (344, 344, 63, 63), (353, 363, 0, 100000)] F F480_ := by rw [q481_]; exact fs_u (g478_) (fs_z (fs_z (fs_z (fs_z (fs_y (by omega))))))
                have rk484_ : rk K F480_ := by rw [q481_]; exact rk_u (rk479_) (by omega) (by omega)
                have e485_ : F480_ 344 9 = F468_ 344 9 := by rw [q481_]; exact fl_u_ne (by omega)
                have b486_ : 0 ≤ F468_ 344 9 ∧ F468_ 344 9 ≤ 5 := gi_g g469_ rfl
                have e487_ : F480_ 344 10 = F468_ 344 10 := by rw [q481_]; exact fl_u_ne (by omega)
                have b488_ : 0 ≤ F468_ 344 10 ∧ F468_ 344 10 ≤ 600 := gi_g g469_ rfl
                have e489_ : F480_ 344 5 = F468_ 344 5 := by rw [q481_]; exact fl_u_ne (by omega)
                have b490_ : 0 ≤ F468_ 344 5 ∧ F468_ 344 5 ≤ 600 := gi_g g469_ rfl
                have e491_ : F453_ 344 21 = F 344 21 := by rw [q454_]; exact (fl_u_ne (by omega)).trans ((fl_u_ne (by omega)).trans ((fl_u_ne (by omega)).trans ((fl_u_ne (by omega)).trans (e452_))))
                have e492_ : F468_ 344 21 = F 344 21 := (s470_ 344 21 rfl).trans (e491_)
                have e493_ : F480_ 344 21 = F 344 21 := by rw [q481_]; exact (fl_u_ne (by omega)).trans (e492_)
                exact fl_R_sub (lv' := [(3, .int (Int32.ofInt (F 344 21))), (0, .ref 344)]) rfl rfl (B136_ F480_ g482_ g483_ rk484_ (by omega) (by omega) (⟨by intro h0_; have hs_ := c465_s; rw [sp_a1, if_neg (by omega), sp_action]; rw [c277_]; simp only [pb_r]; rw [c300_]; simp only [pb_r]; rw [sp_new, if_pos (by omega), (ra_fi (by have x_ := (rpn_fs (rpn_fs (rpn_fs hal s281_ (fun _ => (fs_n (by omega) (fs_n (by omega) rfl))) (fs_n (by omega) (fs_n (by omega) rfl))) s304_ (fun _ => (fs_n (by omega) (fs_n (by omega) rfl))) (fs_n (by omega) (fs_n (by omega) rfl))) s332_ (fun _ => (fs_n (by omega) rfl)) (fs_n (by omega) rfl)); rw [e373_] at x_; exact x_) c326_ c375_ c376_ c377_), if_pos (by omega), (show sk K (F302_ 344 5) = F302_ 344 5 + 1 by rw [sk, if_pos (by omega)])]; simp only [pb_r]; rw [c408_]; simp only [pb_r]; rw [c431_]; simp only [pb_r]; rw [sp1_fl hs_]; try (show Sum.inl _ = _); try (congr 2 <;> omega), fun h0_ => by exfalso; omega⟩) (by omega))
              subst hA_
              have g494_ : fs [(344, 344, 5, 5), (344, 344, 9, 10), (344, 344, 21, 21), (344, 344, 63, 63), (353, 363, 0, 100000)] F F475_ := fs_tr g456_ s477_ rfl
              have rk495_ : rk K F475_ := rk_fs rk457_ s477_ (fun r k h => (fs_n (by omega) (fs_n (by omega) (fs_n (by omega) rfl)))) (fs_n (by omega) (fs_n (by omega) (fs_n (by omega) rfl)))
              try simp only [e463_] at c471_
              try simp only [e458_] at c472_
              try obtain ⟨l2_, tl2_, ⟨ct1_, ct2_⟩, ⟨ct3_, ct6n_⟩, ct4_, ct5_⟩ := c472_
              try have ct6_ := ct6n_.symm
              refine fl_iast (z := F 344 21) (v := z460_) hm_173 rfl sc_354 (by omega) (by omega) (by omega) ?_
              refine ga_aload_n (v := .ref 344) hm_173 rfl rfl rfl ?_
              refine fl_bipush hm_173 rfl rfl ?_
              obtain ⟨F496_, q497_⟩ : ∃ F9_, F9_ = (fl_u F475_ 354 (F 344 21).toNat z460_) := ⟨_, rfl⟩
              rw [← q497_]
              have g498_ : gi F496_ := by rw [q497_]; exact gi_u (g476_) rfl (by omega) (by omega)
              have g499_ : fs [(344, 344, 5, 5), (344, 344, 9, 10), (344, 344, 21, 21), (344, 344, 63, 63), (353, 363, 0, 100000)] F F496_ := by rw [q497_]; exact fs_u (g494_) (fs_z (fs_z (fs_z (fs_z (fs_y (by omega))))))
              have rk500_ : rk K F496_ := by rw [q497_]; exact rk_u (rk495_) (by omega) (by omega)
              have e501_ : F496_ 344 5 = F475_ 344 5 := by rw [q497_]; exact fl_u_ne (by omega)
              have b502_ : 0 ≤ F475_ 344 5 ∧ F475_ 344 5 ≤ 600 := gi_g g476_ rfl
              refine gVv (nY := 2) (F := 2) (L := 41) (As := [.int (Int32.ofInt 41)]) (b := 344) (rest := []) hm_173 rfl hm_51 rfl rfl (fl_ob sc_344) rfl rfl rfl rfl rfl (by omega) (by omega) (mc_51 hG F496_ X g498_ (K) (41) (1) hgK rk500_ hkt (by omega) (by omega) (by omega)) (fun _ _ h => False.elim h) ?_
              have e504_ : F496_ 344 10 = F475_ 344 10 := by rw [q497_]; exact fl_u_ne (by omega)
              have b505_ : 0 ≤ F475_ 344 10 ∧ F475_ 344 10 ≤ 600 := gi_g g476_ rfl
              have e506_ : F496_ 344 9 = F475_ 344 9 := by rw [q497_]; exact fl_u_ne (by omega)
              have b507_ : 0 ≤ F475_ 344 9 ∧ F475_ 344 9 ≤ 5 := gi_g g476_ rfl
              rintro A1_ (⟨F511_, hA_, g512_, s513_, c508_, c509_, c510_⟩ | ⟨F517_, hA_, g518_, s519_, c514_, c515_, c516_⟩)
              ·
                subst hA_
                have g520_ : fs [(344, 344, 5, 5), (344, 344, 9, 10), (344, 344, 21, 21), (344, 344, 63, 63), (353, 363, 0, 100000)] F F511_ := fs_tr g499_ s513_ rfl
                have rk521_ : rk K F511_ := rk_fs rk500_ s513_ (fun r k h => (fs_n (by omega) (fs_n (by omega) rfl))) (fs_n (by omega) (fs_n (by omega) rfl))
                try simp only [e501_, e504_, e506_] at c509_
                have c509_s := c509_.1 (by omega)
                clear c509_
                have b522_ : 0 ≤ F511_ 344 9 ∧ F511_ 344 9 ≤ 5 := gi_g g512_ rfl
                have b523_ : 0 ≤ F511_ 344 10 ∧ F511_ 344 10 ≤ 600 := gi_g g512_ rfl
                have b524_ : 0 ≤ F511_ 344 5 ∧ F511_ 344 5 ≤ 600 := gi_g g512_ rfl
                have e525_ : F453_ 344 21 = F 344 21 := by rw [q454_]; exact (fl_u_ne (by omega)).trans ((fl_u_ne (by omega)).trans ((fl_u_ne (by omega)).trans ((fl_u_ne (by omega)).trans (e452_))))
                have e526_ : F475_ 344 21 = F 344 21 := (s477_ 344 21 rfl).trans (e525_)
                have e527_ : F496_ 344 21 = F 344 21 := by rw [q497_]; exact (fl_u_ne (by omega)).trans (e526_)
                have e528_ : F511_ 344 21 = F 344 21 := (s513_ 344 21 rfl).trans (e527_)
                exact fl_R_sub (lv' := [(3, .int (Int32.ofInt (F 344 21))), (0, .ref 344)]) rfl rfl (B142_ F511_ g512_ g520_ rk521_ (by omega) (by omega) (⟨by intro h0_; have hs_ := c509_s; rw [sp_a1, if_neg (by omega), sp_action]; rw [c277_]; simp only [pb_r]; rw [c300_]; simp only [pb_r]; rw [sp_new, if_pos (by omega), (ra_fi (by have x_ := (rpn_fs (rpn_fs (rpn_fs hal s281_ (fun _ => (fs_n (by omega) (fs_n (by omega) rfl))) (fs_n (by omega) (fs_n (by omega) rfl))) s304_ (fun _ => (fs_n (by omega) (fs_n (by omega) rfl))) (fs_n (by omega) (fs_n (by omega) rfl))) s332_ (fun _ => (fs_n (by omega) rfl)) (fs_n (by omega) rfl)); rw [e373_] at x_; exact x_) c326_ c375_ c376_ c377_), if_pos (by omega), (show sk K (F302_ 344 5) = F302_ 344 5 + 1 by rw [sk, if_pos (by omega)])]; simp only [pb_r]; rw [c408_]; simp only [pb_r]; rw [c431_]; simp only [pb_r]; rw [sp1_ok ct1_]; simp only [pb_r]; rw [hs_]; try (show Sum.inl _ = _); try (congr 2 <;> omega), fun h0_ => by exfalso; omega⟩) (by omega))
              subst hA_
              have g529_ : fs [(344, 344, 5, 5), (344, 344, 9, 10), (344, 344, 21, 21), (344, 344, 63, 63), (353, 363, 0, 100000)] F F517_ := fs_tr g499_ s519_ rfl
              have rk530_ : rk K F517_ := rk_fs rk500_ s519_ (fun r k h => (fs_n (by omega) (fs_n (by omega) rfl))) (fs_n (by omega) (fs_n (by omega) rfl))
              try simp only [e506_] at c514_
              try simp only [e501_] at c515_
              refine ga_aload_n (v := .ref 344) hm_173 rfl rfl rfl ?_
              refine fl_bipush hm_173 rfl rfl ?_
              have b531_ : 0 ≤ F517_ 344 5 ∧ F517_ 344 5 ≤ 600 := gi_g g518_ rfl
              refine gVi (nY := 4) (F := 1) (L := 21) (As := [.int (Int32.ofInt 6)]) (b := 344) (rest := []) hm_173 rfl hm_56 rfl rfl (fl_ob sc_344) rfl rfl rfl rfl rfl (by omega) (by omega) (mc_56 hG F517_ X g518_ (K) (6) ([58, 112, 114, 101, 99, 111, 110, 100, 105, 116, 105, 111, 110]) hgK rk530_ hkt (by omega) (by omega) (by decide) (kw_6 rk530_)) (fun _ _ h => False.elim h) ?_
              have b533_ : 0 ≤ F517_ 344 9 ∧ F517_ 344 9 ≤ 5 := gi_g g518_ rfl
              rintro z532_ A1_ (⟨hA_, hz_, c534_⟩ | ⟨hA_, hz_, c535_, c536_⟩)
              ·
                subst hA_
                subst hz_
                refine fl_if_eq hm_173 rfl ⟨by omega, by omega⟩ (fun _ => ?_) (fun h => absurd (by omega) h)
                refine ga_aload_n (v := .ref 344) hm_173 rfl rfl rfl ?_
                refine fl_bipush hm_173 rfl rfl ?_
                refine gVv (nY := 2) (F := 2) (L := 44) (As := [.int (Int32.ofInt 7)]) (b := 344) (rest := []) hm_173 rfl hm_55 rfl rfl (fl_ob sc_344) rfl rfl rfl rfl rfl (by omega) (by omega) (mc_55 hG F517_ X g518_ (K) (7) ([58, 101, 102, 102, 101, 99, 116]) hgK rk530_ hkt (by omega) (by omega) (by decide) (kw_7 rk530_)) (fun _ _ h => False.elim h) ?_
                have b538_ : 0 ≤ F517_ 344 10 ∧ F517_ 344 10 ≤ 600 := gi_g g518_ rfl
                rintro A1_ (⟨F542_, hA_, g543_, s544_, c539_, c540_, c541_⟩ | ⟨F548_, hA_, g549_, s550_, c545_, c546_, c547_⟩)
                ·
                  subst hA_
                  have g551_ : fs [(344, 344, 5, 5), (344, 344, 9, 10), (344, 344, 21, 21), (344, 344, 63, 63), (353, 363, 0, 100000)] F F542_ := fs_tr g529_ s544_ rfl
                  have rk552_ : rk K F542_ := rk_fs rk530_ s544_ (fun r k h => (fs_n (by omega) (fs_n (by omega) rfl))) (fs_n (by omega) (fs_n (by omega) rfl))
                  have c540_s := c540_.1 (by omega)
                  clear c540_
                  have b553_ : 0 ≤ F542_ 344 9 ∧ F542_ 344 9 ≤ 5 := gi_g g543_ rfl
                  have b554_ : 0 ≤ F542_ 344 10 ∧ F542_ 344 10 ≤ 600 := gi_g g543_ rfl
                  have b555_ : 0 ≤ F542_ 344 5 ∧ F542_ 344 5 ≤ 600 := gi_g g543_ rfl
                  have e556_ : F453_ 344 21 = F 344 21 := by rw [q454_]; exact (fl_u_ne (by omega)).trans ((fl_u_ne (by omega)).trans ((fl_u_ne (by omega)).trans ((fl_u_ne (by omega)).trans (e452_))))
                  have e557_ : F475_ 344 21 = F 344 21 := (s477_ 344 21 rfl).trans (e556_)
                  have e558_ : F496_ 344 21 = F 344 21 := by rw [q497_]; exact (fl_u_ne (by omega)).trans (e557_)
                  have e559_ : F517_ 344 21 = F 344 21 := (s519_ 344 21 rfl).trans (e558_)
                  have e560_ : F542_ 344 21 = F 344 21 := (s544_ 344 21 rfl).trans (e559_)
                  exact fl_R_sub (lv' := [(3, .int (Int32.ofInt (F 344 21))), (0, .ref 344)]) rfl rfl (B176_ F542_ g543_ g551_ rk552_ (by omega) (by omega) (⟨by intro h0_; have hs_ := c540_s; rw [sp_a1, if_neg (by omega), sp_action]; rw [c277_]; simp only [pb_r]; rw [c300_]; simp only [pb_r]; rw [sp_new, if_pos (by omega), (ra_fi (by have x_ := (rpn_fs (rpn_fs (rpn_fs hal s281_ (fun _ => (fs_n (by omega) (fs_n (by omega) rfl))) (fs_n (by omega) (fs_n (by omega) rfl))) s304_ (fun _ => (fs_n (by omega) (fs_n (by omega) rfl))) (fs_n (by omega) (fs_n (by omega) rfl))) s332_ (fun _ => (fs_n (by omega) rfl)) (fs_n (by omega) rfl)); rw [e373_] at x_; exact x_) c326_ c375_ c376_ c377_), if_pos (by omega), (show sk K (F302_ 344 5) = F302_ 344 5 + 1 by rw [sk, if_pos (by omega)])]; simp only [pb_r]; rw [c408_]; simp only [pb_r]; rw [c431_]; simp only [pb_r]; rw [sp1_ok ct1_]; simp only [pb_r]; rw [c515_]; simp only [pb_r]; rw [if_neg (fun h8_ => c534_ ⟨by omega, h8_⟩)]; simp only [pb_r]; rw [hs_]; try (show Sum.inl _ = _); try (congr 2 <;> omega), fun h0_ => by exfalso; omega⟩) (by omega))
                subst hA_
                have g561_ : fs [(344, 344, 5, 5), (344, 344, 9, 10), (344, 344, 21, 21), (344, 344, 63, 63), (353, 363, 0, 100000)] F F548_ := fs_tr g529_ s550_ rfl
                have rk562_ : rk K F548_ := rk_fs rk530_ s550_ (fun r k h => (fs_n (by omega) (fs_n (by omega) rfl))) (fs_n (by omega) (fs_n (by omega) rfl))
                refine ga_aload_n (v := .ref 344) hm_173 rfl rfl rfl ?_
                refine ga_iload_n (z := F 344 21) hm_173 rfl rfl ?_
                have b563_ : 0 ≤ F548_ 344 5 ∧ F548_ 344 5 ≤ 600 := gi_g g549_ rfl
                have e564_ : F496_ 354 (F 344 21).toNat = z460_ := by rw [q497_]; exact fl_u_eq
                have e565_ : F517_ 354 (F 344 21).toNat = z460_ := (s519_ 354 (F 344 21).toNat (fs_n (by omega) (fs_n (by omega) rfl))).trans (e564_)
                have e566_ : F548_ 354 (F 344 21).toNat = z460_ := (s550_ 354 (F 344 21).toNat (fs_n (by omega) (fs_n (by omega) rfl))).trans (e565_)
                have e567_ : F453_ 359 (F 344 21).toNat = 0 := by rw [q454_]; exact fl_u_eq
                have e568_ : F475_ 359 (F 344 21).toNat = 0 := (s477_ 359 (F 344 21).toNat (fs_n (by omega) (fs_n (by omega) (fs_n (by omega) rfl)))).trans (e567_)
                have e569_ : F496_ 359 (F 344 21).toNat = 0 := by rw [q497_]; exact (fl_u_ne (by omega)).trans (e568_)
                have e570_ : F517_ 359 (F 344 21).toNat = 0 := (s519_ 359 (F 344 21).toNat (fs_n (by omega) (fs_n (by omega) rfl))).trans (e569_)
                have e571_ : F548_ 359 (F 344 21).toNat = 0 := (s550_ 359 (F 344 21).toNat (fs_n (by omega) (fs_n (by omega) rfl))).trans (e570_)
                refine gVv (nY := 4) (F := 6) (L := 140) (As := [.int (Int32.ofInt (F 344 21))]) (b := 344) (rest := []) hm_173 rfl hm_176 rfl rfl (fl_ob sc_344) rfl rfl rfl rfl rfl (by omega) (by omega) (mc_176 hG F548_ X g549_ (K) (F 344 21) (3) (l2_) (tl2_) (pl) (ps) hgK rk562_ hkt (by omega) (fun _ => ⟨Or.inr ⟨by omega, rfl, (by rw [show F548_ 354 (F 344 21).toNat = z460_ from e566_]; exact rpn_cg ct5_ (fun j hj => (Eq.trans (a := F548_ 356 ((3 * F 344 21).toNat + j)) (b := F517_ 356 ((3 * F 344 21).toNat + j)) (s550_ 356 ((3 * F 344 21).toNat + j) (fs_n (by omega) (fs_n (by omega) rfl))) (Eq.trans (a := F517_ 356 ((3 * F 344 21).toNat + j)) (b := F496_ 356 ((3 * F 344 21).toNat + j)) (s519_ 356 ((3 * F 344 21).toNat + j) (fs_n (by omega) (fs_n (by omega) rfl))) (show F496_ 356 ((3 * F 344 21).toNat + j) = F475_ 356 ((3 * F 344 21).toNat + j) from (by rw [q497_]; exact (fl_u_ne (by omega)))))))), rty_cg ct4_ (fun j hj => (Eq.trans (a := F548_ 355 ((3 * F 344 21).toNat + j)) (b := F517_ 355 ((3 * F 344 21).toNat + j)) (s550_ 355 ((3 * F 344 21).toNat + j) (fs_n (by omega) (fs_n (by omega) rfl))) (Eq.trans (a := F517_ 355 ((3 * F 344 21).toNat + j)) (b := F496_ 355 ((3 * F 344 21).toNat + j)) (s519_ 355 ((3 * F 344 21).toNat + j) (fs_n (by omega) (fs_n (by omega) rfl))) (show F496_ 355 ((3 * F 344 21).toNat + j) = F475_ 355 ((3 * F 344 21).toNat + j) from (by rw [q497_]; exact (fl_u_ne (by omega)))))))⟩, ct6_⟩) (by omega) ((rpn_fs (rpn_fs (by rw [q497_]; exact (rpn_u (rpn_fs (by rw [q454_]; exact (rpn_u (rpn_u (rpn_u (rpn_u (rpn_fs (rpn_fs (by rw [q392_]; exact (rpn_u (rpn_fs (rpn_fs (rpn_fs hpl s281_ (fun _ => (fs_n (by omega) (fs_n (by omega) rfl))) (fs_n (by omega) (fs_n (by omega) rfl))) s304_ (fun _ => (fs_n (by omega) (fs_n (by omega) rfl))) (fs_n (by omega) (fs_n (by omega) rfl))) s332_ (fun _ => (fs_n (by omega) rfl)) (fs_n (by omega) rfl)) (by omega) (by omega))) s412_ (fun _ => (fs_n (by omega) (fs_n (by omega) rfl))) (fs_n (by omega) (fs_n (by omega) rfl))) s435_ (fun _ => (fs_n (by omega) (fs_n (by omega) rfl))) (fs_n (by omega) (fs_n (by omega) rfl))) (by omega) (by omega)) (by omega) (by omega)) (by omega) (by omega)) (by omega) (by omega))) s477_ (fun _ => (fs_n (by omega) (fs_n (by omega) (fs_n (by omega) rfl)))) (fs_n (by omega) (fs_n (by omega) (fs_n (by omega) rfl)))) (by omega) (by omega))) s519_ (fun _ => (fs_n (by omega) (fs_n (by omega) rfl))) (fs_n (by omega) (fs_n (by omega) rfl))) s550_ (fun _ => (fs_n (by omega) (fs_n (by omega) rfl))) (fs_n (by omega) (fs_n (by omega) rfl)))) (⟨(rprd_fs (rprd_fs (by rw [q497_]; exact (rprd_u (rprd_fs (by rw [q454_]; exact (rprd_u (rprd_u (rprd_u (rprd_u (rprd_fs (rprd_fs (by rw [q392_]; exact (rprd_u (rprd_fs (rprd_fs (rprd_fs hps.1 s281_ (fun r j hj => (fs_n (by omega) (fs_n (by omega) rfl)))) s304_ (fun r j hj => (fs_n (by omega) (fs_n (by omega) rfl)))) s332_ (fun r j hj => (fs_n (by omega) rfl))) (by omega))) s412_ (fun r j hj => (fs_n (by omega) (fs_n (by omega) rfl)))) s435_ (fun r j hj => (fs_n (by omega) (fs_n (by omega) rfl)))) (by omega)) (by omega)) (by omega)) (by omega))) s477_ (fun r j hj => (fs_n (by omega) (fs_n (by omega) (fs_n (by omega) rfl))))) (by omega))) s519_ (fun r j hj => (fs_n (by omega) (fs_n (by omega) rfl)))) s550_ (fun r j hj => (fs_n (by omega) (fs_n (by omega) rfl)))), hps.2⟩) (fun _ => e571_)) (fun _ _ h => False.elim h) ?_
                have b573_ : 0 ≤ F548_ 344 10 ∧ F548_ 344 10 ≤ 600 := gi_g g549_ rfl
                have b574_ : 0 ≤ F548_ 344 9 ∧ F548_ 344 9 ≤ 5 := gi_g g549_ rfl
                rintro A1_ (⟨F578_, hA_, g579_, s580_, c575_, c576_, c577_⟩ | ⟨F584_, hA_, g585_, s586_, c581_, c582_, c583_⟩)
                ·
                  subst hA_
                  have g587_ : fs [(344, 344, 5, 5), (344, 344, 9, 10), (344, 344, 21, 21), (344, 344, 63, 63), (353, 363, 0, 100000)] F F578_ := fs_tr g561_ s580_ rfl
                  have rk588_ : rk K F578_ := rk_fs rk562_ s580_ (fun r k h => (fs_n (by omega) (fs_n (by omega) (fs_n (by omega) (fs_n (by omega) (fs_n (by omega) rfl)))))) (fs_n (by omega) (fs_n (by omega) (fs_n (by omega) (fs_n (by omega) (fs_n (by omega) rfl)))))
                  have c576_s := c576_.1 (by omega)
                  clear c576_
                  try obtain ⟨c2_, ce1_⟩ := c576_s
                  have b589_ : 0 ≤ F578_ 344 9 ∧ F578_ 344 9 ≤ 5 := gi_g g579_ rfl
                  have b590_ : 0 ≤ F578_ 344 10 ∧ F578_ 344 10 ≤ 600 := gi_g g579_ rfl
                  have b591_ : 0 ≤ F578_ 344 5 ∧ F578_ 344 5 ≤ 600 := gi_g g579_ rfl
                  have e592_ : F453_ 344 21 = F 344 21 := by rw [q454_]; exact (fl_u_ne (by omega)).trans ((fl_u_ne (by omega)).trans ((fl_u_ne (by omega)).trans ((fl_u_ne (by omega)).trans (e452_))))
                  have e593_ : F475_ 344 21 = F 344 21 := (s477_ 344 21 rfl).trans (e592_)
                  have e594_ : F496_ 344 21 = F 344 21 := by rw [q497_]; exact (fl_u_ne (by omega)).trans (e593_)
                  have e595_ : F517_ 344 21 = F 344 21 := (s519_ 344 21 rfl).trans (e594_)
                  have e596_ : F548_ 344 21 = F 344 21 := (s550_ 344 21 rfl).trans (e595_)
                  have e597_ : F578_ 344 21 = F 344 21 := (s580_ 344 21 rfl).trans (e596_)
                  exact fl_R_sub (lv' := [(3, .int (Int32.ofInt (F 344 21))), (0, .ref 344)]) rfl rfl (B181_ F578_ g579_ g587_ rk588_ (by omega) (by omega) (⟨by intro h0_; have hs_ := c576_s; rw [sp_a1, if_neg (by omega), sp_action]; rw [c277_]; simp only [pb_r]; rw [c300_]; simp only [pb_r]; rw [sp_new, if_pos (by omega), (ra_fi (by have x_ := (rpn_fs (rpn_fs (rpn_fs hal s281_ (fun _ => (fs_n (by omega) (fs_n (by omega) rfl))) (fs_n (by omega) (fs_n (by omega) rfl))) s304_ (fun _ => (fs_n (by omega) (fs_n (by omega) rfl))) (fs_n (by omega) (fs_n (by omega) rfl))) s332_ (fun _ => (fs_n (by omega) rfl)) (fs_n (by omega) rfl)); rw [e373_] at x_; exact x_) c326_ c375_ c376_ c377_), if_pos (by omega), (show sk K (F302_ 344 5) = F302_ 344 5 + 1 by rw [sk, if_pos (by omega)])]; simp only [pb_r]; rw [c408_]; simp only [pb_r]; rw [c431_]; simp only [pb_r]; rw [sp1_ok ct1_]; simp only [pb_r]; rw [c515_]; simp only [pb_r]; rw [if_neg (fun h8_ => c534_ ⟨by omega, h8_⟩)]; simp only [pb_r]; rw [c546_]; simp only [pb_r]; rw [hs_]; try (show Sum.inl _ = _); try (congr 2 <;> omega), fun h0_ => by exfalso; omega⟩) (by omega))
                subst hA_
                have g598_ : fs [(344, 344, 5, 5), (344, 344, 9, 10), (344, 344, 21, 21), (344, 344, 63, 63), (353, 363, 0, 100000)] F F584_ := fs_tr g561_ s586_ rfl
                have rk599_ : rk K F584_ := rk_fs rk562_ s586_ (fun r k h => (fs_n (by omega) (fs_n (by omega) (fs_n (by omega) (fs_n (by omega) (fs_n (by omega) rfl)))))) (fs_n (by omega) (fs_n (by omega) (fs_n (by omega) (fs_n (by omega) (fs_n (by omega) rfl)))))
                try obtain ⟨c2_, ce1_⟩ := c582_
                refine ga_aload_n (v := .ref 344) hm_173 rfl rfl rfl ?_
                refine fl_bipush hm_173 rfl rfl ?_
                have b600_ : 0 ≤ F584_ 344 5 ∧ F584_ 344 5 ≤ 600 := gi_g g585_ rfl
                refine gVv (nY := 2) (F := 2) (L := 41) (As := [.int (Int32.ofInt 41)]) (b := 344) (rest := []) hm_173 rfl hm_51 rfl rfl (fl_ob sc_344) rfl rfl rfl rfl rfl (by omega) (by omega) (mc_51 hG F584_ X g585_ (K) (41) (1) hgK rk599_ hkt (by omega) (by omega) (by omega)) (fun _ _ h => False.elim h) ?_
                have b602_ : 0 ≤ F584_ 344 10 ∧ F584_ 344 10 ≤ 600 := gi_g g585_ rfl
                have b603_ : 0 ≤ F584_ 344 9 ∧ F584_ 344 9 ≤ 5 := gi_g g585_ rfl
                rintro A1_ (⟨F607_, hA_, g608_, s609_, c604_, c605_, c606_⟩ | ⟨F613_, hA_, g614_, s615_, c610_, c611_, c612_⟩)
                ·
                  subst hA_
                  have g616_ : fs [(344, 344, 5, 5), (344, 344, 9, 10), (344, 344, 21, 21), (344, 344, 63, 63), (353, 363, 0, 100000)] F F607_ := fs_tr g598_ s609_ rfl
                  have rk617_ : rk K F607_ := rk_fs rk599_ s609_ (fun r k h => (fs_n (by omega) (fs_n (by omega) rfl))) (fs_n (by omega) (fs_n (by omega) rfl))
                  have c605_s := c605_.1 (by omega)
                  clear c605_
                  have b618_ : 0 ≤ F607_ 344 9 ∧ F607_ 344 9 ≤ 5 := gi_g g608_ rfl
                  have b619_ : 0 ≤ F607_ 344 10 ∧ F607_ 344 10 ≤ 600 := gi_g g608_ rfl
                  have b620_ : 0 ≤ F607_ 344 5 ∧ F607_ 344 5 ≤ 600 := gi_g g608_ rfl
                  have e621_ : F453_ 344 21 = F 344 21 := by rw [q454_]; exact (fl_u_ne (by omega)).trans ((fl_u_ne (by omega)).trans ((fl_u_ne (by omega)).trans ((fl_u_ne (by omega)).trans (e452_))))
                  have e622_ : F475_ 344 21 = F 344 21 := (s477_ 344 21 rfl).trans (e621_)
                  have e623_ : F496_ 344 21 = F 344 21 := by rw [q497_]; exact (fl_u_ne (by omega)).trans (e622_)
                  have e624_ : F517_ 344 21 = F 344 21 := (s519_ 344 21 rfl).trans (e623_)
                  have e625_ : F548_ 344 21 = F 344 21 := (s550_ 344 21 rfl).trans (e624_)
                  have e626_ : F584_ 344 21 = F 344 21 := (s586_ 344 21 rfl).trans (e625_)
                  have e627_ : F607_ 344 21 = F 344 21 := (s609_ 344 21 rfl).trans (e626_)
                  exact fl_R_sub (lv' := [(3, .int (Int32.ofInt (F 344 21))), (0, .ref 344)]) rfl rfl (B187_ F607_ g608_ g616_ rk617_ (by omega) (by omega) (⟨by intro h0_; have hs_ := c605_s; rw [sp_a1, if_neg (by omega), sp_action]; rw [c277_]; simp only [pb_r]; rw [c300_]; simp only [pb_r]; rw [sp_new, if_pos (by omega), (ra_fi (by have x_ := (rpn_fs (rpn_fs (rpn_fs hal s281_ (fun _ => (fs_n (by omega) (fs_n (by omega) rfl))) (fs_n (by omega) (fs_n (by omega) rfl))) s304_ (fun _ => (fs_n (by omega) (fs_n (by omega) rfl))) (fs_n (by omega) (fs_n (by omega) rfl))) s332_ (fun _ => (fs_n (by omega) rfl)) (fs_n (by omega) rfl)); rw [e373_] at x_; exact x_) c326_ c375_ c376_ c377_), if_pos (by omega), (show sk K (F302_ 344 5) = F302_ 344 5 + 1 by rw [sk, if_pos (by omega)])]; simp only [pb_r]; rw [c408_]; simp only [pb_r]; rw [c431_]; simp only [pb_r]; rw [sp1_ok ct1_]; simp only [pb_r]; rw [c515_]; simp only [pb_r]; rw [if_neg (fun h8_ => c534_ ⟨by omega, h8_⟩)]; simp only [pb_r]; rw [c546_]; simp only [pb_r]; rw [ce1_]; simp only [pb_r]; rw [hs_]; try (show Sum.inl _ = _); try (congr 2 <;> omega), fun h0_ => by exfalso; omega⟩) (by omega))
                subst hA_
                have g628_ : fs [(344, 344, 5, 5), (344, 344, 9, 10), (344, 344, 21, 21), (344, 344, 63, 63), (353, 363, 0, 100000)] F F613_ := fs_tr g598_ s615_ rfl
                have rk629_ : rk K F613_ := rk_fs rk599_ s615_ (fun r k h => (fs_n (by omega) (fs_n (by omega) rfl))) (fs_n (by omega) (fs_n (by omega) rfl))
                refine ga_aload_n (v := .ref 344) hm_173 rfl rfl rfl ?_
                refine ga_dup hm_173 rfl rfl ?_
                have e630_ : F453_ 344 21 = F 344 21 := by rw [q454_]; exact (fl_u_ne (by omega)).trans ((fl_u_ne (by omega)).trans ((fl_u_ne (by omega)).trans ((fl_u_ne (by omega)).trans (e452_))))
                have e631_ : F475_ 344 21 = F 344 21 := (s477_ 344 21 rfl).trans (e630_)
                have e632_ : F496_ 344 21 = F 344 21 := by rw [q497_]; exact (fl_u_ne (by omega)).trans (e631_)
                have e633_ : F517_ 344 21 = F 344 21 := (s519_ 344 21 rfl).trans (e632_)
                have e634_ : F548_ 344 21 = F 344 21 := (s550_ 344 21 rfl).trans (e633_)
                have e635_ : F584_ 344 21 = F 344 21 := (s586_ 344 21 rfl).trans (e634_)
                have e636_ : F613_ 344 21 = F 344 21 := (s615_ 344 21 rfl).trans (e635_)
                refine ga_geti (z := F 344 21) hm_173 rfl sc_344 rfl (e636_) ?_
                refine fl_iconst hm_173 rfl ?_
                refine ga_iadd (a := F 344 21) (b := 1) (c := F 344 21 + 1) hm_173 rfl (by omega) ?_
                refine ga_puti (z := F 344 21 + 1) hm_173 rfl sc_344 rfl rfl ?_
                obtain ⟨F637_, q638_⟩ : ∃ F9_, F9_ = (fl_u F613_ 344 21 (F 344 21 + 1)) := ⟨_, rfl⟩
                rw [← q638_]
                have g639_ : gi F637_ := by rw [q638_]; exact gi_u (g614_) rfl (by omega) (by omega)
                have g640_ : fs [(344, 344, 5, 5), (344, 344, 9, 10), (344, 344, 21, 21), (344, 344, 63, 63), (353, 363, 0, 100000)] F F637_ := by rw [q638_]; exact fs_u (g628_) rfl
                have rk641_ : rk K F637_ := by rw [q638_]; exact rk_u (rk629_) (by omega) (by omega)
                refine gr_v hm_173 rfl rfl ?_
                have e642_ : F637_ 344 9 = F613_ 344 9 := by rw [q638_]; exact fl_u_ne (by omega)
                have b643_ : 0 ≤ F613_ 344 9 ∧ F613_ 344 9 ≤ 5 := gi_g g614_ rfl
                have e644_ : F637_ 344 10 = F613_ 344 10 := by rw [q638_]; exact fl_u_ne (by omega)
                have e645_ : F637_ 344 5 = F613_ 344 5 := by rw [q638_]; exact fl_u_ne (by omega)
                have e646_ : F637_ 344 21 = F 344 21 + 1 := by rw [q638_]; exact fl_u_eq
                have b647_ : 0 ≤ F613_ 344 5 ∧ F613_ 344 5 ≤ 600 := gi_g g614_ rfl
                have e648_ : F453_ 353 (F 344 21).toNat = z313_ := by rw [q454_]; exact (fl_u_ne (by omega)).trans ((fl_u_ne (by omega)).trans ((fl_u_ne (by omega)).trans (fl_u_eq)))
                have e649_ : F475_ 353 (F 344 21).toNat = z313_ := (s477_ 353 (F 344 21).toNat (fs_n (by omega) (fs_n (by omega) (fs_n (by omega) rfl)))).trans (e648_)
                have e650_ : F496_ 353 (F 344 21).toNat = z313_ := by rw [q497_]; exact (fl_u_ne (by omega)).trans (e649_)
                have e651_ : F517_ 353 (F 344 21).toNat = z313_ := (s519_ 353 (F 344 21).toNat (fs_n (by omega) (fs_n (by omega) rfl))).trans (e650_)
                have e652_ : F548_ 353 (F 344 21).toNat = z313_ := (s550_ 353 (F 344 21).toNat (fs_n (by omega) (fs_n (by omega) rfl))).trans (e651_)
                have e653_ : F584_ 353 (F 344 21).toNat = z313_ := (s586_ 353 (F 344 21).toNat (fs_n (by omega) (fs_n (by omega) (fs_n (by omega) (fs_n (by omega) (fs_n (by omega) rfl)))))).trans (e652_)
                have e654_ : F613_ 353 (F 344 21).toNat = z313_ := (s615_ 353 (F 344 21).toNat (fs_n (by omega) (fs_n (by omega) rfl))).trans (e653_)
                have e655_ : F637_ 353 (F 344 21).toNat = z313_ := by rw [q638_]; exact (fl_u_ne (by omega)).trans (e654_)
                exact Or.inr (⟨F637_, rfl, g639_, g640_, (by omega), (⟨K 6 (F302_ 344 5).toNat, by rw [sp_a1, if_neg (by omega), sp_action]; rw [c277_]; simp only [pb_r]; rw [c300_]; simp only [pb_r]; rw [sp_new, if_pos (by omega), (ra_fi (by have x_ := (rpn_fs (rpn_fs (rpn_fs hal s281_ (fun _ => (fs_n (by omega) (fs_n (by omega) rfl))) (fs_n (by omega) (fs_n (by omega) rfl))) s304_ (fun _ => (fs_n (by omega) (fs_n (by omega) rfl))) (fs_n (by omega) (fs_n (by omega) rfl))) s332_ (fun _ => (fs_n (by omega) rfl)) (fs_n (by omega) rfl)); rw [e373_] at x_; exact x_) c326_ c375_ c376_ c377_), if_pos (by omega), (show sk K (F302_ 344 5) = F302_ 344 5 + 1 by rw [sk, if_pos (by omega)])]; simp only [pb_r]; rw [c408_]; simp only [pb_r]; rw [c431_]; simp only [pb_r]; rw [sp1_ok ct1_]; simp only [pb_r]; rw [c515_]; simp only [pb_r]; rw [if_neg (fun h8_ => c534_ ⟨by omega, h8_⟩)]; simp only [pb_r]; rw [c546_]; simp only [pb_r]; rw [ce1_]; simp only [pb_r]; rw [c611_]; simp only [pb_r]; try (congr 2 <;> omega), by rw [e646_]; exact rpn_at hal (fun j hj => (Eq.trans (a := F637_ 353 j) (b := F613_ 353 j) (by rw [q638_]; exact (fl_u_ne (by omega))) (Eq.trans (a := F613_ 353 j) (b := F584_ 353 j) (s615_ 353 j (fs_n (by omega) (fs_n (by omega) rfl))) (Eq.trans (a := F584_ 353 j) (b := F548_ 353 j) (s586_ 353 j (fs_n (by omega) (fs_n (by omega) (fs_n (by omega) (fs_n (by omega) (fs_n (by omega) rfl)))))) (Eq.trans (a := F548_ 353 j) (b := F517_ 353 j) (s550_ 353 j (fs_n (by omega) (fs_n (by omega) rfl))) (Eq.trans (a := F517_ 353 j) (b := F496_ 353 j) (s519_ 353 j (fs_n (by omega) (fs_n (by omega) rfl))) (Eq.trans (a := F496_ 353 j) (b := F475_ 353 j) (by rw [q497_]; exact (fl_u_ne (by omega))) (Eq.trans (a := F475_ 353 j) (b := F453_ 353 j) (s477_ 353 j (fs_n (by omega) (fs_n (by omega) (fs_n (by omega) rfl)))) (Eq.trans (a := F453_ 353 j) (b := F433_ 353 j) (by rw [q454_]; exact (fl_u_ne (by omega)).trans ((fl_u_ne (by omega)).trans ((fl_u_ne (by omega)).trans ((fl_u_ne (by omega)))))) (Eq.trans (a := F433_ 353 j) (b := F410_ 353 j) (s435_ 353 j (fs_n (by omega) (fs_n (by omega) rfl))) (Eq.trans (a := F410_ 353 j) (b := F391_ 353 j) (s412_ 353 j (fs_n (by omega) (fs_n (by omega) rfl))) (Eq.trans (a := F391_ 353 j) (b := F330_ 353 j) (by rw [q392_]; exact (fl_u_ne (by omega))) (Eq.trans (a := F330_ 353 j) (b := F302_ 353 j) (s332_ 353 j (fs_n (by omega) rfl)) (Eq.trans (a := F302_ 353 j) (b := F279_ 353 j) (s304_ 353 j (fs_n (by omega) (fs_n (by omega) rfl))) (show F279_ 353 j = F 353 j from (s281_ 353 j (fs_n (by omega) (fs_n (by omega) rfl)))))))))))))))))) (e655_) c326_⟩), (by omega)⟩)
              subst hA_
              subst hz_
              refine fl_if_eq hm_173 rfl ⟨by omega, by omega⟩ (fun h => absurd h (by omega)) (fun _ => ?_)
              have hszW := (kw_iff (w := [58, 112, 114, 101, 99, 111, 110, 100, 105, 116, 105, 111, 110]) hkt hgK (p := F517_ 344 5) (by omega) (by omega) (by decide) (by decide)).mp c535_.2
              refine ga_aload_n (v := .ref 344) hm_173 rfl rfl rfl ?_
              refine ga_dup hm_173 rfl rfl ?_
              refine ga_geti (z := F517_ 344 5) hm_173 rfl sc_344 rfl (rfl) ?_
              refine fl_iconst hm_173 rfl ?_
              refine ga_iadd (a := F517_ 344 5) (b := 1) (c := F517_ 344 5 + 1) hm_173 rfl (by omega) ?_
              refine ga_puti (z := F517_ 344 5 + 1) hm_173 rfl sc_344 rfl rfl ?_
              refine ga_aload_n (v := .ref 344) hm_173 rfl rfl rfl ?_
              refine ga_iload_n (z := F 344 21) hm_173 rfl rfl ?_
              refine fl_bipush hm_173 rfl rfl ?_
              refine ga_iload_n (z := F 344 21) hm_173 rfl rfl ?_
              refine ga_imul (a := 8) (b := F 344 21) (c := 8 * (F 344 21)) hm_173 rfl (by omega) ?_
              obtain ⟨F656_, q657_⟩ : ∃ F9_, F9_ = (fl_u F517_ 344 5 (F517_ 344 5 + 1)) := ⟨_, rfl⟩
              rw [← q657_]
              have g658_ : gi F656_ := by rw [q657_]; exact gi_u (g518_) rfl (by omega) (by omega)
              have g659_ : fs [(344, 344, 5, 5), (344, 344, 9, 10), (344, 344, 21, 21), (344, 344, 63, 63), (353, 363, 0, 100000)] F F656_ := by rw [q657_]; exact fs_u (g529_) rfl
              have rk660_ : rk K F656_ := by rw [q657_]; exact rk_u (rk530_) (by omega) (by omega)
              have e661_ : F656_ 344 5 = F517_ 344 5 + 1 := by rw [q657_]; exact fl_u_eq
              have e662_ : F496_ 354 (F 344 21).toNat = z460_ := by rw [q497_]; exact fl_u_eq
              have e663_ : F517_ 354 (F 344 21).toNat = z460_ := (s519_ 354 (F 344 21).toNat (fs_n (by omega) (fs_n (by omega) rfl))).trans (e662_)
              have e664_ : F656_ 354 (F 344 21).toNat = z460_ := by rw [q657_]; exact (fl_u_ne (by omega)).trans (e663_)
              have e665_ : F453_ 358 (F 344 21).toNat = 0 := by rw [q454_]; exact (fl_u_ne (by omega)).trans (fl_u_eq)
              have e666_ : F475_ 358 (F 344 21).toNat = 0 := (s477_ 358 (F 344 21).toNat (fs_n (by omega) (fs_n (by omega) (fs_n (by omega) rfl)))).trans (e665_)
              have e667_ : F496_ 358 (F 344 21).toNat = 0 := by rw [q497_]; exact (fl_u_ne (by omega)).trans (e666_)
              have e668_ : F517_ 358 (F 344 21).toNat = 0 := (s519_ 358 (F 344 21).toNat (fs_n (by omega) (fs_n (by omega) rfl))).trans (e667_)
              have e669_ : F656_ 358 (F 344 21).toNat = 0 := by rw [q657_]; exact (fl_u_ne (by omega)).trans (e668_)
              refine gVv (nY := 4) (F := 6) (L := 142) (As := [.int (Int32.ofInt (F 344 21)), .int (Int32.ofInt (8 * (F 344 21)))]) (b := 344) (rest := []) hm_173 rfl hm_175 rfl rfl (fl_ob sc_344) rfl rfl rfl rfl rfl (by omega) (by omega) (mc_175 hG F656_ X g658_ (K) (F 344 21) (8 * (F 344 21)) (3) (l2_) (tl2_) (pl) (ps) hgK rk660_ hkt (by omega) (Or.inr ⟨by omega, rfl, (by rw [show F656_ 354 (F 344 21).toNat = z460_ from e664_]; exact rpn_cg ct5_ (fun j hj => (Eq.trans (a := F656_ 356 ((3 * F 344 21).toNat + j)) (b := F517_ 356 ((3 * F 344 21).toNat + j)) (by rw [q657_]; exact (fl_u_ne (by omega))) (Eq.trans (a := F517_ 356 ((3 * F 344 21).toNat + j)) (b := F496_ 356 ((3 * F 344 21).toNat + j)) (s519_ 356 ((3 * F 344 21).toNat + j) (fs_n (by omega) (fs_n (by omega) rfl))) (show F496_ 356 ((3 * F 344 21).toNat + j) = F475_ 356 ((3 * F 344 21).toNat + j) from (by rw [q497_]; exact (fl_u_ne (by omega)))))))), rty_cg ct4_ (fun j hj => (Eq.trans (a := F656_ 355 ((3 * F 344 21).toNat + j)) (b := F517_ 355 ((3 * F 344 21).toNat + j)) (by rw [q657_]; exact (fl_u_ne (by omega))) (Eq.trans (a := F517_ 355 ((3 * F 344 21).toNat + j)) (b := F496_ 355 ((3 * F 344 21).toNat + j)) (s519_ 355 ((3 * F 344 21).toNat + j) (fs_n (by omega) (fs_n (by omega) rfl))) (show F496_ 355 ((3 * F 344 21).toNat + j) = F475_ 355 ((3 * F 344 21).toNat + j) from (by rw [q497_]; exact (fl_u_ne (by omega)))))))⟩) (ct6_) (by omega) ((by rw [q657_]; exact (rpn_u (rpn_fs (by rw [q497_]; exact (rpn_u (rpn_fs (by rw [q454_]; exact (rpn_u (rpn_u (rpn_u (rpn_u (rpn_fs (rpn_fs (by rw [q392_]; exact (rpn_u (rpn_fs (rpn_fs (rpn_fs hpl s281_ (fun _ => (fs_n (by omega) (fs_n (by omega) rfl))) (fs_n (by omega) (fs_n (by omega) rfl))) s304_ (fun _ => (fs_n (by omega) (fs_n (by omega) rfl))) (fs_n (by omega) (fs_n (by omega) rfl))) s332_ (fun _ => (fs_n (by omega) rfl)) (fs_n (by omega) rfl)) (by omega) (by omega))) s412_ (fun _ => (fs_n (by omega) (fs_n (by omega) rfl))) (fs_n (by omega) (fs_n (by omega) rfl))) s435_ (fun _ => (fs_n (by omega) (fs_n (by omega) rfl))) (fs_n (by omega) (fs_n (by omega) rfl))) (by omega) (by omega)) (by omega) (by omega)) (by omega) (by omega)) (by omega) (by omega))) s477_ (fun _ => (fs_n (by omega) (fs_n (by omega) (fs_n (by omega) rfl)))) (fs_n (by omega) (fs_n (by omega) (fs_n (by omega) rfl)))) (by omega) (by omega))) s519_ (fun _ => (fs_n (by omega) (fs_n (by omega) rfl))) (fs_n (by omega) (fs_n (by omega) rfl))) (by omega) (by omega)))) (⟨(by rw [q657_]; exact (rprd_u (rprd_fs (by rw [q497_]; exact (rprd_u (rprd_fs (by rw [q454_]; exact (rprd_u (rprd_u (rprd_u (rprd_u (rprd_fs (rprd_fs (by rw [q392_]; exact (rprd_u (rprd_fs (rprd_fs (rprd_fs hps.1 s281_ (fun r j hj => (fs_n (by omega) (fs_n (by omega) rfl)))) s304_ (fun r j hj => (fs_n (by omega) (fs_n (by omega) rfl)))) s332_ (fun r j hj => (fs_n (by omega) rfl))) (by omega))) s412_ (fun r j hj => (fs_n (by omega) (fs_n (by omega) rfl)))) s435_ (fun r j hj => (fs_n (by omega) (fs_n (by omega) rfl)))) (by omega)) (by omega)) (by omega)) (by omega))) s477_ (fun r j hj => (fs_n (by omega) (fs_n (by omega) (fs_n (by omega) rfl))))) (by omega))) s519_ (fun r j hj => (fs_n (by omega) (fs_n (by omega) rfl)))) (by omega))), hps.2⟩) (by omega) (Or.inl (by omega)) (e669_)) (fun _ _ h => False.elim h) ?_
              have e671_ : F656_ 344 10 = F517_ 344 10 := by rw [q657_]; exact fl_u_ne (by omega)
              have b672_ : 0 ≤ F517_ 344 10 ∧ F517_ 344 10 ≤ 600 := gi_g g518_ rfl
              have e673_ : F656_ 344 9 = F517_ 344 9 := by rw [q657_]; exact fl_u_ne (by omega)
              rintro A1_ (⟨F677_, hA_, g678_, s679_, c674_, c675_, c676_⟩ | ⟨F683_, hA_, g684_, s685_, c680_, c681_, c682_⟩)
              ·
                subst hA_
                have g686_ : fs [(344, 344, 5, 5), (344, 344, 9, 10), (344, 344, 21, 21), (344, 344, 63, 63), (353, 363, 0, 100000)] F F677_ := fs_tr g659_ s679_ rfl
                have rk687_ : rk K F677_ := rk_fs rk660_ s679_ (fun r k h => (fs_n (by omega) (fs_n (by omega) (fs_n (by omega) (fs_n (by omega) rfl))))) (fs_n (by omega) (fs_n (by omega) (fs_n (by omega) (fs_n (by omega) rfl))))
                try simp only [e661_, e671_, e673_] at c675_
                have c675_s := c675_.1 (by omega)
                clear c675_
                have b688_ : 0 ≤ F677_ 344 9 ∧ F677_ 344 9 ≤ 5 := gi_g g678_ rfl
                have b689_ : 0 ≤ F677_ 344 10 ∧ F677_ 344 10 ≤ 600 := gi_g g678_ rfl
                have b690_ : 0 ≤ F677_ 344 5 ∧ F677_ 344 5 ≤ 600 := gi_g g678_ rfl
                have e691_ : F453_ 344 21 = F 344 21 := by rw [q454_]; exact (fl_u_ne (by omega)).trans ((fl_u_ne (by omega)).trans ((fl_u_ne (by omega)).trans ((fl_u_ne (by omega)).trans (e452_))))
                have e692_ : F475_ 344 21 = F 344 21 := (s477_ 344 21 rfl).trans (e691_)
                have e693_ : F496_ 344 21 = F 344 21 := by rw [q497_]; exact (fl_u_ne (by omega)).trans (e692_)
                have e694_ : F517_ 344 21 = F 344 21 := (s519_ 344 21 rfl).trans (e693_)
                have e695_ : F656_ 344 21 = F 344 21 := by rw [q657_]; exact (fl_u_ne (by omega)).trans (e694_)
                have e696_ : F677_ 344 21 = F 344 21 := (s679_ 344 21 rfl).trans (e695_)
                exact fl_R_sub (lv' := [(3, .int (Int32.ofInt (F 344 21))), (0, .ref 344)]) rfl rfl (B170_ F677_ g678_ g686_ rk687_ (by omega) (by omega) (⟨by intro h0_; have hs_ := c675_s; rw [sp_a1, if_neg (by omega), sp_action]; rw [c277_]; simp only [pb_r]; rw [c300_]; simp only [pb_r]; rw [sp_new, if_pos (by omega), (ra_fi (by have x_ := (rpn_fs (rpn_fs (rpn_fs hal s281_ (fun _ => (fs_n (by omega) (fs_n (by omega) rfl))) (fs_n (by omega) (fs_n (by omega) rfl))) s304_ (fun _ => (fs_n (by omega) (fs_n (by omega) rfl))) (fs_n (by omega) (fs_n (by omega) rfl))) s332_ (fun _ => (fs_n (by omega) rfl)) (fs_n (by omega) rfl)); rw [e373_] at x_; exact x_) c326_ c375_ c376_ c377_), if_pos (by omega), (show sk K (F302_ 344 5) = F302_ 344 5 + 1 by rw [sk, if_pos (by omega)])]; simp only [pb_r]; rw [c408_]; simp only [pb_r]; rw [c431_]; simp only [pb_r]; rw [sp1_ok ct1_]; simp only [pb_r]; rw [c515_]; simp only [pb_r]; rw [if_pos c535_.2, (show sk K (F517_ 344 5) = F517_ 344 5 + 1 by rw [sk, if_pos (by omega)])]; rw [hs_]; try (show Sum.inl _ = _); try (congr 2 <;> omega), fun h0_ => by exfalso; omega⟩) (by omega))
              subst hA_
              have g697_ : fs [(344, 344, 5, 5), (344, 344, 9, 10), (344, 344, 21, 21), (344, 344, 63, 63), (353, 363, 0, 100000)] F F683_ := fs_tr g659_ s685_ rfl
              have rk698_ : rk K F683_ := rk_fs rk660_ s685_ (fun r k h => (fs_n (by omega) (fs_n (by omega) (fs_n (by omega) (fs_n (by omega) rfl))))) (fs_n (by omega) (fs_n (by omega) (fs_n (by omega) (fs_n (by omega) rfl))))
              try simp only [e673_] at c680_
              try simp only [e661_] at c681_
              refine ga_aload_n (v := .ref 344) hm_173 rfl rfl rfl ?_
              refine fl_bipush hm_173 rfl rfl ?_
              have b699_ : 0 ≤ F683_ 344 5 ∧ F683_ 344 5 ≤ 600 := gi_g g684_ rfl
              refine gVv (nY := 2) (F := 2) (L := 44) (As := [.int (Int32.ofInt 7)]) (b := 344) (rest := []) hm_173 rfl hm_55 rfl rfl (fl_ob sc_344) rfl rfl rfl rfl rfl (by omega) (by omega) (mc_55 hG F683_ X g684_ (K) (7) ([58, 101, 102, 102, 101, 99, 116]) hgK rk698_ hkt (by omega) (by omega) (by decide) (kw_7 rk698_)) (fun _ _ h => False.elim h) ?_
              have b701_ : 0 ≤ F683_ 344 10 ∧ F683_ 344 10 ≤ 600 := gi_g g684_ rfl
              have b702_ : 0 ≤ F683_ 344 9 ∧ F683_ 344 9 ≤ 5 := gi_g g684_ rfl
              rintro A1_ (⟨F706_, hA_, g707_, s708_, c703_, c704_, c705_⟩ | ⟨F712_, hA_, g713_, s714_, c709_, c710_, c711_⟩)
              ·
                subst hA_
                have g715_ : fs [(344, 344, 5, 5), (344, 344, 9, 10), (344, 344, 21, 21), (344, 344, 63, 63), (353, 363, 0, 100000)] F F706_ := fs_tr g697_ s708_ rfl
                have rk716_ : rk K F706_ := rk_fs rk698_ s708_ (fun r k h => (fs_n (by omega) (fs_n (by omega) rfl))) (fs_n (by omega) (fs_n (by omega) rfl))
                have c704_s := c704_.1 (by omega)
                clear c704_
                have b717_ : 0 ≤ F706_ 344 9 ∧ F706_ 344 9 ≤ 5 := gi_g g707_ rfl
                have b718_ : 0 ≤ F706_ 344 10 ∧ F706_ 344 10 ≤ 600 := gi_g g707_ rfl
                have b719_ : 0 ≤ F706_ 344 5 ∧ F706_ 344 5 ≤ 600 := gi_g g707_ rfl
                have e720_ : F453_ 344 21 = F 344 21 := by rw [q454_]; exact (fl_u_ne (by omega)).trans ((fl_u_ne (by omega)).trans ((fl_u_ne (by omega)).trans ((fl_u_ne (by omega)).trans (e452_))))
                have e721_ : F475_ 344 21 = F 344 21 := (s477_ 344 21 rfl).trans (e720_)
                have e722_ : F496_ 344 21 = F 344 21 := by rw [q497_]; exact (fl_u_ne (by omega)).trans (e721_)
                have e723_ : F517_ 344 21 = F 344 21 := (s519_ 344 21 rfl).trans (e722_)
                have e724_ : F656_ 344 21 = F 344 21 := by rw [q657_]; exact (fl_u_ne (by omega)).trans (e723_)
                have e725_ : F683_ 344 21 = F 344 21 := (s685_ 344 21 rfl).trans (e724_)
                have e726_ : F706_ 344 21 = F 344 21 := (s708_ 344 21 rfl).trans (e725_)
                exact fl_R_sub (lv' := [(3, .int (Int32.ofInt (F 344 21))), (0, .ref 344)]) rfl rfl (B176_ F706_ g707_ g715_ rk716_ (by omega) (by omega) (⟨by intro h0_; have hs_ := c704_s; rw [sp_a1, if_neg (by omega), sp_action]; rw [c277_]; simp only [pb_r]; rw [c300_]; simp only [pb_r]; rw [sp_new, if_pos (by omega), (ra_fi (by have x_ := (rpn_fs (rpn_fs (rpn_fs hal s281_ (fun _ => (fs_n (by omega) (fs_n (by omega) rfl))) (fs_n (by omega) (fs_n (by omega) rfl))) s304_ (fun _ => (fs_n (by omega) (fs_n (by omega) rfl))) (fs_n (by omega) (fs_n (by omega) rfl))) s332_ (fun _ => (fs_n (by omega) rfl)) (fs_n (by omega) rfl)); rw [e373_] at x_; exact x_) c326_ c375_ c376_ c377_), if_pos (by omega), (show sk K (F302_ 344 5) = F302_ 344 5 + 1 by rw [sk, if_pos (by omega)])]; simp only [pb_r]; rw [c408_]; simp only [pb_r]; rw [c431_]; simp only [pb_r]; rw [sp1_ok ct1_]; simp only [pb_r]; rw [c515_]; simp only [pb_r]; rw [if_pos c535_.2, (show sk K (F517_ 344 5) = F517_ 344 5 + 1 by rw [sk, if_pos (by omega)])]; rw [c681_]; simp only [pb_r]; rw [hs_]; try (show Sum.inl _ = _); try (congr 2 <;> omega), fun h0_ => by exfalso; omega⟩) (by omega))
              subst hA_
              have g727_ : fs [(344, 344, 5, 5), (344, 344, 9, 10), (344, 344, 21, 21), (344, 344, 63, 63), (353, 363, 0, 100000)] F F712_ := fs_tr g697_ s714_ rfl
              have rk728_ : rk K F712_ := rk_fs rk698_ s714_ (fun r k h => (fs_n (by omega) (fs_n (by omega) rfl))) (fs_n (by omega) (fs_n (by omega) rfl))
              refine ga_aload_n (v := .ref 344) hm_173 rfl rfl rfl ?_
              refine ga_iload_n (z := F 344 21) hm_173 rfl rfl ?_
              have b729_ : 0 ≤ F712_ 344 5 ∧ F712_ 344 5 ≤ 600 := gi_g g713_ rfl
              have e730_ : F683_ 354 (F 344 21).toNat = z460_ := (s685_ 354 (F 344 21).toNat (fs_n (by omega) (fs_n (by omega) (fs_n (by omega) (fs_n (by omega) rfl))))).trans (e664_)
              have e731_ : F712_ 354 (F 344 21).toNat = z460_ := (s714_ 354 (F 344 21).toNat (fs_n (by omega) (fs_n (by omega) rfl))).trans (e730_)
              have e732_ : F453_ 359 (F 344 21).toNat = 0 := by rw [q454_]; exact fl_u_eq
              have e733_ : F475_ 359 (F 344 21).toNat = 0 := (s477_ 359 (F 344 21).toNat (fs_n (by omega) (fs_n (by omega) (fs_n (by omega) rfl)))).trans (e732_)
              have e734_ : F496_ 359 (F 344 21).toNat = 0 := by rw [q497_]; exact (fl_u_ne (by omega)).trans (e733_)
              have e735_ : F517_ 359 (F 344 21).toNat = 0 := (s519_ 359 (F 344 21).toNat (fs_n (by omega) (fs_n (by omega) rfl))).trans (e734_)
              have e736_ : F656_ 359 (F 344 21).toNat = 0 := by rw [q657_]; exact (fl_u_ne (by omega)).trans (e735_)
              have e737_ : F683_ 359 (F 344 21).toNat = 0 := (s685_ 359 (F 344 21).toNat (fs_n (by omega) (fs_n (by omega) (fs_n (by omega) (fs_n (by omega) rfl))))).trans (e736_)
              have e738_ : F712_ 359 (F 344 21).toNat = 0 := (s714_ 359 (F 344 21).toNat (fs_n (by omega) (fs_n (by omega) rfl))).trans (e737_)
              refine gVv (nY := 4) (F := 6) (L := 140) (As := [.int (Int32.ofInt (F 344 21))]) (b := 344) (rest := []) hm_173 rfl hm_176 rfl rfl (fl_ob sc_344) rfl rfl rfl rfl rfl (by omega) (by omega) (mc_176 hG F712_ X g713_ (K) (F 344 21) (3) (l2_) (tl2_) (pl) (ps) hgK rk728_ hkt (by omega) (fun _ => ⟨Or.inr ⟨by omega, rfl, (by rw [show F712_ 354 (F 344 21).toNat = z460_ from e731_]; exact rpn_cg ct5_ (fun j hj => (Eq.trans (a := F712_ 356 ((3 * F 344 21).toNat + j)) (b := F683_ 356 ((3 * F 344 21).toNat + j)) (s714_ 356 ((3 * F 344 21).toNat + j) (fs_n (by omega) (fs_n (by omega) rfl))) (Eq.trans (a := F683_ 356 ((3 * F 344 21).toNat + j)) (b := F656_ 356 ((3 * F 344 21).toNat + j)) (s685_ 356 ((3 * F 344 21).toNat + j) (fs_n (by omega) (fs_n (by omega) (fs_n (by omega) (fs_n (by omega) rfl))))) (Eq.trans (a := F656_ 356 ((3 * F 344 21).toNat + j)) (b := F517_ 356 ((3 * F 344 21).toNat + j)) (by rw [q657_]; exact (fl_u_ne (by omega))) (Eq.trans (a := F517_ 356 ((3 * F 344 21).toNat + j)) (b := F496_ 356 ((3 * F 344 21).toNat + j)) (s519_ 356 ((3 * F 344 21).toNat + j) (fs_n (by omega) (fs_n (by omega) rfl))) (show F496_ 356 ((3 * F 344 21).toNat + j) = F475_ 356 ((3 * F 344 21).toNat + j) from (by rw [q497_]; exact (fl_u_ne (by omega)))))))))), rty_cg ct4_ (fun j hj => (Eq.trans (a := F712_ 355 ((3 * F 344 21).toNat + j)) (b := F683_ 355 ((3 * F 344 21).toNat + j)) (s714_ 355 ((3 * F 344 21).toNat + j) (fs_n (by omega) (fs_n (by omega) rfl))) (Eq.trans (a := F683_ 355 ((3 * F 344 21).toNat + j)) (b := F656_ 355 ((3 * F 344 21).toNat + j)) (s685_ 355 ((3 * F 344 21).toNat + j) (fs_n (by omega) (fs_n (by omega) (fs_n (by omega) (fs_n (by omega) rfl))))) (Eq.trans (a := F656_ 355 ((3 * F 344 21).toNat + j)) (b := F517_ 355 ((3 * F 344 21).toNat + j)) (by rw [q657_]; exact (fl_u_ne (by omega))) (Eq.trans (a := F517_ 355 ((3 * F 344 21).toNat + j)) (b := F496_ 355 ((3 * F 344 21).toNat + j)) (s519_ 355 ((3 * F 344 21).toNat + j) (fs_n (by omega) (fs_n (by omega) rfl))) (show F496_ 355 ((3 * F 344 21).toNat + j) = F475_ 355 ((3 * F 344 21).toNat + j) from (by rw [q497_]; exact (fl_u_ne (by omega)))))))))⟩, ct6_⟩) (by omega) ((rpn_fs (rpn_fs (by rw [q657_]; exact (rpn_u (rpn_fs (by rw [q497_]; exact (rpn_u (rpn_fs (by rw [q454_]; exact (rpn_u (rpn_u (rpn_u (rpn_u (rpn_fs (rpn_fs (by rw [q392_]; exact (rpn_u (rpn_fs (rpn_fs (rpn_fs hpl s281_ (fun _ => (fs_n (by omega) (fs_n (by omega) rfl))) (fs_n (by omega) (fs_n (by omega) rfl))) s304_ (fun _ => (fs_n (by omega) (fs_n (by omega) rfl))) (fs_n (by omega) (fs_n (by omega) rfl))) s332_ (fun _ => (fs_n (by omega) rfl)) (fs_n (by omega) rfl)) (by omega) (by omega))) s412_ (fun _ => (fs_n (by omega) (fs_n (by omega) rfl))) (fs_n (by omega) (fs_n (by omega) rfl))) s435_ (fun _ => (fs_n (by omega) (fs_n (by omega) rfl))) (fs_n (by omega) (fs_n (by omega) rfl))) (by omega) (by omega)) (by omega) (by omega)) (by omega) (by omega)) (by omega) (by omega))) s477_ (fun _ => (fs_n (by omega) (fs_n (by omega) (fs_n (by omega) rfl)))) (fs_n (by omega) (fs_n (by omega) (fs_n (by omega) rfl)))) (by omega) (by omega))) s519_ (fun _ => (fs_n (by omega) (fs_n (by omega) rfl))) (fs_n (by omega) (fs_n (by omega) rfl))) (by omega) (by omega))) s685_ (fun _ => (fs_n (by omega) (fs_n (by omega) (fs_n (by omega) (fs_n (by omega) rfl))))) (fs_n (by omega) (fs_n (by omega) (fs_n (by omega) (fs_n (by omega) rfl))))) s714_ (fun _ => (fs_n (by omega) (fs_n (by omega) rfl))) (fs_n (by omega) (fs_n (by omega) rfl)))) (⟨(rprd_fs (rprd_fs (by rw [q657_]; exact (rprd_u (rprd_fs (by rw [q497_]; exact (rprd_u (rprd_fs (by rw [q454_]; exact (rprd_u (rprd_u (rprd_u (rprd_u (rprd_fs (rprd_fs (by rw [q392_]; exact (rprd_u (rprd_fs (rprd_fs (rprd_fs hps.1 s281_ (fun r j hj => (fs_n (by omega) (fs_n (by omega) rfl)))) s304_ (fun r j hj => (fs_n (by omega) (fs_n (by omega) rfl)))) s332_ (fun r j hj => (fs_n (by omega) rfl))) (by omega))) s412_ (fun r j hj => (fs_n (by omega) (fs_n (by omega) rfl)))) s435_ (fun r j hj => (fs_n (by omega) (fs_n (by omega) rfl)))) (by omega)) (by omega)) (by omega)) (by omega))) s477_ (fun r j hj => (fs_n (by omega) (fs_n (by omega) (fs_n (by omega) rfl))))) (by omega))) s519_ (fun r j hj => (fs_n (by omega) (fs_n (by omega) rfl)))) (by omega))) s685_ (fun r j hj => (fs_n (by omega) (fs_n (by omega) (fs_n (by omega) (fs_n (by omega) rfl)))))) s714_ (fun r j hj => (fs_n (by omega) (fs_n (by omega) rfl)))), hps.2⟩) (fun _ => e738_)) (fun _ _ h => False.elim h) ?_
              have b740_ : 0 ≤ F712_ 344 10 ∧ F712_ 344 10 ≤ 600 := gi_g g713_ rfl
              have b741_ : 0 ≤ F712_ 344 9 ∧ F712_ 344 9 ≤ 5 := gi_g g713_ rfl
              rintro A1_ (⟨F745_, hA_, g746_, s747_, c742_, c743_, c744_⟩ | ⟨F751_, hA_, g752_, s753_, c748_, c749_, c750_⟩)
              ·
                subst hA_
                have g754_ : fs [(344, 344, 5, 5), (344, 344, 9, 10), (344, 344, 21, 21), (344, 344, 63, 63), (353, 363, 0, 100000)] F F745_ := fs_tr g727_ s747_ rfl
                have rk755_ : rk K F745_ := rk_fs rk728_ s747_ (fun r k h => (fs_n (by omega) (fs_n (by omega) (fs_n (by omega) (fs_n (by omega) (fs_n (by omega) rfl)))))) (fs_n (by omega) (fs_n (by omega) (fs_n (by omega) (fs_n (by omega) (fs_n (by omega) rfl)))))
                have c743_s := c743_.1 (by omega)
                clear c743_
                try obtain ⟨c2_, ce1_⟩ := c743_s
                have b756_ : 0 ≤ F745_ 344 9 ∧ F745_ 344 9 ≤ 5 := gi_g g746_ rfl
                have b757_ : 0 ≤ F745_ 344 10 ∧ F745_ 344 10 ≤ 600 := gi_g g746_ rfl
                have b758_ : 0 ≤ F745_ 344 5 ∧ F745_ 344 5 ≤ 600 := gi_g g746_ rfl
                have e759_ : F453_ 344 21 = F 344 21 := by rw [q454_]; exact (fl_u_ne (by omega)).trans ((fl_u_ne (by omega)).trans ((fl_u_ne (by omega)).trans ((fl_u_ne (by omega)).trans (e452_))))
                have e760_ : F475_ 344 21 = F 344 21 := (s477_ 344 21 rfl).trans (e759_)
                have e761_ : F496_ 344 21 = F 344 21 := by rw [q497_]; exact (fl_u_ne (by omega)).trans (e760_)
                have e762_ : F517_ 344 21 = F 344 21 := (s519_ 344 21 rfl).trans (e761_)
                have e763_ : F656_ 344 21 = F 344 21 := by rw [q657_]; exact (fl_u_ne (by omega)).trans (e762_)
                have e764_ : F683_ 344 21 = F 344 21 := (s685_ 344 21 rfl).trans (e763_)
                have e765_ : F712_ 344 21 = F 344 21 := (s714_ 344 21 rfl).trans (e764_)
                have e766_ : F745_ 344 21 = F 344 21 := (s747_ 344 21 rfl).trans (e765_)
                exact fl_R_sub (lv' := [(3, .int (Int32.ofInt (F 344 21))), (0, .ref 344)]) rfl rfl (B181_ F745_ g746_ g754_ rk755_ (by omega) (by omega) (⟨by intro h0_; have hs_ := c743_s; rw [sp_a1, if_neg (by omega), sp_action]; rw [c277_]; simp only [pb_r]; rw [c300_]; simp only [pb_r]; rw [sp_new, if_pos (by omega), (ra_fi (by have x_ := (rpn_fs (rpn_fs (rpn_fs hal s281_ (fun _ => (fs_n (by omega) (fs_n (by omega) rfl))) (fs_n (by omega) (fs_n (by omega) rfl))) s304_ (fun _ => (fs_n (by omega) (fs_n (by omega) rfl))) (fs_n (by omega) (fs_n (by omega) rfl))) s332_ (fun _ => (fs_n (by omega) rfl)) (fs_n (by omega) rfl)); rw [e373_] at x_; exact x_) c326_ c375_ c376_ c377_), if_pos (by omega), (show sk K (F302_ 344 5) = F302_ 344 5 + 1 by rw [sk, if_pos (by omega)])]; simp only [pb_r]; rw [c408_]; simp only [pb_r]; rw [c431_]; simp only [pb_r]; rw [sp1_ok ct1_]; simp only [pb_r]; rw [c515_]; simp only [pb_r]; rw [if_pos c535_.2, (show sk K (F517_ 344 5) = F517_ 344 5 + 1 by rw [sk, if_pos (by omega)])]; rw [c681_]; simp only [pb_r]; rw [c710_]; simp only [pb_r]; rw [hs_]; try (show Sum.inl _ = _); try (congr 2 <;> omega), fun h0_ => by exfalso; omega⟩) (by omega))
              subst hA_
              have g767_ : fs [(344, 344, 5, 5), (344, 344, 9, 10), (344, 344, 21, 21), (344, 344, 63, 63), (353, 363, 0, 100000)] F F751_ := fs_tr g727_ s753_ rfl
              have rk768_ : rk K F751_ := rk_fs rk728_ s753_ (fun r k h => (fs_n (by omega) (fs_n (by omega) (fs_n (by omega) (fs_n (by omega) (fs_n (by omega) rfl)))))) (fs_n (by omega) (fs_n (by omega) (fs_n (by omega) (fs_n (by omega) (fs_n (by omega) rfl)))))
              try obtain ⟨c2_, ce1_⟩ := c749_
              refine ga_aload_n (v := .ref 344) hm_173 rfl rfl rfl ?_
              refine fl_bipush hm_173 rfl rfl ?_
              have b769_ : 0 ≤ F751_ 344 5 ∧ F751_ 344 5 ≤ 600 := gi_g g752_ rfl
              refine gVv (nY := 2) (F := 2) (L := 41) (As := [.int (Int32.ofInt 41)]) (b := 344) (rest := []) hm_173 rfl hm_51 rfl rfl (fl_ob sc_344) rfl rfl rfl rfl rfl (by omega) (by omega) (mc_51 hG F751_ X g752_ (K) (41) (1) hgK rk768_ hkt (by omega) (by omega) (by omega)) (fun _ _ h => False.elim h) ?_
              have b771_ : 0 ≤ F751_ 344 10 ∧ F751_ 344 10 ≤ 600 := gi_g g752_ rfl
              have b772_ : 0 ≤ F751_ 344 9 ∧ F751_ 344 9 ≤ 5 := gi_g g752_ rfl
              rintro A1_ (⟨F776_, hA_, g777_, s778_, c773_, c774_, c775_⟩ | ⟨F782_, hA_, g783_, s784_, c779_, c780_, c781_⟩)
              ·
                subst hA_
                have g785_ : fs [(344, 344, 5, 5), (344, 344, 9, 10), (344, 344, 21, 21), (344, 344, 63, 63), (353, 363, 0, 100000)] F F776_ := fs_tr g767_ s778_ rfl
                have rk786_ : rk K F776_ := rk_fs rk768_ s778_ (fun r k h => (fs_n (by omega) (fs_n (by omega) rfl))) (fs_n (by omega) (fs_n (by omega) rfl))
                have c774_s := c774_.1 (by omega)
                clear c774_
                have b787_ : 0 ≤ F776_ 344 9 ∧ F776_ 344 9 ≤ 5 := gi_g g777_ rfl
                have b788_ : 0 ≤ F776_ 344 10 ∧ F776_ 344 10 ≤ 600 := gi_g g777_ rfl
                have b789_ : 0 ≤ F776_ 344 5 ∧ F776_ 344 5 ≤ 600 := gi_g g777_ rfl
                have e790_ : F453_ 344 21 = F 344 21 := by rw [q454_]; exact (fl_u_ne (by omega)).trans ((fl_u_ne (by omega)).trans ((fl_u_ne (by omega)).trans ((fl_u_ne (by omega)).trans (e452_))))
                have e791_ : F475_ 344 21 = F 344 21 := (s477_ 344 21 rfl).trans (e790_)
                have e792_ : F496_ 344 21 = F 344 21 := by rw [q497_]; exact (fl_u_ne (by omega)).trans (e791_)
                have e793_ : F517_ 344 21 = F 344 21 := (s519_ 344 21 rfl).trans (e792_)
                have e794_ : F656_ 344 21 = F 344 21 := by rw [q657_]; exact (fl_u_ne (by omega)).trans (e793_)
                have e795_ : F683_ 344 21 = F 344 21 := (s685_ 344 21 rfl).trans (e794_)
                have e796_ : F712_ 344 21 = F 344 21 := (s714_ 344 21 rfl).trans (e795_)
                have e797_ : F751_ 344 21 = F 344 21 := (s753_ 344 21 rfl).trans (e796_)
                have e798_ : F776_ 344 21 = F 344 21 := (s778_ 344 21 rfl).trans (e797_)
                exact fl_R_sub (lv' := [(3, .int (Int32.ofInt (F 344 21))), (0, .ref 344)]) rfl rfl (B187_ F776_ g777_ g785_ rk786_ (by omega) (by omega) (⟨by intro h0_; have hs_ := c774_s; rw [sp_a1, if_neg (by omega), sp_action]; rw [c277_]; simp only [pb_r]; rw [c300_]; simp only [pb_r]; rw [sp_new, if_pos (by omega), (ra_fi (by have x_ := (rpn_fs (rpn_fs (rpn_fs hal s281_ (fun _ => (fs_n (by omega) (fs_n (by omega) rfl))) (fs_n (by omega) (fs_n (by omega) rfl))) s304_ (fun _ => (fs_n (by omega) (fs_n (by omega) rfl))) (fs_n (by omega) (fs_n (by omega) rfl))) s332_ (fun _ => (fs_n (by omega) rfl)) (fs_n (by omega) rfl)); rw [e373_] at x_; exact x_) c326_ c375_ c376_ c377_), if_pos (by omega), (show sk K (F302_ 344 5) = F302_ 344 5 + 1 by rw [sk, if_pos (by omega)])]; simp only [pb_r]; rw [c408_]; simp only [pb_r]; rw [c431_]; simp only [pb_r]; rw [sp1_ok ct1_]; simp only [pb_r]; rw [c515_]; simp only [pb_r]; rw [if_pos c535_.2, (show sk K (F517_ 344 5) = F517_ 344 5 + 1 by rw [sk, if_pos (by omega)])]; rw [c681_]; simp only [pb_r]; rw [c710_]; simp only [pb_r]; rw [ce1_]; simp only [pb_r]; rw [hs_]; try (show Sum.inl _ = _); try (congr 2 <;> omega), fun h0_ => by exfalso; omega⟩) (by omega))
              subst hA_
              have g799_ : fs [(344, 344, 5, 5), (344, 344, 9, 10), (344, 344, 21, 21), (344, 344, 63, 63), (353, 363, 0, 100000)] F F782_ := fs_tr g767_ s784_ rfl
              have rk800_ : rk K F782_ := rk_fs rk768_ s784_ (fun r k h => (fs_n (by omega) (fs_n (by omega) rfl))) (fs_n (by omega) (fs_n (by omega) rfl))
              refine ga_aload_n (v := .ref 344) hm_173 rfl rfl rfl ?_
              refine ga_dup hm_173 rfl rfl ?_
              have e801_ : F453_ 344 21 = F 344 21 := by rw [q454_]; exact (fl_u_ne (by omega)).trans ((fl_u_ne (by omega)).trans ((fl_u_ne (by omega)).trans ((fl_u_ne (by omega)).trans (e452_))))
              have e802_ : F475_ 344 21 = F 344 21 := (s477_ 344 21 rfl).trans (e801_)
              have e803_ : F496_ 344 21 = F 344 21 := by rw [q497_]; exact (fl_u_ne (by omega)).trans (e802_)
              have e804_ : F517_ 344 21 = F 344 21 := (s519_ 344 21 rfl).trans (e803_)
              have e805_ : F656_ 344 21 = F 344 21 := by rw [q657_]; exact (fl_u_ne (by omega)).trans (e804_)
              have e806_ : F683_ 344 21 = F 344 21 := (s685_ 344 21 rfl).trans (e805_)
              have e807_ : F712_ 344 21 = F 344 21 := (s714_ 344 21 rfl).trans (e806_)
              have e808_ : F751_ 344 21 = F 344 21 := (s753_ 344 21 rfl).trans (e807_)
              have e809_ : F782_ 344 21 = F 344 21 := (s784_ 344 21 rfl).trans (e808_)
              refine ga_geti (z := F 344 21) hm_173 rfl sc_344 rfl (e809_) ?_
              refine fl_iconst hm_173 rfl ?_
              refine ga_iadd (a := F 344 21) (b := 1) (c := F 344 21 + 1) hm_173 rfl (by omega) ?_
              refine ga_puti (z := F 344 21 + 1) hm_173 rfl sc_344 rfl rfl ?_
              obtain ⟨F810_, q811_⟩ : ∃ F9_, F9_ = (fl_u F782_ 344 21 (F 344 21 + 1)) := ⟨_, rfl⟩
              rw [← q811_]
              have g812_ : gi F810_ := by rw [q811_]; exact gi_u (g783_) rfl (by omega) (by omega)
              have g813_ : fs [(344, 344, 5, 5), (344, 344, 9, 10), (344, 344, 21, 21), (344, 344, 63, 63), (353, 363, 0, 100000)] F F810_ := by rw [q811_]; exact fs_u (g799_) rfl
              have rk814_ : rk K F810_ := by rw [q811_]; exact rk_u (rk800_) (by omega) (by omega)
              refine gr_v hm_173 rfl rfl ?_
              have e815_ : F810_ 344 9 = F782_ 344 9 := by rw [q811_]; exact fl_u_ne (by omega)
              have b816_ : 0 ≤ F782_ 344 9 ∧ F782_ 344 9 ≤ 5 := gi_g g783_ rfl
              have e817_ : F810_ 344 10 = F782_ 344 10 := by rw [q811_]; exact fl_u_ne (by omega)
              have e818_ : F810_ 344 5 = F782_ 344 5 := by rw [q811_]; exact fl_u_ne (by omega)
              have e819_ : F810_ 344 21 = F 344 21 + 1 := by rw [q811_]; exact fl_u_eq
              have b820_ : 0 ≤ F782_ 344 5 ∧ F782_ 344 5 ≤ 600 := gi_g g783_ rfl
              have e821_ : F453_ 353 (F 344 21).toNat = z313_ := by rw [q454_]; exact (fl_u_ne (by omega)).trans ((fl_u_ne (by omega)).trans ((fl_u_ne (by omega)).trans (fl_u_eq)))
              have e822_ : F475_ 353 (F 344 21).toNat = z313_ := (s477_ 353 (F 344 21).toNat (fs_n (by omega) (fs_n (by omega) (fs_n (by omega) rfl)))).trans (e821_)
              have e823_ : F496_ 353 (F 344 21).toNat = z313_ := by rw [q497_]; exact (fl_u_ne (by omega)).trans (e822_)
              have e824_ : F517_ 353 (F 344 21).toNat = z313_ := (s519_ 353 (F 344 21).toNat (fs_n (by omega) (fs_n (by omega) rfl))).trans (e823_)
              have e825_ : F656_ 353 (F 344 21).toNat = z313_ := by rw [q657_]; exact (fl_u_ne (by omega)).trans (e824_)
              have e826_ : F683_ 353 (F 344 21).toNat = z313_ := (s685_ 353 (F 344 21).toNat (fs_n (by omega) (fs_n (by omega) (fs_n (by omega) (fs_n (by omega) rfl))))).trans (e825_)
              have e827_ : F712_ 353 (F 344 21).toNat = z313_ := (s714_ 353 (F 344 21).toNat (fs_n (by omega) (fs_n (by omega) rfl))).trans (e826_)
              have e828_ : F751_ 353 (F 344 21).toNat = z313_ := (s753_ 353 (F 344 21).toNat (fs_n (by omega) (fs_n (by omega) (fs_n (by omega) (fs_n (by omega) (fs_n (by omega) rfl)))))).trans (e827_)
              have e829_ : F782_ 353 (F 344 21).toNat = z313_ := (s784_ 353 (F 344 21).toNat (fs_n (by omega) (fs_n (by omega) rfl))).trans (e828_)
              have e830_ : F810_ 353 (F 344 21).toNat = z313_ := by rw [q811_]; exact (fl_u_ne (by omega)).trans (e829_)
              exact Or.inr (⟨F810_, rfl, g812_, g813_, (by omega), (⟨K 6 (F302_ 344 5).toNat, by rw [sp_a1, if_neg (by omega), sp_action]; rw [c277_]; simp only [pb_r]; rw [c300_]; simp only [pb_r]; rw [sp_new, if_pos (by omega), (ra_fi (by have x_ := (rpn_fs (rpn_fs (rpn_fs hal s281_ (fun _ => (fs_n (by omega) (fs_n (by omega) rfl))) (fs_n (by omega) (fs_n (by omega) rfl))) s304_ (fun _ => (fs_n (by omega) (fs_n (by omega) rfl))) (fs_n (by omega) (fs_n (by omega) rfl))) s332_ (fun _ => (fs_n (by omega) rfl)) (fs_n (by omega) rfl)); rw [e373_] at x_; exact x_) c326_ c375_ c376_ c377_), if_pos (by omega), (show sk K (F302_ 344 5) = F302_ 344 5 + 1 by rw [sk, if_pos (by omega)])]; simp only [pb_r]; rw [c408_]; simp only [pb_r]; rw [c431_]; simp only [pb_r]; rw [sp1_ok ct1_]; simp only [pb_r]; rw [c515_]; simp only [pb_r]; rw [if_pos c535_.2, (show sk K (F517_ 344 5) = F517_ 344 5 + 1 by rw [sk, if_pos (by omega)])]; rw [c681_]; simp only [pb_r]; rw [c710_]; simp only [pb_r]; rw [ce1_]; simp only [pb_r]; rw [c780_]; simp only [pb_r]; try (congr 2 <;> omega), by rw [e819_]; exact rpn_at hal (fun j hj => (Eq.trans (a := F810_ 353 j) (b := F782_ 353 j) (by rw [q811_]; exact (fl_u_ne (by omega))) (Eq.trans (a := F782_ 353 j) (b := F751_ 353 j) (s784_ 353 j (fs_n (by omega) (fs_n (by omega) rfl))) (Eq.trans (a := F751_ 353 j) (b := F712_ 353 j) (s753_ 353 j (fs_n (by omega) (fs_n (by omega) (fs_n (by omega) (fs_n (by omega) (fs_n (by omega) rfl)))))) (Eq.trans (a := F712_ 353 j) (b := F683_ 353 j) (s714_ 353 j (fs_n (by omega) (fs_n (by omega) rfl))) (Eq.trans (a := F683_ 353 j) (b := F656_ 353 j) (s685_ 353 j (fs_n (by omega) (fs_n (by omega) (fs_n (by omega) (fs_n (by omega) rfl))))) (Eq.trans (a := F656_ 353 j) (b := F517_ 353 j) (by rw [q657_]; exact (fl_u_ne (by omega))) (Eq.trans (a := F517_ 353 j) (b := F496_ 353 j) (s519_ 353 j (fs_n (by omega) (fs_n (by omega) rfl))) (Eq.trans (a := F496_ 353 j) (b := F475_ 353 j) (by rw [q497_]; exact (fl_u_ne (by omega))) (Eq.trans (a := F475_ 353 j) (b := F453_ 353 j) (s477_ 353 j (fs_n (by omega) (fs_n (by omega) (fs_n (by omega) rfl)))) (Eq.trans (a := F453_ 353 j) (b := F433_ 353 j) (by rw [q454_]; exact (fl_u_ne (by omega)).trans ((fl_u_ne (by omega)).trans ((fl_u_ne (by omega)).trans ((fl_u_ne (by omega)))))) (Eq.trans (a := F433_ 353 j) (b := F410_ 353 j) (s435_ 353 j (fs_n (by omega) (fs_n (by omega) rfl))) (Eq.trans (a := F410_ 353 j) (b := F391_ 353 j) (s412_ 353 j (fs_n (by omega) (fs_n (by omega) rfl))) (Eq.trans (a := F391_ 353 j) (b := F330_ 353 j) (by rw [q392_]; exact (fl_u_ne (by omega))) (Eq.trans (a := F330_ 353 j) (b := F302_ 353 j) (s332_ 353 j (fs_n (by omega) rfl)) (Eq.trans (a := F302_ 353 j) (b := F279_ 353 j) (s304_ 353 j (fs_n (by omega) (fs_n (by omega) rfl))) (show F279_ 353 j = F 353 j from (s281_ 353 j (fs_n (by omega) (fs_n (by omega) rfl)))))))))))))))))))) (e830_) c326_⟩), (by omega)⟩)
            exfalso; omega
          exfalso; omega
        refine ga_aload_n (v := .ref 344) hm_173 rfl rfl rfl ?_
        refine fl_iconst hm_173 rfl ?_
        have e831_ : F330_ 344 5 = F302_ 344 5 := (s332_ 344 5 rfl).trans (rfl)
        refine gVv (nY := 2) (F := 0) (L := 0) (As := [.int (Int32.ofInt 2)]) (b := 344) (rest := []) hm_173 rfl hm_54 rfl rfl (fl_ob sc_344) rfl rfl rfl rfl rfl (by omega) (by omega) (mc_54 hG F330_ X g331_ (K) (2) hgK rk363_ hkt (by omega) (by omega)) (fun _ _ h => False.elim h) ?_
        have b833_ : 0 ≤ F330_ 344 10 ∧ F330_ 344 10 ≤ 600 := gi_g g331_ rfl
        rintro A1_ ⟨F837_, hA_, g838_, s839_, c834_, c835_, c836_⟩
        subst hA_
        have g840_ : fs [(344, 344, 5, 5), (344, 344, 9, 10), (344, 344, 21, 21), (344, 344, 63, 63), (353, 363, 0, 100000)] F F837_ := fs_tr g362_ s839_ rfl
        have rk841_ : rk K F837_ := rk_fs rk363_ s839_ (fun r k h => (fs_n (by omega) rfl)) (fs_n (by omega) rfl)
        try simp only [e831_] at c835_
        try simp only [e831_] at c836_
        have c835_s := c835_.1 (by omega)
        clear c835_
        refine ga_aload_n (v := .ref 344) hm_173 rfl rfl rfl ?_
        refine gIv (nY := 1) (F := 1) (L := 20) (As := []) (b := 344) (rest := []) hm_173 rfl hm_61 rfl rfl (fl_ob sc_344) rfl rfl rfl rfl rfl (by omega) (by omega) ?_
        intro f842_ l843_ h844_ h845_
        show fl_R xi_ms 61 f842_ l843_ 0 [(0, .ref 344)] [] _ _
        refine ga_aload_n (v := .ref 344) hm_61 rfl rfl rfl ?_
        refine ga_dup hm_61 rfl rfl ?_
        have e846_ : F837_ 344 5 = F302_ 344 5 := (s839_ 344 5 rfl).trans (e831_)
        refine ga_geti (z := F302_ 344 5) hm_61 rfl sc_344 rfl (e846_) ?_
        refine ga_aload_n (v := .ref 344) hm_61 rfl rfl rfl ?_
        refine gIi (nY := 1) (F := 0) (L := 0) (As := []) (b := 344) (rest := [.int (Int32.ofInt (F302_ 344 5)), .ref 344]) hm_61 rfl hm_59 rfl rfl (fl_ob sc_344) rfl rfl rfl rfl rfl (by omega) (by omega) ?_
        intro f847_ l848_ h849_ h850_
        show fl_R xi_ms 59 f847_ l848_ 0 [(0, .ref 344)] [] _ _
        refine ga_aload_n (v := .ref 344) hm_59 rfl rfl rfl ?_
        have b851_ : 0 ≤ F837_ 344 9 ∧ F837_ 344 9 ≤ 5 := gi_g g838_ rfl
        refine ga_geti (z := F837_ 344 9) hm_59 rfl sc_344 rfl (rfl) ?_
        refine fl_if_le (a := F837_ 344 9) hm_59 rfl ⟨by omega, by omega⟩ (fun h852_ => ?_) (fun h853_ => ?_)
        · exfalso; omega
        refine fl_iconst hm_59 rfl ?_
        refine fl_goto hm_59 rfl ?_
        refine gr_i hm_59 rfl rfl (ga_nb (by omega)) ?_
        clear h849_ h850_ f847_ l848_
        refine fl_if_eq hm_61 rfl ⟨by omega, by omega⟩ (fun h => absurd h (by omega)) (fun _ => ?_)
        refine fl_iconst hm_61 rfl ?_
        refine fl_goto hm_61 rfl ?_
        refine ga_iadd (a := F302_ 344 5) (b := 0) (c := F302_ 344 5) hm_61 rfl (by omega) ?_
        refine ga_puti (z := F302_ 344 5) hm_61 rfl sc_344 rfl rfl ?_
        refine gr_v hm_61 rfl rfl ?_
        clear h844_ h845_ f842_ l843_
        obtain ⟨F854_, q855_⟩ : ∃ F9_, F9_ = (fl_u F837_ 344 5 (F302_ 344 5)) := ⟨_, rfl⟩
        rw [← q855_]
        have g856_ : gi F854_ := by rw [q855_]; exact gi_u (g838_) rfl (by omega) (by omega)
        have g857_ : fs [(344, 344, 5, 5), (344, 344, 9, 10), (344, 344, 21, 21), (344, 344, 63, 63), (353, 363, 0, 100000)] F F854_ := by rw [q855_]; exact fs_u (g840_) rfl
        have rk858_ : rk K F854_ := by rw [q855_]; exact rk_u (rk841_) (by omega) (by omega)
        have e859_ : F854_ 344 9 = F837_ 344 9 := by rw [q855_]; exact fl_u_ne (by omega)
        have e860_ : F854_ 344 10 = F837_ 344 10 := by rw [q855_]; exact fl_u_ne (by omega)
        have b861_ : 0 ≤ F837_ 344 10 ∧ F837_ 344 10 ≤ 600 := gi_g g838_ rfl
        have e862_ : F854_ 344 5 = F302_ 344 5 := by rw [q855_]; exact fl_u_eq
        exact fl_R_sub (lv' := [(0, .ref 344)]) rfl rfl (B62_ F854_ g856_ g857_ rk858_ (by omega) (by omega) (⟨by intro h0_; have hs_ := c835_s; rw [sp_a1, if_neg (by omega), sp_action]; rw [c277_]; simp only [pb_r]; rw [c300_]; simp only [pb_r]; rw [sp_new, if_pos (by omega), (ra_fi (by have x_ := (rpn_fs (rpn_fs (rpn_fs hal s281_ (fun _ => (fs_n (by omega) (fs_n (by omega) rfl))) (fs_n (by omega) (fs_n (by omega) rfl))) s304_ (fun _ => (fs_n (by omega) (fs_n (by omega) rfl))) (fs_n (by omega) (fs_n (by omega) rfl))) s332_ (fun _ => (fs_n (by omega) rfl)) (fs_n (by omega) rfl)); rw [e373_] at x_; exact x_) c326_ c375_ c376_ c377_), if_neg (by omega)]; show Sum.inl (2, K 4 _) = _; congr 2 <;> omega, fun h0_ => by exfalso; omega⟩))
      exfalso; omega
    refine ga_aload_n (v := .ref 344) hm_173 rfl rfl rfl ?_
    refine fl_iconst hm_173 rfl ?_
    have b863_ : 0 ≤ F 344 5 ∧ F 344 5 ≤ 600 := gi_g hgi rfl
    refine gVv (nY := 2) (F := 0) (L := 0) (As := [.int (Int32.ofInt 1)]) (b := 344) (rest := []) hm_173 rfl hm_54 rfl rfl (fl_ob sc_344) rfl rfl rfl rfl rfl (by omega) (by omega) (mc_54 hG F X hgi (K) (1) hgK hrk hkt (by omega) (by omega)) (fun _ _ h => False.elim h) ?_
    have b865_ : 0 ≤ F 344 10 ∧ F 344 10 ≤ 600 := gi_g hgi rfl
    rintro A1_ ⟨F869_, hA_, g870_, s871_, c866_, c867_, c868_⟩
    subst hA_
    have g872_ : fs [(344, 344, 5, 5), (344, 344, 9, 10), (344, 344, 21, 21), (344, 344, 63, 63), (353, 363, 0, 100000)] F F869_ := fs_tr fs_refl s871_ rfl
    have rk873_ : rk K F869_ := rk_fs hrk s871_ (fun r k h => (fs_n (by omega) rfl)) (fs_n (by omega) rfl)
    have c867_s := c867_.1 (by omega)
    clear c867_
    have b874_ : 0 ≤ F869_ 344 9 ∧ F869_ 344 9 ≤ 5 := gi_g g870_ rfl
    have b875_ : 0 ≤ F869_ 344 10 ∧ F869_ 344 10 ≤ 600 := gi_g g870_ rfl
    have e876_ : F869_ 344 5 = F 344 5 := (s871_ 344 5 rfl).trans (rfl)
    exact B13_ F869_ g870_ g872_ rk873_ (by omega) (by omega) (⟨by intro h0_; have hs_ := c867_s; rw [sp_a1, if_pos (by omega), pf]; congr 2 <;> omega, fun h0_ => by exfalso; omega⟩)
  refine ga_aload_n (v := .ref 344) hm_173 rfl rfl rfl ?_
  have b877_ : 0 ≤ F 344 21 ∧ F 344 21 ≤ 5 := gi_g hgi rfl
  refine ga_geti (z := F 344 21) hm_173 rfl sc_344 rfl (rfl) ?_
  refine fl_iconst hm_173 rfl ?_
  refine fx_icmp_ne (a := F 344 21) (b := 5) hm_173 rfl ⟨by omega, by omega⟩ ⟨by omega, by omega⟩ (fun h878_ => ?_) (fun h879_ => ?_)
  ·
    have b880_ : 0 ≤ F 344 10 ∧ F 344 10 ≤ 600 := gi_g hgi rfl
    have b881_ : 0 ≤ F 344 5 ∧ F 344 5 ≤ 600 := gi_g hgi rfl
    exact B13_ F hgi fs_refl hrk (by omega) (by omega) (⟨fun h0_ => by exfalso; omega, fun h0_ => by constructor <;> omega⟩)
  refine ga_aload_n (v := .ref 344) hm_173 rfl rfl rfl ?_
  refine fl_iconst hm_173 rfl ?_
  have b882_ : 0 ≤ F 344 5 ∧ F 344 5 ≤ 600 := gi_g hgi rfl
  refine gVv (nY := 2) (F := 0) (L := 0) (As := [.int (Int32.ofInt 1)]) (b := 344) (rest := []) hm_173 rfl hm_54 rfl rfl (fl_ob sc_344) rfl rfl rfl rfl rfl (by omega) (by omega) (mc_54 hG F X hgi (K) (1) hgK hrk hkt (by omega) (by omega)) (fun _ _ h => False.elim h) ?_
  have b884_ : 0 ≤ F 344 10 ∧ F 344 10 ≤ 600 := gi_g hgi rfl
  rintro A1_ ⟨F888_, hA_, g889_, s890_, c885_, c886_, c887_⟩
  subst hA_
  have g891_ : fs [(344, 344, 5, 5), (344, 344, 9, 10), (344, 344, 21, 21), (344, 344, 63, 63), (353, 363, 0, 100000)] F F888_ := fs_tr fs_refl s890_ rfl
  have rk892_ : rk K F888_ := rk_fs hrk s890_ (fun r k h => (fs_n (by omega) rfl)) (fs_n (by omega) rfl)
  have c886_k := c886_.2 (by omega)
  clear c886_
  have b893_ : 0 ≤ F888_ 344 9 ∧ F888_ 344 9 ≤ 5 := gi_g g889_ rfl
  have b894_ : 0 ≤ F888_ 344 10 ∧ F888_ 344 10 ≤ 600 := gi_g g889_ rfl
  have e895_ : F888_ 344 5 = F 344 5 := (s890_ 344 5 rfl).trans (rfl)
  exact B13_ F888_ g889_ g891_ rk892_ (by omega) (by omega) (⟨fun h0_ => by exfalso; omega, fun h0_ => by constructor <;> omega⟩)

/- CheapPlannerModel.problem -/
abbrev pq_64 (G : Nat → Nat → Option Nat) (F : fl_N) (X : xi_H) (K : fl_N) (nm : Int) (ts pl : List Int) (ps : List (List Int)) : Outcome → xi_H → Prop := gqi (fun z A => ∃ F' : fl_N, fl_H sh_T G F' ++ X = A ∧ gi F' ∧ fs [(344, 344, 0, 1), (344, 344, 4, 5), (344, 344, 8, 10), (344, 344, 12, 13), (344, 344, 33, 33), (344, 344, 36, 36), (344, 344, 38, 39), (344, 344, 46, 48), (344, 344, 60, 60), (344, 344, 64, 64), (347, 348, 0, 100000), (358, 358, 0, 100000), (360, 372, 0, 100000), (384, 384, 0, 100000)] F F' ∧ (-2147483648 ≤ z ∧ z ≤ 2147483647) ∧ ((F 344 11 = 0 ∧ F' 344 1 = F 344 1) ∨ (F 344 11 = 1 ∧ F' 344 1 = 0)) ∧ (pli F') ∧ (F' 344 12 = 1 → sob F' ∧ F' 344 36 ≤ 40) ∧ ((F 344 11 = 0 ∧ F' 344 0 = 1 ∧ F' 344 8 = F 344 8) ∨ (F 344 11 = 1 ∧ ((∃ e, sp_prb K nm ts pl ps = .inl e ∧ F' 344 8 = e.1 + 10 * e.2 ∧ F' 344 0 = 2) ∨ (∃ l tl, sp_prb K nm ts pl ps = .inr (l, tl) ∧ F' 344 8 = 0 ∧ ¬ F' 344 0 = 2 ∧ ¬ F' 344 0 = 1))))) gqn
set_option maxHeartbeats 16000000 in
theorem mc_64 {G : Nat → Nat → Option Nat} (hG : gg G) (F : fl_N) (X : xi_H) (hgi : gi F) (K : fl_N) (nm : Int) (ts pl : List Int) (ps : List (List Int)) (hin : kin K (F 344 1)) (htx : ∀ j : Nat, (j : Int) < F 344 1 → F 345 j = K 2 j) (hkw : ∀ j : Nat, j < 76 → F 346 j = ra_at 346 j) (hdm : F 344 11 = 1 → nrel nm (F 344 14) ∧ rpn (F 349) (F 344 15) ts ∧ rpn (F 350) (F 344 17) pl ∧ (rprd F ps ∧ ps.length = pl.length)) (hcs : F 344 11 = 1 → ∀ j : Nat, (j : Int) < F 344 21 → 0 ≤ F 357 j) (hpl : pli F) (hpb : F 344 12 = 1 → sob F ∧ F 344 36 ≤ 40) : fl_M xi_ms 64 8 188 [.ref 344] (fl_H sh_T G F ++ X) (pq_64 G F X K nm ts pl ps) := by
  intro fr lo hfr hlo
  show fl_R xi_ms 64 fr lo 0 [(0, .ref 344)] [] _ _
  have hb1 : 0 ≤ F 344 1 ∧ F 344 1 ≤ 600 := gi_g hgi rfl
  have hb11 : 0 ≤ F 344 11 ∧ F 344 11 ≤ 1 := gi_g hgi rfl
  refine ga_aload_n (v := .ref 344) hm_64 rfl rfl rfl ?_
  refine ga_aload_n (v := .ref 344) hm_64 rfl rfl rfl ?_
  have b1_ : 0 ≤ F 344 11 ∧ F 344 11 ≤ 1 := gi_g hgi rfl
  refine ga_geti (z := F 344 11) hm_64 rfl sc_344 rfl (rfl) ?_
  refine fl_if_eq (a := F 344 11) hm_64 rfl ⟨by omega, by omega⟩ (fun h2_ => ?_) (fun h3_ => ?_)
  ·
    refine fl_iconst hm_64 rfl ?_
    refine ga_puti (z := 1) hm_64 rfl sc_344 rfl rfl ?_
    refine ga_aload_n (v := .ref 344) hm_64 rfl rfl rfl ?_
    refine ga_geti (z := 1) hm_64 rfl sc_344 rfl (fl_u_eq) ?_
    refine fl_if_le hm_64 rfl ⟨by omega, by omega⟩ (fun h => absurd h (by omega)) (fun _ => ?_)
    refine fl_iconst hm_64 rfl ?_
    obtain ⟨F4_, q5_⟩ : ∃ Fq_, Fq_ = (fl_u F 344 0 1) := ⟨_, rfl⟩
    rw [← q5_]
    have g6_ : gi F4_ := by rw [q5_]; exact gi_u (hgi) rfl (by omega) (by omega)
    have g7_ : fs [(344, 344, 0, 1), (344, 344, 4, 5), (344, 344, 8, 10), (344, 344, 12, 13), (344, 344, 33, 33), (344, 344, 36, 36), (344, 344, 38, 39), (344, 344, 46, 48), (344, 344, 60, 60), (344, 344, 64, 64), (347, 348, 0, 100000), (358, 358, 0, 100000), (360, 372, 0, 100000), (384, 384, 0, 100000)] F F4_ := by rw [q5_]; exact fs_u (fs_refl) rfl
    refine gr_i (z := 0) hm_64 rfl rfl rfl ?_
    have e8_ : F4_ 344 1 = F 344 1 := by rw [q5_]; exact fl_u_ne (by first | exact nc_ rfl | decide | omega)
    have b9_ : 0 ≤ F 344 1 ∧ F 344 1 ≤ 600 := gi_g hgi rfl
    have e10_ : F4_ 344 13 = F 344 13 := by rw [q5_]; exact fl_u_ne (by first | exact nc_ rfl | decide | omega)
    have e11_ : F4_ 344 12 = F 344 12 := by rw [q5_]; exact fl_u_ne (by first | exact nc_ rfl | decide | omega)
    have b12_ : 0 ≤ F 344 12 ∧ F 344 12 ≤ 1 := gi_g hgi rfl
    have e13_ : F4_ 344 36 = F 344 36 := by rw [q5_]; exact fl_u_ne (by first | exact nc_ rfl | decide | omega)
    have b14_ : 0 ≤ F 344 36 ∧ F 344 36 ≤ 216 := gi_g hgi rfl
    have e15_ : F4_ 344 0 = 1 := by rw [q5_]; exact fl_u_eq
    have e16_ : F4_ 344 8 = F 344 8 := by rw [q5_]; exact fl_u_ne (by first | exact nc_ rfl | decide | omega)
    have b17_ : 0 ≤ F 344 8 ∧ F 344 8 ≤ 100000 := gi_g hgi rfl
    have e18_ : F4_ 344 11 = F 344 11 := by rw [q5_]; exact fl_u_ne (by first | exact nc_ rfl | decide | omega)
    exact ⟨F4_, rfl, g6_, g7_, (⟨by omega, by omega⟩), (by omega), (pli_cg hpl (show F4_ 344 13 = F 344 13 from (by rw [q5_]; exact (fl_u_ne (by first | exact nc_ rfl | decide | omega)))) (show F4_ 344 58 = F 344 58 from (by rw [q5_]; exact (fl_u_ne (by first | exact nc_ rfl | decide | omega)))) (fun j => (show F4_ 354 j = F 354 j from (by rw [q5_]; exact (fl_u_ne (by first | exact nc_ rfl | decide | omega))))) (fun j => (show F4_ 367 j = F 367 j from (by rw [q5_]; exact (fl_u_ne (by first | exact nc_ rfl | decide | omega))))) (fun j => (show F4_ 368 j = F 368 j from (by rw [q5_]; exact (fl_u_ne (by first | exact nc_ rfl | decide | omega))))) (fun j => (show F4_ 381 j = F 381 j from (by rw [q5_]; exact (fl_u_ne (by first | exact nc_ rfl | decide | omega)))))), (fun h9_ => by have h8_ := hpb (by omega); have h7_ : F4_ 344 36 = F 344 36 := (show F4_ 344 36 = F 344 36 from (by rw [q5_]; exact (fl_u_ne (by first | exact nc_ rfl | decide | omega)))); exact ⟨sob_cg h8_.1 (show F4_ 344 39 = F 344 39 from (by rw [q5_]; exact (fl_u_ne (by first | exact nc_ rfl | decide | omega)))) (fun j => (show F4_ 357 j = F 357 j from (by rw [q5_]; exact (fl_u_ne (by first | exact nc_ rfl | decide | omega))))) (fun j => (show F4_ 367 j = F 367 j from (by rw [q5_]; exact (fl_u_ne (by first | exact nc_ rfl | decide | omega))))) (fun j => (show F4_ 354 j = F 354 j from (by rw [q5_]; exact (fl_u_ne (by first | exact nc_ rfl | decide | omega))))) (fun j => (show F4_ 368 j = F 368 j from (by rw [q5_]; exact (fl_u_ne (by first | exact nc_ rfl | decide | omega))))), by omega⟩), (Or.inl ⟨by omega, by omega, by omega⟩)⟩
  refine fl_iconst hm_64 rfl ?_
  refine fl_goto hm_64 rfl ?_
  refine ga_puti (z := 0) hm_64 rfl sc_344 rfl rfl ?_
  refine ga_aload_n (v := .ref 344) hm_64 rfl rfl rfl ?_
  refine ga_geti (z := 0) hm_64 rfl sc_344 rfl (fl_u_eq) ?_
  refine fl_if_le hm_64 rfl ⟨by omega, by omega⟩ (fun _ => ?_) (fun h => absurd (by omega) h)
  obtain ⟨hnm, hts, hrpl, hps⟩ := hdm (by omega)
  refine ga_aload_n (v := .ref 344) hm_64 rfl rfl rfl ?_
  refine gIv (nY := 1) (F := 0) (L := 0) (As := []) (b := 344) (rest := []) hm_64 rfl hm_48 rfl rfl (fl_ob sc_344) rfl rfl rfl rfl rfl (by omega) (by omega) ?_
  intro f19_ l20_ h21_ h22_
  show fl_R xi_ms 48 f19_ l20_ 0 [(0, .ref 344)] [] _ _
  refine ga_aload_n (v := .ref 344) hm_48 rfl rfl rfl ?_
  refine fl_iconst hm_48 rfl ?_
  refine ga_puti (z := 0) hm_48 rfl sc_344 rfl rfl ?_
  refine ga_aload_n (v := .ref 344) hm_48 rfl rfl rfl ?_
  refine fl_iconst hm_48 rfl ?_
  refine ga_puti (z := 0) hm_48 rfl sc_344 rfl rfl ?_
  refine gr_v hm_48 rfl rfl ?_
  clear h21_ h22_ f19_ l20_
  refine ga_aload_n (v := .ref 344) hm_64 rfl rfl rfl ?_
  refine fl_iconst hm_64 rfl ?_
  refine ga_putz (z := 0) hm_64 rfl sc_344 rfl rfl (by omega) ?_
  refine ga_aload_n (v := .ref 344) hm_64 rfl rfl rfl ?_
  refine fl_iconst hm_64 rfl ?_
  refine ga_putz (z := 0) hm_64 rfl sc_344 rfl rfl (by omega) ?_
  refine ga_aload_n (v := .ref 344) hm_64 rfl rfl rfl ?_
  refine fl_iconst hm_64 rfl ?_
  refine ga_puti (z := 0) hm_64 rfl sc_344 rfl rfl ?_
  refine ga_aload_n (v := .ref 344) hm_64 rfl rfl rfl ?_
  refine fl_iconst hm_64 rfl ?_
  refine ga_puti (z := 0) hm_64 rfl sc_344 rfl rfl ?_
  refine ga_aload_n (v := .ref 344) hm_64 rfl rfl rfl ?_
  obtain ⟨F23_, q24_⟩ : ∃ Fq_, Fq_ = (fl_u (fl_u (fl_u (fl_u (fl_u (fl_u (fl_u F 344 0 0) 344 9 0) 344 10 0) 344 12 0) 344 13 0) 344 33 0) 344 60 0) := ⟨_, rfl⟩
  rw [← q24_]
  have g25_ : gi F23_ := by rw [q24_]; exact gi_u (gi_u (gi_u (gi_u (gi_u (gi_u (gi_u (hgi) rfl (by omega) (by omega)) rfl (by omega) (by omega)) rfl (by omega) (by omega)) rfl (by omega) (by omega)) rfl (by omega) (by omega)) rfl (by omega) (by omega)) rfl (by omega) (by omega)
  have g26_ : fs [(344, 344, 0, 1), (344, 344, 4, 5), (344, 344, 8, 10), (344, 344, 12, 13), (344, 344, 33, 33), (344, 344, 36, 36), (344, 344, 38, 39), (344, 344, 46, 48), (344, 344, 60, 60), (344, 344, 64, 64), (347, 348, 0, 100000), (358, 358, 0, 100000), (360, 372, 0, 100000), (384, 384, 0, 100000)] F F23_ := by rw [q24_]; exact fs_u (fs_u (fs_u (fs_u (fs_u (fs_u (fs_u (fs_refl) rfl) rfl) rfl) rfl) rfl) rfl) rfl
  refine gVv (nY := 3) (F := 0) (L := 0) (As := []) (b := 344) (rest := []) hm_64 rfl hm_49 rfl rfl (fl_ob sc_344) rfl rfl rfl rfl rfl (by omega) (by omega) (mc_49 hG F23_ X g25_) (fun _ _ h => False.elim h) ?_
  have e28_ : F23_ 344 1 = F 344 1 := by rw [q24_]; exact (fl_u_ne (by first | exact nc_ rfl | decide | omega)).trans ((fl_u_ne (by first | exact nc_ rfl | decide | omega)).trans ((fl_u_ne (by first | exact nc_ rfl | decide | omega)).trans ((fl_u_ne (by first | exact nc_ rfl | decide | omega)).trans ((fl_u_ne (by first | exact nc_ rfl | decide | omega)).trans ((fl_u_ne (by first | exact nc_ rfl | decide | omega)).trans (fl_u_ne (by first | exact nc_ rfl | decide | omega)))))))
  have b29_ : 0 ≤ F 344 1 ∧ F 344 1 ≤ 600 := gi_g hgi rfl
  rintro A1_ ⟨F32_, hA_, g33_, s34_, c30_, c31_⟩
  subst hA_
  have g35_ : fs [(344, 344, 0, 1), (344, 344, 4, 5), (344, 344, 8, 10), (344, 344, 12, 13), (344, 344, 33, 33), (344, 344, 36, 36), (344, 344, 38, 39), (344, 344, 46, 48), (344, 344, 60, 60), (344, 344, 64, 64), (347, 348, 0, 100000), (358, 358, 0, 100000), (360, 372, 0, 100000), (384, 384, 0, 100000)] F F32_ := fs_tr g26_ s34_ rfl
  try simp only [e28_] at c30_
  have hgK : gi K := hin.1
  have hkt : rkt K := rkt_of hin
  have hko := hkt.1
  have hk16 := hko.1
  have hrk1 : rk K F32_ := rk_of (n := F 344 1) hin (fun j hj => Eq.trans (show F23_ 345 j = F 345 j from (by rw [q24_]; exact (fl_u_ne (by first | exact nc_ rfl | decide | omega)).trans ((fl_u_ne (by first | exact nc_ rfl | decide | omega)).trans ((fl_u_ne (by first | exact nc_ rfl | decide | omega)).trans ((fl_u_ne (by first | exact nc_ rfl | decide | omega)).trans ((fl_u_ne (by first | exact nc_ rfl | decide | omega)).trans ((fl_u_ne (by first | exact nc_ rfl | decide | omega)).trans ((fl_u_ne (by first | exact nc_ rfl | decide | omega)))))))))) (htx j hj)) c30_ (fun j => (show F32_ 345 j = F23_ 345 j from (s34_ 345 j (by first | exact fs_c rfl | exact (fs_n (by omega) (fs_n (by omega) rfl)))))) (fun j hj => Eq.trans (Eq.trans (a := F32_ 346 j) (b := F23_ 346 j) (s34_ 346 j (by first | exact fs_c rfl | exact (fs_n (by omega) (fs_n (by omega) rfl)))) (show F23_ 346 j = F 346 j from (by rw [q24_]; exact (fl_u_ne (by first | exact nc_ rfl | decide | omega)).trans ((fl_u_ne (by first | exact nc_ rfl | decide | omega)).trans ((fl_u_ne (by first | exact nc_ rfl | decide | omega)).trans ((fl_u_ne (by first | exact nc_ rfl | decide | omega)).trans ((fl_u_ne (by first | exact nc_ rfl | decide | omega)).trans ((fl_u_ne (by first | exact nc_ rfl | decide | omega)).trans ((fl_u_ne (by first | exact nc_ rfl | decide | omega))))))))))) (hkw j hj))
  refine ga_aload_n (v := .ref 344) hm_64 rfl rfl rfl ?_
  have b36_ : 0 ≤ F32_ 344 5 ∧ F32_ 344 5 ≤ 600 := gi_g g33_ rfl
  have e37_ : F23_ 344 9 = 0 := by rw [q24_]; exact (fl_u_ne (by first | exact nc_ rfl | decide | omega)).trans ((fl_u_ne (by first | exact nc_ rfl | decide | omega)).trans ((fl_u_ne (by first | exact nc_ rfl | decide | omega)).trans ((fl_u_ne (by first | exact nc_ rfl | decide | omega)).trans ((fl_u_ne (by first | exact nc_ rfl | decide | omega)).trans (fl_u_eq)))))
  have e38_ : F32_ 344 9 = 0 := (s34_ 344 9 rfl).trans (e37_)
  have e39_ : F23_ 344 33 = 0 := by rw [q24_]; exact (fl_u_ne (by first | exact nc_ rfl | decide | omega)).trans (fl_u_eq)
  have e40_ : F32_ 344 33 = 0 := (s34_ 344 33 rfl).trans (e39_)
  refine gVv (nY := 4) (F := 7) (L := 165) (As := []) (b := 344) (rest := []) hm_64 rfl hm_184 rfl rfl (fl_ob sc_344) rfl rfl rfl rfl rfl (by omega) (by omega) (mc_184 hG F32_ X g33_ (K) (nm) (ts) (pl) (ps) (hgK) hrk1 (hkt) (⟨by omega, by omega⟩) (by omega) (by omega) (by rw [show F32_ 344 14 = F 344 14 from (Eq.trans (a := F32_ 344 14) (b := F23_ 344 14) (s34_ 344 14 (by first | exact fs_c rfl | exact (fs_n (by omega) (fs_n (by omega) rfl)))) (show F23_ 344 14 = F 344 14 from (by rw [q24_]; exact (fl_u_ne (by first | exact nc_ rfl | decide | omega)).trans ((fl_u_ne (by first | exact nc_ rfl | decide | omega)).trans ((fl_u_ne (by first | exact nc_ rfl | decide | omega)).trans ((fl_u_ne (by first | exact nc_ rfl | decide | omega)).trans ((fl_u_ne (by first | exact nc_ rfl | decide | omega)).trans ((fl_u_ne (by first | exact nc_ rfl | decide | omega)).trans ((fl_u_ne (by first | exact nc_ rfl | decide | omega)))))))))))]; exact hnm) ((rpn_fs (by rw [q24_]; exact (rpn_u (rpn_u (rpn_u (rpn_u (rpn_u (rpn_u (rpn_u hts (by first | decide | exact nc_ rfl | omega) (by first | decide | exact nc_ rfl | omega)) (by first | decide | exact nc_ rfl | omega) (by first | decide | exact nc_ rfl | omega)) (by first | decide | exact nc_ rfl | omega) (by first | decide | exact nc_ rfl | omega)) (by first | decide | exact nc_ rfl | omega) (by first | decide | exact nc_ rfl | omega)) (by first | decide | exact nc_ rfl | omega) (by first | decide | exact nc_ rfl | omega)) (by first | decide | exact nc_ rfl | omega) (by first | decide | exact nc_ rfl | omega)) (by first | decide | exact nc_ rfl | omega) (by first | decide | exact nc_ rfl | omega))) s34_ (fun _ => (by first | exact fs_c rfl | exact (fs_n (by omega) (fs_n (by omega) rfl)))) (by first | exact fs_c rfl | exact (fs_n (by omega) (fs_n (by omega) rfl))))) ((rpn_fs (by rw [q24_]; exact (rpn_u (rpn_u (rpn_u (rpn_u (rpn_u (rpn_u (rpn_u hrpl (by first | decide | exact nc_ rfl | omega) (by first | decide | exact nc_ rfl | omega)) (by first | decide | exact nc_ rfl | omega) (by first | decide | exact nc_ rfl | omega)) (by first | decide | exact nc_ rfl | omega) (by first | decide | exact nc_ rfl | omega)) (by first | decide | exact nc_ rfl | omega) (by first | decide | exact nc_ rfl | omega)) (by first | decide | exact nc_ rfl | omega) (by first | decide | exact nc_ rfl | omega)) (by first | decide | exact nc_ rfl | omega) (by first | decide | exact nc_ rfl | omega)) (by first | decide | exact nc_ rfl | omega) (by first | decide | exact nc_ rfl | omega))) s34_ (fun _ => (by first | exact fs_c rfl | exact (fs_n (by omega) (fs_n (by omega) rfl)))) (by first | exact fs_c rfl | exact (fs_n (by omega) (fs_n (by omega) rfl))))) (⟨(rprd_fs (by rw [q24_]; exact (rprd_u (rprd_u (rprd_u (rprd_u (rprd_u (rprd_u (rprd_u hps.1 (by first | decide | exact nc_ rfl | omega)) (by first | decide | exact nc_ rfl | omega)) (by first | decide | exact nc_ rfl | omega)) (by first | decide | exact nc_ rfl | omega)) (by first | decide | exact nc_ rfl | omega)) (by first | decide | exact nc_ rfl | omega)) (by first | decide | exact nc_ rfl | omega))) s34_ (by first | exact fs_rg rfl | exact fun r j hj => (fs_n (by omega) (fs_n (by omega) rfl)))), hps.2⟩) (by omega)) (fun _ _ h => False.elim h) ?_
  have e42_ : F23_ 344 10 = 0 := by rw [q24_]; exact (fl_u_ne (by first | exact nc_ rfl | decide | omega)).trans ((fl_u_ne (by first | exact nc_ rfl | decide | omega)).trans ((fl_u_ne (by first | exact nc_ rfl | decide | omega)).trans ((fl_u_ne (by first | exact nc_ rfl | decide | omega)).trans (fl_u_eq))))
  have e43_ : F32_ 344 10 = 0 := (s34_ 344 10 rfl).trans (e42_)
  rintro A1_ (⟨F47_, hA_, g48_, s49_, c44_, c45_, c46_⟩ | ⟨F53_, hA_, g54_, s55_, c50_, c51_, c52_⟩)
  ·
    subst hA_
    have g56_ : fs [(344, 344, 0, 1), (344, 344, 4, 5), (344, 344, 8, 10), (344, 344, 12, 13), (344, 344, 33, 33), (344, 344, 36, 36), (344, 344, 38, 39), (344, 344, 46, 48), (344, 344, 60, 60), (344, 344, 64, 64), (347, 348, 0, 100000), (358, 358, 0, 100000), (360, 372, 0, 100000), (384, 384, 0, 100000)] F F47_ := fs_tr g35_ s49_ rfl
    have rk57_ : rk K F47_ := rk_fs hrk1 s49_ (fs_rg rfl) rfl
    have c45_s := c45_.1 (by omega)
    clear c45_
    refine ga_aload_n (v := .ref 344) hm_64 rfl rfl rfl ?_
    refine gIi (nY := 1) (F := 0) (L := 0) (As := []) (b := 344) (rest := []) hm_64 rfl hm_62 rfl rfl (fl_ob sc_344) rfl rfl rfl rfl rfl (by omega) (by omega) ?_
    intro f58_ l59_ h60_ h61_
    show fl_R xi_ms 62 f58_ l59_ 0 [(0, .ref 344)] [] _ _
    refine ga_aload_n (v := .ref 344) hm_62 rfl rfl rfl ?_
    refine ga_aload_n (v := .ref 344) hm_62 rfl rfl rfl ?_
    have b62_ : 0 ≤ F47_ 344 9 ∧ F47_ 344 9 ≤ 5 := gi_g g48_ rfl
    refine ga_geti (z := F47_ 344 9) hm_62 rfl sc_344 rfl (rfl) ?_
    refine fx_if_ne (a := F47_ 344 9) hm_62 rfl ⟨by omega, by omega⟩ (fun h63_ => ?_) (fun h64_ => ?_)
    ·
      refine ga_aload_n (v := .ref 344) hm_62 rfl rfl rfl ?_
      refine ga_geti (z := F47_ 344 9) hm_62 rfl sc_344 rfl (rfl) ?_
      refine fl_bipush hm_62 rfl rfl ?_
      refine ga_aload_n (v := .ref 344) hm_62 rfl rfl rfl ?_
      have b65_ : 0 ≤ F47_ 344 10 ∧ F47_ 344 10 ≤ 600 := gi_g g48_ rfl
      refine ga_geti (z := F47_ 344 10) hm_62 rfl sc_344 rfl (rfl) ?_
      refine ga_imul (a := 10) (b := F47_ 344 10) (c := 10 * (F47_ 344 10)) hm_62 rfl (by omega) ?_
      refine ga_iadd (a := F47_ 344 9) (b := 10 * (F47_ 344 10)) (c := F47_ 344 9 + 10 * (F47_ 344 10)) hm_62 rfl (by omega) ?_
      refine ga_puti (z := F47_ 344 9 + 10 * (F47_ 344 10)) hm_62 rfl sc_344 rfl rfl ?_
      refine ga_aload_n (v := .ref 344) hm_62 rfl rfl rfl ?_
      refine fl_iconst hm_62 rfl ?_
      refine ga_puti (z := 0) hm_62 rfl sc_344 rfl rfl ?_
      refine ga_aload_n (v := .ref 344) hm_62 rfl rfl rfl ?_
      refine ga_aload_n (v := .ref 344) hm_62 rfl rfl rfl ?_
      refine ga_geti (z := F47_ 344 9) hm_62 rfl sc_344 rfl ((fl_u_ne (by first | exact nc_ rfl | decide | omega)).trans (fl_u_ne (by first | exact nc_ rfl | decide | omega))) ?_
      refine fx_if_ne (a := F47_ 344 9) hm_62 rfl ⟨by omega, by omega⟩ (fun h66_ => ?_) (fun h67_ => ?_)
      ·
        refine fl_iconst hm_62 rfl ?_
        refine ga_puti (z := 1) hm_62 rfl sc_344 rfl rfl ?_
        refine ga_aload_n (v := .ref 344) hm_62 rfl rfl rfl ?_
        refine ga_geti (z := 1) hm_62 rfl sc_344 rfl (fl_u_eq) ?_
        refine fl_if_ne hm_62 rfl ⟨by omega, by omega⟩ (fun _ => ?_) (fun h => absurd (by omega) h)
        refine fl_iconst hm_62 rfl ?_
        refine gr_i hm_62 rfl rfl (ga_nb (by omega)) ?_
        clear h60_ h61_ f58_ l59_
        refine fl_if_ne hm_64 rfl ⟨by omega, by omega⟩ (fun h => absurd h (by omega)) (fun _ => ?_)
        refine ga_aload_n (v := .ref 344) hm_64 rfl rfl rfl ?_
        refine fl_iconst hm_64 rfl ?_
        refine ga_puti (z := 2) hm_64 rfl sc_344 rfl rfl ?_
        refine fl_iconst hm_64 rfl ?_
        obtain ⟨F68_, q69_⟩ : ∃ Fq_, Fq_ = (fl_u (fl_u (fl_u (fl_u F47_ 344 8 (F47_ 344 9 + 10 * (F47_ 344 10))) 344 1 0) 344 0 1) 344 0 2) := ⟨_, rfl⟩
        rw [← q69_]
        have g70_ : gi F68_ := by rw [q69_]; exact gi_u (gi_u (gi_u (gi_u (g48_) rfl (by omega) (by omega)) rfl (by omega) (by omega)) rfl (by omega) (by omega)) rfl (by omega) (by omega)
        have g71_ : fs [(344, 344, 0, 1), (344, 344, 4, 5), (344, 344, 8, 10), (344, 344, 12, 13), (344, 344, 33, 33), (344, 344, 36, 36), (344, 344, 38, 39), (344, 344, 46, 48), (344, 344, 60, 60), (344, 344, 64, 64), (347, 348, 0, 100000), (358, 358, 0, 100000), (360, 372, 0, 100000), (384, 384, 0, 100000)] F F68_ := by rw [q69_]; exact fs_u (fs_u (fs_u (fs_u (g56_) rfl) rfl) rfl) rfl
        have rk72_ : rk K F68_ := by rw [q69_]; exact rk_u (rk_u (rk_u (rk_u (rk57_) (by first | decide | exact nc_ rfl | omega) (by first | decide | exact nc_ rfl | omega)) (by first | decide | exact nc_ rfl | omega) (by first | decide | exact nc_ rfl | omega)) (by first | decide | exact nc_ rfl | omega) (by first | decide | exact nc_ rfl | omega)) (by first | decide | exact nc_ rfl | omega) (by first | decide | exact nc_ rfl | omega)
        refine gr_i (z := 0) hm_64 rfl rfl rfl ?_
        have e73_ : F68_ 344 1 = 0 := by rw [q69_]; exact (fl_u_ne (by first | exact nc_ rfl | decide | omega)).trans ((fl_u_ne (by first | exact nc_ rfl | decide | omega)).trans (fl_u_eq))
        have e74_ : F23_ 344 13 = 0 := by rw [q24_]; exact (fl_u_ne (by first | exact nc_ rfl | decide | omega)).trans ((fl_u_ne (by first | exact nc_ rfl | decide | omega)).trans (fl_u_eq))
        have e75_ : F32_ 344 13 = 0 := (s34_ 344 13 rfl).trans (e74_)
        have e76_ : F47_ 344 13 = 0 := (s49_ 344 13 rfl).trans (e75_)
        have e77_ : F68_ 344 13 = 0 := by rw [q69_]; exact (fl_u_ne (by first | exact nc_ rfl | decide | omega)).trans ((fl_u_ne (by first | exact nc_ rfl | decide | omega)).trans ((fl_u_ne (by first | exact nc_ rfl | decide | omega)).trans ((fl_u_ne (by first | exact nc_ rfl | decide | omega)).trans (e76_))))
        have e78_ : F23_ 344 12 = 0 := by rw [q24_]; exact (fl_u_ne (by first | exact nc_ rfl | decide | omega)).trans ((fl_u_ne (by first | exact nc_ rfl | decide | omega)).trans ((fl_u_ne (by first | exact nc_ rfl | decide | omega)).trans (fl_u_eq)))
        have e79_ : F32_ 344 12 = 0 := (s34_ 344 12 rfl).trans (e78_)
        have e80_ : F47_ 344 12 = 0 := (s49_ 344 12 rfl).trans (e79_)
        have e81_ : F68_ 344 12 = 0 := by rw [q69_]; exact (fl_u_ne (by first | exact nc_ rfl | decide | omega)).trans ((fl_u_ne (by first | exact nc_ rfl | decide | omega)).trans ((fl_u_ne (by first | exact nc_ rfl | decide | omega)).trans ((fl_u_ne (by first | exact nc_ rfl | decide | omega)).trans (e80_))))
        have e82_ : F68_ 344 36 = F47_ 344 36 := by rw [q69_]; exact (fl_u_ne (by first | exact nc_ rfl | decide | omega)).trans ((fl_u_ne (by first | exact nc_ rfl | decide | omega)).trans ((fl_u_ne (by first | exact nc_ rfl | decide | omega)).trans (fl_u_ne (by first | exact nc_ rfl | decide | omega))))
        have b83_ : 0 ≤ F47_ 344 36 ∧ F47_ 344 36 ≤ 216 := gi_g g48_ rfl
        have e84_ : F68_ 344 0 = 2 := by rw [q69_]; exact fl_u_eq
        have e85_ : F68_ 344 8 = F47_ 344 9 + 10 * (F47_ 344 10) := by rw [q69_]; exact (fl_u_ne (by first | exact nc_ rfl | decide | omega)).trans ((fl_u_ne (by first | exact nc_ rfl | decide | omega)).trans ((fl_u_ne (by first | exact nc_ rfl | decide | omega)).trans (fl_u_eq)))
        have b86_ : 0 ≤ F 344 8 ∧ F 344 8 ≤ 100000 := gi_g hgi rfl
        have e87_ : F23_ 344 11 = F 344 11 := by rw [q24_]; exact (fl_u_ne (by first | exact nc_ rfl | decide | omega)).trans ((fl_u_ne (by first | exact nc_ rfl | decide | omega)).trans ((fl_u_ne (by first | exact nc_ rfl | decide | omega)).trans ((fl_u_ne (by first | exact nc_ rfl | decide | omega)).trans ((fl_u_ne (by first | exact nc_ rfl | decide | omega)).trans ((fl_u_ne (by first | exact nc_ rfl | decide | omega)).trans (fl_u_ne (by first | exact nc_ rfl | decide | omega)))))))
        have e88_ : F32_ 344 11 = F 344 11 := (s34_ 344 11 rfl).trans (e87_)
        have e89_ : F47_ 344 11 = F 344 11 := (s49_ 344 11 rfl).trans (e88_)
        have e90_ : F68_ 344 11 = F 344 11 := by rw [q69_]; exact (fl_u_ne (by first | exact nc_ rfl | decide | omega)).trans ((fl_u_ne (by first | exact nc_ rfl | decide | omega)).trans ((fl_u_ne (by first | exact nc_ rfl | decide | omega)).trans ((fl_u_ne (by first | exact nc_ rfl | decide | omega)).trans (e89_))))
        exact ⟨F68_, rfl, g70_, g71_, (⟨by omega, by omega⟩), (by omega), (pli_0 (by omega)), (fun h9_ => absurd h9_ (by omega)), (Or.inr ⟨by omega, Or.inl ⟨(F47_ 344 9, F47_ 344 10), c45_s, by show _ = F47_ 344 9 + 10 * F47_ 344 10; omega, by omega⟩⟩)⟩
      exfalso; omega
    exfalso; omega
  subst hA_
  have g91_ : fs [(344, 344, 0, 1), (344, 344, 4, 5), (344, 344, 8, 10), (344, 344, 12, 13), (344, 344, 33, 33), (344, 344, 36, 36), (344, 344, 38, 39), (344, 344, 46, 48), (344, 344, 60, 60), (344, 344, 64, 64), (347, 348, 0, 100000), (358, 358, 0, 100000), (360, 372, 0, 100000), (384, 384, 0, 100000)] F F53_ := fs_tr g35_ s55_ rfl
  have rk92_ : rk K F53_ := rk_fs hrk1 s55_ (fs_rg rfl) rfl
  refine ga_aload_n (v := .ref 344) hm_64 rfl rfl rfl ?_
  refine gIi (nY := 1) (F := 0) (L := 0) (As := []) (b := 344) (rest := []) hm_64 rfl hm_62 rfl rfl (fl_ob sc_344) rfl rfl rfl rfl rfl (by omega) (by omega) ?_
  intro f93_ l94_ h95_ h96_
  show fl_R xi_ms 62 f93_ l94_ 0 [(0, .ref 344)] [] _ _
  refine ga_aload_n (v := .ref 344) hm_62 rfl rfl rfl ?_
  refine ga_aload_n (v := .ref 344) hm_62 rfl rfl rfl ?_
  have b97_ : 0 ≤ F53_ 344 9 ∧ F53_ 344 9 ≤ 5 := gi_g g54_ rfl
  refine ga_geti (z := F53_ 344 9) hm_62 rfl sc_344 rfl (rfl) ?_
  refine fx_if_ne (a := F53_ 344 9) hm_62 rfl ⟨by omega, by omega⟩ (fun h98_ => ?_) (fun h99_ => ?_)
  · exfalso; omega
  refine fl_iconst hm_62 rfl ?_
  refine fl_goto hm_62 rfl ?_
  refine ga_puti (z := 0) hm_62 rfl sc_344 rfl rfl ?_
  refine ga_aload_n (v := .ref 344) hm_62 rfl rfl rfl ?_
  refine fl_iconst hm_62 rfl ?_
  refine ga_puti (z := 0) hm_62 rfl sc_344 rfl rfl ?_
  refine ga_aload_n (v := .ref 344) hm_62 rfl rfl rfl ?_
  refine ga_aload_n (v := .ref 344) hm_62 rfl rfl rfl ?_
  refine ga_geti (z := F53_ 344 9) hm_62 rfl sc_344 rfl ((fl_u_ne (by first | exact nc_ rfl | decide | omega)).trans (fl_u_ne (by first | exact nc_ rfl | decide | omega))) ?_
  refine fx_if_ne (a := F53_ 344 9) hm_62 rfl ⟨by omega, by omega⟩ (fun h100_ => ?_) (fun h101_ => ?_)
  · exfalso; omega
  refine fl_iconst hm_62 rfl ?_
  refine fl_goto hm_62 rfl ?_
  refine ga_puti (z := 0) hm_62 rfl sc_344 rfl rfl ?_
  refine ga_aload_n (v := .ref 344) hm_62 rfl rfl rfl ?_
  refine ga_geti (z := 0) hm_62 rfl sc_344 rfl (fl_u_eq) ?_
  refine fl_if_ne hm_62 rfl ⟨by omega, by omega⟩ (fun h => absurd h (by omega)) (fun _ => ?_)
  refine fl_iconst hm_62 rfl ?_
  refine fl_goto hm_62 rfl ?_
  refine gr_i hm_62 rfl rfl (ga_nb (by omega)) ?_
  clear h95_ h96_ f93_ l94_
  refine fl_if_ne hm_64 rfl ⟨by omega, by omega⟩ (fun _ => ?_) (fun h => absurd (by omega) h)
  refine ga_aload_n (v := .ref 344) hm_64 rfl rfl rfl ?_
  refine ga_aload_n (v := .ref 344) hm_64 rfl rfl rfl ?_
  have b102_ : -9223372036854775808 ≤ F53_ 344 64 ∧ F53_ 344 64 ≤ 9223372036854775807 := gi_g g54_ rfl
  refine ga_getl (z := F53_ 344 64) hm_64 rfl sc_344 rfl ((fl_u_ne (by first | exact nc_ rfl | decide | omega)).trans ((fl_u_ne (by first | exact nc_ rfl | decide | omega)).trans (fl_u_ne (by first | exact nc_ rfl | decide | omega)))) ?_
  refine ga_putl hm_64 rfl sc_344 rfl rfl ?_
  refine ga_aload_n (v := .ref 344) hm_64 rfl rfl rfl ?_
  refine fl_iconst hm_64 rfl ?_
  refine ga_puti (z := 0) hm_64 rfl sc_344 rfl rfl ?_
  refine ga_aload_n (v := .ref 344) hm_64 rfl rfl rfl ?_
  have b103_ : 0 ≤ F53_ 344 36 ∧ F53_ 344 36 ≤ 216 := gi_g g54_ rfl
  refine ga_geti (z := F53_ 344 36) hm_64 rfl sc_344 rfl ((fl_u_ne (by first | exact nc_ rfl | decide | omega)).trans ((fl_u_ne (by first | exact nc_ rfl | decide | omega)).trans ((fl_u_ne (by first | exact nc_ rfl | decide | omega)).trans ((fl_u_ne (by first | exact nc_ rfl | decide | omega)).trans (fl_u_ne (by first | exact nc_ rfl | decide | omega)))))) ?_
  refine fl_bipush hm_64 rfl rfl ?_
  refine fl_icmp_gt (a := F53_ 344 36) (b := 40) hm_64 rfl ⟨by omega, by omega⟩ ⟨by omega, by omega⟩ (fun h104_ => ?_) (fun h105_ => ?_)
  ·
    refine fl_iconst hm_64 rfl ?_
    refine ga_istore_n (lv2 := [(1, .int (Int32.ofInt 0)), (0, .ref 344)]) hm_64 rfl (Nat.le_of_ble_eq_true rfl) rfl ?_
    refine fl_iconst hm_64 rfl ?_
    refine ga_istore_n (lv2 := [(2, .int (Int32.ofInt 0)), (1, .int (Int32.ofInt 0)), (0, .ref 344)]) hm_64 rfl (Nat.le_of_ble_eq_true rfl) rfl ?_
    obtain ⟨F106_, q107_⟩ : ∃ Fq_, Fq_ = (fl_u (fl_u (fl_u (fl_u (fl_u F53_ 344 8 0) 344 1 0) 344 0 0) 344 38 (F53_ 344 64)) 344 39 0) := ⟨_, rfl⟩
    rw [← q107_]
    have g108_ : gi F106_ := by rw [q107_]; exact gi_u (gi_u (gi_u (gi_u (gi_u (g54_) rfl (by omega) (by omega)) rfl (by omega) (by omega)) rfl (by omega) (by omega)) rfl (by omega) (by omega)) rfl (by omega) (by omega)
    have g109_ : fs [(344, 344, 0, 1), (344, 344, 4, 5), (344, 344, 8, 10), (344, 344, 12, 13), (344, 344, 33, 33), (344, 344, 36, 36), (344, 344, 38, 39), (344, 344, 46, 48), (344, 344, 60, 60), (344, 344, 64, 64), (347, 348, 0, 100000), (358, 358, 0, 100000), (360, 372, 0, 100000), (384, 384, 0, 100000)] F F106_ := by rw [q107_]; exact fs_u (fs_u (fs_u (fs_u (fs_u (g91_) rfl) rfl) rfl) rfl) rfl
    have rk110_ : rk K F106_ := by rw [q107_]; exact rk_u (rk_u (rk_u (rk_u (rk_u (rk92_) (by first | decide | exact nc_ rfl | omega) (by first | decide | exact nc_ rfl | omega)) (by first | decide | exact nc_ rfl | omega) (by first | decide | exact nc_ rfl | omega)) (by first | decide | exact nc_ rfl | omega) (by first | decide | exact nc_ rfl | omega)) (by first | decide | exact nc_ rfl | omega) (by first | decide | exact nc_ rfl | omega)) (by first | decide | exact nc_ rfl | omega) (by first | decide | exact nc_ rfl | omega)
    have e114_ : F106_ 344 36 = F53_ 344 36 := by rw [q107_]; exact (fl_u_ne (by first | exact nc_ rfl | decide | omega)).trans ((fl_u_ne (by first | exact nc_ rfl | decide | omega)).trans ((fl_u_ne (by first | exact nc_ rfl | decide | omega)).trans ((fl_u_ne (by first | exact nc_ rfl | decide | omega)).trans (fl_u_ne (by first | exact nc_ rfl | decide | omega)))))
    have L112_ : ∀ (n111_ : Nat) (ft : Int) (a : Int) (F1 : fl_N), (5 - a : Int).toNat = n111_ → (gi F1) → (fs [(344, 344, 39, 39), (367, 372, 0, 100000), (384, 384, 0, 100000)] F106_ F1) → (0 ≤ a ∧ a ≤ 5) → (0 ≤ ft ∧ ft ≤ 1) → (sob F1) → (ft = 1 → F106_ 344 36 ≤ 40) → fl_R xi_ms 64 fr lo 101 [(2, .int (Int32.ofInt a)), (1, .int (Int32.ofInt ft)), (0, .ref 344)] [] (fl_H sh_T G F1 ++ X) (pq_64 G F X K nm ts pl ps) := by
      intro n111_
      induction n111_ using Nat.strongRecOn with
      | ind n111_ ih113_ =>
      intro ft a F1 hn115_ hg_F1 hf_F1 ha hft hs1 hf4
      have g116_ : fs [(344, 344, 0, 1), (344, 344, 4, 5), (344, 344, 8, 10), (344, 344, 12, 13), (344, 344, 33, 33), (344, 344, 36, 36), (344, 344, 38, 39), (344, 344, 46, 48), (344, 344, 60, 60), (344, 344, 64, 64), (347, 348, 0, 100000), (358, 358, 0, 100000), (360, 372, 0, 100000), (384, 384, 0, 100000)] F F1 := fs_tr g109_ hf_F1 rfl
      have rk117_ : rk K F1 := rk_fs rk110_ hf_F1 (fs_rg rfl) rfl
      refine ga_iload_n (z := a) hm_64 rfl rfl ?_
      refine ga_aload_n (v := .ref 344) hm_64 rfl rfl rfl ?_
      have e118_ : F23_ 344 21 = F 344 21 := by rw [q24_]; exact (fl_u_ne (by first | exact nc_ rfl | decide | omega)).trans ((fl_u_ne (by first | exact nc_ rfl | decide | omega)).trans ((fl_u_ne (by first | exact nc_ rfl | decide | omega)).trans ((fl_u_ne (by first | exact nc_ rfl | decide | omega)).trans ((fl_u_ne (by first | exact nc_ rfl | decide | omega)).trans ((fl_u_ne (by first | exact nc_ rfl | decide | omega)).trans (fl_u_ne (by first | exact nc_ rfl | decide | omega)))))))
      have e119_ : F32_ 344 21 = F 344 21 := (s34_ 344 21 rfl).trans (e118_)
      have e120_ : F53_ 344 21 = F 344 21 := (s55_ 344 21 rfl).trans (e119_)
      have e121_ : F106_ 344 21 = F 344 21 := by rw [q107_]; exact (fl_u_ne (by first | exact nc_ rfl | decide | omega)).trans ((fl_u_ne (by first | exact nc_ rfl | decide | omega)).trans ((fl_u_ne (by first | exact nc_ rfl | decide | omega)).trans ((fl_u_ne (by first | exact nc_ rfl | decide | omega)).trans ((fl_u_ne (by first | exact nc_ rfl | decide | omega)).trans (e120_)))))
      have e122_ : F1 344 21 = F 344 21 := (hf_F1 344 21 rfl).trans (e121_)
      have b123_ : 0 ≤ F 344 21 ∧ F 344 21 ≤ 5 := gi_g hgi rfl
      refine ga_geti (z := F 344 21) hm_64 rfl sc_344 rfl (e122_) ?_
      refine fl_icmp_ge (a := a) (b := F 344 21) hm_64 rfl ⟨by omega, by omega⟩ ⟨by omega, by omega⟩ (fun h124_ => ?_) (fun h125_ => ?_)
      ·
        refine ga_iload_n (z := ft) hm_64 rfl rfl ?_
        refine fx_if_ne (a := ft) hm_64 rfl ⟨by omega, by omega⟩ (fun h126_ => ?_) (fun h127_ => ?_)
        ·
          refine ga_aload_n (v := .ref 344) hm_64 rfl rfl rfl ?_
          refine ga_aload_n (v := .ref 344) hm_64 rfl rfl rfl ?_
          refine fl_iconst hm_64 rfl ?_
          refine fl_bipush hm_64 rfl rfl ?_
          refine ga_aload_n (v := .ref 344) hm_64 rfl rfl rfl ?_
          refine ga_getr (b := 358) hm_64 rfl sc_344 rfl ?_
          refine fl_iconst hm_64 rfl ?_
          have e128_ : F106_ 358 5 = F53_ 358 5 := by rw [q107_]; exact (fl_u_ne (by first | exact nc_ rfl | decide | omega)).trans ((fl_u_ne (by first | exact nc_ rfl | decide | omega)).trans ((fl_u_ne (by first | exact nc_ rfl | decide | omega)).trans ((fl_u_ne (by first | exact nc_ rfl | decide | omega)).trans (fl_u_ne (by first | exact nc_ rfl | decide | omega)))))
          have e129_ : F1 358 5 = F53_ 358 5 := (hf_F1 358 5 rfl).trans (e128_)
          have b130_ : 0 ≤ F53_ 358 5 ∧ F53_ 358 5 ≤ 4 := gi_g g54_ rfl
          refine ga_iald (z := 5) (w := F53_ 358 5) hm_64 rfl sc_358 (by omega) (by omega) (by omega) (e129_) ?_
          refine fl_iconst hm_64 rfl ?_
          refine gVl (nY := 9) (F := 2) (L := 47) (As := [.int (Int32.ofInt 5), .int (Int32.ofInt 40), .int (Int32.ofInt (F53_ 358 5)), .int (Int32.ofInt 0)]) (b := 344) (rest := [.ref 344]) hm_64 rfl hm_156 rfl rfl (fl_ob sc_344) rfl rfl rfl rfl rfl (by omega) (by omega) (mc_156 hG F1 X hg_F1 (5) (40) (F53_ 358 5) (0) (⟨by omega, by omega⟩) (by omega) (⟨by omega, by omega⟩) (⟨by omega, by omega⟩)) (fun _ _ h => False.elim h) ?_
          rintro z131_ A1_ ⟨hA_, c132_⟩
          subst hA_
          refine ga_putl hm_64 rfl sc_344 rfl rfl ?_
          refine ga_aload_n (v := .ref 344) hm_64 rfl rfl rfl ?_
          refine ga_aload_n (v := .ref 344) hm_64 rfl rfl rfl ?_
          refine fl_iconst hm_64 rfl ?_
          refine fl_bipush hm_64 rfl rfl ?_
          refine ga_aload_n (v := .ref 344) hm_64 rfl rfl rfl ?_
          refine ga_getr (b := 358) hm_64 rfl sc_344 rfl ?_
          refine fl_iconst hm_64 rfl ?_
          refine ga_iald (z := 5) (w := F53_ 358 5) hm_64 rfl sc_358 (by omega) (by omega) (by omega) ((fl_u_ne (by first | exact nc_ rfl | decide | omega)).trans (e129_)) ?_
          refine fl_iconst hm_64 rfl ?_
          obtain ⟨F133_, q134_⟩ : ∃ Fq_, Fq_ = (fl_u F1 344 46 z131_) := ⟨_, rfl⟩
          rw [← q134_]
          have g135_ : gi F133_ := by rw [q134_]; exact gi_u (hg_F1) rfl (by omega) (by omega)
          have g136_ : fs [(344, 344, 0, 1), (344, 344, 4, 5), (344, 344, 8, 10), (344, 344, 12, 13), (344, 344, 33, 33), (344, 344, 36, 36), (344, 344, 38, 39), (344, 344, 46, 48), (344, 344, 60, 60), (344, 344, 64, 64), (347, 348, 0, 100000), (358, 358, 0, 100000), (360, 372, 0, 100000), (384, 384, 0, 100000)] F F133_ := by rw [q134_]; exact fs_u (g116_) rfl
          have rk137_ : rk K F133_ := by rw [q134_]; exact rk_u (rk117_) (by first | decide | exact nc_ rfl | omega) (by first | decide | exact nc_ rfl | omega)
          refine gVl (nY := 9) (F := 2) (L := 47) (As := [.int (Int32.ofInt 5), .int (Int32.ofInt 40), .int (Int32.ofInt (F53_ 358 5)), .int (Int32.ofInt 1)]) (b := 344) (rest := [.ref 344]) hm_64 rfl hm_156 rfl rfl (fl_ob sc_344) rfl rfl rfl rfl rfl (by omega) (by omega) (mc_156 hG F133_ X g135_ (5) (40) (F53_ 358 5) (1) (⟨by omega, by omega⟩) (by omega) (⟨by omega, by omega⟩) (⟨by omega, by omega⟩)) (fun _ _ h => False.elim h) ?_
          rintro z138_ A1_ ⟨hA_, c139_⟩
          subst hA_
          refine ga_putl hm_64 rfl sc_344 rfl rfl ?_
          refine ga_aload_n (v := .ref 344) hm_64 rfl rfl rfl ?_
          refine ga_aload_n (v := .ref 344) hm_64 rfl rfl rfl ?_
          refine fl_iconst hm_64 rfl ?_
          refine fl_bipush hm_64 rfl rfl ?_
          obtain ⟨F140_, q141_⟩ : ∃ Fq_, Fq_ = (fl_u F133_ 344 47 z138_) := ⟨_, rfl⟩
          rw [← q141_]
          have g142_ : gi F140_ := by rw [q141_]; exact gi_u (g135_) rfl (by omega) (by omega)
          have g143_ : fs [(344, 344, 0, 1), (344, 344, 4, 5), (344, 344, 8, 10), (344, 344, 12, 13), (344, 344, 33, 33), (344, 344, 36, 36), (344, 344, 38, 39), (344, 344, 46, 48), (344, 344, 60, 60), (344, 344, 64, 64), (347, 348, 0, 100000), (358, 358, 0, 100000), (360, 372, 0, 100000), (384, 384, 0, 100000)] F F140_ := by rw [q141_]; exact fs_u (g136_) rfl
          have rk144_ : rk K F140_ := by rw [q141_]; exact rk_u (rk137_) (by first | decide | exact nc_ rfl | omega) (by first | decide | exact nc_ rfl | omega)
          refine gVi (nY := 6) (F := 1) (L := 23) (As := [.int (Int32.ofInt 5), .int (Int32.ofInt 40)]) (b := 344) (rest := [.ref 344]) hm_64 rfl hm_159 rfl rfl (fl_ob sc_344) rfl rfl rfl rfl rfl (by omega) (by omega) (mc_159 hG F140_ X g142_ (5) (40) (⟨by omega, by omega⟩) (by omega)) (fun _ _ h => False.elim h) ?_
          rintro z145_ A1_ ⟨hA_, c146_⟩
          subst hA_
          refine ga_putz (z := z145_) hm_64 rfl sc_344 rfl rfl (by omega) ?_
          refine ga_aload_n (v := .ref 344) hm_64 rfl rfl rfl ?_
          refine fl_iconst hm_64 rfl ?_
          refine ga_putz (z := 1) hm_64 rfl sc_344 rfl rfl (by omega) ?_
          refine ga_aload_n (v := .ref 344) hm_64 rfl rfl rfl ?_
          have e147_ : F133_ 344 39 = F1 344 39 := by rw [q134_]; exact fl_u_ne (by first | exact nc_ rfl | decide | omega)
          have e148_ : F140_ 344 39 = F1 344 39 := by rw [q141_]; exact (fl_u_ne (by first | exact nc_ rfl | decide | omega)).trans (e147_)
          have b149_ : 0 ≤ F1 344 39 ∧ F1 344 39 ≤ 40 := gi_g hg_F1 rfl
          refine ga_geti (z := F1 344 39) hm_64 rfl sc_344 rfl ((fl_u_ne (by first | exact nc_ rfl | decide | omega)).trans ((fl_u_ne (by first | exact nc_ rfl | decide | omega)).trans (e148_))) ?_
          obtain ⟨F150_, q151_⟩ : ∃ Fq_, Fq_ = (fl_u (fl_u F140_ 344 48 z145_) 344 12 1) := ⟨_, rfl⟩
          rw [← q151_]
          have g152_ : gi F150_ := by rw [q151_]; exact gi_u (gi_u (g142_) rfl (by omega) (by omega)) rfl (by omega) (by omega)
          have g153_ : fs [(344, 344, 0, 1), (344, 344, 4, 5), (344, 344, 8, 10), (344, 344, 12, 13), (344, 344, 33, 33), (344, 344, 36, 36), (344, 344, 38, 39), (344, 344, 46, 48), (344, 344, 60, 60), (344, 344, 64, 64), (347, 348, 0, 100000), (358, 358, 0, 100000), (360, 372, 0, 100000), (384, 384, 0, 100000)] F F150_ := by rw [q151_]; exact fs_u (fs_u (g143_) rfl) rfl
          have rk154_ : rk K F150_ := by rw [q151_]; exact rk_u (rk_u (rk144_) (by first | decide | exact nc_ rfl | omega) (by first | decide | exact nc_ rfl | omega)) (by first | decide | exact nc_ rfl | omega) (by first | decide | exact nc_ rfl | omega)
          refine gr_i (z := F1 344 39) hm_64 rfl rfl rfl ?_
          have e155_ : F106_ 344 1 = 0 := by rw [q107_]; exact (fl_u_ne (by first | exact nc_ rfl | decide | omega)).trans ((fl_u_ne (by first | exact nc_ rfl | decide | omega)).trans ((fl_u_ne (by first | exact nc_ rfl | decide | omega)).trans (fl_u_eq)))
          have e156_ : F1 344 1 = 0 := (hf_F1 344 1 rfl).trans (e155_)
          have e157_ : F133_ 344 1 = 0 := by rw [q134_]; exact (fl_u_ne (by first | exact nc_ rfl | decide | omega)).trans (e156_)
          have e158_ : F140_ 344 1 = 0 := by rw [q141_]; exact (fl_u_ne (by first | exact nc_ rfl | decide | omega)).trans (e157_)
          have e159_ : F150_ 344 1 = 0 := by rw [q151_]; exact (fl_u_ne (by first | exact nc_ rfl | decide | omega)).trans ((fl_u_ne (by first | exact nc_ rfl | decide | omega)).trans (e158_))
          have e160_ : F23_ 344 13 = 0 := by rw [q24_]; exact (fl_u_ne (by first | exact nc_ rfl | decide | omega)).trans ((fl_u_ne (by first | exact nc_ rfl | decide | omega)).trans (fl_u_eq))
          have e161_ : F32_ 344 13 = 0 := (s34_ 344 13 rfl).trans (e160_)
          have e162_ : F53_ 344 13 = 0 := (s55_ 344 13 rfl).trans (e161_)
          have e163_ : F106_ 344 13 = 0 := by rw [q107_]; exact (fl_u_ne (by first | exact nc_ rfl | decide | omega)).trans ((fl_u_ne (by first | exact nc_ rfl | decide | omega)).trans ((fl_u_ne (by first | exact nc_ rfl | decide | omega)).trans ((fl_u_ne (by first | exact nc_ rfl | decide | omega)).trans ((fl_u_ne (by first | exact nc_ rfl | decide | omega)).trans (e162_)))))
          have e164_ : F1 344 13 = 0 := (hf_F1 344 13 rfl).trans (e163_)
          have e165_ : F133_ 344 13 = 0 := by rw [q134_]; exact (fl_u_ne (by first | exact nc_ rfl | decide | omega)).trans (e164_)
          have e166_ : F140_ 344 13 = 0 := by rw [q141_]; exact (fl_u_ne (by first | exact nc_ rfl | decide | omega)).trans (e165_)
          have e167_ : F150_ 344 13 = 0 := by rw [q151_]; exact (fl_u_ne (by first | exact nc_ rfl | decide | omega)).trans ((fl_u_ne (by first | exact nc_ rfl | decide | omega)).trans (e166_))
          have e168_ : F150_ 344 12 = 1 := by rw [q151_]; exact fl_u_eq
          have e169_ : F1 344 36 = F53_ 344 36 := (hf_F1 344 36 rfl).trans (e114_)
          have e170_ : F133_ 344 36 = F53_ 344 36 := by rw [q134_]; exact (fl_u_ne (by first | exact nc_ rfl | decide | omega)).trans (e169_)
          have e171_ : F140_ 344 36 = F53_ 344 36 := by rw [q141_]; exact (fl_u_ne (by first | exact nc_ rfl | decide | omega)).trans (e170_)
          have e172_ : F150_ 344 36 = F53_ 344 36 := by rw [q151_]; exact (fl_u_ne (by first | exact nc_ rfl | decide | omega)).trans ((fl_u_ne (by first | exact nc_ rfl | decide | omega)).trans (e171_))
          have e173_ : F106_ 344 0 = 0 := by rw [q107_]; exact (fl_u_ne (by first | exact nc_ rfl | decide | omega)).trans ((fl_u_ne (by first | exact nc_ rfl | decide | omega)).trans (fl_u_eq))
          have e174_ : F1 344 0 = 0 := (hf_F1 344 0 rfl).trans (e173_)
          have e175_ : F133_ 344 0 = 0 := by rw [q134_]; exact (fl_u_ne (by first | exact nc_ rfl | decide | omega)).trans (e174_)
          have e176_ : F140_ 344 0 = 0 := by rw [q141_]; exact (fl_u_ne (by first | exact nc_ rfl | decide | omega)).trans (e175_)
          have e177_ : F150_ 344 0 = 0 := by rw [q151_]; exact (fl_u_ne (by first | exact nc_ rfl | decide | omega)).trans ((fl_u_ne (by first | exact nc_ rfl | decide | omega)).trans (e176_))
          have e178_ : F106_ 344 8 = 0 := by rw [q107_]; exact (fl_u_ne (by first | exact nc_ rfl | decide | omega)).trans ((fl_u_ne (by first | exact nc_ rfl | decide | omega)).trans ((fl_u_ne (by first | exact nc_ rfl | decide | omega)).trans ((fl_u_ne (by first | exact nc_ rfl | decide | omega)).trans (fl_u_eq))))
          have e179_ : F1 344 8 = 0 := (hf_F1 344 8 rfl).trans (e178_)
          have e180_ : F133_ 344 8 = 0 := by rw [q134_]; exact (fl_u_ne (by first | exact nc_ rfl | decide | omega)).trans (e179_)
          have e181_ : F140_ 344 8 = 0 := by rw [q141_]; exact (fl_u_ne (by first | exact nc_ rfl | decide | omega)).trans (e180_)
          have e182_ : F150_ 344 8 = 0 := by rw [q151_]; exact (fl_u_ne (by first | exact nc_ rfl | decide | omega)).trans ((fl_u_ne (by first | exact nc_ rfl | decide | omega)).trans (e181_))
          have b183_ : 0 ≤ F 344 8 ∧ F 344 8 ≤ 100000 := gi_g hgi rfl
          have e184_ : F23_ 344 11 = F 344 11 := by rw [q24_]; exact (fl_u_ne (by first | exact nc_ rfl | decide | omega)).trans ((fl_u_ne (by first | exact nc_ rfl | decide | omega)).trans ((fl_u_ne (by first | exact nc_ rfl | decide | omega)).trans ((fl_u_ne (by first | exact nc_ rfl | decide | omega)).trans ((fl_u_ne (by first | exact nc_ rfl | decide | omega)).trans ((fl_u_ne (by first | exact nc_ rfl | decide | omega)).trans (fl_u_ne (by first | exact nc_ rfl | decide | omega)))))))
          have e185_ : F32_ 344 11 = F 344 11 := (s34_ 344 11 rfl).trans (e184_)
          have e186_ : F53_ 344 11 = F 344 11 := (s55_ 344 11 rfl).trans (e185_)
          have e187_ : F106_ 344 11 = F 344 11 := by rw [q107_]; exact (fl_u_ne (by first | exact nc_ rfl | decide | omega)).trans ((fl_u_ne (by first | exact nc_ rfl | decide | omega)).trans ((fl_u_ne (by first | exact nc_ rfl | decide | omega)).trans ((fl_u_ne (by first | exact nc_ rfl | decide | omega)).trans ((fl_u_ne (by first | exact nc_ rfl | decide | omega)).trans (e186_)))))
          have e188_ : F1 344 11 = F 344 11 := (hf_F1 344 11 rfl).trans (e187_)
          have e189_ : F133_ 344 11 = F 344 11 := by rw [q134_]; exact (fl_u_ne (by first | exact nc_ rfl | decide | omega)).trans (e188_)
          have e190_ : F140_ 344 11 = F 344 11 := by rw [q141_]; exact (fl_u_ne (by first | exact nc_ rfl | decide | omega)).trans (e189_)
          have e191_ : F150_ 344 11 = F 344 11 := by rw [q151_]; exact (fl_u_ne (by first | exact nc_ rfl | decide | omega)).trans ((fl_u_ne (by first | exact nc_ rfl | decide | omega)).trans (e190_))
          exact ⟨F150_, rfl, g152_, g153_, (⟨by omega, by omega⟩), (by omega), (pli_0 (by omega)), (fun _ => ⟨sob_cg hs1 (Eq.trans (a := F150_ 344 39) (b := F140_ 344 39) (by rw [q151_]; exact (fl_u_ne (by first | exact nc_ rfl | decide | omega)).trans ((fl_u_ne (by first | exact nc_ rfl | decide | omega)))) (Eq.trans (a := F140_ 344 39) (b := F133_ 344 39) (by rw [q141_]; exact (fl_u_ne (by first | exact nc_ rfl | decide | omega))) (show F133_ 344 39 = F1 344 39 from (by rw [q134_]; exact (fl_u_ne (by first | exact nc_ rfl | decide | omega)))))) (fun j => (Eq.trans (a := F150_ 357 j) (b := F140_ 357 j) (by rw [q151_]; exact (fl_u_ne (by first | exact nc_ rfl | decide | omega)).trans ((fl_u_ne (by first | exact nc_ rfl | decide | omega)))) (Eq.trans (a := F140_ 357 j) (b := F133_ 357 j) (by rw [q141_]; exact (fl_u_ne (by first | exact nc_ rfl | decide | omega))) (show F133_ 357 j = F1 357 j from (by rw [q134_]; exact (fl_u_ne (by first | exact nc_ rfl | decide | omega))))))) (fun j => (Eq.trans (a := F150_ 367 j) (b := F140_ 367 j) (by rw [q151_]; exact (fl_u_ne (by first | exact nc_ rfl | decide | omega)).trans ((fl_u_ne (by first | exact nc_ rfl | decide | omega)))) (Eq.trans (a := F140_ 367 j) (b := F133_ 367 j) (by rw [q141_]; exact (fl_u_ne (by first | exact nc_ rfl | decide | omega))) (show F133_ 367 j = F1 367 j from (by rw [q134_]; exact (fl_u_ne (by first | exact nc_ rfl | decide | omega))))))) (fun j => (Eq.trans (a := F150_ 354 j) (b := F140_ 354 j) (by rw [q151_]; exact (fl_u_ne (by first | exact nc_ rfl | decide | omega)).trans ((fl_u_ne (by first | exact nc_ rfl | decide | omega)))) (Eq.trans (a := F140_ 354 j) (b := F133_ 354 j) (by rw [q141_]; exact (fl_u_ne (by first | exact nc_ rfl | decide | omega))) (show F133_ 354 j = F1 354 j from (by rw [q134_]; exact (fl_u_ne (by first | exact nc_ rfl | decide | omega))))))) (fun j => (Eq.trans (a := F150_ 368 j) (b := F140_ 368 j) (by rw [q151_]; exact (fl_u_ne (by first | exact nc_ rfl | decide | omega)).trans ((fl_u_ne (by first | exact nc_ rfl | decide | omega)))) (Eq.trans (a := F140_ 368 j) (b := F133_ 368 j) (by rw [q141_]; exact (fl_u_ne (by first | exact nc_ rfl | decide | omega))) (show F133_ 368 j = F1 368 j from (by rw [q134_]; exact (fl_u_ne (by first | exact nc_ rfl | decide | omega))))))), by omega⟩), (Or.inr ⟨by omega, Or.inr (by obtain ⟨l, tl, c1⟩ := c51_; exact ⟨l, tl, c1, by omega, by omega, by omega⟩)⟩)⟩
        refine ga_aload_n (v := .ref 344) hm_64 rfl rfl rfl ?_
        refine fl_iconst hm_64 rfl ?_
        refine ga_puti (z := 3) hm_64 rfl sc_344 rfl rfl ?_
        refine fl_iconst hm_64 rfl ?_
        obtain ⟨F192_, q193_⟩ : ∃ Fq_, Fq_ = (fl_u F1 344 0 3) := ⟨_, rfl⟩
        rw [← q193_]
        have g194_ : gi F192_ := by rw [q193_]; exact gi_u (hg_F1) rfl (by omega) (by omega)
        have g195_ : fs [(344, 344, 0, 1), (344, 344, 4, 5), (344, 344, 8, 10), (344, 344, 12, 13), (344, 344, 33, 33), (344, 344, 36, 36), (344, 344, 38, 39), (344, 344, 46, 48), (344, 344, 60, 60), (344, 344, 64, 64), (347, 348, 0, 100000), (358, 358, 0, 100000), (360, 372, 0, 100000), (384, 384, 0, 100000)] F F192_ := by rw [q193_]; exact fs_u (g116_) rfl
        have rk196_ : rk K F192_ := by rw [q193_]; exact rk_u (rk117_) (by first | decide | exact nc_ rfl | omega) (by first | decide | exact nc_ rfl | omega)
        refine gr_i (z := 0) hm_64 rfl rfl rfl ?_
        have e197_ : F106_ 344 1 = 0 := by rw [q107_]; exact (fl_u_ne (by first | exact nc_ rfl | decide | omega)).trans ((fl_u_ne (by first | exact nc_ rfl | decide | omega)).trans ((fl_u_ne (by first | exact nc_ rfl | decide | omega)).trans (fl_u_eq)))
        have e198_ : F1 344 1 = 0 := (hf_F1 344 1 rfl).trans (e197_)
        have e199_ : F192_ 344 1 = 0 := by rw [q193_]; exact (fl_u_ne (by first | exact nc_ rfl | decide | omega)).trans (e198_)
        have e200_ : F23_ 344 13 = 0 := by rw [q24_]; exact (fl_u_ne (by first | exact nc_ rfl | decide | omega)).trans ((fl_u_ne (by first | exact nc_ rfl | decide | omega)).trans (fl_u_eq))
        have e201_ : F32_ 344 13 = 0 := (s34_ 344 13 rfl).trans (e200_)
        have e202_ : F53_ 344 13 = 0 := (s55_ 344 13 rfl).trans (e201_)
        have e203_ : F106_ 344 13 = 0 := by rw [q107_]; exact (fl_u_ne (by first | exact nc_ rfl | decide | omega)).trans ((fl_u_ne (by first | exact nc_ rfl | decide | omega)).trans ((fl_u_ne (by first | exact nc_ rfl | decide | omega)).trans ((fl_u_ne (by first | exact nc_ rfl | decide | omega)).trans ((fl_u_ne (by first | exact nc_ rfl | decide | omega)).trans (e202_)))))
        have e204_ : F1 344 13 = 0 := (hf_F1 344 13 rfl).trans (e203_)
        have e205_ : F192_ 344 13 = 0 := by rw [q193_]; exact (fl_u_ne (by first | exact nc_ rfl | decide | omega)).trans (e204_)
        have e206_ : F23_ 344 12 = 0 := by rw [q24_]; exact (fl_u_ne (by first | exact nc_ rfl | decide | omega)).trans ((fl_u_ne (by first | exact nc_ rfl | decide | omega)).trans ((fl_u_ne (by first | exact nc_ rfl | decide | omega)).trans (fl_u_eq)))
        have e207_ : F32_ 344 12 = 0 := (s34_ 344 12 rfl).trans (e206_)
        have e208_ : F53_ 344 12 = 0 := (s55_ 344 12 rfl).trans (e207_)
        have e209_ : F106_ 344 12 = 0 := by rw [q107_]; exact (fl_u_ne (by first | exact nc_ rfl | decide | omega)).trans ((fl_u_ne (by first | exact nc_ rfl | decide | omega)).trans ((fl_u_ne (by first | exact nc_ rfl | decide | omega)).trans ((fl_u_ne (by first | exact nc_ rfl | decide | omega)).trans ((fl_u_ne (by first | exact nc_ rfl | decide | omega)).trans (e208_)))))
        have e210_ : F1 344 12 = 0 := (hf_F1 344 12 rfl).trans (e209_)
        have e211_ : F192_ 344 12 = 0 := by rw [q193_]; exact (fl_u_ne (by first | exact nc_ rfl | decide | omega)).trans (e210_)
        have e212_ : F1 344 36 = F53_ 344 36 := (hf_F1 344 36 rfl).trans (e114_)
        have e213_ : F192_ 344 36 = F53_ 344 36 := by rw [q193_]; exact (fl_u_ne (by first | exact nc_ rfl | decide | omega)).trans (e212_)
        have e214_ : F192_ 344 0 = 3 := by rw [q193_]; exact fl_u_eq
        have e215_ : F106_ 344 8 = 0 := by rw [q107_]; exact (fl_u_ne (by first | exact nc_ rfl | decide | omega)).trans ((fl_u_ne (by first | exact nc_ rfl | decide | omega)).trans ((fl_u_ne (by first | exact nc_ rfl | decide | omega)).trans ((fl_u_ne (by first | exact nc_ rfl | decide | omega)).trans (fl_u_eq))))
        have e216_ : F1 344 8 = 0 := (hf_F1 344 8 rfl).trans (e215_)
        have e217_ : F192_ 344 8 = 0 := by rw [q193_]; exact (fl_u_ne (by first | exact nc_ rfl | decide | omega)).trans (e216_)
        have b218_ : 0 ≤ F 344 8 ∧ F 344 8 ≤ 100000 := gi_g hgi rfl
        have e219_ : F23_ 344 11 = F 344 11 := by rw [q24_]; exact (fl_u_ne (by first | exact nc_ rfl | decide | omega)).trans ((fl_u_ne (by first | exact nc_ rfl | decide | omega)).trans ((fl_u_ne (by first | exact nc_ rfl | decide | omega)).trans ((fl_u_ne (by first | exact nc_ rfl | decide | omega)).trans ((fl_u_ne (by first | exact nc_ rfl | decide | omega)).trans ((fl_u_ne (by first | exact nc_ rfl | decide | omega)).trans (fl_u_ne (by first | exact nc_ rfl | decide | omega)))))))
        have e220_ : F32_ 344 11 = F 344 11 := (s34_ 344 11 rfl).trans (e219_)
        have e221_ : F53_ 344 11 = F 344 11 := (s55_ 344 11 rfl).trans (e220_)
        have e222_ : F106_ 344 11 = F 344 11 := by rw [q107_]; exact (fl_u_ne (by first | exact nc_ rfl | decide | omega)).trans ((fl_u_ne (by first | exact nc_ rfl | decide | omega)).trans ((fl_u_ne (by first | exact nc_ rfl | decide | omega)).trans ((fl_u_ne (by first | exact nc_ rfl | decide | omega)).trans ((fl_u_ne (by first | exact nc_ rfl | decide | omega)).trans (e221_)))))
        have e223_ : F1 344 11 = F 344 11 := (hf_F1 344 11 rfl).trans (e222_)
        have e224_ : F192_ 344 11 = F 344 11 := by rw [q193_]; exact (fl_u_ne (by first | exact nc_ rfl | decide | omega)).trans (e223_)
        exact ⟨F192_, rfl, g194_, g195_, (⟨by omega, by omega⟩), (by omega), (pli_0 (by omega)), (fun h9_ => absurd h9_ (by omega)), (Or.inr ⟨by omega, Or.inr (by obtain ⟨l, tl, c1⟩ := c51_; exact ⟨l, tl, c1, by omega, by omega, by omega⟩)⟩)⟩
      refine ga_iload_n (z := ft) hm_64 rfl rfl ?_
      refine fl_if_eq (a := ft) hm_64 rfl ⟨by omega, by omega⟩ (fun h225_ => ?_) (fun h226_ => ?_)
      ·
        refine ga_iload_n (z := ft) hm_64 rfl rfl ?_
        refine fx_if_ne (a := ft) hm_64 rfl ⟨by omega, by omega⟩ (fun h227_ => ?_) (fun h228_ => ?_)
        · exfalso; omega
        refine ga_aload_n (v := .ref 344) hm_64 rfl rfl rfl ?_
        refine fl_iconst hm_64 rfl ?_
        refine ga_puti (z := 3) hm_64 rfl sc_344 rfl rfl ?_
        refine fl_iconst hm_64 rfl ?_
        obtain ⟨F229_, q230_⟩ : ∃ Fq_, Fq_ = (fl_u F1 344 0 3) := ⟨_, rfl⟩
        rw [← q230_]
        have g231_ : gi F229_ := by rw [q230_]; exact gi_u (hg_F1) rfl (by omega) (by omega)
        have g232_ : fs [(344, 344, 0, 1), (344, 344, 4, 5), (344, 344, 8, 10), (344, 344, 12, 13), (344, 344, 33, 33), (344, 344, 36, 36), (344, 344, 38, 39), (344, 344, 46, 48), (344, 344, 60, 60), (344, 344, 64, 64), (347, 348, 0, 100000), (358, 358, 0, 100000), (360, 372, 0, 100000), (384, 384, 0, 100000)] F F229_ := by rw [q230_]; exact fs_u (g116_) rfl
        have rk233_ : rk K F229_ := by rw [q230_]; exact rk_u (rk117_) (by first | decide | exact nc_ rfl | omega) (by first | decide | exact nc_ rfl | omega)
        refine gr_i (z := 0) hm_64 rfl rfl rfl ?_
        have e234_ : F106_ 344 1 = 0 := by rw [q107_]; exact (fl_u_ne (by first | exact nc_ rfl | decide | omega)).trans ((fl_u_ne (by first | exact nc_ rfl | decide | omega)).trans ((fl_u_ne (by first | exact nc_ rfl | decide | omega)).trans (fl_u_eq)))
        have e235_ : F1 344 1 = 0 := (hf_F1 344 1 rfl).trans (e234_)
        have e236_ : F229_ 344 1 = 0 := by rw [q230_]; exact (fl_u_ne (by first | exact nc_ rfl | decide | omega)).trans (e235_)
        have e237_ : F23_ 344 13 = 0 := by rw [q24_]; exact (fl_u_ne (by first | exact nc_ rfl | decide | omega)).trans ((fl_u_ne (by first | exact nc_ rfl | decide | omega)).trans (fl_u_eq))
        have e238_ : F32_ 344 13 = 0 := (s34_ 344 13 rfl).trans (e237_)
        have e239_ : F53_ 344 13 = 0 := (s55_ 344 13 rfl).trans (e238_)
        have e240_ : F106_ 344 13 = 0 := by rw [q107_]; exact (fl_u_ne (by first | exact nc_ rfl | decide | omega)).trans ((fl_u_ne (by first | exact nc_ rfl | decide | omega)).trans ((fl_u_ne (by first | exact nc_ rfl | decide | omega)).trans ((fl_u_ne (by first | exact nc_ rfl | decide | omega)).trans ((fl_u_ne (by first | exact nc_ rfl | decide | omega)).trans (e239_)))))
        have e241_ : F1 344 13 = 0 := (hf_F1 344 13 rfl).trans (e240_)
        have e242_ : F229_ 344 13 = 0 := by rw [q230_]; exact (fl_u_ne (by first | exact nc_ rfl | decide | omega)).trans (e241_)
        have e243_ : F23_ 344 12 = 0 := by rw [q24_]; exact (fl_u_ne (by first | exact nc_ rfl | decide | omega)).trans ((fl_u_ne (by first | exact nc_ rfl | decide | omega)).trans ((fl_u_ne (by first | exact nc_ rfl | decide | omega)).trans (fl_u_eq)))
        have e244_ : F32_ 344 12 = 0 := (s34_ 344 12 rfl).trans (e243_)
        have e245_ : F53_ 344 12 = 0 := (s55_ 344 12 rfl).trans (e244_)
        have e246_ : F106_ 344 12 = 0 := by rw [q107_]; exact (fl_u_ne (by first | exact nc_ rfl | decide | omega)).trans ((fl_u_ne (by first | exact nc_ rfl | decide | omega)).trans ((fl_u_ne (by first | exact nc_ rfl | decide | omega)).trans ((fl_u_ne (by first | exact nc_ rfl | decide | omega)).trans ((fl_u_ne (by first | exact nc_ rfl | decide | omega)).trans (e245_)))))
        have e247_ : F1 344 12 = 0 := (hf_F1 344 12 rfl).trans (e246_)
        have e248_ : F229_ 344 12 = 0 := by rw [q230_]; exact (fl_u_ne (by first | exact nc_ rfl | decide | omega)).trans (e247_)
        have e249_ : F1 344 36 = F53_ 344 36 := (hf_F1 344 36 rfl).trans (e114_)
        have e250_ : F229_ 344 36 = F53_ 344 36 := by rw [q230_]; exact (fl_u_ne (by first | exact nc_ rfl | decide | omega)).trans (e249_)
        have e251_ : F229_ 344 0 = 3 := by rw [q230_]; exact fl_u_eq
        have e252_ : F106_ 344 8 = 0 := by rw [q107_]; exact (fl_u_ne (by first | exact nc_ rfl | decide | omega)).trans ((fl_u_ne (by first | exact nc_ rfl | decide | omega)).trans ((fl_u_ne (by first | exact nc_ rfl | decide | omega)).trans ((fl_u_ne (by first | exact nc_ rfl | decide | omega)).trans (fl_u_eq))))
        have e253_ : F1 344 8 = 0 := (hf_F1 344 8 rfl).trans (e252_)
        have e254_ : F229_ 344 8 = 0 := by rw [q230_]; exact (fl_u_ne (by first | exact nc_ rfl | decide | omega)).trans (e253_)
        have b255_ : 0 ≤ F 344 8 ∧ F 344 8 ≤ 100000 := gi_g hgi rfl
        have e256_ : F23_ 344 11 = F 344 11 := by rw [q24_]; exact (fl_u_ne (by first | exact nc_ rfl | decide | omega)).trans ((fl_u_ne (by first | exact nc_ rfl | decide | omega)).trans ((fl_u_ne (by first | exact nc_ rfl | decide | omega)).trans ((fl_u_ne (by first | exact nc_ rfl | decide | omega)).trans ((fl_u_ne (by first | exact nc_ rfl | decide | omega)).trans ((fl_u_ne (by first | exact nc_ rfl | decide | omega)).trans (fl_u_ne (by first | exact nc_ rfl | decide | omega)))))))
        have e257_ : F32_ 344 11 = F 344 11 := (s34_ 344 11 rfl).trans (e256_)
        have e258_ : F53_ 344 11 = F 344 11 := (s55_ 344 11 rfl).trans (e257_)
        have e259_ : F106_ 344 11 = F 344 11 := by rw [q107_]; exact (fl_u_ne (by first | exact nc_ rfl | decide | omega)).trans ((fl_u_ne (by first | exact nc_ rfl | decide | omega)).trans ((fl_u_ne (by first | exact nc_ rfl | decide | omega)).trans ((fl_u_ne (by first | exact nc_ rfl | decide | omega)).trans ((fl_u_ne (by first | exact nc_ rfl | decide | omega)).trans (e258_)))))
        have e260_ : F1 344 11 = F 344 11 := (hf_F1 344 11 rfl).trans (e259_)
        have e261_ : F229_ 344 11 = F 344 11 := by rw [q230_]; exact (fl_u_ne (by first | exact nc_ rfl | decide | omega)).trans (e260_)
        exact ⟨F229_, rfl, g231_, g232_, (⟨by omega, by omega⟩), (by omega), (pli_0 (by omega)), (fun h9_ => absurd h9_ (by omega)), (Or.inr ⟨by omega, Or.inr (by obtain ⟨l, tl, c1⟩ := c51_; exact ⟨l, tl, c1, by omega, by omega, by omega⟩)⟩)⟩
      refine ga_aload_n (v := .ref 344) hm_64 rfl rfl rfl ?_
      refine ga_iload_n (z := a) hm_64 rfl rfl ?_
      have e262_ : F23_ 357 a.toNat = F 357 a.toNat := by rw [q24_]; exact (fl_u_ne (by first | exact nc_ rfl | decide | omega)).trans ((fl_u_ne (by first | exact nc_ rfl | decide | omega)).trans ((fl_u_ne (by first | exact nc_ rfl | decide | omega)).trans ((fl_u_ne (by first | exact nc_ rfl | decide | omega)).trans ((fl_u_ne (by first | exact nc_ rfl | decide | omega)).trans ((fl_u_ne (by first | exact nc_ rfl | decide | omega)).trans (fl_u_ne (by first | exact nc_ rfl | decide | omega)))))))
      have e263_ : F32_ 357 a.toNat = F 357 a.toNat := (s34_ 357 a.toNat (by first | exact fs_c rfl | exact (fs_n (by omega) (fs_n (by omega) rfl)))).trans (e262_)
      have e264_ : F53_ 357 a.toNat = F 357 a.toNat := (s55_ 357 a.toNat (by first | exact fs_c rfl | exact (fs_n (by omega) (fs_n (by omega) (fs_n (by omega) (fs_n (by omega) (fs_n (by omega) (fs_n (by omega) (fs_n (by omega) rfl))))))))).trans (e263_)
      have e265_ : F106_ 357 a.toNat = F 357 a.toNat := by rw [q107_]; exact (fl_u_ne (by first | exact nc_ rfl | decide | omega)).trans ((fl_u_ne (by first | exact nc_ rfl | decide | omega)).trans ((fl_u_ne (by first | exact nc_ rfl | decide | omega)).trans ((fl_u_ne (by first | exact nc_ rfl | decide | omega)).trans ((fl_u_ne (by first | exact nc_ rfl | decide | omega)).trans (e264_)))))
      have e266_ : F1 357 a.toNat = F 357 a.toNat := (hf_F1 357 a.toNat (by first | exact fs_c rfl | exact (fs_n (by omega) (fs_n (by omega) (fs_n (by omega) rfl))))).trans (e265_)
      refine gVi (nY := 6) (F := 3) (L := 75) (As := [.int (Int32.ofInt a)]) (b := 344) (rest := []) hm_64 rfl hm_165 rfl rfl (fl_ob sc_344) rfl rfl rfl rfl rfl (by omega) (by omega) (mc_165 hG F1 X hg_F1 (a) (⟨by omega, by omega⟩) (by have h9_ := hcs (by omega) a.toNat (by omega); omega) (hs1)) (fun _ _ h => False.elim h) ?_
      rintro z267_ A1_ ⟨F270_, hA_, g271_, s272_, c268_, c269_⟩
      subst hA_
      have g273_ : fs [(344, 344, 0, 1), (344, 344, 4, 5), (344, 344, 8, 10), (344, 344, 12, 13), (344, 344, 33, 33), (344, 344, 36, 36), (344, 344, 38, 39), (344, 344, 46, 48), (344, 344, 60, 60), (344, 344, 64, 64), (347, 348, 0, 100000), (358, 358, 0, 100000), (360, 372, 0, 100000), (384, 384, 0, 100000)] F F270_ := fs_tr g116_ s272_ rfl
      have rk274_ : rk K F270_ := rk_fs rk117_ s272_ (fs_rg rfl) rfl
      refine ga_istore_n (lv2 := [(1, .int (Int32.ofInt z267_)), (2, .int (Int32.ofInt a)), (0, .ref 344)]) hm_64 rfl (Nat.le_of_ble_eq_true rfl) rfl ?_
      refine ga_inc (a := a) (c := a + 1) (lv2 := [(2, .int (Int32.ofInt (a + 1))), (1, .int (Int32.ofInt z267_)), (0, .ref 344)]) hm_64 rfl rfl (Nat.le_of_ble_eq_true rfl) rfl rfl ?_
      refine fl_goto hm_64 rfl ?_
      exact ih113_ _ (by omega) (z267_) (a + 1) F270_ rfl g271_ (fs_tr hf_F1 s272_ rfl) (⟨by omega, by omega⟩) (⟨by omega, by omega⟩) (c269_) (fun _ => hf4 (by omega))
    have e275_ : F106_ 344 39 = 0 := by rw [q107_]; exact fl_u_eq
    exact L112_ _ (0) (0) F106_ rfl g108_ fs_refl (⟨by omega, by omega⟩) (⟨by omega, by omega⟩) (sob_0 (e275_)) (by omega)
  refine fl_iconst hm_64 rfl ?_
  refine fl_goto hm_64 rfl ?_
  refine ga_istore_n (lv2 := [(1, .int (Int32.ofInt 1)), (0, .ref 344)]) hm_64 rfl (Nat.le_of_ble_eq_true rfl) rfl ?_
  refine fl_iconst hm_64 rfl ?_
  refine ga_istore_n (lv2 := [(2, .int (Int32.ofInt 0)), (1, .int (Int32.ofInt 1)), (0, .ref 344)]) hm_64 rfl (Nat.le_of_ble_eq_true rfl) rfl ?_
  obtain ⟨F276_, q277_⟩ : ∃ Fq_, Fq_ = (fl_u (fl_u (fl_u (fl_u (fl_u F53_ 344 8 0) 344 1 0) 344 0 0) 344 38 (F53_ 344 64)) 344 39 0) := ⟨_, rfl⟩
  rw [← q277_]
  have g278_ : gi F276_ := by rw [q277_]; exact gi_u (gi_u (gi_u (gi_u (gi_u (g54_) rfl (by omega) (by omega)) rfl (by omega) (by omega)) rfl (by omega) (by omega)) rfl (by omega) (by omega)) rfl (by omega) (by omega)
  have g279_ : fs [(344, 344, 0, 1), (344, 344, 4, 5), (344, 344, 8, 10), (344, 344, 12, 13), (344, 344, 33, 33), (344, 344, 36, 36), (344, 344, 38, 39), (344, 344, 46, 48), (344, 344, 60, 60), (344, 344, 64, 64), (347, 348, 0, 100000), (358, 358, 0, 100000), (360, 372, 0, 100000), (384, 384, 0, 100000)] F F276_ := by rw [q277_]; exact fs_u (fs_u (fs_u (fs_u (fs_u (g91_) rfl) rfl) rfl) rfl) rfl
  have rk280_ : rk K F276_ := by rw [q277_]; exact rk_u (rk_u (rk_u (rk_u (rk_u (rk92_) (by first | decide | exact nc_ rfl | omega) (by first | decide | exact nc_ rfl | omega)) (by first | decide | exact nc_ rfl | omega) (by first | decide | exact nc_ rfl | omega)) (by first | decide | exact nc_ rfl | omega) (by first | decide | exact nc_ rfl | omega)) (by first | decide | exact nc_ rfl | omega) (by first | decide | exact nc_ rfl | omega)) (by first | decide | exact nc_ rfl | omega) (by first | decide | exact nc_ rfl | omega)
  have e284_ : F276_ 344 36 = F53_ 344 36 := by rw [q277_]; exact (fl_u_ne (by first | exact nc_ rfl | decide | omega)).trans ((fl_u_ne (by first | exact nc_ rfl | decide | omega)).trans ((fl_u_ne (by first | exact nc_ rfl | decide | omega)).trans ((fl_u_ne (by first | exact nc_ rfl | decide | omega)).trans (fl_u_ne (by first | exact nc_ rfl | decide | omega)))))
  have L282_ : ∀ (n281_ : Nat) (ft : Int) (a : Int) (F1 : fl_N), (5 - a : Int).toNat = n281_ → (gi F1) → (fs [(344, 344, 39, 39), (367, 372, 0, 100000), (384, 384, 0, 100000)] F276_ F1) → (0 ≤ a ∧ a ≤ 5) → (0 ≤ ft ∧ ft ≤ 1) → (sob F1) → (ft = 1 → F276_ 344 36 ≤ 40) → fl_R xi_ms 64 fr lo 101 [(2, .int (Int32.ofInt a)), (1, .int (Int32.ofInt ft)), (0, .ref 344)] [] (fl_H sh_T G F1 ++ X) (pq_64 G F X K nm ts pl ps) := by
    intro n281_
    induction n281_ using Nat.strongRecOn with
    | ind n281_ ih283_ =>
    intro ft a F1 hn285_ hg_F1 hf_F1 ha hft hs1 hf4
    have g286_ : fs [(344, 344, 0, 1), (344, 344, 4, 5), (344, 344, 8, 10), (344, 344, 12, 13), (344, 344, 33, 33), (344, 344, 36, 36), (344, 344, 38, 39), (344, 344, 46, 48), (344, 344, 60, 60), (344, 344, 64, 64), (347, 348, 0, 100000), (358, 358, 0, 100000), (360, 372, 0, 100000), (384, 384, 0, 100000)] F F1 := fs_tr g279_ hf_F1 rfl
    have rk287_ : rk K F1 := rk_fs rk280_ hf_F1 (fs_rg rfl) rfl
    refine ga_iload_n (z := a) hm_64 rfl rfl ?_
    refine ga_aload_n (v := .ref 344) hm_64 rfl rfl rfl ?_
    have e288_ : F23_ 344 21 = F 344 21 := by rw [q24_]; exact (fl_u_ne (by first | exact nc_ rfl | decide | omega)).trans ((fl_u_ne (by first | exact nc_ rfl | decide | omega)).trans ((fl_u_ne (by first | exact nc_ rfl | decide | omega)).trans ((fl_u_ne (by first | exact nc_ rfl | decide | omega)).trans ((fl_u_ne (by first | exact nc_ rfl | decide | omega)).trans ((fl_u_ne (by first | exact nc_ rfl | decide | omega)).trans (fl_u_ne (by first | exact nc_ rfl | decide | omega)))))))
    have e289_ : F32_ 344 21 = F 344 21 := (s34_ 344 21 rfl).trans (e288_)
    have e290_ : F53_ 344 21 = F 344 21 := (s55_ 344 21 rfl).trans (e289_)
    have e291_ : F276_ 344 21 = F 344 21 := by rw [q277_]; exact (fl_u_ne (by first | exact nc_ rfl | decide | omega)).trans ((fl_u_ne (by first | exact nc_ rfl | decide | omega)).trans ((fl_u_ne (by first | exact nc_ rfl | decide | omega)).trans ((fl_u_ne (by first | exact nc_ rfl | decide | omega)).trans ((fl_u_ne (by first | exact nc_ rfl | decide | omega)).trans (e290_)))))
    have e292_ : F1 344 21 = F 344 21 := (hf_F1 344 21 rfl).trans (e291_)
    have b293_ : 0 ≤ F 344 21 ∧ F 344 21 ≤ 5 := gi_g hgi rfl
    refine ga_geti (z := F 344 21) hm_64 rfl sc_344 rfl (e292_) ?_
    refine fl_icmp_ge (a := a) (b := F 344 21) hm_64 rfl ⟨by omega, by omega⟩ ⟨by omega, by omega⟩ (fun h294_ => ?_) (fun h295_ => ?_)
    ·
      refine ga_iload_n (z := ft) hm_64 rfl rfl ?_
      refine fx_if_ne (a := ft) hm_64 rfl ⟨by omega, by omega⟩ (fun h296_ => ?_) (fun h297_ => ?_)
      ·
        refine ga_aload_n (v := .ref 344) hm_64 rfl rfl rfl ?_
        refine ga_aload_n (v := .ref 344) hm_64 rfl rfl rfl ?_
        refine fl_iconst hm_64 rfl ?_
        refine fl_bipush hm_64 rfl rfl ?_
        refine ga_aload_n (v := .ref 344) hm_64 rfl rfl rfl ?_
        refine ga_getr (b := 358) hm_64 rfl sc_344 rfl ?_
        refine fl_iconst hm_64 rfl ?_
        have e298_ : F276_ 358 5 = F53_ 358 5 := by rw [q277_]; exact (fl_u_ne (by first | exact nc_ rfl | decide | omega)).trans ((fl_u_ne (by first | exact nc_ rfl | decide | omega)).trans ((fl_u_ne (by first | exact nc_ rfl | decide | omega)).trans ((fl_u_ne (by first | exact nc_ rfl | decide | omega)).trans (fl_u_ne (by first | exact nc_ rfl | decide | omega)))))
        have e299_ : F1 358 5 = F53_ 358 5 := (hf_F1 358 5 rfl).trans (e298_)
        have b300_ : 0 ≤ F53_ 358 5 ∧ F53_ 358 5 ≤ 4 := gi_g g54_ rfl
        refine ga_iald (z := 5) (w := F53_ 358 5) hm_64 rfl sc_358 (by omega) (by omega) (by omega) (e299_) ?_
        refine fl_iconst hm_64 rfl ?_
        refine gVl (nY := 9) (F := 2) (L := 47) (As := [.int (Int32.ofInt 5), .int (Int32.ofInt 40), .int (Int32.ofInt (F53_ 358 5)), .int (Int32.ofInt 0)]) (b := 344) (rest := [.ref 344]) hm_64 rfl hm_156 rfl rfl (fl_ob sc_344) rfl rfl rfl rfl rfl (by omega) (by omega) (mc_156 hG F1 X hg_F1 (5) (40) (F53_ 358 5) (0) (⟨by omega, by omega⟩) (by omega) (⟨by omega, by omega⟩) (⟨by omega, by omega⟩)) (fun _ _ h => False.elim h) ?_
        rintro z301_ A1_ ⟨hA_, c302_⟩
        subst hA_
        refine ga_putl hm_64 rfl sc_344 rfl rfl ?_
        refine ga_aload_n (v := .ref 344) hm_64 rfl rfl rfl ?_
        refine ga_aload_n (v := .ref 344) hm_64 rfl rfl rfl ?_
        refine fl_iconst hm_64 rfl ?_
        refine fl_bipush hm_64 rfl rfl ?_
        refine ga_aload_n (v := .ref 344) hm_64 rfl rfl rfl ?_
        refine ga_getr (b := 358) hm_64 rfl sc_344 rfl ?_
        refine fl_iconst hm_64 rfl ?_
        refine ga_iald (z := 5) (w := F53_ 358 5) hm_64 rfl sc_358 (by omega) (by omega) (by omega) ((fl_u_ne (by first | exact nc_ rfl | decide | omega)).trans (e299_)) ?_
        refine fl_iconst hm_64 rfl ?_
        obtain ⟨F303_, q304_⟩ : ∃ Fq_, Fq_ = (fl_u F1 344 46 z301_) := ⟨_, rfl⟩
        rw [← q304_]
        have g305_ : gi F303_ := by rw [q304_]; exact gi_u (hg_F1) rfl (by omega) (by omega)
        have g306_ : fs [(344, 344, 0, 1), (344, 344, 4, 5), (344, 344, 8, 10), (344, 344, 12, 13), (344, 344, 33, 33), (344, 344, 36, 36), (344, 344, 38, 39), (344, 344, 46, 48), (344, 344, 60, 60), (344, 344, 64, 64), (347, 348, 0, 100000), (358, 358, 0, 100000), (360, 372, 0, 100000), (384, 384, 0, 100000)] F F303_ := by rw [q304_]; exact fs_u (g286_) rfl
        have rk307_ : rk K F303_ := by rw [q304_]; exact rk_u (rk287_) (by first | decide | exact nc_ rfl | omega) (by first | decide | exact nc_ rfl | omega)
        refine gVl (nY := 9) (F := 2) (L := 47) (As := [.int (Int32.ofInt 5), .int (Int32.ofInt 40), .int (Int32.ofInt (F53_ 358 5)), .int (Int32.ofInt 1)]) (b := 344) (rest := [.ref 344]) hm_64 rfl hm_156 rfl rfl (fl_ob sc_344) rfl rfl rfl rfl rfl (by omega) (by omega) (mc_156 hG F303_ X g305_ (5) (40) (F53_ 358 5) (1) (⟨by omega, by omega⟩) (by omega) (⟨by omega, by omega⟩) (⟨by omega, by omega⟩)) (fun _ _ h => False.elim h) ?_
        rintro z308_ A1_ ⟨hA_, c309_⟩
        subst hA_
        refine ga_putl hm_64 rfl sc_344 rfl rfl ?_
        refine ga_aload_n (v := .ref 344) hm_64 rfl rfl rfl ?_
        refine ga_aload_n (v := .ref 344) hm_64 rfl rfl rfl ?_
        refine fl_iconst hm_64 rfl ?_
        refine fl_bipush hm_64 rfl rfl ?_
        obtain ⟨F310_, q311_⟩ : ∃ Fq_, Fq_ = (fl_u F303_ 344 47 z308_) := ⟨_, rfl⟩
        rw [← q311_]
        have g312_ : gi F310_ := by rw [q311_]; exact gi_u (g305_) rfl (by omega) (by omega)
        have g313_ : fs [(344, 344, 0, 1), (344, 344, 4, 5), (344, 344, 8, 10), (344, 344, 12, 13), (344, 344, 33, 33), (344, 344, 36, 36), (344, 344, 38, 39), (344, 344, 46, 48), (344, 344, 60, 60), (344, 344, 64, 64), (347, 348, 0, 100000), (358, 358, 0, 100000), (360, 372, 0, 100000), (384, 384, 0, 100000)] F F310_ := by rw [q311_]; exact fs_u (g306_) rfl
        have rk314_ : rk K F310_ := by rw [q311_]; exact rk_u (rk307_) (by first | decide | exact nc_ rfl | omega) (by first | decide | exact nc_ rfl | omega)
        refine gVi (nY := 6) (F := 1) (L := 23) (As := [.int (Int32.ofInt 5), .int (Int32.ofInt 40)]) (b := 344) (rest := [.ref 344]) hm_64 rfl hm_159 rfl rfl (fl_ob sc_344) rfl rfl rfl rfl rfl (by omega) (by omega) (mc_159 hG F310_ X g312_ (5) (40) (⟨by omega, by omega⟩) (by omega)) (fun _ _ h => False.elim h) ?_
        rintro z315_ A1_ ⟨hA_, c316_⟩
        subst hA_
        refine ga_putz (z := z315_) hm_64 rfl sc_344 rfl rfl (by omega) ?_
        refine ga_aload_n (v := .ref 344) hm_64 rfl rfl rfl ?_
        refine fl_iconst hm_64 rfl ?_
        refine ga_putz (z := 1) hm_64 rfl sc_344 rfl rfl (by omega) ?_
        refine ga_aload_n (v := .ref 344) hm_64 rfl rfl rfl ?_
        have e317_ : F303_ 344 39 = F1 344 39 := by rw [q304_]; exact fl_u_ne (by first | exact nc_ rfl | decide | omega)
        have e318_ : F310_ 344 39 = F1 344 39 := by rw [q311_]; exact (fl_u_ne (by first | exact nc_ rfl | decide | omega)).trans (e317_)
        have b319_ : 0 ≤ F1 344 39 ∧ F1 344 39 ≤ 40 := gi_g hg_F1 rfl
        refine ga_geti (z := F1 344 39) hm_64 rfl sc_344 rfl ((fl_u_ne (by first | exact nc_ rfl | decide | omega)).trans ((fl_u_ne (by first | exact nc_ rfl | decide | omega)).trans (e318_))) ?_
        obtain ⟨F320_, q321_⟩ : ∃ Fq_, Fq_ = (fl_u (fl_u F310_ 344 48 z315_) 344 12 1) := ⟨_, rfl⟩
        rw [← q321_]
        have g322_ : gi F320_ := by rw [q321_]; exact gi_u (gi_u (g312_) rfl (by omega) (by omega)) rfl (by omega) (by omega)
        have g323_ : fs [(344, 344, 0, 1), (344, 344, 4, 5), (344, 344, 8, 10), (344, 344, 12, 13), (344, 344, 33, 33), (344, 344, 36, 36), (344, 344, 38, 39), (344, 344, 46, 48), (344, 344, 60, 60), (344, 344, 64, 64), (347, 348, 0, 100000), (358, 358, 0, 100000), (360, 372, 0, 100000), (384, 384, 0, 100000)] F F320_ := by rw [q321_]; exact fs_u (fs_u (g313_) rfl) rfl
        have rk324_ : rk K F320_ := by rw [q321_]; exact rk_u (rk_u (rk314_) (by first | decide | exact nc_ rfl | omega) (by first | decide | exact nc_ rfl | omega)) (by first | decide | exact nc_ rfl | omega) (by first | decide | exact nc_ rfl | omega)
        refine gr_i (z := F1 344 39) hm_64 rfl rfl rfl ?_
        have e325_ : F276_ 344 1 = 0 := by rw [q277_]; exact (fl_u_ne (by first | exact nc_ rfl | decide | omega)).trans ((fl_u_ne (by first | exact nc_ rfl | decide | omega)).trans ((fl_u_ne (by first | exact nc_ rfl | decide | omega)).trans (fl_u_eq)))
        have e326_ : F1 344 1 = 0 := (hf_F1 344 1 rfl).trans (e325_)
        have e327_ : F303_ 344 1 = 0 := by rw [q304_]; exact (fl_u_ne (by first | exact nc_ rfl | decide | omega)).trans (e326_)
        have e328_ : F310_ 344 1 = 0 := by rw [q311_]; exact (fl_u_ne (by first | exact nc_ rfl | decide | omega)).trans (e327_)
        have e329_ : F320_ 344 1 = 0 := by rw [q321_]; exact (fl_u_ne (by first | exact nc_ rfl | decide | omega)).trans ((fl_u_ne (by first | exact nc_ rfl | decide | omega)).trans (e328_))
        have e330_ : F23_ 344 13 = 0 := by rw [q24_]; exact (fl_u_ne (by first | exact nc_ rfl | decide | omega)).trans ((fl_u_ne (by first | exact nc_ rfl | decide | omega)).trans (fl_u_eq))
        have e331_ : F32_ 344 13 = 0 := (s34_ 344 13 rfl).trans (e330_)
        have e332_ : F53_ 344 13 = 0 := (s55_ 344 13 rfl).trans (e331_)
        have e333_ : F276_ 344 13 = 0 := by rw [q277_]; exact (fl_u_ne (by first | exact nc_ rfl | decide | omega)).trans ((fl_u_ne (by first | exact nc_ rfl | decide | omega)).trans ((fl_u_ne (by first | exact nc_ rfl | decide | omega)).trans ((fl_u_ne (by first | exact nc_ rfl | decide | omega)).trans ((fl_u_ne (by first | exact nc_ rfl | decide | omega)).trans (e332_)))))
        have e334_ : F1 344 13 = 0 := (hf_F1 344 13 rfl).trans (e333_)
        have e335_ : F303_ 344 13 = 0 := by rw [q304_]; exact (fl_u_ne (by first | exact nc_ rfl | decide | omega)).trans (e334_)
        have e336_ : F310_ 344 13 = 0 := by rw [q311_]; exact (fl_u_ne (by first | exact nc_ rfl | decide | omega)).trans (e335_)
        have e337_ : F320_ 344 13 = 0 := by rw [q321_]; exact (fl_u_ne (by first | exact nc_ rfl | decide | omega)).trans ((fl_u_ne (by first | exact nc_ rfl | decide | omega)).trans (e336_))
        have e338_ : F320_ 344 12 = 1 := by rw [q321_]; exact fl_u_eq
        have e339_ : F1 344 36 = F53_ 344 36 := (hf_F1 344 36 rfl).trans (e284_)
        have e340_ : F303_ 344 36 = F53_ 344 36 := by rw [q304_]; exact (fl_u_ne (by first | exact nc_ rfl | decide | omega)).trans (e339_)
        have e341_ : F310_ 344 36 = F53_ 344 36 := by rw [q311_]; exact (fl_u_ne (by first | exact nc_ rfl | decide | omega)).trans (e340_)
        have e342_ : F320_ 344 36 = F53_ 344 36 := by rw [q321_]; exact (fl_u_ne (by first | exact nc_ rfl | decide | omega)).trans ((fl_u_ne (by first | exact nc_ rfl | decide | omega)).trans (e341_))
        have e343_ : F276_ 344 0 = 0 := by rw [q277_]; exact (fl_u_ne (by first | exact nc_ rfl | decide | omega)).trans ((fl_u_ne (by first | exact nc_ rfl | decide | omega)).trans (fl_u_eq))
        have e344_ : F1 344 0 = 0 := (hf_F1 344 0 rfl).trans (e343_)
        have e345_ : F303_ 344 0 = 0 := by rw [q304_]; exact (fl_u_ne (by first | exact nc_ rfl | decide | omega)).trans (e344_)
        have e346_ : F310_ 344 0 = 0 := by rw [q311_]; exact (fl_u_ne (by first | exact nc_ rfl | decide | omega)).trans (e345_)
        have e347_ : F320_ 344 0 = 0 := by rw [q321_]; exact (fl_u_ne (by first | exact nc_ rfl | decide | omega)).trans ((fl_u_ne (by first | exact nc_ rfl | decide | omega)).trans (e346_))
        have e348_ : F276_ 344 8 = 0 := by rw [q277_]; exact (fl_u_ne (by first | exact nc_ rfl | decide | omega)).trans ((fl_u_ne (by first | exact nc_ rfl | decide | omega)).trans ((fl_u_ne (by first | exact nc_ rfl | decide | omega)).trans ((fl_u_ne (by first | exact nc_ rfl | decide | omega)).trans (fl_u_eq))))
        have e349_ : F1 344 8 = 0 := (hf_F1 344 8 rfl).trans (e348_)
        have e350_ : F303_ 344 8 = 0 := by rw [q304_]; exact (fl_u_ne (by first | exact nc_ rfl | decide | omega)).trans (e349_)
        have e351_ : F310_ 344 8 = 0 := by rw [q311_]; exact (fl_u_ne (by first | exact nc_ rfl | decide | omega)).trans (e350_)
        have e352_ : F320_ 344 8 = 0 := by rw [q321_]; exact (fl_u_ne (by first | exact nc_ rfl | decide | omega)).trans ((fl_u_ne (by first | exact nc_ rfl | decide | omega)).trans (e351_))
        have b353_ : 0 ≤ F 344 8 ∧ F 344 8 ≤ 100000 := gi_g hgi rfl
        have e354_ : F23_ 344 11 = F 344 11 := by rw [q24_]; exact (fl_u_ne (by first | exact nc_ rfl | decide | omega)).trans ((fl_u_ne (by first | exact nc_ rfl | decide | omega)).trans ((fl_u_ne (by first | exact nc_ rfl | decide | omega)).trans ((fl_u_ne (by first | exact nc_ rfl | decide | omega)).trans ((fl_u_ne (by first | exact nc_ rfl | decide | omega)).trans ((fl_u_ne (by first | exact nc_ rfl | decide | omega)).trans (fl_u_ne (by first | exact nc_ rfl | decide | omega)))))))
        have e355_ : F32_ 344 11 = F 344 11 := (s34_ 344 11 rfl).trans (e354_)
        have e356_ : F53_ 344 11 = F 344 11 := (s55_ 344 11 rfl).trans (e355_)
        have e357_ : F276_ 344 11 = F 344 11 := by rw [q277_]; exact (fl_u_ne (by first | exact nc_ rfl | decide | omega)).trans ((fl_u_ne (by first | exact nc_ rfl | decide | omega)).trans ((fl_u_ne (by first | exact nc_ rfl | decide | omega)).trans ((fl_u_ne (by first | exact nc_ rfl | decide | omega)).trans ((fl_u_ne (by first | exact nc_ rfl | decide | omega)).trans (e356_)))))
        have e358_ : F1 344 11 = F 344 11 := (hf_F1 344 11 rfl).trans (e357_)
        have e359_ : F303_ 344 11 = F 344 11 := by rw [q304_]; exact (fl_u_ne (by first | exact nc_ rfl | decide | omega)).trans (e358_)
        have e360_ : F310_ 344 11 = F 344 11 := by rw [q311_]; exact (fl_u_ne (by first | exact nc_ rfl | decide | omega)).trans (e359_)
        have e361_ : F320_ 344 11 = F 344 11 := by rw [q321_]; exact (fl_u_ne (by first | exact nc_ rfl | decide | omega)).trans ((fl_u_ne (by first | exact nc_ rfl | decide | omega)).trans (e360_))
        exact ⟨F320_, rfl, g322_, g323_, (⟨by omega, by omega⟩), (by omega), (pli_0 (by omega)), (fun _ => ⟨sob_cg hs1 (Eq.trans (a := F320_ 344 39) (b := F310_ 344 39) (by rw [q321_]; exact (fl_u_ne (by first | exact nc_ rfl | decide | omega)).trans ((fl_u_ne (by first | exact nc_ rfl | decide | omega)))) (Eq.trans (a := F310_ 344 39) (b := F303_ 344 39) (by rw [q311_]; exact (fl_u_ne (by first | exact nc_ rfl | decide | omega))) (show F303_ 344 39 = F1 344 39 from (by rw [q304_]; exact (fl_u_ne (by first | exact nc_ rfl | decide | omega)))))) (fun j => (Eq.trans (a := F320_ 357 j) (b := F310_ 357 j) (by rw [q321_]; exact (fl_u_ne (by first | exact nc_ rfl | decide | omega)).trans ((fl_u_ne (by first | exact nc_ rfl | decide | omega)))) (Eq.trans (a := F310_ 357 j) (b := F303_ 357 j) (by rw [q311_]; exact (fl_u_ne (by first | exact nc_ rfl | decide | omega))) (show F303_ 357 j = F1 357 j from (by rw [q304_]; exact (fl_u_ne (by first | exact nc_ rfl | decide | omega))))))) (fun j => (Eq.trans (a := F320_ 367 j) (b := F310_ 367 j) (by rw [q321_]; exact (fl_u_ne (by first | exact nc_ rfl | decide | omega)).trans ((fl_u_ne (by first | exact nc_ rfl | decide | omega)))) (Eq.trans (a := F310_ 367 j) (b := F303_ 367 j) (by rw [q311_]; exact (fl_u_ne (by first | exact nc_ rfl | decide | omega))) (show F303_ 367 j = F1 367 j from (by rw [q304_]; exact (fl_u_ne (by first | exact nc_ rfl | decide | omega))))))) (fun j => (Eq.trans (a := F320_ 354 j) (b := F310_ 354 j) (by rw [q321_]; exact (fl_u_ne (by first | exact nc_ rfl | decide | omega)).trans ((fl_u_ne (by first | exact nc_ rfl | decide | omega)))) (Eq.trans (a := F310_ 354 j) (b := F303_ 354 j) (by rw [q311_]; exact (fl_u_ne (by first | exact nc_ rfl | decide | omega))) (show F303_ 354 j = F1 354 j from (by rw [q304_]; exact (fl_u_ne (by first | exact nc_ rfl | decide | omega))))))) (fun j => (Eq.trans (a := F320_ 368 j) (b := F310_ 368 j) (by rw [q321_]; exact (fl_u_ne (by first | exact nc_ rfl | decide | omega)).trans ((fl_u_ne (by first | exact nc_ rfl | decide | omega)))) (Eq.trans (a := F310_ 368 j) (b := F303_ 368 j) (by rw [q311_]; exact (fl_u_ne (by first | exact nc_ rfl | decide | omega))) (show F303_ 368 j = F1 368 j from (by rw [q304_]; exact (fl_u_ne (by first | exact nc_ rfl | decide | omega))))))), by omega⟩), (Or.inr ⟨by omega, Or.inr (by obtain ⟨l, tl, c1⟩ := c51_; exact ⟨l, tl, c1, by omega, by omega, by omega⟩)⟩)⟩
      refine ga_aload_n (v := .ref 344) hm_64 rfl rfl rfl ?_
      refine fl_iconst hm_64 rfl ?_
      refine ga_puti (z := 3) hm_64 rfl sc_344 rfl rfl ?_
      refine fl_iconst hm_64 rfl ?_
      obtain ⟨F362_, q363_⟩ : ∃ Fq_, Fq_ = (fl_u F1 344 0 3) := ⟨_, rfl⟩
      rw [← q363_]
      have g364_ : gi F362_ := by rw [q363_]; exact gi_u (hg_F1) rfl (by omega) (by omega)
      have g365_ : fs [(344, 344, 0, 1), (344, 344, 4, 5), (344, 344, 8, 10), (344, 344, 12, 13), (344, 344, 33, 33), (344, 344, 36, 36), (344, 344, 38, 39), (344, 344, 46, 48), (344, 344, 60, 60), (344, 344, 64, 64), (347, 348, 0, 100000), (358, 358, 0, 100000), (360, 372, 0, 100000), (384, 384, 0, 100000)] F F362_ := by rw [q363_]; exact fs_u (g286_) rfl
      have rk366_ : rk K F362_ := by rw [q363_]; exact rk_u (rk287_) (by first | decide | exact nc_ rfl | omega) (by first | decide | exact nc_ rfl | omega)
      refine gr_i (z := 0) hm_64 rfl rfl rfl ?_
      have e367_ : F276_ 344 1 = 0 := by rw [q277_]; exact (fl_u_ne (by first | exact nc_ rfl | decide | omega)).trans ((fl_u_ne (by first | exact nc_ rfl | decide | omega)).trans ((fl_u_ne (by first | exact nc_ rfl | decide | omega)).trans (fl_u_eq)))
      have e368_ : F1 344 1 = 0 := (hf_F1 344 1 rfl).trans (e367_)
      have e369_ : F362_ 344 1 = 0 := by rw [q363_]; exact (fl_u_ne (by first | exact nc_ rfl | decide | omega)).trans (e368_)
      have e370_ : F23_ 344 13 = 0 := by rw [q24_]; exact (fl_u_ne (by first | exact nc_ rfl | decide | omega)).trans ((fl_u_ne (by first | exact nc_ rfl | decide | omega)).trans (fl_u_eq))
      have e371_ : F32_ 344 13 = 0 := (s34_ 344 13 rfl).trans (e370_)
      have e372_ : F53_ 344 13 = 0 := (s55_ 344 13 rfl).trans (e371_)
      have e373_ : F276_ 344 13 = 0 := by rw [q277_]; exact (fl_u_ne (by first | exact nc_ rfl | decide | omega)).trans ((fl_u_ne (by first | exact nc_ rfl | decide | omega)).trans ((fl_u_ne (by first | exact nc_ rfl | decide | omega)).trans ((fl_u_ne (by first | exact nc_ rfl | decide | omega)).trans ((fl_u_ne (by first | exact nc_ rfl | decide | omega)).trans (e372_)))))
      have e374_ : F1 344 13 = 0 := (hf_F1 344 13 rfl).trans (e373_)
      have e375_ : F362_ 344 13 = 0 := by rw [q363_]; exact (fl_u_ne (by first | exact nc_ rfl | decide | omega)).trans (e374_)
      have e376_ : F23_ 344 12 = 0 := by rw [q24_]; exact (fl_u_ne (by first | exact nc_ rfl | decide | omega)).trans ((fl_u_ne (by first | exact nc_ rfl | decide | omega)).trans ((fl_u_ne (by first | exact nc_ rfl | decide | omega)).trans (fl_u_eq)))
      have e377_ : F32_ 344 12 = 0 := (s34_ 344 12 rfl).trans (e376_)
      have e378_ : F53_ 344 12 = 0 := (s55_ 344 12 rfl).trans (e377_)
      have e379_ : F276_ 344 12 = 0 := by rw [q277_]; exact (fl_u_ne (by first | exact nc_ rfl | decide | omega)).trans ((fl_u_ne (by first | exact nc_ rfl | decide | omega)).trans ((fl_u_ne (by first | exact nc_ rfl | decide | omega)).trans ((fl_u_ne (by first | exact nc_ rfl | decide | omega)).trans ((fl_u_ne (by first | exact nc_ rfl | decide | omega)).trans (e378_)))))
      have e380_ : F1 344 12 = 0 := (hf_F1 344 12 rfl).trans (e379_)
      have e381_ : F362_ 344 12 = 0 := by rw [q363_]; exact (fl_u_ne (by first | exact nc_ rfl | decide | omega)).trans (e380_)
      have e382_ : F1 344 36 = F53_ 344 36 := (hf_F1 344 36 rfl).trans (e284_)
      have e383_ : F362_ 344 36 = F53_ 344 36 := by rw [q363_]; exact (fl_u_ne (by first | exact nc_ rfl | decide | omega)).trans (e382_)
      have e384_ : F362_ 344 0 = 3 := by rw [q363_]; exact fl_u_eq
      have e385_ : F276_ 344 8 = 0 := by rw [q277_]; exact (fl_u_ne (by first | exact nc_ rfl | decide | omega)).trans ((fl_u_ne (by first | exact nc_ rfl | decide | omega)).trans ((fl_u_ne (by first | exact nc_ rfl | decide | omega)).trans ((fl_u_ne (by first | exact nc_ rfl | decide | omega)).trans (fl_u_eq))))
      have e386_ : F1 344 8 = 0 := (hf_F1 344 8 rfl).trans (e385_)
      have e387_ : F362_ 344 8 = 0 := by rw [q363_]; exact (fl_u_ne (by first | exact nc_ rfl | decide | omega)).trans (e386_)
      have b388_ : 0 ≤ F 344 8 ∧ F 344 8 ≤ 100000 := gi_g hgi rfl
      have e389_ : F23_ 344 11 = F 344 11 := by rw [q24_]; exact (fl_u_ne (by first | exact nc_ rfl | decide | omega)).trans ((fl_u_ne (by first | exact nc_ rfl | decide | omega)).trans ((fl_u_ne (by first | exact nc_ rfl | decide | omega)).trans ((fl_u_ne (by first | exact nc_ rfl | decide | omega)).trans ((fl_u_ne (by first | exact nc_ rfl | decide | omega)).trans ((fl_u_ne (by first | exact nc_ rfl | decide | omega)).trans (fl_u_ne (by first | exact nc_ rfl | decide | omega)))))))
      have e390_ : F32_ 344 11 = F 344 11 := (s34_ 344 11 rfl).trans (e389_)
      have e391_ : F53_ 344 11 = F 344 11 := (s55_ 344 11 rfl).trans (e390_)
      have e392_ : F276_ 344 11 = F 344 11 := by rw [q277_]; exact (fl_u_ne (by first | exact nc_ rfl | decide | omega)).trans ((fl_u_ne (by first | exact nc_ rfl | decide | omega)).trans ((fl_u_ne (by first | exact nc_ rfl | decide | omega)).trans ((fl_u_ne (by first | exact nc_ rfl | decide | omega)).trans ((fl_u_ne (by first | exact nc_ rfl | decide | omega)).trans (e391_)))))
      have e393_ : F1 344 11 = F 344 11 := (hf_F1 344 11 rfl).trans (e392_)
      have e394_ : F362_ 344 11 = F 344 11 := by rw [q363_]; exact (fl_u_ne (by first | exact nc_ rfl | decide | omega)).trans (e393_)
      exact ⟨F362_, rfl, g364_, g365_, (⟨by omega, by omega⟩), (by omega), (pli_0 (by omega)), (fun h9_ => absurd h9_ (by omega)), (Or.inr ⟨by omega, Or.inr (by obtain ⟨l, tl, c1⟩ := c51_; exact ⟨l, tl, c1, by omega, by omega, by omega⟩)⟩)⟩
    refine ga_iload_n (z := ft) hm_64 rfl rfl ?_
    refine fl_if_eq (a := ft) hm_64 rfl ⟨by omega, by omega⟩ (fun h395_ => ?_) (fun h396_ => ?_)
    ·
      refine ga_iload_n (z := ft) hm_64 rfl rfl ?_
      refine fx_if_ne (a := ft) hm_64 rfl ⟨by omega, by omega⟩ (fun h397_ => ?_) (fun h398_ => ?_)
      · exfalso; omega
      refine ga_aload_n (v := .ref 344) hm_64 rfl rfl rfl ?_
      refine fl_iconst hm_64 rfl ?_
      refine ga_puti (z := 3) hm_64 rfl sc_344 rfl rfl ?_
      refine fl_iconst hm_64 rfl ?_
      obtain ⟨F399_, q400_⟩ : ∃ Fq_, Fq_ = (fl_u F1 344 0 3) := ⟨_, rfl⟩
      rw [← q400_]
      have g401_ : gi F399_ := by rw [q400_]; exact gi_u (hg_F1) rfl (by omega) (by omega)
      have g402_ : fs [(344, 344, 0, 1), (344, 344, 4, 5), (344, 344, 8, 10), (344, 344, 12, 13), (344, 344, 33, 33), (344, 344, 36, 36), (344, 344, 38, 39), (344, 344, 46, 48), (344, 344, 60, 60), (344, 344, 64, 64), (347, 348, 0, 100000), (358, 358, 0, 100000), (360, 372, 0, 100000), (384, 384, 0, 100000)] F F399_ := by rw [q400_]; exact fs_u (g286_) rfl
      have rk403_ : rk K F399_ := by rw [q400_]; exact rk_u (rk287_) (by first | decide | exact nc_ rfl | omega) (by first | decide | exact nc_ rfl | omega)
      refine gr_i (z := 0) hm_64 rfl rfl rfl ?_
      have e404_ : F276_ 344 1 = 0 := by rw [q277_]; exact (fl_u_ne (by first | exact nc_ rfl | decide | omega)).trans ((fl_u_ne (by first | exact nc_ rfl | decide | omega)).trans ((fl_u_ne (by first | exact nc_ rfl | decide | omega)).trans (fl_u_eq)))
      have e405_ : F1 344 1 = 0 := (hf_F1 344 1 rfl).trans (e404_)
      have e406_ : F399_ 344 1 = 0 := by rw [q400_]; exact (fl_u_ne (by first | exact nc_ rfl | decide | omega)).trans (e405_)
      have e407_ : F23_ 344 13 = 0 := by rw [q24_]; exact (fl_u_ne (by first | exact nc_ rfl | decide | omega)).trans ((fl_u_ne (by first | exact nc_ rfl | decide | omega)).trans (fl_u_eq))
      have e408_ : F32_ 344 13 = 0 := (s34_ 344 13 rfl).trans (e407_)
      have e409_ : F53_ 344 13 = 0 := (s55_ 344 13 rfl).trans (e408_)
      have e410_ : F276_ 344 13 = 0 := by rw [q277_]; exact (fl_u_ne (by first | exact nc_ rfl | decide | omega)).trans ((fl_u_ne (by first | exact nc_ rfl | decide | omega)).trans ((fl_u_ne (by first | exact nc_ rfl | decide | omega)).trans ((fl_u_ne (by first | exact nc_ rfl | decide | omega)).trans ((fl_u_ne (by first | exact nc_ rfl | decide | omega)).trans (e409_)))))
      have e411_ : F1 344 13 = 0 := (hf_F1 344 13 rfl).trans (e410_)
      have e412_ : F399_ 344 13 = 0 := by rw [q400_]; exact (fl_u_ne (by first | exact nc_ rfl | decide | omega)).trans (e411_)
      have e413_ : F23_ 344 12 = 0 := by rw [q24_]; exact (fl_u_ne (by first | exact nc_ rfl | decide | omega)).trans ((fl_u_ne (by first | exact nc_ rfl | decide | omega)).trans ((fl_u_ne (by first | exact nc_ rfl | decide | omega)).trans (fl_u_eq)))
      have e414_ : F32_ 344 12 = 0 := (s34_ 344 12 rfl).trans (e413_)
      have e415_ : F53_ 344 12 = 0 := (s55_ 344 12 rfl).trans (e414_)
      have e416_ : F276_ 344 12 = 0 := by rw [q277_]; exact (fl_u_ne (by first | exact nc_ rfl | decide | omega)).trans ((fl_u_ne (by first | exact nc_ rfl | decide | omega)).trans ((fl_u_ne (by first | exact nc_ rfl | decide | omega)).trans ((fl_u_ne (by first | exact nc_ rfl | decide | omega)).trans ((fl_u_ne (by first | exact nc_ rfl | decide | omega)).trans (e415_)))))
      have e417_ : F1 344 12 = 0 := (hf_F1 344 12 rfl).trans (e416_)
      have e418_ : F399_ 344 12 = 0 := by rw [q400_]; exact (fl_u_ne (by first | exact nc_ rfl | decide | omega)).trans (e417_)
      have e419_ : F1 344 36 = F53_ 344 36 := (hf_F1 344 36 rfl).trans (e284_)
      have e420_ : F399_ 344 36 = F53_ 344 36 := by rw [q400_]; exact (fl_u_ne (by first | exact nc_ rfl | decide | omega)).trans (e419_)
      have e421_ : F399_ 344 0 = 3 := by rw [q400_]; exact fl_u_eq
      have e422_ : F276_ 344 8 = 0 := by rw [q277_]; exact (fl_u_ne (by first | exact nc_ rfl | decide | omega)).trans ((fl_u_ne (by first | exact nc_ rfl | decide | omega)).trans ((fl_u_ne (by first | exact nc_ rfl | decide | omega)).trans ((fl_u_ne (by first | exact nc_ rfl | decide | omega)).trans (fl_u_eq))))
      have e423_ : F1 344 8 = 0 := (hf_F1 344 8 rfl).trans (e422_)
      have e424_ : F399_ 344 8 = 0 := by rw [q400_]; exact (fl_u_ne (by first | exact nc_ rfl | decide | omega)).trans (e423_)
      have b425_ : 0 ≤ F 344 8 ∧ F 344 8 ≤ 100000 := gi_g hgi rfl
      have e426_ : F23_ 344 11 = F 344 11 := by rw [q24_]; exact (fl_u_ne (by first | exact nc_ rfl | decide | omega)).trans ((fl_u_ne (by first | exact nc_ rfl | decide | omega)).trans ((fl_u_ne (by first | exact nc_ rfl | decide | omega)).trans ((fl_u_ne (by first | exact nc_ rfl | decide | omega)).trans ((fl_u_ne (by first | exact nc_ rfl | decide | omega)).trans ((fl_u_ne (by first | exact nc_ rfl | decide | omega)).trans (fl_u_ne (by first | exact nc_ rfl | decide | omega)))))))
      have e427_ : F32_ 344 11 = F 344 11 := (s34_ 344 11 rfl).trans (e426_)
      have e428_ : F53_ 344 11 = F 344 11 := (s55_ 344 11 rfl).trans (e427_)
      have e429_ : F276_ 344 11 = F 344 11 := by rw [q277_]; exact (fl_u_ne (by first | exact nc_ rfl | decide | omega)).trans ((fl_u_ne (by first | exact nc_ rfl | decide | omega)).trans ((fl_u_ne (by first | exact nc_ rfl | decide | omega)).trans ((fl_u_ne (by first | exact nc_ rfl | decide | omega)).trans ((fl_u_ne (by first | exact nc_ rfl | decide | omega)).trans (e428_)))))
      have e430_ : F1 344 11 = F 344 11 := (hf_F1 344 11 rfl).trans (e429_)
      have e431_ : F399_ 344 11 = F 344 11 := by rw [q400_]; exact (fl_u_ne (by first | exact nc_ rfl | decide | omega)).trans (e430_)
      exact ⟨F399_, rfl, g401_, g402_, (⟨by omega, by omega⟩), (by omega), (pli_0 (by omega)), (fun h9_ => absurd h9_ (by omega)), (Or.inr ⟨by omega, Or.inr (by obtain ⟨l, tl, c1⟩ := c51_; exact ⟨l, tl, c1, by omega, by omega, by omega⟩)⟩)⟩
    refine ga_aload_n (v := .ref 344) hm_64 rfl rfl rfl ?_
    refine ga_iload_n (z := a) hm_64 rfl rfl ?_
    have e432_ : F23_ 357 a.toNat = F 357 a.toNat := by rw [q24_]; exact (fl_u_ne (by first | exact nc_ rfl | decide | omega)).trans ((fl_u_ne (by first | exact nc_ rfl | decide | omega)).trans ((fl_u_ne (by first | exact nc_ rfl | decide | omega)).trans ((fl_u_ne (by first | exact nc_ rfl | decide | omega)).trans ((fl_u_ne (by first | exact nc_ rfl | decide | omega)).trans ((fl_u_ne (by first | exact nc_ rfl | decide | omega)).trans (fl_u_ne (by first | exact nc_ rfl | decide | omega)))))))
    have e433_ : F32_ 357 a.toNat = F 357 a.toNat := (s34_ 357 a.toNat (by first | exact fs_c rfl | exact (fs_n (by omega) (fs_n (by omega) rfl)))).trans (e432_)
    have e434_ : F53_ 357 a.toNat = F 357 a.toNat := (s55_ 357 a.toNat (by first | exact fs_c rfl | exact (fs_n (by omega) (fs_n (by omega) (fs_n (by omega) (fs_n (by omega) (fs_n (by omega) (fs_n (by omega) (fs_n (by omega) rfl))))))))).trans (e433_)
    have e435_ : F276_ 357 a.toNat = F 357 a.toNat := by rw [q277_]; exact (fl_u_ne (by first | exact nc_ rfl | decide | omega)).trans ((fl_u_ne (by first | exact nc_ rfl | decide | omega)).trans ((fl_u_ne (by first | exact nc_ rfl | decide | omega)).trans ((fl_u_ne (by first | exact nc_ rfl | decide | omega)).trans ((fl_u_ne (by first | exact nc_ rfl | decide | omega)).trans (e434_)))))
    have e436_ : F1 357 a.toNat = F 357 a.toNat := (hf_F1 357 a.toNat (by first | exact fs_c rfl | exact (fs_n (by omega) (fs_n (by omega) (fs_n (by omega) rfl))))).trans (e435_)
    refine gVi (nY := 6) (F := 3) (L := 75) (As := [.int (Int32.ofInt a)]) (b := 344) (rest := []) hm_64 rfl hm_165 rfl rfl (fl_ob sc_344) rfl rfl rfl rfl rfl (by omega) (by omega) (mc_165 hG F1 X hg_F1 (a) (⟨by omega, by omega⟩) (by have h9_ := hcs (by omega) a.toNat (by omega); omega) (hs1)) (fun _ _ h => False.elim h) ?_
    rintro z437_ A1_ ⟨F440_, hA_, g441_, s442_, c438_, c439_⟩
    subst hA_
    have g443_ : fs [(344, 344, 0, 1), (344, 344, 4, 5), (344, 344, 8, 10), (344, 344, 12, 13), (344, 344, 33, 33), (344, 344, 36, 36), (344, 344, 38, 39), (344, 344, 46, 48), (344, 344, 60, 60), (344, 344, 64, 64), (347, 348, 0, 100000), (358, 358, 0, 100000), (360, 372, 0, 100000), (384, 384, 0, 100000)] F F440_ := fs_tr g286_ s442_ rfl
    have rk444_ : rk K F440_ := rk_fs rk287_ s442_ (fs_rg rfl) rfl
    refine ga_istore_n (lv2 := [(1, .int (Int32.ofInt z437_)), (2, .int (Int32.ofInt a)), (0, .ref 344)]) hm_64 rfl (Nat.le_of_ble_eq_true rfl) rfl ?_
    refine ga_inc (a := a) (c := a + 1) (lv2 := [(2, .int (Int32.ofInt (a + 1))), (1, .int (Int32.ofInt z437_)), (0, .ref 344)]) hm_64 rfl rfl (Nat.le_of_ble_eq_true rfl) rfl rfl ?_
    refine fl_goto hm_64 rfl ?_
    exact ih283_ _ (by omega) (z437_) (a + 1) F440_ rfl g441_ (fs_tr hf_F1 s442_ rfl) (⟨by omega, by omega⟩) (⟨by omega, by omega⟩) (c439_) (fun _ => hf4 (by omega))
  have e445_ : F276_ 344 39 = 0 := by rw [q277_]; exact fl_u_eq
  exact L282_ _ (1) (0) F276_ rfl g278_ fs_refl (⟨by omega, by omega⟩) (⟨by omega, by omega⟩) (sob_0 (e445_)) (by omega)

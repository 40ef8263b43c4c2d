/- CheapPlannerModel.problem -/
abbrev pq_64 (G : Nat → Nat → Option Nat) (F : fl_N) (X : xi_H) (K : fl_N) (nm : Int) (ts pl : List Int) (ps : List (List Int)) (D : List ad_T) : Outcome → xi_H → Prop := gqi (fun z A => ∃ F' : fl_N, fl_H sh_T G F' ++ X = A ∧ gi F' ∧ fs [(344, 344, 0, 1), (344, 344, 4, 5), (344, 344, 8, 10), (344, 344, 12, 13), (344, 344, 33, 33), (344, 344, 36, 36), (344, 344, 38, 39), (344, 344, 46, 48), (344, 344, 60, 60), (344, 344, 64, 64), (347, 348, 0, 100000), (358, 358, 5, 5), (360, 362, 40, 43), (363, 363, 80, 87), (364, 372, 0, 100000), (384, 384, 0, 100000)] F F' ∧ (-2147483648 ≤ z ∧ z ≤ 2147483647) ∧ ((F 344 11 = 0 ∧ F' 344 1 = F 344 1) ∨ (F 344 11 = 1 ∧ F' 344 1 = 0)) ∧ (pli F') ∧ (F' 344 12 = 1 → sob F' ∧ F' 344 36 ≤ 40) ∧ ((F 344 11 = 0 ∧ F' 344 0 = 1 ∧ F' 344 8 = F 344 8) ∨ (F 344 11 = 1 ∧ ((∃ e, sp_prb K nm ts pl ps = .inl e ∧ F' 344 8 = e.1 + 10 * e.2 ∧ F' 344 0 = 2) ∨ (∃ l tl, sp_prb K nm ts pl ps = .inr (l, tl) ∧ F' 344 8 = 0 ∧ ((F' 344 0 = 3 ∧ (40 < nfc ps tl 216 ∨ 40 < (stP tl D D.length).length)) ∨ (F' 344 0 = 0 ∧ nfc ps tl 216 ≤ 40 ∧ (stP tl D D.length).length ≤ 40 ∧ z = ((stP tl D D.length).length : Int) ∧ F' 344 39 = ((stP tl D D.length).length : Int) ∧ rsts F' D (stP tl D D.length))))))) ∧ ((F' 344 0 = 0 → F' 344 12 = 1 ∧ F' 344 60 = 0) ∧ (F' 344 0 = 1 → F' 344 12 = F 344 12) ∧ (F' 344 0 = 2 ∨ F' 344 0 = 3 → F' 344 12 = 0))) gqn
set_option maxHeartbeats 16000000 in
theorem mc_64 {G : Nat → Nat → Option Nat} (hG : gg G) (F : fl_N) (X : xi_H) (hgi : gi F) (K : fl_N) (nm : Int) (ts pl : List Int) (ps : List (List Int)) (D : List ad_T) (hin : kin K (F 344 1)) (htx : ∀ j : Nat, (j : Int) < F 344 1 → F 345 j = K 2 j) (hkw : ∀ j : Nat, j < 76 → F 346 j = ra_at 346 j) (hdm : F 344 11 = 1 → nrel nm (F 344 14) ∧ rpn (F 349) (F 344 15) ts ∧ rpn (F 350) (F 344 17) pl ∧ (rprd F ps ∧ ps.length = pl.length)) (hcs : F 344 11 = 1 → ∀ j : Nat, (j : Int) < F 344 21 → 0 ≤ F 357 j) (hpl : pli F) (hpb : F 344 12 = 1 → sob F ∧ F 344 36 ≤ 40) (hDD : F 344 11 = 1 → rdar F D ∧ (D.length : Int) = F 344 21 ∧ ∀ d ∈ D, adok ps d ∧ d.1.length ≤ 3) : fl_M xi_ms 64 8 188 [.ref 344] (fl_H sh_T G F ++ X) (pq_64 G F X K nm ts pl ps D) := by
  intro fr lo hfr hlo
  show fl_R xi_ms 64 fr lo 0 [(0, .ref 344)] [] _ _
  have hb1 : 0 ≤ F 344 1 ∧ F 344 1 ≤ 600 := gi_g hgi rfl
  have hb11 : 0 ≤ F 344 11 ∧ F 344 11 ≤ 1 := gi_g hgi rfl
  refine ga_aload_n (v := .ref 344) hm_64 rfl rfl rfl ?_
  refine ga_aload_n (v := .ref 344) hm_64 rfl rfl rfl ?_
  have b1_ : 0 ≤ F 344 11 ∧ F 344 11 ≤ 1 := gi_g hgi rfl
  refine ga_geti (z := F 344 11) hm_64 rfl sc_344 rfl (rfl) ?_
  refine fl_if_eq (a := F 344 11) hm_64 rfl ⟨by omega, by omega⟩ (fun h2_ => ?_) (fun h3_ => ?_)
  ·
    refine fl_iconst hm_64 rfl ?_
    refine ga_puti (z := 1) hm_64 rfl sc_344 rfl rfl ?_
    refine ga_aload_n (v := .ref 344) hm_64 rfl rfl rfl ?_
    refine ga_geti (z := 1) hm_64 rfl sc_344 rfl (fl_u_eq) ?_
    refine fl_if_le hm_64 rfl ⟨by omega, by omega⟩ (fun h => absurd h (by omega)) (fun _ => ?_)
    refine fl_iconst hm_64 rfl ?_
    obtain ⟨F4_, q5_⟩ : ∃ Fq_, Fq_ = (fl_u F 344 0 1) := ⟨_, rfl⟩
    rw [← q5_]
    have g6_ : gi F4_ := by rw [q5_]; exact gi_u (hgi) rfl (by omega) (by omega)
    have g7_ : fs [(344, 344, 0, 1), (344, 344, 4, 5), (344, 344, 8, 10), (344, 344, 12, 13), (344, 344, 33, 33), (344, 344, 36, 36), (344, 344, 38, 39), (344, 344, 46, 48), (344, 344, 60, 60), (344, 344, 64, 64), (347, 348, 0, 100000), (358, 358, 5, 5), (360, 362, 40, 43), (363, 363, 80, 87), (364, 372, 0, 100000), (384, 384, 0, 100000)] F F4_ := by rw [q5_]; exact fs_u (fs_refl) rfl
    refine gr_i (z := 0) hm_64 rfl rfl rfl ?_
    have e8_ : F4_ 344 1 = F 344 1 := by rw [q5_]; exact fl_u_ne (by first | exact nc_ rfl | decide | omega)
    have b9_ : 0 ≤ F 344 1 ∧ F 344 1 ≤ 600 := gi_g hgi rfl
    have e10_ : F4_ 344 13 = F 344 13 := by rw [q5_]; exact fl_u_ne (by first | exact nc_ rfl | decide | omega)
    have e11_ : F4_ 344 12 = F 344 12 := by rw [q5_]; exact fl_u_ne (by first | exact nc_ rfl | decide | omega)
    have b12_ : 0 ≤ F 344 12 ∧ F 344 12 ≤ 1 := gi_g hgi rfl
    have e13_ : F4_ 344 36 = F 344 36 := by rw [q5_]; exact fl_u_ne (by first | exact nc_ rfl | decide | omega)
    have b14_ : 0 ≤ F 344 36 ∧ F 344 36 ≤ 216 := gi_g hgi rfl
    have e15_ : F4_ 344 0 = 1 := by rw [q5_]; exact fl_u_eq
    have e16_ : F4_ 344 39 = F 344 39 := by rw [q5_]; exact fl_u_ne (by first | exact nc_ rfl | decide | omega)
    have b17_ : 0 ≤ F 344 39 ∧ F 344 39 ≤ 40 := gi_g hgi rfl
    have e18_ : F4_ 344 8 = F 344 8 := by rw [q5_]; exact fl_u_ne (by first | exact nc_ rfl | decide | omega)
    have b19_ : 0 ≤ F 344 8 ∧ F 344 8 ≤ 100000 := gi_g hgi rfl
    have e20_ : F4_ 344 11 = F 344 11 := by rw [q5_]; exact fl_u_ne (by first | exact nc_ rfl | decide | omega)
    have e21_ : F4_ 344 60 = F 344 60 := by rw [q5_]; exact fl_u_ne (by first | exact nc_ rfl | decide | omega)
    have b22_ : 0 ≤ F 344 60 ∧ F 344 60 ≤ 60 := gi_g hgi rfl
    exact ⟨F4_, rfl, g6_, g7_, (⟨by omega, by omega⟩), (by omega), (pli_cg hpl (show F4_ 344 13 = F 344 13 from (by rw [q5_]; exact (fl_u_ne (by first | exact nc_ rfl | decide | omega)))) (show F4_ 344 58 = F 344 58 from (by rw [q5_]; exact (fl_u_ne (by first | exact nc_ rfl | decide | omega)))) (fun j => (show F4_ 354 j = F 354 j from (by rw [q5_]; exact (fl_u_ne (by first | exact nc_ rfl | decide | omega))))) (fun j => (show F4_ 367 j = F 367 j from (by rw [q5_]; exact (fl_u_ne (by first | exact nc_ rfl | decide | omega))))) (fun j => (show F4_ 368 j = F 368 j from (by rw [q5_]; exact (fl_u_ne (by first | exact nc_ rfl | decide | omega))))) (fun j => (show F4_ 381 j = F 381 j from (by rw [q5_]; exact (fl_u_ne (by first | exact nc_ rfl | decide | omega)))))), (fun h9_ => by have h8_ := hpb (by omega); have h7_ : F4_ 344 36 = F 344 36 := (show F4_ 344 36 = F 344 36 from (by rw [q5_]; exact (fl_u_ne (by first | exact nc_ rfl | decide | omega)))); exact ⟨sob_cg h8_.1 (show F4_ 344 39 = F 344 39 from (by rw [q5_]; exact (fl_u_ne (by first | exact nc_ rfl | decide | omega)))) (fun j => (show F4_ 357 j = F 357 j from (by rw [q5_]; exact (fl_u_ne (by first | exact nc_ rfl | decide | omega))))) (fun j => (show F4_ 367 j = F 367 j from (by rw [q5_]; exact (fl_u_ne (by first | exact nc_ rfl | decide | omega))))) (fun j => (show F4_ 354 j = F 354 j from (by rw [q5_]; exact (fl_u_ne (by first | exact nc_ rfl | decide | omega))))) (fun j => (show F4_ 368 j = F 368 j from (by rw [q5_]; exact (fl_u_ne (by first | exact nc_ rfl | decide | omega))))), by omega⟩), (Or.inl ⟨by omega, by omega, by omega⟩), (⟨fun h9_ => ⟨by omega, by omega⟩, fun h9_ => by omega, fun h9_ => by omega⟩)⟩
  refine fl_iconst hm_64 rfl ?_
  refine fl_goto hm_64 rfl ?_
  refine ga_puti (z := 0) hm_64 rfl sc_344 rfl rfl ?_
  refine ga_aload_n (v := .ref 344) hm_64 rfl rfl rfl ?_
  refine ga_geti (z := 0) hm_64 rfl sc_344 rfl (fl_u_eq) ?_
  refine fl_if_le hm_64 rfl ⟨by omega, by omega⟩ (fun _ => ?_) (fun h => absurd (by omega) h)
  obtain ⟨hnm, hts, hrpl, hps⟩ := hdm (by omega)
  obtain ⟨hD, hDl, hDw⟩ := hDD (by omega)
  have hb21 : 0 ≤ F 344 21 ∧ F 344 21 ≤ 5 := gi_g hgi rfl
  refine ga_aload_n (v := .ref 344) hm_64 rfl rfl rfl ?_
  refine gIv (nY := 1) (F := 0) (L := 0) (As := []) (b := 344) (rest := []) hm_64 rfl hm_48 rfl rfl (fl_ob sc_344) rfl rfl rfl rfl rfl (by omega) (by omega) ?_
  intro f23_ l24_ h25_ h26_
  show fl_R xi_ms 48 f23_ l24_ 0 [(0, .ref 344)] [] _ _
  refine ga_aload_n (v := .ref 344) hm_48 rfl rfl rfl ?_
  refine fl_iconst hm_48 rfl ?_
  refine ga_puti (z := 0) hm_48 rfl sc_344 rfl rfl ?_
  refine ga_aload_n (v := .ref 344) hm_48 rfl rfl rfl ?_
  refine fl_iconst hm_48 rfl ?_
  refine ga_puti (z := 0) hm_48 rfl sc_344 rfl rfl ?_
  refine gr_v hm_48 rfl rfl ?_
  clear h25_ h26_ f23_ l24_
  refine ga_aload_n (v := .ref 344) hm_64 rfl rfl rfl ?_
  refine fl_iconst hm_64 rfl ?_
  refine ga_putz (z := 0) hm_64 rfl sc_344 rfl rfl (by omega) ?_
  refine ga_aload_n (v := .ref 344) hm_64 rfl rfl rfl ?_
  refine fl_iconst hm_64 rfl ?_
  refine ga_putz (z := 0) hm_64 rfl sc_344 rfl rfl (by omega) ?_
  refine ga_aload_n (v := .ref 344) hm_64 rfl rfl rfl ?_
  refine fl_iconst hm_64 rfl ?_
  refine ga_puti (z := 0) hm_64 rfl sc_344 rfl rfl ?_
  refine ga_aload_n (v := .ref 344) hm_64 rfl rfl rfl ?_
  refine fl_iconst hm_64 rfl ?_
  refine ga_puti (z := 0) hm_64 rfl sc_344 rfl rfl ?_
  refine ga_aload_n (v := .ref 344) hm_64 rfl rfl rfl ?_
  obtain ⟨F27_, q28_⟩ : ∃ Fq_, Fq_ = (fl_u (fl_u (fl_u (fl_u (fl_u (fl_u (fl_u F 344 0 0) 344 9 0) 344 10 0) 344 12 0) 344 13 0) 344 33 0) 344 60 0) := ⟨_, rfl⟩
  rw [← q28_]
  have g29_ : gi F27_ := by rw [q28_]; exact gi_u (gi_u (gi_u (gi_u (gi_u (gi_u (gi_u (hgi) rfl (by omega) (by omega)) rfl (by omega) (by omega)) rfl (by omega) (by omega)) rfl (by omega) (by omega)) rfl (by omega) (by omega)) rfl (by omega) (by omega)) rfl (by omega) (by omega)
  have g30_ : fs [(344, 344, 0, 1), (344, 344, 4, 5), (344, 344, 8, 10), (344, 344, 12, 13), (344, 344, 33, 33), (344, 344, 36, 36), (344, 344, 38, 39), (344, 344, 46, 48), (344, 344, 60, 60), (344, 344, 64, 64), (347, 348, 0, 100000), (358, 358, 5, 5), (360, 362, 40, 43), (363, 363, 80, 87), (364, 372, 0, 100000), (384, 384, 0, 100000)] F F27_ := by rw [q28_]; exact fs_u (fs_u (fs_u (fs_u (fs_u (fs_u (fs_u (fs_refl) rfl) rfl) rfl) rfl) rfl) rfl) rfl
  refine gVv (nY := 3) (F := 0) (L := 0) (As := []) (b := 344) (rest := []) hm_64 rfl hm_49 rfl rfl (fl_ob sc_344) rfl rfl rfl rfl rfl (by omega) (by omega) (mc_49 hG F27_ X g29_) (fun _ _ h => False.elim h) ?_
  have e32_ : F27_ 344 1 = F 344 1 := by rw [q28_]; exact (fl_u_ne (by first | exact nc_ rfl | decide | omega)).trans ((fl_u_ne (by first | exact nc_ rfl | decide | omega)).trans ((fl_u_ne (by first | exact nc_ rfl | decide | omega)).trans ((fl_u_ne (by first | exact nc_ rfl | decide | omega)).trans ((fl_u_ne (by first | exact nc_ rfl | decide | omega)).trans ((fl_u_ne (by first | exact nc_ rfl | decide | omega)).trans (fl_u_ne (by first | exact nc_ rfl | decide | omega)))))))
  have b33_ : 0 ≤ F 344 1 ∧ F 344 1 ≤ 600 := gi_g hgi rfl
  rintro A1_ ⟨F36_, hA_, g37_, s38_, c34_, c35_⟩
  subst hA_
  have g39_ : fs [(344, 344, 0, 1), (344, 344, 4, 5), (344, 344, 8, 10), (344, 344, 12, 13), (344, 344, 33, 33), (344, 344, 36, 36), (344, 344, 38, 39), (344, 344, 46, 48), (344, 344, 60, 60), (344, 344, 64, 64), (347, 348, 0, 100000), (358, 358, 5, 5), (360, 362, 40, 43), (363, 363, 80, 87), (364, 372, 0, 100000), (384, 384, 0, 100000)] F F36_ := fs_tr g30_ s38_ rfl
  try simp only [e32_] at c34_
  have hgK : gi K := hin.1
  have hkt : rkt K := rkt_of hin
  have hko := hkt.1
  have hk16 := hko.1
  have hrk1 : rk K F36_ := rk_of (n := F 344 1) hin (fun j hj => Eq.trans (show F27_ 345 j = F 345 j from (by rw [q28_]; exact (fl_u_ne (by first | exact nc_ rfl | decide | omega)).trans ((fl_u_ne (by first | exact nc_ rfl | decide | omega)).trans ((fl_u_ne (by first | exact nc_ rfl | decide | omega)).trans ((fl_u_ne (by first | exact nc_ rfl | decide | omega)).trans ((fl_u_ne (by first | exact nc_ rfl | decide | omega)).trans ((fl_u_ne (by first | exact nc_ rfl | decide | omega)).trans ((fl_u_ne (by first | exact nc_ rfl | decide | omega)))))))))) (htx j hj)) c34_ (fun j => (show F36_ 345 j = F27_ 345 j from (s38_ 345 j (by first | exact fs_c rfl | exact (fs_n (by omega) (fs_n (by omega) rfl)))))) (fun j hj => Eq.trans (Eq.trans (a := F36_ 346 j) (b := F27_ 346 j) (s38_ 346 j (by first | exact fs_c rfl | exact (fs_n (by omega) (fs_n (by omega) rfl)))) (show F27_ 346 j = F 346 j from (by rw [q28_]; exact (fl_u_ne (by first | exact nc_ rfl | decide | omega)).trans ((fl_u_ne (by first | exact nc_ rfl | decide | omega)).trans ((fl_u_ne (by first | exact nc_ rfl | decide | omega)).trans ((fl_u_ne (by first | exact nc_ rfl | decide | omega)).trans ((fl_u_ne (by first | exact nc_ rfl | decide | omega)).trans ((fl_u_ne (by first | exact nc_ rfl | decide | omega)).trans ((fl_u_ne (by first | exact nc_ rfl | decide | omega))))))))))) (hkw j hj))
  refine ga_aload_n (v := .ref 344) hm_64 rfl rfl rfl ?_
  have b40_ : 0 ≤ F36_ 344 5 ∧ F36_ 344 5 ≤ 600 := gi_g g37_ rfl
  have e41_ : F27_ 344 9 = 0 := by rw [q28_]; exact (fl_u_ne (by first | exact nc_ rfl | decide | omega)).trans ((fl_u_ne (by first | exact nc_ rfl | decide | omega)).trans ((fl_u_ne (by first | exact nc_ rfl | decide | omega)).trans ((fl_u_ne (by first | exact nc_ rfl | decide | omega)).trans ((fl_u_ne (by first | exact nc_ rfl | decide | omega)).trans (fl_u_eq)))))
  have e42_ : F36_ 344 9 = 0 := (s38_ 344 9 rfl).trans (e41_)
  have e43_ : F27_ 344 33 = 0 := by rw [q28_]; exact (fl_u_ne (by first | exact nc_ rfl | decide | omega)).trans (fl_u_eq)
  have e44_ : F36_ 344 33 = 0 := (s38_ 344 33 rfl).trans (e43_)
  refine gVv (nY := 4) (F := 7) (L := 165) (As := []) (b := 344) (rest := []) hm_64 rfl hm_184 rfl rfl (fl_ob sc_344) rfl rfl rfl rfl rfl (by omega) (by omega) (mc_184 hG F36_ X g37_ (K) (nm) (ts) (pl) (ps) (hgK) hrk1 (hkt) (⟨by omega, by omega⟩) (by omega) (by omega) (by rw [show F36_ 344 14 = F 344 14 from (Eq.trans (a := F36_ 344 14) (b := F27_ 344 14) (s38_ 344 14 (by first | exact fs_c rfl | exact (fs_n (by omega) (fs_n (by omega) rfl)))) (show F27_ 344 14 = F 344 14 from (by rw [q28_]; exact (fl_u_ne (by first | exact nc_ rfl | decide | omega)).trans ((fl_u_ne (by first | exact nc_ rfl | decide | omega)).trans ((fl_u_ne (by first | exact nc_ rfl | decide | omega)).trans ((fl_u_ne (by first | exact nc_ rfl | decide | omega)).trans ((fl_u_ne (by first | exact nc_ rfl | decide | omega)).trans ((fl_u_ne (by first | exact nc_ rfl | decide | omega)).trans ((fl_u_ne (by first | exact nc_ rfl | decide | omega)))))))))))]; exact hnm) ((rpn_fs (by rw [q28_]; exact (rpn_u (rpn_u (rpn_u (rpn_u (rpn_u (rpn_u (rpn_u hts (by first | decide | exact nc_ rfl | omega) (by first | decide | exact nc_ rfl | omega)) (by first | decide | exact nc_ rfl | omega) (by first | decide | exact nc_ rfl | omega)) (by first | decide | exact nc_ rfl | omega) (by first | decide | exact nc_ rfl | omega)) (by first | decide | exact nc_ rfl | omega) (by first | decide | exact nc_ rfl | omega)) (by first | decide | exact nc_ rfl | omega) (by first | decide | exact nc_ rfl | omega)) (by first | decide | exact nc_ rfl | omega) (by first | decide | exact nc_ rfl | omega)) (by first | decide | exact nc_ rfl | omega) (by first | decide | exact nc_ rfl | omega))) s38_ (fun _ => (by first | exact fs_c rfl | exact (fs_n (by omega) (fs_n (by omega) rfl)))) (by first | exact fs_c rfl | exact (fs_n (by omega) (fs_n (by omega) rfl))))) ((rpn_fs (by rw [q28_]; exact (rpn_u (rpn_u (rpn_u (rpn_u (rpn_u (rpn_u (rpn_u hrpl (by first | decide | exact nc_ rfl | omega) (by first | decide | exact nc_ rfl | omega)) (by first | decide | exact nc_ rfl | omega) (by first | decide | exact nc_ rfl | omega)) (by first | decide | exact nc_ rfl | omega) (by first | decide | exact nc_ rfl | omega)) (by first | decide | exact nc_ rfl | omega) (by first | decide | exact nc_ rfl | omega)) (by first | decide | exact nc_ rfl | omega) (by first | decide | exact nc_ rfl | omega)) (by first | decide | exact nc_ rfl | omega) (by first | decide | exact nc_ rfl | omega)) (by first | decide | exact nc_ rfl | omega) (by first | decide | exact nc_ rfl | omega))) s38_ (fun _ => (by first | exact fs_c rfl | exact (fs_n (by omega) (fs_n (by omega) rfl)))) (by first | exact fs_c rfl | exact (fs_n (by omega) (fs_n (by omega) rfl))))) (⟨(rprd_fs (by rw [q28_]; exact (rprd_u (rprd_u (rprd_u (rprd_u (rprd_u (rprd_u (rprd_u hps.1 (by first | decide | exact nc_ rfl | omega)) (by first | decide | exact nc_ rfl | omega)) (by first | decide | exact nc_ rfl | omega)) (by first | decide | exact nc_ rfl | omega)) (by first | decide | exact nc_ rfl | omega)) (by first | decide | exact nc_ rfl | omega)) (by first | decide | exact nc_ rfl | omega))) s38_ (by first | exact fs_rg rfl | exact fun r j hj => (fs_n (by omega) (fs_n (by omega) rfl)))), hps.2⟩) (by omega)) (fun _ _ h => False.elim h) ?_
  have e46_ : F27_ 344 10 = 0 := by rw [q28_]; exact (fl_u_ne (by first | exact nc_ rfl | decide | omega)).trans ((fl_u_ne (by first | exact nc_ rfl | decide | omega)).trans ((fl_u_ne (by first | exact nc_ rfl | decide | omega)).trans ((fl_u_ne (by first | exact nc_ rfl | decide | omega)).trans (fl_u_eq))))
  have e47_ : F36_ 344 10 = 0 := (s38_ 344 10 rfl).trans (e46_)
  rintro A1_ (⟨F51_, hA_, g52_, s53_, c48_, c49_, c50_⟩ | ⟨F57_, hA_, g58_, s59_, c54_, c55_, c56_⟩)
  ·
    subst hA_
    have g60_ : fs [(344, 344, 0, 1), (344, 344, 4, 5), (344, 344, 8, 10), (344, 344, 12, 13), (344, 344, 33, 33), (344, 344, 36, 36), (344, 344, 38, 39), (344, 344, 46, 48), (344, 344, 60, 60), (344, 344, 64, 64), (347, 348, 0, 100000), (358, 358, 5, 5), (360, 362, 40, 43), (363, 363, 80, 87), (364, 372, 0, 100000), (384, 384, 0, 100000)] F F51_ := fs_tr g39_ s53_ rfl
    have rk61_ : rk K F51_ := rk_fs hrk1 s53_ (fs_rg rfl) rfl
    have c49_s := c49_.1 (by omega)
    clear c49_
    refine ga_aload_n (v := .ref 344) hm_64 rfl rfl rfl ?_
    refine gIi (nY := 1) (F := 0) (L := 0) (As := []) (b := 344) (rest := []) hm_64 rfl hm_62 rfl rfl (fl_ob sc_344) rfl rfl rfl rfl rfl (by omega) (by omega) ?_
    intro f62_ l63_ h64_ h65_
    show fl_R xi_ms 62 f62_ l63_ 0 [(0, .ref 344)] [] _ _
    refine ga_aload_n (v := .ref 344) hm_62 rfl rfl rfl ?_
    refine ga_aload_n (v := .ref 344) hm_62 rfl rfl rfl ?_
    have b66_ : 0 ≤ F51_ 344 9 ∧ F51_ 344 9 ≤ 5 := gi_g g52_ rfl
    refine ga_geti (z := F51_ 344 9) hm_62 rfl sc_344 rfl (rfl) ?_
    refine fx_if_ne (a := F51_ 344 9) hm_62 rfl ⟨by omega, by omega⟩ (fun h67_ => ?_) (fun h68_ => ?_)
    ·
      refine ga_aload_n (v := .ref 344) hm_62 rfl rfl rfl ?_
      refine ga_geti (z := F51_ 344 9) hm_62 rfl sc_344 rfl (rfl) ?_
      refine fl_bipush hm_62 rfl rfl ?_
      refine ga_aload_n (v := .ref 344) hm_62 rfl rfl rfl ?_
      have b69_ : 0 ≤ F51_ 344 10 ∧ F51_ 344 10 ≤ 600 := gi_g g52_ rfl
      refine ga_geti (z := F51_ 344 10) hm_62 rfl sc_344 rfl (rfl) ?_
      refine ga_imul (a := 10) (b := F51_ 344 10) (c := 10 * (F51_ 344 10)) hm_62 rfl (by omega) ?_
      refine ga_iadd (a := F51_ 344 9) (b := 10 * (F51_ 344 10)) (c := F51_ 344 9 + 10 * (F51_ 344 10)) hm_62 rfl (by omega) ?_
      refine ga_puti (z := F51_ 344 9 + 10 * (F51_ 344 10)) hm_62 rfl sc_344 rfl rfl ?_
      refine ga_aload_n (v := .ref 344) hm_62 rfl rfl rfl ?_
      refine fl_iconst hm_62 rfl ?_
      refine ga_puti (z := 0) hm_62 rfl sc_344 rfl rfl ?_
      refine ga_aload_n (v := .ref 344) hm_62 rfl rfl rfl ?_
      refine ga_aload_n (v := .ref 344) hm_62 rfl rfl rfl ?_
      refine ga_geti (z := F51_ 344 9) hm_62 rfl sc_344 rfl ((fl_u_ne (by first | exact nc_ rfl | decide | omega)).trans (fl_u_ne (by first | exact nc_ rfl | decide | omega))) ?_
      refine fx_if_ne (a := F51_ 344 9) hm_62 rfl ⟨by omega, by omega⟩ (fun h70_ => ?_) (fun h71_ => ?_)
      ·
        refine fl_iconst hm_62 rfl ?_
        refine ga_puti (z := 1) hm_62 rfl sc_344 rfl rfl ?_
        refine ga_aload_n (v := .ref 344) hm_62 rfl rfl rfl ?_
        refine ga_geti (z := 1) hm_62 rfl sc_344 rfl (fl_u_eq) ?_
        refine fl_if_ne hm_62 rfl ⟨by omega, by omega⟩ (fun _ => ?_) (fun h => absurd (by omega) h)
        refine fl_iconst hm_62 rfl ?_
        refine gr_i hm_62 rfl rfl (ga_nb (by omega)) ?_
        clear h64_ h65_ f62_ l63_
        refine fl_if_ne hm_64 rfl ⟨by omega, by omega⟩ (fun h => absurd h (by omega)) (fun _ => ?_)
        refine ga_aload_n (v := .ref 344) hm_64 rfl rfl rfl ?_
        refine fl_iconst hm_64 rfl ?_
        refine ga_puti (z := 2) hm_64 rfl sc_344 rfl rfl ?_
        refine fl_iconst hm_64 rfl ?_
        obtain ⟨F72_, q73_⟩ : ∃ Fq_, Fq_ = (fl_u (fl_u (fl_u (fl_u F51_ 344 8 (F51_ 344 9 + 10 * (F51_ 344 10))) 344 1 0) 344 0 1) 344 0 2) := ⟨_, rfl⟩
        rw [← q73_]
        have g74_ : gi F72_ := by rw [q73_]; exact gi_u (gi_u (gi_u (gi_u (g52_) rfl (by omega) (by omega)) rfl (by omega) (by omega)) rfl (by omega) (by omega)) rfl (by omega) (by omega)
        have g75_ : fs [(344, 344, 0, 1), (344, 344, 4, 5), (344, 344, 8, 10), (344, 344, 12, 13), (344, 344, 33, 33), (344, 344, 36, 36), (344, 344, 38, 39), (344, 344, 46, 48), (344, 344, 60, 60), (344, 344, 64, 64), (347, 348, 0, 100000), (358, 358, 5, 5), (360, 362, 40, 43), (363, 363, 80, 87), (364, 372, 0, 100000), (384, 384, 0, 100000)] F F72_ := by rw [q73_]; exact fs_u (fs_u (fs_u (fs_u (g60_) rfl) rfl) rfl) rfl
        have rk76_ : rk K F72_ := by rw [q73_]; exact rk_u (rk_u (rk_u (rk_u (rk61_) (by first | decide | exact nc_ rfl | omega) (by first | decide | exact nc_ rfl | omega)) (by first | decide | exact nc_ rfl | omega) (by first | decide | exact nc_ rfl | omega)) (by first | decide | exact nc_ rfl | omega) (by first | decide | exact nc_ rfl | omega)) (by first | decide | exact nc_ rfl | omega) (by first | decide | exact nc_ rfl | omega)
        refine gr_i (z := 0) hm_64 rfl rfl rfl ?_
        have e77_ : F72_ 344 1 = 0 := by rw [q73_]; exact (fl_u_ne (by first | exact nc_ rfl | decide | omega)).trans ((fl_u_ne (by first | exact nc_ rfl | decide | omega)).trans (fl_u_eq))
        have e78_ : F27_ 344 13 = 0 := by rw [q28_]; exact (fl_u_ne (by first | exact nc_ rfl | decide | omega)).trans ((fl_u_ne (by first | exact nc_ rfl | decide | omega)).trans (fl_u_eq))
        have e79_ : F36_ 344 13 = 0 := (s38_ 344 13 rfl).trans (e78_)
        have e80_ : F51_ 344 13 = 0 := (s53_ 344 13 rfl).trans (e79_)
        have e81_ : F72_ 344 13 = 0 := by rw [q73_]; exact (fl_u_ne (by first | exact nc_ rfl | decide | omega)).trans ((fl_u_ne (by first | exact nc_ rfl | decide | omega)).trans ((fl_u_ne (by first | exact nc_ rfl | decide | omega)).trans ((fl_u_ne (by first | exact nc_ rfl | decide | omega)).trans (e80_))))
        have e82_ : F27_ 344 12 = 0 := by rw [q28_]; exact (fl_u_ne (by first | exact nc_ rfl | decide | omega)).trans ((fl_u_ne (by first | exact nc_ rfl | decide | omega)).trans ((fl_u_ne (by first | exact nc_ rfl | decide | omega)).trans (fl_u_eq)))
        have e83_ : F36_ 344 12 = 0 := (s38_ 344 12 rfl).trans (e82_)
        have e84_ : F51_ 344 12 = 0 := (s53_ 344 12 rfl).trans (e83_)
        have e85_ : F72_ 344 12 = 0 := by rw [q73_]; exact (fl_u_ne (by first | exact nc_ rfl | decide | omega)).trans ((fl_u_ne (by first | exact nc_ rfl | decide | omega)).trans ((fl_u_ne (by first | exact nc_ rfl | decide | omega)).trans ((fl_u_ne (by first | exact nc_ rfl | decide | omega)).trans (e84_))))
        have e86_ : F72_ 344 36 = F51_ 344 36 := by rw [q73_]; exact (fl_u_ne (by first | exact nc_ rfl | decide | omega)).trans ((fl_u_ne (by first | exact nc_ rfl | decide | omega)).trans ((fl_u_ne (by first | exact nc_ rfl | decide | omega)).trans (fl_u_ne (by first | exact nc_ rfl | decide | omega))))
        have b87_ : 0 ≤ F51_ 344 36 ∧ F51_ 344 36 ≤ 216 := gi_g g52_ rfl
        have e88_ : F72_ 344 0 = 2 := by rw [q73_]; exact fl_u_eq
        have e89_ : F27_ 344 39 = F 344 39 := by rw [q28_]; exact (fl_u_ne (by first | exact nc_ rfl | decide | omega)).trans ((fl_u_ne (by first | exact nc_ rfl | decide | omega)).trans ((fl_u_ne (by first | exact nc_ rfl | decide | omega)).trans ((fl_u_ne (by first | exact nc_ rfl | decide | omega)).trans ((fl_u_ne (by first | exact nc_ rfl | decide | omega)).trans ((fl_u_ne (by first | exact nc_ rfl | decide | omega)).trans (fl_u_ne (by first | exact nc_ rfl | decide | omega)))))))
        have e90_ : F36_ 344 39 = F 344 39 := (s38_ 344 39 rfl).trans (e89_)
        have e91_ : F51_ 344 39 = F 344 39 := (s53_ 344 39 rfl).trans (e90_)
        have e92_ : F72_ 344 39 = F 344 39 := by rw [q73_]; exact (fl_u_ne (by first | exact nc_ rfl | decide | omega)).trans ((fl_u_ne (by first | exact nc_ rfl | decide | omega)).trans ((fl_u_ne (by first | exact nc_ rfl | decide | omega)).trans ((fl_u_ne (by first | exact nc_ rfl | decide | omega)).trans (e91_))))
        have b93_ : 0 ≤ F 344 39 ∧ F 344 39 ≤ 40 := gi_g hgi rfl
        have e94_ : F72_ 344 8 = F51_ 344 9 + 10 * (F51_ 344 10) := by rw [q73_]; exact (fl_u_ne (by first | exact nc_ rfl | decide | omega)).trans ((fl_u_ne (by first | exact nc_ rfl | decide | omega)).trans ((fl_u_ne (by first | exact nc_ rfl | decide | omega)).trans (fl_u_eq)))
        have b95_ : 0 ≤ F 344 8 ∧ F 344 8 ≤ 100000 := gi_g hgi rfl
        have e96_ : F27_ 344 11 = F 344 11 := by rw [q28_]; exact (fl_u_ne (by first | exact nc_ rfl | decide | omega)).trans ((fl_u_ne (by first | exact nc_ rfl | decide | omega)).trans ((fl_u_ne (by first | exact nc_ rfl | decide | omega)).trans ((fl_u_ne (by first | exact nc_ rfl | decide | omega)).trans ((fl_u_ne (by first | exact nc_ rfl | decide | omega)).trans ((fl_u_ne (by first | exact nc_ rfl | decide | omega)).trans (fl_u_ne (by first | exact nc_ rfl | decide | omega)))))))
        have e97_ : F36_ 344 11 = F 344 11 := (s38_ 344 11 rfl).trans (e96_)
        have e98_ : F51_ 344 11 = F 344 11 := (s53_ 344 11 rfl).trans (e97_)
        have e99_ : F72_ 344 11 = F 344 11 := by rw [q73_]; exact (fl_u_ne (by first | exact nc_ rfl | decide | omega)).trans ((fl_u_ne (by first | exact nc_ rfl | decide | omega)).trans ((fl_u_ne (by first | exact nc_ rfl | decide | omega)).trans ((fl_u_ne (by first | exact nc_ rfl | decide | omega)).trans (e98_))))
        have e100_ : F27_ 344 60 = 0 := by rw [q28_]; exact fl_u_eq
        have e101_ : F36_ 344 60 = 0 := (s38_ 344 60 rfl).trans (e100_)
        have e102_ : F51_ 344 60 = 0 := (s53_ 344 60 rfl).trans (e101_)
        have e103_ : F72_ 344 60 = 0 := by rw [q73_]; exact (fl_u_ne (by first | exact nc_ rfl | decide | omega)).trans ((fl_u_ne (by first | exact nc_ rfl | decide | omega)).trans ((fl_u_ne (by first | exact nc_ rfl | decide | omega)).trans ((fl_u_ne (by first | exact nc_ rfl | decide | omega)).trans (e102_))))
        have b104_ : 0 ≤ F 344 12 ∧ F 344 12 ≤ 1 := gi_g hgi rfl
        exact ⟨F72_, rfl, g74_, g75_, (⟨by omega, by omega⟩), (by omega), (pli_0 (by omega)), (fun h9_ => absurd h9_ (by omega)), (Or.inr ⟨by omega, Or.inl ⟨(F51_ 344 9, F51_ 344 10), c49_s, by show _ = F51_ 344 9 + 10 * F51_ 344 10; omega, by omega⟩⟩), (⟨fun h9_ => ⟨by omega, by omega⟩, fun h9_ => by omega, fun h9_ => by omega⟩)⟩
      exfalso; omega
    exfalso; omega
  subst hA_
  have g105_ : fs [(344, 344, 0, 1), (344, 344, 4, 5), (344, 344, 8, 10), (344, 344, 12, 13), (344, 344, 33, 33), (344, 344, 36, 36), (344, 344, 38, 39), (344, 344, 46, 48), (344, 344, 60, 60), (344, 344, 64, 64), (347, 348, 0, 100000), (358, 358, 5, 5), (360, 362, 40, 43), (363, 363, 80, 87), (364, 372, 0, 100000), (384, 384, 0, 100000)] F F57_ := fs_tr g39_ s59_ rfl
  have rk106_ : rk K F57_ := rk_fs hrk1 s59_ (fs_rg rfl) rfl
  obtain ⟨l, tl, co1_, co2_, co3_, co4_, co5_, co6_⟩ := c55_
  refine ga_aload_n (v := .ref 344) hm_64 rfl rfl rfl ?_
  refine gIi (nY := 1) (F := 0) (L := 0) (As := []) (b := 344) (rest := []) hm_64 rfl hm_62 rfl rfl (fl_ob sc_344) rfl rfl rfl rfl rfl (by omega) (by omega) ?_
  intro f107_ l108_ h109_ h110_
  show fl_R xi_ms 62 f107_ l108_ 0 [(0, .ref 344)] [] _ _
  refine ga_aload_n (v := .ref 344) hm_62 rfl rfl rfl ?_
  refine ga_aload_n (v := .ref 344) hm_62 rfl rfl rfl ?_
  have b111_ : 0 ≤ F57_ 344 9 ∧ F57_ 344 9 ≤ 5 := gi_g g58_ rfl
  refine ga_geti (z := F57_ 344 9) hm_62 rfl sc_344 rfl (rfl) ?_
  refine fx_if_ne (a := F57_ 344 9) hm_62 rfl ⟨by omega, by omega⟩ (fun h112_ => ?_) (fun h113_ => ?_)
  · exfalso; omega
  refine fl_iconst hm_62 rfl ?_
  refine fl_goto hm_62 rfl ?_
  refine ga_puti (z := 0) hm_62 rfl sc_344 rfl rfl ?_
  refine ga_aload_n (v := .ref 344) hm_62 rfl rfl rfl ?_
  refine fl_iconst hm_62 rfl ?_
  refine ga_puti (z := 0) hm_62 rfl sc_344 rfl rfl ?_
  refine ga_aload_n (v := .ref 344) hm_62 rfl rfl rfl ?_
  refine ga_aload_n (v := .ref 344) hm_62 rfl rfl rfl ?_
  refine ga_geti (z := F57_ 344 9) hm_62 rfl sc_344 rfl ((fl_u_ne (by first | exact nc_ rfl | decide | omega)).trans (fl_u_ne (by first | exact nc_ rfl | decide | omega))) ?_
  refine fx_if_ne (a := F57_ 344 9) hm_62 rfl ⟨by omega, by omega⟩ (fun h114_ => ?_) (fun h115_ => ?_)
  · exfalso; omega
  refine fl_iconst hm_62 rfl ?_
  refine fl_goto hm_62 rfl ?_
  refine ga_puti (z := 0) hm_62 rfl sc_344 rfl rfl ?_
  refine ga_aload_n (v := .ref 344) hm_62 rfl rfl rfl ?_
  refine ga_geti (z := 0) hm_62 rfl sc_344 rfl (fl_u_eq) ?_
  refine fl_if_ne hm_62 rfl ⟨by omega, by omega⟩ (fun h => absurd h (by omega)) (fun _ => ?_)
  refine fl_iconst hm_62 rfl ?_
  refine fl_goto hm_62 rfl ?_
  refine gr_i hm_62 rfl rfl (ga_nb (by omega)) ?_
  clear h109_ h110_ f107_ l108_
  refine fl_if_ne hm_64 rfl ⟨by omega, by omega⟩ (fun _ => ?_) (fun h => absurd (by omega) h)
  refine ga_aload_n (v := .ref 344) hm_64 rfl rfl rfl ?_
  refine ga_aload_n (v := .ref 344) hm_64 rfl rfl rfl ?_
  have b116_ : -9223372036854775808 ≤ F57_ 344 64 ∧ F57_ 344 64 ≤ 9223372036854775807 := gi_g g58_ rfl
  refine ga_getl (z := F57_ 344 64) hm_64 rfl sc_344 rfl ((fl_u_ne (by first | exact nc_ rfl | decide | omega)).trans ((fl_u_ne (by first | exact nc_ rfl | decide | omega)).trans (fl_u_ne (by first | exact nc_ rfl | decide | omega)))) ?_
  refine ga_putl hm_64 rfl sc_344 rfl rfl ?_
  refine ga_aload_n (v := .ref 344) hm_64 rfl rfl rfl ?_
  refine fl_iconst hm_64 rfl ?_
  refine ga_puti (z := 0) hm_64 rfl sc_344 rfl rfl ?_
  refine ga_aload_n (v := .ref 344) hm_64 rfl rfl rfl ?_
  have b117_ : 0 ≤ F57_ 344 36 ∧ F57_ 344 36 ≤ 216 := gi_g g58_ rfl
  refine ga_geti (z := F57_ 344 36) hm_64 rfl sc_344 rfl ((fl_u_ne (by first | exact nc_ rfl | decide | omega)).trans ((fl_u_ne (by first | exact nc_ rfl | decide | omega)).trans ((fl_u_ne (by first | exact nc_ rfl | decide | omega)).trans ((fl_u_ne (by first | exact nc_ rfl | decide | omega)).trans (fl_u_ne (by first | exact nc_ rfl | decide | omega)))))) ?_
  refine fl_bipush hm_64 rfl rfl ?_
  refine fl_icmp_gt (a := F57_ 344 36) (b := 40) hm_64 rfl ⟨by omega, by omega⟩ ⟨by omega, by omega⟩ (fun h118_ => ?_) (fun h119_ => ?_)
  ·
    refine fl_iconst hm_64 rfl ?_
    refine ga_istore_n (lv2 := [(1, .int (Int32.ofInt 0)), (0, .ref 344)]) hm_64 rfl (Nat.le_of_ble_eq_true rfl) rfl ?_
    refine fl_iconst hm_64 rfl ?_
    refine ga_istore_n (lv2 := [(2, .int (Int32.ofInt 0)), (1, .int (Int32.ofInt 0)), (0, .ref 344)]) hm_64 rfl (Nat.le_of_ble_eq_true rfl) rfl ?_
    obtain ⟨F120_, q121_⟩ : ∃ Fq_, Fq_ = (fl_u (fl_u (fl_u (fl_u (fl_u F57_ 344 8 0) 344 1 0) 344 0 0) 344 38 (F57_ 344 64)) 344 39 0) := ⟨_, rfl⟩
    rw [← q121_]
    have g122_ : gi F120_ := by rw [q121_]; exact gi_u (gi_u (gi_u (gi_u (gi_u (g58_) rfl (by omega) (by omega)) rfl (by omega) (by omega)) rfl (by omega) (by omega)) rfl (by omega) (by omega)) rfl (by omega) (by omega)
    have g123_ : fs [(344, 344, 0, 1), (344, 344, 4, 5), (344, 344, 8, 10), (344, 344, 12, 13), (344, 344, 33, 33), (344, 344, 36, 36), (344, 344, 38, 39), (344, 344, 46, 48), (344, 344, 60, 60), (344, 344, 64, 64), (347, 348, 0, 100000), (358, 358, 5, 5), (360, 362, 40, 43), (363, 363, 80, 87), (364, 372, 0, 100000), (384, 384, 0, 100000)] F F120_ := by rw [q121_]; exact fs_u (fs_u (fs_u (fs_u (fs_u (g105_) rfl) rfl) rfl) rfl) rfl
    have rk124_ : rk K F120_ := by rw [q121_]; exact rk_u (rk_u (rk_u (rk_u (rk_u (rk106_) (by first | decide | exact nc_ rfl | omega) (by first | decide | exact nc_ rfl | omega)) (by first | decide | exact nc_ rfl | omega) (by first | decide | exact nc_ rfl | omega)) (by first | decide | exact nc_ rfl | omega) (by first | decide | exact nc_ rfl | omega)) (by first | decide | exact nc_ rfl | omega) (by first | decide | exact nc_ rfl | omega)) (by first | decide | exact nc_ rfl | omega) (by first | decide | exact nc_ rfl | omega)
    have e128_ : F120_ 344 36 = F57_ 344 36 := by rw [q121_]; exact (fl_u_ne (by first | exact nc_ rfl | decide | omega)).trans ((fl_u_ne (by first | exact nc_ rfl | decide | omega)).trans ((fl_u_ne (by first | exact nc_ rfl | decide | omega)).trans ((fl_u_ne (by first | exact nc_ rfl | decide | omega)).trans (fl_u_ne (by first | exact nc_ rfl | decide | omega)))))
    have L126_ : ∀ (n125_ : Nat) (ft : Int) (a : Int) (F1 : fl_N), (5 - a : Int).toNat = n125_ → (gi F1) → (fs [(344, 344, 39, 39), (367, 372, 0, 100000), (384, 384, 0, 100000)] F120_ F1) → (0 ≤ a ∧ a ≤ 5) → (0 ≤ ft ∧ ft ≤ 1) → (sob F1) → (ft = 1 → F120_ 344 36 ≤ 40) → (a ≤ (D.length : Int)) → (ft = 0 → 40 < nfc ps tl 216 ∨ 40 < (stP tl D D.length).length) → (ft = 1 → F1 344 39 = ((stP tl D a.toNat).length : Int) ∧ rsts F1 D (stP tl D a.toNat)) → fl_R xi_ms 64 fr lo 101 [(2, .int (Int32.ofInt a)), (1, .int (Int32.ofInt ft)), (0, .ref 344)] [] (fl_H sh_T G F1 ++ X) (pq_64 G F X K nm ts pl ps D) := by
      intro n125_
      induction n125_ using Nat.strongRecOn with
      | ind n125_ ih127_ =>
      intro ft a F1 hn129_ hg_F1 hf_F1 ha hft hs1 hf4 hal ho hst
      have g130_ : fs [(344, 344, 0, 1), (344, 344, 4, 5), (344, 344, 8, 10), (344, 344, 12, 13), (344, 344, 33, 33), (344, 344, 36, 36), (344, 344, 38, 39), (344, 344, 46, 48), (344, 344, 60, 60), (344, 344, 64, 64), (347, 348, 0, 100000), (358, 358, 5, 5), (360, 362, 40, 43), (363, 363, 80, 87), (364, 372, 0, 100000), (384, 384, 0, 100000)] F F1 := fs_tr g123_ hf_F1 rfl
      have rk131_ : rk K F1 := rk_fs rk124_ hf_F1 (fs_rg rfl) rfl
      refine ga_iload_n (z := a) hm_64 rfl rfl ?_
      refine ga_aload_n (v := .ref 344) hm_64 rfl rfl rfl ?_
      have e132_ : F27_ 344 21 = F 344 21 := by rw [q28_]; exact (fl_u_ne (by first | exact nc_ rfl | decide | omega)).trans ((fl_u_ne (by first | exact nc_ rfl | decide | omega)).trans ((fl_u_ne (by first | exact nc_ rfl | decide | omega)).trans ((fl_u_ne (by first | exact nc_ rfl | decide | omega)).trans ((fl_u_ne (by first | exact nc_ rfl | decide | omega)).trans ((fl_u_ne (by first | exact nc_ rfl | decide | omega)).trans (fl_u_ne (by first | exact nc_ rfl | decide | omega)))))))
      have e133_ : F36_ 344 21 = F 344 21 := (s38_ 344 21 rfl).trans (e132_)
      have e134_ : F57_ 344 21 = F 344 21 := (s59_ 344 21 rfl).trans (e133_)
      have e135_ : F120_ 344 21 = F 344 21 := by rw [q121_]; exact (fl_u_ne (by first | exact nc_ rfl | decide | omega)).trans ((fl_u_ne (by first | exact nc_ rfl | decide | omega)).trans ((fl_u_ne (by first | exact nc_ rfl | decide | omega)).trans ((fl_u_ne (by first | exact nc_ rfl | decide | omega)).trans ((fl_u_ne (by first | exact nc_ rfl | decide | omega)).trans (e134_)))))
      have e136_ : F1 344 21 = F 344 21 := (hf_F1 344 21 rfl).trans (e135_)
      have b137_ : 0 ≤ F 344 21 ∧ F 344 21 ≤ 5 := gi_g hgi rfl
      refine ga_geti (z := F 344 21) hm_64 rfl sc_344 rfl (e136_) ?_
      refine fl_icmp_ge (a := a) (b := F 344 21) hm_64 rfl ⟨by omega, by omega⟩ ⟨by omega, by omega⟩ (fun h138_ => ?_) (fun h139_ => ?_)
      ·
        refine ga_iload_n (z := ft) hm_64 rfl rfl ?_
        refine fx_if_ne (a := ft) hm_64 rfl ⟨by omega, by omega⟩ (fun h140_ => ?_) (fun h141_ => ?_)
        ·
          refine ga_aload_n (v := .ref 344) hm_64 rfl rfl rfl ?_
          refine ga_aload_n (v := .ref 344) hm_64 rfl rfl rfl ?_
          refine fl_iconst hm_64 rfl ?_
          refine fl_bipush hm_64 rfl rfl ?_
          refine ga_aload_n (v := .ref 344) hm_64 rfl rfl rfl ?_
          refine ga_getr (b := 358) hm_64 rfl sc_344 rfl ?_
          refine fl_iconst hm_64 rfl ?_
          have e142_ : F120_ 358 5 = F57_ 358 5 := by rw [q121_]; exact (fl_u_ne (by first | exact nc_ rfl | decide | omega)).trans ((fl_u_ne (by first | exact nc_ rfl | decide | omega)).trans ((fl_u_ne (by first | exact nc_ rfl | decide | omega)).trans ((fl_u_ne (by first | exact nc_ rfl | decide | omega)).trans (fl_u_ne (by first | exact nc_ rfl | decide | omega)))))
          have e143_ : F1 358 5 = F57_ 358 5 := (hf_F1 358 5 rfl).trans (e142_)
          have b144_ : 0 ≤ F57_ 358 5 ∧ F57_ 358 5 ≤ 4 := gi_g g58_ rfl
          refine ga_iald (z := 5) (w := F57_ 358 5) hm_64 rfl sc_358 (by omega) (by omega) (by omega) (e143_) ?_
          refine fl_iconst hm_64 rfl ?_
          refine gVl (nY := 9) (F := 2) (L := 47) (As := [.int (Int32.ofInt 5), .int (Int32.ofInt 40), .int (Int32.ofInt (F57_ 358 5)), .int (Int32.ofInt 0)]) (b := 344) (rest := [.ref 344]) hm_64 rfl hm_156 rfl rfl (fl_ob sc_344) rfl rfl rfl rfl rfl (by omega) (by omega) (mc_156 hG F1 X hg_F1 (5) (40) (F57_ 358 5) (0) ((prb_g K nm ts pl ps)) (ps) (⟨by omega, by omega⟩) (by omega) (⟨by omega, by omega⟩) (⟨by omega, by omega⟩) (rcl_lfr co5_ (show lfr 0 0 0 F57_ F1 from (lfr_fg (by rw [q121_]; exact (lfr_uo (lfr_uo (lfr_uo (lfr_uo (lfr_uo lfr_r rfl) rfl) rfl) rfl) rfl)) hf_F1 rfl)) (Or.inr (Nat.zero_le _))) (by omega) (fun x hx => ((prb_ok hps.2.symm co1_).2.2 x hx).1) ((rprd_fs (by rw [q121_]; exact (rprd_u (rprd_u (rprd_u (rprd_u (rprd_u (rprd_fs (rprd_fs (by rw [q28_]; exact (rprd_u (rprd_u (rprd_u (rprd_u (rprd_u (rprd_u (rprd_u hps.1 (by first | decide | exact nc_ rfl | omega)) (by first | decide | exact nc_ rfl | omega)) (by first | decide | exact nc_ rfl | omega)) (by first | decide | exact nc_ rfl | omega)) (by first | decide | exact nc_ rfl | omega)) (by first | decide | exact nc_ rfl | omega)) (by first | decide | exact nc_ rfl | omega))) s38_ (by first | exact fs_rg rfl | exact fun r j hj => (fs_n (by omega) (fs_n (by omega) rfl)))) s59_ (by first | exact fs_rg rfl | exact fun r j hj => (fs_n (by omega) (fs_n (by omega) (fs_n (by omega) (fs_n (by omega) (fs_n (by omega) (fs_n (by omega) (fs_n (by omega) (fs_n (by omega) (fs_n (by omega) rfl))))))))))) (by first | decide | exact nc_ rfl | omega)) (by first | decide | exact nc_ rfl | omega)) (by first | decide | exact nc_ rfl | omega)) (by first | decide | exact nc_ rfl | omega)) (by first | decide | exact nc_ rfl | omega))) hf_F1 (by first | exact fs_rg rfl | exact fun r j hj => (fs_n (by omega) (fs_n (by omega) (fs_n (by omega) rfl))))))) (fun _ _ h => False.elim h) ?_
          rintro z145_ A1_ ⟨hA_, c146_, c147_⟩
          subst hA_
          refine ga_putl hm_64 rfl sc_344 rfl rfl ?_
          refine ga_aload_n (v := .ref 344) hm_64 rfl rfl rfl ?_
          refine ga_aload_n (v := .ref 344) hm_64 rfl rfl rfl ?_
          refine fl_iconst hm_64 rfl ?_
          refine fl_bipush hm_64 rfl rfl ?_
          refine ga_aload_n (v := .ref 344) hm_64 rfl rfl rfl ?_
          refine ga_getr (b := 358) hm_64 rfl sc_344 rfl ?_
          refine fl_iconst hm_64 rfl ?_
          refine ga_iald (z := 5) (w := F57_ 358 5) hm_64 rfl sc_358 (by omega) (by omega) (by omega) ((fl_u_ne (by first | exact nc_ rfl | decide | omega)).trans (e143_)) ?_
          refine fl_iconst hm_64 rfl ?_
          obtain ⟨F148_, q149_⟩ : ∃ Fq_, Fq_ = (fl_u F1 344 46 z145_) := ⟨_, rfl⟩
          rw [← q149_]
          have g150_ : gi F148_ := by rw [q149_]; exact gi_u (hg_F1) rfl (by omega) (by omega)
          have g151_ : fs [(344, 344, 0, 1), (344, 344, 4, 5), (344, 344, 8, 10), (344, 344, 12, 13), (344, 344, 33, 33), (344, 344, 36, 36), (344, 344, 38, 39), (344, 344, 46, 48), (344, 344, 60, 60), (344, 344, 64, 64), (347, 348, 0, 100000), (358, 358, 5, 5), (360, 362, 40, 43), (363, 363, 80, 87), (364, 372, 0, 100000), (384, 384, 0, 100000)] F F148_ := by rw [q149_]; exact fs_u (g130_) rfl
          have rk152_ : rk K F148_ := by rw [q149_]; exact rk_u (rk131_) (by first | decide | exact nc_ rfl | omega) (by first | decide | exact nc_ rfl | omega)
          have e153_ : F148_ 358 5 = F57_ 358 5 := by rw [q149_]; exact (fl_u_ne (by first | exact nc_ rfl | decide | omega)).trans (e143_)
          refine gVl (nY := 9) (F := 2) (L := 47) (As := [.int (Int32.ofInt 5), .int (Int32.ofInt 40), .int (Int32.ofInt (F57_ 358 5)), .int (Int32.ofInt 1)]) (b := 344) (rest := [.ref 344]) hm_64 rfl hm_156 rfl rfl (fl_ob sc_344) rfl rfl rfl rfl rfl (by omega) (by omega) (mc_156 hG F148_ X g150_ (5) (40) (F57_ 358 5) (1) ((prb_g K nm ts pl ps)) (ps) (⟨by omega, by omega⟩) (by omega) (⟨by omega, by omega⟩) (⟨by omega, by omega⟩) (rcl_lfr co5_ (show lfr 0 0 0 F57_ F148_ from (by rw [q149_]; exact (lfr_uo (lfr_fg (by rw [q121_]; exact (lfr_uo (lfr_uo (lfr_uo (lfr_uo (lfr_uo lfr_r rfl) rfl) rfl) rfl) rfl)) hf_F1 rfl) rfl))) (Or.inr (Nat.zero_le _))) (by omega) (fun x hx => ((prb_ok hps.2.symm co1_).2.2 x hx).1) ((by rw [q149_]; exact (rprd_u (rprd_fs (by rw [q121_]; exact (rprd_u (rprd_u (rprd_u (rprd_u (rprd_u (rprd_fs (rprd_fs (by rw [q28_]; exact (rprd_u (rprd_u (rprd_u (rprd_u (rprd_u (rprd_u (rprd_u hps.1 (by first | decide | exact nc_ rfl | omega)) (by first | decide | exact nc_ rfl | omega)) (by first | decide | exact nc_ rfl | omega)) (by first | decide | exact nc_ rfl | omega)) (by first | decide | exact nc_ rfl | omega)) (by first | decide | exact nc_ rfl | omega)) (by first | decide | exact nc_ rfl | omega))) s38_ (by first | exact fs_rg rfl | exact fun r j hj => (fs_n (by omega) (fs_n (by omega) rfl)))) s59_ (by first | exact fs_rg rfl | exact fun r j hj => (fs_n (by omega) (fs_n (by omega) (fs_n (by omega) (fs_n (by omega) (fs_n (by omega) (fs_n (by omega) (fs_n (by omega) (fs_n (by omega) (fs_n (by omega) rfl))))))))))) (by first | decide | exact nc_ rfl | omega)) (by first | decide | exact nc_ rfl | omega)) (by first | decide | exact nc_ rfl | omega)) (by first | decide | exact nc_ rfl | omega)) (by first | decide | exact nc_ rfl | omega))) hf_F1 (by first | exact fs_rg rfl | exact fun r j hj => (fs_n (by omega) (fs_n (by omega) (fs_n (by omega) rfl))))) (by first | decide | exact nc_ rfl | omega))))) (fun _ _ h => False.elim h) ?_
          rintro z154_ A1_ ⟨hA_, c155_, c156_⟩
          subst hA_
          refine ga_putl hm_64 rfl sc_344 rfl rfl ?_
          refine ga_aload_n (v := .ref 344) hm_64 rfl rfl rfl ?_
          refine ga_aload_n (v := .ref 344) hm_64 rfl rfl rfl ?_
          refine fl_iconst hm_64 rfl ?_
          refine fl_bipush hm_64 rfl rfl ?_
          obtain ⟨F157_, q158_⟩ : ∃ Fq_, Fq_ = (fl_u F148_ 344 47 z154_) := ⟨_, rfl⟩
          rw [← q158_]
          have g159_ : gi F157_ := by rw [q158_]; exact gi_u (g150_) rfl (by omega) (by omega)
          have g160_ : fs [(344, 344, 0, 1), (344, 344, 4, 5), (344, 344, 8, 10), (344, 344, 12, 13), (344, 344, 33, 33), (344, 344, 36, 36), (344, 344, 38, 39), (344, 344, 46, 48), (344, 344, 60, 60), (344, 344, 64, 64), (347, 348, 0, 100000), (358, 358, 5, 5), (360, 362, 40, 43), (363, 363, 80, 87), (364, 372, 0, 100000), (384, 384, 0, 100000)] F F157_ := by rw [q158_]; exact fs_u (g151_) rfl
          have rk161_ : rk K F157_ := by rw [q158_]; exact rk_u (rk152_) (by first | decide | exact nc_ rfl | omega) (by first | decide | exact nc_ rfl | omega)
          have e162_ : F157_ 358 5 = F57_ 358 5 := by rw [q158_]; exact (fl_u_ne (by first | exact nc_ rfl | decide | omega)).trans (e153_)
          refine gVi (nY := 6) (F := 1) (L := 23) (As := [.int (Int32.ofInt 5), .int (Int32.ofInt 40)]) (b := 344) (rest := [.ref 344]) hm_64 rfl hm_159 rfl rfl (fl_ob sc_344) rfl rfl rfl rfl rfl (by omega) (by omega) (mc_159 hG F157_ X g159_ (5) (40) ((prb_g K nm ts pl ps)) (⟨by omega, by omega⟩) (by omega) (rcl_lfr co5_ (show lfr 0 0 0 F57_ F157_ from (by rw [q158_]; exact (lfr_uo (by rw [q149_]; exact (lfr_uo (lfr_fg (by rw [q121_]; exact (lfr_uo (lfr_uo (lfr_uo (lfr_uo (lfr_uo lfr_r rfl) rfl) rfl) rfl) rfl)) hf_F1 rfl) rfl)) rfl))) (Or.inr (Nat.zero_le _))) (by omega) (fun x hx h9_ => ((prb_ok hps.2.symm co1_).2.2 x hx).2.2.2 h9_)) (fun _ _ h => False.elim h) ?_
          rintro z163_ A1_ ⟨hA_, c164_, c165_⟩
          subst hA_
          refine ga_putz (z := z163_) hm_64 rfl sc_344 rfl rfl (by omega) ?_
          refine ga_aload_n (v := .ref 344) hm_64 rfl rfl rfl ?_
          refine fl_iconst hm_64 rfl ?_
          refine ga_putz (z := 1) hm_64 rfl sc_344 rfl rfl (by omega) ?_
          refine ga_aload_n (v := .ref 344) hm_64 rfl rfl rfl ?_
          have e166_ : F148_ 344 39 = F1 344 39 := by rw [q149_]; exact fl_u_ne (by first | exact nc_ rfl | decide | omega)
          have e167_ : F157_ 344 39 = F1 344 39 := by rw [q158_]; exact (fl_u_ne (by first | exact nc_ rfl | decide | omega)).trans (e166_)
          have b168_ : 0 ≤ F1 344 39 ∧ F1 344 39 ≤ 40 := gi_g hg_F1 rfl
          refine ga_geti (z := F1 344 39) hm_64 rfl sc_344 rfl ((fl_u_ne (by first | exact nc_ rfl | decide | omega)).trans ((fl_u_ne (by first | exact nc_ rfl | decide | omega)).trans (e167_))) ?_
          obtain ⟨F169_, q170_⟩ : ∃ Fq_, Fq_ = (fl_u (fl_u F157_ 344 48 z163_) 344 12 1) := ⟨_, rfl⟩
          rw [← q170_]
          have g171_ : gi F169_ := by rw [q170_]; exact gi_u (gi_u (g159_) rfl (by omega) (by omega)) rfl (by omega) (by omega)
          have g172_ : fs [(344, 344, 0, 1), (344, 344, 4, 5), (344, 344, 8, 10), (344, 344, 12, 13), (344, 344, 33, 33), (344, 344, 36, 36), (344, 344, 38, 39), (344, 344, 46, 48), (344, 344, 60, 60), (344, 344, 64, 64), (347, 348, 0, 100000), (358, 358, 5, 5), (360, 362, 40, 43), (363, 363, 80, 87), (364, 372, 0, 100000), (384, 384, 0, 100000)] F F169_ := by rw [q170_]; exact fs_u (fs_u (g160_) rfl) rfl
          have rk173_ : rk K F169_ := by rw [q170_]; exact rk_u (rk_u (rk161_) (by first | decide | exact nc_ rfl | omega) (by first | decide | exact nc_ rfl | omega)) (by first | decide | exact nc_ rfl | omega) (by first | decide | exact nc_ rfl | omega)
          refine gr_i (z := F1 344 39) hm_64 rfl rfl rfl ?_
          have e174_ : F120_ 344 1 = 0 := by rw [q121_]; exact (fl_u_ne (by first | exact nc_ rfl | decide | omega)).trans ((fl_u_ne (by first | exact nc_ rfl | decide | omega)).trans ((fl_u_ne (by first | exact nc_ rfl | decide | omega)).trans (fl_u_eq)))
          have e175_ : F1 344 1 = 0 := (hf_F1 344 1 rfl).trans (e174_)
          have e176_ : F148_ 344 1 = 0 := by rw [q149_]; exact (fl_u_ne (by first | exact nc_ rfl | decide | omega)).trans (e175_)
          have e177_ : F157_ 344 1 = 0 := by rw [q158_]; exact (fl_u_ne (by first | exact nc_ rfl | decide | omega)).trans (e176_)
          have e178_ : F169_ 344 1 = 0 := by rw [q170_]; exact (fl_u_ne (by first | exact nc_ rfl | decide | omega)).trans ((fl_u_ne (by first | exact nc_ rfl | decide | omega)).trans (e177_))
          have e179_ : F27_ 344 13 = 0 := by rw [q28_]; exact (fl_u_ne (by first | exact nc_ rfl | decide | omega)).trans ((fl_u_ne (by first | exact nc_ rfl | decide | omega)).trans (fl_u_eq))
          have e180_ : F36_ 344 13 = 0 := (s38_ 344 13 rfl).trans (e179_)
          have e181_ : F57_ 344 13 = 0 := (s59_ 344 13 rfl).trans (e180_)
          have e182_ : F120_ 344 13 = 0 := by rw [q121_]; exact (fl_u_ne (by first | exact nc_ rfl | decide | omega)).trans ((fl_u_ne (by first | exact nc_ rfl | decide | omega)).trans ((fl_u_ne (by first | exact nc_ rfl | decide | omega)).trans ((fl_u_ne (by first | exact nc_ rfl | decide | omega)).trans ((fl_u_ne (by first | exact nc_ rfl | decide | omega)).trans (e181_)))))
          have e183_ : F1 344 13 = 0 := (hf_F1 344 13 rfl).trans (e182_)
          have e184_ : F148_ 344 13 = 0 := by rw [q149_]; exact (fl_u_ne (by first | exact nc_ rfl | decide | omega)).trans (e183_)
          have e185_ : F157_ 344 13 = 0 := by rw [q158_]; exact (fl_u_ne (by first | exact nc_ rfl | decide | omega)).trans (e184_)
          have e186_ : F169_ 344 13 = 0 := by rw [q170_]; exact (fl_u_ne (by first | exact nc_ rfl | decide | omega)).trans ((fl_u_ne (by first | exact nc_ rfl | decide | omega)).trans (e185_))
          have e187_ : F169_ 344 12 = 1 := by rw [q170_]; exact fl_u_eq
          have e188_ : F1 344 36 = F57_ 344 36 := (hf_F1 344 36 rfl).trans (e128_)
          have e189_ : F148_ 344 36 = F57_ 344 36 := by rw [q149_]; exact (fl_u_ne (by first | exact nc_ rfl | decide | omega)).trans (e188_)
          have e190_ : F157_ 344 36 = F57_ 344 36 := by rw [q158_]; exact (fl_u_ne (by first | exact nc_ rfl | decide | omega)).trans (e189_)
          have e191_ : F169_ 344 36 = F57_ 344 36 := by rw [q170_]; exact (fl_u_ne (by first | exact nc_ rfl | decide | omega)).trans ((fl_u_ne (by first | exact nc_ rfl | decide | omega)).trans (e190_))
          have e192_ : F120_ 344 0 = 0 := by rw [q121_]; exact (fl_u_ne (by first | exact nc_ rfl | decide | omega)).trans ((fl_u_ne (by first | exact nc_ rfl | decide | omega)).trans (fl_u_eq))
          have e193_ : F1 344 0 = 0 := (hf_F1 344 0 rfl).trans (e192_)
          have e194_ : F148_ 344 0 = 0 := by rw [q149_]; exact (fl_u_ne (by first | exact nc_ rfl | decide | omega)).trans (e193_)
          have e195_ : F157_ 344 0 = 0 := by rw [q158_]; exact (fl_u_ne (by first | exact nc_ rfl | decide | omega)).trans (e194_)
          have e196_ : F169_ 344 0 = 0 := by rw [q170_]; exact (fl_u_ne (by first | exact nc_ rfl | decide | omega)).trans ((fl_u_ne (by first | exact nc_ rfl | decide | omega)).trans (e195_))
          have e197_ : F169_ 344 39 = F1 344 39 := by rw [q170_]; exact (fl_u_ne (by first | exact nc_ rfl | decide | omega)).trans ((fl_u_ne (by first | exact nc_ rfl | decide | omega)).trans (e167_))
          have e198_ : F120_ 344 8 = 0 := by rw [q121_]; exact (fl_u_ne (by first | exact nc_ rfl | decide | omega)).trans ((fl_u_ne (by first | exact nc_ rfl | decide | omega)).trans ((fl_u_ne (by first | exact nc_ rfl | decide | omega)).trans ((fl_u_ne (by first | exact nc_ rfl | decide | omega)).trans (fl_u_eq))))
          have e199_ : F1 344 8 = 0 := (hf_F1 344 8 rfl).trans (e198_)
          have e200_ : F148_ 344 8 = 0 := by rw [q149_]; exact (fl_u_ne (by first | exact nc_ rfl | decide | omega)).trans (e199_)
          have e201_ : F157_ 344 8 = 0 := by rw [q158_]; exact (fl_u_ne (by first | exact nc_ rfl | decide | omega)).trans (e200_)
          have e202_ : F169_ 344 8 = 0 := by rw [q170_]; exact (fl_u_ne (by first | exact nc_ rfl | decide | omega)).trans ((fl_u_ne (by first | exact nc_ rfl | decide | omega)).trans (e201_))
          have b203_ : 0 ≤ F 344 8 ∧ F 344 8 ≤ 100000 := gi_g hgi rfl
          have e204_ : F27_ 344 11 = F 344 11 := by rw [q28_]; exact (fl_u_ne (by first | exact nc_ rfl | decide | omega)).trans ((fl_u_ne (by first | exact nc_ rfl | decide | omega)).trans ((fl_u_ne (by first | exact nc_ rfl | decide | omega)).trans ((fl_u_ne (by first | exact nc_ rfl | decide | omega)).trans ((fl_u_ne (by first | exact nc_ rfl | decide | omega)).trans ((fl_u_ne (by first | exact nc_ rfl | decide | omega)).trans (fl_u_ne (by first | exact nc_ rfl | decide | omega)))))))
          have e205_ : F36_ 344 11 = F 344 11 := (s38_ 344 11 rfl).trans (e204_)
          have e206_ : F57_ 344 11 = F 344 11 := (s59_ 344 11 rfl).trans (e205_)
          have e207_ : F120_ 344 11 = F 344 11 := by rw [q121_]; exact (fl_u_ne (by first | exact nc_ rfl | decide | omega)).trans ((fl_u_ne (by first | exact nc_ rfl | decide | omega)).trans ((fl_u_ne (by first | exact nc_ rfl | decide | omega)).trans ((fl_u_ne (by first | exact nc_ rfl | decide | omega)).trans ((fl_u_ne (by first | exact nc_ rfl | decide | omega)).trans (e206_)))))
          have e208_ : F1 344 11 = F 344 11 := (hf_F1 344 11 rfl).trans (e207_)
          have e209_ : F148_ 344 11 = F 344 11 := by rw [q149_]; exact (fl_u_ne (by first | exact nc_ rfl | decide | omega)).trans (e208_)
          have e210_ : F157_ 344 11 = F 344 11 := by rw [q158_]; exact (fl_u_ne (by first | exact nc_ rfl | decide | omega)).trans (e209_)
          have e211_ : F169_ 344 11 = F 344 11 := by rw [q170_]; exact (fl_u_ne (by first | exact nc_ rfl | decide | omega)).trans ((fl_u_ne (by first | exact nc_ rfl | decide | omega)).trans (e210_))
          have e212_ : F27_ 344 60 = 0 := by rw [q28_]; exact fl_u_eq
          have e213_ : F36_ 344 60 = 0 := (s38_ 344 60 rfl).trans (e212_)
          have e214_ : F57_ 344 60 = 0 := (s59_ 344 60 rfl).trans (e213_)
          have e215_ : F120_ 344 60 = 0 := by rw [q121_]; exact (fl_u_ne (by first | exact nc_ rfl | decide | omega)).trans ((fl_u_ne (by first | exact nc_ rfl | decide | omega)).trans ((fl_u_ne (by first | exact nc_ rfl | decide | omega)).trans ((fl_u_ne (by first | exact nc_ rfl | decide | omega)).trans ((fl_u_ne (by first | exact nc_ rfl | decide | omega)).trans (e214_)))))
          have e216_ : F1 344 60 = 0 := (hf_F1 344 60 rfl).trans (e215_)
          have e217_ : F148_ 344 60 = 0 := by rw [q149_]; exact (fl_u_ne (by first | exact nc_ rfl | decide | omega)).trans (e216_)
          have e218_ : F157_ 344 60 = 0 := by rw [q158_]; exact (fl_u_ne (by first | exact nc_ rfl | decide | omega)).trans (e217_)
          have e219_ : F169_ 344 60 = 0 := by rw [q170_]; exact (fl_u_ne (by first | exact nc_ rfl | decide | omega)).trans ((fl_u_ne (by first | exact nc_ rfl | decide | omega)).trans (e218_))
          have b220_ : 0 ≤ F 344 12 ∧ F 344 12 ≤ 1 := gi_g hgi rfl
          exact ⟨F169_, rfl, g171_, g172_, (⟨by omega, by omega⟩), (by omega), (pli_0 (by omega)), (fun _ => ⟨sob_cg hs1 (Eq.trans (a := F169_ 344 39) (b := F157_ 344 39) (by rw [q170_]; exact (fl_u_ne (by first | exact nc_ rfl | decide | omega)).trans ((fl_u_ne (by first | exact nc_ rfl | decide | omega)))) (Eq.trans (a := F157_ 344 39) (b := F148_ 344 39) (by rw [q158_]; exact (fl_u_ne (by first | exact nc_ rfl | decide | omega))) (show F148_ 344 39 = F1 344 39 from (by rw [q149_]; exact (fl_u_ne (by first | exact nc_ rfl | decide | omega)))))) (fun j => (Eq.trans (a := F169_ 357 j) (b := F157_ 357 j) (by rw [q170_]; exact (fl_u_ne (by first | exact nc_ rfl | decide | omega)).trans ((fl_u_ne (by first | exact nc_ rfl | decide | omega)))) (Eq.trans (a := F157_ 357 j) (b := F148_ 357 j) (by rw [q158_]; exact (fl_u_ne (by first | exact nc_ rfl | decide | omega))) (show F148_ 357 j = F1 357 j from (by rw [q149_]; exact (fl_u_ne (by first | exact nc_ rfl | decide | omega))))))) (fun j => (Eq.trans (a := F169_ 367 j) (b := F157_ 367 j) (by rw [q170_]; exact (fl_u_ne (by first | exact nc_ rfl | decide | omega)).trans ((fl_u_ne (by first | exact nc_ rfl | decide | omega)))) (Eq.trans (a := F157_ 367 j) (b := F148_ 367 j) (by rw [q158_]; exact (fl_u_ne (by first | exact nc_ rfl | decide | omega))) (show F148_ 367 j = F1 367 j from (by rw [q149_]; exact (fl_u_ne (by first | exact nc_ rfl | decide | omega))))))) (fun j => (Eq.trans (a := F169_ 354 j) (b := F157_ 354 j) (by rw [q170_]; exact (fl_u_ne (by first | exact nc_ rfl | decide | omega)).trans ((fl_u_ne (by first | exact nc_ rfl | decide | omega)))) (Eq.trans (a := F157_ 354 j) (b := F148_ 354 j) (by rw [q158_]; exact (fl_u_ne (by first | exact nc_ rfl | decide | omega))) (show F148_ 354 j = F1 354 j from (by rw [q149_]; exact (fl_u_ne (by first | exact nc_ rfl | decide | omega))))))) (fun j => (Eq.trans (a := F169_ 368 j) (b := F157_ 368 j) (by rw [q170_]; exact (fl_u_ne (by first | exact nc_ rfl | decide | omega)).trans ((fl_u_ne (by first | exact nc_ rfl | decide | omega)))) (Eq.trans (a := F157_ 368 j) (b := F148_ 368 j) (by rw [q158_]; exact (fl_u_ne (by first | exact nc_ rfl | decide | omega))) (show F148_ 368 j = F1 368 j from (by rw [q149_]; exact (fl_u_ne (by first | exact nc_ rfl | decide | omega))))))), by omega⟩), (Or.inr ⟨by omega, Or.inr ⟨l, tl, co1_, by omega, Or.inr (by have h6_ := hst (by omega); have h5_ : 0 ≤ F1 344 39 ∧ F1 344 39 ≤ 40 := gi_g hg_F1 rfl; have h4_ := hf4 (by omega); rw [show a.toNat = D.length by omega] at h6_; have h7_ := h6_.1; exact ⟨by omega, by omega, by omega, by omega, by omega, rsts_cg h6_.2 (fun j => (Eq.trans (a := F169_ 366 j) (b := F157_ 366 j) (by rw [q170_]; exact (fl_u_ne (by first | exact nc_ rfl | decide | omega)).trans ((fl_u_ne (by first | exact nc_ rfl | decide | omega)))) (Eq.trans (a := F157_ 366 j) (b := F148_ 366 j) (by rw [q158_]; exact (fl_u_ne (by first | exact nc_ rfl | decide | omega))) (show F148_ 366 j = F1 366 j from (by rw [q149_]; exact (fl_u_ne (by first | exact nc_ rfl | decide | omega))))))) (fun j hj => (Eq.trans (a := F169_ 368 j) (b := F157_ 368 j) (by rw [q170_]; exact (fl_u_ne (by first | exact nc_ rfl | decide | omega)).trans ((fl_u_ne (by first | exact nc_ rfl | decide | omega)))) (Eq.trans (a := F157_ 368 j) (b := F148_ 368 j) (by rw [q158_]; exact (fl_u_ne (by first | exact nc_ rfl | decide | omega))) (show F148_ 368 j = F1 368 j from (by rw [q149_]; exact (fl_u_ne (by first | exact nc_ rfl | decide | omega))))))) (fun r j hr hj => (Eq.trans (a := F169_ (r) j) (b := F157_ (r) j) (by rw [q170_]; exact (fl_u_ne (by first | exact nc_ rfl | decide | omega)).trans ((fl_u_ne (by first | exact nc_ rfl | decide | omega)))) (Eq.trans (a := F157_ (r) j) (b := F148_ (r) j) (by rw [q158_]; exact (fl_u_ne (by first | exact nc_ rfl | decide | omega))) (show F148_ (r) j = F1 (r) j from (by rw [q149_]; exact (fl_u_ne (by first | exact nc_ rfl | decide | omega)))))))⟩)⟩⟩), (⟨fun h9_ => ⟨by omega, by omega⟩, fun h9_ => by omega, fun h9_ => by omega⟩)⟩
        refine ga_aload_n (v := .ref 344) hm_64 rfl rfl rfl ?_
        refine fl_iconst hm_64 rfl ?_
        refine ga_puti (z := 3) hm_64 rfl sc_344 rfl rfl ?_
        refine fl_iconst hm_64 rfl ?_
        obtain ⟨F221_, q222_⟩ : ∃ Fq_, Fq_ = (fl_u F1 344 0 3) := ⟨_, rfl⟩
        rw [← q222_]
        have g223_ : gi F221_ := by rw [q222_]; exact gi_u (hg_F1) rfl (by omega) (by omega)
        have g224_ : fs [(344, 344, 0, 1), (344, 344, 4, 5), (344, 344, 8, 10), (344, 344, 12, 13), (344, 344, 33, 33), (344, 344, 36, 36), (344, 344, 38, 39), (344, 344, 46, 48), (344, 344, 60, 60), (344, 344, 64, 64), (347, 348, 0, 100000), (358, 358, 5, 5), (360, 362, 40, 43), (363, 363, 80, 87), (364, 372, 0, 100000), (384, 384, 0, 100000)] F F221_ := by rw [q222_]; exact fs_u (g130_) rfl
        have rk225_ : rk K F221_ := by rw [q222_]; exact rk_u (rk131_) (by first | decide | exact nc_ rfl | omega) (by first | decide | exact nc_ rfl | omega)
        refine gr_i (z := 0) hm_64 rfl rfl rfl ?_
        have e226_ : F120_ 344 1 = 0 := by rw [q121_]; exact (fl_u_ne (by first | exact nc_ rfl | decide | omega)).trans ((fl_u_ne (by first | exact nc_ rfl | decide | omega)).trans ((fl_u_ne (by first | exact nc_ rfl | decide | omega)).trans (fl_u_eq)))
        have e227_ : F1 344 1 = 0 := (hf_F1 344 1 rfl).trans (e226_)
        have e228_ : F221_ 344 1 = 0 := by rw [q222_]; exact (fl_u_ne (by first | exact nc_ rfl | decide | omega)).trans (e227_)
        have e229_ : F27_ 344 13 = 0 := by rw [q28_]; exact (fl_u_ne (by first | exact nc_ rfl | decide | omega)).trans ((fl_u_ne (by first | exact nc_ rfl | decide | omega)).trans (fl_u_eq))
        have e230_ : F36_ 344 13 = 0 := (s38_ 344 13 rfl).trans (e229_)
        have e231_ : F57_ 344 13 = 0 := (s59_ 344 13 rfl).trans (e230_)
        have e232_ : F120_ 344 13 = 0 := by rw [q121_]; exact (fl_u_ne (by first | exact nc_ rfl | decide | omega)).trans ((fl_u_ne (by first | exact nc_ rfl | decide | omega)).trans ((fl_u_ne (by first | exact nc_ rfl | decide | omega)).trans ((fl_u_ne (by first | exact nc_ rfl | decide | omega)).trans ((fl_u_ne (by first | exact nc_ rfl | decide | omega)).trans (e231_)))))
        have e233_ : F1 344 13 = 0 := (hf_F1 344 13 rfl).trans (e232_)
        have e234_ : F221_ 344 13 = 0 := by rw [q222_]; exact (fl_u_ne (by first | exact nc_ rfl | decide | omega)).trans (e233_)
        have e235_ : F27_ 344 12 = 0 := by rw [q28_]; exact (fl_u_ne (by first | exact nc_ rfl | decide | omega)).trans ((fl_u_ne (by first | exact nc_ rfl | decide | omega)).trans ((fl_u_ne (by first | exact nc_ rfl | decide | omega)).trans (fl_u_eq)))
        have e236_ : F36_ 344 12 = 0 := (s38_ 344 12 rfl).trans (e235_)
        have e237_ : F57_ 344 12 = 0 := (s59_ 344 12 rfl).trans (e236_)
        have e238_ : F120_ 344 12 = 0 := by rw [q121_]; exact (fl_u_ne (by first | exact nc_ rfl | decide | omega)).trans ((fl_u_ne (by first | exact nc_ rfl | decide | omega)).trans ((fl_u_ne (by first | exact nc_ rfl | decide | omega)).trans ((fl_u_ne (by first | exact nc_ rfl | decide | omega)).trans ((fl_u_ne (by first | exact nc_ rfl | decide | omega)).trans (e237_)))))
        have e239_ : F1 344 12 = 0 := (hf_F1 344 12 rfl).trans (e238_)
        have e240_ : F221_ 344 12 = 0 := by rw [q222_]; exact (fl_u_ne (by first | exact nc_ rfl | decide | omega)).trans (e239_)
        have e241_ : F1 344 36 = F57_ 344 36 := (hf_F1 344 36 rfl).trans (e128_)
        have e242_ : F221_ 344 36 = F57_ 344 36 := by rw [q222_]; exact (fl_u_ne (by first | exact nc_ rfl | decide | omega)).trans (e241_)
        have e243_ : F221_ 344 0 = 3 := by rw [q222_]; exact fl_u_eq
        have e244_ : F221_ 344 39 = F1 344 39 := by rw [q222_]; exact fl_u_ne (by first | exact nc_ rfl | decide | omega)
        have b245_ : 0 ≤ F1 344 39 ∧ F1 344 39 ≤ 40 := gi_g hg_F1 rfl
        have e246_ : F120_ 344 8 = 0 := by rw [q121_]; exact (fl_u_ne (by first | exact nc_ rfl | decide | omega)).trans ((fl_u_ne (by first | exact nc_ rfl | decide | omega)).trans ((fl_u_ne (by first | exact nc_ rfl | decide | omega)).trans ((fl_u_ne (by first | exact nc_ rfl | decide | omega)).trans (fl_u_eq))))
        have e247_ : F1 344 8 = 0 := (hf_F1 344 8 rfl).trans (e246_)
        have e248_ : F221_ 344 8 = 0 := by rw [q222_]; exact (fl_u_ne (by first | exact nc_ rfl | decide | omega)).trans (e247_)
        have b249_ : 0 ≤ F 344 8 ∧ F 344 8 ≤ 100000 := gi_g hgi rfl
        have e250_ : F27_ 344 11 = F 344 11 := by rw [q28_]; exact (fl_u_ne (by first | exact nc_ rfl | decide | omega)).trans ((fl_u_ne (by first | exact nc_ rfl | decide | omega)).trans ((fl_u_ne (by first | exact nc_ rfl | decide | omega)).trans ((fl_u_ne (by first | exact nc_ rfl | decide | omega)).trans ((fl_u_ne (by first | exact nc_ rfl | decide | omega)).trans ((fl_u_ne (by first | exact nc_ rfl | decide | omega)).trans (fl_u_ne (by first | exact nc_ rfl | decide | omega)))))))
        have e251_ : F36_ 344 11 = F 344 11 := (s38_ 344 11 rfl).trans (e250_)
        have e252_ : F57_ 344 11 = F 344 11 := (s59_ 344 11 rfl).trans (e251_)
        have e253_ : F120_ 344 11 = F 344 11 := by rw [q121_]; exact (fl_u_ne (by first | exact nc_ rfl | decide | omega)).trans ((fl_u_ne (by first | exact nc_ rfl | decide | omega)).trans ((fl_u_ne (by first | exact nc_ rfl | decide | omega)).trans ((fl_u_ne (by first | exact nc_ rfl | decide | omega)).trans ((fl_u_ne (by first | exact nc_ rfl | decide | omega)).trans (e252_)))))
        have e254_ : F1 344 11 = F 344 11 := (hf_F1 344 11 rfl).trans (e253_)
        have e255_ : F221_ 344 11 = F 344 11 := by rw [q222_]; exact (fl_u_ne (by first | exact nc_ rfl | decide | omega)).trans (e254_)
        have e256_ : F27_ 344 60 = 0 := by rw [q28_]; exact fl_u_eq
        have e257_ : F36_ 344 60 = 0 := (s38_ 344 60 rfl).trans (e256_)
        have e258_ : F57_ 344 60 = 0 := (s59_ 344 60 rfl).trans (e257_)
        have e259_ : F120_ 344 60 = 0 := by rw [q121_]; exact (fl_u_ne (by first | exact nc_ rfl | decide | omega)).trans ((fl_u_ne (by first | exact nc_ rfl | decide | omega)).trans ((fl_u_ne (by first | exact nc_ rfl | decide | omega)).trans ((fl_u_ne (by first | exact nc_ rfl | decide | omega)).trans ((fl_u_ne (by first | exact nc_ rfl | decide | omega)).trans (e258_)))))
        have e260_ : F1 344 60 = 0 := (hf_F1 344 60 rfl).trans (e259_)
        have e261_ : F221_ 344 60 = 0 := by rw [q222_]; exact (fl_u_ne (by first | exact nc_ rfl | decide | omega)).trans (e260_)
        have b262_ : 0 ≤ F 344 12 ∧ F 344 12 ≤ 1 := gi_g hgi rfl
        exact ⟨F221_, rfl, g223_, g224_, (⟨by omega, by omega⟩), (by omega), (pli_0 (by omega)), (fun h9_ => absurd h9_ (by omega)), (Or.inr ⟨by omega, Or.inr ⟨l, tl, co1_, by omega, Or.inl ⟨by omega, ho (by omega)⟩⟩⟩), (⟨fun h9_ => ⟨by omega, by omega⟩, fun h9_ => by omega, fun h9_ => by omega⟩)⟩
      refine ga_iload_n (z := ft) hm_64 rfl rfl ?_
      refine fl_if_eq (a := ft) hm_64 rfl ⟨by omega, by omega⟩ (fun h263_ => ?_) (fun h264_ => ?_)
      ·
        refine ga_iload_n (z := ft) hm_64 rfl rfl ?_
        refine fx_if_ne (a := ft) hm_64 rfl ⟨by omega, by omega⟩ (fun h265_ => ?_) (fun h266_ => ?_)
        · exfalso; omega
        refine ga_aload_n (v := .ref 344) hm_64 rfl rfl rfl ?_
        refine fl_iconst hm_64 rfl ?_
        refine ga_puti (z := 3) hm_64 rfl sc_344 rfl rfl ?_
        refine fl_iconst hm_64 rfl ?_
        obtain ⟨F267_, q268_⟩ : ∃ Fq_, Fq_ = (fl_u F1 344 0 3) := ⟨_, rfl⟩
        rw [← q268_]
        have g269_ : gi F267_ := by rw [q268_]; exact gi_u (hg_F1) rfl (by omega) (by omega)
        have g270_ : fs [(344, 344, 0, 1), (344, 344, 4, 5), (344, 344, 8, 10), (344, 344, 12, 13), (344, 344, 33, 33), (344, 344, 36, 36), (344, 344, 38, 39), (344, 344, 46, 48), (344, 344, 60, 60), (344, 344, 64, 64), (347, 348, 0, 100000), (358, 358, 5, 5), (360, 362, 40, 43), (363, 363, 80, 87), (364, 372, 0, 100000), (384, 384, 0, 100000)] F F267_ := by rw [q268_]; exact fs_u (g130_) rfl
        have rk271_ : rk K F267_ := by rw [q268_]; exact rk_u (rk131_) (by first | decide | exact nc_ rfl | omega) (by first | decide | exact nc_ rfl | omega)
        refine gr_i (z := 0) hm_64 rfl rfl rfl ?_
        have e272_ : F120_ 344 1 = 0 := by rw [q121_]; exact (fl_u_ne (by first | exact nc_ rfl | decide | omega)).trans ((fl_u_ne (by first | exact nc_ rfl | decide | omega)).trans ((fl_u_ne (by first | exact nc_ rfl | decide | omega)).trans (fl_u_eq)))
        have e273_ : F1 344 1 = 0 := (hf_F1 344 1 rfl).trans (e272_)
        have e274_ : F267_ 344 1 = 0 := by rw [q268_]; exact (fl_u_ne (by first | exact nc_ rfl | decide | omega)).trans (e273_)
        have e275_ : F27_ 344 13 = 0 := by rw [q28_]; exact (fl_u_ne (by first | exact nc_ rfl | decide | omega)).trans ((fl_u_ne (by first | exact nc_ rfl | decide | omega)).trans (fl_u_eq))
        have e276_ : F36_ 344 13 = 0 := (s38_ 344 13 rfl).trans (e275_)
        have e277_ : F57_ 344 13 = 0 := (s59_ 344 13 rfl).trans (e276_)
        have e278_ : F120_ 344 13 = 0 := by rw [q121_]; exact (fl_u_ne (by first | exact nc_ rfl | decide | omega)).trans ((fl_u_ne (by first | exact nc_ rfl | decide | omega)).trans ((fl_u_ne (by first | exact nc_ rfl | decide | omega)).trans ((fl_u_ne (by first | exact nc_ rfl | decide | omega)).trans ((fl_u_ne (by first | exact nc_ rfl | decide | omega)).trans (e277_)))))
        have e279_ : F1 344 13 = 0 := (hf_F1 344 13 rfl).trans (e278_)
        have e280_ : F267_ 344 13 = 0 := by rw [q268_]; exact (fl_u_ne (by first | exact nc_ rfl | decide | omega)).trans (e279_)
        have e281_ : F27_ 344 12 = 0 := by rw [q28_]; exact (fl_u_ne (by first | exact nc_ rfl | decide | omega)).trans ((fl_u_ne (by first | exact nc_ rfl | decide | omega)).trans ((fl_u_ne (by first | exact nc_ rfl | decide | omega)).trans (fl_u_eq)))
        have e282_ : F36_ 344 12 = 0 := (s38_ 344 12 rfl).trans (e281_)
        have e283_ : F57_ 344 12 = 0 := (s59_ 344 12 rfl).trans (e282_)
        have e284_ : F120_ 344 12 = 0 := by rw [q121_]; exact (fl_u_ne (by first | exact nc_ rfl | decide | omega)).trans ((fl_u_ne (by first | exact nc_ rfl | decide | omega)).trans ((fl_u_ne (by first | exact nc_ rfl | decide | omega)).trans ((fl_u_ne (by first | exact nc_ rfl | decide | omega)).trans ((fl_u_ne (by first | exact nc_ rfl | decide | omega)).trans (e283_)))))
        have e285_ : F1 344 12 = 0 := (hf_F1 344 12 rfl).trans (e284_)
        have e286_ : F267_ 344 12 = 0 := by rw [q268_]; exact (fl_u_ne (by first | exact nc_ rfl | decide | omega)).trans (e285_)
        have e287_ : F1 344 36 = F57_ 344 36 := (hf_F1 344 36 rfl).trans (e128_)
        have e288_ : F267_ 344 36 = F57_ 344 36 := by rw [q268_]; exact (fl_u_ne (by first | exact nc_ rfl | decide | omega)).trans (e287_)
        have e289_ : F267_ 344 0 = 3 := by rw [q268_]; exact fl_u_eq
        have e290_ : F267_ 344 39 = F1 344 39 := by rw [q268_]; exact fl_u_ne (by first | exact nc_ rfl | decide | omega)
        have b291_ : 0 ≤ F1 344 39 ∧ F1 344 39 ≤ 40 := gi_g hg_F1 rfl
        have e292_ : F120_ 344 8 = 0 := by rw [q121_]; exact (fl_u_ne (by first | exact nc_ rfl | decide | omega)).trans ((fl_u_ne (by first | exact nc_ rfl | decide | omega)).trans ((fl_u_ne (by first | exact nc_ rfl | decide | omega)).trans ((fl_u_ne (by first | exact nc_ rfl | decide | omega)).trans (fl_u_eq))))
        have e293_ : F1 344 8 = 0 := (hf_F1 344 8 rfl).trans (e292_)
        have e294_ : F267_ 344 8 = 0 := by rw [q268_]; exact (fl_u_ne (by first | exact nc_ rfl | decide | omega)).trans (e293_)
        have b295_ : 0 ≤ F 344 8 ∧ F 344 8 ≤ 100000 := gi_g hgi rfl
        have e296_ : F27_ 344 11 = F 344 11 := by rw [q28_]; exact (fl_u_ne (by first | exact nc_ rfl | decide | omega)).trans ((fl_u_ne (by first | exact nc_ rfl | decide | omega)).trans ((fl_u_ne (by first | exact nc_ rfl | decide | omega)).trans ((fl_u_ne (by first | exact nc_ rfl | decide | omega)).trans ((fl_u_ne (by first | exact nc_ rfl | decide | omega)).trans ((fl_u_ne (by first | exact nc_ rfl | decide | omega)).trans (fl_u_ne (by first | exact nc_ rfl | decide | omega)))))))
        have e297_ : F36_ 344 11 = F 344 11 := (s38_ 344 11 rfl).trans (e296_)
        have e298_ : F57_ 344 11 = F 344 11 := (s59_ 344 11 rfl).trans (e297_)
        have e299_ : F120_ 344 11 = F 344 11 := by rw [q121_]; exact (fl_u_ne (by first | exact nc_ rfl | decide | omega)).trans ((fl_u_ne (by first | exact nc_ rfl | decide | omega)).trans ((fl_u_ne (by first | exact nc_ rfl | decide | omega)).trans ((fl_u_ne (by first | exact nc_ rfl | decide | omega)).trans ((fl_u_ne (by first | exact nc_ rfl | decide | omega)).trans (e298_)))))
        have e300_ : F1 344 11 = F 344 11 := (hf_F1 344 11 rfl).trans (e299_)
        have e301_ : F267_ 344 11 = F 344 11 := by rw [q268_]; exact (fl_u_ne (by first | exact nc_ rfl | decide | omega)).trans (e300_)
        have e302_ : F27_ 344 60 = 0 := by rw [q28_]; exact fl_u_eq
        have e303_ : F36_ 344 60 = 0 := (s38_ 344 60 rfl).trans (e302_)
        have e304_ : F57_ 344 60 = 0 := (s59_ 344 60 rfl).trans (e303_)
        have e305_ : F120_ 344 60 = 0 := by rw [q121_]; exact (fl_u_ne (by first | exact nc_ rfl | decide | omega)).trans ((fl_u_ne (by first | exact nc_ rfl | decide | omega)).trans ((fl_u_ne (by first | exact nc_ rfl | decide | omega)).trans ((fl_u_ne (by first | exact nc_ rfl | decide | omega)).trans ((fl_u_ne (by first | exact nc_ rfl | decide | omega)).trans (e304_)))))
        have e306_ : F1 344 60 = 0 := (hf_F1 344 60 rfl).trans (e305_)
        have e307_ : F267_ 344 60 = 0 := by rw [q268_]; exact (fl_u_ne (by first | exact nc_ rfl | decide | omega)).trans (e306_)
        have b308_ : 0 ≤ F 344 12 ∧ F 344 12 ≤ 1 := gi_g hgi rfl
        exact ⟨F267_, rfl, g269_, g270_, (⟨by omega, by omega⟩), (by omega), (pli_0 (by omega)), (fun h9_ => absurd h9_ (by omega)), (Or.inr ⟨by omega, Or.inr ⟨l, tl, co1_, by omega, Or.inl ⟨by omega, ho (by omega)⟩⟩⟩), (⟨fun h9_ => ⟨by omega, by omega⟩, fun h9_ => by omega, fun h9_ => by omega⟩)⟩
      refine ga_aload_n (v := .ref 344) hm_64 rfl rfl rfl ?_
      refine ga_iload_n (z := a) hm_64 rfl rfl ?_
      have e309_ : F27_ 357 a.toNat = F 357 a.toNat := by rw [q28_]; exact (fl_u_ne (by first | exact nc_ rfl | decide | omega)).trans ((fl_u_ne (by first | exact nc_ rfl | decide | omega)).trans ((fl_u_ne (by first | exact nc_ rfl | decide | omega)).trans ((fl_u_ne (by first | exact nc_ rfl | decide | omega)).trans ((fl_u_ne (by first | exact nc_ rfl | decide | omega)).trans ((fl_u_ne (by first | exact nc_ rfl | decide | omega)).trans (fl_u_ne (by first | exact nc_ rfl | decide | omega)))))))
      have e310_ : F36_ 357 a.toNat = F 357 a.toNat := (s38_ 357 a.toNat (by first | exact fs_c rfl | exact (fs_n (by omega) (fs_n (by omega) rfl)))).trans (e309_)
      have e311_ : F57_ 357 a.toNat = F 357 a.toNat := (s59_ 357 a.toNat (by first | exact fs_c rfl | exact (fs_n (by omega) (fs_n (by omega) (fs_n (by omega) (fs_n (by omega) (fs_n (by omega) (fs_n (by omega) (fs_n (by omega) (fs_n (by omega) (fs_n (by omega) rfl))))))))))).trans (e310_)
      have e312_ : F120_ 357 a.toNat = F 357 a.toNat := by rw [q121_]; exact (fl_u_ne (by first | exact nc_ rfl | decide | omega)).trans ((fl_u_ne (by first | exact nc_ rfl | decide | omega)).trans ((fl_u_ne (by first | exact nc_ rfl | decide | omega)).trans ((fl_u_ne (by first | exact nc_ rfl | decide | omega)).trans ((fl_u_ne (by first | exact nc_ rfl | decide | omega)).trans (e311_)))))
      have e313_ : F1 357 a.toNat = F 357 a.toNat := (hf_F1 357 a.toNat (by first | exact fs_c rfl | exact (fs_n (by omega) (fs_n (by omega) (fs_n (by omega) rfl))))).trans (e312_)
      refine gVi (nY := 6) (F := 3) (L := 75) (As := [.int (Int32.ofInt a)]) (b := 344) (rest := []) hm_64 rfl hm_165 rfl rfl (fl_ob sc_344) rfl rfl rfl rfl rfl (by omega) (by omega) (mc_165 hG F1 X hg_F1 (a) (D) (tl) (ps) ((stP tl D a.toNat)) (⟨by omega, by omega⟩) (by have h9_ := hcs (by omega) a.toNat (by omega); omega) (hs1) ((rdar_5 hD hgi (by omega) (lfr_s g130_ rfl)) a.toNat _ (dat_get (by omega))) (⟨by have h9_ := (tr5 (trm_fs (by rw [q121_]; exact (trm_u (trm_u (trm_u (trm_u (trm_u co2_ (by first | decide | exact nc_ rfl | omega)) (by first | decide | exact nc_ rfl | omega)) (by first | decide | exact nc_ rfl | omega)) (by first | decide | exact nc_ rfl | omega)) (by first | decide | exact nc_ rfl | omega))) hf_F1 (by first | exact fs_rg rfl | exact fun r j hj => (fs_n (by omega) (fs_n (by omega) (fs_n (by omega) rfl)))))).1.1; have h8_ := (prb_ok hps.2.symm co1_).1.1; omega, (tr5 (trm_fs (by rw [q121_]; exact (trm_u (trm_u (trm_u (trm_u (trm_u co2_ (by first | decide | exact nc_ rfl | omega)) (by first | decide | exact nc_ rfl | omega)) (by first | decide | exact nc_ rfl | omega)) (by first | decide | exact nc_ rfl | omega)) (by first | decide | exact nc_ rfl | omega))) hf_F1 (by first | exact fs_rg rfl | exact fun r j hj => (fs_n (by omega) (fs_n (by omega) (fs_n (by omega) rfl)))))).2⟩) ((rprd_fs (by rw [q121_]; exact (rprd_u (rprd_u (rprd_u (rprd_u (rprd_u (rprd_fs (rprd_fs (by rw [q28_]; exact (rprd_u (rprd_u (rprd_u (rprd_u (rprd_u (rprd_u (rprd_u hps.1 (by first | decide | exact nc_ rfl | omega)) (by first | decide | exact nc_ rfl | omega)) (by first | decide | exact nc_ rfl | omega)) (by first | decide | exact nc_ rfl | omega)) (by first | decide | exact nc_ rfl | omega)) (by first | decide | exact nc_ rfl | omega)) (by first | decide | exact nc_ rfl | omega))) s38_ (by first | exact fs_rg rfl | exact fun r j hj => (fs_n (by omega) (fs_n (by omega) rfl)))) s59_ (by first | exact fs_rg rfl | exact fun r j hj => (fs_n (by omega) (fs_n (by omega) (fs_n (by omega) (fs_n (by omega) (fs_n (by omega) (fs_n (by omega) (fs_n (by omega) (fs_n (by omega) (fs_n (by omega) rfl))))))))))) (by first | decide | exact nc_ rfl | omega)) (by first | decide | exact nc_ rfl | omega)) (by first | decide | exact nc_ rfl | omega)) (by first | decide | exact nc_ rfl | omega)) (by first | decide | exact nc_ rfl | omega))) hf_F1 (by first | exact fs_rg rfl | exact fun r j hj => (fs_n (by omega) (fs_n (by omega) (fs_n (by omega) rfl)))))) (ad_l3 (hDw _ (dat_mem (by omega)))) (ad_e3 (hDw _ (dat_mem (by omega)))) ((hst (by omega)).1) ((hst (by omega)).2)) (fun _ _ h => False.elim h) ?_
      rintro z314_ A1_ (⟨F317_, hA_, g318_, s319_, hz_, c315_, c316_⟩ | ⟨F323_, hA_, g324_, s325_, hz_, c320_, c321_, c322_⟩)
      ·
        subst hA_
        subst hz_
        have g326_ : fs [(344, 344, 0, 1), (344, 344, 4, 5), (344, 344, 8, 10), (344, 344, 12, 13), (344, 344, 33, 33), (344, 344, 36, 36), (344, 344, 38, 39), (344, 344, 46, 48), (344, 344, 60, 60), (344, 344, 64, 64), (347, 348, 0, 100000), (358, 358, 5, 5), (360, 362, 40, 43), (363, 363, 80, 87), (364, 372, 0, 100000), (384, 384, 0, 100000)] F F317_ := fs_tr g130_ s319_ rfl
        have rk327_ : rk K F317_ := rk_fs rk131_ s319_ (fs_rg rfl) rfl
        refine ga_istore_n (lv2 := [(1, .int (Int32.ofInt 0)), (2, .int (Int32.ofInt a)), (0, .ref 344)]) hm_64 rfl (Nat.le_of_ble_eq_true rfl) rfl ?_
        refine ga_inc (a := a) (c := a + 1) (lv2 := [(2, .int (Int32.ofInt (a + 1))), (1, .int (Int32.ofInt 0)), (0, .ref 344)]) hm_64 rfl rfl (Nat.le_of_ble_eq_true rfl) rfl rfl ?_
        refine fl_goto hm_64 rfl ?_
        have b328_ : 0 ≤ F317_ 344 39 ∧ F317_ 344 39 ≤ 40 := gi_g g318_ rfl
        have b329_ : 0 ≤ F1 344 39 ∧ F1 344 39 ≤ 40 := gi_g hg_F1 rfl
        exact ih127_ _ (by omega) (0) (a + 1) F317_ rfl g318_ (fs_tr hf_F1 s319_ rfl) (⟨by omega, by omega⟩) (⟨by omega, by omega⟩) (c316_) (fun _ => hf4 (by omega)) (by omega) (fun _ => Or.inr (by have h9_ := c315_; rw [← stP_s] at h9_; have h8_ := stP_le (tl := tl) (D := D) (show a.toNat + 1 ≤ D.length by omega); omega)) (fun h9_ => absurd h9_ (by omega))
      subst hA_
      subst hz_
      have g330_ : fs [(344, 344, 0, 1), (344, 344, 4, 5), (344, 344, 8, 10), (344, 344, 12, 13), (344, 344, 33, 33), (344, 344, 36, 36), (344, 344, 38, 39), (344, 344, 46, 48), (344, 344, 60, 60), (344, 344, 64, 64), (347, 348, 0, 100000), (358, 358, 5, 5), (360, 362, 40, 43), (363, 363, 80, 87), (364, 372, 0, 100000), (384, 384, 0, 100000)] F F323_ := fs_tr g130_ s325_ rfl
      have rk331_ : rk K F323_ := rk_fs rk131_ s325_ (fs_rg rfl) rfl
      refine ga_istore_n (lv2 := [(1, .int (Int32.ofInt 1)), (2, .int (Int32.ofInt a)), (0, .ref 344)]) hm_64 rfl (Nat.le_of_ble_eq_true rfl) rfl ?_
      refine ga_inc (a := a) (c := a + 1) (lv2 := [(2, .int (Int32.ofInt (a + 1))), (1, .int (Int32.ofInt 1)), (0, .ref 344)]) hm_64 rfl rfl (Nat.le_of_ble_eq_true rfl) rfl rfl ?_
      refine fl_goto hm_64 rfl ?_
      have b332_ : 0 ≤ F323_ 344 39 ∧ F323_ 344 39 ≤ 40 := gi_g g324_ rfl
      have b333_ : 0 ≤ F1 344 39 ∧ F1 344 39 ≤ 40 := gi_g hg_F1 rfl
      exact ih127_ _ (by omega) (1) (a + 1) F323_ rfl g324_ (fs_tr hf_F1 s325_ rfl) (⟨by omega, by omega⟩) (⟨by omega, by omega⟩) (c320_) (fun _ => hf4 (by omega)) (by omega) (fun h9_ => absurd h9_ (by omega)) (fun _ => by rw [show (a + 1).toNat = a.toNat + 1 by omega, stP_s]; exact ⟨c321_, c322_⟩)
    have e334_ : F120_ 344 39 = 0 := by rw [q121_]; exact fl_u_eq
    exact L126_ _ (0) (0) F120_ rfl g122_ fs_refl (⟨by omega, by omega⟩) (⟨by omega, by omega⟩) (sob_0 (e334_)) (by omega) (by omega) (fun _ => Or.inl (by omega)) (fun h9_ => absurd h9_ (by omega))
  refine fl_iconst hm_64 rfl ?_
  refine fl_goto hm_64 rfl ?_
  refine ga_istore_n (lv2 := [(1, .int (Int32.ofInt 1)), (0, .ref 344)]) hm_64 rfl (Nat.le_of_ble_eq_true rfl) rfl ?_
  refine fl_iconst hm_64 rfl ?_
  refine ga_istore_n (lv2 := [(2, .int (Int32.ofInt 0)), (1, .int (Int32.ofInt 1)), (0, .ref 344)]) hm_64 rfl (Nat.le_of_ble_eq_true rfl) rfl ?_
  obtain ⟨F335_, q336_⟩ : ∃ Fq_, Fq_ = (fl_u (fl_u (fl_u (fl_u (fl_u F57_ 344 8 0) 344 1 0) 344 0 0) 344 38 (F57_ 344 64)) 344 39 0) := ⟨_, rfl⟩
  rw [← q336_]
  have g337_ : gi F335_ := by rw [q336_]; exact gi_u (gi_u (gi_u (gi_u (gi_u (g58_) rfl (by omega) (by omega)) rfl (by omega) (by omega)) rfl (by omega) (by omega)) rfl (by omega) (by omega)) rfl (by omega) (by omega)
  have g338_ : fs [(344, 344, 0, 1), (344, 344, 4, 5), (344, 344, 8, 10), (344, 344, 12, 13), (344, 344, 33, 33), (344, 344, 36, 36), (344, 344, 38, 39), (344, 344, 46, 48), (344, 344, 60, 60), (344, 344, 64, 64), (347, 348, 0, 100000), (358, 358, 5, 5), (360, 362, 40, 43), (363, 363, 80, 87), (364, 372, 0, 100000), (384, 384, 0, 100000)] F F335_ := by rw [q336_]; exact fs_u (fs_u (fs_u (fs_u (fs_u (g105_) rfl) rfl) rfl) rfl) rfl
  have rk339_ : rk K F335_ := by rw [q336_]; exact rk_u (rk_u (rk_u (rk_u (rk_u (rk106_) (by first | decide | exact nc_ rfl | omega) (by first | decide | exact nc_ rfl | omega)) (by first | decide | exact nc_ rfl | omega) (by first | decide | exact nc_ rfl | omega)) (by first | decide | exact nc_ rfl | omega) (by first | decide | exact nc_ rfl | omega)) (by first | decide | exact nc_ rfl | omega) (by first | decide | exact nc_ rfl | omega)) (by first | decide | exact nc_ rfl | omega) (by first | decide | exact nc_ rfl | omega)
  have e343_ : F335_ 344 36 = F57_ 344 36 := by rw [q336_]; exact (fl_u_ne (by first | exact nc_ rfl | decide | omega)).trans ((fl_u_ne (by first | exact nc_ rfl | decide | omega)).trans ((fl_u_ne (by first | exact nc_ rfl | decide | omega)).trans ((fl_u_ne (by first | exact nc_ rfl | decide | omega)).trans (fl_u_ne (by first | exact nc_ rfl | decide | omega)))))
  have L341_ : ∀ (n340_ : Nat) (ft : Int) (a : Int) (F1 : fl_N), (5 - a : Int).toNat = n340_ → (gi F1) → (fs [(344, 344, 39, 39), (367, 372, 0, 100000), (384, 384, 0, 100000)] F335_ F1) → (0 ≤ a ∧ a ≤ 5) → (0 ≤ ft ∧ ft ≤ 1) → (sob F1) → (ft = 1 → F335_ 344 36 ≤ 40) → (a ≤ (D.length : Int)) → (ft = 0 → 40 < nfc ps tl 216 ∨ 40 < (stP tl D D.length).length) → (ft = 1 → F1 344 39 = ((stP tl D a.toNat).length : Int) ∧ rsts F1 D (stP tl D a.toNat)) → fl_R xi_ms 64 fr lo 101 [(2, .int (Int32.ofInt a)), (1, .int (Int32.ofInt ft)), (0, .ref 344)] [] (fl_H sh_T G F1 ++ X) (pq_64 G F X K nm ts pl ps D) := by
    intro n340_
    induction n340_ using Nat.strongRecOn with
    | ind n340_ ih342_ =>
    intro ft a F1 hn344_ hg_F1 hf_F1 ha hft hs1 hf4 hal ho hst
    have g345_ : fs [(344, 344, 0, 1), (344, 344, 4, 5), (344, 344, 8, 10), (344, 344, 12, 13), (344, 344, 33, 33), (344, 344, 36, 36), (344, 344, 38, 39), (344, 344, 46, 48), (344, 344, 60, 60), (344, 344, 64, 64), (347, 348, 0, 100000), (358, 358, 5, 5), (360, 362, 40, 43), (363, 363, 80, 87), (364, 372, 0, 100000), (384, 384, 0, 100000)] F F1 := fs_tr g338_ hf_F1 rfl
    have rk346_ : rk K F1 := rk_fs rk339_ hf_F1 (fs_rg rfl) rfl
    refine ga_iload_n (z := a) hm_64 rfl rfl ?_
    refine ga_aload_n (v := .ref 344) hm_64 rfl rfl rfl ?_
    have e347_ : F27_ 344 21 = F 344 21 := by rw [q28_]; exact (fl_u_ne (by first | exact nc_ rfl | decide | omega)).trans ((fl_u_ne (by first | exact nc_ rfl | decide | omega)).trans ((fl_u_ne (by first | exact nc_ rfl | decide | omega)).trans ((fl_u_ne (by first | exact nc_ rfl | decide | omega)).trans ((fl_u_ne (by first | exact nc_ rfl | decide | omega)).trans ((fl_u_ne (by first | exact nc_ rfl | decide | omega)).trans (fl_u_ne (by first | exact nc_ rfl | decide | omega)))))))
    have e348_ : F36_ 344 21 = F 344 21 := (s38_ 344 21 rfl).trans (e347_)
    have e349_ : F57_ 344 21 = F 344 21 := (s59_ 344 21 rfl).trans (e348_)
    have e350_ : F335_ 344 21 = F 344 21 := by rw [q336_]; exact (fl_u_ne (by first | exact nc_ rfl | decide | omega)).trans ((fl_u_ne (by first | exact nc_ rfl | decide | omega)).trans ((fl_u_ne (by first | exact nc_ rfl | decide | omega)).trans ((fl_u_ne (by first | exact nc_ rfl | decide | omega)).trans ((fl_u_ne (by first | exact nc_ rfl | decide | omega)).trans (e349_)))))
    have e351_ : F1 344 21 = F 344 21 := (hf_F1 344 21 rfl).trans (e350_)
    have b352_ : 0 ≤ F 344 21 ∧ F 344 21 ≤ 5 := gi_g hgi rfl
    refine ga_geti (z := F 344 21) hm_64 rfl sc_344 rfl (e351_) ?_
    refine fl_icmp_ge (a := a) (b := F 344 21) hm_64 rfl ⟨by omega, by omega⟩ ⟨by omega, by omega⟩ (fun h353_ => ?_) (fun h354_ => ?_)
    ·
      refine ga_iload_n (z := ft) hm_64 rfl rfl ?_
      refine fx_if_ne (a := ft) hm_64 rfl ⟨by omega, by omega⟩ (fun h355_ => ?_) (fun h356_ => ?_)
      ·
        refine ga_aload_n (v := .ref 344) hm_64 rfl rfl rfl ?_
        refine ga_aload_n (v := .ref 344) hm_64 rfl rfl rfl ?_
        refine fl_iconst hm_64 rfl ?_
        refine fl_bipush hm_64 rfl rfl ?_
        refine ga_aload_n (v := .ref 344) hm_64 rfl rfl rfl ?_
        refine ga_getr (b := 358) hm_64 rfl sc_344 rfl ?_
        refine fl_iconst hm_64 rfl ?_
        have e357_ : F335_ 358 5 = F57_ 358 5 := by rw [q336_]; exact (fl_u_ne (by first | exact nc_ rfl | decide | omega)).trans ((fl_u_ne (by first | exact nc_ rfl | decide | omega)).trans ((fl_u_ne (by first | exact nc_ rfl | decide | omega)).trans ((fl_u_ne (by first | exact nc_ rfl | decide | omega)).trans (fl_u_ne (by first | exact nc_ rfl | decide | omega)))))
        have e358_ : F1 358 5 = F57_ 358 5 := (hf_F1 358 5 rfl).trans (e357_)
        have b359_ : 0 ≤ F57_ 358 5 ∧ F57_ 358 5 ≤ 4 := gi_g g58_ rfl
        refine ga_iald (z := 5) (w := F57_ 358 5) hm_64 rfl sc_358 (by omega) (by omega) (by omega) (e358_) ?_
        refine fl_iconst hm_64 rfl ?_
        refine gVl (nY := 9) (F := 2) (L := 47) (As := [.int (Int32.ofInt 5), .int (Int32.ofInt 40), .int (Int32.ofInt (F57_ 358 5)), .int (Int32.ofInt 0)]) (b := 344) (rest := [.ref 344]) hm_64 rfl hm_156 rfl rfl (fl_ob sc_344) rfl rfl rfl rfl rfl (by omega) (by omega) (mc_156 hG F1 X hg_F1 (5) (40) (F57_ 358 5) (0) ((prb_g K nm ts pl ps)) (ps) (⟨by omega, by omega⟩) (by omega) (⟨by omega, by omega⟩) (⟨by omega, by omega⟩) (rcl_lfr co5_ (show lfr 0 0 0 F57_ F1 from (lfr_fg (by rw [q336_]; exact (lfr_uo (lfr_uo (lfr_uo (lfr_uo (lfr_uo lfr_r rfl) rfl) rfl) rfl) rfl)) hf_F1 rfl)) (Or.inr (Nat.zero_le _))) (by omega) (fun x hx => ((prb_ok hps.2.symm co1_).2.2 x hx).1) ((rprd_fs (by rw [q336_]; exact (rprd_u (rprd_u (rprd_u (rprd_u (rprd_u (rprd_fs (rprd_fs (by rw [q28_]; exact (rprd_u (rprd_u (rprd_u (rprd_u (rprd_u (rprd_u (rprd_u hps.1 (by first | decide | exact nc_ rfl | omega)) (by first | decide | exact nc_ rfl | omega)) (by first | decide | exact nc_ rfl | omega)) (by first | decide | exact nc_ rfl | omega)) (by first | decide | exact nc_ rfl | omega)) (by first | decide | exact nc_ rfl | omega)) (by first | decide | exact nc_ rfl | omega))) s38_ (by first | exact fs_rg rfl | exact fun r j hj => (fs_n (by omega) (fs_n (by omega) rfl)))) s59_ (by first | exact fs_rg rfl | exact fun r j hj => (fs_n (by omega) (fs_n (by omega) (fs_n (by omega) (fs_n (by omega) (fs_n (by omega) (fs_n (by omega) (fs_n (by omega) (fs_n (by omega) (fs_n (by omega) rfl))))))))))) (by first | decide | exact nc_ rfl | omega)) (by first | decide | exact nc_ rfl | omega)) (by first | decide | exact nc_ rfl | omega)) (by first | decide | exact nc_ rfl | omega)) (by first | decide | exact nc_ rfl | omega))) hf_F1 (by first | exact fs_rg rfl | exact fun r j hj => (fs_n (by omega) (fs_n (by omega) (fs_n (by omega) rfl))))))) (fun _ _ h => False.elim h) ?_
        rintro z360_ A1_ ⟨hA_, c361_, c362_⟩
        subst hA_
        refine ga_putl hm_64 rfl sc_344 rfl rfl ?_
        refine ga_aload_n (v := .ref 344) hm_64 rfl rfl rfl ?_
        refine ga_aload_n (v := .ref 344) hm_64 rfl rfl rfl ?_
        refine fl_iconst hm_64 rfl ?_
        refine fl_bipush hm_64 rfl rfl ?_
        refine ga_aload_n (v := .ref 344) hm_64 rfl rfl rfl ?_
        refine ga_getr (b := 358) hm_64 rfl sc_344 rfl ?_
        refine fl_iconst hm_64 rfl ?_
        refine ga_iald (z := 5) (w := F57_ 358 5) hm_64 rfl sc_358 (by omega) (by omega) (by omega) ((fl_u_ne (by first | exact nc_ rfl | decide | omega)).trans (e358_)) ?_
        refine fl_iconst hm_64 rfl ?_
        obtain ⟨F363_, q364_⟩ : ∃ Fq_, Fq_ = (fl_u F1 344 46 z360_) := ⟨_, rfl⟩
        rw [← q364_]
        have g365_ : gi F363_ := by rw [q364_]; exact gi_u (hg_F1) rfl (by omega) (by omega)
        have g366_ : fs [(344, 344, 0, 1), (344, 344, 4, 5), (344, 344, 8, 10), (344, 344, 12, 13), (344, 344, 33, 33), (344, 344, 36, 36), (344, 344, 38, 39), (344, 344, 46, 48), (344, 344, 60, 60), (344, 344, 64, 64), (347, 348, 0, 100000), (358, 358, 5, 5), (360, 362, 40, 43), (363, 363, 80, 87), (364, 372, 0, 100000), (384, 384, 0, 100000)] F F363_ := by rw [q364_]; exact fs_u (g345_) rfl
        have rk367_ : rk K F363_ := by rw [q364_]; exact rk_u (rk346_) (by first | decide | exact nc_ rfl | omega) (by first | decide | exact nc_ rfl | omega)
        have e368_ : F363_ 358 5 = F57_ 358 5 := by rw [q364_]; exact (fl_u_ne (by first | exact nc_ rfl | decide | omega)).trans (e358_)
        refine gVl (nY := 9) (F := 2) (L := 47) (As := [.int (Int32.ofInt 5), .int (Int32.ofInt 40), .int (Int32.ofInt (F57_ 358 5)), .int (Int32.ofInt 1)]) (b := 344) (rest := [.ref 344]) hm_64 rfl hm_156 rfl rfl (fl_ob sc_344) rfl rfl rfl rfl rfl (by omega) (by omega) (mc_156 hG F363_ X g365_ (5) (40) (F57_ 358 5) (1) ((prb_g K nm ts pl ps)) (ps) (⟨by omega, by omega⟩) (by omega) (⟨by omega, by omega⟩) (⟨by omega, by omega⟩) (rcl_lfr co5_ (show lfr 0 0 0 F57_ F363_ from (by rw [q364_]; exact (lfr_uo (lfr_fg (by rw [q336_]; exact (lfr_uo (lfr_uo (lfr_uo (lfr_uo (lfr_uo lfr_r rfl) rfl) rfl) rfl) rfl)) hf_F1 rfl) rfl))) (Or.inr (Nat.zero_le _))) (by omega) (fun x hx => ((prb_ok hps.2.symm co1_).2.2 x hx).1) ((by rw [q364_]; exact (rprd_u (rprd_fs (by rw [q336_]; exact (rprd_u (rprd_u (rprd_u (rprd_u (rprd_u (rprd_fs (rprd_fs (by rw [q28_]; exact (rprd_u (rprd_u (rprd_u (rprd_u (rprd_u (rprd_u (rprd_u hps.1 (by first | decide | exact nc_ rfl | omega)) (by first | decide | exact nc_ rfl | omega)) (by first | decide | exact nc_ rfl | omega)) (by first | decide | exact nc_ rfl | omega)) (by first | decide | exact nc_ rfl | omega)) (by first | decide | exact nc_ rfl | omega)) (by first | decide | exact nc_ rfl | omega))) s38_ (by first | exact fs_rg rfl | exact fun r j hj => (fs_n (by omega) (fs_n (by omega) rfl)))) s59_ (by first | exact fs_rg rfl | exact fun r j hj => (fs_n (by omega) (fs_n (by omega) (fs_n (by omega) (fs_n (by omega) (fs_n (by omega) (fs_n (by omega) (fs_n (by omega) (fs_n (by omega) (fs_n (by omega) rfl))))))))))) (by first | decide | exact nc_ rfl | omega)) (by first | decide | exact nc_ rfl | omega)) (by first | decide | exact nc_ rfl | omega)) (by first | decide | exact nc_ rfl | omega)) (by first | decide | exact nc_ rfl | omega))) hf_F1 (by first | exact fs_rg rfl | exact fun r j hj => (fs_n (by omega) (fs_n (by omega) (fs_n (by omega) rfl))))) (by first | decide | exact nc_ rfl | omega))))) (fun _ _ h => False.elim h) ?_
        rintro z369_ A1_ ⟨hA_, c370_, c371_⟩
        subst hA_
        refine ga_putl hm_64 rfl sc_344 rfl rfl ?_
        refine ga_aload_n (v := .ref 344) hm_64 rfl rfl rfl ?_
        refine ga_aload_n (v := .ref 344) hm_64 rfl rfl rfl ?_
        refine fl_iconst hm_64 rfl ?_
        refine fl_bipush hm_64 rfl rfl ?_
        obtain ⟨F372_, q373_⟩ : ∃ Fq_, Fq_ = (fl_u F363_ 344 47 z369_) := ⟨_, rfl⟩
        rw [← q373_]
        have g374_ : gi F372_ := by rw [q373_]; exact gi_u (g365_) rfl (by omega) (by omega)
        have g375_ : fs [(344, 344, 0, 1), (344, 344, 4, 5), (344, 344, 8, 10), (344, 344, 12, 13), (344, 344, 33, 33), (344, 344, 36, 36), (344, 344, 38, 39), (344, 344, 46, 48), (344, 344, 60, 60), (344, 344, 64, 64), (347, 348, 0, 100000), (358, 358, 5, 5), (360, 362, 40, 43), (363, 363, 80, 87), (364, 372, 0, 100000), (384, 384, 0, 100000)] F F372_ := by rw [q373_]; exact fs_u (g366_) rfl
        have rk376_ : rk K F372_ := by rw [q373_]; exact rk_u (rk367_) (by first | decide | exact nc_ rfl | omega) (by first | decide | exact nc_ rfl | omega)
        have e377_ : F372_ 358 5 = F57_ 358 5 := by rw [q373_]; exact (fl_u_ne (by first | exact nc_ rfl | decide | omega)).trans (e368_)
        refine gVi (nY := 6) (F := 1) (L := 23) (As := [.int (Int32.ofInt 5), .int (Int32.ofInt 40)]) (b := 344) (rest := [.ref 344]) hm_64 rfl hm_159 rfl rfl (fl_ob sc_344) rfl rfl rfl rfl rfl (by omega) (by omega) (mc_159 hG F372_ X g374_ (5) (40) ((prb_g K nm ts pl ps)) (⟨by omega, by omega⟩) (by omega) (rcl_lfr co5_ (show lfr 0 0 0 F57_ F372_ from (by rw [q373_]; exact (lfr_uo (by rw [q364_]; exact (lfr_uo (lfr_fg (by rw [q336_]; exact (lfr_uo (lfr_uo (lfr_uo (lfr_uo (lfr_uo lfr_r rfl) rfl) rfl) rfl) rfl)) hf_F1 rfl) rfl)) rfl))) (Or.inr (Nat.zero_le _))) (by omega) (fun x hx h9_ => ((prb_ok hps.2.symm co1_).2.2 x hx).2.2.2 h9_)) (fun _ _ h => False.elim h) ?_
        rintro z378_ A1_ ⟨hA_, c379_, c380_⟩
        subst hA_
        refine ga_putz (z := z378_) hm_64 rfl sc_344 rfl rfl (by omega) ?_
        refine ga_aload_n (v := .ref 344) hm_64 rfl rfl rfl ?_
        refine fl_iconst hm_64 rfl ?_
        refine ga_putz (z := 1) hm_64 rfl sc_344 rfl rfl (by omega) ?_
        refine ga_aload_n (v := .ref 344) hm_64 rfl rfl rfl ?_
        have e381_ : F363_ 344 39 = F1 344 39 := by rw [q364_]; exact fl_u_ne (by first | exact nc_ rfl | decide | omega)
        have e382_ : F372_ 344 39 = F1 344 39 := by rw [q373_]; exact (fl_u_ne (by first | exact nc_ rfl | decide | omega)).trans (e381_)
        have b383_ : 0 ≤ F1 344 39 ∧ F1 344 39 ≤ 40 := gi_g hg_F1 rfl
        refine ga_geti (z := F1 344 39) hm_64 rfl sc_344 rfl ((fl_u_ne (by first | exact nc_ rfl | decide | omega)).trans ((fl_u_ne (by first | exact nc_ rfl | decide | omega)).trans (e382_))) ?_
        obtain ⟨F384_, q385_⟩ : ∃ Fq_, Fq_ = (fl_u (fl_u F372_ 344 48 z378_) 344 12 1) := ⟨_, rfl⟩
        rw [← q385_]
        have g386_ : gi F384_ := by rw [q385_]; exact gi_u (gi_u (g374_) rfl (by omega) (by omega)) rfl (by omega) (by omega)
        have g387_ : fs [(344, 344, 0, 1), (344, 344, 4, 5), (344, 344, 8, 10), (344, 344, 12, 13), (344, 344, 33, 33), (344, 344, 36, 36), (344, 344, 38, 39), (344, 344, 46, 48), (344, 344, 60, 60), (344, 344, 64, 64), (347, 348, 0, 100000), (358, 358, 5, 5), (360, 362, 40, 43), (363, 363, 80, 87), (364, 372, 0, 100000), (384, 384, 0, 100000)] F F384_ := by rw [q385_]; exact fs_u (fs_u (g375_) rfl) rfl
        have rk388_ : rk K F384_ := by rw [q385_]; exact rk_u (rk_u (rk376_) (by first | decide | exact nc_ rfl | omega) (by first | decide | exact nc_ rfl | omega)) (by first | decide | exact nc_ rfl | omega) (by first | decide | exact nc_ rfl | omega)
        refine gr_i (z := F1 344 39) hm_64 rfl rfl rfl ?_
        have e389_ : F335_ 344 1 = 0 := by rw [q336_]; exact (fl_u_ne (by first | exact nc_ rfl | decide | omega)).trans ((fl_u_ne (by first | exact nc_ rfl | decide | omega)).trans ((fl_u_ne (by first | exact nc_ rfl | decide | omega)).trans (fl_u_eq)))
        have e390_ : F1 344 1 = 0 := (hf_F1 344 1 rfl).trans (e389_)
        have e391_ : F363_ 344 1 = 0 := by rw [q364_]; exact (fl_u_ne (by first | exact nc_ rfl | decide | omega)).trans (e390_)
        have e392_ : F372_ 344 1 = 0 := by rw [q373_]; exact (fl_u_ne (by first | exact nc_ rfl | decide | omega)).trans (e391_)
        have e393_ : F384_ 344 1 = 0 := by rw [q385_]; exact (fl_u_ne (by first | exact nc_ rfl | decide | omega)).trans ((fl_u_ne (by first | exact nc_ rfl | decide | omega)).trans (e392_))
        have e394_ : F27_ 344 13 = 0 := by rw [q28_]; exact (fl_u_ne (by first | exact nc_ rfl | decide | omega)).trans ((fl_u_ne (by first | exact nc_ rfl | decide | omega)).trans (fl_u_eq))
        have e395_ : F36_ 344 13 = 0 := (s38_ 344 13 rfl).trans (e394_)
        have e396_ : F57_ 344 13 = 0 := (s59_ 344 13 rfl).trans (e395_)
        have e397_ : F335_ 344 13 = 0 := by rw [q336_]; exact (fl_u_ne (by first | exact nc_ rfl | decide | omega)).trans ((fl_u_ne (by first | exact nc_ rfl | decide | omega)).trans ((fl_u_ne (by first | exact nc_ rfl | decide | omega)).trans ((fl_u_ne (by first | exact nc_ rfl | decide | omega)).trans ((fl_u_ne (by first | exact nc_ rfl | decide | omega)).trans (e396_)))))
        have e398_ : F1 344 13 = 0 := (hf_F1 344 13 rfl).trans (e397_)
        have e399_ : F363_ 344 13 = 0 := by rw [q364_]; exact (fl_u_ne (by first | exact nc_ rfl | decide | omega)).trans (e398_)
        have e400_ : F372_ 344 13 = 0 := by rw [q373_]; exact (fl_u_ne (by first | exact nc_ rfl | decide | omega)).trans (e399_)
        have e401_ : F384_ 344 13 = 0 := by rw [q385_]; exact (fl_u_ne (by first | exact nc_ rfl | decide | omega)).trans ((fl_u_ne (by first | exact nc_ rfl | decide | omega)).trans (e400_))
        have e402_ : F384_ 344 12 = 1 := by rw [q385_]; exact fl_u_eq
        have e403_ : F1 344 36 = F57_ 344 36 := (hf_F1 344 36 rfl).trans (e343_)
        have e404_ : F363_ 344 36 = F57_ 344 36 := by rw [q364_]; exact (fl_u_ne (by first | exact nc_ rfl | decide | omega)).trans (e403_)
        have e405_ : F372_ 344 36 = F57_ 344 36 := by rw [q373_]; exact (fl_u_ne (by first | exact nc_ rfl | decide | omega)).trans (e404_)
        have e406_ : F384_ 344 36 = F57_ 344 36 := by rw [q385_]; exact (fl_u_ne (by first | exact nc_ rfl | decide | omega)).trans ((fl_u_ne (by first | exact nc_ rfl | decide | omega)).trans (e405_))
        have e407_ : F335_ 344 0 = 0 := by rw [q336_]; exact (fl_u_ne (by first | exact nc_ rfl | decide | omega)).trans ((fl_u_ne (by first | exact nc_ rfl | decide | omega)).trans (fl_u_eq))
        have e408_ : F1 344 0 = 0 := (hf_F1 344 0 rfl).trans (e407_)
        have e409_ : F363_ 344 0 = 0 := by rw [q364_]; exact (fl_u_ne (by first | exact nc_ rfl | decide | omega)).trans (e408_)
        have e410_ : F372_ 344 0 = 0 := by rw [q373_]; exact (fl_u_ne (by first | exact nc_ rfl | decide | omega)).trans (e409_)
        have e411_ : F384_ 344 0 = 0 := by rw [q385_]; exact (fl_u_ne (by first | exact nc_ rfl | decide | omega)).trans ((fl_u_ne (by first | exact nc_ rfl | decide | omega)).trans (e410_))
        have e412_ : F384_ 344 39 = F1 344 39 := by rw [q385_]; exact (fl_u_ne (by first | exact nc_ rfl | decide | omega)).trans ((fl_u_ne (by first | exact nc_ rfl | decide | omega)).trans (e382_))
        have e413_ : F335_ 344 8 = 0 := by rw [q336_]; exact (fl_u_ne (by first | exact nc_ rfl | decide | omega)).trans ((fl_u_ne (by first | exact nc_ rfl | decide | omega)).trans ((fl_u_ne (by first | exact nc_ rfl | decide | omega)).trans ((fl_u_ne (by first | exact nc_ rfl | decide | omega)).trans (fl_u_eq))))
        have e414_ : F1 344 8 = 0 := (hf_F1 344 8 rfl).trans (e413_)
        have e415_ : F363_ 344 8 = 0 := by rw [q364_]; exact (fl_u_ne (by first | exact nc_ rfl | decide | omega)).trans (e414_)
        have e416_ : F372_ 344 8 = 0 := by rw [q373_]; exact (fl_u_ne (by first | exact nc_ rfl | decide | omega)).trans (e415_)
        have e417_ : F384_ 344 8 = 0 := by rw [q385_]; exact (fl_u_ne (by first | exact nc_ rfl | decide | omega)).trans ((fl_u_ne (by first | exact nc_ rfl | decide | omega)).trans (e416_))
        have b418_ : 0 ≤ F 344 8 ∧ F 344 8 ≤ 100000 := gi_g hgi rfl
        have e419_ : F27_ 344 11 = F 344 11 := by rw [q28_]; exact (fl_u_ne (by first | exact nc_ rfl | decide | omega)).trans ((fl_u_ne (by first | exact nc_ rfl | decide | omega)).trans ((fl_u_ne (by first | exact nc_ rfl | decide | omega)).trans ((fl_u_ne (by first | exact nc_ rfl | decide | omega)).trans ((fl_u_ne (by first | exact nc_ rfl | decide | omega)).trans ((fl_u_ne (by first | exact nc_ rfl | decide | omega)).trans (fl_u_ne (by first | exact nc_ rfl | decide | omega)))))))
        have e420_ : F36_ 344 11 = F 344 11 := (s38_ 344 11 rfl).trans (e419_)
        have e421_ : F57_ 344 11 = F 344 11 := (s59_ 344 11 rfl).trans (e420_)
        have e422_ : F335_ 344 11 = F 344 11 := by rw [q336_]; exact (fl_u_ne (by first | exact nc_ rfl | decide | omega)).trans ((fl_u_ne (by first | exact nc_ rfl | decide | omega)).trans ((fl_u_ne (by first | exact nc_ rfl | decide | omega)).trans ((fl_u_ne (by first | exact nc_ rfl | decide | omega)).trans ((fl_u_ne (by first | exact nc_ rfl | decide | omega)).trans (e421_)))))
        have e423_ : F1 344 11 = F 344 11 := (hf_F1 344 11 rfl).trans (e422_)
        have e424_ : F363_ 344 11 = F 344 11 := by rw [q364_]; exact (fl_u_ne (by first | exact nc_ rfl | decide | omega)).trans (e423_)
        have e425_ : F372_ 344 11 = F 344 11 := by rw [q373_]; exact (fl_u_ne (by first | exact nc_ rfl | decide | omega)).trans (e424_)
        have e426_ : F384_ 344 11 = F 344 11 := by rw [q385_]; exact (fl_u_ne (by first | exact nc_ rfl | decide | omega)).trans ((fl_u_ne (by first | exact nc_ rfl | decide | omega)).trans (e425_))
        have e427_ : F27_ 344 60 = 0 := by rw [q28_]; exact fl_u_eq
        have e428_ : F36_ 344 60 = 0 := (s38_ 344 60 rfl).trans (e427_)
        have e429_ : F57_ 344 60 = 0 := (s59_ 344 60 rfl).trans (e428_)
        have e430_ : F335_ 344 60 = 0 := by rw [q336_]; exact (fl_u_ne (by first | exact nc_ rfl | decide | omega)).trans ((fl_u_ne (by first | exact nc_ rfl | decide | omega)).trans ((fl_u_ne (by first | exact nc_ rfl | decide | omega)).trans ((fl_u_ne (by first | exact nc_ rfl | decide | omega)).trans ((fl_u_ne (by first | exact nc_ rfl | decide | omega)).trans (e429_)))))
        have e431_ : F1 344 60 = 0 := (hf_F1 344 60 rfl).trans (e430_)
        have e432_ : F363_ 344 60 = 0 := by rw [q364_]; exact (fl_u_ne (by first | exact nc_ rfl | decide | omega)).trans (e431_)
        have e433_ : F372_ 344 60 = 0 := by rw [q373_]; exact (fl_u_ne (by first | exact nc_ rfl | decide | omega)).trans (e432_)
        have e434_ : F384_ 344 60 = 0 := by rw [q385_]; exact (fl_u_ne (by first | exact nc_ rfl | decide | omega)).trans ((fl_u_ne (by first | exact nc_ rfl | decide | omega)).trans (e433_))
        have b435_ : 0 ≤ F 344 12 ∧ F 344 12 ≤ 1 := gi_g hgi rfl
        exact ⟨F384_, rfl, g386_, g387_, (⟨by omega, by omega⟩), (by omega), (pli_0 (by omega)), (fun _ => ⟨sob_cg hs1 (Eq.trans (a := F384_ 344 39) (b := F372_ 344 39) (by rw [q385_]; exact (fl_u_ne (by first | exact nc_ rfl | decide | omega)).trans ((fl_u_ne (by first | exact nc_ rfl | decide | omega)))) (Eq.trans (a := F372_ 344 39) (b := F363_ 344 39) (by rw [q373_]; exact (fl_u_ne (by first | exact nc_ rfl | decide | omega))) (show F363_ 344 39 = F1 344 39 from (by rw [q364_]; exact (fl_u_ne (by first | exact nc_ rfl | decide | omega)))))) (fun j => (Eq.trans (a := F384_ 357 j) (b := F372_ 357 j) (by rw [q385_]; exact (fl_u_ne (by first | exact nc_ rfl | decide | omega)).trans ((fl_u_ne (by first | exact nc_ rfl | decide | omega)))) (Eq.trans (a := F372_ 357 j) (b := F363_ 357 j) (by rw [q373_]; exact (fl_u_ne (by first | exact nc_ rfl | decide | omega))) (show F363_ 357 j = F1 357 j from (by rw [q364_]; exact (fl_u_ne (by first | exact nc_ rfl | decide | omega))))))) (fun j => (Eq.trans (a := F384_ 367 j) (b := F372_ 367 j) (by rw [q385_]; exact (fl_u_ne (by first | exact nc_ rfl | decide | omega)).trans ((fl_u_ne (by first | exact nc_ rfl | decide | omega)))) (Eq.trans (a := F372_ 367 j) (b := F363_ 367 j) (by rw [q373_]; exact (fl_u_ne (by first | exact nc_ rfl | decide | omega))) (show F363_ 367 j = F1 367 j from (by rw [q364_]; exact (fl_u_ne (by first | exact nc_ rfl | decide | omega))))))) (fun j => (Eq.trans (a := F384_ 354 j) (b := F372_ 354 j) (by rw [q385_]; exact (fl_u_ne (by first | exact nc_ rfl | decide | omega)).trans ((fl_u_ne (by first | exact nc_ rfl | decide | omega)))) (Eq.trans (a := F372_ 354 j) (b := F363_ 354 j) (by rw [q373_]; exact (fl_u_ne (by first | exact nc_ rfl | decide | omega))) (show F363_ 354 j = F1 354 j from (by rw [q364_]; exact (fl_u_ne (by first | exact nc_ rfl | decide | omega))))))) (fun j => (Eq.trans (a := F384_ 368 j) (b := F372_ 368 j) (by rw [q385_]; exact (fl_u_ne (by first | exact nc_ rfl | decide | omega)).trans ((fl_u_ne (by first | exact nc_ rfl | decide | omega)))) (Eq.trans (a := F372_ 368 j) (b := F363_ 368 j) (by rw [q373_]; exact (fl_u_ne (by first | exact nc_ rfl | decide | omega))) (show F363_ 368 j = F1 368 j from (by rw [q364_]; exact (fl_u_ne (by first | exact nc_ rfl | decide | omega))))))), by omega⟩), (Or.inr ⟨by omega, Or.inr ⟨l, tl, co1_, by omega, Or.inr (by have h6_ := hst (by omega); have h5_ : 0 ≤ F1 344 39 ∧ F1 344 39 ≤ 40 := gi_g hg_F1 rfl; have h4_ := hf4 (by omega); rw [show a.toNat = D.length by omega] at h6_; have h7_ := h6_.1; exact ⟨by omega, by omega, by omega, by omega, by omega, rsts_cg h6_.2 (fun j => (Eq.trans (a := F384_ 366 j) (b := F372_ 366 j) (by rw [q385_]; exact (fl_u_ne (by first | exact nc_ rfl | decide | omega)).trans ((fl_u_ne (by first | exact nc_ rfl | decide | omega)))) (Eq.trans (a := F372_ 366 j) (b := F363_ 366 j) (by rw [q373_]; exact (fl_u_ne (by first | exact nc_ rfl | decide | omega))) (show F363_ 366 j = F1 366 j from (by rw [q364_]; exact (fl_u_ne (by first | exact nc_ rfl | decide | omega))))))) (fun j hj => (Eq.trans (a := F384_ 368 j) (b := F372_ 368 j) (by rw [q385_]; exact (fl_u_ne (by first | exact nc_ rfl | decide | omega)).trans ((fl_u_ne (by first | exact nc_ rfl | decide | omega)))) (Eq.trans (a := F372_ 368 j) (b := F363_ 368 j) (by rw [q373_]; exact (fl_u_ne (by first | exact nc_ rfl | decide | omega))) (show F363_ 368 j = F1 368 j from (by rw [q364_]; exact (fl_u_ne (by first | exact nc_ rfl | decide | omega))))))) (fun r j hr hj => (Eq.trans (a := F384_ (r) j) (b := F372_ (r) j) (by rw [q385_]; exact (fl_u_ne (by first | exact nc_ rfl | decide | omega)).trans ((fl_u_ne (by first | exact nc_ rfl | decide | omega)))) (Eq.trans (a := F372_ (r) j) (b := F363_ (r) j) (by rw [q373_]; exact (fl_u_ne (by first | exact nc_ rfl | decide | omega))) (show F363_ (r) j = F1 (r) j from (by rw [q364_]; exact (fl_u_ne (by first | exact nc_ rfl | decide | omega)))))))⟩)⟩⟩), (⟨fun h9_ => ⟨by omega, by omega⟩, fun h9_ => by omega, fun h9_ => by omega⟩)⟩
      refine ga_aload_n (v := .ref 344) hm_64 rfl rfl rfl ?_
      refine fl_iconst hm_64 rfl ?_
      refine ga_puti (z := 3) hm_64 rfl sc_344 rfl rfl ?_
      refine fl_iconst hm_64 rfl ?_
      obtain ⟨F436_, q437_⟩ : ∃ Fq_, Fq_ = (fl_u F1 344 0 3) := ⟨_, rfl⟩
      rw [← q437_]
      have g438_ : gi F436_ := by rw [q437_]; exact gi_u (hg_F1) rfl (by omega) (by omega)
      have g439_ : fs [(344, 344, 0, 1), (344, 344, 4, 5), (344, 344, 8, 10), (344, 344, 12, 13), (344, 344, 33, 33), (344, 344, 36, 36), (344, 344, 38, 39), (344, 344, 46, 48), (344, 344, 60, 60), (344, 344, 64, 64), (347, 348, 0, 100000), (358, 358, 5, 5), (360, 362, 40, 43), (363, 363, 80, 87), (364, 372, 0, 100000), (384, 384, 0, 100000)] F F436_ := by rw [q437_]; exact fs_u (g345_) rfl
      have rk440_ : rk K F436_ := by rw [q437_]; exact rk_u (rk346_) (by first | decide | exact nc_ rfl | omega) (by first | decide | exact nc_ rfl | omega)
      refine gr_i (z := 0) hm_64 rfl rfl rfl ?_
      have e441_ : F335_ 344 1 = 0 := by rw [q336_]; exact (fl_u_ne (by first | exact nc_ rfl | decide | omega)).trans ((fl_u_ne (by first | exact nc_ rfl | decide | omega)).trans ((fl_u_ne (by first | exact nc_ rfl | decide | omega)).trans (fl_u_eq)))
      have e442_ : F1 344 1 = 0 := (hf_F1 344 1 rfl).trans (e441_)
      have e443_ : F436_ 344 1 = 0 := by rw [q437_]; exact (fl_u_ne (by first | exact nc_ rfl | decide | omega)).trans (e442_)
      have e444_ : F27_ 344 13 = 0 := by rw [q28_]; exact (fl_u_ne (by first | exact nc_ rfl | decide | omega)).trans ((fl_u_ne (by first | exact nc_ rfl | decide | omega)).trans (fl_u_eq))
      have e445_ : F36_ 344 13 = 0 := (s38_ 344 13 rfl).trans (e444_)
      have e446_ : F57_ 344 13 = 0 := (s59_ 344 13 rfl).trans (e445_)
      have e447_ : F335_ 344 13 = 0 := by rw [q336_]; exact (fl_u_ne (by first | exact nc_ rfl | decide | omega)).trans ((fl_u_ne (by first | exact nc_ rfl | decide | omega)).trans ((fl_u_ne (by first | exact nc_ rfl | decide | omega)).trans ((fl_u_ne (by first | exact nc_ rfl | decide | omega)).trans ((fl_u_ne (by first | exact nc_ rfl | decide | omega)).trans (e446_)))))
      have e448_ : F1 344 13 = 0 := (hf_F1 344 13 rfl).trans (e447_)
      have e449_ : F436_ 344 13 = 0 := by rw [q437_]; exact (fl_u_ne (by first | exact nc_ rfl | decide | omega)).trans (e448_)
      have e450_ : F27_ 344 12 = 0 := by rw [q28_]; exact (fl_u_ne (by first | exact nc_ rfl | decide | omega)).trans ((fl_u_ne (by first | exact nc_ rfl | decide | omega)).trans ((fl_u_ne (by first | exact nc_ rfl | decide | omega)).trans (fl_u_eq)))
      have e451_ : F36_ 344 12 = 0 := (s38_ 344 12 rfl).trans (e450_)
      have e452_ : F57_ 344 12 = 0 := (s59_ 344 12 rfl).trans (e451_)
      have e453_ : F335_ 344 12 = 0 := by rw [q336_]; exact (fl_u_ne (by first | exact nc_ rfl | decide | omega)).trans ((fl_u_ne (by first | exact nc_ rfl | decide | omega)).trans ((fl_u_ne (by first | exact nc_ rfl | decide | omega)).trans ((fl_u_ne (by first | exact nc_ rfl | decide | omega)).trans ((fl_u_ne (by first | exact nc_ rfl | decide | omega)).trans (e452_)))))
      have e454_ : F1 344 12 = 0 := (hf_F1 344 12 rfl).trans (e453_)
      have e455_ : F436_ 344 12 = 0 := by rw [q437_]; exact (fl_u_ne (by first | exact nc_ rfl | decide | omega)).trans (e454_)
      have e456_ : F1 344 36 = F57_ 344 36 := (hf_F1 344 36 rfl).trans (e343_)
      have e457_ : F436_ 344 36 = F57_ 344 36 := by rw [q437_]; exact (fl_u_ne (by first | exact nc_ rfl | decide | omega)).trans (e456_)
      have e458_ : F436_ 344 0 = 3 := by rw [q437_]; exact fl_u_eq
      have e459_ : F436_ 344 39 = F1 344 39 := by rw [q437_]; exact fl_u_ne (by first | exact nc_ rfl | decide | omega)
      have b460_ : 0 ≤ F1 344 39 ∧ F1 344 39 ≤ 40 := gi_g hg_F1 rfl
      have e461_ : F335_ 344 8 = 0 := by rw [q336_]; exact (fl_u_ne (by first | exact nc_ rfl | decide | omega)).trans ((fl_u_ne (by first | exact nc_ rfl | decide | omega)).trans ((fl_u_ne (by first | exact nc_ rfl | decide | omega)).trans ((fl_u_ne (by first | exact nc_ rfl | decide | omega)).trans (fl_u_eq))))
      have e462_ : F1 344 8 = 0 := (hf_F1 344 8 rfl).trans (e461_)
      have e463_ : F436_ 344 8 = 0 := by rw [q437_]; exact (fl_u_ne (by first | exact nc_ rfl | decide | omega)).trans (e462_)
      have b464_ : 0 ≤ F 344 8 ∧ F 344 8 ≤ 100000 := gi_g hgi rfl
      have e465_ : F27_ 344 11 = F 344 11 := by rw [q28_]; exact (fl_u_ne (by first | exact nc_ rfl | decide | omega)).trans ((fl_u_ne (by first | exact nc_ rfl | decide | omega)).trans ((fl_u_ne (by first | exact nc_ rfl | decide | omega)).trans ((fl_u_ne (by first | exact nc_ rfl | decide | omega)).trans ((fl_u_ne (by first | exact nc_ rfl | decide | omega)).trans ((fl_u_ne (by first | exact nc_ rfl | decide | omega)).trans (fl_u_ne (by first | exact nc_ rfl | decide | omega)))))))
      have e466_ : F36_ 344 11 = F 344 11 := (s38_ 344 11 rfl).trans (e465_)
      have e467_ : F57_ 344 11 = F 344 11 := (s59_ 344 11 rfl).trans (e466_)
      have e468_ : F335_ 344 11 = F 344 11 := by rw [q336_]; exact (fl_u_ne (by first | exact nc_ rfl | decide | omega)).trans ((fl_u_ne (by first | exact nc_ rfl | decide | omega)).trans ((fl_u_ne (by first | exact nc_ rfl | decide | omega)).trans ((fl_u_ne (by first | exact nc_ rfl | decide | omega)).trans ((fl_u_ne (by first | exact nc_ rfl | decide | omega)).trans (e467_)))))
      have e469_ : F1 344 11 = F 344 11 := (hf_F1 344 11 rfl).trans (e468_)
      have e470_ : F436_ 344 11 = F 344 11 := by rw [q437_]; exact (fl_u_ne (by first | exact nc_ rfl | decide | omega)).trans (e469_)
      have e471_ : F27_ 344 60 = 0 := by rw [q28_]; exact fl_u_eq
      have e472_ : F36_ 344 60 = 0 := (s38_ 344 60 rfl).trans (e471_)
      have e473_ : F57_ 344 60 = 0 := (s59_ 344 60 rfl).trans (e472_)
      have e474_ : F335_ 344 60 = 0 := by rw [q336_]; exact (fl_u_ne (by first | exact nc_ rfl | decide | omega)).trans ((fl_u_ne (by first | exact nc_ rfl | decide | omega)).trans ((fl_u_ne (by first | exact nc_ rfl | decide | omega)).trans ((fl_u_ne (by first | exact nc_ rfl | decide | omega)).trans ((fl_u_ne (by first | exact nc_ rfl | decide | omega)).trans (e473_)))))
      have e475_ : F1 344 60 = 0 := (hf_F1 344 60 rfl).trans (e474_)
      have e476_ : F436_ 344 60 = 0 := by rw [q437_]; exact (fl_u_ne (by first | exact nc_ rfl | decide | omega)).trans (e475_)
      have b477_ : 0 ≤ F 344 12 ∧ F 344 12 ≤ 1 := gi_g hgi rfl
      exact ⟨F436_, rfl, g438_, g439_, (⟨by omega, by omega⟩), (by omega), (pli_0 (by omega)), (fun h9_ => absurd h9_ (by omega)), (Or.inr ⟨by omega, Or.inr ⟨l, tl, co1_, by omega, Or.inl ⟨by omega, ho (by omega)⟩⟩⟩), (⟨fun h9_ => ⟨by omega, by omega⟩, fun h9_ => by omega, fun h9_ => by omega⟩)⟩
    refine ga_iload_n (z := ft) hm_64 rfl rfl ?_
    refine fl_if_eq (a := ft) hm_64 rfl ⟨by omega, by omega⟩ (fun h478_ => ?_) (fun h479_ => ?_)
    ·
      refine ga_iload_n (z := ft) hm_64 rfl rfl ?_
      refine fx_if_ne (a := ft) hm_64 rfl ⟨by omega, by omega⟩ (fun h480_ => ?_) (fun h481_ => ?_)
      · exfalso; omega
      refine ga_aload_n (v := .ref 344) hm_64 rfl rfl rfl ?_
      refine fl_iconst hm_64 rfl ?_
      refine ga_puti (z := 3) hm_64 rfl sc_344 rfl rfl ?_
      refine fl_iconst hm_64 rfl ?_
      obtain ⟨F482_, q483_⟩ : ∃ Fq_, Fq_ = (fl_u F1 344 0 3) := ⟨_, rfl⟩
      rw [← q483_]
      have g484_ : gi F482_ := by rw [q483_]; exact gi_u (hg_F1) rfl (by omega) (by omega)
      have g485_ : fs [(344, 344, 0, 1), (344, 344, 4, 5), (344, 344, 8, 10), (344, 344, 12, 13), (344, 344, 33, 33), (344, 344, 36, 36), (344, 344, 38, 39), (344, 344, 46, 48), (344, 344, 60, 60), (344, 344, 64, 64), (347, 348, 0, 100000), (358, 358, 5, 5), (360, 362, 40, 43), (363, 363, 80, 87), (364, 372, 0, 100000), (384, 384, 0, 100000)] F F482_ := by rw [q483_]; exact fs_u (g345_) rfl
      have rk486_ : rk K F482_ := by rw [q483_]; exact rk_u (rk346_) (by first | decide | exact nc_ rfl | omega) (by first | decide | exact nc_ rfl | omega)
      refine gr_i (z := 0) hm_64 rfl rfl rfl ?_
      have e487_ : F335_ 344 1 = 0 := by rw [q336_]; exact (fl_u_ne (by first | exact nc_ rfl | decide | omega)).trans ((fl_u_ne (by first | exact nc_ rfl | decide | omega)).trans ((fl_u_ne (by first | exact nc_ rfl | decide | omega)).trans (fl_u_eq)))
      have e488_ : F1 344 1 = 0 := (hf_F1 344 1 rfl).trans (e487_)
      have e489_ : F482_ 344 1 = 0 := by rw [q483_]; exact (fl_u_ne (by first | exact nc_ rfl | decide | omega)).trans (e488_)
      have e490_ : F27_ 344 13 = 0 := by rw [q28_]; exact (fl_u_ne (by first | exact nc_ rfl | decide | omega)).trans ((fl_u_ne (by first | exact nc_ rfl | decide | omega)).trans (fl_u_eq))
      have e491_ : F36_ 344 13 = 0 := (s38_ 344 13 rfl).trans (e490_)
      have e492_ : F57_ 344 13 = 0 := (s59_ 344 13 rfl).trans (e491_)
      have e493_ : F335_ 344 13 = 0 := by rw [q336_]; exact (fl_u_ne (by first | exact nc_ rfl | decide | omega)).trans ((fl_u_ne (by first | exact nc_ rfl | decide | omega)).trans ((fl_u_ne (by first | exact nc_ rfl | decide | omega)).trans ((fl_u_ne (by first | exact nc_ rfl | decide | omega)).trans ((fl_u_ne (by first | exact nc_ rfl | decide | omega)).trans (e492_)))))
      have e494_ : F1 344 13 = 0 := (hf_F1 344 13 rfl).trans (e493_)
      have e495_ : F482_ 344 13 = 0 := by rw [q483_]; exact (fl_u_ne (by first | exact nc_ rfl | decide | omega)).trans (e494_)
      have e496_ : F27_ 344 12 = 0 := by rw [q28_]; exact (fl_u_ne (by first | exact nc_ rfl | decide | omega)).trans ((fl_u_ne (by first | exact nc_ rfl | decide | omega)).trans ((fl_u_ne (by first | exact nc_ rfl | decide | omega)).trans (fl_u_eq)))
      have e497_ : F36_ 344 12 = 0 := (s38_ 344 12 rfl).trans (e496_)
      have e498_ : F57_ 344 12 = 0 := (s59_ 344 12 rfl).trans (e497_)
      have e499_ : F335_ 344 12 = 0 := by rw [q336_]; exact (fl_u_ne (by first | exact nc_ rfl | decide | omega)).trans ((fl_u_ne (by first | exact nc_ rfl | decide | omega)).trans ((fl_u_ne (by first | exact nc_ rfl | decide | omega)).trans ((fl_u_ne (by first | exact nc_ rfl | decide | omega)).trans ((fl_u_ne (by first | exact nc_ rfl | decide | omega)).trans (e498_)))))
      have e500_ : F1 344 12 = 0 := (hf_F1 344 12 rfl).trans (e499_)
      have e501_ : F482_ 344 12 = 0 := by rw [q483_]; exact (fl_u_ne (by first | exact nc_ rfl | decide | omega)).trans (e500_)
      have e502_ : F1 344 36 = F57_ 344 36 := (hf_F1 344 36 rfl).trans (e343_)
      have e503_ : F482_ 344 36 = F57_ 344 36 := by rw [q483_]; exact (fl_u_ne (by first | exact nc_ rfl | decide | omega)).trans (e502_)
      have e504_ : F482_ 344 0 = 3 := by rw [q483_]; exact fl_u_eq
      have e505_ : F482_ 344 39 = F1 344 39 := by rw [q483_]; exact fl_u_ne (by first | exact nc_ rfl | decide | omega)
      have b506_ : 0 ≤ F1 344 39 ∧ F1 344 39 ≤ 40 := gi_g hg_F1 rfl
      have e507_ : F335_ 344 8 = 0 := by rw [q336_]; exact (fl_u_ne (by first | exact nc_ rfl | decide | omega)).trans ((fl_u_ne (by first | exact nc_ rfl | decide | omega)).trans ((fl_u_ne (by first | exact nc_ rfl | decide | omega)).trans ((fl_u_ne (by first | exact nc_ rfl | decide | omega)).trans (fl_u_eq))))
      have e508_ : F1 344 8 = 0 := (hf_F1 344 8 rfl).trans (e507_)
      have e509_ : F482_ 344 8 = 0 := by rw [q483_]; exact (fl_u_ne (by first | exact nc_ rfl | decide | omega)).trans (e508_)
      have b510_ : 0 ≤ F 344 8 ∧ F 344 8 ≤ 100000 := gi_g hgi rfl
      have e511_ : F27_ 344 11 = F 344 11 := by rw [q28_]; exact (fl_u_ne (by first | exact nc_ rfl | decide | omega)).trans ((fl_u_ne (by first | exact nc_ rfl | decide | omega)).trans ((fl_u_ne (by first | exact nc_ rfl | decide | omega)).trans ((fl_u_ne (by first | exact nc_ rfl | decide | omega)).trans ((fl_u_ne (by first | exact nc_ rfl | decide | omega)).trans ((fl_u_ne (by first | exact nc_ rfl | decide | omega)).trans (fl_u_ne (by first | exact nc_ rfl | decide | omega)))))))
      have e512_ : F36_ 344 11 = F 344 11 := (s38_ 344 11 rfl).trans (e511_)
      have e513_ : F57_ 344 11 = F 344 11 := (s59_ 344 11 rfl).trans (e512_)
      have e514_ : F335_ 344 11 = F 344 11 := by rw [q336_]; exact (fl_u_ne (by first | exact nc_ rfl | decide | omega)).trans ((fl_u_ne (by first | exact nc_ rfl | decide | omega)).trans ((fl_u_ne (by first | exact nc_ rfl | decide | omega)).trans ((fl_u_ne (by first | exact nc_ rfl | decide | omega)).trans ((fl_u_ne (by first | exact nc_ rfl | decide | omega)).trans (e513_)))))
      have e515_ : F1 344 11 = F 344 11 := (hf_F1 344 11 rfl).trans (e514_)
      have e516_ : F482_ 344 11 = F 344 11 := by rw [q483_]; exact (fl_u_ne (by first | exact nc_ rfl | decide | omega)).trans (e515_)
      have e517_ : F27_ 344 60 = 0 := by rw [q28_]; exact fl_u_eq
      have e518_ : F36_ 344 60 = 0 := (s38_ 344 60 rfl).trans (e517_)
      have e519_ : F57_ 344 60 = 0 := (s59_ 344 60 rfl).trans (e518_)
      have e520_ : F335_ 344 60 = 0 := by rw [q336_]; exact (fl_u_ne (by first | exact nc_ rfl | decide | omega)).trans ((fl_u_ne (by first | exact nc_ rfl | decide | omega)).trans ((fl_u_ne (by first | exact nc_ rfl | decide | omega)).trans ((fl_u_ne (by first | exact nc_ rfl | decide | omega)).trans ((fl_u_ne (by first | exact nc_ rfl | decide | omega)).trans (e519_)))))
      have e521_ : F1 344 60 = 0 := (hf_F1 344 60 rfl).trans (e520_)
      have e522_ : F482_ 344 60 = 0 := by rw [q483_]; exact (fl_u_ne (by first | exact nc_ rfl | decide | omega)).trans (e521_)
      have b523_ : 0 ≤ F 344 12 ∧ F 344 12 ≤ 1 := gi_g hgi rfl
      exact ⟨F482_, rfl, g484_, g485_, (⟨by omega, by omega⟩), (by omega), (pli_0 (by omega)), (fun h9_ => absurd h9_ (by omega)), (Or.inr ⟨by omega, Or.inr ⟨l, tl, co1_, by omega, Or.inl ⟨by omega, ho (by omega)⟩⟩⟩), (⟨fun h9_ => ⟨by omega, by omega⟩, fun h9_ => by omega, fun h9_ => by omega⟩)⟩
    refine ga_aload_n (v := .ref 344) hm_64 rfl rfl rfl ?_
    refine ga_iload_n (z := a) hm_64 rfl rfl ?_
    have e524_ : F27_ 357 a.toNat = F 357 a.toNat := by rw [q28_]; exact (fl_u_ne (by first | exact nc_ rfl | decide | omega)).trans ((fl_u_ne (by first | exact nc_ rfl | decide | omega)).trans ((fl_u_ne (by first | exact nc_ rfl | decide | omega)).trans ((fl_u_ne (by first | exact nc_ rfl | decide | omega)).trans ((fl_u_ne (by first | exact nc_ rfl | decide | omega)).trans ((fl_u_ne (by first | exact nc_ rfl | decide | omega)).trans (fl_u_ne (by first | exact nc_ rfl | decide | omega)))))))
    have e525_ : F36_ 357 a.toNat = F 357 a.toNat := (s38_ 357 a.toNat (by first | exact fs_c rfl | exact (fs_n (by omega) (fs_n (by omega) rfl)))).trans (e524_)
    have e526_ : F57_ 357 a.toNat = F 357 a.toNat := (s59_ 357 a.toNat (by first | exact fs_c rfl | exact (fs_n (by omega) (fs_n (by omega) (fs_n (by omega) (fs_n (by omega) (fs_n (by omega) (fs_n (by omega) (fs_n (by omega) (fs_n (by omega) (fs_n (by omega) rfl))))))))))).trans (e525_)
    have e527_ : F335_ 357 a.toNat = F 357 a.toNat := by rw [q336_]; exact (fl_u_ne (by first | exact nc_ rfl | decide | omega)).trans ((fl_u_ne (by first | exact nc_ rfl | decide | omega)).trans ((fl_u_ne (by first | exact nc_ rfl | decide | omega)).trans ((fl_u_ne (by first | exact nc_ rfl | decide | omega)).trans ((fl_u_ne (by first | exact nc_ rfl | decide | omega)).trans (e526_)))))
    have e528_ : F1 357 a.toNat = F 357 a.toNat := (hf_F1 357 a.toNat (by first | exact fs_c rfl | exact (fs_n (by omega) (fs_n (by omega) (fs_n (by omega) rfl))))).trans (e527_)
    refine gVi (nY := 6) (F := 3) (L := 75) (As := [.int (Int32.ofInt a)]) (b := 344) (rest := []) hm_64 rfl hm_165 rfl rfl (fl_ob sc_344) rfl rfl rfl rfl rfl (by omega) (by omega) (mc_165 hG F1 X hg_F1 (a) (D) (tl) (ps) ((stP tl D a.toNat)) (⟨by omega, by omega⟩) (by have h9_ := hcs (by omega) a.toNat (by omega); omega) (hs1) ((rdar_5 hD hgi (by omega) (lfr_s g345_ rfl)) a.toNat _ (dat_get (by omega))) (⟨by have h9_ := (tr5 (trm_fs (by rw [q336_]; exact (trm_u (trm_u (trm_u (trm_u (trm_u co2_ (by first | decide | exact nc_ rfl | omega)) (by first | decide | exact nc_ rfl | omega)) (by first | decide | exact nc_ rfl | omega)) (by first | decide | exact nc_ rfl | omega)) (by first | decide | exact nc_ rfl | omega))) hf_F1 (by first | exact fs_rg rfl | exact fun r j hj => (fs_n (by omega) (fs_n (by omega) (fs_n (by omega) rfl)))))).1.1; have h8_ := (prb_ok hps.2.symm co1_).1.1; omega, (tr5 (trm_fs (by rw [q336_]; exact (trm_u (trm_u (trm_u (trm_u (trm_u co2_ (by first | decide | exact nc_ rfl | omega)) (by first | decide | exact nc_ rfl | omega)) (by first | decide | exact nc_ rfl | omega)) (by first | decide | exact nc_ rfl | omega)) (by first | decide | exact nc_ rfl | omega))) hf_F1 (by first | exact fs_rg rfl | exact fun r j hj => (fs_n (by omega) (fs_n (by omega) (fs_n (by omega) rfl)))))).2⟩) ((rprd_fs (by rw [q336_]; exact (rprd_u (rprd_u (rprd_u (rprd_u (rprd_u (rprd_fs (rprd_fs (by rw [q28_]; exact (rprd_u (rprd_u (rprd_u (rprd_u (rprd_u (rprd_u (rprd_u hps.1 (by first | decide | exact nc_ rfl | omega)) (by first | decide | exact nc_ rfl | omega)) (by first | decide | exact nc_ rfl | omega)) (by first | decide | exact nc_ rfl | omega)) (by first | decide | exact nc_ rfl | omega)) (by first | decide | exact nc_ rfl | omega)) (by first | decide | exact nc_ rfl | omega))) s38_ (by first | exact fs_rg rfl | exact fun r j hj => (fs_n (by omega) (fs_n (by omega) rfl)))) s59_ (by first | exact fs_rg rfl | exact fun r j hj => (fs_n (by omega) (fs_n (by omega) (fs_n (by omega) (fs_n (by omega) (fs_n (by omega) (fs_n (by omega) (fs_n (by omega) (fs_n (by omega) (fs_n (by omega) rfl))))))))))) (by first | decide | exact nc_ rfl | omega)) (by first | decide | exact nc_ rfl | omega)) (by first | decide | exact nc_ rfl | omega)) (by first | decide | exact nc_ rfl | omega)) (by first | decide | exact nc_ rfl | omega))) hf_F1 (by first | exact fs_rg rfl | exact fun r j hj => (fs_n (by omega) (fs_n (by omega) (fs_n (by omega) rfl)))))) (ad_l3 (hDw _ (dat_mem (by omega)))) (ad_e3 (hDw _ (dat_mem (by omega)))) ((hst (by omega)).1) ((hst (by omega)).2)) (fun _ _ h => False.elim h) ?_
    rintro z529_ A1_ (⟨F532_, hA_, g533_, s534_, hz_, c530_, c531_⟩ | ⟨F538_, hA_, g539_, s540_, hz_, c535_, c536_, c537_⟩)
    ·
      subst hA_
      subst hz_
      have g541_ : fs [(344, 344, 0, 1), (344, 344, 4, 5), (344, 344, 8, 10), (344, 344, 12, 13), (344, 344, 33, 33), (344, 344, 36, 36), (344, 344, 38, 39), (344, 344, 46, 48), (344, 344, 60, 60), (344, 344, 64, 64), (347, 348, 0, 100000), (358, 358, 5, 5), (360, 362, 40, 43), (363, 363, 80, 87), (364, 372, 0, 100000), (384, 384, 0, 100000)] F F532_ := fs_tr g345_ s534_ rfl
      have rk542_ : rk K F532_ := rk_fs rk346_ s534_ (fs_rg rfl) rfl
      refine ga_istore_n (lv2 := [(1, .int (Int32.ofInt 0)), (2, .int (Int32.ofInt a)), (0, .ref 344)]) hm_64 rfl (Nat.le_of_ble_eq_true rfl) rfl ?_
      refine ga_inc (a := a) (c := a + 1) (lv2 := [(2, .int (Int32.ofInt (a + 1))), (1, .int (Int32.ofInt 0)), (0, .ref 344)]) hm_64 rfl rfl (Nat.le_of_ble_eq_true rfl) rfl rfl ?_
      refine fl_goto hm_64 rfl ?_
      have b543_ : 0 ≤ F532_ 344 39 ∧ F532_ 344 39 ≤ 40 := gi_g g533_ rfl
      have b544_ : 0 ≤ F1 344 39 ∧ F1 344 39 ≤ 40 := gi_g hg_F1 rfl
      exact ih342_ _ (by omega) (0) (a + 1) F532_ rfl g533_ (fs_tr hf_F1 s534_ rfl) (⟨by omega, by omega⟩) (⟨by omega, by omega⟩) (c531_) (fun _ => hf4 (by omega)) (by omega) (fun _ => Or.inr (by have h9_ := c530_; rw [← stP_s] at h9_; have h8_ := stP_le (tl := tl) (D := D) (show a.toNat + 1 ≤ D.length by omega); omega)) (fun h9_ => absurd h9_ (by omega))
    subst hA_
    subst hz_
    have g545_ : fs [(344, 344, 0, 1), (344, 344, 4, 5), (344, 344, 8, 10), (344, 344, 12, 13), (344, 344, 33, 33), (344, 344, 36, 36), (344, 344, 38, 39), (344, 344, 46, 48), (344, 344, 60, 60), (344, 344, 64, 64), (347, 348, 0, 100000), (358, 358, 5, 5), (360, 362, 40, 43), (363, 363, 80, 87), (364, 372, 0, 100000), (384, 384, 0, 100000)] F F538_ := fs_tr g345_ s540_ rfl
    have rk546_ : rk K F538_ := rk_fs rk346_ s540_ (fs_rg rfl) rfl
    refine ga_istore_n (lv2 := [(1, .int (Int32.ofInt 1)), (2, .int (Int32.ofInt a)), (0, .ref 344)]) hm_64 rfl (Nat.le_of_ble_eq_true rfl) rfl ?_
    refine ga_inc (a := a) (c := a + 1) (lv2 := [(2, .int (Int32.ofInt (a + 1))), (1, .int (Int32.ofInt 1)), (0, .ref 344)]) hm_64 rfl rfl (Nat.le_of_ble_eq_true rfl) rfl rfl ?_
    refine fl_goto hm_64 rfl ?_
    have b547_ : 0 ≤ F538_ 344 39 ∧ F538_ 344 39 ≤ 40 := gi_g g539_ rfl
    have b548_ : 0 ≤ F1 344 39 ∧ F1 344 39 ≤ 40 := gi_g hg_F1 rfl
    exact ih342_ _ (by omega) (1) (a + 1) F538_ rfl g539_ (fs_tr hf_F1 s540_ rfl) (⟨by omega, by omega⟩) (⟨by omega, by omega⟩) (c535_) (fun _ => hf4 (by omega)) (by omega) (fun h9_ => absurd h9_ (by omega)) (fun _ => by rw [show (a + 1).toNat = a.toNat + 1 by omega, stP_s]; exact ⟨c536_, c537_⟩)
  have e549_ : F335_ 344 39 = 0 := by rw [q336_]; exact fl_u_eq
  exact L341_ _ (1) (0) F335_ rfl g337_ fs_refl (⟨by omega, by omega⟩) (⟨by omega, by omega⟩) (sob_0 (e549_)) (by omega) (by omega) (fun h9_ => absurd h9_ (by omega)) (fun _ => ⟨Eq.trans (e549_) rfl, rsts_nil⟩)

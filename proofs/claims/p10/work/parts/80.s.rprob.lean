set_option maxHeartbeats 16000000 in
theorem mc_64v {G : Nat → Nat → Option Nat} (hG : gg G) (F : fl_N) (X : xi_H) (hgi : gi F) (K : fl_N) (nm : Int) (ts pl : List Int) (ps : List (List Int)) (D : List ad_T) (hin : kin K (F 344 1)) (htx : ∀ j : Nat, (j : Int) < F 344 1 → F 345 j = K 2 j) (hkw : ∀ j : Nat, j < 76 → F 346 j = ra_at 346 j) (hdm : F 344 11 = 1 → nrel nm (F 344 14) ∧ rpn (F 349) (F 344 15) ts ∧ rpn (F 350) (F 344 17) pl ∧ (rprd F ps ∧ ps.length = pl.length)) (hcs : F 344 11 = 1 → ∀ j : Nat, (j : Int) < F 344 21 → 0 ≤ F 357 j) (hpl : pli F) (hpb : F 344 12 = 1 → sob F ∧ F 344 36 ≤ 40) (hDD : F 344 11 = 1 → rdar F D ∧ (D.length : Int) = F 344 21 ∧ ∀ d ∈ D, adok ps d ∧ d.1.length ≤ 3) : fl_M xi_ms 64 8 188 [.ref 344] (fl_H sh_T G F ++ X) (pq_64v G F X K nm ts pl ps D) := by
  intro fr lo hfr hlo
  show fl_R xi_ms 64 fr lo 0 [(0, .ref 344)] [] _ _
  have hb1 : 0 ≤ F 344 1 ∧ F 344 1 ≤ 600 := gi_g hgi rfl
  have hb11 : 0 ≤ F 344 11 ∧ F 344 11 ≤ 1 := gi_g hgi rfl
  refine ga_aload_n (v := .ref 344) hm_64 rfl rfl rfl ?_
  refine ga_aload_n (v := .ref 344) hm_64 rfl rfl rfl ?_
  have b1_ : 0 ≤ F 344 11 ∧ F 344 11 ≤ 1 := gi_g hgi rfl
  refine ga_geti (z := F 344 11) hm_64 rfl sc_344 rfl (rfl) ?_
  refine fl_if_eq (a := F 344 11) hm_64 rfl ⟨by omega, by omega⟩ (fun h2_ => ?_) (fun h3_ => ?_)
  ·
    refine fl_iconst hm_64 rfl ?_
    refine ga_puti (z := 1) hm_64 rfl sc_344 rfl rfl ?_
    refine ga_aload_n (v := .ref 344) hm_64 rfl rfl rfl ?_
    refine ga_geti (z := 1) hm_64 rfl sc_344 rfl (fl_u_eq) ?_
    refine fl_if_le hm_64 rfl ⟨by omega, by omega⟩ (fun h => absurd h (by omega)) (fun _ => ?_)
    refine fl_iconst hm_64 rfl ?_
    obtain ⟨F4_, q5_⟩ : ∃ Fq_, Fq_ = (fl_u F 344 0 1) := ⟨_, rfl⟩
    rw [← q5_]
    have g6_ : gi F4_ := by rw [q5_]; exact gi_u (hgi) rfl (by omega) (by omega)
    have g7_ : fs [(344, 344, 0, 1), (344, 344, 4, 5), (344, 344, 8, 10), (344, 344, 12, 13), (344, 344, 33, 33), (344, 344, 36, 36), (344, 344, 38, 39), (344, 344, 46, 48), (344, 344, 60, 60), (344, 344, 64, 64), (347, 348, 0, 100000), (358, 358, 5, 5), (360, 362, 40, 43), (363, 363, 80, 87), (364, 372, 0, 100000), (384, 384, 0, 100000)] F F4_ := by rw [q5_]; exact fs_u (fs_refl) rfl
    refine gr_i (z := 0) hm_64 rfl rfl rfl ?_
    have e8_ : F4_ 344 1 = F 344 1 := by rw [q5_]; exact fl_u_ne (by first | exact nc_ rfl | decide | omega)
    have b9_ : 0 ≤ F 344 1 ∧ F 344 1 ≤ 600 := gi_g hgi rfl
    have e10_ : F4_ 344 13 = F 344 13 := by rw [q5_]; exact fl_u_ne (by first | exact nc_ rfl | decide | omega)
    have e11_ : F4_ 344 12 = F 344 12 := by rw [q5_]; exact fl_u_ne (by first | exact nc_ rfl | decide | omega)
    have b12_ : 0 ≤ F 344 12 ∧ F 344 12 ≤ 1 := gi_g hgi rfl
    have e13_ : F4_ 344 36 = F 344 36 := by rw [q5_]; exact fl_u_ne (by first | exact nc_ rfl | decide | omega)
    have b14_ : 0 ≤ F 344 36 ∧ F 344 36 ≤ 216 := gi_g hgi rfl
    have e15_ : F4_ 344 0 = 1 := by rw [q5_]; exact fl_u_eq
    have e16_ : F4_ 344 33 = F 344 33 := by rw [q5_]; exact fl_u_ne (by first | exact nc_ rfl | decide | omega)
    have b17_ : 0 ≤ F 344 33 ∧ F 344 33 ≤ 6 := gi_g hgi rfl
    have e18_ : F4_ 344 39 = F 344 39 := by rw [q5_]; exact fl_u_ne (by first | exact nc_ rfl | decide | omega)
    have b19_ : 0 ≤ F 344 39 ∧ F 344 39 ≤ 40 := gi_g hgi rfl
    have e20_ : F4_ 344 8 = F 344 8 := by rw [q5_]; exact fl_u_ne (by first | exact nc_ rfl | decide | omega)
    have b21_ : 0 ≤ F 344 8 ∧ F 344 8 ≤ 100000 := gi_g hgi rfl
    have e22_ : F4_ 344 11 = F 344 11 := by rw [q5_]; exact fl_u_ne (by first | exact nc_ rfl | decide | omega)
    have b23_ : 0 ≤ F 344 13 ∧ F 344 13 ≤ 1 := gi_g hgi rfl
    have e24_ : F4_ 344 60 = F 344 60 := by rw [q5_]; exact fl_u_ne (by first | exact nc_ rfl | decide | omega)
    have b25_ : 0 ≤ F 344 60 ∧ F 344 60 ≤ 60 := gi_g hgi rfl
    exact ⟨F4_, rfl, g6_, g7_, (⟨by omega, by omega⟩), (by omega), (pli_cg hpl (show F4_ 344 13 = F 344 13 from (by rw [q5_]; exact (fl_u_ne (by first | exact nc_ rfl | decide | omega)))) (show F4_ 344 58 = F 344 58 from (by rw [q5_]; exact (fl_u_ne (by first | exact nc_ rfl | decide | omega)))) (fun j => (show F4_ 354 j = F 354 j from (by rw [q5_]; exact (fl_u_ne (by first | exact nc_ rfl | decide | omega))))) (fun j => (show F4_ 367 j = F 367 j from (by rw [q5_]; exact (fl_u_ne (by first | exact nc_ rfl | decide | omega))))) (fun j => (show F4_ 368 j = F 368 j from (by rw [q5_]; exact (fl_u_ne (by first | exact nc_ rfl | decide | omega))))) (fun j => (show F4_ 381 j = F 381 j from (by rw [q5_]; exact (fl_u_ne (by first | exact nc_ rfl | decide | omega)))))), (fun h9_ => by have h8_ := hpb (by omega); have h7_ : F4_ 344 36 = F 344 36 := (show F4_ 344 36 = F 344 36 from (by rw [q5_]; exact (fl_u_ne (by first | exact nc_ rfl | decide | omega)))); exact ⟨sob_cg h8_.1 (show F4_ 344 39 = F 344 39 from (by rw [q5_]; exact (fl_u_ne (by first | exact nc_ rfl | decide | omega)))) (fun j => (show F4_ 357 j = F 357 j from (by rw [q5_]; exact (fl_u_ne (by first | exact nc_ rfl | decide | omega))))) (fun j => (show F4_ 367 j = F 367 j from (by rw [q5_]; exact (fl_u_ne (by first | exact nc_ rfl | decide | omega))))) (fun j => (show F4_ 354 j = F 354 j from (by rw [q5_]; exact (fl_u_ne (by first | exact nc_ rfl | decide | omega))))) (fun j => (show F4_ 368 j = F 368 j from (by rw [q5_]; exact (fl_u_ne (by first | exact nc_ rfl | decide | omega))))), by omega⟩), (Or.inl ⟨by omega, by omega, by omega⟩), (⟨fun h9_ => ⟨by omega, by omega⟩, fun h9_ => by omega, fun h9_ => by omega, fun h9_ => by omega, fun h9_ => by omega, fun _ r_ j_ hr_ => (show F4_ (r_) j_ = F (r_) j_ from (by rw [q5_]; exact (fl_u_ne (by first | exact nc_ rfl | decide | omega))))⟩)⟩
  refine fl_iconst hm_64 rfl ?_
  refine fl_goto hm_64 rfl ?_
  refine ga_puti (z := 0) hm_64 rfl sc_344 rfl rfl ?_
  refine ga_aload_n (v := .ref 344) hm_64 rfl rfl rfl ?_
  refine ga_geti (z := 0) hm_64 rfl sc_344 rfl (fl_u_eq) ?_
  refine fl_if_le hm_64 rfl ⟨by omega, by omega⟩ (fun _ => ?_) (fun h => absurd (by omega) h)
  obtain ⟨hnm, hts, hrpl, hps⟩ := hdm (by omega)
  obtain ⟨hD, hDl, hDw⟩ := hDD (by omega)
  have hb21 : 0 ≤ F 344 21 ∧ F 344 21 ≤ 5 := gi_g hgi rfl
  refine ga_aload_n (v := .ref 344) hm_64 rfl rfl rfl ?_
  refine gIv (nY := 1) (F := 0) (L := 0) (As := []) (b := 344) (rest := []) hm_64 rfl hm_48 rfl rfl (fl_ob sc_344) rfl rfl rfl rfl rfl (by omega) (by omega) ?_
  intro f26_ l27_ h28_ h29_
  show fl_R xi_ms 48 f26_ l27_ 0 [(0, .ref 344)] [] _ _
  refine ga_aload_n (v := .ref 344) hm_48 rfl rfl rfl ?_
  refine fl_iconst hm_48 rfl ?_
  refine ga_puti (z := 0) hm_48 rfl sc_344 rfl rfl ?_
  refine ga_aload_n (v := .ref 344) hm_48 rfl rfl rfl ?_
  refine fl_iconst hm_48 rfl ?_
  refine ga_puti (z := 0) hm_48 rfl sc_344 rfl rfl ?_
  refine gr_v hm_48 rfl rfl ?_
  clear h28_ h29_ f26_ l27_
  refine ga_aload_n (v := .ref 344) hm_64 rfl rfl rfl ?_
  refine fl_iconst hm_64 rfl ?_
  refine ga_putz (z := 0) hm_64 rfl sc_344 rfl rfl (by omega) ?_
  refine ga_aload_n (v := .ref 344) hm_64 rfl rfl rfl ?_
  refine fl_iconst hm_64 rfl ?_
  refine ga_putz (z := 0) hm_64 rfl sc_344 rfl rfl (by omega) ?_
  refine ga_aload_n (v := .ref 344) hm_64 rfl rfl rfl ?_
  refine fl_iconst hm_64 rfl ?_
  refine ga_puti (z := 0) hm_64 rfl sc_344 rfl rfl ?_
  refine ga_aload_n (v := .ref 344) hm_64 rfl rfl rfl ?_
  refine fl_iconst hm_64 rfl ?_
  refine ga_puti (z := 0) hm_64 rfl sc_344 rfl rfl ?_
  refine ga_aload_n (v := .ref 344) hm_64 rfl rfl rfl ?_
  obtain ⟨F30_, q31_⟩ : ∃ Fq_, Fq_ = (fl_u (fl_u (fl_u (fl_u (fl_u (fl_u (fl_u F 344 0 0) 344 9 0) 344 10 0) 344 12 0) 344 13 0) 344 33 0) 344 60 0) := ⟨_, rfl⟩
  rw [← q31_]
  have g32_ : gi F30_ := by rw [q31_]; exact gi_u (gi_u (gi_u (gi_u (gi_u (gi_u (gi_u (hgi) rfl (by omega) (by omega)) rfl (by omega) (by omega)) rfl (by omega) (by omega)) rfl (by omega) (by omega)) rfl (by omega) (by omega)) rfl (by omega) (by omega)) rfl (by omega) (by omega)
  have g33_ : fs [(344, 344, 0, 1), (344, 344, 4, 5), (344, 344, 8, 10), (344, 344, 12, 13), (344, 344, 33, 33), (344, 344, 36, 36), (344, 344, 38, 39), (344, 344, 46, 48), (344, 344, 60, 60), (344, 344, 64, 64), (347, 348, 0, 100000), (358, 358, 5, 5), (360, 362, 40, 43), (363, 363, 80, 87), (364, 372, 0, 100000), (384, 384, 0, 100000)] F F30_ := by rw [q31_]; exact fs_u (fs_u (fs_u (fs_u (fs_u (fs_u (fs_u (fs_refl) rfl) rfl) rfl) rfl) rfl) rfl) rfl
  refine gVv (nY := 3) (F := 0) (L := 0) (As := []) (b := 344) (rest := []) hm_64 rfl hm_49 rfl rfl (fl_ob sc_344) rfl rfl rfl rfl rfl (by omega) (by omega) (mc_49 hG F30_ X g32_) (fun _ _ h => False.elim h) ?_
  have e35_ : F30_ 344 1 = F 344 1 := by rw [q31_]; exact (fl_u_ne (by first | exact nc_ rfl | decide | omega)).trans ((fl_u_ne (by first | exact nc_ rfl | decide | omega)).trans ((fl_u_ne (by first | exact nc_ rfl | decide | omega)).trans ((fl_u_ne (by first | exact nc_ rfl | decide | omega)).trans ((fl_u_ne (by first | exact nc_ rfl | decide | omega)).trans ((fl_u_ne (by first | exact nc_ rfl | decide | omega)).trans (fl_u_ne (by first | exact nc_ rfl | decide | omega)))))))
  have b36_ : 0 ≤ F 344 1 ∧ F 344 1 ≤ 600 := gi_g hgi rfl
  rintro A1_ ⟨F39_, hA_, g40_, s41_, c37_, c38_⟩
  subst hA_
  have g42_ : fs [(344, 344, 0, 1), (344, 344, 4, 5), (344, 344, 8, 10), (344, 344, 12, 13), (344, 344, 33, 33), (344, 344, 36, 36), (344, 344, 38, 39), (344, 344, 46, 48), (344, 344, 60, 60), (344, 344, 64, 64), (347, 348, 0, 100000), (358, 358, 5, 5), (360, 362, 40, 43), (363, 363, 80, 87), (364, 372, 0, 100000), (384, 384, 0, 100000)] F F39_ := fs_tr g33_ s41_ rfl
  try simp only [e35_] at c37_
  have hgK : gi K := hin.1
  have hkt : rkt K := rkt_of hin
  have hko := hkt.1
  have hk16 := hko.1
  have hrk1 : rk K F39_ := rk_of (n := F 344 1) hin (fun j hj => Eq.trans (show F30_ 345 j = F 345 j from (by rw [q31_]; exact (fl_u_ne (by first | exact nc_ rfl | decide | omega)).trans ((fl_u_ne (by first | exact nc_ rfl | decide | omega)).trans ((fl_u_ne (by first | exact nc_ rfl | decide | omega)).trans ((fl_u_ne (by first | exact nc_ rfl | decide | omega)).trans ((fl_u_ne (by first | exact nc_ rfl | decide | omega)).trans ((fl_u_ne (by first | exact nc_ rfl | decide | omega)).trans ((fl_u_ne (by first | exact nc_ rfl | decide | omega)))))))))) (htx j hj)) c37_ (fun j => (show F39_ 345 j = F30_ 345 j from (s41_ 345 j (by first | exact fs_c rfl | exact (fs_n (by omega) (fs_n (by omega) rfl)))))) (fun j hj => Eq.trans (Eq.trans (a := F39_ 346 j) (b := F30_ 346 j) (s41_ 346 j (by first | exact fs_c rfl | exact (fs_n (by omega) (fs_n (by omega) rfl)))) (show F30_ 346 j = F 346 j from (by rw [q31_]; exact (fl_u_ne (by first | exact nc_ rfl | decide | omega)).trans ((fl_u_ne (by first | exact nc_ rfl | decide | omega)).trans ((fl_u_ne (by first | exact nc_ rfl | decide | omega)).trans ((fl_u_ne (by first | exact nc_ rfl | decide | omega)).trans ((fl_u_ne (by first | exact nc_ rfl | decide | omega)).trans ((fl_u_ne (by first | exact nc_ rfl | decide | omega)).trans ((fl_u_ne (by first | exact nc_ rfl | decide | omega))))))))))) (hkw j hj))
  refine ga_aload_n (v := .ref 344) hm_64 rfl rfl rfl ?_
  have b43_ : 0 ≤ F39_ 344 5 ∧ F39_ 344 5 ≤ 600 := gi_g g40_ rfl
  have e44_ : F30_ 344 9 = 0 := by rw [q31_]; exact (fl_u_ne (by first | exact nc_ rfl | decide | omega)).trans ((fl_u_ne (by first | exact nc_ rfl | decide | omega)).trans ((fl_u_ne (by first | exact nc_ rfl | decide | omega)).trans ((fl_u_ne (by first | exact nc_ rfl | decide | omega)).trans ((fl_u_ne (by first | exact nc_ rfl | decide | omega)).trans (fl_u_eq)))))
  have e45_ : F39_ 344 9 = 0 := (s41_ 344 9 rfl).trans (e44_)
  have e46_ : F30_ 344 33 = 0 := by rw [q31_]; exact (fl_u_ne (by first | exact nc_ rfl | decide | omega)).trans (fl_u_eq)
  have e47_ : F39_ 344 33 = 0 := (s41_ 344 33 rfl).trans (e46_)
  refine gVv (nY := 4) (F := 7) (L := 165) (As := []) (b := 344) (rest := []) hm_64 rfl hm_184 rfl rfl (fl_ob sc_344) rfl rfl rfl rfl rfl (by omega) (by omega) (mc_184 hG F39_ X g40_ (K) (nm) (ts) (pl) (ps) (hgK) hrk1 (hkt) (⟨by omega, by omega⟩) (by omega) (by omega) (by rw [show F39_ 344 14 = F 344 14 from (Eq.trans (a := F39_ 344 14) (b := F30_ 344 14) (s41_ 344 14 (by first | exact fs_c rfl | exact (fs_n (by omega) (fs_n (by omega) rfl)))) (show F30_ 344 14 = F 344 14 from (by rw [q31_]; exact (fl_u_ne (by first | exact nc_ rfl | decide | omega)).trans ((fl_u_ne (by first | exact nc_ rfl | decide | omega)).trans ((fl_u_ne (by first | exact nc_ rfl | decide | omega)).trans ((fl_u_ne (by first | exact nc_ rfl | decide | omega)).trans ((fl_u_ne (by first | exact nc_ rfl | decide | omega)).trans ((fl_u_ne (by first | exact nc_ rfl | decide | omega)).trans ((fl_u_ne (by first | exact nc_ rfl | decide | omega)))))))))))]; exact hnm) ((rpn_fs (by rw [q31_]; exact (rpn_u (rpn_u (rpn_u (rpn_u (rpn_u (rpn_u (rpn_u hts (by first | decide | exact nc_ rfl | omega) (by first | decide | exact nc_ rfl | omega)) (by first | decide | exact nc_ rfl | omega) (by first | decide | exact nc_ rfl | omega)) (by first | decide | exact nc_ rfl | omega) (by first | decide | exact nc_ rfl | omega)) (by first | decide | exact nc_ rfl | omega) (by first | decide | exact nc_ rfl | omega)) (by first | decide | exact nc_ rfl | omega) (by first | decide | exact nc_ rfl | omega)) (by first | decide | exact nc_ rfl | omega) (by first | decide | exact nc_ rfl | omega)) (by first | decide | exact nc_ rfl | omega) (by first | decide | exact nc_ rfl | omega))) s41_ (fun _ => (by first | exact fs_c rfl | exact (fs_n (by omega) (fs_n (by omega) rfl)))) (by first | exact fs_c rfl | exact (fs_n (by omega) (fs_n (by omega) rfl))))) ((rpn_fs (by rw [q31_]; exact (rpn_u (rpn_u (rpn_u (rpn_u (rpn_u (rpn_u (rpn_u hrpl (by first | decide | exact nc_ rfl | omega) (by first | decide | exact nc_ rfl | omega)) (by first | decide | exact nc_ rfl | omega) (by first | decide | exact nc_ rfl | omega)) (by first | decide | exact nc_ rfl | omega) (by first | decide | exact nc_ rfl | omega)) (by first | decide | exact nc_ rfl | omega) (by first | decide | exact nc_ rfl | omega)) (by first | decide | exact nc_ rfl | omega) (by first | decide | exact nc_ rfl | omega)) (by first | decide | exact nc_ rfl | omega) (by first | decide | exact nc_ rfl | omega)) (by first | decide | exact nc_ rfl | omega) (by first | decide | exact nc_ rfl | omega))) s41_ (fun _ => (by first | exact fs_c rfl | exact (fs_n (by omega) (fs_n (by omega) rfl)))) (by first | exact fs_c rfl | exact (fs_n (by omega) (fs_n (by omega) rfl))))) (⟨(rprd_fs (by rw [q31_]; exact (rprd_u (rprd_u (rprd_u (rprd_u (rprd_u (rprd_u (rprd_u hps.1 (by first | decide | exact nc_ rfl | omega)) (by first | decide | exact nc_ rfl | omega)) (by first | decide | exact nc_ rfl | omega)) (by first | decide | exact nc_ rfl | omega)) (by first | decide | exact nc_ rfl | omega)) (by first | decide | exact nc_ rfl | omega)) (by first | decide | exact nc_ rfl | omega))) s41_ (by first | exact fs_rg rfl | exact fun r j hj => (fs_n (by omega) (fs_n (by omega) rfl)))), hps.2⟩) (by omega)) (fun _ _ h => False.elim h) ?_
  have e49_ : F30_ 344 10 = 0 := by rw [q31_]; exact (fl_u_ne (by first | exact nc_ rfl | decide | omega)).trans ((fl_u_ne (by first | exact nc_ rfl | decide | omega)).trans ((fl_u_ne (by first | exact nc_ rfl | decide | omega)).trans ((fl_u_ne (by first | exact nc_ rfl | decide | omega)).trans (fl_u_eq))))
  have e50_ : F39_ 344 10 = 0 := (s41_ 344 10 rfl).trans (e49_)
  rintro A1_ (⟨F54_, hA_, g55_, s56_, c51_, c52_, c53_⟩ | ⟨F60_, hA_, g61_, s62_, c57_, c58_, c59_⟩)
  ·
    subst hA_
    have g63_ : fs [(344, 344, 0, 1), (344, 344, 4, 5), (344, 344, 8, 10), (344, 344, 12, 13), (344, 344, 33, 33), (344, 344, 36, 36), (344, 344, 38, 39), (344, 344, 46, 48), (344, 344, 60, 60), (344, 344, 64, 64), (347, 348, 0, 100000), (358, 358, 5, 5), (360, 362, 40, 43), (363, 363, 80, 87), (364, 372, 0, 100000), (384, 384, 0, 100000)] F F54_ := fs_tr g42_ s56_ rfl
    have rk64_ : rk K F54_ := rk_fs hrk1 s56_ (fs_rg rfl) rfl
    have c52_s := c52_.1 (by omega)
    clear c52_
    refine ga_aload_n (v := .ref 344) hm_64 rfl rfl rfl ?_
    refine gIi (nY := 1) (F := 0) (L := 0) (As := []) (b := 344) (rest := []) hm_64 rfl hm_62 rfl rfl (fl_ob sc_344) rfl rfl rfl rfl rfl (by omega) (by omega) ?_
    intro f65_ l66_ h67_ h68_
    show fl_R xi_ms 62 f65_ l66_ 0 [(0, .ref 344)] [] _ _
    refine ga_aload_n (v := .ref 344) hm_62 rfl rfl rfl ?_
    refine ga_aload_n (v := .ref 344) hm_62 rfl rfl rfl ?_
    have b69_ : 0 ≤ F54_ 344 9 ∧ F54_ 344 9 ≤ 5 := gi_g g55_ rfl
    refine ga_geti (z := F54_ 344 9) hm_62 rfl sc_344 rfl (rfl) ?_
    refine fx_if_ne (a := F54_ 344 9) hm_62 rfl ⟨by omega, by omega⟩ (fun h70_ => ?_) (fun h71_ => ?_)
    ·
      refine ga_aload_n (v := .ref 344) hm_62 rfl rfl rfl ?_
      refine ga_geti (z := F54_ 344 9) hm_62 rfl sc_344 rfl (rfl) ?_
      refine fl_bipush hm_62 rfl rfl ?_
      refine ga_aload_n (v := .ref 344) hm_62 rfl rfl rfl ?_
      have b72_ : 0 ≤ F54_ 344 10 ∧ F54_ 344 10 ≤ 600 := gi_g g55_ rfl
      refine ga_geti (z := F54_ 344 10) hm_62 rfl sc_344 rfl (rfl) ?_
      refine ga_imul (a := 10) (b := F54_ 344 10) (c := 10 * (F54_ 344 10)) hm_62 rfl (by omega) ?_
      refine ga_iadd (a := F54_ 344 9) (b := 10 * (F54_ 344 10)) (c := F54_ 344 9 + 10 * (F54_ 344 10)) hm_62 rfl (by omega) ?_
      refine ga_puti (z := F54_ 344 9 + 10 * (F54_ 344 10)) hm_62 rfl sc_344 rfl rfl ?_
      refine ga_aload_n (v := .ref 344) hm_62 rfl rfl rfl ?_
      refine fl_iconst hm_62 rfl ?_
      refine ga_puti (z := 0) hm_62 rfl sc_344 rfl rfl ?_
      refine ga_aload_n (v := .ref 344) hm_62 rfl rfl rfl ?_
      refine ga_aload_n (v := .ref 344) hm_62 rfl rfl rfl ?_
      refine ga_geti (z := F54_ 344 9) hm_62 rfl sc_344 rfl ((fl_u_ne (by first | exact nc_ rfl | decide | omega)).trans (fl_u_ne (by first | exact nc_ rfl | decide | omega))) ?_
      refine fx_if_ne (a := F54_ 344 9) hm_62 rfl ⟨by omega, by omega⟩ (fun h73_ => ?_) (fun h74_ => ?_)
      ·
        refine fl_iconst hm_62 rfl ?_
        refine ga_puti (z := 1) hm_62 rfl sc_344 rfl rfl ?_
        refine ga_aload_n (v := .ref 344) hm_62 rfl rfl rfl ?_
        refine ga_geti (z := 1) hm_62 rfl sc_344 rfl (fl_u_eq) ?_
        refine fl_if_ne hm_62 rfl ⟨by omega, by omega⟩ (fun _ => ?_) (fun h => absurd (by omega) h)
        refine fl_iconst hm_62 rfl ?_
        refine gr_i hm_62 rfl rfl (ga_nb (by omega)) ?_
        clear h67_ h68_ f65_ l66_
        refine fl_if_ne hm_64 rfl ⟨by omega, by omega⟩ (fun h => absurd h (by omega)) (fun _ => ?_)
        refine ga_aload_n (v := .ref 344) hm_64 rfl rfl rfl ?_
        refine fl_iconst hm_64 rfl ?_
        refine ga_puti (z := 2) hm_64 rfl sc_344 rfl rfl ?_
        refine fl_iconst hm_64 rfl ?_
        obtain ⟨F75_, q76_⟩ : ∃ Fq_, Fq_ = (fl_u (fl_u (fl_u (fl_u F54_ 344 8 (F54_ 344 9 + 10 * (F54_ 344 10))) 344 1 0) 344 0 1) 344 0 2) := ⟨_, rfl⟩
        rw [← q76_]
        have g77_ : gi F75_ := by rw [q76_]; exact gi_u (gi_u (gi_u (gi_u (g55_) rfl (by omega) (by omega)) rfl (by omega) (by omega)) rfl (by omega) (by omega)) rfl (by omega) (by omega)
        have g78_ : fs [(344, 344, 0, 1), (344, 344, 4, 5), (344, 344, 8, 10), (344, 344, 12, 13), (344, 344, 33, 33), (344, 344, 36, 36), (344, 344, 38, 39), (344, 344, 46, 48), (344, 344, 60, 60), (344, 344, 64, 64), (347, 348, 0, 100000), (358, 358, 5, 5), (360, 362, 40, 43), (363, 363, 80, 87), (364, 372, 0, 100000), (384, 384, 0, 100000)] F F75_ := by rw [q76_]; exact fs_u (fs_u (fs_u (fs_u (g63_) rfl) rfl) rfl) rfl
        have rk79_ : rk K F75_ := by rw [q76_]; exact rk_u (rk_u (rk_u (rk_u (rk64_) (by first | decide | exact nc_ rfl | omega) (by first | decide | exact nc_ rfl | omega)) (by first | decide | exact nc_ rfl | omega) (by first | decide | exact nc_ rfl | omega)) (by first | decide | exact nc_ rfl | omega) (by first | decide | exact nc_ rfl | omega)) (by first | decide | exact nc_ rfl | omega) (by first | decide | exact nc_ rfl | omega)
        refine gr_i (z := 0) hm_64 rfl rfl rfl ?_
        have e80_ : F75_ 344 1 = 0 := by rw [q76_]; exact (fl_u_ne (by first | exact nc_ rfl | decide | omega)).trans ((fl_u_ne (by first | exact nc_ rfl | decide | omega)).trans (fl_u_eq))
        have e81_ : F30_ 344 13 = 0 := by rw [q31_]; exact (fl_u_ne (by first | exact nc_ rfl | decide | omega)).trans ((fl_u_ne (by first | exact nc_ rfl | decide | omega)).trans (fl_u_eq))
        have e82_ : F39_ 344 13 = 0 := (s41_ 344 13 rfl).trans (e81_)
        have e83_ : F54_ 344 13 = 0 := (s56_ 344 13 rfl).trans (e82_)
        have e84_ : F75_ 344 13 = 0 := by rw [q76_]; exact (fl_u_ne (by first | exact nc_ rfl | decide | omega)).trans ((fl_u_ne (by first | exact nc_ rfl | decide | omega)).trans ((fl_u_ne (by first | exact nc_ rfl | decide | omega)).trans ((fl_u_ne (by first | exact nc_ rfl | decide | omega)).trans (e83_))))
        have e85_ : F30_ 344 12 = 0 := by rw [q31_]; exact (fl_u_ne (by first | exact nc_ rfl | decide | omega)).trans ((fl_u_ne (by first | exact nc_ rfl | decide | omega)).trans ((fl_u_ne (by first | exact nc_ rfl | decide | omega)).trans (fl_u_eq)))
        have e86_ : F39_ 344 12 = 0 := (s41_ 344 12 rfl).trans (e85_)
        have e87_ : F54_ 344 12 = 0 := (s56_ 344 12 rfl).trans (e86_)
        have e88_ : F75_ 344 12 = 0 := by rw [q76_]; exact (fl_u_ne (by first | exact nc_ rfl | decide | omega)).trans ((fl_u_ne (by first | exact nc_ rfl | decide | omega)).trans ((fl_u_ne (by first | exact nc_ rfl | decide | omega)).trans ((fl_u_ne (by first | exact nc_ rfl | decide | omega)).trans (e87_))))
        have e89_ : F75_ 344 36 = F54_ 344 36 := by rw [q76_]; exact (fl_u_ne (by first | exact nc_ rfl | decide | omega)).trans ((fl_u_ne (by first | exact nc_ rfl | decide | omega)).trans ((fl_u_ne (by first | exact nc_ rfl | decide | omega)).trans (fl_u_ne (by first | exact nc_ rfl | decide | omega))))
        have b90_ : 0 ≤ F54_ 344 36 ∧ F54_ 344 36 ≤ 216 := gi_g g55_ rfl
        have e91_ : F75_ 344 0 = 2 := by rw [q76_]; exact fl_u_eq
        have e92_ : F75_ 344 33 = F54_ 344 33 := by rw [q76_]; exact (fl_u_ne (by first | exact nc_ rfl | decide | omega)).trans ((fl_u_ne (by first | exact nc_ rfl | decide | omega)).trans ((fl_u_ne (by first | exact nc_ rfl | decide | omega)).trans (fl_u_ne (by first | exact nc_ rfl | decide | omega))))
        have b93_ : 0 ≤ F54_ 344 33 ∧ F54_ 344 33 ≤ 6 := gi_g g55_ rfl
        have e94_ : F30_ 344 39 = F 344 39 := by rw [q31_]; exact (fl_u_ne (by first | exact nc_ rfl | decide | omega)).trans ((fl_u_ne (by first | exact nc_ rfl | decide | omega)).trans ((fl_u_ne (by first | exact nc_ rfl | decide | omega)).trans ((fl_u_ne (by first | exact nc_ rfl | decide | omega)).trans ((fl_u_ne (by first | exact nc_ rfl | decide | omega)).trans ((fl_u_ne (by first | exact nc_ rfl | decide | omega)).trans (fl_u_ne (by first | exact nc_ rfl | decide | omega)))))))
        have e95_ : F39_ 344 39 = F 344 39 := (s41_ 344 39 rfl).trans (e94_)
        have e96_ : F54_ 344 39 = F 344 39 := (s56_ 344 39 rfl).trans (e95_)
        have e97_ : F75_ 344 39 = F 344 39 := by rw [q76_]; exact (fl_u_ne (by first | exact nc_ rfl | decide | omega)).trans ((fl_u_ne (by first | exact nc_ rfl | decide | omega)).trans ((fl_u_ne (by first | exact nc_ rfl | decide | omega)).trans ((fl_u_ne (by first | exact nc_ rfl | decide | omega)).trans (e96_))))
        have b98_ : 0 ≤ F 344 39 ∧ F 344 39 ≤ 40 := gi_g hgi rfl
        have e99_ : F75_ 344 8 = F54_ 344 9 + 10 * (F54_ 344 10) := by rw [q76_]; exact (fl_u_ne (by first | exact nc_ rfl | decide | omega)).trans ((fl_u_ne (by first | exact nc_ rfl | decide | omega)).trans ((fl_u_ne (by first | exact nc_ rfl | decide | omega)).trans (fl_u_eq)))
        have b100_ : 0 ≤ F 344 8 ∧ F 344 8 ≤ 100000 := gi_g hgi rfl
        have e101_ : F30_ 344 11 = F 344 11 := by rw [q31_]; exact (fl_u_ne (by first | exact nc_ rfl | decide | omega)).trans ((fl_u_ne (by first | exact nc_ rfl | decide | omega)).trans ((fl_u_ne (by first | exact nc_ rfl | decide | omega)).trans ((fl_u_ne (by first | exact nc_ rfl | decide | omega)).trans ((fl_u_ne (by first | exact nc_ rfl | decide | omega)).trans ((fl_u_ne (by first | exact nc_ rfl | decide | omega)).trans (fl_u_ne (by first | exact nc_ rfl | decide | omega)))))))
        have e102_ : F39_ 344 11 = F 344 11 := (s41_ 344 11 rfl).trans (e101_)
        have e103_ : F54_ 344 11 = F 344 11 := (s56_ 344 11 rfl).trans (e102_)
        have e104_ : F75_ 344 11 = F 344 11 := by rw [q76_]; exact (fl_u_ne (by first | exact nc_ rfl | decide | omega)).trans ((fl_u_ne (by first | exact nc_ rfl | decide | omega)).trans ((fl_u_ne (by first | exact nc_ rfl | decide | omega)).trans ((fl_u_ne (by first | exact nc_ rfl | decide | omega)).trans (e103_))))
        have e105_ : F30_ 344 60 = 0 := by rw [q31_]; exact fl_u_eq
        have e106_ : F39_ 344 60 = 0 := (s41_ 344 60 rfl).trans (e105_)
        have e107_ : F54_ 344 60 = 0 := (s56_ 344 60 rfl).trans (e106_)
        have e108_ : F75_ 344 60 = 0 := by rw [q76_]; exact (fl_u_ne (by first | exact nc_ rfl | decide | omega)).trans ((fl_u_ne (by first | exact nc_ rfl | decide | omega)).trans ((fl_u_ne (by first | exact nc_ rfl | decide | omega)).trans ((fl_u_ne (by first | exact nc_ rfl | decide | omega)).trans (e107_))))
        have b109_ : 0 ≤ F 344 12 ∧ F 344 12 ≤ 1 := gi_g hgi rfl
        have b110_ : 0 ≤ F 344 13 ∧ F 344 13 ≤ 1 := gi_g hgi rfl
        exact ⟨F75_, rfl, g77_, g78_, (⟨by omega, by omega⟩), (by omega), (pli_0 (by omega)), (fun h9_ => absurd h9_ (by omega)), (Or.inr ⟨by omega, Or.inl ⟨(F54_ 344 9, F54_ 344 10), c52_s, by show _ = F54_ 344 9 + 10 * F54_ 344 10; omega, by omega⟩⟩), (⟨fun h9_ => ⟨by omega, by omega⟩, fun h9_ => by omega, fun h9_ => by omega, fun h9_ => by omega, fun h9_ => by omega, fun h9_ => absurd h9_ (by omega)⟩)⟩
      exfalso; omega
    exfalso; omega
  subst hA_
  have g111_ : fs [(344, 344, 0, 1), (344, 344, 4, 5), (344, 344, 8, 10), (344, 344, 12, 13), (344, 344, 33, 33), (344, 344, 36, 36), (344, 344, 38, 39), (344, 344, 46, 48), (344, 344, 60, 60), (344, 344, 64, 64), (347, 348, 0, 100000), (358, 358, 5, 5), (360, 362, 40, 43), (363, 363, 80, 87), (364, 372, 0, 100000), (384, 384, 0, 100000)] F F60_ := fs_tr g42_ s62_ rfl
  have rk112_ : rk K F60_ := rk_fs hrk1 s62_ (fs_rg rfl) rfl
  obtain ⟨l, tl, co1_, co2_, co3_, co4_, co5_, co6_, co7_⟩ := c58_
  refine ga_aload_n (v := .ref 344) hm_64 rfl rfl rfl ?_
  refine gIi (nY := 1) (F := 0) (L := 0) (As := []) (b := 344) (rest := []) hm_64 rfl hm_62 rfl rfl (fl_ob sc_344) rfl rfl rfl rfl rfl (by omega) (by omega) ?_
  intro f113_ l114_ h115_ h116_
  show fl_R xi_ms 62 f113_ l114_ 0 [(0, .ref 344)] [] _ _
  refine ga_aload_n (v := .ref 344) hm_62 rfl rfl rfl ?_
  refine ga_aload_n (v := .ref 344) hm_62 rfl rfl rfl ?_
  have b117_ : 0 ≤ F60_ 344 9 ∧ F60_ 344 9 ≤ 5 := gi_g g61_ rfl
  refine ga_geti (z := F60_ 344 9) hm_62 rfl sc_344 rfl (rfl) ?_
  refine fx_if_ne (a := F60_ 344 9) hm_62 rfl ⟨by omega, by omega⟩ (fun h118_ => ?_) (fun h119_ => ?_)
  · exfalso; omega
  refine fl_iconst hm_62 rfl ?_
  refine fl_goto hm_62 rfl ?_
  refine ga_puti (z := 0) hm_62 rfl sc_344 rfl rfl ?_
  refine ga_aload_n (v := .ref 344) hm_62 rfl rfl rfl ?_
  refine fl_iconst hm_62 rfl ?_
  refine ga_puti (z := 0) hm_62 rfl sc_344 rfl rfl ?_
  refine ga_aload_n (v := .ref 344) hm_62 rfl rfl rfl ?_
  refine ga_aload_n (v := .ref 344) hm_62 rfl rfl rfl ?_
  refine ga_geti (z := F60_ 344 9) hm_62 rfl sc_344 rfl ((fl_u_ne (by first | exact nc_ rfl | decide | omega)).trans (fl_u_ne (by first | exact nc_ rfl | decide | omega))) ?_
  refine fx_if_ne (a := F60_ 344 9) hm_62 rfl ⟨by omega, by omega⟩ (fun h120_ => ?_) (fun h121_ => ?_)
  · exfalso; omega
  refine fl_iconst hm_62 rfl ?_
  refine fl_goto hm_62 rfl ?_
  refine ga_puti (z := 0) hm_62 rfl sc_344 rfl rfl ?_
  refine ga_aload_n (v := .ref 344) hm_62 rfl rfl rfl ?_
  refine ga_geti (z := 0) hm_62 rfl sc_344 rfl (fl_u_eq) ?_
  refine fl_if_ne hm_62 rfl ⟨by omega, by omega⟩ (fun h => absurd h (by omega)) (fun _ => ?_)
  refine fl_iconst hm_62 rfl ?_
  refine fl_goto hm_62 rfl ?_
  refine gr_i hm_62 rfl rfl (ga_nb (by omega)) ?_
  clear h115_ h116_ f113_ l114_
  refine fl_if_ne hm_64 rfl ⟨by omega, by omega⟩ (fun _ => ?_) (fun h => absurd (by omega) h)
  refine ga_aload_n (v := .ref 344) hm_64 rfl rfl rfl ?_
  refine ga_aload_n (v := .ref 344) hm_64 rfl rfl rfl ?_
  have b122_ : -9223372036854775808 ≤ F60_ 344 64 ∧ F60_ 344 64 ≤ 9223372036854775807 := gi_g g61_ rfl
  refine ga_getl (z := F60_ 344 64) hm_64 rfl sc_344 rfl ((fl_u_ne (by first | exact nc_ rfl | decide | omega)).trans ((fl_u_ne (by first | exact nc_ rfl | decide | omega)).trans (fl_u_ne (by first | exact nc_ rfl | decide | omega)))) ?_
  refine ga_putl hm_64 rfl sc_344 rfl rfl ?_
  refine ga_aload_n (v := .ref 344) hm_64 rfl rfl rfl ?_
  refine fl_iconst hm_64 rfl ?_
  refine ga_puti (z := 0) hm_64 rfl sc_344 rfl rfl ?_
  refine ga_aload_n (v := .ref 344) hm_64 rfl rfl rfl ?_
  have b123_ : 0 ≤ F60_ 344 36 ∧ F60_ 344 36 ≤ 216 := gi_g g61_ rfl
  refine ga_geti (z := F60_ 344 36) hm_64 rfl sc_344 rfl ((fl_u_ne (by first | exact nc_ rfl | decide | omega)).trans ((fl_u_ne (by first | exact nc_ rfl | decide | omega)).trans ((fl_u_ne (by first | exact nc_ rfl | decide | omega)).trans ((fl_u_ne (by first | exact nc_ rfl | decide | omega)).trans (fl_u_ne (by first | exact nc_ rfl | decide | omega)))))) ?_
  refine fl_bipush hm_64 rfl rfl ?_
  refine fl_icmp_gt (a := F60_ 344 36) (b := 40) hm_64 rfl ⟨by omega, by omega⟩ ⟨by omega, by omega⟩ (fun h124_ => ?_) (fun h125_ => ?_)
  ·
    refine fl_iconst hm_64 rfl ?_
    refine ga_istore_n (lv2 := [(1, .int (Int32.ofInt 0)), (0, .ref 344)]) hm_64 rfl (Nat.le_of_ble_eq_true rfl) rfl ?_
    obtain ⟨F126_, q127_⟩ : ∃ Fq_, Fq_ = (fl_u (fl_u (fl_u (fl_u (fl_u F60_ 344 8 0) 344 1 0) 344 0 0) 344 38 (F60_ 344 64)) 344 39 0) := ⟨_, rfl⟩
    rw [← q127_]
    have g128_ : gi F126_ := by rw [q127_]; exact gi_u (gi_u (gi_u (gi_u (gi_u (g61_) rfl (by omega) (by omega)) rfl (by omega) (by omega)) rfl (by omega) (by omega)) rfl (by omega) (by omega)) rfl (by omega) (by omega)
    have g129_ : fs [(344, 344, 0, 1), (344, 344, 4, 5), (344, 344, 8, 10), (344, 344, 12, 13), (344, 344, 33, 33), (344, 344, 36, 36), (344, 344, 38, 39), (344, 344, 46, 48), (344, 344, 60, 60), (344, 344, 64, 64), (347, 348, 0, 100000), (358, 358, 5, 5), (360, 362, 40, 43), (363, 363, 80, 87), (364, 372, 0, 100000), (384, 384, 0, 100000)] F F126_ := by rw [q127_]; exact fs_u (fs_u (fs_u (fs_u (fs_u (g111_) rfl) rfl) rfl) rfl) rfl
    have rk130_ : rk K F126_ := by rw [q127_]; exact rk_u (rk_u (rk_u (rk_u (rk_u (rk112_) (by first | decide | exact nc_ rfl | omega) (by first | decide | exact nc_ rfl | omega)) (by first | decide | exact nc_ rfl | omega) (by first | decide | exact nc_ rfl | omega)) (by first | decide | exact nc_ rfl | omega) (by first | decide | exact nc_ rfl | omega)) (by first | decide | exact nc_ rfl | omega) (by first | decide | exact nc_ rfl | omega)) (by first | decide | exact nc_ rfl | omega) (by first | decide | exact nc_ rfl | omega)
    have e131_ : F126_ 344 9 = F60_ 344 9 := by rw [q127_]; exact (fl_u_ne (by first | exact nc_ rfl | decide | omega)).trans ((fl_u_ne (by first | exact nc_ rfl | decide | omega)).trans ((fl_u_ne (by first | exact nc_ rfl | decide | omega)).trans ((fl_u_ne (by first | exact nc_ rfl | decide | omega)).trans (fl_u_ne (by first | exact nc_ rfl | decide | omega)))))
    have e132_ : F126_ 344 10 = F60_ 344 10 := by rw [q127_]; exact (fl_u_ne (by first | exact nc_ rfl | decide | omega)).trans ((fl_u_ne (by first | exact nc_ rfl | decide | omega)).trans ((fl_u_ne (by first | exact nc_ rfl | decide | omega)).trans ((fl_u_ne (by first | exact nc_ rfl | decide | omega)).trans (fl_u_ne (by first | exact nc_ rfl | decide | omega)))))
    have b133_ : 0 ≤ F60_ 344 10 ∧ F60_ 344 10 ≤ 600 := gi_g g61_ rfl
    have e134_ : F126_ 344 5 = F60_ 344 5 := by rw [q127_]; exact (fl_u_ne (by first | exact nc_ rfl | decide | omega)).trans ((fl_u_ne (by first | exact nc_ rfl | decide | omega)).trans ((fl_u_ne (by first | exact nc_ rfl | decide | omega)).trans ((fl_u_ne (by first | exact nc_ rfl | decide | omega)).trans (fl_u_ne (by first | exact nc_ rfl | decide | omega)))))
    have b135_ : 0 ≤ F60_ 344 5 ∧ F60_ 344 5 ≤ 600 := gi_g g61_ rfl
    have e136_ : F126_ 344 36 = F60_ 344 36 := by rw [q127_]; exact (fl_u_ne (by first | exact nc_ rfl | decide | omega)).trans ((fl_u_ne (by first | exact nc_ rfl | decide | omega)).trans ((fl_u_ne (by first | exact nc_ rfl | decide | omega)).trans ((fl_u_ne (by first | exact nc_ rfl | decide | omega)).trans (fl_u_ne (by first | exact nc_ rfl | decide | omega)))))
    have e137_ : F126_ 344 39 = 0 := by rw [q127_]; exact fl_u_eq
    have e138_ : F126_ 344 0 = 0 := by rw [q127_]; exact (fl_u_ne (by first | exact nc_ rfl | decide | omega)).trans ((fl_u_ne (by first | exact nc_ rfl | decide | omega)).trans (fl_u_eq))
    have e139_ : F126_ 344 8 = 0 := by rw [q127_]; exact (fl_u_ne (by first | exact nc_ rfl | decide | omega)).trans ((fl_u_ne (by first | exact nc_ rfl | decide | omega)).trans ((fl_u_ne (by first | exact nc_ rfl | decide | omega)).trans ((fl_u_ne (by first | exact nc_ rfl | decide | omega)).trans (fl_u_eq))))
    have e140_ : F126_ 344 1 = 0 := by rw [q127_]; exact (fl_u_ne (by first | exact nc_ rfl | decide | omega)).trans ((fl_u_ne (by first | exact nc_ rfl | decide | omega)).trans ((fl_u_ne (by first | exact nc_ rfl | decide | omega)).trans (fl_u_eq)))
    have e141_ : F30_ 344 12 = 0 := by rw [q31_]; exact (fl_u_ne (by first | exact nc_ rfl | decide | omega)).trans ((fl_u_ne (by first | exact nc_ rfl | decide | omega)).trans ((fl_u_ne (by first | exact nc_ rfl | decide | omega)).trans (fl_u_eq)))
    have e142_ : F39_ 344 12 = 0 := (s41_ 344 12 rfl).trans (e141_)
    have e143_ : F60_ 344 12 = 0 := (s62_ 344 12 rfl).trans (e142_)
    have e144_ : F126_ 344 12 = 0 := by rw [q127_]; exact (fl_u_ne (by first | exact nc_ rfl | decide | omega)).trans ((fl_u_ne (by first | exact nc_ rfl | decide | omega)).trans ((fl_u_ne (by first | exact nc_ rfl | decide | omega)).trans ((fl_u_ne (by first | exact nc_ rfl | decide | omega)).trans ((fl_u_ne (by first | exact nc_ rfl | decide | omega)).trans (e143_)))))
    have e145_ : F30_ 344 13 = 0 := by rw [q31_]; exact (fl_u_ne (by first | exact nc_ rfl | decide | omega)).trans ((fl_u_ne (by first | exact nc_ rfl | decide | omega)).trans (fl_u_eq))
    have e146_ : F39_ 344 13 = 0 := (s41_ 344 13 rfl).trans (e145_)
    have e147_ : F60_ 344 13 = 0 := (s62_ 344 13 rfl).trans (e146_)
    have e148_ : F126_ 344 13 = 0 := by rw [q127_]; exact (fl_u_ne (by first | exact nc_ rfl | decide | omega)).trans ((fl_u_ne (by first | exact nc_ rfl | decide | omega)).trans ((fl_u_ne (by first | exact nc_ rfl | decide | omega)).trans ((fl_u_ne (by first | exact nc_ rfl | decide | omega)).trans ((fl_u_ne (by first | exact nc_ rfl | decide | omega)).trans (e147_)))))
    have e149_ : F30_ 344 60 = 0 := by rw [q31_]; exact fl_u_eq
    have e150_ : F39_ 344 60 = 0 := (s41_ 344 60 rfl).trans (e149_)
    have e151_ : F60_ 344 60 = 0 := (s62_ 344 60 rfl).trans (e150_)
    have e152_ : F126_ 344 60 = 0 := by rw [q127_]; exact (fl_u_ne (by first | exact nc_ rfl | decide | omega)).trans ((fl_u_ne (by first | exact nc_ rfl | decide | omega)).trans ((fl_u_ne (by first | exact nc_ rfl | decide | omega)).trans ((fl_u_ne (by first | exact nc_ rfl | decide | omega)).trans ((fl_u_ne (by first | exact nc_ rfl | decide | omega)).trans (e151_)))))
    have e153_ : F126_ 344 38 = F60_ 344 64 := by rw [q127_]; exact (fl_u_ne (by first | exact nc_ rfl | decide | omega)).trans (fl_u_eq)
    exact mg_64_99v hG F X hgi K nm ts pl ps D hin htx hkw hdm hcs hpl hpb hDD fr lo hfr hlo F126_ (0) (l) (tl) g128_ g129_ (⟨by omega, by omega⟩) (by omega) (co1_) ((by rw [q127_]; exact (trm_u (trm_u (trm_u (trm_u (trm_u co2_ (by first | decide | exact nc_ rfl | omega)) (by first | decide | exact nc_ rfl | omega)) (by first | decide | exact nc_ rfl | omega)) (by first | decide | exact nc_ rfl | omega)) (by first | decide | exact nc_ rfl | omega)))) (Eq.trans ((show F126_ 344 36 = F60_ 344 36 from (by rw [q127_]; exact (fl_u_ne (by first | exact nc_ rfl | decide | omega)).trans ((fl_u_ne (by first | exact nc_ rfl | decide | omega)).trans ((fl_u_ne (by first | exact nc_ rfl | decide | omega)).trans ((fl_u_ne (by first | exact nc_ rfl | decide | omega)).trans ((fl_u_ne (by first | exact nc_ rfl | decide | omega))))))))) co3_) (fun h9_ => by have h8_ := co3_; omega) (fun h9_ => by have h8_ := co3_; omega) (rcl_lfr co5_ (show lfr 0 0 0 F60_ F126_ from (by rw [q127_]; exact (lfr_uo (lfr_uo (lfr_uo (lfr_uo (lfr_uo lfr_r rfl) rfl) rfl) rfl) rfl))) (Or.inr (Nat.zero_le _))) (Eq.trans ((show F126_ 358 5 = F60_ 358 5 from (by rw [q127_]; exact (fl_u_ne (by first | exact nc_ rfl | decide | omega)).trans ((fl_u_ne (by first | exact nc_ rfl | decide | omega)).trans ((fl_u_ne (by first | exact nc_ rfl | decide | omega)).trans ((fl_u_ne (by first | exact nc_ rfl | decide | omega)).trans ((fl_u_ne (by first | exact nc_ rfl | decide | omega))))))))) co6_) (by omega) (by omega) (by omega) (by omega) (⟨by omega, by omega⟩) (by omega) (fnr_cg co4_ (fun j => (show F126_ 366 j = F60_ 366 j from (by rw [q127_]; exact (fl_u_ne (by first | exact nc_ rfl | decide | omega)).trans ((fl_u_ne (by first | exact nc_ rfl | decide | omega)).trans ((fl_u_ne (by first | exact nc_ rfl | decide | omega)).trans ((fl_u_ne (by first | exact nc_ rfl | decide | omega)).trans ((fl_u_ne (by first | exact nc_ rfl | decide | omega)))))))))) (fun h9_ => by rw [(show F126_ 366 = F60_ 366 from funext (fun j => (show F126_ 366 j = F60_ 366 j from (by rw [q127_]; exact (fl_u_ne (by first | exact nc_ rfl | decide | omega)).trans ((fl_u_ne (by first | exact nc_ rfl | decide | omega)).trans ((fl_u_ne (by first | exact nc_ rfl | decide | omega)).trans ((fl_u_ne (by first | exact nc_ rfl | decide | omega)).trans ((fl_u_ne (by first | exact nc_ rfl | decide | omega))))))))))]; exact Eq.trans (e153_) (co7_ (by omega)))
  refine fl_iconst hm_64 rfl ?_
  refine fl_goto hm_64 rfl ?_
  refine ga_istore_n (lv2 := [(1, .int (Int32.ofInt 1)), (0, .ref 344)]) hm_64 rfl (Nat.le_of_ble_eq_true rfl) rfl ?_
  obtain ⟨F154_, q155_⟩ : ∃ Fq_, Fq_ = (fl_u (fl_u (fl_u (fl_u (fl_u F60_ 344 8 0) 344 1 0) 344 0 0) 344 38 (F60_ 344 64)) 344 39 0) := ⟨_, rfl⟩
  rw [← q155_]
  have g156_ : gi F154_ := by rw [q155_]; exact gi_u (gi_u (gi_u (gi_u (gi_u (g61_) rfl (by omega) (by omega)) rfl (by omega) (by omega)) rfl (by omega) (by omega)) rfl (by omega) (by omega)) rfl (by omega) (by omega)
  have g157_ : fs [(344, 344, 0, 1), (344, 344, 4, 5), (344, 344, 8, 10), (344, 344, 12, 13), (344, 344, 33, 33), (344, 344, 36, 36), (344, 344, 38, 39), (344, 344, 46, 48), (344, 344, 60, 60), (344, 344, 64, 64), (347, 348, 0, 100000), (358, 358, 5, 5), (360, 362, 40, 43), (363, 363, 80, 87), (364, 372, 0, 100000), (384, 384, 0, 100000)] F F154_ := by rw [q155_]; exact fs_u (fs_u (fs_u (fs_u (fs_u (g111_) rfl) rfl) rfl) rfl) rfl
  have rk158_ : rk K F154_ := by rw [q155_]; exact rk_u (rk_u (rk_u (rk_u (rk_u (rk112_) (by first | decide | exact nc_ rfl | omega) (by first | decide | exact nc_ rfl | omega)) (by first | decide | exact nc_ rfl | omega) (by first | decide | exact nc_ rfl | omega)) (by first | decide | exact nc_ rfl | omega) (by first | decide | exact nc_ rfl | omega)) (by first | decide | exact nc_ rfl | omega) (by first | decide | exact nc_ rfl | omega)) (by first | decide | exact nc_ rfl | omega) (by first | decide | exact nc_ rfl | omega)
  have e159_ : F154_ 344 9 = F60_ 344 9 := by rw [q155_]; exact (fl_u_ne (by first | exact nc_ rfl | decide | omega)).trans ((fl_u_ne (by first | exact nc_ rfl | decide | omega)).trans ((fl_u_ne (by first | exact nc_ rfl | decide | omega)).trans ((fl_u_ne (by first | exact nc_ rfl | decide | omega)).trans (fl_u_ne (by first | exact nc_ rfl | decide | omega)))))
  have e160_ : F154_ 344 10 = F60_ 344 10 := by rw [q155_]; exact (fl_u_ne (by first | exact nc_ rfl | decide | omega)).trans ((fl_u_ne (by first | exact nc_ rfl | decide | omega)).trans ((fl_u_ne (by first | exact nc_ rfl | decide | omega)).trans ((fl_u_ne (by first | exact nc_ rfl | decide | omega)).trans (fl_u_ne (by first | exact nc_ rfl | decide | omega)))))
  have b161_ : 0 ≤ F60_ 344 10 ∧ F60_ 344 10 ≤ 600 := gi_g g61_ rfl
  have e162_ : F154_ 344 5 = F60_ 344 5 := by rw [q155_]; exact (fl_u_ne (by first | exact nc_ rfl | decide | omega)).trans ((fl_u_ne (by first | exact nc_ rfl | decide | omega)).trans ((fl_u_ne (by first | exact nc_ rfl | decide | omega)).trans ((fl_u_ne (by first | exact nc_ rfl | decide | omega)).trans (fl_u_ne (by first | exact nc_ rfl | decide | omega)))))
  have b163_ : 0 ≤ F60_ 344 5 ∧ F60_ 344 5 ≤ 600 := gi_g g61_ rfl
  have e164_ : F154_ 344 36 = F60_ 344 36 := by rw [q155_]; exact (fl_u_ne (by first | exact nc_ rfl | decide | omega)).trans ((fl_u_ne (by first | exact nc_ rfl | decide | omega)).trans ((fl_u_ne (by first | exact nc_ rfl | decide | omega)).trans ((fl_u_ne (by first | exact nc_ rfl | decide | omega)).trans (fl_u_ne (by first | exact nc_ rfl | decide | omega)))))
  have e165_ : F154_ 344 39 = 0 := by rw [q155_]; exact fl_u_eq
  have e166_ : F154_ 344 0 = 0 := by rw [q155_]; exact (fl_u_ne (by first | exact nc_ rfl | decide | omega)).trans ((fl_u_ne (by first | exact nc_ rfl | decide | omega)).trans (fl_u_eq))
  have e167_ : F154_ 344 8 = 0 := by rw [q155_]; exact (fl_u_ne (by first | exact nc_ rfl | decide | omega)).trans ((fl_u_ne (by first | exact nc_ rfl | decide | omega)).trans ((fl_u_ne (by first | exact nc_ rfl | decide | omega)).trans ((fl_u_ne (by first | exact nc_ rfl | decide | omega)).trans (fl_u_eq))))
  have e168_ : F154_ 344 1 = 0 := by rw [q155_]; exact (fl_u_ne (by first | exact nc_ rfl | decide | omega)).trans ((fl_u_ne (by first | exact nc_ rfl | decide | omega)).trans ((fl_u_ne (by first | exact nc_ rfl | decide | omega)).trans (fl_u_eq)))
  have e169_ : F30_ 344 12 = 0 := by rw [q31_]; exact (fl_u_ne (by first | exact nc_ rfl | decide | omega)).trans ((fl_u_ne (by first | exact nc_ rfl | decide | omega)).trans ((fl_u_ne (by first | exact nc_ rfl | decide | omega)).trans (fl_u_eq)))
  have e170_ : F39_ 344 12 = 0 := (s41_ 344 12 rfl).trans (e169_)
  have e171_ : F60_ 344 12 = 0 := (s62_ 344 12 rfl).trans (e170_)
  have e172_ : F154_ 344 12 = 0 := by rw [q155_]; exact (fl_u_ne (by first | exact nc_ rfl | decide | omega)).trans ((fl_u_ne (by first | exact nc_ rfl | decide | omega)).trans ((fl_u_ne (by first | exact nc_ rfl | decide | omega)).trans ((fl_u_ne (by first | exact nc_ rfl | decide | omega)).trans ((fl_u_ne (by first | exact nc_ rfl | decide | omega)).trans (e171_)))))
  have e173_ : F30_ 344 13 = 0 := by rw [q31_]; exact (fl_u_ne (by first | exact nc_ rfl | decide | omega)).trans ((fl_u_ne (by first | exact nc_ rfl | decide | omega)).trans (fl_u_eq))
  have e174_ : F39_ 344 13 = 0 := (s41_ 344 13 rfl).trans (e173_)
  have e175_ : F60_ 344 13 = 0 := (s62_ 344 13 rfl).trans (e174_)
  have e176_ : F154_ 344 13 = 0 := by rw [q155_]; exact (fl_u_ne (by first | exact nc_ rfl | decide | omega)).trans ((fl_u_ne (by first | exact nc_ rfl | decide | omega)).trans ((fl_u_ne (by first | exact nc_ rfl | decide | omega)).trans ((fl_u_ne (by first | exact nc_ rfl | decide | omega)).trans ((fl_u_ne (by first | exact nc_ rfl | decide | omega)).trans (e175_)))))
  have e177_ : F30_ 344 60 = 0 := by rw [q31_]; exact fl_u_eq
  have e178_ : F39_ 344 60 = 0 := (s41_ 344 60 rfl).trans (e177_)
  have e179_ : F60_ 344 60 = 0 := (s62_ 344 60 rfl).trans (e178_)
  have e180_ : F154_ 344 60 = 0 := by rw [q155_]; exact (fl_u_ne (by first | exact nc_ rfl | decide | omega)).trans ((fl_u_ne (by first | exact nc_ rfl | decide | omega)).trans ((fl_u_ne (by first | exact nc_ rfl | decide | omega)).trans ((fl_u_ne (by first | exact nc_ rfl | decide | omega)).trans ((fl_u_ne (by first | exact nc_ rfl | decide | omega)).trans (e179_)))))
  have e181_ : F154_ 344 38 = F60_ 344 64 := by rw [q155_]; exact (fl_u_ne (by first | exact nc_ rfl | decide | omega)).trans (fl_u_eq)
  exact mg_64_99v hG F X hgi K nm ts pl ps D hin htx hkw hdm hcs hpl hpb hDD fr lo hfr hlo F154_ (1) (l) (tl) g156_ g157_ (⟨by omega, by omega⟩) (by omega) (co1_) ((by rw [q155_]; exact (trm_u (trm_u (trm_u (trm_u (trm_u co2_ (by first | decide | exact nc_ rfl | omega)) (by first | decide | exact nc_ rfl | omega)) (by first | decide | exact nc_ rfl | omega)) (by first | decide | exact nc_ rfl | omega)) (by first | decide | exact nc_ rfl | omega)))) (Eq.trans ((show F154_ 344 36 = F60_ 344 36 from (by rw [q155_]; exact (fl_u_ne (by first | exact nc_ rfl | decide | omega)).trans ((fl_u_ne (by first | exact nc_ rfl | decide | omega)).trans ((fl_u_ne (by first | exact nc_ rfl | decide | omega)).trans ((fl_u_ne (by first | exact nc_ rfl | decide | omega)).trans ((fl_u_ne (by first | exact nc_ rfl | decide | omega))))))))) co3_) (fun h9_ => by have h8_ := co3_; omega) (fun h9_ => by have h8_ := co3_; omega) (rcl_lfr co5_ (show lfr 0 0 0 F60_ F154_ from (by rw [q155_]; exact (lfr_uo (lfr_uo (lfr_uo (lfr_uo (lfr_uo lfr_r rfl) rfl) rfl) rfl) rfl))) (Or.inr (Nat.zero_le _))) (Eq.trans ((show F154_ 358 5 = F60_ 358 5 from (by rw [q155_]; exact (fl_u_ne (by first | exact nc_ rfl | decide | omega)).trans ((fl_u_ne (by first | exact nc_ rfl | decide | omega)).trans ((fl_u_ne (by first | exact nc_ rfl | decide | omega)).trans ((fl_u_ne (by first | exact nc_ rfl | decide | omega)).trans ((fl_u_ne (by first | exact nc_ rfl | decide | omega))))))))) co6_) (by omega) (by omega) (by omega) (by omega) (⟨by omega, by omega⟩) (by omega) (fnr_cg co4_ (fun j => (show F154_ 366 j = F60_ 366 j from (by rw [q155_]; exact (fl_u_ne (by first | exact nc_ rfl | decide | omega)).trans ((fl_u_ne (by first | exact nc_ rfl | decide | omega)).trans ((fl_u_ne (by first | exact nc_ rfl | decide | omega)).trans ((fl_u_ne (by first | exact nc_ rfl | decide | omega)).trans ((fl_u_ne (by first | exact nc_ rfl | decide | omega)))))))))) (fun h9_ => by rw [(show F154_ 366 = F60_ 366 from funext (fun j => (show F154_ 366 j = F60_ 366 j from (by rw [q155_]; exact (fl_u_ne (by first | exact nc_ rfl | decide | omega)).trans ((fl_u_ne (by first | exact nc_ rfl | decide | omega)).trans ((fl_u_ne (by first | exact nc_ rfl | decide | omega)).trans ((fl_u_ne (by first | exact nc_ rfl | decide | omega)).trans ((fl_u_ne (by first | exact nc_ rfl | decide | omega))))))))))]; exact Eq.trans (e181_) (co7_ (by omega)))

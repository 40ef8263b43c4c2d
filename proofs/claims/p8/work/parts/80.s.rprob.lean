set_option maxHeartbeats 16000000 in
theorem mc_64v {G : Nat → Nat → Option Nat} (hG : gg G) (F : fl_N) (X : xi_H) (hgi : gi F) (K : fl_N) (nm : Int) (ts pl : List Int) (ps : List (List Int)) (D : List ad_T) (hin : kin K (F 344 1)) (htx : ∀ j : Nat, (j : Int) < F 344 1 → F 345 j = K 2 j) (hkw : ∀ j : Nat, j < 76 → F 346 j = ra_at 346 j) (hdm : F 344 11 = 1 → nrel nm (F 344 14) ∧ rpn (F 349) (F 344 15) ts ∧ rpn (F 350) (F 344 17) pl ∧ (rprd F ps ∧ ps.length = pl.length)) (hcs : F 344 11 = 1 → ∀ j : Nat, (j : Int) < F 344 21 → 0 ≤ F 357 j) (hpl : pli F) (hpb : F 344 12 = 1 → sob F ∧ F 344 36 ≤ 40) (hDD : F 344 11 = 1 → rdar F D ∧ (D.length : Int) = F 344 21 ∧ ∀ d ∈ D, adok ps d ∧ d.1.length ≤ 3) : fl_M xi_ms 64 8 188 [.ref 344] (fl_H sh_T G F ++ X) (pq_64v G F X K nm ts pl ps D) := by
  intro fr lo hfr hlo
  show fl_R xi_ms 64 fr lo 0 [(0, .ref 344)] [] _ _
  have hb1 : 0 ≤ F 344 1 ∧ F 344 1 ≤ 600 := gi_g hgi rfl
  have hb11 : 0 ≤ F 344 11 ∧ F 344 11 ≤ 1 := gi_g hgi rfl
  refine ga_aload_n (v := .ref 344) hm_64 rfl rfl rfl ?_
  refine ga_aload_n (v := .ref 344) hm_64 rfl rfl rfl ?_
  have b1_ : 0 ≤ F 344 11 ∧ F 344 11 ≤ 1 := gi_g hgi rfl
  refine ga_geti (z := F 344 11) hm_64 rfl sc_344 rfl (rfl) ?_
  refine fl_if_eq (a := F 344 11) hm_64 rfl ⟨by omega, by omega⟩ (fun h2_ => ?_) (fun h3_ => ?_)
  ·
    refine fl_iconst hm_64 rfl ?_
    refine ga_puti (z := 1) hm_64 rfl sc_344 rfl rfl ?_
    refine ga_aload_n (v := .ref 344) hm_64 rfl rfl rfl ?_
    refine ga_geti (z := 1) hm_64 rfl sc_344 rfl (fl_u_eq) ?_
    refine fl_if_le hm_64 rfl ⟨by omega, by omega⟩ (fun h => absurd h (by omega)) (fun _ => ?_)
    refine fl_iconst hm_64 rfl ?_
    obtain ⟨F4_, q5_⟩ : ∃ Fq_, Fq_ = (fl_u F 344 0 1) := ⟨_, rfl⟩
    rw [← q5_]
    have g6_ : gi F4_ := by rw [q5_]; exact gi_u (hgi) rfl (by omega) (by omega)
    have g7_ : fs [(344, 344, 0, 1), (344, 344, 4, 5), (344, 344, 8, 10), (344, 344, 12, 13), (344, 344, 33, 33), (344, 344, 36, 36), (344, 344, 38, 39), (344, 344, 46, 48), (344, 344, 60, 60), (344, 344, 64, 64), (347, 348, 0, 100000), (358, 358, 5, 5), (360, 362, 40, 43), (363, 363, 80, 87), (364, 372, 0, 100000), (384, 384, 0, 100000)] F F4_ := by rw [q5_]; exact fs_u (fs_refl) rfl
    refine gr_i (z := 0) hm_64 rfl rfl rfl ?_
    have e8_ : F4_ 344 1 = F 344 1 := by rw [q5_]; exact fl_u_ne (by first | exact nc_ rfl | decide | omega)
    have b9_ : 0 ≤ F 344 1 ∧ F 344 1 ≤ 600 := gi_g hgi rfl
    have e10_ : F4_ 344 13 = F 344 13 := by rw [q5_]; exact fl_u_ne (by first | exact nc_ rfl | decide | omega)
    have e11_ : F4_ 344 12 = F 344 12 := by rw [q5_]; exact fl_u_ne (by first | exact nc_ rfl | decide | omega)
    have b12_ : 0 ≤ F 344 12 ∧ F 344 12 ≤ 1 := gi_g hgi rfl
    have e13_ : F4_ 344 36 = F 344 36 := by rw [q5_]; exact fl_u_ne (by first | exact nc_ rfl | decide | omega)
    have b14_ : 0 ≤ F 344 36 ∧ F 344 36 ≤ 216 := gi_g hgi rfl
    have e15_ : F4_ 344 0 = 1 := by rw [q5_]; exact fl_u_eq
    have e16_ : F4_ 344 39 = F 344 39 := by rw [q5_]; exact fl_u_ne (by first | exact nc_ rfl | decide | omega)
    have b17_ : 0 ≤ F 344 39 ∧ F 344 39 ≤ 40 := gi_g hgi rfl
    have e18_ : F4_ 344 8 = F 344 8 := by rw [q5_]; exact fl_u_ne (by first | exact nc_ rfl | decide | omega)
    have b19_ : 0 ≤ F 344 8 ∧ F 344 8 ≤ 100000 := gi_g hgi rfl
    have e20_ : F4_ 344 11 = F 344 11 := by rw [q5_]; exact fl_u_ne (by first | exact nc_ rfl | decide | omega)
    have b21_ : 0 ≤ F 344 13 ∧ F 344 13 ≤ 1 := gi_g hgi rfl
    have e22_ : F4_ 344 60 = F 344 60 := by rw [q5_]; exact fl_u_ne (by first | exact nc_ rfl | decide | omega)
    have b23_ : 0 ≤ F 344 60 ∧ F 344 60 ≤ 60 := gi_g hgi rfl
    exact ⟨F4_, rfl, g6_, g7_, (⟨by omega, by omega⟩), (by omega), (pli_cg hpl (show F4_ 344 13 = F 344 13 from (by rw [q5_]; exact (fl_u_ne (by first | exact nc_ rfl | decide | omega)))) (show F4_ 344 58 = F 344 58 from (by rw [q5_]; exact (fl_u_ne (by first | exact nc_ rfl | decide | omega)))) (fun j => (show F4_ 354 j = F 354 j from (by rw [q5_]; exact (fl_u_ne (by first | exact nc_ rfl | decide | omega))))) (fun j => (show F4_ 367 j = F 367 j from (by rw [q5_]; exact (fl_u_ne (by first | exact nc_ rfl | decide | omega))))) (fun j => (show F4_ 368 j = F 368 j from (by rw [q5_]; exact (fl_u_ne (by first | exact nc_ rfl | decide | omega))))) (fun j => (show F4_ 381 j = F 381 j from (by rw [q5_]; exact (fl_u_ne (by first | exact nc_ rfl | decide | omega)))))), (fun h9_ => by have h8_ := hpb (by omega); have h7_ : F4_ 344 36 = F 344 36 := (show F4_ 344 36 = F 344 36 from (by rw [q5_]; exact (fl_u_ne (by first | exact nc_ rfl | decide | omega)))); exact ⟨sob_cg h8_.1 (show F4_ 344 39 = F 344 39 from (by rw [q5_]; exact (fl_u_ne (by first | exact nc_ rfl | decide | omega)))) (fun j => (show F4_ 357 j = F 357 j from (by rw [q5_]; exact (fl_u_ne (by first | exact nc_ rfl | decide | omega))))) (fun j => (show F4_ 367 j = F 367 j from (by rw [q5_]; exact (fl_u_ne (by first | exact nc_ rfl | decide | omega))))) (fun j => (show F4_ 354 j = F 354 j from (by rw [q5_]; exact (fl_u_ne (by first | exact nc_ rfl | decide | omega))))) (fun j => (show F4_ 368 j = F 368 j from (by rw [q5_]; exact (fl_u_ne (by first | exact nc_ rfl | decide | omega))))), by omega⟩), (Or.inl ⟨by omega, by omega, by omega⟩), (⟨fun h9_ => ⟨by omega, by omega⟩, fun h9_ => by omega, fun h9_ => by omega, fun h9_ => by omega, fun h9_ => by omega⟩)⟩
  refine fl_iconst hm_64 rfl ?_
  refine fl_goto hm_64 rfl ?_
  refine ga_puti (z := 0) hm_64 rfl sc_344 rfl rfl ?_
  refine ga_aload_n (v := .ref 344) hm_64 rfl rfl rfl ?_
  refine ga_geti (z := 0) hm_64 rfl sc_344 rfl (fl_u_eq) ?_
  refine fl_if_le hm_64 rfl ⟨by omega, by omega⟩ (fun _ => ?_) (fun h => absurd (by omega) h)
  obtain ⟨hnm, hts, hrpl, hps⟩ := hdm (by omega)
  obtain ⟨hD, hDl, hDw⟩ := hDD (by omega)
  have hb21 : 0 ≤ F 344 21 ∧ F 344 21 ≤ 5 := gi_g hgi rfl
  refine ga_aload_n (v := .ref 344) hm_64 rfl rfl rfl ?_
  refine gIv (nY := 1) (F := 0) (L := 0) (As := []) (b := 344) (rest := []) hm_64 rfl hm_48 rfl rfl (fl_ob sc_344) rfl rfl rfl rfl rfl (by omega) (by omega) ?_
  intro f24_ l25_ h26_ h27_
  show fl_R xi_ms 48 f24_ l25_ 0 [(0, .ref 344)] [] _ _
  refine ga_aload_n (v := .ref 344) hm_48 rfl rfl rfl ?_
  refine fl_iconst hm_48 rfl ?_
  refine ga_puti (z := 0) hm_48 rfl sc_344 rfl rfl ?_
  refine ga_aload_n (v := .ref 344) hm_48 rfl rfl rfl ?_
  refine fl_iconst hm_48 rfl ?_
  refine ga_puti (z := 0) hm_48 rfl sc_344 rfl rfl ?_
  refine gr_v hm_48 rfl rfl ?_
  clear h26_ h27_ f24_ l25_
  refine ga_aload_n (v := .ref 344) hm_64 rfl rfl rfl ?_
  refine fl_iconst hm_64 rfl ?_
  refine ga_putz (z := 0) hm_64 rfl sc_344 rfl rfl (by omega) ?_
  refine ga_aload_n (v := .ref 344) hm_64 rfl rfl rfl ?_
  refine fl_iconst hm_64 rfl ?_
  refine ga_putz (z := 0) hm_64 rfl sc_344 rfl rfl (by omega) ?_
  refine ga_aload_n (v := .ref 344) hm_64 rfl rfl rfl ?_
  refine fl_iconst hm_64 rfl ?_
  refine ga_puti (z := 0) hm_64 rfl sc_344 rfl rfl ?_
  refine ga_aload_n (v := .ref 344) hm_64 rfl rfl rfl ?_
  refine fl_iconst hm_64 rfl ?_
  refine ga_puti (z := 0) hm_64 rfl sc_344 rfl rfl ?_
  refine ga_aload_n (v := .ref 344) hm_64 rfl rfl rfl ?_
  obtain ⟨F28_, q29_⟩ : ∃ Fq_, Fq_ = (fl_u (fl_u (fl_u (fl_u (fl_u (fl_u (fl_u F 344 0 0) 344 9 0) 344 10 0) 344 12 0) 344 13 0) 344 33 0) 344 60 0) := ⟨_, rfl⟩
  rw [← q29_]
  have g30_ : gi F28_ := by rw [q29_]; exact gi_u (gi_u (gi_u (gi_u (gi_u (gi_u (gi_u (hgi) rfl (by omega) (by omega)) rfl (by omega) (by omega)) rfl (by omega) (by omega)) rfl (by omega) (by omega)) rfl (by omega) (by omega)) rfl (by omega) (by omega)) rfl (by omega) (by omega)
  have g31_ : fs [(344, 344, 0, 1), (344, 344, 4, 5), (344, 344, 8, 10), (344, 344, 12, 13), (344, 344, 33, 33), (344, 344, 36, 36), (344, 344, 38, 39), (344, 344, 46, 48), (344, 344, 60, 60), (344, 344, 64, 64), (347, 348, 0, 100000), (358, 358, 5, 5), (360, 362, 40, 43), (363, 363, 80, 87), (364, 372, 0, 100000), (384, 384, 0, 100000)] F F28_ := by rw [q29_]; exact fs_u (fs_u (fs_u (fs_u (fs_u (fs_u (fs_u (fs_refl) rfl) rfl) rfl) rfl) rfl) rfl) rfl
  refine gVv (nY := 3) (F := 0) (L := 0) (As := []) (b := 344) (rest := []) hm_64 rfl hm_49 rfl rfl (fl_ob sc_344) rfl rfl rfl rfl rfl (by omega) (by omega) (mc_49 hG F28_ X g30_) (fun _ _ h => False.elim h) ?_
  have e33_ : F28_ 344 1 = F 344 1 := by rw [q29_]; exact (fl_u_ne (by first | exact nc_ rfl | decide | omega)).trans ((fl_u_ne (by first | exact nc_ rfl | decide | omega)).trans ((fl_u_ne (by first | exact nc_ rfl | decide | omega)).trans ((fl_u_ne (by first | exact nc_ rfl | decide | omega)).trans ((fl_u_ne (by first | exact nc_ rfl | decide | omega)).trans ((fl_u_ne (by first | exact nc_ rfl | decide | omega)).trans (fl_u_ne (by first | exact nc_ rfl | decide | omega)))))))
  have b34_ : 0 ≤ F 344 1 ∧ F 344 1 ≤ 600 := gi_g hgi rfl
  rintro A1_ ⟨F37_, hA_, g38_, s39_, c35_, c36_⟩
  subst hA_
  have g40_ : fs [(344, 344, 0, 1), (344, 344, 4, 5), (344, 344, 8, 10), (344, 344, 12, 13), (344, 344, 33, 33), (344, 344, 36, 36), (344, 344, 38, 39), (344, 344, 46, 48), (344, 344, 60, 60), (344, 344, 64, 64), (347, 348, 0, 100000), (358, 358, 5, 5), (360, 362, 40, 43), (363, 363, 80, 87), (364, 372, 0, 100000), (384, 384, 0, 100000)] F F37_ := fs_tr g31_ s39_ rfl
  try simp only [e33_] at c35_
  have hgK : gi K := hin.1
  have hkt : rkt K := rkt_of hin
  have hko := hkt.1
  have hk16 := hko.1
  have hrk1 : rk K F37_ := rk_of (n := F 344 1) hin (fun j hj => Eq.trans (show F28_ 345 j = F 345 j from (by rw [q29_]; exact (fl_u_ne (by first | exact nc_ rfl | decide | omega)).trans ((fl_u_ne (by first | exact nc_ rfl | decide | omega)).trans ((fl_u_ne (by first | exact nc_ rfl | decide | omega)).trans ((fl_u_ne (by first | exact nc_ rfl | decide | omega)).trans ((fl_u_ne (by first | exact nc_ rfl | decide | omega)).trans ((fl_u_ne (by first | exact nc_ rfl | decide | omega)).trans ((fl_u_ne (by first | exact nc_ rfl | decide | omega)))))))))) (htx j hj)) c35_ (fun j => (show F37_ 345 j = F28_ 345 j from (s39_ 345 j (by first | exact fs_c rfl | exact (fs_n (by omega) (fs_n (by omega) rfl)))))) (fun j hj => Eq.trans (Eq.trans (a := F37_ 346 j) (b := F28_ 346 j) (s39_ 346 j (by first | exact fs_c rfl | exact (fs_n (by omega) (fs_n (by omega) rfl)))) (show F28_ 346 j = F 346 j from (by rw [q29_]; exact (fl_u_ne (by first | exact nc_ rfl | decide | omega)).trans ((fl_u_ne (by first | exact nc_ rfl | decide | omega)).trans ((fl_u_ne (by first | exact nc_ rfl | decide | omega)).trans ((fl_u_ne (by first | exact nc_ rfl | decide | omega)).trans ((fl_u_ne (by first | exact nc_ rfl | decide | omega)).trans ((fl_u_ne (by first | exact nc_ rfl | decide | omega)).trans ((fl_u_ne (by first | exact nc_ rfl | decide | omega))))))))))) (hkw j hj))
  refine ga_aload_n (v := .ref 344) hm_64 rfl rfl rfl ?_
  have b41_ : 0 ≤ F37_ 344 5 ∧ F37_ 344 5 ≤ 600 := gi_g g38_ rfl
  have e42_ : F28_ 344 9 = 0 := by rw [q29_]; exact (fl_u_ne (by first | exact nc_ rfl | decide | omega)).trans ((fl_u_ne (by first | exact nc_ rfl | decide | omega)).trans ((fl_u_ne (by first | exact nc_ rfl | decide | omega)).trans ((fl_u_ne (by first | exact nc_ rfl | decide | omega)).trans ((fl_u_ne (by first | exact nc_ rfl | decide | omega)).trans (fl_u_eq)))))
  have e43_ : F37_ 344 9 = 0 := (s39_ 344 9 rfl).trans (e42_)
  have e44_ : F28_ 344 33 = 0 := by rw [q29_]; exact (fl_u_ne (by first | exact nc_ rfl | decide | omega)).trans (fl_u_eq)
  have e45_ : F37_ 344 33 = 0 := (s39_ 344 33 rfl).trans (e44_)
  refine gVv (nY := 4) (F := 7) (L := 165) (As := []) (b := 344) (rest := []) hm_64 rfl hm_184 rfl rfl (fl_ob sc_344) rfl rfl rfl rfl rfl (by omega) (by omega) (mc_184 hG F37_ X g38_ (K) (nm) (ts) (pl) (ps) (hgK) hrk1 (hkt) (⟨by omega, by omega⟩) (by omega) (by omega) (by rw [show F37_ 344 14 = F 344 14 from (Eq.trans (a := F37_ 344 14) (b := F28_ 344 14) (s39_ 344 14 (by first | exact fs_c rfl | exact (fs_n (by omega) (fs_n (by omega) rfl)))) (show F28_ 344 14 = F 344 14 from (by rw [q29_]; exact (fl_u_ne (by first | exact nc_ rfl | decide | omega)).trans ((fl_u_ne (by first | exact nc_ rfl | decide | omega)).trans ((fl_u_ne (by first | exact nc_ rfl | decide | omega)).trans ((fl_u_ne (by first | exact nc_ rfl | decide | omega)).trans ((fl_u_ne (by first | exact nc_ rfl | decide | omega)).trans ((fl_u_ne (by first | exact nc_ rfl | decide | omega)).trans ((fl_u_ne (by first | exact nc_ rfl | decide | omega)))))))))))]; exact hnm) ((rpn_fs (by rw [q29_]; exact (rpn_u (rpn_u (rpn_u (rpn_u (rpn_u (rpn_u (rpn_u hts (by first | decide | exact nc_ rfl | omega) (by first | decide | exact nc_ rfl | omega)) (by first | decide | exact nc_ rfl | omega) (by first | decide | exact nc_ rfl | omega)) (by first | decide | exact nc_ rfl | omega) (by first | decide | exact nc_ rfl | omega)) (by first | decide | exact nc_ rfl | omega) (by first | decide | exact nc_ rfl | omega)) (by first | decide | exact nc_ rfl | omega) (by first | decide | exact nc_ rfl | omega)) (by first | decide | exact nc_ rfl | omega) (by first | decide | exact nc_ rfl | omega)) (by first | decide | exact nc_ rfl | omega) (by first | decide | exact nc_ rfl | omega))) s39_ (fun _ => (by first | exact fs_c rfl | exact (fs_n (by omega) (fs_n (by omega) rfl)))) (by first | exact fs_c rfl | exact (fs_n (by omega) (fs_n (by omega) rfl))))) ((rpn_fs (by rw [q29_]; exact (rpn_u (rpn_u (rpn_u (rpn_u (rpn_u (rpn_u (rpn_u hrpl (by first | decide | exact nc_ rfl | omega) (by first | decide | exact nc_ rfl | omega)) (by first | decide | exact nc_ rfl | omega) (by first | decide | exact nc_ rfl | omega)) (by first | decide | exact nc_ rfl | omega) (by first | decide | exact nc_ rfl | omega)) (by first | decide | exact nc_ rfl | omega) (by first | decide | exact nc_ rfl | omega)) (by first | decide | exact nc_ rfl | omega) (by first | decide | exact nc_ rfl | omega)) (by first | decide | exact nc_ rfl | omega) (by first | decide | exact nc_ rfl | omega)) (by first | decide | exact nc_ rfl | omega) (by first | decide | exact nc_ rfl | omega))) s39_ (fun _ => (by first | exact fs_c rfl | exact (fs_n (by omega) (fs_n (by omega) rfl)))) (by first | exact fs_c rfl | exact (fs_n (by omega) (fs_n (by omega) rfl))))) (⟨(rprd_fs (by rw [q29_]; exact (rprd_u (rprd_u (rprd_u (rprd_u (rprd_u (rprd_u (rprd_u hps.1 (by first | decide | exact nc_ rfl | omega)) (by first | decide | exact nc_ rfl | omega)) (by first | decide | exact nc_ rfl | omega)) (by first | decide | exact nc_ rfl | omega)) (by first | decide | exact nc_ rfl | omega)) (by first | decide | exact nc_ rfl | omega)) (by first | decide | exact nc_ rfl | omega))) s39_ (by first | exact fs_rg rfl | exact fun r j hj => (fs_n (by omega) (fs_n (by omega) rfl)))), hps.2⟩) (by omega)) (fun _ _ h => False.elim h) ?_
  have e47_ : F28_ 344 10 = 0 := by rw [q29_]; exact (fl_u_ne (by first | exact nc_ rfl | decide | omega)).trans ((fl_u_ne (by first | exact nc_ rfl | decide | omega)).trans ((fl_u_ne (by first | exact nc_ rfl | decide | omega)).trans ((fl_u_ne (by first | exact nc_ rfl | decide | omega)).trans (fl_u_eq))))
  have e48_ : F37_ 344 10 = 0 := (s39_ 344 10 rfl).trans (e47_)
  rintro A1_ (⟨F52_, hA_, g53_, s54_, c49_, c50_, c51_⟩ | ⟨F58_, hA_, g59_, s60_, c55_, c56_, c57_⟩)
  ·
    subst hA_
    have g61_ : fs [(344, 344, 0, 1), (344, 344, 4, 5), (344, 344, 8, 10), (344, 344, 12, 13), (344, 344, 33, 33), (344, 344, 36, 36), (344, 344, 38, 39), (344, 344, 46, 48), (344, 344, 60, 60), (344, 344, 64, 64), (347, 348, 0, 100000), (358, 358, 5, 5), (360, 362, 40, 43), (363, 363, 80, 87), (364, 372, 0, 100000), (384, 384, 0, 100000)] F F52_ := fs_tr g40_ s54_ rfl
    have rk62_ : rk K F52_ := rk_fs hrk1 s54_ (fs_rg rfl) rfl
    have c50_s := c50_.1 (by omega)
    clear c50_
    refine ga_aload_n (v := .ref 344) hm_64 rfl rfl rfl ?_
    refine gIi (nY := 1) (F := 0) (L := 0) (As := []) (b := 344) (rest := []) hm_64 rfl hm_62 rfl rfl (fl_ob sc_344) rfl rfl rfl rfl rfl (by omega) (by omega) ?_
    intro f63_ l64_ h65_ h66_
    show fl_R xi_ms 62 f63_ l64_ 0 [(0, .ref 344)] [] _ _
    refine ga_aload_n (v := .ref 344) hm_62 rfl rfl rfl ?_
    refine ga_aload_n (v := .ref 344) hm_62 rfl rfl rfl ?_
    have b67_ : 0 ≤ F52_ 344 9 ∧ F52_ 344 9 ≤ 5 := gi_g g53_ rfl
    refine ga_geti (z := F52_ 344 9) hm_62 rfl sc_344 rfl (rfl) ?_
    refine fx_if_ne (a := F52_ 344 9) hm_62 rfl ⟨by omega, by omega⟩ (fun h68_ => ?_) (fun h69_ => ?_)
    ·
      refine ga_aload_n (v := .ref 344) hm_62 rfl rfl rfl ?_
      refine ga_geti (z := F52_ 344 9) hm_62 rfl sc_344 rfl (rfl) ?_
      refine fl_bipush hm_62 rfl rfl ?_
      refine ga_aload_n (v := .ref 344) hm_62 rfl rfl rfl ?_
      have b70_ : 0 ≤ F52_ 344 10 ∧ F52_ 344 10 ≤ 600 := gi_g g53_ rfl
      refine ga_geti (z := F52_ 344 10) hm_62 rfl sc_344 rfl (rfl) ?_
      refine ga_imul (a := 10) (b := F52_ 344 10) (c := 10 * (F52_ 344 10)) hm_62 rfl (by omega) ?_
      refine ga_iadd (a := F52_ 344 9) (b := 10 * (F52_ 344 10)) (c := F52_ 344 9 + 10 * (F52_ 344 10)) hm_62 rfl (by omega) ?_
      refine ga_puti (z := F52_ 344 9 + 10 * (F52_ 344 10)) hm_62 rfl sc_344 rfl rfl ?_
      refine ga_aload_n (v := .ref 344) hm_62 rfl rfl rfl ?_
      refine fl_iconst hm_62 rfl ?_
      refine ga_puti (z := 0) hm_62 rfl sc_344 rfl rfl ?_
      refine ga_aload_n (v := .ref 344) hm_62 rfl rfl rfl ?_
      refine ga_aload_n (v := .ref 344) hm_62 rfl rfl rfl ?_
      refine ga_geti (z := F52_ 344 9) hm_62 rfl sc_344 rfl ((fl_u_ne (by first | exact nc_ rfl | decide | omega)).trans (fl_u_ne (by first | exact nc_ rfl | decide | omega))) ?_
      refine fx_if_ne (a := F52_ 344 9) hm_62 rfl ⟨by omega, by omega⟩ (fun h71_ => ?_) (fun h72_ => ?_)
      ·
        refine fl_iconst hm_62 rfl ?_
        refine ga_puti (z := 1) hm_62 rfl sc_344 rfl rfl ?_
        refine ga_aload_n (v := .ref 344) hm_62 rfl rfl rfl ?_
        refine ga_geti (z := 1) hm_62 rfl sc_344 rfl (fl_u_eq) ?_
        refine fl_if_ne hm_62 rfl ⟨by omega, by omega⟩ (fun _ => ?_) (fun h => absurd (by omega) h)
        refine fl_iconst hm_62 rfl ?_
        refine gr_i hm_62 rfl rfl (ga_nb (by omega)) ?_
        clear h65_ h66_ f63_ l64_
        refine fl_if_ne hm_64 rfl ⟨by omega, by omega⟩ (fun h => absurd h (by omega)) (fun _ => ?_)
        refine ga_aload_n (v := .ref 344) hm_64 rfl rfl rfl ?_
        refine fl_iconst hm_64 rfl ?_
        refine ga_puti (z := 2) hm_64 rfl sc_344 rfl rfl ?_
        refine fl_iconst hm_64 rfl ?_
        obtain ⟨F73_, q74_⟩ : ∃ Fq_, Fq_ = (fl_u (fl_u (fl_u (fl_u F52_ 344 8 (F52_ 344 9 + 10 * (F52_ 344 10))) 344 1 0) 344 0 1) 344 0 2) := ⟨_, rfl⟩
        rw [← q74_]
        have g75_ : gi F73_ := by rw [q74_]; exact gi_u (gi_u (gi_u (gi_u (g53_) rfl (by omega) (by omega)) rfl (by omega) (by omega)) rfl (by omega) (by omega)) rfl (by omega) (by omega)
        have g76_ : fs [(344, 344, 0, 1), (344, 344, 4, 5), (344, 344, 8, 10), (344, 344, 12, 13), (344, 344, 33, 33), (344, 344, 36, 36), (344, 344, 38, 39), (344, 344, 46, 48), (344, 344, 60, 60), (344, 344, 64, 64), (347, 348, 0, 100000), (358, 358, 5, 5), (360, 362, 40, 43), (363, 363, 80, 87), (364, 372, 0, 100000), (384, 384, 0, 100000)] F F73_ := by rw [q74_]; exact fs_u (fs_u (fs_u (fs_u (g61_) rfl) rfl) rfl) rfl
        have rk77_ : rk K F73_ := by rw [q74_]; exact rk_u (rk_u (rk_u (rk_u (rk62_) (by first | decide | exact nc_ rfl | omega) (by first | decide | exact nc_ rfl | omega)) (by first | decide | exact nc_ rfl | omega) (by first | decide | exact nc_ rfl | omega)) (by first | decide | exact nc_ rfl | omega) (by first | decide | exact nc_ rfl | omega)) (by first | decide | exact nc_ rfl | omega) (by first | decide | exact nc_ rfl | omega)
        refine gr_i (z := 0) hm_64 rfl rfl rfl ?_
        have e78_ : F73_ 344 1 = 0 := by rw [q74_]; exact (fl_u_ne (by first | exact nc_ rfl | decide | omega)).trans ((fl_u_ne (by first | exact nc_ rfl | decide | omega)).trans (fl_u_eq))
        have e79_ : F28_ 344 13 = 0 := by rw [q29_]; exact (fl_u_ne (by first | exact nc_ rfl | decide | omega)).trans ((fl_u_ne (by first | exact nc_ rfl | decide | omega)).trans (fl_u_eq))
        have e80_ : F37_ 344 13 = 0 := (s39_ 344 13 rfl).trans (e79_)
        have e81_ : F52_ 344 13 = 0 := (s54_ 344 13 rfl).trans (e80_)
        have e82_ : F73_ 344 13 = 0 := by rw [q74_]; exact (fl_u_ne (by first | exact nc_ rfl | decide | omega)).trans ((fl_u_ne (by first | exact nc_ rfl | decide | omega)).trans ((fl_u_ne (by first | exact nc_ rfl | decide | omega)).trans ((fl_u_ne (by first | exact nc_ rfl | decide | omega)).trans (e81_))))
        have e83_ : F28_ 344 12 = 0 := by rw [q29_]; exact (fl_u_ne (by first | exact nc_ rfl | decide | omega)).trans ((fl_u_ne (by first | exact nc_ rfl | decide | omega)).trans ((fl_u_ne (by first | exact nc_ rfl | decide | omega)).trans (fl_u_eq)))
        have e84_ : F37_ 344 12 = 0 := (s39_ 344 12 rfl).trans (e83_)
        have e85_ : F52_ 344 12 = 0 := (s54_ 344 12 rfl).trans (e84_)
        have e86_ : F73_ 344 12 = 0 := by rw [q74_]; exact (fl_u_ne (by first | exact nc_ rfl | decide | omega)).trans ((fl_u_ne (by first | exact nc_ rfl | decide | omega)).trans ((fl_u_ne (by first | exact nc_ rfl | decide | omega)).trans ((fl_u_ne (by first | exact nc_ rfl | decide | omega)).trans (e85_))))
        have e87_ : F73_ 344 36 = F52_ 344 36 := by rw [q74_]; exact (fl_u_ne (by first | exact nc_ rfl | decide | omega)).trans ((fl_u_ne (by first | exact nc_ rfl | decide | omega)).trans ((fl_u_ne (by first | exact nc_ rfl | decide | omega)).trans (fl_u_ne (by first | exact nc_ rfl | decide | omega))))
        have b88_ : 0 ≤ F52_ 344 36 ∧ F52_ 344 36 ≤ 216 := gi_g g53_ rfl
        have e89_ : F73_ 344 0 = 2 := by rw [q74_]; exact fl_u_eq
        have e90_ : F28_ 344 39 = F 344 39 := by rw [q29_]; exact (fl_u_ne (by first | exact nc_ rfl | decide | omega)).trans ((fl_u_ne (by first | exact nc_ rfl | decide | omega)).trans ((fl_u_ne (by first | exact nc_ rfl | decide | omega)).trans ((fl_u_ne (by first | exact nc_ rfl | decide | omega)).trans ((fl_u_ne (by first | exact nc_ rfl | decide | omega)).trans ((fl_u_ne (by first | exact nc_ rfl | decide | omega)).trans (fl_u_ne (by first | exact nc_ rfl | decide | omega)))))))
        have e91_ : F37_ 344 39 = F 344 39 := (s39_ 344 39 rfl).trans (e90_)
        have e92_ : F52_ 344 39 = F 344 39 := (s54_ 344 39 rfl).trans (e91_)
        have e93_ : F73_ 344 39 = F 344 39 := by rw [q74_]; exact (fl_u_ne (by first | exact nc_ rfl | decide | omega)).trans ((fl_u_ne (by first | exact nc_ rfl | decide | omega)).trans ((fl_u_ne (by first | exact nc_ rfl | decide | omega)).trans ((fl_u_ne (by first | exact nc_ rfl | decide | omega)).trans (e92_))))
        have b94_ : 0 ≤ F 344 39 ∧ F 344 39 ≤ 40 := gi_g hgi rfl
        have e95_ : F73_ 344 8 = F52_ 344 9 + 10 * (F52_ 344 10) := by rw [q74_]; exact (fl_u_ne (by first | exact nc_ rfl | decide | omega)).trans ((fl_u_ne (by first | exact nc_ rfl | decide | omega)).trans ((fl_u_ne (by first | exact nc_ rfl | decide | omega)).trans (fl_u_eq)))
        have b96_ : 0 ≤ F 344 8 ∧ F 344 8 ≤ 100000 := gi_g hgi rfl
        have e97_ : F28_ 344 11 = F 344 11 := by rw [q29_]; exact (fl_u_ne (by first | exact nc_ rfl | decide | omega)).trans ((fl_u_ne (by first | exact nc_ rfl | decide | omega)).trans ((fl_u_ne (by first | exact nc_ rfl | decide | omega)).trans ((fl_u_ne (by first | exact nc_ rfl | decide | omega)).trans ((fl_u_ne (by first | exact nc_ rfl | decide | omega)).trans ((fl_u_ne (by first | exact nc_ rfl | decide | omega)).trans (fl_u_ne (by first | exact nc_ rfl | decide | omega)))))))
        have e98_ : F37_ 344 11 = F 344 11 := (s39_ 344 11 rfl).trans (e97_)
        have e99_ : F52_ 344 11 = F 344 11 := (s54_ 344 11 rfl).trans (e98_)
        have e100_ : F73_ 344 11 = F 344 11 := by rw [q74_]; exact (fl_u_ne (by first | exact nc_ rfl | decide | omega)).trans ((fl_u_ne (by first | exact nc_ rfl | decide | omega)).trans ((fl_u_ne (by first | exact nc_ rfl | decide | omega)).trans ((fl_u_ne (by first | exact nc_ rfl | decide | omega)).trans (e99_))))
        have e101_ : F28_ 344 60 = 0 := by rw [q29_]; exact fl_u_eq
        have e102_ : F37_ 344 60 = 0 := (s39_ 344 60 rfl).trans (e101_)
        have e103_ : F52_ 344 60 = 0 := (s54_ 344 60 rfl).trans (e102_)
        have e104_ : F73_ 344 60 = 0 := by rw [q74_]; exact (fl_u_ne (by first | exact nc_ rfl | decide | omega)).trans ((fl_u_ne (by first | exact nc_ rfl | decide | omega)).trans ((fl_u_ne (by first | exact nc_ rfl | decide | omega)).trans ((fl_u_ne (by first | exact nc_ rfl | decide | omega)).trans (e103_))))
        have b105_ : 0 ≤ F 344 12 ∧ F 344 12 ≤ 1 := gi_g hgi rfl
        have b106_ : 0 ≤ F 344 13 ∧ F 344 13 ≤ 1 := gi_g hgi rfl
        exact ⟨F73_, rfl, g75_, g76_, (⟨by omega, by omega⟩), (by omega), (pli_0 (by omega)), (fun h9_ => absurd h9_ (by omega)), (Or.inr ⟨by omega, Or.inl ⟨(F52_ 344 9, F52_ 344 10), c50_s, by show _ = F52_ 344 9 + 10 * F52_ 344 10; omega, by omega⟩⟩), (⟨fun h9_ => ⟨by omega, by omega⟩, fun h9_ => by omega, fun h9_ => by omega, fun h9_ => by omega, fun h9_ => by omega⟩)⟩
      exfalso; omega
    exfalso; omega
  subst hA_
  have g107_ : fs [(344, 344, 0, 1), (344, 344, 4, 5), (344, 344, 8, 10), (344, 344, 12, 13), (344, 344, 33, 33), (344, 344, 36, 36), (344, 344, 38, 39), (344, 344, 46, 48), (344, 344, 60, 60), (344, 344, 64, 64), (347, 348, 0, 100000), (358, 358, 5, 5), (360, 362, 40, 43), (363, 363, 80, 87), (364, 372, 0, 100000), (384, 384, 0, 100000)] F F58_ := fs_tr g40_ s60_ rfl
  have rk108_ : rk K F58_ := rk_fs hrk1 s60_ (fs_rg rfl) rfl
  obtain ⟨l, tl, co1_, co2_, co3_, co4_, co5_, co6_, co7_⟩ := c56_
  refine ga_aload_n (v := .ref 344) hm_64 rfl rfl rfl ?_
  refine gIi (nY := 1) (F := 0) (L := 0) (As := []) (b := 344) (rest := []) hm_64 rfl hm_62 rfl rfl (fl_ob sc_344) rfl rfl rfl rfl rfl (by omega) (by omega) ?_
  intro f109_ l110_ h111_ h112_
  show fl_R xi_ms 62 f109_ l110_ 0 [(0, .ref 344)] [] _ _
  refine ga_aload_n (v := .ref 344) hm_62 rfl rfl rfl ?_
  refine ga_aload_n (v := .ref 344) hm_62 rfl rfl rfl ?_
  have b113_ : 0 ≤ F58_ 344 9 ∧ F58_ 344 9 ≤ 5 := gi_g g59_ rfl
  refine ga_geti (z := F58_ 344 9) hm_62 rfl sc_344 rfl (rfl) ?_
  refine fx_if_ne (a := F58_ 344 9) hm_62 rfl ⟨by omega, by omega⟩ (fun h114_ => ?_) (fun h115_ => ?_)
  · exfalso; omega
  refine fl_iconst hm_62 rfl ?_
  refine fl_goto hm_62 rfl ?_
  refine ga_puti (z := 0) hm_62 rfl sc_344 rfl rfl ?_
  refine ga_aload_n (v := .ref 344) hm_62 rfl rfl rfl ?_
  refine fl_iconst hm_62 rfl ?_
  refine ga_puti (z := 0) hm_62 rfl sc_344 rfl rfl ?_
  refine ga_aload_n (v := .ref 344) hm_62 rfl rfl rfl ?_
  refine ga_aload_n (v := .ref 344) hm_62 rfl rfl rfl ?_
  refine ga_geti (z := F58_ 344 9) hm_62 rfl sc_344 rfl ((fl_u_ne (by first | exact nc_ rfl | decide | omega)).trans (fl_u_ne (by first | exact nc_ rfl | decide | omega))) ?_
  refine fx_if_ne (a := F58_ 344 9) hm_62 rfl ⟨by omega, by omega⟩ (fun h116_ => ?_) (fun h117_ => ?_)
  · exfalso; omega
  refine fl_iconst hm_62 rfl ?_
  refine fl_goto hm_62 rfl ?_
  refine ga_puti (z := 0) hm_62 rfl sc_344 rfl rfl ?_
  refine ga_aload_n (v := .ref 344) hm_62 rfl rfl rfl ?_
  refine ga_geti (z := 0) hm_62 rfl sc_344 rfl (fl_u_eq) ?_
  refine fl_if_ne hm_62 rfl ⟨by omega, by omega⟩ (fun h => absurd h (by omega)) (fun _ => ?_)
  refine fl_iconst hm_62 rfl ?_
  refine fl_goto hm_62 rfl ?_
  refine gr_i hm_62 rfl rfl (ga_nb (by omega)) ?_
  clear h111_ h112_ f109_ l110_
  refine fl_if_ne hm_64 rfl ⟨by omega, by omega⟩ (fun _ => ?_) (fun h => absurd (by omega) h)
  refine ga_aload_n (v := .ref 344) hm_64 rfl rfl rfl ?_
  refine ga_aload_n (v := .ref 344) hm_64 rfl rfl rfl ?_
  have b118_ : -9223372036854775808 ≤ F58_ 344 64 ∧ F58_ 344 64 ≤ 9223372036854775807 := gi_g g59_ rfl
  refine ga_getl (z := F58_ 344 64) hm_64 rfl sc_344 rfl ((fl_u_ne (by first | exact nc_ rfl | decide | omega)).trans ((fl_u_ne (by first | exact nc_ rfl | decide | omega)).trans (fl_u_ne (by first | exact nc_ rfl | decide | omega)))) ?_
  refine ga_putl hm_64 rfl sc_344 rfl rfl ?_
  refine ga_aload_n (v := .ref 344) hm_64 rfl rfl rfl ?_
  refine fl_iconst hm_64 rfl ?_
  refine ga_puti (z := 0) hm_64 rfl sc_344 rfl rfl ?_
  refine ga_aload_n (v := .ref 344) hm_64 rfl rfl rfl ?_
  have b119_ : 0 ≤ F58_ 344 36 ∧ F58_ 344 36 ≤ 216 := gi_g g59_ rfl
  refine ga_geti (z := F58_ 344 36) hm_64 rfl sc_344 rfl ((fl_u_ne (by first | exact nc_ rfl | decide | omega)).trans ((fl_u_ne (by first | exact nc_ rfl | decide | omega)).trans ((fl_u_ne (by first | exact nc_ rfl | decide | omega)).trans ((fl_u_ne (by first | exact nc_ rfl | decide | omega)).trans (fl_u_ne (by first | exact nc_ rfl | decide | omega)))))) ?_
  refine fl_bipush hm_64 rfl rfl ?_
  refine fl_icmp_gt (a := F58_ 344 36) (b := 40) hm_64 rfl ⟨by omega, by omega⟩ ⟨by omega, by omega⟩ (fun h120_ => ?_) (fun h121_ => ?_)
  ·
    refine fl_iconst hm_64 rfl ?_
    refine ga_istore_n (lv2 := [(1, .int (Int32.ofInt 0)), (0, .ref 344)]) hm_64 rfl (Nat.le_of_ble_eq_true rfl) rfl ?_
    obtain ⟨F122_, q123_⟩ : ∃ Fq_, Fq_ = (fl_u (fl_u (fl_u (fl_u (fl_u F58_ 344 8 0) 344 1 0) 344 0 0) 344 38 (F58_ 344 64)) 344 39 0) := ⟨_, rfl⟩
    rw [← q123_]
    have g124_ : gi F122_ := by rw [q123_]; exact gi_u (gi_u (gi_u (gi_u (gi_u (g59_) rfl (by omega) (by omega)) rfl (by omega) (by omega)) rfl (by omega) (by omega)) rfl (by omega) (by omega)) rfl (by omega) (by omega)
    have g125_ : fs [(344, 344, 0, 1), (344, 344, 4, 5), (344, 344, 8, 10), (344, 344, 12, 13), (344, 344, 33, 33), (344, 344, 36, 36), (344, 344, 38, 39), (344, 344, 46, 48), (344, 344, 60, 60), (344, 344, 64, 64), (347, 348, 0, 100000), (358, 358, 5, 5), (360, 362, 40, 43), (363, 363, 80, 87), (364, 372, 0, 100000), (384, 384, 0, 100000)] F F122_ := by rw [q123_]; exact fs_u (fs_u (fs_u (fs_u (fs_u (g107_) rfl) rfl) rfl) rfl) rfl
    have rk126_ : rk K F122_ := by rw [q123_]; exact rk_u (rk_u (rk_u (rk_u (rk_u (rk108_) (by first | decide | exact nc_ rfl | omega) (by first | decide | exact nc_ rfl | omega)) (by first | decide | exact nc_ rfl | omega) (by first | decide | exact nc_ rfl | omega)) (by first | decide | exact nc_ rfl | omega) (by first | decide | exact nc_ rfl | omega)) (by first | decide | exact nc_ rfl | omega) (by first | decide | exact nc_ rfl | omega)) (by first | decide | exact nc_ rfl | omega) (by first | decide | exact nc_ rfl | omega)
    have e127_ : F122_ 344 9 = F58_ 344 9 := by rw [q123_]; exact (fl_u_ne (by first | exact nc_ rfl | decide | omega)).trans ((fl_u_ne (by first | exact nc_ rfl | decide | omega)).trans ((fl_u_ne (by first | exact nc_ rfl | decide | omega)).trans ((fl_u_ne (by first | exact nc_ rfl | decide | omega)).trans (fl_u_ne (by first | exact nc_ rfl | decide | omega)))))
    have e128_ : F122_ 344 10 = F58_ 344 10 := by rw [q123_]; exact (fl_u_ne (by first | exact nc_ rfl | decide | omega)).trans ((fl_u_ne (by first | exact nc_ rfl | decide | omega)).trans ((fl_u_ne (by first | exact nc_ rfl | decide | omega)).trans ((fl_u_ne (by first | exact nc_ rfl | decide | omega)).trans (fl_u_ne (by first | exact nc_ rfl | decide | omega)))))
    have b129_ : 0 ≤ F58_ 344 10 ∧ F58_ 344 10 ≤ 600 := gi_g g59_ rfl
    have e130_ : F122_ 344 5 = F58_ 344 5 := by rw [q123_]; exact (fl_u_ne (by first | exact nc_ rfl | decide | omega)).trans ((fl_u_ne (by first | exact nc_ rfl | decide | omega)).trans ((fl_u_ne (by first | exact nc_ rfl | decide | omega)).trans ((fl_u_ne (by first | exact nc_ rfl | decide | omega)).trans (fl_u_ne (by first | exact nc_ rfl | decide | omega)))))
    have b131_ : 0 ≤ F58_ 344 5 ∧ F58_ 344 5 ≤ 600 := gi_g g59_ rfl
    have e132_ : F122_ 344 36 = F58_ 344 36 := by rw [q123_]; exact (fl_u_ne (by first | exact nc_ rfl | decide | omega)).trans ((fl_u_ne (by first | exact nc_ rfl | decide | omega)).trans ((fl_u_ne (by first | exact nc_ rfl | decide | omega)).trans ((fl_u_ne (by first | exact nc_ rfl | decide | omega)).trans (fl_u_ne (by first | exact nc_ rfl | decide | omega)))))
    have e133_ : F122_ 344 39 = 0 := by rw [q123_]; exact fl_u_eq
    have e134_ : F122_ 344 0 = 0 := by rw [q123_]; exact (fl_u_ne (by first | exact nc_ rfl | decide | omega)).trans ((fl_u_ne (by first | exact nc_ rfl | decide | omega)).trans (fl_u_eq))
    have e135_ : F122_ 344 8 = 0 := by rw [q123_]; exact (fl_u_ne (by first | exact nc_ rfl | decide | omega)).trans ((fl_u_ne (by first | exact nc_ rfl | decide | omega)).trans ((fl_u_ne (by first | exact nc_ rfl | decide | omega)).trans ((fl_u_ne (by first | exact nc_ rfl | decide | omega)).trans (fl_u_eq))))
    have e136_ : F122_ 344 1 = 0 := by rw [q123_]; exact (fl_u_ne (by first | exact nc_ rfl | decide | omega)).trans ((fl_u_ne (by first | exact nc_ rfl | decide | omega)).trans ((fl_u_ne (by first | exact nc_ rfl | decide | omega)).trans (fl_u_eq)))
    have e137_ : F28_ 344 12 = 0 := by rw [q29_]; exact (fl_u_ne (by first | exact nc_ rfl | decide | omega)).trans ((fl_u_ne (by first | exact nc_ rfl | decide | omega)).trans ((fl_u_ne (by first | exact nc_ rfl | decide | omega)).trans (fl_u_eq)))
    have e138_ : F37_ 344 12 = 0 := (s39_ 344 12 rfl).trans (e137_)
    have e139_ : F58_ 344 12 = 0 := (s60_ 344 12 rfl).trans (e138_)
    have e140_ : F122_ 344 12 = 0 := by rw [q123_]; exact (fl_u_ne (by first | exact nc_ rfl | decide | omega)).trans ((fl_u_ne (by first | exact nc_ rfl | decide | omega)).trans ((fl_u_ne (by first | exact nc_ rfl | decide | omega)).trans ((fl_u_ne (by first | exact nc_ rfl | decide | omega)).trans ((fl_u_ne (by first | exact nc_ rfl | decide | omega)).trans (e139_)))))
    have e141_ : F28_ 344 13 = 0 := by rw [q29_]; exact (fl_u_ne (by first | exact nc_ rfl | decide | omega)).trans ((fl_u_ne (by first | exact nc_ rfl | decide | omega)).trans (fl_u_eq))
    have e142_ : F37_ 344 13 = 0 := (s39_ 344 13 rfl).trans (e141_)
    have e143_ : F58_ 344 13 = 0 := (s60_ 344 13 rfl).trans (e142_)
    have e144_ : F122_ 344 13 = 0 := by rw [q123_]; exact (fl_u_ne (by first | exact nc_ rfl | decide | omega)).trans ((fl_u_ne (by first | exact nc_ rfl | decide | omega)).trans ((fl_u_ne (by first | exact nc_ rfl | decide | omega)).trans ((fl_u_ne (by first | exact nc_ rfl | decide | omega)).trans ((fl_u_ne (by first | exact nc_ rfl | decide | omega)).trans (e143_)))))
    have e145_ : F28_ 344 60 = 0 := by rw [q29_]; exact fl_u_eq
    have e146_ : F37_ 344 60 = 0 := (s39_ 344 60 rfl).trans (e145_)
    have e147_ : F58_ 344 60 = 0 := (s60_ 344 60 rfl).trans (e146_)
    have e148_ : F122_ 344 60 = 0 := by rw [q123_]; exact (fl_u_ne (by first | exact nc_ rfl | decide | omega)).trans ((fl_u_ne (by first | exact nc_ rfl | decide | omega)).trans ((fl_u_ne (by first | exact nc_ rfl | decide | omega)).trans ((fl_u_ne (by first | exact nc_ rfl | decide | omega)).trans ((fl_u_ne (by first | exact nc_ rfl | decide | omega)).trans (e147_)))))
    have e149_ : F122_ 344 38 = F58_ 344 64 := by rw [q123_]; exact (fl_u_ne (by first | exact nc_ rfl | decide | omega)).trans (fl_u_eq)
    exact mg_64_99v hG F X hgi K nm ts pl ps D hin htx hkw hdm hcs hpl hpb hDD fr lo hfr hlo F122_ (0) (l) (tl) g124_ g125_ (⟨by omega, by omega⟩) (by omega) (co1_) ((by rw [q123_]; exact (trm_u (trm_u (trm_u (trm_u (trm_u co2_ (by first | decide | exact nc_ rfl | omega)) (by first | decide | exact nc_ rfl | omega)) (by first | decide | exact nc_ rfl | omega)) (by first | decide | exact nc_ rfl | omega)) (by first | decide | exact nc_ rfl | omega)))) (Eq.trans ((show F122_ 344 36 = F58_ 344 36 from (by rw [q123_]; exact (fl_u_ne (by first | exact nc_ rfl | decide | omega)).trans ((fl_u_ne (by first | exact nc_ rfl | decide | omega)).trans ((fl_u_ne (by first | exact nc_ rfl | decide | omega)).trans ((fl_u_ne (by first | exact nc_ rfl | decide | omega)).trans ((fl_u_ne (by first | exact nc_ rfl | decide | omega))))))))) co3_) (fun h9_ => by have h8_ := co3_; omega) (fun h9_ => by have h8_ := co3_; omega) (rcl_lfr co5_ (show lfr 0 0 0 F58_ F122_ from (by rw [q123_]; exact (lfr_uo (lfr_uo (lfr_uo (lfr_uo (lfr_uo lfr_r rfl) rfl) rfl) rfl) rfl))) (Or.inr (Nat.zero_le _))) (Eq.trans ((show F122_ 358 5 = F58_ 358 5 from (by rw [q123_]; exact (fl_u_ne (by first | exact nc_ rfl | decide | omega)).trans ((fl_u_ne (by first | exact nc_ rfl | decide | omega)).trans ((fl_u_ne (by first | exact nc_ rfl | decide | omega)).trans ((fl_u_ne (by first | exact nc_ rfl | decide | omega)).trans ((fl_u_ne (by first | exact nc_ rfl | decide | omega))))))))) co6_) (by omega) (by omega) (by omega) (by omega) (⟨by omega, by omega⟩) (by omega) (fnr_cg co4_ (fun j => (show F122_ 366 j = F58_ 366 j from (by rw [q123_]; exact (fl_u_ne (by first | exact nc_ rfl | decide | omega)).trans ((fl_u_ne (by first | exact nc_ rfl | decide | omega)).trans ((fl_u_ne (by first | exact nc_ rfl | decide | omega)).trans ((fl_u_ne (by first | exact nc_ rfl | decide | omega)).trans ((fl_u_ne (by first | exact nc_ rfl | decide | omega)))))))))) (fun h9_ => by rw [(show F122_ 366 = F58_ 366 from funext (fun j => (show F122_ 366 j = F58_ 366 j from (by rw [q123_]; exact (fl_u_ne (by first | exact nc_ rfl | decide | omega)).trans ((fl_u_ne (by first | exact nc_ rfl | decide | omega)).trans ((fl_u_ne (by first | exact nc_ rfl | decide | omega)).trans ((fl_u_ne (by first | exact nc_ rfl | decide | omega)).trans ((fl_u_ne (by first | exact nc_ rfl | decide | omega))))))))))]; exact Eq.trans (e149_) (co7_ (by omega)))
  refine fl_iconst hm_64 rfl ?_
  refine fl_goto hm_64 rfl ?_
  refine ga_istore_n (lv2 := [(1, .int (Int32.ofInt 1)), (0, .ref 344)]) hm_64 rfl (Nat.le_of_ble_eq_true rfl) rfl ?_
  obtain ⟨F150_, q151_⟩ : ∃ Fq_, Fq_ = (fl_u (fl_u (fl_u (fl_u (fl_u F58_ 344 8 0) 344 1 0) 344 0 0) 344 38 (F58_ 344 64)) 344 39 0) := ⟨_, rfl⟩
  rw [← q151_]
  have g152_ : gi F150_ := by rw [q151_]; exact gi_u (gi_u (gi_u (gi_u (gi_u (g59_) rfl (by omega) (by omega)) rfl (by omega) (by omega)) rfl (by omega) (by omega)) rfl (by omega) (by omega)) rfl (by omega) (by omega)
  have g153_ : fs [(344, 344, 0, 1), (344, 344, 4, 5), (344, 344, 8, 10), (344, 344, 12, 13), (344, 344, 33, 33), (344, 344, 36, 36), (344, 344, 38, 39), (344, 344, 46, 48), (344, 344, 60, 60), (344, 344, 64, 64), (347, 348, 0, 100000), (358, 358, 5, 5), (360, 362, 40, 43), (363, 363, 80, 87), (364, 372, 0, 100000), (384, 384, 0, 100000)] F F150_ := by rw [q151_]; exact fs_u (fs_u (fs_u (fs_u (fs_u (g107_) rfl) rfl) rfl) rfl) rfl
  have rk154_ : rk K F150_ := by rw [q151_]; exact rk_u (rk_u (rk_u (rk_u (rk_u (rk108_) (by first | decide | exact nc_ rfl | omega) (by first | decide | exact nc_ rfl | omega)) (by first | decide | exact nc_ rfl | omega) (by first | decide | exact nc_ rfl | omega)) (by first | decide | exact nc_ rfl | omega) (by first | decide | exact nc_ rfl | omega)) (by first | decide | exact nc_ rfl | omega) (by first | decide | exact nc_ rfl | omega)) (by first | decide | exact nc_ rfl | omega) (by first | decide | exact nc_ rfl | omega)
  have e155_ : F150_ 344 9 = F58_ 344 9 := by rw [q151_]; exact (fl_u_ne (by first | exact nc_ rfl | decide | omega)).trans ((fl_u_ne (by first | exact nc_ rfl | decide | omega)).trans ((fl_u_ne (by first | exact nc_ rfl | decide | omega)).trans ((fl_u_ne (by first | exact nc_ rfl | decide | omega)).trans (fl_u_ne (by first | exact nc_ rfl | decide | omega)))))
  have e156_ : F150_ 344 10 = F58_ 344 10 := by rw [q151_]; exact (fl_u_ne (by first | exact nc_ rfl | decide | omega)).trans ((fl_u_ne (by first | exact nc_ rfl | decide | omega)).trans ((fl_u_ne (by first | exact nc_ rfl | decide | omega)).trans ((fl_u_ne (by first | exact nc_ rfl | decide | omega)).trans (fl_u_ne (by first | exact nc_ rfl | decide | omega)))))
  have b157_ : 0 ≤ F58_ 344 10 ∧ F58_ 344 10 ≤ 600 := gi_g g59_ rfl
  have e158_ : F150_ 344 5 = F58_ 344 5 := by rw [q151_]; exact (fl_u_ne (by first | exact nc_ rfl | decide | omega)).trans ((fl_u_ne (by first | exact nc_ rfl | decide | omega)).trans ((fl_u_ne (by first | exact nc_ rfl | decide | omega)).trans ((fl_u_ne (by first | exact nc_ rfl | decide | omega)).trans (fl_u_ne (by first | exact nc_ rfl | decide | omega)))))
  have b159_ : 0 ≤ F58_ 344 5 ∧ F58_ 344 5 ≤ 600 := gi_g g59_ rfl
  have e160_ : F150_ 344 36 = F58_ 344 36 := by rw [q151_]; exact (fl_u_ne (by first | exact nc_ rfl | decide | omega)).trans ((fl_u_ne (by first | exact nc_ rfl | decide | omega)).trans ((fl_u_ne (by first | exact nc_ rfl | decide | omega)).trans ((fl_u_ne (by first | exact nc_ rfl | decide | omega)).trans (fl_u_ne (by first | exact nc_ rfl | decide | omega)))))
  have e161_ : F150_ 344 39 = 0 := by rw [q151_]; exact fl_u_eq
  have e162_ : F150_ 344 0 = 0 := by rw [q151_]; exact (fl_u_ne (by first | exact nc_ rfl | decide | omega)).trans ((fl_u_ne (by first | exact nc_ rfl | decide | omega)).trans (fl_u_eq))
  have e163_ : F150_ 344 8 = 0 := by rw [q151_]; exact (fl_u_ne (by first | exact nc_ rfl | decide | omega)).trans ((fl_u_ne (by first | exact nc_ rfl | decide | omega)).trans ((fl_u_ne (by first | exact nc_ rfl | decide | omega)).trans ((fl_u_ne (by first | exact nc_ rfl | decide | omega)).trans (fl_u_eq))))
  have e164_ : F150_ 344 1 = 0 := by rw [q151_]; exact (fl_u_ne (by first | exact nc_ rfl | decide | omega)).trans ((fl_u_ne (by first | exact nc_ rfl | decide | omega)).trans ((fl_u_ne (by first | exact nc_ rfl | decide | omega)).trans (fl_u_eq)))
  have e165_ : F28_ 344 12 = 0 := by rw [q29_]; exact (fl_u_ne (by first | exact nc_ rfl | decide | omega)).trans ((fl_u_ne (by first | exact nc_ rfl | decide | omega)).trans ((fl_u_ne (by first | exact nc_ rfl | decide | omega)).trans (fl_u_eq)))
  have e166_ : F37_ 344 12 = 0 := (s39_ 344 12 rfl).trans (e165_)
  have e167_ : F58_ 344 12 = 0 := (s60_ 344 12 rfl).trans (e166_)
  have e168_ : F150_ 344 12 = 0 := by rw [q151_]; exact (fl_u_ne (by first | exact nc_ rfl | decide | omega)).trans ((fl_u_ne (by first | exact nc_ rfl | decide | omega)).trans ((fl_u_ne (by first | exact nc_ rfl | decide | omega)).trans ((fl_u_ne (by first | exact nc_ rfl | decide | omega)).trans ((fl_u_ne (by first | exact nc_ rfl | decide | omega)).trans (e167_)))))
  have e169_ : F28_ 344 13 = 0 := by rw [q29_]; exact (fl_u_ne (by first | exact nc_ rfl | decide | omega)).trans ((fl_u_ne (by first | exact nc_ rfl | decide | omega)).trans (fl_u_eq))
  have e170_ : F37_ 344 13 = 0 := (s39_ 344 13 rfl).trans (e169_)
  have e171_ : F58_ 344 13 = 0 := (s60_ 344 13 rfl).trans (e170_)
  have e172_ : F150_ 344 13 = 0 := by rw [q151_]; exact (fl_u_ne (by first | exact nc_ rfl | decide | omega)).trans ((fl_u_ne (by first | exact nc_ rfl | decide | omega)).trans ((fl_u_ne (by first | exact nc_ rfl | decide | omega)).trans ((fl_u_ne (by first | exact nc_ rfl | decide | omega)).trans ((fl_u_ne (by first | exact nc_ rfl | decide | omega)).trans (e171_)))))
  have e173_ : F28_ 344 60 = 0 := by rw [q29_]; exact fl_u_eq
  have e174_ : F37_ 344 60 = 0 := (s39_ 344 60 rfl).trans (e173_)
  have e175_ : F58_ 344 60 = 0 := (s60_ 344 60 rfl).trans (e174_)
  have e176_ : F150_ 344 60 = 0 := by rw [q151_]; exact (fl_u_ne (by first | exact nc_ rfl | decide | omega)).trans ((fl_u_ne (by first | exact nc_ rfl | decide | omega)).trans ((fl_u_ne (by first | exact nc_ rfl | decide | omega)).trans ((fl_u_ne (by first | exact nc_ rfl | decide | omega)).trans ((fl_u_ne (by first | exact nc_ rfl | decide | omega)).trans (e175_)))))
  have e177_ : F150_ 344 38 = F58_ 344 64 := by rw [q151_]; exact (fl_u_ne (by first | exact nc_ rfl | decide | omega)).trans (fl_u_eq)
  exact mg_64_99v hG F X hgi K nm ts pl ps D hin htx hkw hdm hcs hpl hpb hDD fr lo hfr hlo F150_ (1) (l) (tl) g152_ g153_ (⟨by omega, by omega⟩) (by omega) (co1_) ((by rw [q151_]; exact (trm_u (trm_u (trm_u (trm_u (trm_u co2_ (by first | decide | exact nc_ rfl | omega)) (by first | decide | exact nc_ rfl | omega)) (by first | decide | exact nc_ rfl | omega)) (by first | decide | exact nc_ rfl | omega)) (by first | decide | exact nc_ rfl | omega)))) (Eq.trans ((show F150_ 344 36 = F58_ 344 36 from (by rw [q151_]; exact (fl_u_ne (by first | exact nc_ rfl | decide | omega)).trans ((fl_u_ne (by first | exact nc_ rfl | decide | omega)).trans ((fl_u_ne (by first | exact nc_ rfl | decide | omega)).trans ((fl_u_ne (by first | exact nc_ rfl | decide | omega)).trans ((fl_u_ne (by first | exact nc_ rfl | decide | omega))))))))) co3_) (fun h9_ => by have h8_ := co3_; omega) (fun h9_ => by have h8_ := co3_; omega) (rcl_lfr co5_ (show lfr 0 0 0 F58_ F150_ from (by rw [q151_]; exact (lfr_uo (lfr_uo (lfr_uo (lfr_uo (lfr_uo lfr_r rfl) rfl) rfl) rfl) rfl))) (Or.inr (Nat.zero_le _))) (Eq.trans ((show F150_ 358 5 = F58_ 358 5 from (by rw [q151_]; exact (fl_u_ne (by first | exact nc_ rfl | decide | omega)).trans ((fl_u_ne (by first | exact nc_ rfl | decide | omega)).trans ((fl_u_ne (by first | exact nc_ rfl | decide | omega)).trans ((fl_u_ne (by first | exact nc_ rfl | decide | omega)).trans ((fl_u_ne (by first | exact nc_ rfl | decide | omega))))))))) co6_) (by omega) (by omega) (by omega) (by omega) (⟨by omega, by omega⟩) (by omega) (fnr_cg co4_ (fun j => (show F150_ 366 j = F58_ 366 j from (by rw [q151_]; exact (fl_u_ne (by first | exact nc_ rfl | decide | omega)).trans ((fl_u_ne (by first | exact nc_ rfl | decide | omega)).trans ((fl_u_ne (by first | exact nc_ rfl | decide | omega)).trans ((fl_u_ne (by first | exact nc_ rfl | decide | omega)).trans ((fl_u_ne (by first | exact nc_ rfl | decide | omega)))))))))) (fun h9_ => by rw [(show F150_ 366 = F58_ 366 from funext (fun j => (show F150_ 366 j = F58_ 366 j from (by rw [q151_]; exact (fl_u_ne (by first | exact nc_ rfl | decide | omega)).trans ((fl_u_ne (by first | exact nc_ rfl | decide | omega)).trans ((fl_u_ne (by first | exact nc_ rfl | decide | omega)).trans ((fl_u_ne (by first | exact nc_ rfl | decide | omega)).trans ((fl_u_ne (by first | exact nc_ rfl | decide | omega))))))))))]; exact Eq.trans (e177_) (co7_ (by omega)))


/- CheapPlannerModel.problem -/
abbrev pq_64 (G : Nat → Nat → Option Nat) (F : fl_N) (X : xi_H) (K : fl_N) : Outcome → xi_H → Prop := gqi (fun z A => ∃ F' : fl_N, fl_H sh_T G F' ++ X = A ∧ gi F' ∧ fs [(344, 344, 0, 1), (344, 344, 4, 5), (344, 344, 8, 10), (344, 344, 12, 13), (344, 344, 33, 33), (344, 344, 36, 36), (344, 344, 38, 39), (344, 344, 46, 48), (344, 344, 60, 60), (344, 344, 64, 64), (347, 348, 0, 100000), (358, 358, 0, 100000), (360, 372, 0, 100000), (384, 384, 0, 100000)] F F' ∧ (-2147483648 ≤ z ∧ z ≤ 2147483647) ∧ ((F 344 11 = 0 ∧ F' 344 1 = F 344 1) ∨ (F 344 11 = 1 ∧ F' 344 1 = 0)) ∧ (pli F') ∧ (F' 344 12 = 1 → sob F' ∧ F' 344 36 ≤ 40)) gqn
set_option maxHeartbeats 16000000 in
theorem mc_64 {G : Nat → Nat → Option Nat} (hG : gg G) (F : fl_N) (X : xi_H) (hgi : gi F) (K : fl_N) (hin : kin K (F 344 1)) (htx : ∀ j : Nat, (j : Int) < F 344 1 → F 345 j = K 2 j) (hkw : ∀ j : Nat, j < 76 → F 346 j = ra_at 346 j) (hdm : F 344 11 = 1 → ∃ ts pl ps, rpn (F 349) (F 344 15) ts ∧ rpn (F 350) (F 344 17) pl ∧ (rprd F ps ∧ ps.length = pl.length)) (hcs : F 344 11 = 1 → ∀ j : Nat, (j : Int) < F 344 21 → 0 ≤ F 357 j) (hpl : pli F) (hpb : F 344 12 = 1 → sob F ∧ F 344 36 ≤ 40) : fl_M xi_ms 64 8 188 [.ref 344] (fl_H sh_T G F ++ X) (pq_64 G F X K) := by
  intro fr lo hfr hlo
  show fl_R xi_ms 64 fr lo 0 [(0, .ref 344)] [] _ _
  have hb1 : 0 ≤ F 344 1 ∧ F 344 1 ≤ 600 := gi_g hgi rfl
  have hb11 : 0 ≤ F 344 11 ∧ F 344 11 ≤ 1 := gi_g hgi rfl
  refine ga_aload_n (v := .ref 344) hm_64 rfl rfl rfl ?_
  refine ga_aload_n (v := .ref 344) hm_64 rfl rfl rfl ?_
  have b1_ : 0 ≤ F 344 11 ∧ F 344 11 ≤ 1 := gi_g hgi rfl
  refine ga_geti (z := F 344 11) hm_64 rfl sc_344 rfl (rfl) ?_
  refine fl_if_eq (a := F 344 11) hm_64 rfl ⟨by omega, by omega⟩ (fun h2_ => ?_) (fun h3_ => ?_)
  ·
    refine fl_iconst hm_64 rfl ?_
    refine ga_puti (z := 1) hm_64 rfl sc_344 rfl rfl ?_
    refine ga_aload_n (v := .ref 344) hm_64 rfl rfl rfl ?_
    refine ga_geti (z := 1) hm_64 rfl sc_344 rfl (fl_u_eq) ?_
    refine fl_if_le hm_64 rfl ⟨by omega, by omega⟩ (fun h => absurd h (by omega)) (fun _ => ?_)
    refine fl_iconst hm_64 rfl ?_
    obtain ⟨F4_, q5_⟩ : ∃ Fq_, Fq_ = (fl_u F 344 0 1) := ⟨_, rfl⟩
    rw [← q5_]
    have g6_ : gi F4_ := by rw [q5_]; exact gi_u (hgi) rfl (by omega) (by omega)
    have g7_ : fs [(344, 344, 0, 1), (344, 344, 4, 5), (344, 344, 8, 10), (344, 344, 12, 13), (344, 344, 33, 33), (344, 344, 36, 36), (344, 344, 38, 39), (344, 344, 46, 48), (344, 344, 60, 60), (344, 344, 64, 64), (347, 348, 0, 100000), (358, 358, 0, 100000), (360, 372, 0, 100000), (384, 384, 0, 100000)] F F4_ := by rw [q5_]; exact fs_u (fs_refl) rfl
    refine gr_i (z := 0) hm_64 rfl rfl rfl ?_
    have e8_ : F4_ 344 1 = F 344 1 := by rw [q5_]; exact fl_u_ne (by first | exact nc_ rfl | decide | omega)
    have b9_ : 0 ≤ F 344 1 ∧ F 344 1 ≤ 600 := gi_g hgi rfl
    have e10_ : F4_ 344 13 = F 344 13 := by rw [q5_]; exact fl_u_ne (by first | exact nc_ rfl | decide | omega)
    have e11_ : F4_ 344 12 = F 344 12 := by rw [q5_]; exact fl_u_ne (by first | exact nc_ rfl | decide | omega)
    have b12_ : 0 ≤ F 344 12 ∧ F 344 12 ≤ 1 := gi_g hgi rfl
    have e13_ : F4_ 344 36 = F 344 36 := by rw [q5_]; exact fl_u_ne (by first | exact nc_ rfl | decide | omega)
    have b14_ : 0 ≤ F 344 36 ∧ F 344 36 ≤ 216 := gi_g hgi rfl
    exact ⟨F4_, rfl, g6_, g7_, (⟨by omega, by omega⟩), (by omega), (pli_cg hpl (show F4_ 344 13 = F 344 13 from (by rw [q5_]; exact (fl_u_ne (by first | exact nc_ rfl | decide | omega)))) (show F4_ 344 58 = F 344 58 from (by rw [q5_]; exact (fl_u_ne (by first | exact nc_ rfl | decide | omega)))) (fun j => (show F4_ 354 j = F 354 j from (by rw [q5_]; exact (fl_u_ne (by first | exact nc_ rfl | decide | omega))))) (fun j => (show F4_ 367 j = F 367 j from (by rw [q5_]; exact (fl_u_ne (by first | exact nc_ rfl | decide | omega))))) (fun j => (show F4_ 368 j = F 368 j from (by rw [q5_]; exact (fl_u_ne (by first | exact nc_ rfl | decide | omega))))) (fun j => (show F4_ 381 j = F 381 j from (by rw [q5_]; exact (fl_u_ne (by first | exact nc_ rfl | decide | omega)))))), (fun h9_ => by have h8_ := hpb (by omega); have h7_ : F4_ 344 36 = F 344 36 := (show F4_ 344 36 = F 344 36 from (by rw [q5_]; exact (fl_u_ne (by first | exact nc_ rfl | decide | omega)))); exact ⟨sob_cg h8_.1 (show F4_ 344 39 = F 344 39 from (by rw [q5_]; exact (fl_u_ne (by first | exact nc_ rfl | decide | omega)))) (fun j => (show F4_ 357 j = F 357 j from (by rw [q5_]; exact (fl_u_ne (by first | exact nc_ rfl | decide | omega))))) (fun j => (show F4_ 367 j = F 367 j from (by rw [q5_]; exact (fl_u_ne (by first | exact nc_ rfl | decide | omega))))) (fun j => (show F4_ 354 j = F 354 j from (by rw [q5_]; exact (fl_u_ne (by first | exact nc_ rfl | decide | omega))))) (fun j => (show F4_ 368 j = F 368 j from (by rw [q5_]; exact (fl_u_ne (by first | exact nc_ rfl | decide | omega))))), by omega⟩)⟩
  refine fl_iconst hm_64 rfl ?_
  refine fl_goto hm_64 rfl ?_
  refine ga_puti (z := 0) hm_64 rfl sc_344 rfl rfl ?_
  refine ga_aload_n (v := .ref 344) hm_64 rfl rfl rfl ?_
  refine ga_geti (z := 0) hm_64 rfl sc_344 rfl (fl_u_eq) ?_
  refine fl_if_le hm_64 rfl ⟨by omega, by omega⟩ (fun _ => ?_) (fun h => absurd (by omega) h)
  obtain ⟨ts, pl, ps, hts, hrpl, hps⟩ := hdm (by omega)
  refine ga_aload_n (v := .ref 344) hm_64 rfl rfl rfl ?_
  refine gIv (nY := 1) (F := 0) (L := 0) (As := []) (b := 344) (rest := []) hm_64 rfl hm_48 rfl rfl (fl_ob sc_344) rfl rfl rfl rfl rfl (by omega) (by omega) ?_
  intro f15_ l16_ h17_ h18_
  show fl_R xi_ms 48 f15_ l16_ 0 [(0, .ref 344)] [] _ _
  refine ga_aload_n (v := .ref 344) hm_48 rfl rfl rfl ?_
  refine fl_iconst hm_48 rfl ?_
  refine ga_puti (z := 0) hm_48 rfl sc_344 rfl rfl ?_
  refine ga_aload_n (v := .ref 344) hm_48 rfl rfl rfl ?_
  refine fl_iconst hm_48 rfl ?_
  refine ga_puti (z := 0) hm_48 rfl sc_344 rfl rfl ?_
  refine gr_v hm_48 rfl rfl ?_
  clear h17_ h18_ f15_ l16_
  refine ga_aload_n (v := .ref 344) hm_64 rfl rfl rfl ?_
  refine fl_iconst hm_64 rfl ?_
  refine ga_putz (z := 0) hm_64 rfl sc_344 rfl rfl (by omega) ?_
  refine ga_aload_n (v := .ref 344) hm_64 rfl rfl rfl ?_
  refine fl_iconst hm_64 rfl ?_
  refine ga_putz (z := 0) hm_64 rfl sc_344 rfl rfl (by omega) ?_
  refine ga_aload_n (v := .ref 344) hm_64 rfl rfl rfl ?_
  refine fl_iconst hm_64 rfl ?_
  refine ga_puti (z := 0) hm_64 rfl sc_344 rfl rfl ?_
  refine ga_aload_n (v := .ref 344) hm_64 rfl rfl rfl ?_
  refine fl_iconst hm_64 rfl ?_
  refine ga_puti (z := 0) hm_64 rfl sc_344 rfl rfl ?_
  refine ga_aload_n (v := .ref 344) hm_64 rfl rfl rfl ?_
  obtain ⟨F19_, q20_⟩ : ∃ Fq_, Fq_ = (fl_u (fl_u (fl_u (fl_u (fl_u (fl_u (fl_u F 344 0 0) 344 9 0) 344 10 0) 344 12 0) 344 13 0) 344 33 0) 344 60 0) := ⟨_, rfl⟩
  rw [← q20_]
  have g21_ : gi F19_ := by rw [q20_]; exact gi_u (gi_u (gi_u (gi_u (gi_u (gi_u (gi_u (hgi) rfl (by omega) (by omega)) rfl (by omega) (by omega)) rfl (by omega) (by omega)) rfl (by omega) (by omega)) rfl (by omega) (by omega)) rfl (by omega) (by omega)) rfl (by omega) (by omega)
  have g22_ : fs [(344, 344, 0, 1), (344, 344, 4, 5), (344, 344, 8, 10), (344, 344, 12, 13), (344, 344, 33, 33), (344, 344, 36, 36), (344, 344, 38, 39), (344, 344, 46, 48), (344, 344, 60, 60), (344, 344, 64, 64), (347, 348, 0, 100000), (358, 358, 0, 100000), (360, 372, 0, 100000), (384, 384, 0, 100000)] F F19_ := by rw [q20_]; exact fs_u (fs_u (fs_u (fs_u (fs_u (fs_u (fs_u (fs_refl) rfl) rfl) rfl) rfl) rfl) rfl) rfl
  refine gVv (nY := 3) (F := 0) (L := 0) (As := []) (b := 344) (rest := []) hm_64 rfl hm_49 rfl rfl (fl_ob sc_344) rfl rfl rfl rfl rfl (by omega) (by omega) (mc_49 hG F19_ X g21_) (fun _ _ h => False.elim h) ?_
  have e24_ : F19_ 344 1 = F 344 1 := by rw [q20_]; exact (fl_u_ne (by first | exact nc_ rfl | decide | omega)).trans ((fl_u_ne (by first | exact nc_ rfl | decide | omega)).trans ((fl_u_ne (by first | exact nc_ rfl | decide | omega)).trans ((fl_u_ne (by first | exact nc_ rfl | decide | omega)).trans ((fl_u_ne (by first | exact nc_ rfl | decide | omega)).trans ((fl_u_ne (by first | exact nc_ rfl | decide | omega)).trans (fl_u_ne (by first | exact nc_ rfl | decide | omega)))))))
  have b25_ : 0 ≤ F 344 1 ∧ F 344 1 ≤ 600 := gi_g hgi rfl
  rintro A1_ ⟨F28_, hA_, g29_, s30_, c26_, c27_⟩
  subst hA_
  have g31_ : fs [(344, 344, 0, 1), (344, 344, 4, 5), (344, 344, 8, 10), (344, 344, 12, 13), (344, 344, 33, 33), (344, 344, 36, 36), (344, 344, 38, 39), (344, 344, 46, 48), (344, 344, 60, 60), (344, 344, 64, 64), (347, 348, 0, 100000), (358, 358, 0, 100000), (360, 372, 0, 100000), (384, 384, 0, 100000)] F F28_ := fs_tr g22_ s30_ rfl
  try simp only [e24_] at c26_
  have hgK : gi K := hin.1
  have hkt : rkt K := rkt_of hin
  have hko := hkt.1
  have hk16 := hko.1
  have hrk1 : rk K F28_ := rk_of (n := F 344 1) hin (fun j hj => Eq.trans (show F19_ 345 j = F 345 j from (by rw [q20_]; exact (fl_u_ne (by first | exact nc_ rfl | decide | omega)).trans ((fl_u_ne (by first | exact nc_ rfl | decide | omega)).trans ((fl_u_ne (by first | exact nc_ rfl | decide | omega)).trans ((fl_u_ne (by first | exact nc_ rfl | decide | omega)).trans ((fl_u_ne (by first | exact nc_ rfl | decide | omega)).trans ((fl_u_ne (by first | exact nc_ rfl | decide | omega)).trans ((fl_u_ne (by first | exact nc_ rfl | decide | omega)))))))))) (htx j hj)) c26_ (fun j => (show F28_ 345 j = F19_ 345 j from (s30_ 345 j (by first | exact fs_c rfl | exact (fs_n (by omega) (fs_n (by omega) rfl)))))) (fun j hj => Eq.trans (Eq.trans (a := F28_ 346 j) (b := F19_ 346 j) (s30_ 346 j (by first | exact fs_c rfl | exact (fs_n (by omega) (fs_n (by omega) rfl)))) (show F19_ 346 j = F 346 j from (by rw [q20_]; exact (fl_u_ne (by first | exact nc_ rfl | decide | omega)).trans ((fl_u_ne (by first | exact nc_ rfl | decide | omega)).trans ((fl_u_ne (by first | exact nc_ rfl | decide | omega)).trans ((fl_u_ne (by first | exact nc_ rfl | decide | omega)).trans ((fl_u_ne (by first | exact nc_ rfl | decide | omega)).trans ((fl_u_ne (by first | exact nc_ rfl | decide | omega)).trans ((fl_u_ne (by first | exact nc_ rfl | decide | omega))))))))))) (hkw j hj))
  refine ga_aload_n (v := .ref 344) hm_64 rfl rfl rfl ?_
  have b32_ : 0 ≤ F28_ 344 5 ∧ F28_ 344 5 ≤ 600 := gi_g g29_ rfl
  have e33_ : F19_ 344 33 = 0 := by rw [q20_]; exact (fl_u_ne (by first | exact nc_ rfl | decide | omega)).trans (fl_u_eq)
  have e34_ : F28_ 344 33 = 0 := (s30_ 344 33 rfl).trans (e33_)
  refine gVv (nY := 4) (F := 7) (L := 165) (As := []) (b := 344) (rest := []) hm_64 rfl hm_184 rfl rfl (fl_ob sc_344) rfl rfl rfl rfl rfl (by omega) (by omega) (mc_184 hG F28_ X g29_ (K) (ts) (pl) (ps) (hgK) hrk1 (hkt) (⟨by omega, by omega⟩) ((rpn_fs (by rw [q20_]; exact (rpn_u (rpn_u (rpn_u (rpn_u (rpn_u (rpn_u (rpn_u hts (by first | decide | exact nc_ rfl | omega) (by first | decide | exact nc_ rfl | omega)) (by first | decide | exact nc_ rfl | omega) (by first | decide | exact nc_ rfl | omega)) (by first | decide | exact nc_ rfl | omega) (by first | decide | exact nc_ rfl | omega)) (by first | decide | exact nc_ rfl | omega) (by first | decide | exact nc_ rfl | omega)) (by first | decide | exact nc_ rfl | omega) (by first | decide | exact nc_ rfl | omega)) (by first | decide | exact nc_ rfl | omega) (by first | decide | exact nc_ rfl | omega)) (by first | decide | exact nc_ rfl | omega) (by first | decide | exact nc_ rfl | omega))) s30_ (fun _ => (by first | exact fs_c rfl | exact (fs_n (by omega) (fs_n (by omega) rfl)))) (by first | exact fs_c rfl | exact (fs_n (by omega) (fs_n (by omega) rfl))))) ((rpn_fs (by rw [q20_]; exact (rpn_u (rpn_u (rpn_u (rpn_u (rpn_u (rpn_u (rpn_u hrpl (by first | decide | exact nc_ rfl | omega) (by first | decide | exact nc_ rfl | omega)) (by first | decide | exact nc_ rfl | omega) (by first | decide | exact nc_ rfl | omega)) (by first | decide | exact nc_ rfl | omega) (by first | decide | exact nc_ rfl | omega)) (by first | decide | exact nc_ rfl | omega) (by first | decide | exact nc_ rfl | omega)) (by first | decide | exact nc_ rfl | omega) (by first | decide | exact nc_ rfl | omega)) (by first | decide | exact nc_ rfl | omega) (by first | decide | exact nc_ rfl | omega)) (by first | decide | exact nc_ rfl | omega) (by first | decide | exact nc_ rfl | omega))) s30_ (fun _ => (by first | exact fs_c rfl | exact (fs_n (by omega) (fs_n (by omega) rfl)))) (by first | exact fs_c rfl | exact (fs_n (by omega) (fs_n (by omega) rfl))))) (⟨(rprd_fs (by rw [q20_]; exact (rprd_u (rprd_u (rprd_u (rprd_u (rprd_u (rprd_u (rprd_u hps.1 (by first | decide | exact nc_ rfl | omega)) (by first | decide | exact nc_ rfl | omega)) (by first | decide | exact nc_ rfl | omega)) (by first | decide | exact nc_ rfl | omega)) (by first | decide | exact nc_ rfl | omega)) (by first | decide | exact nc_ rfl | omega)) (by first | decide | exact nc_ rfl | omega))) s30_ (by first | exact fs_rg rfl | exact fun r j hj => (fs_n (by omega) (fs_n (by omega) rfl)))), hps.2⟩) (by omega)) (fun _ _ h => False.elim h) ?_
  rintro A1_ ⟨F37_, hA_, g38_, s39_, c36_⟩
  subst hA_
  have g40_ : fs [(344, 344, 0, 1), (344, 344, 4, 5), (344, 344, 8, 10), (344, 344, 12, 13), (344, 344, 33, 33), (344, 344, 36, 36), (344, 344, 38, 39), (344, 344, 46, 48), (344, 344, 60, 60), (344, 344, 64, 64), (347, 348, 0, 100000), (358, 358, 0, 100000), (360, 372, 0, 100000), (384, 384, 0, 100000)] F F37_ := fs_tr g31_ s39_ rfl
  have rk41_ : rk K F37_ := rk_fs hrk1 s39_ (fs_rg rfl) rfl
  refine ga_aload_n (v := .ref 344) hm_64 rfl rfl rfl ?_
  refine gIi (nY := 1) (F := 0) (L := 0) (As := []) (b := 344) (rest := []) hm_64 rfl hm_62 rfl rfl (fl_ob sc_344) rfl rfl rfl rfl rfl (by omega) (by omega) ?_
  intro f42_ l43_ h44_ h45_
  show fl_R xi_ms 62 f42_ l43_ 0 [(0, .ref 344)] [] _ _
  refine ga_aload_n (v := .ref 344) hm_62 rfl rfl rfl ?_
  refine ga_aload_n (v := .ref 344) hm_62 rfl rfl rfl ?_
  have b46_ : 0 ≤ F37_ 344 9 ∧ F37_ 344 9 ≤ 5 := gi_g g38_ rfl
  refine ga_geti (z := F37_ 344 9) hm_62 rfl sc_344 rfl (rfl) ?_
  refine fx_if_ne (a := F37_ 344 9) hm_62 rfl ⟨by omega, by omega⟩ (fun h47_ => ?_) (fun h48_ => ?_)
  ·
    refine ga_aload_n (v := .ref 344) hm_62 rfl rfl rfl ?_
    refine ga_geti (z := F37_ 344 9) hm_62 rfl sc_344 rfl (rfl) ?_
    refine fl_bipush hm_62 rfl rfl ?_
    refine ga_aload_n (v := .ref 344) hm_62 rfl rfl rfl ?_
    have b49_ : 0 ≤ F37_ 344 10 ∧ F37_ 344 10 ≤ 600 := gi_g g38_ rfl
    refine ga_geti (z := F37_ 344 10) hm_62 rfl sc_344 rfl (rfl) ?_
    refine ga_imul (a := 10) (b := F37_ 344 10) (c := 10 * (F37_ 344 10)) hm_62 rfl (by omega) ?_
    refine ga_iadd (a := F37_ 344 9) (b := 10 * (F37_ 344 10)) (c := F37_ 344 9 + 10 * (F37_ 344 10)) hm_62 rfl (by omega) ?_
    refine ga_puti (z := F37_ 344 9 + 10 * (F37_ 344 10)) hm_62 rfl sc_344 rfl rfl ?_
    refine ga_aload_n (v := .ref 344) hm_62 rfl rfl rfl ?_
    refine fl_iconst hm_62 rfl ?_
    refine ga_puti (z := 0) hm_62 rfl sc_344 rfl rfl ?_
    refine ga_aload_n (v := .ref 344) hm_62 rfl rfl rfl ?_
    refine ga_aload_n (v := .ref 344) hm_62 rfl rfl rfl ?_
    refine ga_geti (z := F37_ 344 9) hm_62 rfl sc_344 rfl ((fl_u_ne (by first | exact nc_ rfl | decide | omega)).trans (fl_u_ne (by first | exact nc_ rfl | decide | omega))) ?_
    refine fx_if_ne (a := F37_ 344 9) hm_62 rfl ⟨by omega, by omega⟩ (fun h50_ => ?_) (fun h51_ => ?_)
    ·
      refine fl_iconst hm_62 rfl ?_
      refine ga_puti (z := 1) hm_62 rfl sc_344 rfl rfl ?_
      refine ga_aload_n (v := .ref 344) hm_62 rfl rfl rfl ?_
      refine ga_geti (z := 1) hm_62 rfl sc_344 rfl (fl_u_eq) ?_
      refine fl_if_ne hm_62 rfl ⟨by omega, by omega⟩ (fun _ => ?_) (fun h => absurd (by omega) h)
      refine fl_iconst hm_62 rfl ?_
      refine gr_i hm_62 rfl rfl (ga_nb (by omega)) ?_
      clear h44_ h45_ f42_ l43_
      refine fl_if_ne hm_64 rfl ⟨by omega, by omega⟩ (fun h => absurd h (by omega)) (fun _ => ?_)
      refine ga_aload_n (v := .ref 344) hm_64 rfl rfl rfl ?_
      refine fl_iconst hm_64 rfl ?_
      refine ga_puti (z := 2) hm_64 rfl sc_344 rfl rfl ?_
      refine fl_iconst hm_64 rfl ?_
      obtain ⟨F52_, q53_⟩ : ∃ Fq_, Fq_ = (fl_u (fl_u (fl_u (fl_u F37_ 344 8 (F37_ 344 9 + 10 * (F37_ 344 10))) 344 1 0) 344 0 1) 344 0 2) := ⟨_, rfl⟩
      rw [← q53_]
      have g54_ : gi F52_ := by rw [q53_]; exact gi_u (gi_u (gi_u (gi_u (g38_) rfl (by omega) (by omega)) rfl (by omega) (by omega)) rfl (by omega) (by omega)) rfl (by omega) (by omega)
      have g55_ : fs [(344, 344, 0, 1), (344, 344, 4, 5), (344, 344, 8, 10), (344, 344, 12, 13), (344, 344, 33, 33), (344, 344, 36, 36), (344, 344, 38, 39), (344, 344, 46, 48), (344, 344, 60, 60), (344, 344, 64, 64), (347, 348, 0, 100000), (358, 358, 0, 100000), (360, 372, 0, 100000), (384, 384, 0, 100000)] F F52_ := by rw [q53_]; exact fs_u (fs_u (fs_u (fs_u (g40_) rfl) rfl) rfl) rfl
      have rk56_ : rk K F52_ := by rw [q53_]; exact rk_u (rk_u (rk_u (rk_u (rk41_) (by first | decide | exact nc_ rfl | omega) (by first | decide | exact nc_ rfl | omega)) (by first | decide | exact nc_ rfl | omega) (by first | decide | exact nc_ rfl | omega)) (by first | decide | exact nc_ rfl | omega) (by first | decide | exact nc_ rfl | omega)) (by first | decide | exact nc_ rfl | omega) (by first | decide | exact nc_ rfl | omega)
      refine gr_i (z := 0) hm_64 rfl rfl rfl ?_
      have e57_ : F52_ 344 1 = 0 := by rw [q53_]; exact (fl_u_ne (by first | exact nc_ rfl | decide | omega)).trans ((fl_u_ne (by first | exact nc_ rfl | decide | omega)).trans (fl_u_eq))
      have e58_ : F19_ 344 13 = 0 := by rw [q20_]; exact (fl_u_ne (by first | exact nc_ rfl | decide | omega)).trans ((fl_u_ne (by first | exact nc_ rfl | decide | omega)).trans (fl_u_eq))
      have e59_ : F28_ 344 13 = 0 := (s30_ 344 13 rfl).trans (e58_)
      have e60_ : F37_ 344 13 = 0 := (s39_ 344 13 rfl).trans (e59_)
      have e61_ : F52_ 344 13 = 0 := by rw [q53_]; exact (fl_u_ne (by first | exact nc_ rfl | decide | omega)).trans ((fl_u_ne (by first | exact nc_ rfl | decide | omega)).trans ((fl_u_ne (by first | exact nc_ rfl | decide | omega)).trans ((fl_u_ne (by first | exact nc_ rfl | decide | omega)).trans (e60_))))
      have e62_ : F19_ 344 12 = 0 := by rw [q20_]; exact (fl_u_ne (by first | exact nc_ rfl | decide | omega)).trans ((fl_u_ne (by first | exact nc_ rfl | decide | omega)).trans ((fl_u_ne (by first | exact nc_ rfl | decide | omega)).trans (fl_u_eq)))
      have e63_ : F28_ 344 12 = 0 := (s30_ 344 12 rfl).trans (e62_)
      have e64_ : F37_ 344 12 = 0 := (s39_ 344 12 rfl).trans (e63_)
      have e65_ : F52_ 344 12 = 0 := by rw [q53_]; exact (fl_u_ne (by first | exact nc_ rfl | decide | omega)).trans ((fl_u_ne (by first | exact nc_ rfl | decide | omega)).trans ((fl_u_ne (by first | exact nc_ rfl | decide | omega)).trans ((fl_u_ne (by first | exact nc_ rfl | decide | omega)).trans (e64_))))
      have e66_ : F52_ 344 36 = F37_ 344 36 := by rw [q53_]; exact (fl_u_ne (by first | exact nc_ rfl | decide | omega)).trans ((fl_u_ne (by first | exact nc_ rfl | decide | omega)).trans ((fl_u_ne (by first | exact nc_ rfl | decide | omega)).trans (fl_u_ne (by first | exact nc_ rfl | decide | omega))))
      have b67_ : 0 ≤ F37_ 344 36 ∧ F37_ 344 36 ≤ 216 := gi_g g38_ rfl
      exact ⟨F52_, rfl, g54_, g55_, (⟨by omega, by omega⟩), (by omega), (pli_0 (by omega)), (fun h9_ => absurd h9_ (by omega))⟩
    exfalso; omega
  refine fl_iconst hm_62 rfl ?_
  refine fl_goto hm_62 rfl ?_
  refine ga_puti (z := 0) hm_62 rfl sc_344 rfl rfl ?_
  refine ga_aload_n (v := .ref 344) hm_62 rfl rfl rfl ?_
  refine fl_iconst hm_62 rfl ?_
  refine ga_puti (z := 0) hm_62 rfl sc_344 rfl rfl ?_
  refine ga_aload_n (v := .ref 344) hm_62 rfl rfl rfl ?_
  refine ga_aload_n (v := .ref 344) hm_62 rfl rfl rfl ?_
  refine ga_geti (z := F37_ 344 9) hm_62 rfl sc_344 rfl ((fl_u_ne (by first | exact nc_ rfl | decide | omega)).trans (fl_u_ne (by first | exact nc_ rfl | decide | omega))) ?_
  refine fx_if_ne (a := F37_ 344 9) hm_62 rfl ⟨by omega, by omega⟩ (fun h68_ => ?_) (fun h69_ => ?_)
  · exfalso; omega
  refine fl_iconst hm_62 rfl ?_
  refine fl_goto hm_62 rfl ?_
  refine ga_puti (z := 0) hm_62 rfl sc_344 rfl rfl ?_
  refine ga_aload_n (v := .ref 344) hm_62 rfl rfl rfl ?_
  refine ga_geti (z := 0) hm_62 rfl sc_344 rfl (fl_u_eq) ?_
  refine fl_if_ne hm_62 rfl ⟨by omega, by omega⟩ (fun h => absurd h (by omega)) (fun _ => ?_)
  refine fl_iconst hm_62 rfl ?_
  refine fl_goto hm_62 rfl ?_
  refine gr_i hm_62 rfl rfl (ga_nb (by omega)) ?_
  clear h44_ h45_ f42_ l43_
  refine fl_if_ne hm_64 rfl ⟨by omega, by omega⟩ (fun _ => ?_) (fun h => absurd (by omega) h)
  refine ga_aload_n (v := .ref 344) hm_64 rfl rfl rfl ?_
  refine ga_aload_n (v := .ref 344) hm_64 rfl rfl rfl ?_
  have b70_ : -9223372036854775808 ≤ F37_ 344 64 ∧ F37_ 344 64 ≤ 9223372036854775807 := gi_g g38_ rfl
  refine ga_getl (z := F37_ 344 64) hm_64 rfl sc_344 rfl ((fl_u_ne (by first | exact nc_ rfl | decide | omega)).trans ((fl_u_ne (by first | exact nc_ rfl | decide | omega)).trans (fl_u_ne (by first | exact nc_ rfl | decide | omega)))) ?_
  refine ga_putl hm_64 rfl sc_344 rfl rfl ?_
  refine ga_aload_n (v := .ref 344) hm_64 rfl rfl rfl ?_
  refine fl_iconst hm_64 rfl ?_
  refine ga_puti (z := 0) hm_64 rfl sc_344 rfl rfl ?_
  refine ga_aload_n (v := .ref 344) hm_64 rfl rfl rfl ?_
  have b71_ : 0 ≤ F37_ 344 36 ∧ F37_ 344 36 ≤ 216 := gi_g g38_ rfl
  refine ga_geti (z := F37_ 344 36) hm_64 rfl sc_344 rfl ((fl_u_ne (by first | exact nc_ rfl | decide | omega)).trans ((fl_u_ne (by first | exact nc_ rfl | decide | omega)).trans ((fl_u_ne (by first | exact nc_ rfl | decide | omega)).trans ((fl_u_ne (by first | exact nc_ rfl | decide | omega)).trans (fl_u_ne (by first | exact nc_ rfl | decide | omega)))))) ?_
  refine fl_bipush hm_64 rfl rfl ?_
  refine fl_icmp_gt (a := F37_ 344 36) (b := 40) hm_64 rfl ⟨by omega, by omega⟩ ⟨by omega, by omega⟩ (fun h72_ => ?_) (fun h73_ => ?_)
  ·
    refine fl_iconst hm_64 rfl ?_
    refine ga_istore_n (lv2 := [(1, .int (Int32.ofInt 0)), (0, .ref 344)]) hm_64 rfl (Nat.le_of_ble_eq_true rfl) rfl ?_
    refine fl_iconst hm_64 rfl ?_
    refine ga_istore_n (lv2 := [(2, .int (Int32.ofInt 0)), (1, .int (Int32.ofInt 0)), (0, .ref 344)]) hm_64 rfl (Nat.le_of_ble_eq_true rfl) rfl ?_
    obtain ⟨F74_, q75_⟩ : ∃ Fq_, Fq_ = (fl_u (fl_u (fl_u (fl_u (fl_u F37_ 344 8 0) 344 1 0) 344 0 0) 344 38 (F37_ 344 64)) 344 39 0) := ⟨_, rfl⟩
    rw [← q75_]
    have g76_ : gi F74_ := by rw [q75_]; exact gi_u (gi_u (gi_u (gi_u (gi_u (g38_) rfl (by omega) (by omega)) rfl (by omega) (by omega)) rfl (by omega) (by omega)) rfl (by omega) (by omega)) rfl (by omega) (by omega)
    have g77_ : fs [(344, 344, 0, 1), (344, 344, 4, 5), (344, 344, 8, 10), (344, 344, 12, 13), (344, 344, 33, 33), (344, 344, 36, 36), (344, 344, 38, 39), (344, 344, 46, 48), (344, 344, 60, 60), (344, 344, 64, 64), (347, 348, 0, 100000), (358, 358, 0, 100000), (360, 372, 0, 100000), (384, 384, 0, 100000)] F F74_ := by rw [q75_]; exact fs_u (fs_u (fs_u (fs_u (fs_u (g40_) rfl) rfl) rfl) rfl) rfl
    have rk78_ : rk K F74_ := by rw [q75_]; exact rk_u (rk_u (rk_u (rk_u (rk_u (rk41_) (by first | decide | exact nc_ rfl | omega) (by first | decide | exact nc_ rfl | omega)) (by first | decide | exact nc_ rfl | omega) (by first | decide | exact nc_ rfl | omega)) (by first | decide | exact nc_ rfl | omega) (by first | decide | exact nc_ rfl | omega)) (by first | decide | exact nc_ rfl | omega) (by first | decide | exact nc_ rfl | omega)) (by first | decide | exact nc_ rfl | omega) (by first | decide | exact nc_ rfl | omega)
    have e82_ : F74_ 344 36 = F37_ 344 36 := by rw [q75_]; exact (fl_u_ne (by first | exact nc_ rfl | decide | omega)).trans ((fl_u_ne (by first | exact nc_ rfl | decide | omega)).trans ((fl_u_ne (by first | exact nc_ rfl | decide | omega)).trans ((fl_u_ne (by first | exact nc_ rfl | decide | omega)).trans (fl_u_ne (by first | exact nc_ rfl | decide | omega)))))
    have L80_ : ∀ (n79_ : Nat) (ft : Int) (a : Int) (F1 : fl_N), (5 - a : Int).toNat = n79_ → (gi F1) → (fs [(344, 344, 39, 39), (367, 372, 0, 100000), (384, 384, 0, 100000)] F74_ F1) → (0 ≤ a ∧ a ≤ 5) → (0 ≤ ft ∧ ft ≤ 1) → (sob F1) → (ft = 1 → F74_ 344 36 ≤ 40) → fl_R xi_ms 64 fr lo 101 [(2, .int (Int32.ofInt a)), (1, .int (Int32.ofInt ft)), (0, .ref 344)] [] (fl_H sh_T G F1 ++ X) (pq_64 G F X K) := by
      intro n79_
      induction n79_ using Nat.strongRecOn with
      | ind n79_ ih81_ =>
      intro ft a F1 hn83_ hg_F1 hf_F1 ha hft hs1 hf4
      have g84_ : fs [(344, 344, 0, 1), (344, 344, 4, 5), (344, 344, 8, 10), (344, 344, 12, 13), (344, 344, 33, 33), (344, 344, 36, 36), (344, 344, 38, 39), (344, 344, 46, 48), (344, 344, 60, 60), (344, 344, 64, 64), (347, 348, 0, 100000), (358, 358, 0, 100000), (360, 372, 0, 100000), (384, 384, 0, 100000)] F F1 := fs_tr g77_ hf_F1 rfl
      have rk85_ : rk K F1 := rk_fs rk78_ hf_F1 (fs_rg rfl) rfl
      refine ga_iload_n (z := a) hm_64 rfl rfl ?_
      refine ga_aload_n (v := .ref 344) hm_64 rfl rfl rfl ?_
      have e86_ : F19_ 344 21 = F 344 21 := by rw [q20_]; exact (fl_u_ne (by first | exact nc_ rfl | decide | omega)).trans ((fl_u_ne (by first | exact nc_ rfl | decide | omega)).trans ((fl_u_ne (by first | exact nc_ rfl | decide | omega)).trans ((fl_u_ne (by first | exact nc_ rfl | decide | omega)).trans ((fl_u_ne (by first | exact nc_ rfl | decide | omega)).trans ((fl_u_ne (by first | exact nc_ rfl | decide | omega)).trans (fl_u_ne (by first | exact nc_ rfl | decide | omega)))))))
      have e87_ : F28_ 344 21 = F 344 21 := (s30_ 344 21 rfl).trans (e86_)
      have e88_ : F37_ 344 21 = F 344 21 := (s39_ 344 21 rfl).trans (e87_)
      have e89_ : F74_ 344 21 = F 344 21 := by rw [q75_]; exact (fl_u_ne (by first | exact nc_ rfl | decide | omega)).trans ((fl_u_ne (by first | exact nc_ rfl | decide | omega)).trans ((fl_u_ne (by first | exact nc_ rfl | decide | omega)).trans ((fl_u_ne (by first | exact nc_ rfl | decide | omega)).trans ((fl_u_ne (by first | exact nc_ rfl | decide | omega)).trans (e88_)))))
      have e90_ : F1 344 21 = F 344 21 := (hf_F1 344 21 rfl).trans (e89_)
      have b91_ : 0 ≤ F 344 21 ∧ F 344 21 ≤ 5 := gi_g hgi rfl
      refine ga_geti (z := F 344 21) hm_64 rfl sc_344 rfl (e90_) ?_
      refine fl_icmp_ge (a := a) (b := F 344 21) hm_64 rfl ⟨by omega, by omega⟩ ⟨by omega, by omega⟩ (fun h92_ => ?_) (fun h93_ => ?_)
      ·
        refine ga_iload_n (z := ft) hm_64 rfl rfl ?_
        refine fx_if_ne (a := ft) hm_64 rfl ⟨by omega, by omega⟩ (fun h94_ => ?_) (fun h95_ => ?_)
        ·
          refine ga_aload_n (v := .ref 344) hm_64 rfl rfl rfl ?_
          refine ga_aload_n (v := .ref 344) hm_64 rfl rfl rfl ?_
          refine fl_iconst hm_64 rfl ?_
          refine fl_bipush hm_64 rfl rfl ?_
          refine ga_aload_n (v := .ref 344) hm_64 rfl rfl rfl ?_
          refine ga_getr (b := 358) hm_64 rfl sc_344 rfl ?_
          refine fl_iconst hm_64 rfl ?_
          have e96_ : F74_ 358 5 = F37_ 358 5 := by rw [q75_]; exact (fl_u_ne (by first | exact nc_ rfl | decide | omega)).trans ((fl_u_ne (by first | exact nc_ rfl | decide | omega)).trans ((fl_u_ne (by first | exact nc_ rfl | decide | omega)).trans ((fl_u_ne (by first | exact nc_ rfl | decide | omega)).trans (fl_u_ne (by first | exact nc_ rfl | decide | omega)))))
          have e97_ : F1 358 5 = F37_ 358 5 := (hf_F1 358 5 rfl).trans (e96_)
          have b98_ : 0 ≤ F37_ 358 5 ∧ F37_ 358 5 ≤ 4 := gi_g g38_ rfl
          refine ga_iald (z := 5) (w := F37_ 358 5) hm_64 rfl sc_358 (by omega) (by omega) (by omega) (e97_) ?_
          refine fl_iconst hm_64 rfl ?_
          refine gVl (nY := 9) (F := 2) (L := 47) (As := [.int (Int32.ofInt 5), .int (Int32.ofInt 40), .int (Int32.ofInt (F37_ 358 5)), .int (Int32.ofInt 0)]) (b := 344) (rest := [.ref 344]) hm_64 rfl hm_156 rfl rfl (fl_ob sc_344) rfl rfl rfl rfl rfl (by omega) (by omega) (mc_156 hG F1 X hg_F1 (5) (40) (F37_ 358 5) (0) (⟨by omega, by omega⟩) (by omega) (⟨by omega, by omega⟩) (⟨by omega, by omega⟩)) (fun _ _ h => False.elim h) ?_
          rintro z99_ A1_ ⟨hA_, c100_⟩
          subst hA_
          refine ga_putl hm_64 rfl sc_344 rfl rfl ?_
          refine ga_aload_n (v := .ref 344) hm_64 rfl rfl rfl ?_
          refine ga_aload_n (v := .ref 344) hm_64 rfl rfl rfl ?_
          refine fl_iconst hm_64 rfl ?_
          refine fl_bipush hm_64 rfl rfl ?_
          refine ga_aload_n (v := .ref 344) hm_64 rfl rfl rfl ?_
          refine ga_getr (b := 358) hm_64 rfl sc_344 rfl ?_
          refine fl_iconst hm_64 rfl ?_
          refine ga_iald (z := 5) (w := F37_ 358 5) hm_64 rfl sc_358 (by omega) (by omega) (by omega) ((fl_u_ne (by first | exact nc_ rfl | decide | omega)).trans (e97_)) ?_
          refine fl_iconst hm_64 rfl ?_
          obtain ⟨F101_, q102_⟩ : ∃ Fq_, Fq_ = (fl_u F1 344 46 z99_) := ⟨_, rfl⟩
          rw [← q102_]
          have g103_ : gi F101_ := by rw [q102_]; exact gi_u (hg_F1) rfl (by omega) (by omega)
          have g104_ : fs [(344, 344, 0, 1), (344, 344, 4, 5), (344, 344, 8, 10), (344, 344, 12, 13), (344, 344, 33, 33), (344, 344, 36, 36), (344, 344, 38, 39), (344, 344, 46, 48), (344, 344, 60, 60), (344, 344, 64, 64), (347, 348, 0, 100000), (358, 358, 0, 100000), (360, 372, 0, 100000), (384, 384, 0, 100000)] F F101_ := by rw [q102_]; exact fs_u (g84_) rfl
          have rk105_ : rk K F101_ := by rw [q102_]; exact rk_u (rk85_) (by first | decide | exact nc_ rfl | omega) (by first | decide | exact nc_ rfl | omega)
          refine gVl (nY := 9) (F := 2) (L := 47) (As := [.int (Int32.ofInt 5), .int (Int32.ofInt 40), .int (Int32.ofInt (F37_ 358 5)), .int (Int32.ofInt 1)]) (b := 344) (rest := [.ref 344]) hm_64 rfl hm_156 rfl rfl (fl_ob sc_344) rfl rfl rfl rfl rfl (by omega) (by omega) (mc_156 hG F101_ X g103_ (5) (40) (F37_ 358 5) (1) (⟨by omega, by omega⟩) (by omega) (⟨by omega, by omega⟩) (⟨by omega, by omega⟩)) (fun _ _ h => False.elim h) ?_
          rintro z106_ A1_ ⟨hA_, c107_⟩
          subst hA_
          refine ga_putl hm_64 rfl sc_344 rfl rfl ?_
          refine ga_aload_n (v := .ref 344) hm_64 rfl rfl rfl ?_
          refine ga_aload_n (v := .ref 344) hm_64 rfl rfl rfl ?_
          refine fl_iconst hm_64 rfl ?_
          refine fl_bipush hm_64 rfl rfl ?_
          obtain ⟨F108_, q109_⟩ : ∃ Fq_, Fq_ = (fl_u F101_ 344 47 z106_) := ⟨_, rfl⟩
          rw [← q109_]
          have g110_ : gi F108_ := by rw [q109_]; exact gi_u (g103_) rfl (by omega) (by omega)
          have g111_ : fs [(344, 344, 0, 1), (344, 344, 4, 5), (344, 344, 8, 10), (344, 344, 12, 13), (344, 344, 33, 33), (344, 344, 36, 36), (344, 344, 38, 39), (344, 344, 46, 48), (344, 344, 60, 60), (344, 344, 64, 64), (347, 348, 0, 100000), (358, 358, 0, 100000), (360, 372, 0, 100000), (384, 384, 0, 100000)] F F108_ := by rw [q109_]; exact fs_u (g104_) rfl
          have rk112_ : rk K F108_ := by rw [q109_]; exact rk_u (rk105_) (by first | decide | exact nc_ rfl | omega) (by first | decide | exact nc_ rfl | omega)
          refine gVi (nY := 6) (F := 1) (L := 23) (As := [.int (Int32.ofInt 5), .int (Int32.ofInt 40)]) (b := 344) (rest := [.ref 344]) hm_64 rfl hm_159 rfl rfl (fl_ob sc_344) rfl rfl rfl rfl rfl (by omega) (by omega) (mc_159 hG F108_ X g110_ (5) (40) (⟨by omega, by omega⟩) (by omega)) (fun _ _ h => False.elim h) ?_
          rintro z113_ A1_ ⟨hA_, c114_⟩
          subst hA_
          refine ga_putz (z := z113_) hm_64 rfl sc_344 rfl rfl (by omega) ?_
          refine ga_aload_n (v := .ref 344) hm_64 rfl rfl rfl ?_
          refine fl_iconst hm_64 rfl ?_
          refine ga_putz (z := 1) hm_64 rfl sc_344 rfl rfl (by omega) ?_
          refine ga_aload_n (v := .ref 344) hm_64 rfl rfl rfl ?_
          have e115_ : F101_ 344 39 = F1 344 39 := by rw [q102_]; exact fl_u_ne (by first | exact nc_ rfl | decide | omega)
          have e116_ : F108_ 344 39 = F1 344 39 := by rw [q109_]; exact (fl_u_ne (by first | exact nc_ rfl | decide | omega)).trans (e115_)
          have b117_ : 0 ≤ F1 344 39 ∧ F1 344 39 ≤ 40 := gi_g hg_F1 rfl
          refine ga_geti (z := F1 344 39) hm_64 rfl sc_344 rfl ((fl_u_ne (by first | exact nc_ rfl | decide | omega)).trans ((fl_u_ne (by first | exact nc_ rfl | decide | omega)).trans (e116_))) ?_
          obtain ⟨F118_, q119_⟩ : ∃ Fq_, Fq_ = (fl_u (fl_u F108_ 344 48 z113_) 344 12 1) := ⟨_, rfl⟩
          rw [← q119_]
          have g120_ : gi F118_ := by rw [q119_]; exact gi_u (gi_u (g110_) rfl (by omega) (by omega)) rfl (by omega) (by omega)
          have g121_ : fs [(344, 344, 0, 1), (344, 344, 4, 5), (344, 344, 8, 10), (344, 344, 12, 13), (344, 344, 33, 33), (344, 344, 36, 36), (344, 344, 38, 39), (344, 344, 46, 48), (344, 344, 60, 60), (344, 344, 64, 64), (347, 348, 0, 100000), (358, 358, 0, 100000), (360, 372, 0, 100000), (384, 384, 0, 100000)] F F118_ := by rw [q119_]; exact fs_u (fs_u (g111_) rfl) rfl
          have rk122_ : rk K F118_ := by rw [q119_]; exact rk_u (rk_u (rk112_) (by first | decide | exact nc_ rfl | omega) (by first | decide | exact nc_ rfl | omega)) (by first | decide | exact nc_ rfl | omega) (by first | decide | exact nc_ rfl | omega)
          refine gr_i (z := F1 344 39) hm_64 rfl rfl rfl ?_
          have e123_ : F74_ 344 1 = 0 := by rw [q75_]; exact (fl_u_ne (by first | exact nc_ rfl | decide | omega)).trans ((fl_u_ne (by first | exact nc_ rfl | decide | omega)).trans ((fl_u_ne (by first | exact nc_ rfl | decide | omega)).trans (fl_u_eq)))
          have e124_ : F1 344 1 = 0 := (hf_F1 344 1 rfl).trans (e123_)
          have e125_ : F101_ 344 1 = 0 := by rw [q102_]; exact (fl_u_ne (by first | exact nc_ rfl | decide | omega)).trans (e124_)
          have e126_ : F108_ 344 1 = 0 := by rw [q109_]; exact (fl_u_ne (by first | exact nc_ rfl | decide | omega)).trans (e125_)
          have e127_ : F118_ 344 1 = 0 := by rw [q119_]; exact (fl_u_ne (by first | exact nc_ rfl | decide | omega)).trans ((fl_u_ne (by first | exact nc_ rfl | decide | omega)).trans (e126_))
          have e128_ : F19_ 344 13 = 0 := by rw [q20_]; exact (fl_u_ne (by first | exact nc_ rfl | decide | omega)).trans ((fl_u_ne (by first | exact nc_ rfl | decide | omega)).trans (fl_u_eq))
          have e129_ : F28_ 344 13 = 0 := (s30_ 344 13 rfl).trans (e128_)
          have e130_ : F37_ 344 13 = 0 := (s39_ 344 13 rfl).trans (e129_)
          have e131_ : F74_ 344 13 = 0 := by rw [q75_]; exact (fl_u_ne (by first | exact nc_ rfl | decide | omega)).trans ((fl_u_ne (by first | exact nc_ rfl | decide | omega)).trans ((fl_u_ne (by first | exact nc_ rfl | decide | omega)).trans ((fl_u_ne (by first | exact nc_ rfl | decide | omega)).trans ((fl_u_ne (by first | exact nc_ rfl | decide | omega)).trans (e130_)))))
          have e132_ : F1 344 13 = 0 := (hf_F1 344 13 rfl).trans (e131_)
          have e133_ : F101_ 344 13 = 0 := by rw [q102_]; exact (fl_u_ne (by first | exact nc_ rfl | decide | omega)).trans (e132_)
          have e134_ : F108_ 344 13 = 0 := by rw [q109_]; exact (fl_u_ne (by first | exact nc_ rfl | decide | omega)).trans (e133_)
          have e135_ : F118_ 344 13 = 0 := by rw [q119_]; exact (fl_u_ne (by first | exact nc_ rfl | decide | omega)).trans ((fl_u_ne (by first | exact nc_ rfl | decide | omega)).trans (e134_))
          have e136_ : F118_ 344 12 = 1 := by rw [q119_]; exact fl_u_eq
          have e137_ : F1 344 36 = F37_ 344 36 := (hf_F1 344 36 rfl).trans (e82_)
          have e138_ : F101_ 344 36 = F37_ 344 36 := by rw [q102_]; exact (fl_u_ne (by first | exact nc_ rfl | decide | omega)).trans (e137_)
          have e139_ : F108_ 344 36 = F37_ 344 36 := by rw [q109_]; exact (fl_u_ne (by first | exact nc_ rfl | decide | omega)).trans (e138_)
          have e140_ : F118_ 344 36 = F37_ 344 36 := by rw [q119_]; exact (fl_u_ne (by first | exact nc_ rfl | decide | omega)).trans ((fl_u_ne (by first | exact nc_ rfl | decide | omega)).trans (e139_))
          exact ⟨F118_, rfl, g120_, g121_, (⟨by omega, by omega⟩), (by omega), (pli_0 (by omega)), (fun _ => ⟨sob_cg hs1 (Eq.trans (a := F118_ 344 39) (b := F108_ 344 39) (by rw [q119_]; exact (fl_u_ne (by first | exact nc_ rfl | decide | omega)).trans ((fl_u_ne (by first | exact nc_ rfl | decide | omega)))) (Eq.trans (a := F108_ 344 39) (b := F101_ 344 39) (by rw [q109_]; exact (fl_u_ne (by first | exact nc_ rfl | decide | omega))) (show F101_ 344 39 = F1 344 39 from (by rw [q102_]; exact (fl_u_ne (by first | exact nc_ rfl | decide | omega)))))) (fun j => (Eq.trans (a := F118_ 357 j) (b := F108_ 357 j) (by rw [q119_]; exact (fl_u_ne (by first | exact nc_ rfl | decide | omega)).trans ((fl_u_ne (by first | exact nc_ rfl | decide | omega)))) (Eq.trans (a := F108_ 357 j) (b := F101_ 357 j) (by rw [q109_]; exact (fl_u_ne (by first | exact nc_ rfl | decide | omega))) (show F101_ 357 j = F1 357 j from (by rw [q102_]; exact (fl_u_ne (by first | exact nc_ rfl | decide | omega))))))) (fun j => (Eq.trans (a := F118_ 367 j) (b := F108_ 367 j) (by rw [q119_]; exact (fl_u_ne (by first | exact nc_ rfl | decide | omega)).trans ((fl_u_ne (by first | exact nc_ rfl | decide | omega)))) (Eq.trans (a := F108_ 367 j) (b := F101_ 367 j) (by rw [q109_]; exact (fl_u_ne (by first | exact nc_ rfl | decide | omega))) (show F101_ 367 j = F1 367 j from (by rw [q102_]; exact (fl_u_ne (by first | exact nc_ rfl | decide | omega))))))) (fun j => (Eq.trans (a := F118_ 354 j) (b := F108_ 354 j) (by rw [q119_]; exact (fl_u_ne (by first | exact nc_ rfl | decide | omega)).trans ((fl_u_ne (by first | exact nc_ rfl | decide | omega)))) (Eq.trans (a := F108_ 354 j) (b := F101_ 354 j) (by rw [q109_]; exact (fl_u_ne (by first | exact nc_ rfl | decide | omega))) (show F101_ 354 j = F1 354 j from (by rw [q102_]; exact (fl_u_ne (by first | exact nc_ rfl | decide | omega))))))) (fun j => (Eq.trans (a := F118_ 368 j) (b := F108_ 368 j) (by rw [q119_]; exact (fl_u_ne (by first | exact nc_ rfl | decide | omega)).trans ((fl_u_ne (by first | exact nc_ rfl | decide | omega)))) (Eq.trans (a := F108_ 368 j) (b := F101_ 368 j) (by rw [q109_]; exact (fl_u_ne (by first | exact nc_ rfl | decide | omega))) (show F101_ 368 j = F1 368 j from (by rw [q102_]; exact (fl_u_ne (by first | exact nc_ rfl | decide | omega))))))), by omega⟩)⟩
        refine ga_aload_n (v := .ref 344) hm_64 rfl rfl rfl ?_
        refine fl_iconst hm_64 rfl ?_
        refine ga_puti (z := 3) hm_64 rfl sc_344 rfl rfl ?_
        refine fl_iconst hm_64 rfl ?_
        obtain ⟨F141_, q142_⟩ : ∃ Fq_, Fq_ = (fl_u F1 344 0 3) := ⟨_, rfl⟩
        rw [← q142_]
        have g143_ : gi F141_ := by rw [q142_]; exact gi_u (hg_F1) rfl (by omega) (by omega)
        have g144_ : fs [(344, 344, 0, 1), (344, 344, 4, 5), (344, 344, 8, 10), (344, 344, 12, 13), (344, 344, 33, 33), (344, 344, 36, 36), (344, 344, 38, 39), (344, 344, 46, 48), (344, 344, 60, 60), (344, 344, 64, 64), (347, 348, 0, 100000), (358, 358, 0, 100000), (360, 372, 0, 100000), (384, 384, 0, 100000)] F F141_ := by rw [q142_]; exact fs_u (g84_) rfl
        have rk145_ : rk K F141_ := by rw [q142_]; exact rk_u (rk85_) (by first | decide | exact nc_ rfl | omega) (by first | decide | exact nc_ rfl | omega)
        refine gr_i (z := 0) hm_64 rfl rfl rfl ?_
        have e146_ : F74_ 344 1 = 0 := by rw [q75_]; exact (fl_u_ne (by first | exact nc_ rfl | decide | omega)).trans ((fl_u_ne (by first | exact nc_ rfl | decide | omega)).trans ((fl_u_ne (by first | exact nc_ rfl | decide | omega)).trans (fl_u_eq)))
        have e147_ : F1 344 1 = 0 := (hf_F1 344 1 rfl).trans (e146_)
        have e148_ : F141_ 344 1 = 0 := by rw [q142_]; exact (fl_u_ne (by first | exact nc_ rfl | decide | omega)).trans (e147_)
        have e149_ : F19_ 344 13 = 0 := by rw [q20_]; exact (fl_u_ne (by first | exact nc_ rfl | decide | omega)).trans ((fl_u_ne (by first | exact nc_ rfl | decide | omega)).trans (fl_u_eq))
        have e150_ : F28_ 344 13 = 0 := (s30_ 344 13 rfl).trans (e149_)
        have e151_ : F37_ 344 13 = 0 := (s39_ 344 13 rfl).trans (e150_)
        have e152_ : F74_ 344 13 = 0 := by rw [q75_]; exact (fl_u_ne (by first | exact nc_ rfl | decide | omega)).trans ((fl_u_ne (by first | exact nc_ rfl | decide | omega)).trans ((fl_u_ne (by first | exact nc_ rfl | decide | omega)).trans ((fl_u_ne (by first | exact nc_ rfl | decide | omega)).trans ((fl_u_ne (by first | exact nc_ rfl | decide | omega)).trans (e151_)))))
        have e153_ : F1 344 13 = 0 := (hf_F1 344 13 rfl).trans (e152_)
        have e154_ : F141_ 344 13 = 0 := by rw [q142_]; exact (fl_u_ne (by first | exact nc_ rfl | decide | omega)).trans (e153_)
        have e155_ : F19_ 344 12 = 0 := by rw [q20_]; exact (fl_u_ne (by first | exact nc_ rfl | decide | omega)).trans ((fl_u_ne (by first | exact nc_ rfl | decide | omega)).trans ((fl_u_ne (by first | exact nc_ rfl | decide | omega)).trans (fl_u_eq)))
        have e156_ : F28_ 344 12 = 0 := (s30_ 344 12 rfl).trans (e155_)
        have e157_ : F37_ 344 12 = 0 := (s39_ 344 12 rfl).trans (e156_)
        have e158_ : F74_ 344 12 = 0 := by rw [q75_]; exact (fl_u_ne (by first | exact nc_ rfl | decide | omega)).trans ((fl_u_ne (by first | exact nc_ rfl | decide | omega)).trans ((fl_u_ne (by first | exact nc_ rfl | decide | omega)).trans ((fl_u_ne (by first | exact nc_ rfl | decide | omega)).trans ((fl_u_ne (by first | exact nc_ rfl | decide | omega)).trans (e157_)))))
        have e159_ : F1 344 12 = 0 := (hf_F1 344 12 rfl).trans (e158_)
        have e160_ : F141_ 344 12 = 0 := by rw [q142_]; exact (fl_u_ne (by first | exact nc_ rfl | decide | omega)).trans (e159_)
        have e161_ : F1 344 36 = F37_ 344 36 := (hf_F1 344 36 rfl).trans (e82_)
        have e162_ : F141_ 344 36 = F37_ 344 36 := by rw [q142_]; exact (fl_u_ne (by first | exact nc_ rfl | decide | omega)).trans (e161_)
        exact ⟨F141_, rfl, g143_, g144_, (⟨by omega, by omega⟩), (by omega), (pli_0 (by omega)), (fun h9_ => absurd h9_ (by omega))⟩
      refine ga_iload_n (z := ft) hm_64 rfl rfl ?_
      refine fl_if_eq (a := ft) hm_64 rfl ⟨by omega, by omega⟩ (fun h163_ => ?_) (fun h164_ => ?_)
      ·
        refine ga_iload_n (z := ft) hm_64 rfl rfl ?_
        refine fx_if_ne (a := ft) hm_64 rfl ⟨by omega, by omega⟩ (fun h165_ => ?_) (fun h166_ => ?_)
        · exfalso; omega
        refine ga_aload_n (v := .ref 344) hm_64 rfl rfl rfl ?_
        refine fl_iconst hm_64 rfl ?_
        refine ga_puti (z := 3) hm_64 rfl sc_344 rfl rfl ?_
        refine fl_iconst hm_64 rfl ?_
        obtain ⟨F167_, q168_⟩ : ∃ Fq_, Fq_ = (fl_u F1 344 0 3) := ⟨_, rfl⟩
        rw [← q168_]
        have g169_ : gi F167_ := by rw [q168_]; exact gi_u (hg_F1) rfl (by omega) (by omega)
        have g170_ : fs [(344, 344, 0, 1), (344, 344, 4, 5), (344, 344, 8, 10), (344, 344, 12, 13), (344, 344, 33, 33), (344, 344, 36, 36), (344, 344, 38, 39), (344, 344, 46, 48), (344, 344, 60, 60), (344, 344, 64, 64), (347, 348, 0, 100000), (358, 358, 0, 100000), (360, 372, 0, 100000), (384, 384, 0, 100000)] F F167_ := by rw [q168_]; exact fs_u (g84_) rfl
        have rk171_ : rk K F167_ := by rw [q168_]; exact rk_u (rk85_) (by first | decide | exact nc_ rfl | omega) (by first | decide | exact nc_ rfl | omega)
        refine gr_i (z := 0) hm_64 rfl rfl rfl ?_
        have e172_ : F74_ 344 1 = 0 := by rw [q75_]; exact (fl_u_ne (by first | exact nc_ rfl | decide | omega)).trans ((fl_u_ne (by first | exact nc_ rfl | decide | omega)).trans ((fl_u_ne (by first | exact nc_ rfl | decide | omega)).trans (fl_u_eq)))
        have e173_ : F1 344 1 = 0 := (hf_F1 344 1 rfl).trans (e172_)
        have e174_ : F167_ 344 1 = 0 := by rw [q168_]; exact (fl_u_ne (by first | exact nc_ rfl | decide | omega)).trans (e173_)
        have e175_ : F19_ 344 13 = 0 := by rw [q20_]; exact (fl_u_ne (by first | exact nc_ rfl | decide | omega)).trans ((fl_u_ne (by first | exact nc_ rfl | decide | omega)).trans (fl_u_eq))
        have e176_ : F28_ 344 13 = 0 := (s30_ 344 13 rfl).trans (e175_)
        have e177_ : F37_ 344 13 = 0 := (s39_ 344 13 rfl).trans (e176_)
        have e178_ : F74_ 344 13 = 0 := by rw [q75_]; exact (fl_u_ne (by first | exact nc_ rfl | decide | omega)).trans ((fl_u_ne (by first | exact nc_ rfl | decide | omega)).trans ((fl_u_ne (by first | exact nc_ rfl | decide | omega)).trans ((fl_u_ne (by first | exact nc_ rfl | decide | omega)).trans ((fl_u_ne (by first | exact nc_ rfl | decide | omega)).trans (e177_)))))
        have e179_ : F1 344 13 = 0 := (hf_F1 344 13 rfl).trans (e178_)
        have e180_ : F167_ 344 13 = 0 := by rw [q168_]; exact (fl_u_ne (by first | exact nc_ rfl | decide | omega)).trans (e179_)
        have e181_ : F19_ 344 12 = 0 := by rw [q20_]; exact (fl_u_ne (by first | exact nc_ rfl | decide | omega)).trans ((fl_u_ne (by first | exact nc_ rfl | decide | omega)).trans ((fl_u_ne (by first | exact nc_ rfl | decide | omega)).trans (fl_u_eq)))
        have e182_ : F28_ 344 12 = 0 := (s30_ 344 12 rfl).trans (e181_)
        have e183_ : F37_ 344 12 = 0 := (s39_ 344 12 rfl).trans (e182_)
        have e184_ : F74_ 344 12 = 0 := by rw [q75_]; exact (fl_u_ne (by first | exact nc_ rfl | decide | omega)).trans ((fl_u_ne (by first | exact nc_ rfl | decide | omega)).trans ((fl_u_ne (by first | exact nc_ rfl | decide | omega)).trans ((fl_u_ne (by first | exact nc_ rfl | decide | omega)).trans ((fl_u_ne (by first | exact nc_ rfl | decide | omega)).trans (e183_)))))
        have e185_ : F1 344 12 = 0 := (hf_F1 344 12 rfl).trans (e184_)
        have e186_ : F167_ 344 12 = 0 := by rw [q168_]; exact (fl_u_ne (by first | exact nc_ rfl | decide | omega)).trans (e185_)
        have e187_ : F1 344 36 = F37_ 344 36 := (hf_F1 344 36 rfl).trans (e82_)
        have e188_ : F167_ 344 36 = F37_ 344 36 := by rw [q168_]; exact (fl_u_ne (by first | exact nc_ rfl | decide | omega)).trans (e187_)
        exact ⟨F167_, rfl, g169_, g170_, (⟨by omega, by omega⟩), (by omega), (pli_0 (by omega)), (fun h9_ => absurd h9_ (by omega))⟩
      refine ga_aload_n (v := .ref 344) hm_64 rfl rfl rfl ?_
      refine ga_iload_n (z := a) hm_64 rfl rfl ?_
      have e189_ : F19_ 357 a.toNat = F 357 a.toNat := by rw [q20_]; exact (fl_u_ne (by first | exact nc_ rfl | decide | omega)).trans ((fl_u_ne (by first | exact nc_ rfl | decide | omega)).trans ((fl_u_ne (by first | exact nc_ rfl | decide | omega)).trans ((fl_u_ne (by first | exact nc_ rfl | decide | omega)).trans ((fl_u_ne (by first | exact nc_ rfl | decide | omega)).trans ((fl_u_ne (by first | exact nc_ rfl | decide | omega)).trans (fl_u_ne (by first | exact nc_ rfl | decide | omega)))))))
      have e190_ : F28_ 357 a.toNat = F 357 a.toNat := (s30_ 357 a.toNat (by first | exact fs_c rfl | exact (fs_n (by omega) (fs_n (by omega) rfl)))).trans (e189_)
      have e191_ : F37_ 357 a.toNat = F 357 a.toNat := (s39_ 357 a.toNat (by first | exact fs_c rfl | exact (fs_n (by omega) (fs_n (by omega) (fs_n (by omega) (fs_n (by omega) (fs_n (by omega) (fs_n (by omega) (fs_n (by omega) rfl))))))))).trans (e190_)
      have e192_ : F74_ 357 a.toNat = F 357 a.toNat := by rw [q75_]; exact (fl_u_ne (by first | exact nc_ rfl | decide | omega)).trans ((fl_u_ne (by first | exact nc_ rfl | decide | omega)).trans ((fl_u_ne (by first | exact nc_ rfl | decide | omega)).trans ((fl_u_ne (by first | exact nc_ rfl | decide | omega)).trans ((fl_u_ne (by first | exact nc_ rfl | decide | omega)).trans (e191_)))))
      have e193_ : F1 357 a.toNat = F 357 a.toNat := (hf_F1 357 a.toNat (by first | exact fs_c rfl | exact (fs_n (by omega) (fs_n (by omega) (fs_n (by omega) rfl))))).trans (e192_)
      refine gVi (nY := 6) (F := 3) (L := 75) (As := [.int (Int32.ofInt a)]) (b := 344) (rest := []) hm_64 rfl hm_165 rfl rfl (fl_ob sc_344) rfl rfl rfl rfl rfl (by omega) (by omega) (mc_165 hG F1 X hg_F1 (a) (⟨by omega, by omega⟩) (by have h9_ := hcs (by omega) a.toNat (by omega); omega) (hs1)) (fun _ _ h => False.elim h) ?_
      rintro z194_ A1_ ⟨F197_, hA_, g198_, s199_, c195_, c196_⟩
      subst hA_
      have g200_ : fs [(344, 344, 0, 1), (344, 344, 4, 5), (344, 344, 8, 10), (344, 344, 12, 13), (344, 344, 33, 33), (344, 344, 36, 36), (344, 344, 38, 39), (344, 344, 46, 48), (344, 344, 60, 60), (344, 344, 64, 64), (347, 348, 0, 100000), (358, 358, 0, 100000), (360, 372, 0, 100000), (384, 384, 0, 100000)] F F197_ := fs_tr g84_ s199_ rfl
      have rk201_ : rk K F197_ := rk_fs rk85_ s199_ (fs_rg rfl) rfl
      refine ga_istore_n (lv2 := [(1, .int (Int32.ofInt z194_)), (2, .int (Int32.ofInt a)), (0, .ref 344)]) hm_64 rfl (Nat.le_of_ble_eq_true rfl) rfl ?_
      refine ga_inc (a := a) (c := a + 1) (lv2 := [(2, .int (Int32.ofInt (a + 1))), (1, .int (Int32.ofInt z194_)), (0, .ref 344)]) hm_64 rfl rfl (Nat.le_of_ble_eq_true rfl) rfl rfl ?_
      refine fl_goto hm_64 rfl ?_
      exact ih81_ _ (by omega) (z194_) (a + 1) F197_ rfl g198_ (fs_tr hf_F1 s199_ rfl) (⟨by omega, by omega⟩) (⟨by omega, by omega⟩) (c196_) (fun _ => hf4 (by omega))
    have e202_ : F74_ 344 39 = 0 := by rw [q75_]; exact fl_u_eq
    exact L80_ _ (0) (0) F74_ rfl g76_ fs_refl (⟨by omega, by omega⟩) (⟨by omega, by omega⟩) (sob_0 (e202_)) (by omega)
  refine fl_iconst hm_64 rfl ?_
  refine fl_goto hm_64 rfl ?_
  refine ga_istore_n (lv2 := [(1, .int (Int32.ofInt 1)), (0, .ref 344)]) hm_64 rfl (Nat.le_of_ble_eq_true rfl) rfl ?_
  refine fl_iconst hm_64 rfl ?_
  refine ga_istore_n (lv2 := [(2, .int (Int32.ofInt 0)), (1, .int (Int32.ofInt 1)), (0, .ref 344)]) hm_64 rfl (Nat.le_of_ble_eq_true rfl) rfl ?_
  obtain ⟨F203_, q204_⟩ : ∃ Fq_, Fq_ = (fl_u (fl_u (fl_u (fl_u (fl_u F37_ 344 8 0) 344 1 0) 344 0 0) 344 38 (F37_ 344 64)) 344 39 0) := ⟨_, rfl⟩
  rw [← q204_]
  have g205_ : gi F203_ := by rw [q204_]; exact gi_u (gi_u (gi_u (gi_u (gi_u (g38_) rfl (by omega) (by omega)) rfl (by omega) (by omega)) rfl (by omega) (by omega)) rfl (by omega) (by omega)) rfl (by omega) (by omega)
  have g206_ : fs [(344, 344, 0, 1), (344, 344, 4, 5), (344, 344, 8, 10), (344, 344, 12, 13), (344, 344, 33, 33), (344, 344, 36, 36), (344, 344, 38, 39), (344, 344, 46, 48), (344, 344, 60, 60), (344, 344, 64, 64), (347, 348, 0, 100000), (358, 358, 0, 100000), (360, 372, 0, 100000), (384, 384, 0, 100000)] F F203_ := by rw [q204_]; exact fs_u (fs_u (fs_u (fs_u (fs_u (g40_) rfl) rfl) rfl) rfl) rfl
  have rk207_ : rk K F203_ := by rw [q204_]; exact rk_u (rk_u (rk_u (rk_u (rk_u (rk41_) (by first | decide | exact nc_ rfl | omega) (by first | decide | exact nc_ rfl | omega)) (by first | decide | exact nc_ rfl | omega) (by first | decide | exact nc_ rfl | omega)) (by first | decide | exact nc_ rfl | omega) (by first | decide | exact nc_ rfl | omega)) (by first | decide | exact nc_ rfl | omega) (by first | decide | exact nc_ rfl | omega)) (by first | decide | exact nc_ rfl | omega) (by first | decide | exact nc_ rfl | omega)
  have e211_ : F203_ 344 36 = F37_ 344 36 := by rw [q204_]; exact (fl_u_ne (by first | exact nc_ rfl | decide | omega)).trans ((fl_u_ne (by first | exact nc_ rfl | decide | omega)).trans ((fl_u_ne (by first | exact nc_ rfl | decide | omega)).trans ((fl_u_ne (by first | exact nc_ rfl | decide | omega)).trans (fl_u_ne (by first | exact nc_ rfl | decide | omega)))))
  have L209_ : ∀ (n208_ : Nat) (ft : Int) (a : Int) (F1 : fl_N), (5 - a : Int).toNat = n208_ → (gi F1) → (fs [(344, 344, 39, 39), (367, 372, 0, 100000), (384, 384, 0, 100000)] F203_ F1) → (0 ≤ a ∧ a ≤ 5) → (0 ≤ ft ∧ ft ≤ 1) → (sob F1) → (ft = 1 → F203_ 344 36 ≤ 40) → fl_R xi_ms 64 fr lo 101 [(2, .int (Int32.ofInt a)), (1, .int (Int32.ofInt ft)), (0, .ref 344)] [] (fl_H sh_T G F1 ++ X) (pq_64 G F X K) := by
    intro n208_
    induction n208_ using Nat.strongRecOn with
    | ind n208_ ih210_ =>
    intro ft a F1 hn212_ hg_F1 hf_F1 ha hft hs1 hf4
    have g213_ : fs [(344, 344, 0, 1), (344, 344, 4, 5), (344, 344, 8, 10), (344, 344, 12, 13), (344, 344, 33, 33), (344, 344, 36, 36), (344, 344, 38, 39), (344, 344, 46, 48), (344, 344, 60, 60), (344, 344, 64, 64), (347, 348, 0, 100000), (358, 358, 0, 100000), (360, 372, 0, 100000), (384, 384, 0, 100000)] F F1 := fs_tr g206_ hf_F1 rfl
    have rk214_ : rk K F1 := rk_fs rk207_ hf_F1 (fs_rg rfl) rfl
    refine ga_iload_n (z := a) hm_64 rfl rfl ?_
    refine ga_aload_n (v := .ref 344) hm_64 rfl rfl rfl ?_
    have e215_ : F19_ 344 21 = F 344 21 := by rw [q20_]; exact (fl_u_ne (by first | exact nc_ rfl | decide | omega)).trans ((fl_u_ne (by first | exact nc_ rfl | decide | omega)).trans ((fl_u_ne (by first | exact nc_ rfl | decide | omega)).trans ((fl_u_ne (by first | exact nc_ rfl | decide | omega)).trans ((fl_u_ne (by first | exact nc_ rfl | decide | omega)).trans ((fl_u_ne (by first | exact nc_ rfl | decide | omega)).trans (fl_u_ne (by first | exact nc_ rfl | decide | omega)))))))
    have e216_ : F28_ 344 21 = F 344 21 := (s30_ 344 21 rfl).trans (e215_)
    have e217_ : F37_ 344 21 = F 344 21 := (s39_ 344 21 rfl).trans (e216_)
    have e218_ : F203_ 344 21 = F 344 21 := by rw [q204_]; exact (fl_u_ne (by first | exact nc_ rfl | decide | omega)).trans ((fl_u_ne (by first | exact nc_ rfl | decide | omega)).trans ((fl_u_ne (by first | exact nc_ rfl | decide | omega)).trans ((fl_u_ne (by first | exact nc_ rfl | decide | omega)).trans ((fl_u_ne (by first | exact nc_ rfl | decide | omega)).trans (e217_)))))
    have e219_ : F1 344 21 = F 344 21 := (hf_F1 344 21 rfl).trans (e218_)
    have b220_ : 0 ≤ F 344 21 ∧ F 344 21 ≤ 5 := gi_g hgi rfl
    refine ga_geti (z := F 344 21) hm_64 rfl sc_344 rfl (e219_) ?_
    refine fl_icmp_ge (a := a) (b := F 344 21) hm_64 rfl ⟨by omega, by omega⟩ ⟨by omega, by omega⟩ (fun h221_ => ?_) (fun h222_ => ?_)
    ·
      refine ga_iload_n (z := ft) hm_64 rfl rfl ?_
      refine fx_if_ne (a := ft) hm_64 rfl ⟨by omega, by omega⟩ (fun h223_ => ?_) (fun h224_ => ?_)
      ·
        refine ga_aload_n (v := .ref 344) hm_64 rfl rfl rfl ?_
        refine ga_aload_n (v := .ref 344) hm_64 rfl rfl rfl ?_
        refine fl_iconst hm_64 rfl ?_
        refine fl_bipush hm_64 rfl rfl ?_
        refine ga_aload_n (v := .ref 344) hm_64 rfl rfl rfl ?_
        refine ga_getr (b := 358) hm_64 rfl sc_344 rfl ?_
        refine fl_iconst hm_64 rfl ?_
        have e225_ : F203_ 358 5 = F37_ 358 5 := by rw [q204_]; exact (fl_u_ne (by first | exact nc_ rfl | decide | omega)).trans ((fl_u_ne (by first | exact nc_ rfl | decide | omega)).trans ((fl_u_ne (by first | exact nc_ rfl | decide | omega)).trans ((fl_u_ne (by first | exact nc_ rfl | decide | omega)).trans (fl_u_ne (by first | exact nc_ rfl | decide | omega)))))
        have e226_ : F1 358 5 = F37_ 358 5 := (hf_F1 358 5 rfl).trans (e225_)
        have b227_ : 0 ≤ F37_ 358 5 ∧ F37_ 358 5 ≤ 4 := gi_g g38_ rfl
        refine ga_iald (z := 5) (w := F37_ 358 5) hm_64 rfl sc_358 (by omega) (by omega) (by omega) (e226_) ?_
        refine fl_iconst hm_64 rfl ?_
        refine gVl (nY := 9) (F := 2) (L := 47) (As := [.int (Int32.ofInt 5), .int (Int32.ofInt 40), .int (Int32.ofInt (F37_ 358 5)), .int (Int32.ofInt 0)]) (b := 344) (rest := [.ref 344]) hm_64 rfl hm_156 rfl rfl (fl_ob sc_344) rfl rfl rfl rfl rfl (by omega) (by omega) (mc_156 hG F1 X hg_F1 (5) (40) (F37_ 358 5) (0) (⟨by omega, by omega⟩) (by omega) (⟨by omega, by omega⟩) (⟨by omega, by omega⟩)) (fun _ _ h => False.elim h) ?_
        rintro z228_ A1_ ⟨hA_, c229_⟩
        subst hA_
        refine ga_putl hm_64 rfl sc_344 rfl rfl ?_
        refine ga_aload_n (v := .ref 344) hm_64 rfl rfl rfl ?_
        refine ga_aload_n (v := .ref 344) hm_64 rfl rfl rfl ?_
        refine fl_iconst hm_64 rfl ?_
        refine fl_bipush hm_64 rfl rfl ?_
        refine ga_aload_n (v := .ref 344) hm_64 rfl rfl rfl ?_
        refine ga_getr (b := 358) hm_64 rfl sc_344 rfl ?_
        refine fl_iconst hm_64 rfl ?_
        refine ga_iald (z := 5) (w := F37_ 358 5) hm_64 rfl sc_358 (by omega) (by omega) (by omega) ((fl_u_ne (by first | exact nc_ rfl | decide | omega)).trans (e226_)) ?_
        refine fl_iconst hm_64 rfl ?_
        obtain ⟨F230_, q231_⟩ : ∃ Fq_, Fq_ = (fl_u F1 344 46 z228_) := ⟨_, rfl⟩
        rw [← q231_]
        have g232_ : gi F230_ := by rw [q231_]; exact gi_u (hg_F1) rfl (by omega) (by omega)
        have g233_ : fs [(344, 344, 0, 1), (344, 344, 4, 5), (344, 344, 8, 10), (344, 344, 12, 13), (344, 344, 33, 33), (344, 344, 36, 36), (344, 344, 38, 39), (344, 344, 46, 48), (344, 344, 60, 60), (344, 344, 64, 64), (347, 348, 0, 100000), (358, 358, 0, 100000), (360, 372, 0, 100000), (384, 384, 0, 100000)] F F230_ := by rw [q231_]; exact fs_u (g213_) rfl
        have rk234_ : rk K F230_ := by rw [q231_]; exact rk_u (rk214_) (by first | decide | exact nc_ rfl | omega) (by first | decide | exact nc_ rfl | omega)
        refine gVl (nY := 9) (F := 2) (L := 47) (As := [.int (Int32.ofInt 5), .int (Int32.ofInt 40), .int (Int32.ofInt (F37_ 358 5)), .int (Int32.ofInt 1)]) (b := 344) (rest := [.ref 344]) hm_64 rfl hm_156 rfl rfl (fl_ob sc_344) rfl rfl rfl rfl rfl (by omega) (by omega) (mc_156 hG F230_ X g232_ (5) (40) (F37_ 358 5) (1) (⟨by omega, by omega⟩) (by omega) (⟨by omega, by omega⟩) (⟨by omega, by omega⟩)) (fun _ _ h => False.elim h) ?_
        rintro z235_ A1_ ⟨hA_, c236_⟩
        subst hA_
        refine ga_putl hm_64 rfl sc_344 rfl rfl ?_
        refine ga_aload_n (v := .ref 344) hm_64 rfl rfl rfl ?_
        refine ga_aload_n (v := .ref 344) hm_64 rfl rfl rfl ?_
        refine fl_iconst hm_64 rfl ?_
        refine fl_bipush hm_64 rfl rfl ?_
        obtain ⟨F237_, q238_⟩ : ∃ Fq_, Fq_ = (fl_u F230_ 344 47 z235_) := ⟨_, rfl⟩
        rw [← q238_]
        have g239_ : gi F237_ := by rw [q238_]; exact gi_u (g232_) rfl (by omega) (by omega)
        have g240_ : fs [(344, 344, 0, 1), (344, 344, 4, 5), (344, 344, 8, 10), (344, 344, 12, 13), (344, 344, 33, 33), (344, 344, 36, 36), (344, 344, 38, 39), (344, 344, 46, 48), (344, 344, 60, 60), (344, 344, 64, 64), (347, 348, 0, 100000), (358, 358, 0, 100000), (360, 372, 0, 100000), (384, 384, 0, 100000)] F F237_ := by rw [q238_]; exact fs_u (g233_) rfl
        have rk241_ : rk K F237_ := by rw [q238_]; exact rk_u (rk234_) (by first | decide | exact nc_ rfl | omega) (by first | decide | exact nc_ rfl | omega)
        refine gVi (nY := 6) (F := 1) (L := 23) (As := [.int (Int32.ofInt 5), .int (Int32.ofInt 40)]) (b := 344) (rest := [.ref 344]) hm_64 rfl hm_159 rfl rfl (fl_ob sc_344) rfl rfl rfl rfl rfl (by omega) (by omega) (mc_159 hG F237_ X g239_ (5) (40) (⟨by omega, by omega⟩) (by omega)) (fun _ _ h => False.elim h) ?_
        rintro z242_ A1_ ⟨hA_, c243_⟩
        subst hA_
        refine ga_putz (z := z242_) hm_64 rfl sc_344 rfl rfl (by omega) ?_
        refine ga_aload_n (v := .ref 344) hm_64 rfl rfl rfl ?_
        refine fl_iconst hm_64 rfl ?_
        refine ga_putz (z := 1) hm_64 rfl sc_344 rfl rfl (by omega) ?_
        refine ga_aload_n (v := .ref 344) hm_64 rfl rfl rfl ?_
        have e244_ : F230_ 344 39 = F1 344 39 := by rw [q231_]; exact fl_u_ne (by first | exact nc_ rfl | decide | omega)
        have e245_ : F237_ 344 39 = F1 344 39 := by rw [q238_]; exact (fl_u_ne (by first | exact nc_ rfl | decide | omega)).trans (e244_)
        have b246_ : 0 ≤ F1 344 39 ∧ F1 344 39 ≤ 40 := gi_g hg_F1 rfl
        refine ga_geti (z := F1 344 39) hm_64 rfl sc_344 rfl ((fl_u_ne (by first | exact nc_ rfl | decide | omega)).trans ((fl_u_ne (by first | exact nc_ rfl | decide | omega)).trans (e245_))) ?_
        obtain ⟨F247_, q248_⟩ : ∃ Fq_, Fq_ = (fl_u (fl_u F237_ 344 48 z242_) 344 12 1) := ⟨_, rfl⟩
        rw [← q248_]
        have g249_ : gi F247_ := by rw [q248_]; exact gi_u (gi_u (g239_) rfl (by omega) (by omega)) rfl (by omega) (by omega)
        have g250_ : fs [(344, 344, 0, 1), (344, 344, 4, 5), (344, 344, 8, 10), (344, 344, 12, 13), (344, 344, 33, 33), (344, 344, 36, 36), (344, 344, 38, 39), (344, 344, 46, 48), (344, 344, 60, 60), (344, 344, 64, 64), (347, 348, 0, 100000), (358, 358, 0, 100000), (360, 372, 0, 100000), (384, 384, 0, 100000)] F F247_ := by rw [q248_]; exact fs_u (fs_u (g240_) rfl) rfl
        have rk251_ : rk K F247_ := by rw [q248_]; exact rk_u (rk_u (rk241_) (by first | decide | exact nc_ rfl | omega) (by first | decide | exact nc_ rfl | omega)) (by first | decide | exact nc_ rfl | omega) (by first | decide | exact nc_ rfl | omega)
        refine gr_i (z := F1 344 39) hm_64 rfl rfl rfl ?_
        have e252_ : F203_ 344 1 = 0 := by rw [q204_]; exact (fl_u_ne (by first | exact nc_ rfl | decide | omega)).trans ((fl_u_ne (by first | exact nc_ rfl | decide | omega)).trans ((fl_u_ne (by first | exact nc_ rfl | decide | omega)).trans (fl_u_eq)))
        have e253_ : F1 344 1 = 0 := (hf_F1 344 1 rfl).trans (e252_)
        have e254_ : F230_ 344 1 = 0 := by rw [q231_]; exact (fl_u_ne (by first | exact nc_ rfl | decide | omega)).trans (e253_)
        have e255_ : F237_ 344 1 = 0 := by rw [q238_]; exact (fl_u_ne (by first | exact nc_ rfl | decide | omega)).trans (e254_)
        have e256_ : F247_ 344 1 = 0 := by rw [q248_]; exact (fl_u_ne (by first | exact nc_ rfl | decide | omega)).trans ((fl_u_ne (by first | exact nc_ rfl | decide | omega)).trans (e255_))
        have e257_ : F19_ 344 13 = 0 := by rw [q20_]; exact (fl_u_ne (by first | exact nc_ rfl | decide | omega)).trans ((fl_u_ne (by first | exact nc_ rfl | decide | omega)).trans (fl_u_eq))
        have e258_ : F28_ 344 13 = 0 := (s30_ 344 13 rfl).trans (e257_)
        have e259_ : F37_ 344 13 = 0 := (s39_ 344 13 rfl).trans (e258_)
        have e260_ : F203_ 344 13 = 0 := by rw [q204_]; exact (fl_u_ne (by first | exact nc_ rfl | decide | omega)).trans ((fl_u_ne (by first | exact nc_ rfl | decide | omega)).trans ((fl_u_ne (by first | exact nc_ rfl | decide | omega)).trans ((fl_u_ne (by first | exact nc_ rfl | decide | omega)).trans ((fl_u_ne (by first | exact nc_ rfl | decide | omega)).trans (e259_)))))
        have e261_ : F1 344 13 = 0 := (hf_F1 344 13 rfl).trans (e260_)
        have e262_ : F230_ 344 13 = 0 := by rw [q231_]; exact (fl_u_ne (by first | exact nc_ rfl | decide | omega)).trans (e261_)
        have e263_ : F237_ 344 13 = 0 := by rw [q238_]; exact (fl_u_ne (by first | exact nc_ rfl | decide | omega)).trans (e262_)
        have e264_ : F247_ 344 13 = 0 := by rw [q248_]; exact (fl_u_ne (by first | exact nc_ rfl | decide | omega)).trans ((fl_u_ne (by first | exact nc_ rfl | decide | omega)).trans (e263_))
        have e265_ : F247_ 344 12 = 1 := by rw [q248_]; exact fl_u_eq
        have e266_ : F1 344 36 = F37_ 344 36 := (hf_F1 344 36 rfl).trans (e211_)
        have e267_ : F230_ 344 36 = F37_ 344 36 := by rw [q231_]; exact (fl_u_ne (by first | exact nc_ rfl | decide | omega)).trans (e266_)
        have e268_ : F237_ 344 36 = F37_ 344 36 := by rw [q238_]; exact (fl_u_ne (by first | exact nc_ rfl | decide | omega)).trans (e267_)
        have e269_ : F247_ 344 36 = F37_ 344 36 := by rw [q248_]; exact (fl_u_ne (by first | exact nc_ rfl | decide | omega)).trans ((fl_u_ne (by first | exact nc_ rfl | decide | omega)).trans (e268_))
        exact ⟨F247_, rfl, g249_, g250_, (⟨by omega, by omega⟩), (by omega), (pli_0 (by omega)), (fun _ => ⟨sob_cg hs1 (Eq.trans (a := F247_ 344 39) (b := F237_ 344 39) (by rw [q248_]; exact (fl_u_ne (by first | exact nc_ rfl | decide | omega)).trans ((fl_u_ne (by first | exact nc_ rfl | decide | omega)))) (Eq.trans (a := F237_ 344 39) (b := F230_ 344 39) (by rw [q238_]; exact (fl_u_ne (by first | exact nc_ rfl | decide | omega))) (show F230_ 344 39 = F1 344 39 from (by rw [q231_]; exact (fl_u_ne (by first | exact nc_ rfl | decide | omega)))))) (fun j => (Eq.trans (a := F247_ 357 j) (b := F237_ 357 j) (by rw [q248_]; exact (fl_u_ne (by first | exact nc_ rfl | decide | omega)).trans ((fl_u_ne (by first | exact nc_ rfl | decide | omega)))) (Eq.trans (a := F237_ 357 j) (b := F230_ 357 j) (by rw [q238_]; exact (fl_u_ne (by first | exact nc_ rfl | decide | omega))) (show F230_ 357 j = F1 357 j from (by rw [q231_]; exact (fl_u_ne (by first | exact nc_ rfl | decide | omega))))))) (fun j => (Eq.trans (a := F247_ 367 j) (b := F237_ 367 j) (by rw [q248_]; exact (fl_u_ne (by first | exact nc_ rfl | decide | omega)).trans ((fl_u_ne (by first | exact nc_ rfl | decide | omega)))) (Eq.trans (a := F237_ 367 j) (b := F230_ 367 j) (by rw [q238_]; exact (fl_u_ne (by first | exact nc_ rfl | decide | omega))) (show F230_ 367 j = F1 367 j from (by rw [q231_]; exact (fl_u_ne (by first | exact nc_ rfl | decide | omega))))))) (fun j => (Eq.trans (a := F247_ 354 j) (b := F237_ 354 j) (by rw [q248_]; exact (fl_u_ne (by first | exact nc_ rfl | decide | omega)).trans ((fl_u_ne (by first | exact nc_ rfl | decide | omega)))) (Eq.trans (a := F237_ 354 j) (b := F230_ 354 j) (by rw [q238_]; exact (fl_u_ne (by first | exact nc_ rfl | decide | omega))) (show F230_ 354 j = F1 354 j from (by rw [q231_]; exact (fl_u_ne (by first | exact nc_ rfl | decide | omega))))))) (fun j => (Eq.trans (a := F247_ 368 j) (b := F237_ 368 j) (by rw [q248_]; exact (fl_u_ne (by first | exact nc_ rfl | decide | omega)).trans ((fl_u_ne (by first | exact nc_ rfl | decide | omega)))) (Eq.trans (a := F237_ 368 j) (b := F230_ 368 j) (by rw [q238_]; exact (fl_u_ne (by first | exact nc_ rfl | decide | omega))) (show F230_ 368 j = F1 368 j from (by rw [q231_]; exact (fl_u_ne (by first | exact nc_ rfl | decide | omega))))))), by omega⟩)⟩
      refine ga_aload_n (v := .ref 344) hm_64 rfl rfl rfl ?_
      refine fl_iconst hm_64 rfl ?_
      refine ga_puti (z := 3) hm_64 rfl sc_344 rfl rfl ?_
      refine fl_iconst hm_64 rfl ?_
      obtain ⟨F270_, q271_⟩ : ∃ Fq_, Fq_ = (fl_u F1 344 0 3) := ⟨_, rfl⟩
      rw [← q271_]
      have g272_ : gi F270_ := by rw [q271_]; exact gi_u (hg_F1) rfl (by omega) (by omega)
      have g273_ : fs [(344, 344, 0, 1), (344, 344, 4, 5), (344, 344, 8, 10), (344, 344, 12, 13), (344, 344, 33, 33), (344, 344, 36, 36), (344, 344, 38, 39), (344, 344, 46, 48), (344, 344, 60, 60), (344, 344, 64, 64), (347, 348, 0, 100000), (358, 358, 0, 100000), (360, 372, 0, 100000), (384, 384, 0, 100000)] F F270_ := by rw [q271_]; exact fs_u (g213_) rfl
      have rk274_ : rk K F270_ := by rw [q271_]; exact rk_u (rk214_) (by first | decide | exact nc_ rfl | omega) (by first | decide | exact nc_ rfl | omega)
      refine gr_i (z := 0) hm_64 rfl rfl rfl ?_
      have e275_ : F203_ 344 1 = 0 := by rw [q204_]; exact (fl_u_ne (by first | exact nc_ rfl | decide | omega)).trans ((fl_u_ne (by first | exact nc_ rfl | decide | omega)).trans ((fl_u_ne (by first | exact nc_ rfl | decide | omega)).trans (fl_u_eq)))
      have e276_ : F1 344 1 = 0 := (hf_F1 344 1 rfl).trans (e275_)
      have e277_ : F270_ 344 1 = 0 := by rw [q271_]; exact (fl_u_ne (by first | exact nc_ rfl | decide | omega)).trans (e276_)
      have e278_ : F19_ 344 13 = 0 := by rw [q20_]; exact (fl_u_ne (by first | exact nc_ rfl | decide | omega)).trans ((fl_u_ne (by first | exact nc_ rfl | decide | omega)).trans (fl_u_eq))
      have e279_ : F28_ 344 13 = 0 := (s30_ 344 13 rfl).trans (e278_)
      have e280_ : F37_ 344 13 = 0 := (s39_ 344 13 rfl).trans (e279_)
      have e281_ : F203_ 344 13 = 0 := by rw [q204_]; exact (fl_u_ne (by first | exact nc_ rfl | decide | omega)).trans ((fl_u_ne (by first | exact nc_ rfl | decide | omega)).trans ((fl_u_ne (by first | exact nc_ rfl | decide | omega)).trans ((fl_u_ne (by first | exact nc_ rfl | decide | omega)).trans ((fl_u_ne (by first | exact nc_ rfl | decide | omega)).trans (e280_)))))
      have e282_ : F1 344 13 = 0 := (hf_F1 344 13 rfl).trans (e281_)
      have e283_ : F270_ 344 13 = 0 := by rw [q271_]; exact (fl_u_ne (by first | exact nc_ rfl | decide | omega)).trans (e282_)
      have e284_ : F19_ 344 12 = 0 := by rw [q20_]; exact (fl_u_ne (by first | exact nc_ rfl | decide | omega)).trans ((fl_u_ne (by first | exact nc_ rfl | decide | omega)).trans ((fl_u_ne (by first | exact nc_ rfl | decide | omega)).trans (fl_u_eq)))
      have e285_ : F28_ 344 12 = 0 := (s30_ 344 12 rfl).trans (e284_)
      have e286_ : F37_ 344 12 = 0 := (s39_ 344 12 rfl).trans (e285_)
      have e287_ : F203_ 344 12 = 0 := by rw [q204_]; exact (fl_u_ne (by first | exact nc_ rfl | decide | omega)).trans ((fl_u_ne (by first | exact nc_ rfl | decide | omega)).trans ((fl_u_ne (by first | exact nc_ rfl | decide | omega)).trans ((fl_u_ne (by first | exact nc_ rfl | decide | omega)).trans ((fl_u_ne (by first | exact nc_ rfl | decide | omega)).trans (e286_)))))
      have e288_ : F1 344 12 = 0 := (hf_F1 344 12 rfl).trans (e287_)
      have e289_ : F270_ 344 12 = 0 := by rw [q271_]; exact (fl_u_ne (by first | exact nc_ rfl | decide | omega)).trans (e288_)
      have e290_ : F1 344 36 = F37_ 344 36 := (hf_F1 344 36 rfl).trans (e211_)
      have e291_ : F270_ 344 36 = F37_ 344 36 := by rw [q271_]; exact (fl_u_ne (by first | exact nc_ rfl | decide | omega)).trans (e290_)
      exact ⟨F270_, rfl, g272_, g273_, (⟨by omega, by omega⟩), (by omega), (pli_0 (by omega)), (fun h9_ => absurd h9_ (by omega))⟩
    refine ga_iload_n (z := ft) hm_64 rfl rfl ?_
    refine fl_if_eq (a := ft) hm_64 rfl ⟨by omega, by omega⟩ (fun h292_ => ?_) (fun h293_ => ?_)
    ·
      refine ga_iload_n (z := ft) hm_64 rfl rfl ?_
      refine fx_if_ne (a := ft) hm_64 rfl ⟨by omega, by omega⟩ (fun h294_ => ?_) (fun h295_ => ?_)
      · exfalso; omega
      refine ga_aload_n (v := .ref 344) hm_64 rfl rfl rfl ?_
      refine fl_iconst hm_64 rfl ?_
      refine ga_puti (z := 3) hm_64 rfl sc_344 rfl rfl ?_
      refine fl_iconst hm_64 rfl ?_
      obtain ⟨F296_, q297_⟩ : ∃ Fq_, Fq_ = (fl_u F1 344 0 3) := ⟨_, rfl⟩
      rw [← q297_]
      have g298_ : gi F296_ := by rw [q297_]; exact gi_u (hg_F1) rfl (by omega) (by omega)
      have g299_ : fs [(344, 344, 0, 1), (344, 344, 4, 5), (344, 344, 8, 10), (344, 344, 12, 13), (344, 344, 33, 33), (344, 344, 36, 36), (344, 344, 38, 39), (344, 344, 46, 48), (344, 344, 60, 60), (344, 344, 64, 64), (347, 348, 0, 100000), (358, 358, 0, 100000), (360, 372, 0, 100000), (384, 384, 0, 100000)] F F296_ := by rw [q297_]; exact fs_u (g213_) rfl
      have rk300_ : rk K F296_ := by rw [q297_]; exact rk_u (rk214_) (by first | decide | exact nc_ rfl | omega) (by first | decide | exact nc_ rfl | omega)
      refine gr_i (z := 0) hm_64 rfl rfl rfl ?_
      have e301_ : F203_ 344 1 = 0 := by rw [q204_]; exact (fl_u_ne (by first | exact nc_ rfl | decide | omega)).trans ((fl_u_ne (by first | exact nc_ rfl | decide | omega)).trans ((fl_u_ne (by first | exact nc_ rfl | decide | omega)).trans (fl_u_eq)))
      have e302_ : F1 344 1 = 0 := (hf_F1 344 1 rfl).trans (e301_)
      have e303_ : F296_ 344 1 = 0 := by rw [q297_]; exact (fl_u_ne (by first | exact nc_ rfl | decide | omega)).trans (e302_)
      have e304_ : F19_ 344 13 = 0 := by rw [q20_]; exact (fl_u_ne (by first | exact nc_ rfl | decide | omega)).trans ((fl_u_ne (by first | exact nc_ rfl | decide | omega)).trans (fl_u_eq))
      have e305_ : F28_ 344 13 = 0 := (s30_ 344 13 rfl).trans (e304_)
      have e306_ : F37_ 344 13 = 0 := (s39_ 344 13 rfl).trans (e305_)
      have e307_ : F203_ 344 13 = 0 := by rw [q204_]; exact (fl_u_ne (by first | exact nc_ rfl | decide | omega)).trans ((fl_u_ne (by first | exact nc_ rfl | decide | omega)).trans ((fl_u_ne (by first | exact nc_ rfl | decide | omega)).trans ((fl_u_ne (by first | exact nc_ rfl | decide | omega)).trans ((fl_u_ne (by first | exact nc_ rfl | decide | omega)).trans (e306_)))))
      have e308_ : F1 344 13 = 0 := (hf_F1 344 13 rfl).trans (e307_)
      have e309_ : F296_ 344 13 = 0 := by rw [q297_]; exact (fl_u_ne (by first | exact nc_ rfl | decide | omega)).trans (e308_)
      have e310_ : F19_ 344 12 = 0 := by rw [q20_]; exact (fl_u_ne (by first | exact nc_ rfl | decide | omega)).trans ((fl_u_ne (by first | exact nc_ rfl | decide | omega)).trans ((fl_u_ne (by first | exact nc_ rfl | decide | omega)).trans (fl_u_eq)))
      have e311_ : F28_ 344 12 = 0 := (s30_ 344 12 rfl).trans (e310_)
      have e312_ : F37_ 344 12 = 0 := (s39_ 344 12 rfl).trans (e311_)
      have e313_ : F203_ 344 12 = 0 := by rw [q204_]; exact (fl_u_ne (by first | exact nc_ rfl | decide | omega)).trans ((fl_u_ne (by first | exact nc_ rfl | decide | omega)).trans ((fl_u_ne (by first | exact nc_ rfl | decide | omega)).trans ((fl_u_ne (by first | exact nc_ rfl | decide | omega)).trans ((fl_u_ne (by first | exact nc_ rfl | decide | omega)).trans (e312_)))))
      have e314_ : F1 344 12 = 0 := (hf_F1 344 12 rfl).trans (e313_)
      have e315_ : F296_ 344 12 = 0 := by rw [q297_]; exact (fl_u_ne (by first | exact nc_ rfl | decide | omega)).trans (e314_)
      have e316_ : F1 344 36 = F37_ 344 36 := (hf_F1 344 36 rfl).trans (e211_)
      have e317_ : F296_ 344 36 = F37_ 344 36 := by rw [q297_]; exact (fl_u_ne (by first | exact nc_ rfl | decide | omega)).trans (e316_)
      exact ⟨F296_, rfl, g298_, g299_, (⟨by omega, by omega⟩), (by omega), (pli_0 (by omega)), (fun h9_ => absurd h9_ (by omega))⟩
    refine ga_aload_n (v := .ref 344) hm_64 rfl rfl rfl ?_
    refine ga_iload_n (z := a) hm_64 rfl rfl ?_
    have e318_ : F19_ 357 a.toNat = F 357 a.toNat := by rw [q20_]; exact (fl_u_ne (by first | exact nc_ rfl | decide | omega)).trans ((fl_u_ne (by first | exact nc_ rfl | decide | omega)).trans ((fl_u_ne (by first | exact nc_ rfl | decide | omega)).trans ((fl_u_ne (by first | exact nc_ rfl | decide | omega)).trans ((fl_u_ne (by first | exact nc_ rfl | decide | omega)).trans ((fl_u_ne (by first | exact nc_ rfl | decide | omega)).trans (fl_u_ne (by first | exact nc_ rfl | decide | omega)))))))
    have e319_ : F28_ 357 a.toNat = F 357 a.toNat := (s30_ 357 a.toNat (by first | exact fs_c rfl | exact (fs_n (by omega) (fs_n (by omega) rfl)))).trans (e318_)
    have e320_ : F37_ 357 a.toNat = F 357 a.toNat := (s39_ 357 a.toNat (by first | exact fs_c rfl | exact (fs_n (by omega) (fs_n (by omega) (fs_n (by omega) (fs_n (by omega) (fs_n (by omega) (fs_n (by omega) (fs_n (by omega) rfl))))))))).trans (e319_)
    have e321_ : F203_ 357 a.toNat = F 357 a.toNat := by rw [q204_]; exact (fl_u_ne (by first | exact nc_ rfl | decide | omega)).trans ((fl_u_ne (by first | exact nc_ rfl | decide | omega)).trans ((fl_u_ne (by first | exact nc_ rfl | decide | omega)).trans ((fl_u_ne (by first | exact nc_ rfl | decide | omega)).trans ((fl_u_ne (by first | exact nc_ rfl | decide | omega)).trans (e320_)))))
    have e322_ : F1 357 a.toNat = F 357 a.toNat := (hf_F1 357 a.toNat (by first | exact fs_c rfl | exact (fs_n (by omega) (fs_n (by omega) (fs_n (by omega) rfl))))).trans (e321_)
    refine gVi (nY := 6) (F := 3) (L := 75) (As := [.int (Int32.ofInt a)]) (b := 344) (rest := []) hm_64 rfl hm_165 rfl rfl (fl_ob sc_344) rfl rfl rfl rfl rfl (by omega) (by omega) (mc_165 hG F1 X hg_F1 (a) (⟨by omega, by omega⟩) (by have h9_ := hcs (by omega) a.toNat (by omega); omega) (hs1)) (fun _ _ h => False.elim h) ?_
    rintro z323_ A1_ ⟨F326_, hA_, g327_, s328_, c324_, c325_⟩
    subst hA_
    have g329_ : fs [(344, 344, 0, 1), (344, 344, 4, 5), (344, 344, 8, 10), (344, 344, 12, 13), (344, 344, 33, 33), (344, 344, 36, 36), (344, 344, 38, 39), (344, 344, 46, 48), (344, 344, 60, 60), (344, 344, 64, 64), (347, 348, 0, 100000), (358, 358, 0, 100000), (360, 372, 0, 100000), (384, 384, 0, 100000)] F F326_ := fs_tr g213_ s328_ rfl
    have rk330_ : rk K F326_ := rk_fs rk214_ s328_ (fs_rg rfl) rfl
    refine ga_istore_n (lv2 := [(1, .int (Int32.ofInt z323_)), (2, .int (Int32.ofInt a)), (0, .ref 344)]) hm_64 rfl (Nat.le_of_ble_eq_true rfl) rfl ?_
    refine ga_inc (a := a) (c := a + 1) (lv2 := [(2, .int (Int32.ofInt (a + 1))), (1, .int (Int32.ofInt z323_)), (0, .ref 344)]) hm_64 rfl rfl (Nat.le_of_ble_eq_true rfl) rfl rfl ?_
    refine fl_goto hm_64 rfl ?_
    exact ih210_ _ (by omega) (z323_) (a + 1) F326_ rfl g327_ (fs_tr hf_F1 s328_ rfl) (⟨by omega, by omega⟩) (⟨by omega, by omega⟩) (c325_) (fun _ => hf4 (by omega))
  have e331_ : F203_ 344 39 = 0 := by rw [q204_]; exact fl_u_eq
  exact L209_ _ (1) (0) F203_ rfl g205_ fs_refl (⟨by omega, by omega⟩) (⟨by omega, by omega⟩) (sob_0 (e331_)) (by omega)

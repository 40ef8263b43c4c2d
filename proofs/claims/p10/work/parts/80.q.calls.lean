/- CheapPlanner.forgetProblem -/
abbrev pq_15v (G : Nat → Nat → Option Nat) (F : fl_N) (X : xi_H)  : Outcome → xi_H → Prop := gqv (fun A => ∃ F' : fl_N, fl_H sh_T G F' ++ X = A ∧ gi F' ∧ fs [(0, 0, 8, 8), (0, 0, 10, 10), (0, 0, 12, 12), (331, 331, 8, 8), (331, 331, 10, 11), (335, 335, 0, 100000), (338, 338, 0, 100000)] F F' ∧ (F' 331 11 = 0) ∧ (F' 0 8 = 0 ∧ F' 0 10 = 0 ∧ F' 0 12 = 0)) gqn
theorem mc_15v {G : Nat → Nat → Option Nat} (hG : gg G) (F : fl_N) (X : xi_H) (hgi : gi F)  : fl_M xi_ms 15 2 43 [.ref 0] (fl_H sh_T G F ++ X) (pq_15v G F X) := by
  intro fr lo hfr hlo
  show fl_R xi_ms 15 fr lo 0 [(0, .ref 0)] [] _ _
  refine ga_aload_n (v := .ref 0) hm_15 rfl rfl rfl ?_
  refine fl_iconst hm_15 rfl ?_
  refine ga_putz (z := 0) hm_15 rfl sc_0 rfl rfl (by omega) ?_
  refine ga_aload_n (v := .ref 0) hm_15 rfl rfl rfl ?_
  refine ga_getr (b := 331) hm_15 rfl sc_0 rfl ?_
  obtain ⟨F1_, q2_⟩ : ∃ Fq_, Fq_ = (fl_u F 0 8 0) := ⟨_, rfl⟩
  rw [← q2_]
  have g3_ : gi F1_ := by rw [q2_]; exact gi_u (hgi) rfl (by omega) (by omega)
  have g4_ : fs [(0, 0, 8, 8), (0, 0, 10, 10), (0, 0, 12, 12), (331, 331, 8, 8), (331, 331, 10, 11), (335, 335, 0, 100000), (338, 338, 0, 100000)] F F1_ := by rw [q2_]; exact fs_u (fs_refl) rfl
  refine gVv (nY := 1) (F := 1) (L := 23) (As := []) (b := 331) (rest := []) hm_15 rfl hm_40 rfl rfl (fl_ob sc_331) rfl rfl rfl rfl rfl (by omega) (by omega) (mc_40v hG F1_ X g3_) (fun _ _ h => False.elim h) ?_
  rintro A1_ ⟨F11_, hA_, g12_, s13_, c6_, c7_, c8_, c9_, c10_⟩
  subst hA_
  have g14_ : fs [(0, 0, 8, 8), (0, 0, 10, 10), (0, 0, 12, 12), (331, 331, 8, 8), (331, 331, 10, 11), (335, 335, 0, 100000), (338, 338, 0, 100000)] F F11_ := fs_tr g4_ s13_ rfl
  refine ga_aload_n (v := .ref 0) hm_15 rfl rfl rfl ?_
  refine fl_iconst hm_15 rfl ?_
  refine ga_puti (z := 0) hm_15 rfl sc_0 rfl rfl ?_
  refine ga_aload_n (v := .ref 0) hm_15 rfl rfl rfl ?_
  refine fl_iconst hm_15 rfl ?_
  refine ga_puti (z := 0) hm_15 rfl sc_0 rfl rfl ?_
  obtain ⟨F15_, q16_⟩ : ∃ Fq_, Fq_ = (fl_u (fl_u F11_ 0 12 0) 0 10 0) := ⟨_, rfl⟩
  rw [← q16_]
  have g17_ : gi F15_ := by rw [q16_]; exact gi_u (gi_u (g12_) rfl (by omega) (by omega)) rfl (by omega) (by omega)
  have g18_ : fs [(0, 0, 8, 8), (0, 0, 10, 10), (0, 0, 12, 12), (331, 331, 8, 8), (331, 331, 10, 11), (335, 335, 0, 100000), (338, 338, 0, 100000)] F F15_ := by rw [q16_]; exact fs_u (fs_u (g14_) rfl) rfl
  refine gr_v hm_15 rfl rfl ?_
  have e19_ : F15_ 331 11 = F11_ 331 11 := by rw [q16_]; exact (fl_u_ne (by first | exact nc_ rfl | decide | omega)).trans (fl_u_ne (by first | exact nc_ rfl | decide | omega))
  have b20_ : 0 ≤ F11_ 331 11 ∧ F11_ 331 11 ≤ 1 := gi_g g12_ rfl
  have e21_ : F15_ 0 10 = 0 := by rw [q16_]; exact fl_u_eq
  have e22_ : F15_ 0 12 = 0 := by rw [q16_]; exact (fl_u_ne (by first | exact nc_ rfl | decide | omega)).trans (fl_u_eq)
  have e23_ : F1_ 0 8 = 0 := by rw [q2_]; exact fl_u_eq
  have e24_ : F11_ 0 8 = 0 := (s13_ 0 8 rfl).trans (e23_)
  have e25_ : F15_ 0 8 = 0 := by rw [q16_]; exact (fl_u_ne (by first | exact nc_ rfl | decide | omega)).trans ((fl_u_ne (by first | exact nc_ rfl | decide | omega)).trans (e24_))
  exact ⟨F15_, rfl, g17_, g18_, (by omega), (⟨by omega, by omega, by omega⟩)⟩
/- CheapPlanner.domain -/
abbrev pq_2v (G : Nat → Nat → Option Nat) (F : fl_N) (X : xi_H)  : Outcome → xi_H → Prop := gqi (fun z A => ∃ F' : fl_N, fl_H sh_T G F' ++ X = A ∧ gi F' ∧ fs [(0, 0, 7, 7), (0, 0, 8, 8), (0, 0, 10, 10), (0, 0, 12, 12), (331, 331, 8, 8), (331, 331, 10, 11), (335, 335, 0, 100000), (338, 338, 0, 100000), (1, 1, 1, 1), (1, 1, 6, 8), (3, 6, 0, 100000), (7, 13, 0, 100000), (15, 17, 0, 100000), (21, 103, 0, 100000), (119, 119, 2, 3)] F F' ∧ (∃ K ts pl ps al, dmk K F ∧ sp_dom K = .inr (ts, pl, ps, al) ∧ z = (al.length : Int) ∧ F' 7 0 = sp_dnm K ∧ rep (F' 9) (F' 8 2) ts ∧ rep (F' 12) (F' 11 2) pl ∧ prd F' ps ∧ pl.length = ps.length ∧ dar F' (dom_d K) ∧ ((dom_d K).length : Int) = F' 15 2 ∧ rep (F' 16) (F' 15 2) al) ∧ (F' 1 1 = 0) ∧ (F' 0 7 = 1) ∧ (dmi F') ∧ (F' 331 11 = 0) ∧ (F' 1 8 = 0) ∧ (F' 0 8 = 0) ∧ (F' 0 12 = 0)) (fun j A => ∃ F' : fl_N, (387 + X.length = j ∧ fl_H sh_T G F' ++ (X ++ [gx 14]) = A) ∧ gi F' ∧ fs [(0, 0, 7, 7), (0, 0, 8, 8), (0, 0, 10, 10), (0, 0, 12, 12), (331, 331, 8, 8), (331, 331, 10, 11), (335, 335, 0, 100000), (338, 338, 0, 100000), (1, 1, 1, 1), (1, 1, 6, 8), (3, 6, 0, 100000), (7, 13, 0, 100000), (15, 17, 0, 100000), (21, 103, 0, 100000), (119, 119, 2, 3)] F F' ∧ (∃ K e, dmk K F ∧ sp_dom K = .inl e ∧ F' 1 8 = e.1 + 10 * e.2) ∧ (F' 1 1 = 0) ∧ (F' 0 7 = 0) ∧ (F' 331 11 = 0) ∧ (F' 0 8 = 0) ∧ (F' 0 12 = 0))
theorem mc_2v {G : Nat → Nat → Option Nat} (hG : gg G) (F : fl_N) (X : xi_H) (hgi : gi F)  : fl_M xi_ms 2 13 257 [.ref 0] (fl_H sh_T G F ++ X) (pq_2v G F X) := by
  intro fr lo hfr hlo
  show fl_R xi_ms 2 fr lo 0 [(0, .ref 0)] [] _ _
  have hb15 : 0 ≤ F 15 2 ∧ F 15 2 ≤ 5 := gi_g hgi rfl
  refine ga_aload_n (v := .ref 0) hm_2 rfl rfl rfl ?_
  refine fl_iconst hm_2 rfl ?_
  refine ga_putz (z := 0) hm_2 rfl sc_0 rfl rfl (by omega) ?_
  refine ga_aload_n (v := .ref 0) hm_2 rfl rfl rfl ?_
  obtain ⟨F1_, q2_⟩ : ∃ Fq_, Fq_ = (fl_u F 0 7 0) := ⟨_, rfl⟩
  rw [← q2_]
  have g3_ : gi F1_ := by rw [q2_]; exact gi_u (hgi) rfl (by omega) (by omega)
  have g4_ : fs [(0, 0, 7, 7), (0, 0, 8, 8), (0, 0, 10, 10), (0, 0, 12, 12), (331, 331, 8, 8), (331, 331, 10, 11), (335, 335, 0, 100000), (338, 338, 0, 100000), (1, 1, 1, 1), (1, 1, 6, 8), (3, 6, 0, 100000), (7, 13, 0, 100000), (15, 17, 0, 100000), (21, 103, 0, 100000), (119, 119, 2, 3)] F F1_ := by rw [q2_]; exact fs_u (fs_refl) rfl
  refine gVv (nY := 1) (F := 2) (L := 43) (As := []) (b := 0) (rest := []) hm_2 rfl hm_15 rfl rfl (fl_ob sc_0) rfl rfl rfl rfl rfl (by omega) (by omega) (mc_15v hG F1_ X g3_) (fun _ _ h => False.elim h) ?_
  rintro A1_ ⟨F8_, hA_, g9_, s10_, c6_, c7_⟩
  subst hA_
  have g11_ : fs [(0, 0, 7, 7), (0, 0, 8, 8), (0, 0, 10, 10), (0, 0, 12, 12), (331, 331, 8, 8), (331, 331, 10, 11), (335, 335, 0, 100000), (338, 338, 0, 100000), (1, 1, 1, 1), (1, 1, 6, 8), (3, 6, 0, 100000), (7, 13, 0, 100000), (15, 17, 0, 100000), (21, 103, 0, 100000), (119, 119, 2, 3)] F F8_ := fs_tr g4_ s10_ rfl
  refine ga_aload_n (v := .ref 0) hm_2 rfl rfl rfl ?_
  refine ga_getr (b := 118) hm_2 rfl sc_0 rfl ?_
  refine gVv (nY := 2) (F := 12) (L := 236) (As := []) (b := 118) (rest := []) hm_2 rfl hm_33 rfl rfl (fl_ob sc_118) rfl rfl rfl rfl rfl (by omega) (by omega) (mc_33 hG F8_ X g9_) ?_ ?_
  ·
    have e17_ : F1_ 1 1 = F 1 1 := by rw [q2_]; exact fl_u_ne (by first | exact nc_ rfl | decide | omega)
    have e18_ : F8_ 1 1 = F 1 1 := (s10_ 1 1 rfl).trans (e17_)
    have b19_ : 0 ≤ F 1 1 ∧ F 1 1 ≤ 600 := gi_g hgi rfl
    rintro j_ A1_ ⟨F14_, ⟨hJ_, hA_⟩, g15_, s16_, c12_, c13_⟩
    subst hA_
    subst hJ_
    try simp only [e18_] at c12_
    refine ⟨rfl, ?_⟩
    refine gw_i ?_
    have g20_ : fs [(0, 0, 7, 7), (0, 0, 8, 8), (0, 0, 10, 10), (0, 0, 12, 12), (331, 331, 8, 8), (331, 331, 10, 11), (335, 335, 0, 100000), (338, 338, 0, 100000), (1, 1, 1, 1), (1, 1, 6, 8), (3, 6, 0, 100000), (7, 13, 0, 100000), (15, 17, 0, 100000), (21, 103, 0, 100000), (119, 119, 2, 3)] F F14_ := fs_tr g11_ s16_ rfl
    have b21_ : 0 ≤ F14_ 1 8 ∧ F14_ 1 8 ≤ 100000 := gi_g g15_ rfl
    have b22_ : 0 ≤ F14_ 1 1 ∧ F14_ 1 1 ≤ 600 := gi_g g15_ rfl
    have e23_ : F1_ 0 7 = 0 := by rw [q2_]; exact fl_u_eq
    have e24_ : F8_ 0 7 = 0 := (s10_ 0 7 rfl).trans (e23_)
    have e25_ : F14_ 0 7 = 0 := (s16_ 0 7 rfl).trans (e24_)
    have e26_ : F14_ 331 11 = F8_ 331 11 := (s16_ 331 11 rfl).trans (rfl)
    have b27_ : 0 ≤ F8_ 331 11 ∧ F8_ 331 11 ≤ 1 := gi_g g9_ rfl
    have e28_ : F14_ 0 8 = F8_ 0 8 := (s16_ 0 8 rfl).trans (rfl)
    have b29_ : 0 ≤ F8_ 0 8 ∧ F8_ 0 8 ≤ 1 := gi_g g9_ rfl
    have e30_ : F14_ 0 12 = F8_ 0 12 := (s16_ 0 12 rfl).trans (rfl)
    have b31_ : 0 ≤ F8_ 0 12 ∧ F8_ 0 12 ≤ 6000 := gi_g g9_ rfl
    exact ⟨F14_, ⟨rfl, rfl⟩, g15_, g20_, (by obtain ⟨K, e, c1, c2, c3⟩ := c12_; have e2_ : F8_ 2 = F 2 := funext (fun j => (Eq.trans (a := F8_ 2 j) (b := F1_ 2 j) (s10_ 2 j (by first | exact fs_c rfl | exact (fs_n (by omega) (fs_n (by omega) (fs_n (by omega) (fs_n (by omega) (fs_n (by omega) (fs_n (by omega) (fs_n (by omega) rfl))))))))) (show F1_ 2 j = F 2 j from (by rw [q2_]; exact (fl_u_ne (by first | exact nc_ rfl | decide | omega)))))); have e1_ : F8_ 1 1 = F 1 1 := (Eq.trans (a := F8_ 1 1) (b := F1_ 1 1) (s10_ 1 1 (by first | exact fs_c rfl | exact (fs_n (by omega) (fs_n (by omega) (fs_n (by omega) (fs_n (by omega) (fs_n (by omega) (fs_n (by omega) (fs_n (by omega) rfl))))))))) (show F1_ 1 1 = F 1 1 from (by rw [q2_]; exact (fl_u_ne (by first | exact nc_ rfl | decide | omega))))); (try rw [e2_] at c1); (try rw [e2_] at c2); (try rw [e1_] at c1); (try rw [e1_] at c2); exact ⟨K, e, ⟨c1, c2.2⟩, c2.1, c3⟩), (by omega), (by omega), (by omega), (by omega), (by omega)⟩
  have e33_ : F1_ 1 1 = F 1 1 := by rw [q2_]; exact fl_u_ne (by first | exact nc_ rfl | decide | omega)
  have e34_ : F8_ 1 1 = F 1 1 := (s10_ 1 1 rfl).trans (e33_)
  have b35_ : 0 ≤ F 1 1 ∧ F 1 1 ≤ 600 := gi_g hgi rfl
  rintro A1_ ⟨F39_, hA_, g40_, s41_, c36_, c37_, c38_⟩
  subst hA_
  have g42_ : fs [(0, 0, 7, 7), (0, 0, 8, 8), (0, 0, 10, 10), (0, 0, 12, 12), (331, 331, 8, 8), (331, 331, 10, 11), (335, 335, 0, 100000), (338, 338, 0, 100000), (1, 1, 1, 1), (1, 1, 6, 8), (3, 6, 0, 100000), (7, 13, 0, 100000), (15, 17, 0, 100000), (21, 103, 0, 100000), (119, 119, 2, 3)] F F39_ := fs_tr g11_ s41_ rfl
  try simp only [e34_] at c36_
  refine ga_aload_n (v := .ref 0) hm_2 rfl rfl rfl ?_
  refine fl_iconst hm_2 rfl ?_
  refine ga_putz (z := 1) hm_2 rfl sc_0 rfl rfl (by omega) ?_
  refine ga_aload_n (v := .ref 0) hm_2 rfl rfl rfl ?_
  refine ga_getr (b := 7) hm_2 rfl sc_0 rfl ?_
  refine ga_getr (b := 15) hm_2 rfl sc_7 rfl ?_
  have b43_ : 0 ≤ F39_ 15 2 ∧ F39_ 15 2 ≤ 5 := gi_g g40_ rfl
  refine ga_geti (z := F39_ 15 2) hm_2 rfl sc_15 rfl (fl_u_ne (by first | exact nc_ rfl | decide | omega)) ?_
  obtain ⟨F44_, q45_⟩ : ∃ Fq_, Fq_ = (fl_u F39_ 0 7 1) := ⟨_, rfl⟩
  rw [← q45_]
  have g46_ : gi F44_ := by rw [q45_]; exact gi_u (g40_) rfl (by omega) (by omega)
  have g47_ : fs [(0, 0, 7, 7), (0, 0, 8, 8), (0, 0, 10, 10), (0, 0, 12, 12), (331, 331, 8, 8), (331, 331, 10, 11), (335, 335, 0, 100000), (338, 338, 0, 100000), (1, 1, 1, 1), (1, 1, 6, 8), (3, 6, 0, 100000), (7, 13, 0, 100000), (15, 17, 0, 100000), (21, 103, 0, 100000), (119, 119, 2, 3)] F F44_ := by rw [q45_]; exact fs_u (g42_) rfl
  refine gr_i (z := F39_ 15 2) hm_2 rfl rfl rfl ?_
  have e48_ : F44_ 11 2 = F39_ 11 2 := by rw [q45_]; exact fl_u_ne (by first | exact nc_ rfl | decide | omega)
  have b49_ : 0 ≤ F39_ 11 2 ∧ F39_ 11 2 ≤ 6 := gi_g g40_ rfl
  have e50_ : F44_ 15 2 = F39_ 15 2 := by rw [q45_]; exact fl_u_ne (by first | exact nc_ rfl | decide | omega)
  have e51_ : F44_ 7 0 = F39_ 7 0 := by rw [q45_]; exact fl_u_ne (by first | exact nc_ rfl | decide | omega)
  have b52_ : -9223372036854775808 ≤ F39_ 7 0 ∧ F39_ 7 0 ≤ 9223372036854775807 := gi_g g40_ rfl
  have e53_ : F44_ 8 2 = F39_ 8 2 := by rw [q45_]; exact fl_u_ne (by first | exact nc_ rfl | decide | omega)
  have b54_ : 0 ≤ F39_ 8 2 ∧ F39_ 8 2 ≤ 4 := gi_g g40_ rfl
  have e55_ : F44_ 1 1 = F39_ 1 1 := by rw [q45_]; exact fl_u_ne (by first | exact nc_ rfl | decide | omega)
  have b56_ : 0 ≤ F39_ 1 1 ∧ F39_ 1 1 ≤ 600 := gi_g g40_ rfl
  have e57_ : F44_ 0 7 = 1 := by rw [q45_]; exact fl_u_eq
  have e58_ : F39_ 331 11 = F8_ 331 11 := (s41_ 331 11 rfl).trans (rfl)
  have e59_ : F44_ 331 11 = F8_ 331 11 := by rw [q45_]; exact (fl_u_ne (by first | exact nc_ rfl | decide | omega)).trans (e58_)
  have b60_ : 0 ≤ F8_ 331 11 ∧ F8_ 331 11 ≤ 1 := gi_g g9_ rfl
  have e61_ : F44_ 1 8 = F39_ 1 8 := by rw [q45_]; exact fl_u_ne (by first | exact nc_ rfl | decide | omega)
  have b62_ : 0 ≤ F39_ 1 8 ∧ F39_ 1 8 ≤ 100000 := gi_g g40_ rfl
  have e63_ : F39_ 0 8 = F8_ 0 8 := (s41_ 0 8 rfl).trans (rfl)
  have e64_ : F44_ 0 8 = F8_ 0 8 := by rw [q45_]; exact (fl_u_ne (by first | exact nc_ rfl | decide | omega)).trans (e63_)
  have b65_ : 0 ≤ F8_ 0 8 ∧ F8_ 0 8 ≤ 1 := gi_g g9_ rfl
  have e66_ : F39_ 0 12 = F8_ 0 12 := (s41_ 0 12 rfl).trans (rfl)
  have e67_ : F44_ 0 12 = F8_ 0 12 := by rw [q45_]; exact (fl_u_ne (by first | exact nc_ rfl | decide | omega)).trans (e66_)
  have b68_ : 0 ≤ F8_ 0 12 ∧ F8_ 0 12 ≤ 6000 := gi_g g9_ rfl
  exact ⟨F44_, rfl, g46_, g47_, (by obtain ⟨K, ts, pl, ps, al, c1, c2, c3, c4, c5, c6, c7, c8⟩ := c36_; have e2_ : F8_ 2 = F 2 := funext (fun j => (Eq.trans (a := F8_ 2 j) (b := F1_ 2 j) (s10_ 2 j (by first | exact fs_c rfl | exact (fs_n (by omega) (fs_n (by omega) (fs_n (by omega) (fs_n (by omega) (fs_n (by omega) (fs_n (by omega) (fs_n (by omega) rfl))))))))) (show F1_ 2 j = F 2 j from (by rw [q2_]; exact (fl_u_ne (by first | exact nc_ rfl | decide | omega)))))); have e1_ : F8_ 1 1 = F 1 1 := (Eq.trans (a := F8_ 1 1) (b := F1_ 1 1) (s10_ 1 1 (by first | exact fs_c rfl | exact (fs_n (by omega) (fs_n (by omega) (fs_n (by omega) (fs_n (by omega) (fs_n (by omega) (fs_n (by omega) (fs_n (by omega) rfl))))))))) (show F1_ 1 1 = F 1 1 from (by rw [q2_]; exact (fl_u_ne (by first | exact nc_ rfl | decide | omega))))); (try rw [e2_] at c1); (try rw [e2_] at c2); (try rw [e1_] at c1); (try rw [e1_] at c2); have hb15_ : 0 ≤ F39_ 15 2 ∧ F39_ 15 2 ≤ 5 := gi_g g40_ rfl; have hb16_ := c4.1; exact ⟨K, ts, pl, ps, al, ⟨c1, c2.2⟩, c2.1, (by have h9_ := c4.1; omega), Eq.trans ((show F44_ 7 0 = F39_ 7 0 from (by rw [q45_]; exact (fl_u_ne (by first | exact nc_ rfl | decide | omega))))) c6, (by rw [q45_]; exact (rep_u c3.1 (by omega) (by omega))), (by rw [q45_]; exact (rep_u c3.2.1 (by omega) (by omega))), (by rw [q45_]; exact (prd_u c3.2.2.1 (by omega))), c3.2.2.2, (by rw [q45_]; exact (dar_u c7 (by omega))), by omega, (by rw [q45_]; exact (rep_u c4 (by omega) (by omega)))⟩), (by omega), (by omega), (by obtain ⟨K, ts, pl, ps, al, c1, c2, c3, c4, c5, -⟩ := c36_; have h8_ := c4.1; have h7_ : F44_ 15 2 = F39_ 15 2 := (show F44_ 15 2 = F39_ 15 2 from (by rw [q45_]; exact (fl_u_ne (by first | exact nc_ rfl | decide | omega)))); exact fun _ => by rw [show (F44_ 15 2).toNat = al.length by omega]; exact (by rw [q45_]; exact (di_u c5 (by omega)))), (by omega), (Eq.trans ((show F44_ 1 8 = F39_ 1 8 from (by rw [q45_]; exact (fl_u_ne (by first | exact nc_ rfl | decide | omega))))) c38_), (by omega), (by omega)⟩
/- CheapPlanner.problem -/
abbrev pq_3v (G : Nat → Nat → Option Nat) (F : fl_N) (X : xi_H) (nm : Int) (ts pl : List Int) (ps : List (List Int)) (D : List ad_T) : Outcome → xi_H → Prop := gqi (fun z A => ∃ F' : fl_N, fl_H sh_T G F' ++ X = A ∧ gi F' ∧ fs [(0, 0, 8, 8), (0, 0, 10, 10), (0, 0, 12, 12), (331, 331, 8, 8), (331, 331, 10, 11), (335, 335, 0, 100000), (338, 338, 0, 100000), (1, 1, 1, 1), (1, 1, 6, 8), (3, 6, 0, 100000), (105, 117, 0, 100000), (119, 119, 2, 3), (120, 120, 1, 1), (120, 120, 3, 4), (121, 121, 0, 100000), (123, 123, 0, 4), (124, 124, 0, 100000), (126, 330, 0, 100000)] F F' ∧ (-2147483648 ≤ z ∧ z ≤ 2147483647) ∧ (F 0 7 = 1 ∧ F' 1 1 = 0) ∧ (fnd F') ∧ (∃ K l tl, dmk K F ∧ sp_prb K nm ts pl ps = .inr (l, tl) ∧ z = ((stP tl D D.length).length : Int) ∧ pbC F' ps tl D (prb_i K nm ts pl ps) (prb_g K nm ts pl ps) ∧ tl.length ≤ 6 ∧ rep (F' 106) (F' 105 2) l) ∧ (F' 1 8 = 0) ∧ (F' 0 8 = 1 ∧ F' 0 10 = 0) ∧ (F' 331 11 = 0 ∧ F' 0 12 = 0)) (fun j A => ∃ (F' : fl_N) (ci : Nat), (ci = 15 ∨ ci = 14 ∨ ci = 16) ∧ (387 + X.length = j ∧ fl_H sh_T G F' ++ (X ++ [gx ci]) = A) ∧ gi F' ∧ fs [(0, 0, 8, 8), (0, 0, 10, 10), (0, 0, 12, 12), (331, 331, 8, 8), (331, 331, 10, 11), (335, 335, 0, 100000), (338, 338, 0, 100000), (1, 1, 1, 1), (1, 1, 6, 8), (3, 6, 0, 100000), (105, 117, 0, 100000), (119, 119, 2, 3), (120, 120, 1, 1), (120, 120, 3, 4), (121, 121, 0, 100000), (123, 123, 0, 4), (124, 124, 0, 100000), (126, 330, 0, 100000)] F F' ∧ ((F 0 7 = 0 ∧ F' 1 1 = F 1 1) ∨ (F 0 7 = 1 ∧ F' 1 1 = 0)) ∧ (fnd F') ∧ ((F 0 7 = 0 ∧ ci = 15 ∧ F' 1 8 = F 1 8) ∨ (F 0 7 = 1 ∧ ci = 14 ∧ ∃ K e, dmk K F ∧ sp_prb K nm ts pl ps = .inl e ∧ F' 1 8 = e.1 + 10 * e.2) ∨ (F 0 7 = 1 ∧ ci = 16 ∧ F' 1 8 = 0 ∧ ∃ K l tl, dmk K F ∧ sp_prb K nm ts pl ps = .inr (l, tl) ∧ (40 < nfc ps tl 216 ∨ 40 < (stP tl D D.length).length))) ∧ (F' 0 8 = (if F 0 7 = 0 then F 0 8 else 0)) ∧ ((F 0 7 = 0 → F' = F) ∧ (¬ F 0 7 = 0 → F' 331 11 = 0 ∧ F' 0 12 = 0)))
theorem mc_3v {G : Nat → Nat → Option Nat} (hG : gg G) (F : fl_N) (X : xi_H) (hgi : gi F) (nm : Int) (ts pl : List Int) (ps : List (List Int)) (D : List ad_T) (hfd : fnd F) (hdm : dmi F) (hnm : F 7 0 = nm) (hts : rep (F 9) (F 8 2) ts) (hpl : rep (F 12) (F 11 2) pl) (hps : prd F ps) (hpn : pl.length = ps.length) (hDD : F 0 7 = 1 → dar F D ∧ (D.length : Int) = F 15 2) : fl_M xi_ms 3 12 235 [.ref 0] (fl_H sh_T G F ++ X) (pq_3v G F X nm ts pl ps D) := by
  intro fr lo hfr hlo
  show fl_R xi_ms 3 fr lo 0 [(0, .ref 0)] [] _ _
  have hb7 : 0 ≤ F 0 7 ∧ F 0 7 ≤ 1 := gi_g hgi rfl
  have hb15 : 0 ≤ F 15 2 ∧ F 15 2 ≤ 5 := gi_g hgi rfl
  have hpl1 := hpl.1
  have hb11 : 0 ≤ F 11 2 ∧ F 11 2 ≤ 6 := gi_g hgi rfl
  refine ga_aload_n (v := .ref 0) hm_3 rfl rfl rfl ?_
  have b1_ : 0 ≤ F 0 7 ∧ F 0 7 ≤ 1 := gi_g hgi rfl
  refine ga_geti (z := F 0 7) hm_3 rfl sc_0 rfl (rfl) ?_
  refine fx_if_ne (a := F 0 7) hm_3 rfl ⟨by omega, by omega⟩ (fun h2_ => ?_) (fun h3_ => ?_)
  ·
    refine ga_aload_n (v := .ref 0) hm_3 rfl rfl rfl ?_
    refine gVv (nY := 1) (F := 2) (L := 43) (As := []) (b := 0) (rest := []) hm_3 rfl hm_15 rfl rfl (fl_ob sc_0) rfl rfl rfl rfl rfl (by omega) (by omega) (mc_15v hG F X hgi) (fun _ _ h => False.elim h) ?_
    rintro A1_ ⟨F7_, hA_, g8_, s9_, c5_, c6_⟩
    subst hA_
    have g10_ : fs [(0, 0, 8, 8), (0, 0, 10, 10), (0, 0, 12, 12), (331, 331, 8, 8), (331, 331, 10, 11), (335, 335, 0, 100000), (338, 338, 0, 100000), (1, 1, 1, 1), (1, 1, 6, 8), (3, 6, 0, 100000), (105, 117, 0, 100000), (119, 119, 2, 3), (120, 120, 1, 1), (120, 120, 3, 4), (121, 121, 0, 100000), (123, 123, 0, 4), (124, 124, 0, 100000), (126, 330, 0, 100000)] F F7_ := fs_tr fs_refl s9_ rfl
    refine ga_aload_n (v := .ref 0) hm_3 rfl rfl rfl ?_
    refine ga_getr (b := 118) hm_3 rfl sc_0 rfl ?_
    refine gVv (nY := 1) (F := 11) (L := 215) (As := []) (b := 118) (rest := []) hm_3 rfl hm_125 rfl rfl (fl_ob sc_118) rfl rfl rfl rfl rfl (by omega) (by omega) (mc_125 hG F7_ X g8_ (nm) (ts) (pl) (ps) (Eq.trans ((show F7_ 7 0 = F 7 0 from (s9_ 7 0 (by first | exact fs_c rfl | exact (fs_n (by omega) (fs_n (by omega) (fs_n (by omega) (fs_n (by omega) (fs_n (by omega) (fs_n (by omega) (fs_n (by omega) rfl))))))))))) hnm) ((rep_fs hts s9_ (fun _ => (by first | exact fs_c rfl | exact (fs_n (by omega) (fs_n (by omega) (fs_n (by omega) (fs_n (by omega) (fs_n (by omega) (fs_n (by omega) (fs_n (by omega) rfl))))))))) (by first | exact fs_c rfl | exact (fs_n (by omega) (fs_n (by omega) (fs_n (by omega) (fs_n (by omega) (fs_n (by omega) (fs_n (by omega) (fs_n (by omega) rfl)))))))))) ((rep_fs hpl s9_ (fun _ => (by first | exact fs_c rfl | exact (fs_n (by omega) (fs_n (by omega) (fs_n (by omega) (fs_n (by omega) (fs_n (by omega) (fs_n (by omega) (fs_n (by omega) rfl))))))))) (by first | exact fs_c rfl | exact (fs_n (by omega) (fs_n (by omega) (fs_n (by omega) (fs_n (by omega) (fs_n (by omega) (fs_n (by omega) (fs_n (by omega) rfl)))))))))) ((prd_fs hps s9_ (fun _ _ _ => (by first | exact fs_c rfl | exact (fs_n (by omega) (fs_n (by omega) (fs_n (by omega) (fs_n (by omega) (fs_n (by omega) (fs_n (by omega) (fs_n (by omega) rfl))))))))))) (hpn)) ?_ ?_
    ·
      rintro j_ A1_ ⟨F13_, ⟨hJ_, hA_⟩, g14_, s15_, c11_, c12_⟩
      subst hA_
      subst hJ_
      refine ⟨rfl, ?_⟩
      refine gw_i ?_
      have g16_ : fs [(0, 0, 8, 8), (0, 0, 10, 10), (0, 0, 12, 12), (331, 331, 8, 8), (331, 331, 10, 11), (335, 335, 0, 100000), (338, 338, 0, 100000), (1, 1, 1, 1), (1, 1, 6, 8), (3, 6, 0, 100000), (105, 117, 0, 100000), (119, 119, 2, 3), (120, 120, 1, 1), (120, 120, 3, 4), (121, 121, 0, 100000), (123, 123, 0, 4), (124, 124, 0, 100000), (126, 330, 0, 100000)] F F13_ := fs_tr g10_ s15_ rfl
      have b17_ : 0 ≤ F13_ 1 1 ∧ F13_ 1 1 ≤ 600 := gi_g g14_ rfl
      have b18_ : 0 ≤ F 1 1 ∧ F 1 1 ≤ 600 := gi_g hgi rfl
      have e19_ : F13_ 331 11 = F7_ 331 11 := (s15_ 331 11 rfl).trans (rfl)
      have b20_ : 0 ≤ F13_ 1 8 ∧ F13_ 1 8 ≤ 100000 := gi_g g14_ rfl
      have b21_ : 0 ≤ F 1 8 ∧ F 1 8 ≤ 100000 := gi_g hgi rfl
      have e22_ : F13_ 0 8 = F7_ 0 8 := (s15_ 0 8 rfl).trans (rfl)
      have b23_ : 0 ≤ F7_ 0 8 ∧ F7_ 0 8 ≤ 1 := gi_g g8_ rfl
      have b24_ : 0 ≤ F 0 8 ∧ F 0 8 ≤ 1 := gi_g hgi rfl
      have e25_ : F13_ 0 12 = F7_ 0 12 := (s15_ 0 12 rfl).trans (rfl)
      have b26_ : 0 ≤ F7_ 0 12 ∧ F7_ 0 12 ≤ 6000 := gi_g g8_ rfl
      have b27_ : 0 ≤ F7_ 331 11 ∧ F7_ 331 11 ≤ 1 := gi_g g8_ rfl
      exact ⟨F13_, 14, (Or.inr (Or.inl rfl)), ⟨rfl, rfl⟩, g14_, g16_, (Or.inr ⟨by omega, by omega⟩), (fun h9_ => absurd h9_ (by omega)), (Or.inr (Or.inl ⟨by omega, rfl, by obtain ⟨K, e, c1, c2, c3⟩ := c11_; exact ⟨K, e, (by have e2_ : F7_ 2 = F 2 := funext (fun j => (show F7_ 2 j = F 2 j from (s9_ 2 j (by first | exact fs_c rfl | exact (fs_n (by omega) (fs_n (by omega) (fs_n (by omega) (fs_n (by omega) (fs_n (by omega) (fs_n (by omega) (fs_n (by omega) rfl))))))))))); have e1_ : F7_ 1 1 = F 1 1 := (show F7_ 1 1 = F 1 1 from (s9_ 1 1 (by first | exact fs_c rfl | exact (fs_n (by omega) (fs_n (by omega) (fs_n (by omega) (fs_n (by omega) (fs_n (by omega) (fs_n (by omega) (fs_n (by omega) rfl)))))))))); unfold dmk at c1 ⊢; rw [e2_, e1_] at c1; exact c1), c2, c3⟩⟩)), (by rw [if_neg (by omega)]; omega), (⟨fun h9_ => absurd h9_ (by omega), fun _ => ⟨by omega, by omega⟩⟩)⟩
    rintro A1_ ⟨F34_, hA_, g35_, s36_, c29_, c30_, c31_, c32_, c33_⟩
    subst hA_
    have g37_ : fs [(0, 0, 8, 8), (0, 0, 10, 10), (0, 0, 12, 12), (331, 331, 8, 8), (331, 331, 10, 11), (335, 335, 0, 100000), (338, 338, 0, 100000), (1, 1, 1, 1), (1, 1, 6, 8), (3, 6, 0, 100000), (105, 117, 0, 100000), (119, 119, 2, 3), (120, 120, 1, 1), (120, 120, 3, 4), (121, 121, 0, 100000), (123, 123, 0, 4), (124, 124, 0, 100000), (126, 330, 0, 100000)] F F34_ := fs_tr g10_ s36_ rfl
    obtain ⟨K, l, tl, hk1_, hk2_, hk3_, hk4_, hk5_, hk6_⟩ := c29_
    obtain ⟨hD, hDl⟩ := hDD (by omega)
    refine ga_aload_n (v := .ref 0) hm_3 rfl rfl rfl ?_
    refine ga_getr (b := 120) hm_3 rfl sc_0 rfl ?_
    refine ga_aload_n (v := .ref 0) hm_3 rfl rfl rfl ?_
    refine ga_getr (b := 7) hm_3 rfl sc_0 rfl ?_
    refine ga_aload_n (v := .ref 0) hm_3 rfl rfl rfl ?_
    refine ga_getr (b := 104) hm_3 rfl sc_0 rfl ?_
    refine gVi (nY := 4) (F := 6) (L := 144) (As := [.ref 7, .ref 104]) (b := 120) (rest := []) hm_3 rfl hm_101 rfl rfl (fl_ob sc_120) rfl rfl rfl rfl rfl (by omega) (by omega) (mc_101 hG F34_ X g35_ (pl) (tl) (ps) (D) ((prb_i K nm ts pl ps)) ((prb_g K nm ts pl ps)) (by rw [(Eq.trans (a := F34_ 15 2) (b := F7_ 15 2) (s36_ 15 2 (by first | exact fs_c rfl | exact (fs_n (by omega) (fs_n (by omega) (fs_n (by omega) (fs_n (by omega) (fs_n (by omega) rfl))))))) (show F7_ 15 2 = F 15 2 from (s9_ 15 2 (by first | exact fs_c rfl | exact (fs_n (by omega) (fs_n (by omega) (fs_n (by omega) (fs_n (by omega) (fs_n (by omega) (fs_n (by omega) (fs_n (by omega) rfl)))))))))))]; exact (di_fs (di_fs (hdm (by omega)) s9_ (by first | exact fs_rg rfl | exact fun r j hj => (fs_n (by omega) (fs_n (by omega) (fs_n (by omega) (fs_n (by omega) (fs_n (by omega) (fs_n (by omega) (fs_n (by omega) rfl))))))))) s36_ (by first | exact fs_rg rfl | exact fun r j hj => (fs_n (by omega) (fs_n (by omega) (fs_n (by omega) (fs_n (by omega) (fs_n (by omega) rfl)))))))) (c31_) (c32_) ((rep_fs (rep_fs hpl s9_ (fun _ => (by first | exact fs_c rfl | exact (fs_n (by omega) (fs_n (by omega) (fs_n (by omega) (fs_n (by omega) (fs_n (by omega) (fs_n (by omega) (fs_n (by omega) rfl))))))))) (by first | exact fs_c rfl | exact (fs_n (by omega) (fs_n (by omega) (fs_n (by omega) (fs_n (by omega) (fs_n (by omega) (fs_n (by omega) (fs_n (by omega) rfl))))))))) s36_ (fun _ => (by first | exact fs_c rfl | exact (fs_n (by omega) (fs_n (by omega) (fs_n (by omega) (fs_n (by omega) (fs_n (by omega) rfl))))))) (by first | exact fs_c rfl | exact (fs_n (by omega) (fs_n (by omega) (fs_n (by omega) (fs_n (by omega) (fs_n (by omega) rfl)))))))) ((prd_fs (prd_fs hps s9_ (fun _ _ _ => (by first | exact fs_c rfl | exact (fs_n (by omega) (fs_n (by omega) (fs_n (by omega) (fs_n (by omega) (fs_n (by omega) (fs_n (by omega) (fs_n (by omega) rfl)))))))))) s36_ (fun _ _ _ => (by first | exact fs_c rfl | exact (fs_n (by omega) (fs_n (by omega) (fs_n (by omega) (fs_n (by omega) (fs_n (by omega) rfl))))))))) (hpn) ((dar_fs (dar_fs hD s9_ (by first | exact fs_rg rfl | exact fun r j hj => (fs_n (by omega) (fs_n (by omega) (fs_n (by omega) (fs_n (by omega) (fs_n (by omega) (fs_n (by omega) (fs_n (by omega) rfl))))))))) s36_ (by first | exact fs_rg rfl | exact fun r j hj => (fs_n (by omega) (fs_n (by omega) (fs_n (by omega) (fs_n (by omega) (fs_n (by omega) rfl)))))))) (Eq.trans hDl ((Eq.trans (a := F34_ 15 2) (b := F7_ 15 2) (s36_ 15 2 (by first | exact fs_c rfl | exact (fs_n (by omega) (fs_n (by omega) (fs_n (by omega) (fs_n (by omega) (fs_n (by omega) rfl))))))) (show F7_ 15 2 = F 15 2 from (s9_ 15 2 (by first | exact fs_c rfl | exact (fs_n (by omega) (fs_n (by omega) (fs_n (by omega) (fs_n (by omega) (fs_n (by omega) (fs_n (by omega) (fs_n (by omega) rfl)))))))))))).symm) (hk4_) ((prb_ok hpn hk2_).1.2) (hk5_) (hk6_) (fun x hx => ((prb_ok hpn hk2_).2.1 x hx).2)) (fun _ _ h => False.elim h) ?_
    rintro z38_ A1_ (⟨F40_, hA_, g41_, s42_, hz_, c39_⟩ | ⟨F49_, hA_, g50_, s51_, hz_, c43_, c44_, c45_, c46_, c47_, c48_⟩)
    ·
      subst hA_
      subst hz_
      have g52_ : fs [(0, 0, 8, 8), (0, 0, 10, 10), (0, 0, 12, 12), (331, 331, 8, 8), (331, 331, 10, 11), (335, 335, 0, 100000), (338, 338, 0, 100000), (1, 1, 1, 1), (1, 1, 6, 8), (3, 6, 0, 100000), (105, 117, 0, 100000), (119, 119, 2, 3), (120, 120, 1, 1), (120, 120, 3, 4), (121, 121, 0, 100000), (123, 123, 0, 4), (124, 124, 0, 100000), (126, 330, 0, 100000)] F F40_ := fs_tr g37_ s42_ rfl
      refine fl_if_ne hm_3 rfl ⟨by omega, by omega⟩ (fun h => absurd h (by omega)) (fun _ => ?_)
      refine fl_thr hm_3 rfl rfl (by omega) (by omega) (Nat.le_of_ble_eq_true rfl) (fl_pos sc_0) ?_
      refine gw_i ?_
      have e53_ : F40_ 1 1 = F34_ 1 1 := (s42_ 1 1 rfl).trans (rfl)
      have b54_ : 0 ≤ F34_ 1 1 ∧ F34_ 1 1 ≤ 600 := gi_g g35_ rfl
      have b55_ : 0 ≤ F 1 1 ∧ F 1 1 ≤ 600 := gi_g hgi rfl
      have e56_ : F34_ 331 11 = F7_ 331 11 := (s36_ 331 11 rfl).trans (rfl)
      have e57_ : F40_ 331 11 = F7_ 331 11 := (s42_ 331 11 rfl).trans (e56_)
      have e58_ : F40_ 1 8 = F34_ 1 8 := (s42_ 1 8 rfl).trans (rfl)
      have b59_ : 0 ≤ F34_ 1 8 ∧ F34_ 1 8 ≤ 100000 := gi_g g35_ rfl
      have b60_ : 0 ≤ F 1 8 ∧ F 1 8 ≤ 100000 := gi_g hgi rfl
      have e61_ : F34_ 0 8 = F7_ 0 8 := (s36_ 0 8 rfl).trans (rfl)
      have e62_ : F40_ 0 8 = F7_ 0 8 := (s42_ 0 8 rfl).trans (e61_)
      have b63_ : 0 ≤ F7_ 0 8 ∧ F7_ 0 8 ≤ 1 := gi_g g8_ rfl
      have b64_ : 0 ≤ F 0 8 ∧ F 0 8 ≤ 1 := gi_g hgi rfl
      have e65_ : F34_ 0 12 = F7_ 0 12 := (s36_ 0 12 rfl).trans (rfl)
      have e66_ : F40_ 0 12 = F7_ 0 12 := (s42_ 0 12 rfl).trans (e65_)
      have b67_ : 0 ≤ F7_ 0 12 ∧ F7_ 0 12 ≤ 6000 := gi_g g8_ rfl
      have b68_ : 0 ≤ F7_ 331 11 ∧ F7_ 331 11 ≤ 1 := gi_g g8_ rfl
      exact ⟨F40_, 16, (Or.inr (Or.inr (rfl))), ⟨ga_len.symm, (List.append_assoc _ _ _).symm⟩, g41_, g52_, (Or.inr ⟨by omega, by omega⟩), (fun h9_ => absurd h9_ (by omega)), (Or.inr (Or.inr ⟨by omega, rfl, Eq.trans ((show F40_ 1 8 = F34_ 1 8 from (s42_ 1 8 (by first | exact fs_c rfl | exact (fs_n (by omega) (fs_n (by omega) (fs_n (by omega) (fs_n (by omega) (fs_n (by omega) (fs_n (by omega) rfl)))))))))) c33_, K, l, tl, (by have c1 := hk1_; have e2_ : F7_ 2 = F 2 := funext (fun j => (show F7_ 2 j = F 2 j from (s9_ 2 j (by first | exact fs_c rfl | exact (fs_n (by omega) (fs_n (by omega) (fs_n (by omega) (fs_n (by omega) (fs_n (by omega) (fs_n (by omega) (fs_n (by omega) rfl))))))))))); have e1_ : F7_ 1 1 = F 1 1 := (show F7_ 1 1 = F 1 1 from (s9_ 1 1 (by first | exact fs_c rfl | exact (fs_n (by omega) (fs_n (by omega) (fs_n (by omega) (fs_n (by omega) (fs_n (by omega) (fs_n (by omega) (fs_n (by omega) rfl)))))))))); unfold dmk at c1 ⊢; rw [e2_, e1_] at c1; exact c1), hk2_, c39_⟩)), (by rw [if_neg (by omega)]; omega), (⟨fun h9_ => absurd h9_ (by omega), fun _ => ⟨by omega, by omega⟩⟩)⟩
    subst hA_
    subst hz_
    have g69_ : fs [(0, 0, 8, 8), (0, 0, 10, 10), (0, 0, 12, 12), (331, 331, 8, 8), (331, 331, 10, 11), (335, 335, 0, 100000), (338, 338, 0, 100000), (1, 1, 1, 1), (1, 1, 6, 8), (3, 6, 0, 100000), (105, 117, 0, 100000), (119, 119, 2, 3), (120, 120, 1, 1), (120, 120, 3, 4), (121, 121, 0, 100000), (123, 123, 0, 4), (124, 124, 0, 100000), (126, 330, 0, 100000)] F F49_ := fs_tr g37_ s51_ rfl
    refine fl_if_ne hm_3 rfl ⟨by omega, by omega⟩ (fun _ => ?_) (fun h => absurd (by omega) h)
    refine ga_aload_n (v := .ref 0) hm_3 rfl rfl rfl ?_
    refine fl_iconst hm_3 rfl ?_
    refine ga_putz (z := 1) hm_3 rfl sc_0 rfl rfl (by omega) ?_
    refine ga_aload_n (v := .ref 0) hm_3 rfl rfl rfl ?_
    refine ga_getr (b := 120) hm_3 rfl sc_0 rfl ?_
    have b70_ : 0 ≤ F49_ 120 3 ∧ F49_ 120 3 ≤ 41 := gi_g g50_ rfl
    refine ga_geti (z := F49_ 120 3) hm_3 rfl sc_120 rfl (fl_u_ne (by first | exact nc_ rfl | decide | omega)) ?_
    obtain ⟨F71_, q72_⟩ : ∃ Fq_, Fq_ = (fl_u F49_ 0 8 1) := ⟨_, rfl⟩
    rw [← q72_]
    have g73_ : gi F71_ := by rw [q72_]; exact gi_u (g50_) rfl (by omega) (by omega)
    have g74_ : fs [(0, 0, 8, 8), (0, 0, 10, 10), (0, 0, 12, 12), (331, 331, 8, 8), (331, 331, 10, 11), (335, 335, 0, 100000), (338, 338, 0, 100000), (1, 1, 1, 1), (1, 1, 6, 8), (3, 6, 0, 100000), (105, 117, 0, 100000), (119, 119, 2, 3), (120, 120, 1, 1), (120, 120, 3, 4), (121, 121, 0, 100000), (123, 123, 0, 4), (124, 124, 0, 100000), (126, 330, 0, 100000)] F F71_ := by rw [q72_]; exact fs_u (g69_) rfl
    refine gr_i (z := F49_ 120 3) hm_3 rfl rfl rfl ?_
    have e75_ : F49_ 1 1 = F34_ 1 1 := (s51_ 1 1 rfl).trans (rfl)
    have e76_ : F71_ 1 1 = F34_ 1 1 := by rw [q72_]; exact (fl_u_ne (by first | exact nc_ rfl | decide | omega)).trans (e75_)
    have b77_ : 0 ≤ F34_ 1 1 ∧ F34_ 1 1 ≤ 600 := gi_g g35_ rfl
    have e78_ : F34_ 331 11 = F7_ 331 11 := (s36_ 331 11 rfl).trans (rfl)
    have e79_ : F49_ 331 11 = F7_ 331 11 := (s51_ 331 11 rfl).trans (e78_)
    have e80_ : F71_ 331 11 = F7_ 331 11 := by rw [q72_]; exact (fl_u_ne (by first | exact nc_ rfl | decide | omega)).trans (e79_)
    have e81_ : F49_ 105 2 = F34_ 105 2 := (s51_ 105 2 rfl).trans (rfl)
    have e82_ : F71_ 105 2 = F34_ 105 2 := by rw [q72_]; exact (fl_u_ne (by first | exact nc_ rfl | decide | omega)).trans (e81_)
    have b83_ : 0 ≤ F34_ 105 2 ∧ F34_ 105 2 ≤ 6 := gi_g g35_ rfl
    have e84_ : F71_ 120 3 = F49_ 120 3 := by rw [q72_]; exact fl_u_ne (by first | exact nc_ rfl | decide | omega)
    have e85_ : F49_ 1 8 = F34_ 1 8 := (s51_ 1 8 rfl).trans (rfl)
    have e86_ : F71_ 1 8 = F34_ 1 8 := by rw [q72_]; exact (fl_u_ne (by first | exact nc_ rfl | decide | omega)).trans (e85_)
    have b87_ : 0 ≤ F34_ 1 8 ∧ F34_ 1 8 ≤ 100000 := gi_g g35_ rfl
    have e88_ : F34_ 0 10 = F7_ 0 10 := (s36_ 0 10 rfl).trans (rfl)
    have e89_ : F49_ 0 10 = F7_ 0 10 := (s51_ 0 10 rfl).trans (e88_)
    have e90_ : F71_ 0 10 = F7_ 0 10 := by rw [q72_]; exact (fl_u_ne (by first | exact nc_ rfl | decide | omega)).trans (e89_)
    have b91_ : 0 ≤ F7_ 0 10 ∧ F7_ 0 10 ≤ 60 := gi_g g8_ rfl
    have e92_ : F71_ 0 8 = 1 := by rw [q72_]; exact fl_u_eq
    have e93_ : F34_ 0 12 = F7_ 0 12 := (s36_ 0 12 rfl).trans (rfl)
    have e94_ : F49_ 0 12 = F7_ 0 12 := (s51_ 0 12 rfl).trans (e93_)
    have e95_ : F71_ 0 12 = F7_ 0 12 := by rw [q72_]; exact (fl_u_ne (by first | exact nc_ rfl | decide | omega)).trans (e94_)
    have b96_ : 0 ≤ F7_ 0 12 ∧ F7_ 0 12 ≤ 6000 := gi_g g8_ rfl
    have b97_ : 0 ≤ F7_ 331 11 ∧ F7_ 331 11 ≤ 1 := gi_g g8_ rfl
    exact ⟨F71_, rfl, g73_, g74_, (⟨by omega, by omega⟩), (⟨by omega, by omega⟩), (fun h9_ => absurd h9_ (by omega)), (⟨K, l, tl, (by have c1 := hk1_; have e2_ : F7_ 2 = F 2 := funext (fun j => (show F7_ 2 j = F 2 j from (s9_ 2 j (by first | exact fs_c rfl | exact (fs_n (by omega) (fs_n (by omega) (fs_n (by omega) (fs_n (by omega) (fs_n (by omega) (fs_n (by omega) (fs_n (by omega) rfl))))))))))); have e1_ : F7_ 1 1 = F 1 1 := (show F7_ 1 1 = F 1 1 from (s9_ 1 1 (by first | exact fs_c rfl | exact (fs_n (by omega) (fs_n (by omega) (fs_n (by omega) (fs_n (by omega) (fs_n (by omega) (fs_n (by omega) (fs_n (by omega) rfl)))))))))); unfold dmk at c1 ⊢; rw [e2_, e1_] at c1; exact c1), hk2_, by have h9_ := c45_.1; have h8_ := c45_.2; have h7_ : F71_ 120 3 = F49_ 120 3 := (show F71_ 120 3 = F49_ 120 3 from (by rw [q72_]; exact (fl_u_ne (by first | exact nc_ rfl | decide | omega)))); omega, ⟨⟨Eq.trans ((show F71_ 120 1 = F49_ 120 1 from (by rw [q72_]; exact (fl_u_ne (by first | exact nc_ rfl | decide | omega))))) c43_.1, c43_.2⟩, fnr_cg c44_ (fun j => (show F71_ 121 j = F49_ 121 j from (by rw [q72_]; exact (fl_u_ne (by first | exact nc_ rfl | decide | omega))))), ⟨Eq.trans ((show F71_ 120 3 = F49_ 120 3 from (by rw [q72_]; exact (fl_u_ne (by first | exact nc_ rfl | decide | omega))))) c45_.1, by rw [(show F71_ 120 3 = F49_ 120 3 from (by rw [q72_]; exact (fl_u_ne (by first | exact nc_ rfl | decide | omega))))]; exact c45_.2⟩, by have h7_ := c45_.1; have h8_ := c45_.2; exact sts_cg c46_ (fun r j hr => (show F71_ (r) j = F49_ (r) j from (by rw [q72_]; exact (fl_u_ne (by first | exact nc_ rfl | decide | omega))))) (fun j => (show F71_ 121 j = F49_ 121 j from (by rw [q72_]; exact (fl_u_ne (by first | exact nc_ rfl | decide | omega))))), by rw [(show F71_ 121 = F49_ 121 from funext (fun j => (show F71_ 121 j = F49_ 121 j from (by rw [q72_]; exact (fl_u_ne (by first | exact nc_ rfl | decide | omega)))))), (show F71_ 125 = F49_ 125 from funext (fun j => (show F71_ 125 j = F49_ 125 j from (by rw [q72_]; exact (fl_u_ne (by first | exact nc_ rfl | decide | omega))))))]; exact Eq.trans ((show F71_ 120 4 = F49_ 120 4 from (by rw [q72_]; exact (fl_u_ne (by first | exact nc_ rfl | decide | omega))))) c47_, by rw [(show F71_ 121 = F49_ 121 from funext (fun j => (show F71_ 121 j = F49_ 121 j from (by rw [q72_]; exact (fl_u_ne (by first | exact nc_ rfl | decide | omega)))))), (show F71_ 125 = F49_ 125 from funext (fun j => (show F71_ 125 j = F49_ 125 j from (by rw [q72_]; exact (fl_u_ne (by first | exact nc_ rfl | decide | omega))))))]; exact ⟨Eq.trans ((show F71_ 123 0 = F49_ 123 0 from (by rw [q72_]; exact (fl_u_ne (by first | exact nc_ rfl | decide | omega))))) c48_.1, Eq.trans ((show F71_ 123 1 = F49_ 123 1 from (by rw [q72_]; exact (fl_u_ne (by first | exact nc_ rfl | decide | omega))))) c48_.2.1, Eq.trans ((show F71_ 123 2 = F49_ 123 2 from (by rw [q72_]; exact (fl_u_ne (by first | exact nc_ rfl | decide | omega))))) c48_.2.2⟩⟩, by have h9_ := hk4_.1; have h8_ : 0 ≤ F34_ 105 2 ∧ F34_ 105 2 ≤ 6 := gi_g g35_ rfl; omega, (by rw [q72_]; exact (rep_u (rep_fs hk3_ s51_ (fun _ => (by first | exact fs_c rfl | exact (fs_n (by omega) (fs_n (by omega) (fs_n (by omega) (fs_n (by omega) (fs_n (by omega) (fs_n (by omega) rfl)))))))) (by first | exact fs_c rfl | exact (fs_n (by omega) (fs_n (by omega) (fs_n (by omega) (fs_n (by omega) (fs_n (by omega) (fs_n (by omega) rfl)))))))) (by omega) (by omega)))⟩), (Eq.trans ((Eq.trans (a := F71_ 1 8) (b := F49_ 1 8) (by rw [q72_]; exact (fl_u_ne (by first | exact nc_ rfl | decide | omega))) (show F49_ 1 8 = F34_ 1 8 from (s51_ 1 8 (by first | exact fs_c rfl | exact (fs_n (by omega) (fs_n (by omega) (fs_n (by omega) (fs_n (by omega) (fs_n (by omega) (fs_n (by omega) rfl))))))))))) c33_), (⟨by omega, by omega⟩), (⟨by omega, by omega⟩)⟩
  refine fl_thr hm_3 rfl rfl (by omega) (by omega) (Nat.le_of_ble_eq_true rfl) (fl_pos sc_0) ?_
  refine gw_i ?_
  have b98_ : 0 ≤ F 1 1 ∧ F 1 1 ≤ 600 := gi_g hgi rfl
  have b99_ : 0 ≤ F 1 8 ∧ F 1 8 ≤ 100000 := gi_g hgi rfl
  have b100_ : 0 ≤ F 0 8 ∧ F 0 8 ≤ 1 := gi_g hgi rfl
  have b101_ : 0 ≤ F 0 12 ∧ F 0 12 ≤ 6000 := gi_g hgi rfl
  have b102_ : 0 ≤ F 331 11 ∧ F 331 11 ≤ 1 := gi_g hgi rfl
  exact ⟨F, 15, (Or.inl rfl), ⟨ga_len.symm, (List.append_assoc _ _ _).symm⟩, hgi, fs_refl, (Or.inl ⟨by omega, rfl⟩), (hfd), (Or.inl ⟨by omega, rfl, rfl⟩), (by rw [if_pos (by omega)]), (⟨fun _ => rfl, fun h9_ => absurd (by omega) h9_⟩)⟩
/- CheapPlanner.steps -/
abbrev pq_6v (G : Nat → Nat → Option Nat) (F : fl_N) (X : xi_H)  : Outcome → xi_H → Prop := gqi (fun z A => ∃ F' : fl_N, fl_H sh_T G F' ++ X = A ∧ gi F' ∧ fs [] F F' ∧ (-2147483648 ≤ z ∧ z ≤ 2147483647) ∧ (F 331 11 = 1 ∧ z = F 335 200)) (fun j A => ∃ (F' : fl_N) (ci : Nat), (ci = 17) ∧ (387 + X.length = j ∧ fl_H sh_T G F' ++ (X ++ [gx ci]) = A) ∧ gi F' ∧ fs [] F F' ∧ (¬ F 331 11 = 1))
theorem mc_6v {G : Nat → Nat → Option Nat} (hG : gg G) (F : fl_N) (X : xi_H) (hgi : gi F)  : fl_M xi_ms 6 6 100 [.ref 0] (fl_H sh_T G F ++ X) (pq_6v G F X) := by
  intro fr lo hfr hlo
  show fl_R xi_ms 6 fr lo 0 [(0, .ref 0)] [] _ _
  refine ga_aload_n (v := .ref 0) hm_6 rfl rfl rfl ?_
  refine ga_getr (b := 331) hm_6 rfl sc_0 rfl ?_
  refine gIi (nY := 1) (F := 0) (L := 0) (As := []) (b := 331) (rest := []) hm_6 rfl hm_41 rfl rfl (fl_ob sc_331) rfl rfl rfl rfl rfl (by omega) (by omega) ?_
  intro f1_ l2_ h3_ h4_
  show fl_R xi_ms 41 f1_ l2_ 0 [(0, .ref 331)] [] _ _
  refine ga_aload_n (v := .ref 331) hm_41 rfl rfl rfl ?_
  have b5_ : 0 ≤ F 331 11 ∧ F 331 11 ≤ 1 := gi_g hgi rfl
  refine ga_geti (z := F 331 11) hm_41 rfl sc_331 rfl (rfl) ?_
  refine gr_i hm_41 rfl rfl (ga_nb (by omega)) ?_
  clear h3_ h4_ f1_ l2_
  refine fx_if_ne (a := F 331 11) hm_6 rfl ⟨by omega, by omega⟩ (fun h6_ => ?_) (fun h7_ => ?_)
  ·
    refine ga_aload_n (v := .ref 0) hm_6 rfl rfl rfl ?_
    refine ga_getr (b := 331) hm_6 rfl sc_0 rfl ?_
    refine gIi (nY := 1) (F := 0) (L := 0) (As := []) (b := 331) (rest := []) hm_6 rfl hm_132 rfl rfl (fl_ob sc_331) rfl rfl rfl rfl rfl (by omega) (by omega) ?_
    intro f8_ l9_ h10_ h11_
    show fl_R xi_ms 132 f8_ l9_ 0 [(0, .ref 331)] [] _ _
    refine ga_aload_n (v := .ref 331) hm_132 rfl rfl rfl ?_
    refine ga_getr (b := 335) hm_132 rfl sc_331 rfl ?_
    refine fl_sipush hm_132 rfl rfl ?_
    have b12_ : -2147483648 ≤ F 335 200 ∧ F 335 200 ≤ 2147483647 := gi_g hgi rfl
    refine ga_iald (z := 200) (w := F 335 200) hm_132 rfl sc_335 (by omega) (by omega) (by omega) (rfl) ?_
    refine gr_i hm_132 rfl rfl rfl ?_
    clear h10_ h11_ f8_ l9_
    refine gr_i (z := F 335 200) hm_6 rfl rfl rfl ?_
    exact ⟨F, rfl, hgi, fs_refl, (⟨by omega, by omega⟩), (⟨by have h9_ : 0 ≤ F 331 11 ∧ F 331 11 ≤ 1 := gi_g hgi rfl; omega, rfl⟩)⟩
  refine fl_thr hm_6 rfl rfl (by omega) (by omega) (Nat.le_of_ble_eq_true rfl) (fl_pos sc_0) ?_
  refine gw_i ?_
  exact ⟨F, 17, (rfl), ⟨ga_len.symm, (List.append_assoc _ _ _).symm⟩, hgi, fs_refl, (by omega)⟩
/- CheapPlanner.step -/
abbrev pq_7v (G : Nat → Nat → Option Nat) (F : fl_N) (X : xi_H) (k : Int) : Outcome → xi_H → Prop := gqi (fun z A => ∃ F' : fl_N, fl_H sh_T G F' ++ X = A ∧ gi F' ∧ fs [] F F' ∧ (-2147483648 ≤ z ∧ z ≤ 2147483647) ∧ ((F 331 11 = 1 ∧ 0 ≤ k ∧ k < F 335 200) ∧ z = F 339 k.toNat)) (fun j A => ∃ (F' : fl_N) (ci : Nat), (ci = 17) ∧ (387 + X.length = j ∧ fl_H sh_T G F' ++ (X ++ [gx ci]) = A) ∧ gi F' ∧ fs [] F F' ∧ (¬ (F 331 11 = 1 ∧ 0 ≤ k ∧ k < F 335 200)))
theorem mc_7v {G : Nat → Nat → Option Nat} (hG : gg G) (F : fl_N) (X : xi_H) (hgi : gi F) (k : Int) (hfd : fnd F) (hk : -2147483648 ≤ k ∧ k ≤ 2147483647) : fl_M xi_ms 7 6 100 [.ref 0, .int (Int32.ofInt k)] (fl_H sh_T G F ++ X) (pq_7v G F X k) := by
  intro fr lo hfr hlo
  show fl_R xi_ms 7 fr lo 0 [(0, .ref 0), (1, .int (Int32.ofInt k))] [] _ _
  refine ga_aload_n (v := .ref 0) hm_7 rfl rfl rfl ?_
  refine ga_getr (b := 331) hm_7 rfl sc_0 rfl ?_
  refine gIi (nY := 1) (F := 0) (L := 0) (As := []) (b := 331) (rest := []) hm_7 rfl hm_41 rfl rfl (fl_ob sc_331) rfl rfl rfl rfl rfl (by omega) (by omega) ?_
  intro f1_ l2_ h3_ h4_
  show fl_R xi_ms 41 f1_ l2_ 0 [(0, .ref 331)] [] _ _
  refine ga_aload_n (v := .ref 331) hm_41 rfl rfl rfl ?_
  have b5_ : 0 ≤ F 331 11 ∧ F 331 11 ≤ 1 := gi_g hgi rfl
  refine ga_geti (z := F 331 11) hm_41 rfl sc_331 rfl (rfl) ?_
  refine gr_i hm_41 rfl rfl (ga_nb (by omega)) ?_
  clear h3_ h4_ f1_ l2_
  refine fl_if_eq (a := F 331 11) hm_7 rfl ⟨by omega, by omega⟩ (fun h6_ => ?_) (fun h7_ => ?_)
  ·
    refine fl_thr hm_7 rfl rfl (by omega) (by omega) (Nat.le_of_ble_eq_true rfl) (fl_pos sc_0) ?_
    refine gw_i ?_
    have b8_ : -2147483648 ≤ F 335 200 ∧ F 335 200 ≤ 2147483647 := gi_g hgi rfl
    exact ⟨F, 17, (rfl), ⟨ga_len.symm, (List.append_assoc _ _ _).symm⟩, hgi, fs_refl, (by omega)⟩
  refine ga_iload_n (z := k) hm_7 rfl rfl ?_
  refine fl_if_lt (a := k) hm_7 rfl ⟨by omega, by omega⟩ (fun h9_ => ?_) (fun h10_ => ?_)
  ·
    refine fl_thr hm_7 rfl rfl (by omega) (by omega) (Nat.le_of_ble_eq_true rfl) (fl_pos sc_0) ?_
    refine gw_i ?_
    have b11_ : -2147483648 ≤ F 335 200 ∧ F 335 200 ≤ 2147483647 := gi_g hgi rfl
    exact ⟨F, 17, (rfl), ⟨ga_len.symm, (List.append_assoc _ _ _).symm⟩, hgi, fs_refl, (by omega)⟩
  refine ga_iload_n (z := k) hm_7 rfl rfl ?_
  refine ga_aload_n (v := .ref 0) hm_7 rfl rfl rfl ?_
  refine ga_getr (b := 331) hm_7 rfl sc_0 rfl ?_
  refine gIi (nY := 1) (F := 0) (L := 0) (As := []) (b := 331) (rest := [.int (Int32.ofInt k)]) hm_7 rfl hm_132 rfl rfl (fl_ob sc_331) rfl rfl rfl rfl rfl (by omega) (by omega) ?_
  intro f12_ l13_ h14_ h15_
  show fl_R xi_ms 132 f12_ l13_ 0 [(0, .ref 331)] [] _ _
  refine ga_aload_n (v := .ref 331) hm_132 rfl rfl rfl ?_
  refine ga_getr (b := 335) hm_132 rfl sc_331 rfl ?_
  refine fl_sipush hm_132 rfl rfl ?_
  have b16_ : -2147483648 ≤ F 335 200 ∧ F 335 200 ≤ 2147483647 := gi_g hgi rfl
  refine ga_iald (z := 200) (w := F 335 200) hm_132 rfl sc_335 (by omega) (by omega) (by omega) (rfl) ?_
  refine gr_i hm_132 rfl rfl rfl ?_
  clear h14_ h15_ f12_ l13_
  refine fl_icmp_lt (a := k) (b := F 335 200) hm_7 rfl ⟨by omega, by omega⟩ ⟨by omega, by omega⟩ (fun h17_ => ?_) (fun h18_ => ?_)
  ·
    have hf1 := hfd (by omega)
    refine ga_aload_n (v := .ref 0) hm_7 rfl rfl rfl ?_
    refine ga_getr (b := 331) hm_7 rfl sc_0 rfl ?_
    refine ga_iload_n (z := k) hm_7 rfl rfl ?_
    refine gIi (nY := 2) (F := 0) (L := 0) (As := [.int (Int32.ofInt k)]) (b := 331) (rest := []) hm_7 rfl hm_133 rfl rfl (fl_ob sc_331) rfl rfl rfl rfl rfl (by omega) (by omega) ?_
    intro f19_ l20_ h21_ h22_
    show fl_R xi_ms 133 f19_ l20_ 0 [(0, .ref 331), (1, .int (Int32.ofInt k))] [] _ _
    refine ga_aload_n (v := .ref 331) hm_133 rfl rfl rfl ?_
    refine ga_getr (b := 339) hm_133 rfl sc_331 rfl ?_
    refine ga_iload_n (z := k) hm_133 rfl rfl ?_
    have b23_ : 0 ≤ F 339 k.toNat ∧ F 339 k.toNat ≤ 40 := gi_g hgi rfl
    refine ga_iald (z := k) (w := F 339 k.toNat) hm_133 rfl sc_339 (by omega) (by omega) (by omega) (rfl) ?_
    refine gr_i hm_133 rfl rfl rfl ?_
    clear h21_ h22_ f19_ l20_
    refine gr_i (z := F 339 k.toNat) hm_7 rfl rfl rfl ?_
    exact ⟨F, rfl, hgi, fs_refl, (⟨by omega, by omega⟩), (⟨⟨by have h9_ : 0 ≤ F 331 11 ∧ F 331 11 ≤ 1 := gi_g hgi rfl; omega, by omega, by omega⟩, by first | rfl | omega⟩)⟩
  refine fl_thr hm_7 rfl rfl (by omega) (by omega) (Nat.le_of_ble_eq_true rfl) (fl_pos sc_0) ?_
  refine gw_i ?_
  exact ⟨F, 17, (rfl), ⟨ga_len.symm, (List.append_assoc _ _ _).symm⟩, hgi, fs_refl, (by omega)⟩
/- CheapPlannerModel.steps -/
abbrev pq_67v (G : Nat → Nat → Option Nat) (F : fl_N) (X : xi_H)  : Outcome → xi_H → Prop := gqi (fun z A => ∃ F' : fl_N, fl_H sh_T G F' ++ X = A ∧ gi F' ∧ fs [(344, 344, 0, 0)] F F' ∧ (-2147483648 ≤ z ∧ z ≤ 2147483647) ∧ ((F' 344 0 = 1 ∧ ¬ F 344 13 = 1) ∨ (F' 344 0 = 0 ∧ F 344 13 = 1 ∧ z = F 344 58))) gqn
theorem mc_67v {G : Nat → Nat → Option Nat} (hG : gg G) (F : fl_N) (X : xi_H) (hgi : gi F)  : fl_M xi_ms 67 0 0 [.ref 344] (fl_H sh_T G F ++ X) (pq_67v G F X) := by
  intro fr lo hfr hlo
  show fl_R xi_ms 67 fr lo 0 [(0, .ref 344)] [] _ _
  refine ga_aload_n (v := .ref 344) hm_67 rfl rfl rfl ?_
  refine ga_aload_n (v := .ref 344) hm_67 rfl rfl rfl ?_
  have b1_ : 0 ≤ F 344 13 ∧ F 344 13 ≤ 1 := gi_g hgi rfl
  refine ga_geti (z := F 344 13) hm_67 rfl sc_344 rfl (rfl) ?_
  refine fl_if_eq (a := F 344 13) hm_67 rfl ⟨by omega, by omega⟩ (fun h2_ => ?_) (fun h3_ => ?_)
  ·
    refine fl_iconst hm_67 rfl ?_
    refine ga_puti (z := 1) hm_67 rfl sc_344 rfl rfl ?_
    refine ga_aload_n (v := .ref 344) hm_67 rfl rfl rfl ?_
    refine ga_geti (z := F 344 13) hm_67 rfl sc_344 rfl (fl_u_ne (by first | exact nc_ rfl | decide | omega)) ?_
    refine fl_if_eq (a := F 344 13) hm_67 rfl ⟨by omega, by omega⟩ (fun h4_ => ?_) (fun h5_ => ?_)
    ·
      refine fl_iconst hm_67 rfl ?_
      obtain ⟨F6_, q7_⟩ : ∃ Fq_, Fq_ = (fl_u F 344 0 1) := ⟨_, rfl⟩
      rw [← q7_]
      have g8_ : gi F6_ := by rw [q7_]; exact gi_u (hgi) rfl (by omega) (by omega)
      have g9_ : fs [(344, 344, 0, 0)] F F6_ := by rw [q7_]; exact fs_u (fs_refl) rfl
      refine gr_i (z := 0) hm_67 rfl rfl rfl ?_
      have e10_ : F6_ 344 0 = 1 := by rw [q7_]; exact fl_u_eq
      have b11_ : 0 ≤ F 344 58 ∧ F 344 58 ≤ 200 := gi_g hgi rfl
      have e12_ : F6_ 344 13 = F 344 13 := by rw [q7_]; exact fl_u_ne (by first | exact nc_ rfl | decide | omega)
      have e13_ : F6_ 344 58 = F 344 58 := by rw [q7_]; exact fl_u_ne (by first | exact nc_ rfl | decide | omega)
      exact ⟨F6_, rfl, g8_, g9_, (⟨by omega, by omega⟩), (by have h9_ : 0 ≤ F 344 13 ∧ F 344 13 ≤ 1 := gi_g hgi rfl; first | exact Or.inl ⟨by omega, by omega⟩ | exact Or.inr ⟨by omega, by omega, by omega⟩)⟩
    exfalso; omega
  refine fl_iconst hm_67 rfl ?_
  refine fl_goto hm_67 rfl ?_
  refine ga_puti (z := 0) hm_67 rfl sc_344 rfl rfl ?_
  refine ga_aload_n (v := .ref 344) hm_67 rfl rfl rfl ?_
  refine ga_geti (z := F 344 13) hm_67 rfl sc_344 rfl (fl_u_ne (by first | exact nc_ rfl | decide | omega)) ?_
  refine fl_if_eq (a := F 344 13) hm_67 rfl ⟨by omega, by omega⟩ (fun h14_ => ?_) (fun h15_ => ?_)
  · exfalso; omega
  refine ga_aload_n (v := .ref 344) hm_67 rfl rfl rfl ?_
  have b16_ : 0 ≤ F 344 58 ∧ F 344 58 ≤ 200 := gi_g hgi rfl
  refine ga_geti (z := F 344 58) hm_67 rfl sc_344 rfl (fl_u_ne (by first | exact nc_ rfl | decide | omega)) ?_
  refine fl_goto hm_67 rfl ?_
  obtain ⟨F17_, q18_⟩ : ∃ Fq_, Fq_ = (fl_u F 344 0 0) := ⟨_, rfl⟩
  rw [← q18_]
  have g19_ : gi F17_ := by rw [q18_]; exact gi_u (hgi) rfl (by omega) (by omega)
  have g20_ : fs [(344, 344, 0, 0)] F F17_ := by rw [q18_]; exact fs_u (fs_refl) rfl
  refine gr_i (z := F 344 58) hm_67 rfl rfl rfl ?_
  have e21_ : F17_ 344 0 = 0 := by rw [q18_]; exact fl_u_eq
  have e22_ : F17_ 344 13 = F 344 13 := by rw [q18_]; exact fl_u_ne (by first | exact nc_ rfl | decide | omega)
  have e23_ : F17_ 344 58 = F 344 58 := by rw [q18_]; exact fl_u_ne (by first | exact nc_ rfl | decide | omega)
  exact ⟨F17_, rfl, g19_, g20_, (⟨by omega, by omega⟩), (by have h9_ : 0 ≤ F 344 13 ∧ F 344 13 ≤ 1 := gi_g hgi rfl; first | exact Or.inl ⟨by omega, by omega⟩ | exact Or.inr ⟨by omega, by omega, by omega⟩)⟩
/- CheapPlannerModel.step -/
abbrev pq_68v (G : Nat → Nat → Option Nat) (F : fl_N) (X : xi_H) (k : Int) : Outcome → xi_H → Prop := gqi (fun z A => ∃ F' : fl_N, fl_H sh_T G F' ++ X = A ∧ gi F' ∧ fs [(344, 344, 0, 0)] F F' ∧ (-2147483648 ≤ z ∧ z ≤ 2147483647) ∧ ((F' 344 0 = 1 ∧ ¬ (F 344 13 = 1 ∧ 0 ≤ k ∧ k < F 344 58)) ∨ (F' 344 0 = 0 ∧ (F 344 13 = 1 ∧ 0 ≤ k ∧ k < F 344 58) ∧ z = F 381 k.toNat))) gqn
theorem mc_68v {G : Nat → Nat → Option Nat} (hG : gg G) (F : fl_N) (X : xi_H) (hgi : gi F) (k : Int) (hk : -2147483648 ≤ k ∧ k ≤ 2147483647) : fl_M xi_ms 68 0 0 [.ref 344, .int (Int32.ofInt k)] (fl_H sh_T G F ++ X) (pq_68v G F X k) := by
  intro fr lo hfr hlo
  show fl_R xi_ms 68 fr lo 0 [(0, .ref 344), (1, .int (Int32.ofInt k))] [] _ _
  refine ga_aload_n (v := .ref 344) hm_68 rfl rfl rfl ?_
  refine ga_aload_n (v := .ref 344) hm_68 rfl rfl rfl ?_
  have b1_ : 0 ≤ F 344 13 ∧ F 344 13 ≤ 1 := gi_g hgi rfl
  refine ga_geti (z := F 344 13) hm_68 rfl sc_344 rfl (rfl) ?_
  refine fl_if_eq (a := F 344 13) hm_68 rfl ⟨by omega, by omega⟩ (fun h2_ => ?_) (fun h3_ => ?_)
  ·
    refine fl_iconst hm_68 rfl ?_
    refine fl_goto hm_68 rfl ?_
    refine ga_puti (z := 1) hm_68 rfl sc_344 rfl rfl ?_
    refine ga_aload_n (v := .ref 344) hm_68 rfl rfl rfl ?_
    refine ga_geti (z := 1) hm_68 rfl sc_344 rfl (fl_u_eq) ?_
    refine fl_if_le hm_68 rfl ⟨by omega, by omega⟩ (fun h => absurd h (by omega)) (fun _ => ?_)
    refine fl_iconst hm_68 rfl ?_
    refine fl_goto hm_68 rfl ?_
    obtain ⟨F4_, q5_⟩ : ∃ Fq_, Fq_ = (fl_u F 344 0 1) := ⟨_, rfl⟩
    rw [← q5_]
    have g6_ : gi F4_ := by rw [q5_]; exact gi_u (hgi) rfl (by omega) (by omega)
    have g7_ : fs [(344, 344, 0, 0)] F F4_ := by rw [q5_]; exact fs_u (fs_refl) rfl
    refine gr_i (z := 0) hm_68 rfl rfl rfl ?_
    have e8_ : F4_ 344 0 = 1 := by rw [q5_]; exact fl_u_eq
    have b9_ : 0 ≤ F 344 58 ∧ F 344 58 ≤ 200 := gi_g hgi rfl
    have e10_ : F4_ 344 13 = F 344 13 := by rw [q5_]; exact fl_u_ne (by first | exact nc_ rfl | decide | omega)
    have e11_ : F4_ 344 58 = F 344 58 := by rw [q5_]; exact fl_u_ne (by first | exact nc_ rfl | decide | omega)
    have e12_ : F4_ 381 k.toNat = F 381 k.toNat := by rw [q5_]; exact fl_u_ne (by first | exact nc_ rfl | decide | omega)
    exact ⟨F4_, rfl, g6_, g7_, (⟨by omega, by omega⟩), (by have h9_ : 0 ≤ F 344 13 ∧ F 344 13 ≤ 1 := gi_g hgi rfl; first | exact Or.inl ⟨by omega, by omega⟩ | exact Or.inr ⟨by omega, ⟨by omega, by omega, by omega⟩, by omega⟩)⟩
  refine ga_iload_n (z := k) hm_68 rfl rfl ?_
  refine fl_if_lt (a := k) hm_68 rfl ⟨by omega, by omega⟩ (fun h13_ => ?_) (fun h14_ => ?_)
  ·
    refine fl_iconst hm_68 rfl ?_
    refine fl_goto hm_68 rfl ?_
    refine ga_puti (z := 1) hm_68 rfl sc_344 rfl rfl ?_
    refine ga_aload_n (v := .ref 344) hm_68 rfl rfl rfl ?_
    refine ga_geti (z := 1) hm_68 rfl sc_344 rfl (fl_u_eq) ?_
    refine fl_if_le hm_68 rfl ⟨by omega, by omega⟩ (fun h => absurd h (by omega)) (fun _ => ?_)
    refine fl_iconst hm_68 rfl ?_
    refine fl_goto hm_68 rfl ?_
    obtain ⟨F15_, q16_⟩ : ∃ Fq_, Fq_ = (fl_u F 344 0 1) := ⟨_, rfl⟩
    rw [← q16_]
    have g17_ : gi F15_ := by rw [q16_]; exact gi_u (hgi) rfl (by omega) (by omega)
    have g18_ : fs [(344, 344, 0, 0)] F F15_ := by rw [q16_]; exact fs_u (fs_refl) rfl
    refine gr_i (z := 0) hm_68 rfl rfl rfl ?_
    have e19_ : F15_ 344 0 = 1 := by rw [q16_]; exact fl_u_eq
    have b20_ : 0 ≤ F 344 58 ∧ F 344 58 ≤ 200 := gi_g hgi rfl
    have e21_ : F15_ 344 13 = F 344 13 := by rw [q16_]; exact fl_u_ne (by first | exact nc_ rfl | decide | omega)
    have e22_ : F15_ 344 58 = F 344 58 := by rw [q16_]; exact fl_u_ne (by first | exact nc_ rfl | decide | omega)
    have e23_ : F15_ 381 k.toNat = F 381 k.toNat := by rw [q16_]; exact fl_u_ne (by first | exact nc_ rfl | decide | omega)
    exact ⟨F15_, rfl, g17_, g18_, (⟨by omega, by omega⟩), (by have h9_ : 0 ≤ F 344 13 ∧ F 344 13 ≤ 1 := gi_g hgi rfl; first | exact Or.inl ⟨by omega, by omega⟩ | exact Or.inr ⟨by omega, ⟨by omega, by omega, by omega⟩, by omega⟩)⟩
  refine ga_iload_n (z := k) hm_68 rfl rfl ?_
  refine ga_aload_n (v := .ref 344) hm_68 rfl rfl rfl ?_
  have b24_ : 0 ≤ F 344 58 ∧ F 344 58 ≤ 200 := gi_g hgi rfl
  refine ga_geti (z := F 344 58) hm_68 rfl sc_344 rfl (rfl) ?_
  refine fl_icmp_lt (a := k) (b := F 344 58) hm_68 rfl ⟨by omega, by omega⟩ ⟨by omega, by omega⟩ (fun h25_ => ?_) (fun h26_ => ?_)
  ·
    refine fl_iconst hm_68 rfl ?_
    refine ga_puti (z := 0) hm_68 rfl sc_344 rfl rfl ?_
    refine ga_aload_n (v := .ref 344) hm_68 rfl rfl rfl ?_
    refine ga_geti (z := 0) hm_68 rfl sc_344 rfl (fl_u_eq) ?_
    refine fl_if_le hm_68 rfl ⟨by omega, by omega⟩ (fun _ => ?_) (fun h => absurd (by omega) h)
    refine ga_aload_n (v := .ref 344) hm_68 rfl rfl rfl ?_
    refine ga_getr (b := 381) hm_68 rfl sc_344 rfl ?_
    refine ga_iload_n (z := k) hm_68 rfl rfl ?_
    have b27_ : 0 ≤ F 381 k.toNat ∧ F 381 k.toNat ≤ 39 := gi_g hgi rfl
    refine ga_iald (z := k) (w := F 381 k.toNat) hm_68 rfl sc_381 (by omega) (by omega) (by omega) (fl_u_ne (by first | exact nc_ rfl | decide | omega)) ?_
    obtain ⟨F28_, q29_⟩ : ∃ Fq_, Fq_ = (fl_u F 344 0 0) := ⟨_, rfl⟩
    rw [← q29_]
    have g30_ : gi F28_ := by rw [q29_]; exact gi_u (hgi) rfl (by omega) (by omega)
    have g31_ : fs [(344, 344, 0, 0)] F F28_ := by rw [q29_]; exact fs_u (fs_refl) rfl
    refine gr_i (z := F 381 k.toNat) hm_68 rfl rfl rfl ?_
    have e32_ : F28_ 344 0 = 0 := by rw [q29_]; exact fl_u_eq
    have e33_ : F28_ 344 13 = F 344 13 := by rw [q29_]; exact fl_u_ne (by first | exact nc_ rfl | decide | omega)
    have e34_ : F28_ 344 58 = F 344 58 := by rw [q29_]; exact fl_u_ne (by first | exact nc_ rfl | decide | omega)
    have e35_ : F28_ 381 k.toNat = F 381 k.toNat := by rw [q29_]; exact fl_u_ne (by first | exact nc_ rfl | decide | omega)
    exact ⟨F28_, rfl, g30_, g31_, (⟨by omega, by omega⟩), (by have h9_ : 0 ≤ F 344 13 ∧ F 344 13 ≤ 1 := gi_g hgi rfl; first | exact Or.inl ⟨by omega, by omega⟩ | exact Or.inr ⟨by omega, ⟨by omega, by omega, by omega⟩, by omega⟩)⟩
  refine fl_iconst hm_68 rfl ?_
  refine fl_goto hm_68 rfl ?_
  refine ga_puti (z := 1) hm_68 rfl sc_344 rfl rfl ?_
  refine ga_aload_n (v := .ref 344) hm_68 rfl rfl rfl ?_
  refine ga_geti (z := 1) hm_68 rfl sc_344 rfl (fl_u_eq) ?_
  refine fl_if_le hm_68 rfl ⟨by omega, by omega⟩ (fun h => absurd h (by omega)) (fun _ => ?_)
  refine fl_iconst hm_68 rfl ?_
  refine fl_goto hm_68 rfl ?_
  obtain ⟨F36_, q37_⟩ : ∃ Fq_, Fq_ = (fl_u F 344 0 1) := ⟨_, rfl⟩
  rw [← q37_]
  have g38_ : gi F36_ := by rw [q37_]; exact gi_u (hgi) rfl (by omega) (by omega)
  have g39_ : fs [(344, 344, 0, 0)] F F36_ := by rw [q37_]; exact fs_u (fs_refl) rfl
  refine gr_i (z := 0) hm_68 rfl rfl rfl ?_
  have e40_ : F36_ 344 0 = 1 := by rw [q37_]; exact fl_u_eq
  have e41_ : F36_ 344 13 = F 344 13 := by rw [q37_]; exact fl_u_ne (by first | exact nc_ rfl | decide | omega)
  have e42_ : F36_ 344 58 = F 344 58 := by rw [q37_]; exact fl_u_ne (by first | exact nc_ rfl | decide | omega)
  have e43_ : F36_ 381 k.toNat = F 381 k.toNat := by rw [q37_]; exact fl_u_ne (by first | exact nc_ rfl | decide | omega)
  exact ⟨F36_, rfl, g38_, g39_, (⟨by omega, by omega⟩), (by have h9_ : 0 ≤ F 344 13 ∧ F 344 13 ≤ 1 := gi_g hgi rfl; first | exact Or.inl ⟨by omega, by omega⟩ | exact Or.inr ⟨by omega, ⟨by omega, by omega, by omega⟩, by omega⟩)⟩
/- CheapPlanner.letter -/
abbrev pq_9v (G : Nat → Nat → Option Nat) (F : fl_N) (X : xi_H) (k : Int) : Outcome → xi_H → Prop := gqi (fun z A => ∃ F' : fl_N, fl_H sh_T G F' ++ X = A ∧ gi F' ∧ fs [] F F' ∧ (0 ≤ z ∧ z ≤ 65535) ∧ ((0 ≤ k ∧ k < F 0 12) ∧ z = F 343 k.toNat)) (fun j A => ∃ (F' : fl_N) (ci : Nat), (ci = 18) ∧ (387 + X.length = j ∧ fl_H sh_T G F' ++ (X ++ [gx ci]) = A) ∧ gi F' ∧ fs [] F F' ∧ (¬ (0 ≤ k ∧ k < F 0 12)))
theorem mc_9v {G : Nat → Nat → Option Nat} (hG : gg G) (F : fl_N) (X : xi_H) (hgi : gi F) (k : Int) (hk : -2147483648 ≤ k ∧ k ≤ 2147483647) : fl_M xi_ms 9 6 100 [.ref 0, .int (Int32.ofInt k)] (fl_H sh_T G F ++ X) (pq_9v G F X k) := by
  intro fr lo hfr hlo
  show fl_R xi_ms 9 fr lo 0 [(0, .ref 0), (1, .int (Int32.ofInt k))] [] _ _
  refine ga_iload_n (z := k) hm_9 rfl rfl ?_
  refine fl_if_lt (a := k) hm_9 rfl ⟨by omega, by omega⟩ (fun h1_ => ?_) (fun h2_ => ?_)
  ·
    refine fl_thr hm_9 rfl rfl (by omega) (by omega) (Nat.le_of_ble_eq_true rfl) (fl_pos sc_0) ?_
    refine gw_i ?_
    have b3_ : 0 ≤ F 0 12 ∧ F 0 12 ≤ 6000 := gi_g hgi rfl
    exact ⟨F, 18, (rfl), ⟨ga_len.symm, (List.append_assoc _ _ _).symm⟩, hgi, fs_refl, (by omega)⟩
  refine ga_iload_n (z := k) hm_9 rfl rfl ?_
  refine ga_aload_n (v := .ref 0) hm_9 rfl rfl rfl ?_
  have b4_ : 0 ≤ F 0 12 ∧ F 0 12 ≤ 6000 := gi_g hgi rfl
  refine ga_geti (z := F 0 12) hm_9 rfl sc_0 rfl (rfl) ?_
  refine fl_icmp_lt (a := k) (b := F 0 12) hm_9 rfl ⟨by omega, by omega⟩ ⟨by omega, by omega⟩ (fun h5_ => ?_) (fun h6_ => ?_)
  ·
    refine ga_aload_n (v := .ref 0) hm_9 rfl rfl rfl ?_
    refine ga_getr (b := 343) hm_9 rfl sc_0 rfl ?_
    refine ga_iload_n (z := k) hm_9 rfl rfl ?_
    have b7_ : 0 ≤ F 343 k.toNat ∧ F 343 k.toNat ≤ 65535 := gi_g hgi rfl
    refine ga_cald (z := k) (w := F 343 k.toNat) hm_9 rfl sc_343 (by omega) (by omega) (by omega) (rfl) ?_
    refine gr_i (z := F 343 k.toNat) hm_9 rfl rfl (ga_nc (by omega) (by omega)) ?_
    exact ⟨F, rfl, hgi, fs_refl, (⟨by omega, by omega⟩), (⟨⟨by omega, by omega⟩, by first | rfl | omega⟩)⟩
  refine fl_thr hm_9 rfl rfl (by omega) (by omega) (Nat.le_of_ble_eq_true rfl) (fl_pos sc_0) ?_
  refine gw_i ?_
  exact ⟨F, 18, (rfl), ⟨ga_len.symm, (List.append_assoc _ _ _).symm⟩, hgi, fs_refl, (by omega)⟩
/- CheapPlannerModel.letter -/
abbrev pq_70v (G : Nat → Nat → Option Nat) (F : fl_N) (X : xi_H) (i : Int) : Outcome → xi_H → Prop := gqi (fun z A => ∃ F' : fl_N, fl_H sh_T G F' ++ X = A ∧ gi F' ∧ fs [(344, 344, 0, 0), (344, 344, 67, 69)] F F' ∧ (0 ≤ z ∧ z ≤ 65535) ∧ (0 ≤ F' 344 69 ∧ F' 344 69 ≤ 65535) ∧ ((F' 344 0 = 1 ∧ ¬ (F 344 13 = 1 ∧ 0 ≤ i ∧ i < ((qTx F (F 344 58).toNat).length : Int))) ∨ (F' 344 0 = 0 ∧ (F 344 13 = 1 ∧ 0 ≤ i ∧ i < ((qTx F (F 344 58).toNat).length : Int)) ∧ (qTx F (F 344 58).toNat)[i.toNat]? = some z))) gqn
theorem mc_70v {G : Nat → Nat → Option Nat} (hG : gg G) (F : fl_N) (X : xi_H) (hgi : gi F) (i : Int) (hi : -2147483648 ≤ i ∧ i ≤ 2147483647) (hpl : pli F) (hfo : 0 ≤ F 344 69 ∧ F 344 69 ≤ 65535) (hnr : F 344 13 = 1 → ∀ j : Nat, (j : Int) < F 344 58 → rNm F (F 381 j).toNat) : fl_M xi_ms 70 2 48 [.ref 344, .int (Int32.ofInt i)] (fl_H sh_T G F ++ X) (pq_70v G F X i) := by
  intro fr lo hfr hlo
  show fl_R xi_ms 70 fr lo 0 [(0, .ref 344), (1, .int (Int32.ofInt i))] [] _ _
  have hb13 : 0 ≤ F 344 13 ∧ F 344 13 ≤ 1 := gi_g hgi rfl
  have hb58 : 0 ≤ F 344 58 ∧ F 344 58 ≤ 200 := gi_g hgi rfl
  have h354_ : ∀ a, (F 354 a).toNat ≤ 3 := fun a => by have h9_ : 0 ≤ F 354 a ∧ F 354 a ≤ 3 := gi_g hgi rfl; omega
  refine ga_aload_n (v := .ref 344) hm_70 rfl rfl rfl ?_
  refine fl_iconst hm_70 rfl ?_
  refine ga_puti (z := 0) hm_70 rfl sc_344 rfl rfl ?_
  refine ga_aload_n (v := .ref 344) hm_70 rfl rfl rfl ?_
  refine ga_iload_n (z := i) hm_70 rfl rfl ?_
  refine ga_puti (z := i) hm_70 rfl sc_344 rfl rfl ?_
  refine fl_iconst hm_70 rfl ?_
  refine ga_istore_n (lv2 := [(2, .int (Int32.ofInt 0)), (0, .ref 344), (1, .int (Int32.ofInt i))]) hm_70 rfl (Nat.le_of_ble_eq_true rfl) rfl ?_
  obtain ⟨F1_, q2_⟩ : ∃ Fq_, Fq_ = (fl_u (fl_u F 344 67 0) 344 68 i) := ⟨_, rfl⟩
  rw [← q2_]
  have g3_ : gi F1_ := by rw [q2_]; exact gi_u (gi_u (hgi) rfl (by omega) (by omega)) rfl (by omega) (by omega)
  have g4_ : fs [(344, 344, 0, 0), (344, 344, 67, 69)] F F1_ := by rw [q2_]; exact fs_u (fs_u (fs_refl) rfl) rfl
  have L6_ : ∀ (n5_ : Nat) (k : Int) (F1 : fl_N), (200 - k : Int).toNat = n5_ → (gi F1) → (fs [(344, 344, 67, 67), (344, 344, 69, 69)] F1_ F1) → (0 ≤ k ∧ k ≤ 200 ∧ k ≤ F 344 58) → (0 ≤ F1 344 69 ∧ F1 344 69 ≤ 65535) → (tdr F1 i (qTx F k.toNat)) → fl_R xi_ms 70 fr lo 12 [(2, .int (Int32.ofInt k)), (0, .ref 344), (1, .int (Int32.ofInt i))] [] (fl_H sh_T G F1 ++ X) (pq_70v G F X i) := by
    intro n5_
    induction n5_ using Nat.strongRecOn with
    | ind n5_ ih7_ =>
    intro k F1 hn8_ hg_F1 hf_F1 hk ho1 ht1
    have g9_ : fs [(344, 344, 0, 0), (344, 344, 67, 69)] F F1 := fs_tr g4_ hf_F1 rfl
    refine ga_iload_n (z := k) hm_70 rfl rfl ?_
    refine ga_aload_n (v := .ref 344) hm_70 rfl rfl rfl ?_
    have e10_ : F1_ 344 58 = F 344 58 := by rw [q2_]; exact (fl_u_ne (by first | exact nc_ rfl | decide | omega)).trans (fl_u_ne (by first | exact nc_ rfl | decide | omega))
    have e11_ : F1 344 58 = F 344 58 := (hf_F1 344 58 rfl).trans (e10_)
    have b12_ : 0 ≤ F 344 58 ∧ F 344 58 ≤ 200 := gi_g hgi rfl
    refine ga_geti (z := F 344 58) hm_70 rfl sc_344 rfl (e11_) ?_
    refine fl_icmp_ge (a := k) (b := F 344 58) hm_70 rfl ⟨by omega, by omega⟩ ⟨by omega, by omega⟩ (fun h13_ => ?_) (fun h14_ => ?_)
    ·
      refine ga_aload_n (v := .ref 344) hm_70 rfl rfl rfl ?_
      refine ga_iload_n (z := i) hm_70 rfl rfl ?_
      refine fl_if_lt (a := i) hm_70 rfl ⟨by omega, by omega⟩ (fun h15_ => ?_) (fun h16_ => ?_)
      ·
        refine fl_iconst hm_70 rfl ?_
        refine fl_goto hm_70 rfl ?_
        refine ga_puti (z := 1) hm_70 rfl sc_344 rfl rfl ?_
        refine ga_aload_n (v := .ref 344) hm_70 rfl rfl rfl ?_
        refine ga_geti (z := 1) hm_70 rfl sc_344 rfl (fl_u_eq) ?_
        refine fl_if_le hm_70 rfl ⟨by omega, by omega⟩ (fun h => absurd h (by omega)) (fun _ => ?_)
        refine fl_iconst hm_70 rfl ?_
        refine fl_goto hm_70 rfl ?_
        obtain ⟨F17_, q18_⟩ : ∃ Fq_, Fq_ = (fl_u F1 344 0 1) := ⟨_, rfl⟩
        rw [← q18_]
        have g19_ : gi F17_ := by rw [q18_]; exact gi_u (hg_F1) rfl (by omega) (by omega)
        have g20_ : fs [(344, 344, 0, 0), (344, 344, 67, 69)] F F17_ := by rw [q18_]; exact fs_u (g9_) rfl
        refine gr_i (z := 0) hm_70 rfl rfl (ga_nc (by omega) (by omega)) ?_
        have e21_ : F17_ 344 69 = F1 344 69 := by rw [q18_]; exact fl_u_ne (by first | exact nc_ rfl | decide | omega)
        have b22_ : -2147483648 ≤ F1 344 69 ∧ F1 344 69 ≤ 2147483647 := gi_g hg_F1 rfl
        have e23_ : F17_ 344 0 = 1 := by rw [q18_]; exact fl_u_eq
        have b24_ : 0 ≤ F 344 13 ∧ F 344 13 ≤ 1 := gi_g hgi rfl
        have e25_ : F1_ 344 0 = F 344 0 := by rw [q2_]; exact (fl_u_ne (by first | exact nc_ rfl | decide | omega)).trans (fl_u_ne (by first | exact nc_ rfl | decide | omega))
        have e26_ : F1 344 0 = F 344 0 := (hf_F1 344 0 rfl).trans (e25_)
        have e27_ : F1_ 344 13 = F 344 13 := by rw [q2_]; exact (fl_u_ne (by first | exact nc_ rfl | decide | omega)).trans (fl_u_ne (by first | exact nc_ rfl | decide | omega))
        have e28_ : F1 344 13 = F 344 13 := (hf_F1 344 13 rfl).trans (e27_)
        have e29_ : F17_ 344 13 = F 344 13 := by rw [q18_]; exact (fl_u_ne (by first | exact nc_ rfl | decide | omega)).trans (e28_)
        have e30_ : F17_ 344 58 = F 344 58 := by rw [q18_]; exact (fl_u_ne (by first | exact nc_ rfl | decide | omega)).trans (e11_)
        have e31_ : F17_ 344 67 = F1 344 67 := by rw [q18_]; exact fl_u_ne (by first | exact nc_ rfl | decide | omega)
        exact ⟨F17_, rfl, g19_, g20_, (⟨by omega, by omega⟩), (⟨by omega, by omega⟩), (by have h7_ := ht1.1; have h6_ : F 344 13 = 1 → qTx F k.toNat = (qTx F (F 344 58).toNat) := (fun h9_ => by rw [show k.toNat = (F 344 58).toNat by omega]); first | exact Or.inl ⟨by omega, by rintro ⟨h9_, h8_, h5_⟩; rw [← h6_ h9_] at h5_; omega⟩ | (refine Or.inr ⟨by omega, ?_⟩; have h9_ : F 344 13 = 1 := (by omega); rw [← h6_ h9_]; exact ⟨⟨h9_, by omega, by omega⟩, tdr_at ht1 (by omega) (by omega)⟩))⟩
      refine ga_iload_n (z := i) hm_70 rfl rfl ?_
      refine ga_aload_n (v := .ref 344) hm_70 rfl rfl rfl ?_
      have b32_ : -2147483648 ≤ F1 344 67 ∧ F1 344 67 ≤ 2147483647 := gi_g hg_F1 rfl
      refine ga_geti (z := F1 344 67) hm_70 rfl sc_344 rfl (rfl) ?_
      refine fl_icmp_ge (a := i) (b := F1 344 67) hm_70 rfl ⟨by omega, by omega⟩ ⟨by omega, by omega⟩ (fun h33_ => ?_) (fun h34_ => ?_)
      ·
        refine fl_iconst hm_70 rfl ?_
        refine fl_goto hm_70 rfl ?_
        refine ga_puti (z := 1) hm_70 rfl sc_344 rfl rfl ?_
        refine ga_aload_n (v := .ref 344) hm_70 rfl rfl rfl ?_
        refine ga_geti (z := 1) hm_70 rfl sc_344 rfl (fl_u_eq) ?_
        refine fl_if_le hm_70 rfl ⟨by omega, by omega⟩ (fun h => absurd h (by omega)) (fun _ => ?_)
        refine fl_iconst hm_70 rfl ?_
        refine fl_goto hm_70 rfl ?_
        obtain ⟨F35_, q36_⟩ : ∃ Fq_, Fq_ = (fl_u F1 344 0 1) := ⟨_, rfl⟩
        rw [← q36_]
        have g37_ : gi F35_ := by rw [q36_]; exact gi_u (hg_F1) rfl (by omega) (by omega)
        have g38_ : fs [(344, 344, 0, 0), (344, 344, 67, 69)] F F35_ := by rw [q36_]; exact fs_u (g9_) rfl
        refine gr_i (z := 0) hm_70 rfl rfl (ga_nc (by omega) (by omega)) ?_
        have e39_ : F35_ 344 69 = F1 344 69 := by rw [q36_]; exact fl_u_ne (by first | exact nc_ rfl | decide | omega)
        have b40_ : -2147483648 ≤ F1 344 69 ∧ F1 344 69 ≤ 2147483647 := gi_g hg_F1 rfl
        have e41_ : F35_ 344 0 = 1 := by rw [q36_]; exact fl_u_eq
        have b42_ : 0 ≤ F 344 13 ∧ F 344 13 ≤ 1 := gi_g hgi rfl
        have e43_ : F1_ 344 0 = F 344 0 := by rw [q2_]; exact (fl_u_ne (by first | exact nc_ rfl | decide | omega)).trans (fl_u_ne (by first | exact nc_ rfl | decide | omega))
        have e44_ : F1 344 0 = F 344 0 := (hf_F1 344 0 rfl).trans (e43_)
        have e45_ : F1_ 344 13 = F 344 13 := by rw [q2_]; exact (fl_u_ne (by first | exact nc_ rfl | decide | omega)).trans (fl_u_ne (by first | exact nc_ rfl | decide | omega))
        have e46_ : F1 344 13 = F 344 13 := (hf_F1 344 13 rfl).trans (e45_)
        have e47_ : F35_ 344 13 = F 344 13 := by rw [q36_]; exact (fl_u_ne (by first | exact nc_ rfl | decide | omega)).trans (e46_)
        have e48_ : F35_ 344 58 = F 344 58 := by rw [q36_]; exact (fl_u_ne (by first | exact nc_ rfl | decide | omega)).trans (e11_)
        have e49_ : F35_ 344 67 = F1 344 67 := by rw [q36_]; exact fl_u_ne (by first | exact nc_ rfl | decide | omega)
        exact ⟨F35_, rfl, g37_, g38_, (⟨by omega, by omega⟩), (⟨by omega, by omega⟩), (by have h7_ := ht1.1; have h6_ : F 344 13 = 1 → qTx F k.toNat = (qTx F (F 344 58).toNat) := (fun h9_ => by rw [show k.toNat = (F 344 58).toNat by omega]); first | exact Or.inl ⟨by omega, by rintro ⟨h9_, h8_, h5_⟩; rw [← h6_ h9_] at h5_; omega⟩ | (refine Or.inr ⟨by omega, ?_⟩; have h9_ : F 344 13 = 1 := (by omega); rw [← h6_ h9_]; exact ⟨⟨h9_, by omega, by omega⟩, tdr_at ht1 (by omega) (by omega)⟩))⟩
      refine ga_aload_n (v := .ref 344) hm_70 rfl rfl rfl ?_
      have e50_ : F1_ 344 13 = F 344 13 := by rw [q2_]; exact (fl_u_ne (by first | exact nc_ rfl | decide | omega)).trans (fl_u_ne (by first | exact nc_ rfl | decide | omega))
      have e51_ : F1 344 13 = F 344 13 := (hf_F1 344 13 rfl).trans (e50_)
      have b52_ : 0 ≤ F 344 13 ∧ F 344 13 ≤ 1 := gi_g hgi rfl
      refine ga_geti (z := F 344 13) hm_70 rfl sc_344 rfl (e51_) ?_
      refine fx_if_ne (a := F 344 13) hm_70 rfl ⟨by omega, by omega⟩ (fun h53_ => ?_) (fun h54_ => ?_)
      ·
        refine fl_iconst hm_70 rfl ?_
        refine ga_puti (z := 0) hm_70 rfl sc_344 rfl rfl ?_
        refine ga_aload_n (v := .ref 344) hm_70 rfl rfl rfl ?_
        refine ga_geti (z := 0) hm_70 rfl sc_344 rfl (fl_u_eq) ?_
        refine fl_if_le hm_70 rfl ⟨by omega, by omega⟩ (fun _ => ?_) (fun h => absurd (by omega) h)
        refine ga_aload_n (v := .ref 344) hm_70 rfl rfl rfl ?_
        have b55_ : -2147483648 ≤ F1 344 69 ∧ F1 344 69 ≤ 2147483647 := gi_g hg_F1 rfl
        refine ga_geti (z := F1 344 69) hm_70 rfl sc_344 rfl (fl_u_ne (by first | exact nc_ rfl | decide | omega)) ?_
        refine ga_i2c hm_70 rfl (by omega) (by omega) ?_
        obtain ⟨F56_, q57_⟩ : ∃ Fq_, Fq_ = (fl_u F1 344 0 0) := ⟨_, rfl⟩
        rw [← q57_]
        have g58_ : gi F56_ := by rw [q57_]; exact gi_u (hg_F1) rfl (by omega) (by omega)
        have g59_ : fs [(344, 344, 0, 0), (344, 344, 67, 69)] F F56_ := by rw [q57_]; exact fs_u (g9_) rfl
        refine gr_i (z := F1 344 69) hm_70 rfl rfl (ga_nc (by omega) (by omega)) ?_
        have e60_ : F56_ 344 69 = F1 344 69 := by rw [q57_]; exact fl_u_ne (by first | exact nc_ rfl | decide | omega)
        have e61_ : F56_ 344 0 = 0 := by rw [q57_]; exact fl_u_eq
        have e62_ : F1_ 344 0 = F 344 0 := by rw [q2_]; exact (fl_u_ne (by first | exact nc_ rfl | decide | omega)).trans (fl_u_ne (by first | exact nc_ rfl | decide | omega))
        have e63_ : F1 344 0 = F 344 0 := (hf_F1 344 0 rfl).trans (e62_)
        have e64_ : F56_ 344 13 = F 344 13 := by rw [q57_]; exact (fl_u_ne (by first | exact nc_ rfl | decide | omega)).trans (e51_)
        have e65_ : F56_ 344 58 = F 344 58 := by rw [q57_]; exact (fl_u_ne (by first | exact nc_ rfl | decide | omega)).trans (e11_)
        have e66_ : F56_ 344 67 = F1 344 67 := by rw [q57_]; exact fl_u_ne (by first | exact nc_ rfl | decide | omega)
        exact ⟨F56_, rfl, g58_, g59_, (⟨by omega, by omega⟩), (⟨by omega, by omega⟩), (by have h7_ := ht1.1; have h6_ : F 344 13 = 1 → qTx F k.toNat = (qTx F (F 344 58).toNat) := (fun h9_ => by rw [show k.toNat = (F 344 58).toNat by omega]); first | exact Or.inl ⟨by omega, by rintro ⟨h9_, h8_, h5_⟩; rw [← h6_ h9_] at h5_; omega⟩ | (refine Or.inr ⟨by omega, ?_⟩; have h9_ : F 344 13 = 1 := (by omega); rw [← h6_ h9_]; exact ⟨⟨h9_, by omega, by omega⟩, tdr_at ht1 (by omega) (by omega)⟩))⟩
      refine fl_iconst hm_70 rfl ?_
      refine fl_goto hm_70 rfl ?_
      refine ga_puti (z := 1) hm_70 rfl sc_344 rfl rfl ?_
      refine ga_aload_n (v := .ref 344) hm_70 rfl rfl rfl ?_
      refine ga_geti (z := 1) hm_70 rfl sc_344 rfl (fl_u_eq) ?_
      refine fl_if_le hm_70 rfl ⟨by omega, by omega⟩ (fun h => absurd h (by omega)) (fun _ => ?_)
      refine fl_iconst hm_70 rfl ?_
      refine fl_goto hm_70 rfl ?_
      obtain ⟨F67_, q68_⟩ : ∃ Fq_, Fq_ = (fl_u F1 344 0 1) := ⟨_, rfl⟩
      rw [← q68_]
      have g69_ : gi F67_ := by rw [q68_]; exact gi_u (hg_F1) rfl (by omega) (by omega)
      have g70_ : fs [(344, 344, 0, 0), (344, 344, 67, 69)] F F67_ := by rw [q68_]; exact fs_u (g9_) rfl
      refine gr_i (z := 0) hm_70 rfl rfl (ga_nc (by omega) (by omega)) ?_
      have e71_ : F67_ 344 69 = F1 344 69 := by rw [q68_]; exact fl_u_ne (by first | exact nc_ rfl | decide | omega)
      have b72_ : -2147483648 ≤ F1 344 69 ∧ F1 344 69 ≤ 2147483647 := gi_g hg_F1 rfl
      have e73_ : F67_ 344 0 = 1 := by rw [q68_]; exact fl_u_eq
      have e74_ : F1_ 344 0 = F 344 0 := by rw [q2_]; exact (fl_u_ne (by first | exact nc_ rfl | decide | omega)).trans (fl_u_ne (by first | exact nc_ rfl | decide | omega))
      have e75_ : F1 344 0 = F 344 0 := (hf_F1 344 0 rfl).trans (e74_)
      have e76_ : F67_ 344 13 = F 344 13 := by rw [q68_]; exact (fl_u_ne (by first | exact nc_ rfl | decide | omega)).trans (e51_)
      have e77_ : F67_ 344 58 = F 344 58 := by rw [q68_]; exact (fl_u_ne (by first | exact nc_ rfl | decide | omega)).trans (e11_)
      have e78_ : F67_ 344 67 = F1 344 67 := by rw [q68_]; exact fl_u_ne (by first | exact nc_ rfl | decide | omega)
      exact ⟨F67_, rfl, g69_, g70_, (⟨by omega, by omega⟩), (⟨by omega, by omega⟩), (by have h7_ := ht1.1; have h6_ : F 344 13 = 1 → qTx F k.toNat = (qTx F (F 344 58).toNat) := (fun h9_ => by rw [show k.toNat = (F 344 58).toNat by omega]); first | exact Or.inl ⟨by omega, by rintro ⟨h9_, h8_, h5_⟩; rw [← h6_ h9_] at h5_; omega⟩ | (refine Or.inr ⟨by omega, ?_⟩; have h9_ : F 344 13 = 1 := (by omega); rw [← h6_ h9_]; exact ⟨⟨h9_, by omega, by omega⟩, tdr_at ht1 (by omega) (by omega)⟩))⟩
    refine ga_aload_n (v := .ref 344) hm_70 rfl rfl rfl ?_
    have e79_ : F1_ 344 13 = F 344 13 := by rw [q2_]; exact (fl_u_ne (by first | exact nc_ rfl | decide | omega)).trans (fl_u_ne (by first | exact nc_ rfl | decide | omega))
    have e80_ : F1 344 13 = F 344 13 := (hf_F1 344 13 rfl).trans (e79_)
    have b81_ : 0 ≤ F 344 13 ∧ F 344 13 ≤ 1 := gi_g hgi rfl
    refine ga_geti (z := F 344 13) hm_70 rfl sc_344 rfl (e80_) ?_
    refine fl_if_eq (a := F 344 13) hm_70 rfl ⟨by omega, by omega⟩ (fun h82_ => ?_) (fun h83_ => ?_)
    ·
      refine ga_aload_n (v := .ref 344) hm_70 rfl rfl rfl ?_
      refine ga_iload_n (z := i) hm_70 rfl rfl ?_
      refine fl_if_lt (a := i) hm_70 rfl ⟨by omega, by omega⟩ (fun h84_ => ?_) (fun h85_ => ?_)
      ·
        refine fl_iconst hm_70 rfl ?_
        refine fl_goto hm_70 rfl ?_
        refine ga_puti (z := 1) hm_70 rfl sc_344 rfl rfl ?_
        refine ga_aload_n (v := .ref 344) hm_70 rfl rfl rfl ?_
        refine ga_geti (z := 1) hm_70 rfl sc_344 rfl (fl_u_eq) ?_
        refine fl_if_le hm_70 rfl ⟨by omega, by omega⟩ (fun h => absurd h (by omega)) (fun _ => ?_)
        refine fl_iconst hm_70 rfl ?_
        refine fl_goto hm_70 rfl ?_
        obtain ⟨F86_, q87_⟩ : ∃ Fq_, Fq_ = (fl_u F1 344 0 1) := ⟨_, rfl⟩
        rw [← q87_]
        have g88_ : gi F86_ := by rw [q87_]; exact gi_u (hg_F1) rfl (by omega) (by omega)
        have g89_ : fs [(344, 344, 0, 0), (344, 344, 67, 69)] F F86_ := by rw [q87_]; exact fs_u (g9_) rfl
        refine gr_i (z := 0) hm_70 rfl rfl (ga_nc (by omega) (by omega)) ?_
        have e90_ : F86_ 344 69 = F1 344 69 := by rw [q87_]; exact fl_u_ne (by first | exact nc_ rfl | decide | omega)
        have b91_ : -2147483648 ≤ F1 344 69 ∧ F1 344 69 ≤ 2147483647 := gi_g hg_F1 rfl
        have e92_ : F86_ 344 0 = 1 := by rw [q87_]; exact fl_u_eq
        have e93_ : F1_ 344 0 = F 344 0 := by rw [q2_]; exact (fl_u_ne (by first | exact nc_ rfl | decide | omega)).trans (fl_u_ne (by first | exact nc_ rfl | decide | omega))
        have e94_ : F1 344 0 = F 344 0 := (hf_F1 344 0 rfl).trans (e93_)
        have e95_ : F86_ 344 13 = F 344 13 := by rw [q87_]; exact (fl_u_ne (by first | exact nc_ rfl | decide | omega)).trans (e80_)
        have e96_ : F86_ 344 58 = F 344 58 := by rw [q87_]; exact (fl_u_ne (by first | exact nc_ rfl | decide | omega)).trans (e11_)
        have e97_ : F86_ 344 67 = F1 344 67 := by rw [q87_]; exact fl_u_ne (by first | exact nc_ rfl | decide | omega)
        exact ⟨F86_, rfl, g88_, g89_, (⟨by omega, by omega⟩), (⟨by omega, by omega⟩), (by have h7_ := ht1.1; have h6_ : F 344 13 = 1 → qTx F k.toNat = (qTx F (F 344 58).toNat) := (fun h9_ => by rw [show k.toNat = (F 344 58).toNat by omega]); first | exact Or.inl ⟨by omega, by rintro ⟨h9_, h8_, h5_⟩; rw [← h6_ h9_] at h5_; omega⟩ | (refine Or.inr ⟨by omega, ?_⟩; have h9_ : F 344 13 = 1 := (by omega); rw [← h6_ h9_]; exact ⟨⟨h9_, by omega, by omega⟩, tdr_at ht1 (by omega) (by omega)⟩))⟩
      refine ga_iload_n (z := i) hm_70 rfl rfl ?_
      refine ga_aload_n (v := .ref 344) hm_70 rfl rfl rfl ?_
      have b98_ : -2147483648 ≤ F1 344 67 ∧ F1 344 67 ≤ 2147483647 := gi_g hg_F1 rfl
      refine ga_geti (z := F1 344 67) hm_70 rfl sc_344 rfl (rfl) ?_
      refine fl_icmp_ge (a := i) (b := F1 344 67) hm_70 rfl ⟨by omega, by omega⟩ ⟨by omega, by omega⟩ (fun h99_ => ?_) (fun h100_ => ?_)
      ·
        refine fl_iconst hm_70 rfl ?_
        refine fl_goto hm_70 rfl ?_
        refine ga_puti (z := 1) hm_70 rfl sc_344 rfl rfl ?_
        refine ga_aload_n (v := .ref 344) hm_70 rfl rfl rfl ?_
        refine ga_geti (z := 1) hm_70 rfl sc_344 rfl (fl_u_eq) ?_
        refine fl_if_le hm_70 rfl ⟨by omega, by omega⟩ (fun h => absurd h (by omega)) (fun _ => ?_)
        refine fl_iconst hm_70 rfl ?_
        refine fl_goto hm_70 rfl ?_
        obtain ⟨F101_, q102_⟩ : ∃ Fq_, Fq_ = (fl_u F1 344 0 1) := ⟨_, rfl⟩
        rw [← q102_]
        have g103_ : gi F101_ := by rw [q102_]; exact gi_u (hg_F1) rfl (by omega) (by omega)
        have g104_ : fs [(344, 344, 0, 0), (344, 344, 67, 69)] F F101_ := by rw [q102_]; exact fs_u (g9_) rfl
        refine gr_i (z := 0) hm_70 rfl rfl (ga_nc (by omega) (by omega)) ?_
        have e105_ : F101_ 344 69 = F1 344 69 := by rw [q102_]; exact fl_u_ne (by first | exact nc_ rfl | decide | omega)
        have b106_ : -2147483648 ≤ F1 344 69 ∧ F1 344 69 ≤ 2147483647 := gi_g hg_F1 rfl
        have e107_ : F101_ 344 0 = 1 := by rw [q102_]; exact fl_u_eq
        have e108_ : F1_ 344 0 = F 344 0 := by rw [q2_]; exact (fl_u_ne (by first | exact nc_ rfl | decide | omega)).trans (fl_u_ne (by first | exact nc_ rfl | decide | omega))
        have e109_ : F1 344 0 = F 344 0 := (hf_F1 344 0 rfl).trans (e108_)
        have e110_ : F101_ 344 13 = F 344 13 := by rw [q102_]; exact (fl_u_ne (by first | exact nc_ rfl | decide | omega)).trans (e80_)
        have e111_ : F101_ 344 58 = F 344 58 := by rw [q102_]; exact (fl_u_ne (by first | exact nc_ rfl | decide | omega)).trans (e11_)
        have e112_ : F101_ 344 67 = F1 344 67 := by rw [q102_]; exact fl_u_ne (by first | exact nc_ rfl | decide | omega)
        exact ⟨F101_, rfl, g103_, g104_, (⟨by omega, by omega⟩), (⟨by omega, by omega⟩), (by have h7_ := ht1.1; have h6_ : F 344 13 = 1 → qTx F k.toNat = (qTx F (F 344 58).toNat) := (fun h9_ => by rw [show k.toNat = (F 344 58).toNat by omega]); first | exact Or.inl ⟨by omega, by rintro ⟨h9_, h8_, h5_⟩; rw [← h6_ h9_] at h5_; omega⟩ | (refine Or.inr ⟨by omega, ?_⟩; have h9_ : F 344 13 = 1 := (by omega); rw [← h6_ h9_]; exact ⟨⟨h9_, by omega, by omega⟩, tdr_at ht1 (by omega) (by omega)⟩))⟩
      refine ga_aload_n (v := .ref 344) hm_70 rfl rfl rfl ?_
      refine ga_geti (z := F 344 13) hm_70 rfl sc_344 rfl (e80_) ?_
      refine fx_if_ne (a := F 344 13) hm_70 rfl ⟨by omega, by omega⟩ (fun h113_ => ?_) (fun h114_ => ?_)
      · exfalso; omega
      refine fl_iconst hm_70 rfl ?_
      refine fl_goto hm_70 rfl ?_
      refine ga_puti (z := 1) hm_70 rfl sc_344 rfl rfl ?_
      refine ga_aload_n (v := .ref 344) hm_70 rfl rfl rfl ?_
      refine ga_geti (z := 1) hm_70 rfl sc_344 rfl (fl_u_eq) ?_
      refine fl_if_le hm_70 rfl ⟨by omega, by omega⟩ (fun h => absurd h (by omega)) (fun _ => ?_)
      refine fl_iconst hm_70 rfl ?_
      refine fl_goto hm_70 rfl ?_
      obtain ⟨F115_, q116_⟩ : ∃ Fq_, Fq_ = (fl_u F1 344 0 1) := ⟨_, rfl⟩
      rw [← q116_]
      have g117_ : gi F115_ := by rw [q116_]; exact gi_u (hg_F1) rfl (by omega) (by omega)
      have g118_ : fs [(344, 344, 0, 0), (344, 344, 67, 69)] F F115_ := by rw [q116_]; exact fs_u (g9_) rfl
      refine gr_i (z := 0) hm_70 rfl rfl (ga_nc (by omega) (by omega)) ?_
      have e119_ : F115_ 344 69 = F1 344 69 := by rw [q116_]; exact fl_u_ne (by first | exact nc_ rfl | decide | omega)
      have b120_ : -2147483648 ≤ F1 344 69 ∧ F1 344 69 ≤ 2147483647 := gi_g hg_F1 rfl
      have e121_ : F115_ 344 0 = 1 := by rw [q116_]; exact fl_u_eq
      have e122_ : F1_ 344 0 = F 344 0 := by rw [q2_]; exact (fl_u_ne (by first | exact nc_ rfl | decide | omega)).trans (fl_u_ne (by first | exact nc_ rfl | decide | omega))
      have e123_ : F1 344 0 = F 344 0 := (hf_F1 344 0 rfl).trans (e122_)
      have e124_ : F115_ 344 13 = F 344 13 := by rw [q116_]; exact (fl_u_ne (by first | exact nc_ rfl | decide | omega)).trans (e80_)
      have e125_ : F115_ 344 58 = F 344 58 := by rw [q116_]; exact (fl_u_ne (by first | exact nc_ rfl | decide | omega)).trans (e11_)
      have e126_ : F115_ 344 67 = F1 344 67 := by rw [q116_]; exact fl_u_ne (by first | exact nc_ rfl | decide | omega)
      exact ⟨F115_, rfl, g117_, g118_, (⟨by omega, by omega⟩), (⟨by omega, by omega⟩), (by have h7_ := ht1.1; have h6_ : F 344 13 = 1 → qTx F k.toNat = (qTx F (F 344 58).toNat) := (fun h9_ => by rw [show k.toNat = (F 344 58).toNat by omega]); first | exact Or.inl ⟨by omega, by rintro ⟨h9_, h8_, h5_⟩; rw [← h6_ h9_] at h5_; omega⟩ | (refine Or.inr ⟨by omega, ?_⟩; have h9_ : F 344 13 = 1 := (by omega); rw [← h6_ h9_]; exact ⟨⟨h9_, by omega, by omega⟩, tdr_at ht1 (by omega) (by omega)⟩))⟩
    refine ga_aload_n (v := .ref 344) hm_70 rfl rfl rfl ?_
    refine ga_getr (b := 381) hm_70 rfl sc_344 rfl ?_
    refine ga_iload_n (z := k) hm_70 rfl rfl ?_
    have e127_ : F1_ 381 k.toNat = F 381 k.toNat := by rw [q2_]; exact (fl_u_ne (by first | exact nc_ rfl | decide | omega)).trans (fl_u_ne (by first | exact nc_ rfl | decide | omega))
    have e128_ : F1 381 k.toNat = F 381 k.toNat := (hf_F1 381 k.toNat (by first | exact fs_c rfl | exact (fs_n (by omega) (fs_n (by omega) rfl)))).trans (e127_)
    have b129_ : 0 ≤ F 381 k.toNat ∧ F 381 k.toNat ≤ 39 := gi_g hgi rfl
    refine ga_iald (z := k) (w := F 381 k.toNat) hm_70 rfl sc_381 (by omega) (by omega) (by omega) (e128_) ?_
    refine ga_istore_n (lv2 := [(3, .int (Int32.ofInt (F 381 k.toNat))), (2, .int (Int32.ofInt k)), (0, .ref 344), (1, .int (Int32.ofInt i))]) hm_70 rfl (Nat.le_of_ble_eq_true rfl) rfl ?_
    have hr_ := hnr (by omega) k.toNat (by omega)
    have hq_ := qTx_le (F := F) h354_ k.toNat (fun j_ hj_ => hnr (by omega) j_ (by omega))
    have hz_ := h354_ (F 367 (F 381 k.toNat).toNat).toNat
    have hb354_ : 0 ≤ (F 354 (F 367 (F 381 k.toNat).toNat).toNat) ∧ (F 354 (F 367 (F 381 k.toNat).toNat).toNat) ≤ 3 := gi_g hgi rfl
    have hn0_ := nm_le hr_.1
    refine ga_aload_n (v := .ref 344) hm_70 rfl rfl rfl ?_
    refine fl_bipush hm_70 rfl rfl ?_
    have b130_ : -2147483648 ≤ F1 344 69 ∧ F1 344 69 ≤ 2147483647 := gi_g hg_F1 rfl
    refine gVv (nY := 2) (F := 0) (L := 0) (As := [.int (Int32.ofInt 40)]) (b := 344) (rest := []) hm_70 rfl hm_190 rfl rfl (fl_ob sc_344) rfl rfl rfl rfl rfl (by omega) (by omega) (mc_190v hG F1 X hg_F1 (40) (i) ((qTx F k.toNat)) (⟨by omega, by omega⟩) (⟨by omega, by omega⟩) (ht1) (by omega)) (fun _ _ h => False.elim h) ?_
    rintro A1_ ⟨F134_, hA_, g135_, s136_, c132_, c133_⟩
    subst hA_
    have g137_ : fs [(344, 344, 0, 0), (344, 344, 67, 69)] F F134_ := fs_tr g9_ s136_ rfl
    refine ga_aload_n (v := .ref 344) hm_70 rfl rfl rfl ?_
    refine ga_aload_n (v := .ref 344) hm_70 rfl rfl rfl ?_
    refine ga_getr (b := 353) hm_70 rfl sc_344 rfl ?_
    refine ga_aload_n (v := .ref 344) hm_70 rfl rfl rfl ?_
    refine ga_getr (b := 367) hm_70 rfl sc_344 rfl ?_
    refine ga_iload_n (z := F 381 k.toNat) hm_70 rfl rfl ?_
    have e138_ : F1_ 367 (F 381 k.toNat).toNat = F 367 (F 381 k.toNat).toNat := by rw [q2_]; exact (fl_u_ne (by first | exact nc_ rfl | decide | omega)).trans (fl_u_ne (by first | exact nc_ rfl | decide | omega))
    have e139_ : F1 367 (F 381 k.toNat).toNat = F 367 (F 381 k.toNat).toNat := (hf_F1 367 (F 381 k.toNat).toNat (by first | exact fs_c rfl | exact (fs_n (by omega) (fs_n (by omega) rfl)))).trans (e138_)
    have e140_ : F134_ 367 (F 381 k.toNat).toNat = F 367 (F 381 k.toNat).toNat := (s136_ 367 (F 381 k.toNat).toNat (by first | exact fs_c rfl | exact (fs_n (by omega) (fs_n (by omega) rfl)))).trans (e139_)
    have b141_ : 0 ≤ F 367 (F 381 k.toNat).toNat ∧ F 367 (F 381 k.toNat).toNat ≤ 4 := gi_g hgi rfl
    refine ga_iald (z := F 381 k.toNat) (w := F 367 (F 381 k.toNat).toNat) hm_70 rfl sc_367 (by omega) (by omega) (by omega) (e140_) ?_
    have e142_ : F1_ 353 (F 367 (F 381 k.toNat).toNat).toNat = F 353 (F 367 (F 381 k.toNat).toNat).toNat := by rw [q2_]; exact (fl_u_ne (by first | exact nc_ rfl | decide | omega)).trans (fl_u_ne (by first | exact nc_ rfl | decide | omega))
    have e143_ : F1 353 (F 367 (F 381 k.toNat).toNat).toNat = F 353 (F 367 (F 381 k.toNat).toNat).toNat := (hf_F1 353 (F 367 (F 381 k.toNat).toNat).toNat (by first | exact fs_c rfl | exact (fs_n (by omega) (fs_n (by omega) rfl)))).trans (e142_)
    have e144_ : F134_ 353 (F 367 (F 381 k.toNat).toNat).toNat = F 353 (F 367 (F 381 k.toNat).toNat).toNat := (s136_ 353 (F 367 (F 381 k.toNat).toNat).toNat (by first | exact fs_c rfl | exact (fs_n (by omega) (fs_n (by omega) rfl)))).trans (e143_)
    have b145_ : 0 ≤ F 353 (F 367 (F 381 k.toNat).toNat).toNat ∧ F 353 (F 367 (F 381 k.toNat).toNat).toNat ≤ 2565726408 := gi_g hgi rfl
    refine ga_lald (z := F 367 (F 381 k.toNat).toNat) (w := F 353 (F 367 (F 381 k.toNat).toNat).toNat) hm_70 rfl sc_353 (by omega) (by omega) (by omega) (e144_) ?_
    have b146_ : -2147483648 ≤ F134_ 344 69 ∧ F134_ 344 69 ≤ 2147483647 := gi_g g135_ rfl
    refine gVv (nY := 8) (F := 1) (L := 21) (As := [.long (Int64.ofInt (F 353 (F 367 (F 381 k.toNat).toNat).toNat))]) (b := 344) (rest := []) hm_70 rfl hm_191 rfl rfl (fl_ob sc_344) rfl rfl rfl rfl rfl (by omega) (by omega) (mc_191v hG F134_ X g135_ (F 353 (F 367 (F 381 k.toNat).toNat).toNat) (i) ((nrx (F 353 (F 367 (F 381 k.toNat).toNat).toNat))) (((qTx F k.toNat) ++ [40])) (⟨by omega, by omega⟩) (⟨by omega, by omega⟩) (nrx_e hr_.1) (c133_) (by rw [List.length_append]; show (((qTx F k.toNat).length + 1 : Nat) : Int) ≤ 90000; omega)) (fun _ _ h => False.elim h) ?_
    rintro A1_ ⟨F150_, hA_, g151_, s152_, c148_, c149_⟩
    subst hA_
    have g153_ : fs [(344, 344, 0, 0), (344, 344, 67, 69)] F F150_ := fs_tr g137_ s152_ rfl
    refine fl_iconst hm_70 rfl ?_
    refine ga_istore (lv2 := [(4, .int (Int32.ofInt 0)), (3, .int (Int32.ofInt (F 381 k.toNat))), (2, .int (Int32.ofInt k)), (0, .ref 344), (1, .int (Int32.ofInt i))]) hm_70 rfl (Nat.le_of_ble_eq_true rfl) rfl ?_
    have L155_ : ∀ (n154_ : Nat) (p : Int) (F2 : fl_N), (3 - p : Int).toNat = n154_ → (gi F2) → (fs [(344, 344, 67, 67), (344, 344, 69, 69)] F150_ F2) → (0 ≤ p ∧ p ≤ 3 ∧ p ≤ (F 354 (F 367 (F 381 k.toNat).toNat).toNat)) → (0 ≤ F2 344 69 ∧ F2 344 69 ≤ 65535) → (tdr F2 i (qTx F k.toNat ++ rTp F (F 381 k.toNat).toNat p.toNat)) → fl_R xi_ms 70 fr lo 58 [(4, .int (Int32.ofInt p)), (3, .int (Int32.ofInt (F 381 k.toNat))), (2, .int (Int32.ofInt k)), (0, .ref 344), (1, .int (Int32.ofInt i))] [] (fl_H sh_T G F2 ++ X) (pq_70v G F X i) := by
      intro n154_
      induction n154_ using Nat.strongRecOn with
      | ind n154_ ih156_ =>
      intro p F2 hn157_ hg_F2 hf_F2 hp ho2 ht2
      have g158_ : fs [(344, 344, 0, 0), (344, 344, 67, 69)] F F2 := fs_tr g153_ hf_F2 rfl
      refine ga_iload (z := p) hm_70 rfl rfl ?_
      refine ga_aload_n (v := .ref 344) hm_70 rfl rfl rfl ?_
      refine ga_getr (b := 354) hm_70 rfl sc_344 rfl ?_
      refine ga_aload_n (v := .ref 344) hm_70 rfl rfl rfl ?_
      refine ga_getr (b := 367) hm_70 rfl sc_344 rfl ?_
      refine ga_iload_n (z := F 381 k.toNat) hm_70 rfl rfl ?_
      have e159_ : F150_ 367 (F 381 k.toNat).toNat = F 367 (F 381 k.toNat).toNat := (s152_ 367 (F 381 k.toNat).toNat (by first | exact fs_c rfl | exact (fs_n (by omega) (fs_n (by omega) rfl)))).trans (e140_)
      have e160_ : F2 367 (F 381 k.toNat).toNat = F 367 (F 381 k.toNat).toNat := (hf_F2 367 (F 381 k.toNat).toNat (by first | exact fs_c rfl | exact (fs_n (by omega) (fs_n (by omega) rfl)))).trans (e159_)
      refine ga_iald (z := F 381 k.toNat) (w := F 367 (F 381 k.toNat).toNat) hm_70 rfl sc_367 (by omega) (by omega) (by omega) (e160_) ?_
      have e161_ : F1_ 354 (F 367 (F 381 k.toNat).toNat).toNat = F 354 (F 367 (F 381 k.toNat).toNat).toNat := by rw [q2_]; exact (fl_u_ne (by first | exact nc_ rfl | decide | omega)).trans (fl_u_ne (by first | exact nc_ rfl | decide | omega))
      have e162_ : F1 354 (F 367 (F 381 k.toNat).toNat).toNat = F 354 (F 367 (F 381 k.toNat).toNat).toNat := (hf_F1 354 (F 367 (F 381 k.toNat).toNat).toNat (by first | exact fs_c rfl | exact (fs_n (by omega) (fs_n (by omega) rfl)))).trans (e161_)
      have e163_ : F134_ 354 (F 367 (F 381 k.toNat).toNat).toNat = F 354 (F 367 (F 381 k.toNat).toNat).toNat := (s136_ 354 (F 367 (F 381 k.toNat).toNat).toNat (by first | exact fs_c rfl | exact (fs_n (by omega) (fs_n (by omega) rfl)))).trans (e162_)
      have e164_ : F150_ 354 (F 367 (F 381 k.toNat).toNat).toNat = F 354 (F 367 (F 381 k.toNat).toNat).toNat := (s152_ 354 (F 367 (F 381 k.toNat).toNat).toNat (by first | exact fs_c rfl | exact (fs_n (by omega) (fs_n (by omega) rfl)))).trans (e163_)
      have e165_ : F2 354 (F 367 (F 381 k.toNat).toNat).toNat = F 354 (F 367 (F 381 k.toNat).toNat).toNat := (hf_F2 354 (F 367 (F 381 k.toNat).toNat).toNat (by first | exact fs_c rfl | exact (fs_n (by omega) (fs_n (by omega) rfl)))).trans (e164_)
      have b166_ : 0 ≤ F 354 (F 367 (F 381 k.toNat).toNat).toNat ∧ F 354 (F 367 (F 381 k.toNat).toNat).toNat ≤ 3 := gi_g hgi rfl
      refine ga_iald (z := F 367 (F 381 k.toNat).toNat) (w := F 354 (F 367 (F 381 k.toNat).toNat).toNat) hm_70 rfl sc_354 (by omega) (by omega) (by omega) (e165_) ?_
      refine fl_icmp_ge (a := p) (b := F 354 (F 367 (F 381 k.toNat).toNat).toNat) hm_70 rfl ⟨by omega, by omega⟩ ⟨by omega, by omega⟩ (fun h167_ => ?_) (fun h168_ => ?_)
      ·
        refine ga_aload_n (v := .ref 344) hm_70 rfl rfl rfl ?_
        refine fl_bipush hm_70 rfl rfl ?_
        have b169_ : -2147483648 ≤ F2 344 69 ∧ F2 344 69 ≤ 2147483647 := gi_g hg_F2 rfl
        refine gVv (nY := 2) (F := 0) (L := 0) (As := [.int (Int32.ofInt 41)]) (b := 344) (rest := []) hm_70 rfl hm_190 rfl rfl (fl_ob sc_344) rfl rfl rfl rfl rfl (by omega) (by omega) (mc_190v hG F2 X hg_F2 (41) (i) (((qTx F k.toNat) ++ rTp F (F 381 k.toNat).toNat (F 354 (F 367 (F 381 k.toNat).toNat).toNat).toNat)) (⟨by omega, by omega⟩) (⟨by omega, by omega⟩) (by have h9_ := ht2; rw [show p.toNat = (F 354 (F 367 (F 381 k.toNat).toNat).toNat).toNat by omega] at h9_; exact h9_) (by have h8_ := rTp_le hr_ (F 354 (F 367 (F 381 k.toNat).toNat).toNat).toNat (Nat.le_refl _); rw [List.length_append]; omega)) (fun _ _ h => False.elim h) ?_
        rintro A1_ ⟨F173_, hA_, g174_, s175_, c171_, c172_⟩
        subst hA_
        have g176_ : fs [(344, 344, 0, 0), (344, 344, 67, 69)] F F173_ := fs_tr g158_ s175_ rfl
        refine ga_aload_n (v := .ref 344) hm_70 rfl rfl rfl ?_
        refine fl_bipush hm_70 rfl rfl ?_
        have b177_ : -2147483648 ≤ F173_ 344 69 ∧ F173_ 344 69 ≤ 2147483647 := gi_g g174_ rfl
        refine gVv (nY := 2) (F := 0) (L := 0) (As := [.int (Int32.ofInt 10)]) (b := 344) (rest := []) hm_70 rfl hm_190 rfl rfl (fl_ob sc_344) rfl rfl rfl rfl rfl (by omega) (by omega) (mc_190v hG F173_ X g174_ (10) (i) ((((qTx F k.toNat) ++ rTp F (F 381 k.toNat).toNat (F 354 (F 367 (F 381 k.toNat).toNat).toNat).toNat) ++ [41])) (⟨by omega, by omega⟩) (⟨by omega, by omega⟩) (c172_) (by have h8_ := rTp_le hr_ (F 354 (F 367 (F 381 k.toNat).toNat).toNat).toNat (Nat.le_refl _); rw [List.length_append, List.length_append]; show (((qTx F k.toNat).length + (rTp F (F 381 k.toNat).toNat (F 354 (F 367 (F 381 k.toNat).toNat).toNat).toNat).length + 1 : Nat) : Int) ≤ 100000; omega)) (fun _ _ h => False.elim h) ?_
        rintro A1_ ⟨F181_, hA_, g182_, s183_, c179_, c180_⟩
        subst hA_
        have g184_ : fs [(344, 344, 0, 0), (344, 344, 67, 69)] F F181_ := fs_tr g176_ s183_ rfl
        refine ga_inc (a := k) (c := k + 1) (lv2 := [(2, .int (Int32.ofInt (k + 1))), (4, .int (Int32.ofInt p)), (3, .int (Int32.ofInt (F 381 k.toNat))), (0, .ref 344), (1, .int (Int32.ofInt i))]) hm_70 rfl rfl (Nat.le_of_ble_eq_true rfl) rfl rfl ?_
        refine fl_goto hm_70 rfl ?_
        have b185_ : -2147483648 ≤ F181_ 344 69 ∧ F181_ 344 69 ≤ 2147483647 := gi_g g182_ rfl
        exact fl_R_sub (lv' := [(2, .int (Int32.ofInt (k + 1))), (0, .ref 344), (1, .int (Int32.ofInt i))]) rfl rfl (ih7_ _ (by omega) (k + 1) F181_ rfl g182_ (fs_tr (fs_tr (fs_tr (fs_tr (fs_tr hf_F1 s136_ rfl) s152_ rfl) hf_F2 rfl) s175_ rfl) s183_ rfl) (⟨by omega, by omega, by omega⟩) (⟨by omega, by omega⟩) (by have h9_ := c180_; rw [show (k + 1).toNat = k.toNat + 1 by omega, qTx_s]; unfold rTx; rw [← List.append_assoc]; rw [List.append_assoc _ [41] [10]] at h9_; exact h9_))
      refine ga_aload_n (v := .ref 344) hm_70 rfl rfl rfl ?_
      refine fl_bipush hm_70 rfl rfl ?_
      have b186_ : -2147483648 ≤ F2 344 69 ∧ F2 344 69 ≤ 2147483647 := gi_g hg_F2 rfl
      refine gVv (nY := 2) (F := 0) (L := 0) (As := [.int (Int32.ofInt 32)]) (b := 344) (rest := []) hm_70 rfl hm_190 rfl rfl (fl_ob sc_344) rfl rfl rfl rfl rfl (by omega) (by omega) (mc_190v hG F2 X hg_F2 (32) (i) (((qTx F k.toNat) ++ rTp F (F 381 k.toNat).toNat p.toNat)) (⟨by omega, by omega⟩) (⟨by omega, by omega⟩) (ht2) (by have h8_ := rTp_le hr_ p.toNat (by omega); rw [List.length_append]; omega)) (fun _ _ h => False.elim h) ?_
      rintro A1_ ⟨F190_, hA_, g191_, s192_, c188_, c189_⟩
      subst hA_
      have g193_ : fs [(344, 344, 0, 0), (344, 344, 67, 69)] F F190_ := fs_tr g158_ s192_ rfl
      refine ga_aload_n (v := .ref 344) hm_70 rfl rfl rfl ?_
      refine ga_aload_n (v := .ref 344) hm_70 rfl rfl rfl ?_
      refine ga_getr (b := 364) hm_70 rfl sc_344 rfl ?_
      refine ga_aload_n (v := .ref 344) hm_70 rfl rfl rfl ?_
      refine ga_getr (b := 368) hm_70 rfl sc_344 rfl ?_
      refine fl_iconst hm_70 rfl ?_
      refine ga_iload_n (z := F 381 k.toNat) hm_70 rfl rfl ?_
      refine ga_imul (a := 3) (b := F 381 k.toNat) (c := 3 * (F 381 k.toNat)) hm_70 rfl (by omega) ?_
      refine ga_iload (z := p) hm_70 rfl rfl ?_
      refine ga_iadd (a := 3 * (F 381 k.toNat)) (b := p) (c := 3 * (F 381 k.toNat) + p) hm_70 rfl (by omega) ?_
      have hq9 : 0 ≤ F 368 (3 * F 381 k.toNat + p).toNat := by have h9_ := hpl (by omega) k.toNat (by omega) p.toNat (by omega); rwa [show 3 * (F 381 k.toNat).toNat + p.toNat = (3 * F 381 k.toNat + p).toNat by omega] at h9_
      have e194_ : F1_ 368 (3 * (F 381 k.toNat) + p).toNat = F 368 (3 * (F 381 k.toNat) + p).toNat := by rw [q2_]; exact (fl_u_ne (by first | exact nc_ rfl | decide | omega)).trans (fl_u_ne (by first | exact nc_ rfl | decide | omega))
      have e195_ : F1 368 (3 * (F 381 k.toNat) + p).toNat = F 368 (3 * (F 381 k.toNat) + p).toNat := (hf_F1 368 (3 * (F 381 k.toNat) + p).toNat (by first | exact fs_c rfl | exact (fs_n (by omega) (fs_n (by omega) rfl)))).trans (e194_)
      have e196_ : F134_ 368 (3 * (F 381 k.toNat) + p).toNat = F 368 (3 * (F 381 k.toNat) + p).toNat := (s136_ 368 (3 * (F 381 k.toNat) + p).toNat (by first | exact fs_c rfl | exact (fs_n (by omega) (fs_n (by omega) rfl)))).trans (e195_)
      have e197_ : F150_ 368 (3 * (F 381 k.toNat) + p).toNat = F 368 (3 * (F 381 k.toNat) + p).toNat := (s152_ 368 (3 * (F 381 k.toNat) + p).toNat (by first | exact fs_c rfl | exact (fs_n (by omega) (fs_n (by omega) rfl)))).trans (e196_)
      have e198_ : F2 368 (3 * (F 381 k.toNat) + p).toNat = F 368 (3 * (F 381 k.toNat) + p).toNat := (hf_F2 368 (3 * (F 381 k.toNat) + p).toNat (by first | exact fs_c rfl | exact (fs_n (by omega) (fs_n (by omega) rfl)))).trans (e197_)
      have e199_ : F190_ 368 (3 * (F 381 k.toNat) + p).toNat = F 368 (3 * (F 381 k.toNat) + p).toNat := (s192_ 368 (3 * (F 381 k.toNat) + p).toNat (by first | exact fs_c rfl | exact (fs_n (by omega) (fs_n (by omega) rfl)))).trans (e198_)
      have b200_ : -1 ≤ F 368 (3 * (F 381 k.toNat) + p).toNat ∧ F 368 (3 * (F 381 k.toNat) + p).toNat ≤ 5 := gi_g hgi rfl
      refine ga_iald (z := 3 * (F 381 k.toNat) + p) (w := F 368 (3 * (F 381 k.toNat) + p).toNat) hm_70 rfl sc_368 (by omega) (by omega) (by omega) (e199_) ?_
      have e201_ : F1_ 364 (F 368 (3 * (F 381 k.toNat) + p).toNat).toNat = F 364 (F 368 (3 * (F 381 k.toNat) + p).toNat).toNat := by rw [q2_]; exact (fl_u_ne (by first | exact nc_ rfl | decide | omega)).trans (fl_u_ne (by first | exact nc_ rfl | decide | omega))
      have e202_ : F1 364 (F 368 (3 * (F 381 k.toNat) + p).toNat).toNat = F 364 (F 368 (3 * (F 381 k.toNat) + p).toNat).toNat := (hf_F1 364 (F 368 (3 * (F 381 k.toNat) + p).toNat).toNat (by first | exact fs_c rfl | exact (fs_n (by omega) (fs_n (by omega) rfl)))).trans (e201_)
      have e203_ : F134_ 364 (F 368 (3 * (F 381 k.toNat) + p).toNat).toNat = F 364 (F 368 (3 * (F 381 k.toNat) + p).toNat).toNat := (s136_ 364 (F 368 (3 * (F 381 k.toNat) + p).toNat).toNat (by first | exact fs_c rfl | exact (fs_n (by omega) (fs_n (by omega) rfl)))).trans (e202_)
      have e204_ : F150_ 364 (F 368 (3 * (F 381 k.toNat) + p).toNat).toNat = F 364 (F 368 (3 * (F 381 k.toNat) + p).toNat).toNat := (s152_ 364 (F 368 (3 * (F 381 k.toNat) + p).toNat).toNat (by first | exact fs_c rfl | exact (fs_n (by omega) (fs_n (by omega) rfl)))).trans (e203_)
      have e205_ : F2 364 (F 368 (3 * (F 381 k.toNat) + p).toNat).toNat = F 364 (F 368 (3 * (F 381 k.toNat) + p).toNat).toNat := (hf_F2 364 (F 368 (3 * (F 381 k.toNat) + p).toNat).toNat (by first | exact fs_c rfl | exact (fs_n (by omega) (fs_n (by omega) rfl)))).trans (e204_)
      have e206_ : F190_ 364 (F 368 (3 * (F 381 k.toNat) + p).toNat).toNat = F 364 (F 368 (3 * (F 381 k.toNat) + p).toNat).toNat := (s192_ 364 (F 368 (3 * (F 381 k.toNat) + p).toNat).toNat (by first | exact fs_c rfl | exact (fs_n (by omega) (fs_n (by omega) rfl)))).trans (e205_)
      have b207_ : 0 ≤ F 364 (F 368 (3 * (F 381 k.toNat) + p).toNat).toNat ∧ F 364 (F 368 (3 * (F 381 k.toNat) + p).toNat).toNat ≤ 2565726408 := gi_g hgi rfl
      refine ga_lald (z := F 368 (3 * (F 381 k.toNat) + p).toNat) (w := F 364 (F 368 (3 * (F 381 k.toNat) + p).toNat).toNat) hm_70 rfl sc_364 (by omega) (by omega) (by omega) (e206_) ?_
      have b208_ : -2147483648 ≤ F190_ 344 69 ∧ F190_ 344 69 ≤ 2147483647 := gi_g g191_ rfl
      refine gVv (nY := 8) (F := 1) (L := 21) (As := [.long (Int64.ofInt (F 364 (F 368 (3 * (F 381 k.toNat) + p).toNat).toNat))]) (b := 344) (rest := []) hm_70 rfl hm_191 rfl rfl (fl_ob sc_344) rfl rfl rfl rfl rfl (by omega) (by omega) (mc_191v hG F190_ X g191_ (F 364 (F 368 (3 * (F 381 k.toNat) + p).toNat).toNat) (i) ((nrx (F 364 (F 368 (3 * (F 381 k.toNat).toNat + p.toNat)).toNat))) ((((qTx F k.toNat) ++ rTp F (F 381 k.toNat).toNat p.toNat) ++ [32])) (⟨by omega, by omega⟩) (⟨by omega, by omega⟩) (by rw [show (3 * F 381 k.toNat + p).toNat = 3 * (F 381 k.toNat).toNat + p.toNat by omega]; exact nrx_e (hr_.2 p.toNat (by omega))) (c189_) (by have h8_ := rTp_le hr_ p.toNat (by omega); rw [List.length_append, List.length_append]; show (((qTx F k.toNat).length + (rTp F (F 381 k.toNat).toNat p.toNat).length + 1 : Nat) : Int) ≤ 90000; omega)) (fun _ _ h => False.elim h) ?_
      rintro A1_ ⟨F212_, hA_, g213_, s214_, c210_, c211_⟩
      subst hA_
      have g215_ : fs [(344, 344, 0, 0), (344, 344, 67, 69)] F F212_ := fs_tr g193_ s214_ rfl
      refine ga_inc (a := p) (c := p + 1) (lv2 := [(4, .int (Int32.ofInt (p + 1))), (3, .int (Int32.ofInt (F 381 k.toNat))), (2, .int (Int32.ofInt k)), (0, .ref 344), (1, .int (Int32.ofInt i))]) hm_70 rfl rfl (Nat.le_of_ble_eq_true rfl) rfl rfl ?_
      refine fl_goto hm_70 rfl ?_
      have b216_ : -2147483648 ≤ F212_ 344 69 ∧ F212_ 344 69 ≤ 2147483647 := gi_g g213_ rfl
      exact ih156_ _ (by omega) (p + 1) F212_ rfl g213_ (fs_tr (fs_tr hf_F2 s192_ rfl) s214_ rfl) (⟨by omega, by omega, by omega⟩) (⟨by omega, by omega⟩) (by have h9_ := c211_; rw [show (p + 1).toNat = p.toNat + 1 by omega, rTp_s, ← List.append_assoc]; rw [List.append_assoc _ [32] _] at h9_; exact h9_)
    have b217_ : -2147483648 ≤ F150_ 344 69 ∧ F150_ 344 69 ≤ 2147483647 := gi_g g151_ rfl
    exact L155_ _ (0) F150_ rfl g151_ fs_refl (⟨by omega, by omega, by omega⟩) (⟨by omega, by omega⟩) (by have h9_ := c149_; rw [List.append_assoc] at h9_; show tdr _ _ ((qTx F k.toNat) ++ rTp F (F 381 k.toNat).toNat 0); unfold rTp; rw [show (List.range 0).flatMap _ = ([] : List Int) from rfl, List.append_nil]; exact h9_)
  have b218_ : 0 ≤ F 344 58 ∧ F 344 58 ≤ 200 := gi_g hgi rfl
  have e219_ : F1_ 344 69 = F 344 69 := by rw [q2_]; exact (fl_u_ne (by first | exact nc_ rfl | decide | omega)).trans (fl_u_ne (by first | exact nc_ rfl | decide | omega))
  have b220_ : -2147483648 ≤ F 344 69 ∧ F 344 69 ≤ 2147483647 := gi_g hgi rfl
  have e221_ : F1_ 344 67 = 0 := by rw [q2_]; exact (fl_u_ne (by first | exact nc_ rfl | decide | omega)).trans (fl_u_eq)
  have e222_ : F1_ 344 68 = i := by rw [q2_]; exact fl_u_eq
  exact L6_ _ (0) F1_ rfl g3_ fs_refl (⟨by omega, by omega, by omega⟩) (⟨by omega, by omega⟩) (tdr_0 (e221_) (e222_))

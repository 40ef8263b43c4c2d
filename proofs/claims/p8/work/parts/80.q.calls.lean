/- CheapPlanner.problem -/
abbrev pq_3v (G : Nat → Nat → Option Nat) (F : fl_N) (X : xi_H) (nm : Int) (ts pl : List Int) (ps : List (List Int)) (D : List ad_T) : Outcome → xi_H → Prop := gqi (fun z A => ∃ F' : fl_N, fl_H sh_T G F' ++ X = A ∧ gi F' ∧ fs [(0, 0, 8, 8), (0, 0, 10, 10), (0, 0, 12, 12), (331, 331, 8, 8), (331, 331, 10, 11), (335, 335, 0, 100000), (338, 338, 0, 100000), (1, 1, 1, 1), (1, 1, 6, 8), (3, 6, 0, 100000), (105, 117, 0, 100000), (119, 119, 2, 3), (120, 120, 1, 1), (120, 120, 3, 4), (121, 121, 0, 100000), (123, 123, 0, 4), (124, 124, 0, 100000), (126, 330, 0, 100000)] F F' ∧ (-2147483648 ≤ z ∧ z ≤ 2147483647) ∧ (F 0 7 = 1 ∧ F' 1 1 = 0) ∧ (fnd F') ∧ (∃ K l tl, dmk K F ∧ sp_prb K nm ts pl ps = .inr (l, tl) ∧ z = ((stP tl D D.length).length : Int) ∧ pbC F' ps tl D (prb_i K nm ts pl ps) (prb_g K nm ts pl ps) ∧ tl.length ≤ 6) ∧ (F' 1 8 = 0) ∧ (F' 0 8 = 1 ∧ F' 0 10 = 0) ∧ (F' 331 11 = 0)) (fun j A => ∃ (F' : fl_N) (ci : Nat), (ci = 15 ∨ ci = 14 ∨ ci = 16) ∧ (387 + X.length = j ∧ fl_H sh_T G F' ++ (X ++ [gx ci]) = A) ∧ gi F' ∧ fs [(0, 0, 8, 8), (0, 0, 10, 10), (0, 0, 12, 12), (331, 331, 8, 8), (331, 331, 10, 11), (335, 335, 0, 100000), (338, 338, 0, 100000), (1, 1, 1, 1), (1, 1, 6, 8), (3, 6, 0, 100000), (105, 117, 0, 100000), (119, 119, 2, 3), (120, 120, 1, 1), (120, 120, 3, 4), (121, 121, 0, 100000), (123, 123, 0, 4), (124, 124, 0, 100000), (126, 330, 0, 100000)] F F' ∧ ((F 0 7 = 0 ∧ F' 1 1 = F 1 1) ∨ (F 0 7 = 1 ∧ F' 1 1 = 0)) ∧ (fnd F') ∧ ((F 0 7 = 0 ∧ ci = 15 ∧ F' 1 8 = F 1 8) ∨ (F 0 7 = 1 ∧ ci = 14 ∧ ∃ K e, dmk K F ∧ sp_prb K nm ts pl ps = .inl e ∧ F' 1 8 = e.1 + 10 * e.2) ∨ (F 0 7 = 1 ∧ ci = 16 ∧ F' 1 8 = 0 ∧ ∃ K l tl, dmk K F ∧ sp_prb K nm ts pl ps = .inr (l, tl) ∧ (40 < nfc ps tl 216 ∨ 40 < (stP tl D D.length).length))) ∧ (F' 0 8 = (if F 0 7 = 0 then F 0 8 else 0)) ∧ ((F 0 7 = 0 → F' 331 11 = F 331 11 ∧ F' 335 200 = F 335 200) ∧ (¬ F 0 7 = 0 → F' 331 11 = 0)))
theorem mc_3v {G : Nat → Nat → Option Nat} (hG : gg G) (F : fl_N) (X : xi_H) (hgi : gi F) (nm : Int) (ts pl : List Int) (ps : List (List Int)) (D : List ad_T) (hfd : fnd F) (hdm : dmi F) (hnm : F 7 0 = nm) (hts : rep (F 9) (F 8 2) ts) (hpl : rep (F 12) (F 11 2) pl) (hps : prd F ps) (hpn : pl.length = ps.length) (hDD : F 0 7 = 1 → dar F D ∧ (D.length : Int) = F 15 2) : fl_M xi_ms 3 12 235 [.ref 0] (fl_H sh_T G F ++ X) (pq_3v G F X nm ts pl ps D) := by
  intro fr lo hfr hlo
  show fl_R xi_ms 3 fr lo 0 [(0, .ref 0)] [] _ _
  have hb7 : 0 ≤ F 0 7 ∧ F 0 7 ≤ 1 := gi_g hgi rfl
  have hb15 : 0 ≤ F 15 2 ∧ F 15 2 ≤ 5 := gi_g hgi rfl
  have hpl1 := hpl.1
  have hb11 : 0 ≤ F 11 2 ∧ F 11 2 ≤ 6 := gi_g hgi rfl
  refine ga_aload_n (v := .ref 0) hm_3 rfl rfl rfl ?_
  have b1_ : 0 ≤ F 0 7 ∧ F 0 7 ≤ 1 := gi_g hgi rfl
  refine ga_geti (z := F 0 7) hm_3 rfl sc_0 rfl (rfl) ?_
  refine fx_if_ne (a := F 0 7) hm_3 rfl ⟨by omega, by omega⟩ (fun h2_ => ?_) (fun h3_ => ?_)
  ·
    refine ga_aload_n (v := .ref 0) hm_3 rfl rfl rfl ?_
    refine gVv (nY := 1) (F := 2) (L := 43) (As := []) (b := 0) (rest := []) hm_3 rfl hm_15 rfl rfl (fl_ob sc_0) rfl rfl rfl rfl rfl (by omega) (by omega) (mc_15 hG F X hgi) (fun _ _ h => False.elim h) ?_
    rintro A1_ ⟨F7_, hA_, g8_, s9_, c5_, c6_⟩
    subst hA_
    have g10_ : fs [(0, 0, 8, 8), (0, 0, 10, 10), (0, 0, 12, 12), (331, 331, 8, 8), (331, 331, 10, 11), (335, 335, 0, 100000), (338, 338, 0, 100000), (1, 1, 1, 1), (1, 1, 6, 8), (3, 6, 0, 100000), (105, 117, 0, 100000), (119, 119, 2, 3), (120, 120, 1, 1), (120, 120, 3, 4), (121, 121, 0, 100000), (123, 123, 0, 4), (124, 124, 0, 100000), (126, 330, 0, 100000)] F F7_ := fs_tr fs_refl s9_ rfl
    refine ga_aload_n (v := .ref 0) hm_3 rfl rfl rfl ?_
    refine ga_getr (b := 118) hm_3 rfl sc_0 rfl ?_
    refine gVv (nY := 1) (F := 11) (L := 215) (As := []) (b := 118) (rest := []) hm_3 rfl hm_125 rfl rfl (fl_ob sc_118) rfl rfl rfl rfl rfl (by omega) (by omega) (mc_125 hG F7_ X g8_ (nm) (ts) (pl) (ps) (Eq.trans ((show F7_ 7 0 = F 7 0 from (s9_ 7 0 (by first | exact fs_c rfl | exact (fs_n (by omega) (fs_n (by omega) (fs_n (by omega) (fs_n (by omega) (fs_n (by omega) (fs_n (by omega) (fs_n (by omega) rfl))))))))))) hnm) ((rep_fs hts s9_ (fun _ => (by first | exact fs_c rfl | exact (fs_n (by omega) (fs_n (by omega) (fs_n (by omega) (fs_n (by omega) (fs_n (by omega) (fs_n (by omega) (fs_n (by omega) rfl))))))))) (by first | exact fs_c rfl | exact (fs_n (by omega) (fs_n (by omega) (fs_n (by omega) (fs_n (by omega) (fs_n (by omega) (fs_n (by omega) (fs_n (by omega) rfl)))))))))) ((rep_fs hpl s9_ (fun _ => (by first | exact fs_c rfl | exact (fs_n (by omega) (fs_n (by omega) (fs_n (by omega) (fs_n (by omega) (fs_n (by omega) (fs_n (by omega) (fs_n (by omega) rfl))))))))) (by first | exact fs_c rfl | exact (fs_n (by omega) (fs_n (by omega) (fs_n (by omega) (fs_n (by omega) (fs_n (by omega) (fs_n (by omega) (fs_n (by omega) rfl)))))))))) ((prd_fs hps s9_ (fun _ _ _ => (by first | exact fs_c rfl | exact (fs_n (by omega) (fs_n (by omega) (fs_n (by omega) (fs_n (by omega) (fs_n (by omega) (fs_n (by omega) (fs_n (by omega) rfl))))))))))) (hpn)) ?_ ?_
    ·
      rintro j_ A1_ ⟨F13_, ⟨hJ_, hA_⟩, g14_, s15_, c11_, c12_⟩
      subst hA_
      subst hJ_
      refine ⟨rfl, ?_⟩
      refine gw_i ?_
      have g16_ : fs [(0, 0, 8, 8), (0, 0, 10, 10), (0, 0, 12, 12), (331, 331, 8, 8), (331, 331, 10, 11), (335, 335, 0, 100000), (338, 338, 0, 100000), (1, 1, 1, 1), (1, 1, 6, 8), (3, 6, 0, 100000), (105, 117, 0, 100000), (119, 119, 2, 3), (120, 120, 1, 1), (120, 120, 3, 4), (121, 121, 0, 100000), (123, 123, 0, 4), (124, 124, 0, 100000), (126, 330, 0, 100000)] F F13_ := fs_tr g10_ s15_ rfl
      have b17_ : 0 ≤ F13_ 1 1 ∧ F13_ 1 1 ≤ 600 := gi_g g14_ rfl
      have b18_ : 0 ≤ F 1 1 ∧ F 1 1 ≤ 600 := gi_g hgi rfl
      have e19_ : F13_ 331 11 = F7_ 331 11 := (s15_ 331 11 rfl).trans (rfl)
      have b20_ : 0 ≤ F13_ 1 8 ∧ F13_ 1 8 ≤ 100000 := gi_g g14_ rfl
      have b21_ : 0 ≤ F 1 8 ∧ F 1 8 ≤ 100000 := gi_g hgi rfl
      have e22_ : F13_ 0 8 = F7_ 0 8 := (s15_ 0 8 rfl).trans (rfl)
      have b23_ : 0 ≤ F7_ 0 8 ∧ F7_ 0 8 ≤ 1 := gi_g g8_ rfl
      have b24_ : 0 ≤ F 0 8 ∧ F 0 8 ≤ 1 := gi_g hgi rfl
      have b25_ : 0 ≤ F7_ 331 11 ∧ F7_ 331 11 ≤ 1 := gi_g g8_ rfl
      have e26_ : F13_ 335 200 = F7_ 335 200 := (s15_ 335 200 rfl).trans (rfl)
      have b27_ : -2147483648 ≤ F7_ 335 200 ∧ F7_ 335 200 ≤ 2147483647 := gi_g g8_ rfl
      have b28_ : 0 ≤ F 331 11 ∧ F 331 11 ≤ 1 := gi_g hgi rfl
      have b29_ : -2147483648 ≤ F 335 200 ∧ F 335 200 ≤ 2147483647 := gi_g hgi rfl
      exact ⟨F13_, 14, (Or.inr (Or.inl rfl)), ⟨rfl, rfl⟩, g14_, g16_, (Or.inr ⟨by omega, by omega⟩), (fun h9_ => absurd h9_ (by omega)), (Or.inr (Or.inl ⟨by omega, rfl, by obtain ⟨K, e, c1, c2, c3⟩ := c11_; exact ⟨K, e, (by have e2_ : F7_ 2 = F 2 := funext (fun j => (show F7_ 2 j = F 2 j from (s9_ 2 j (by first | exact fs_c rfl | exact (fs_n (by omega) (fs_n (by omega) (fs_n (by omega) (fs_n (by omega) (fs_n (by omega) (fs_n (by omega) (fs_n (by omega) rfl))))))))))); have e1_ : F7_ 1 1 = F 1 1 := (show F7_ 1 1 = F 1 1 from (s9_ 1 1 (by first | exact fs_c rfl | exact (fs_n (by omega) (fs_n (by omega) (fs_n (by omega) (fs_n (by omega) (fs_n (by omega) (fs_n (by omega) (fs_n (by omega) rfl)))))))))); unfold dmk at c1 ⊢; rw [e2_, e1_] at c1; exact c1), c2, c3⟩⟩)), (by rw [if_neg (by omega)]; omega), (⟨fun h9_ => absurd h9_ (by omega), fun _ => by omega⟩)⟩
    rintro A1_ ⟨F36_, hA_, g37_, s38_, c31_, c32_, c33_, c34_, c35_⟩
    subst hA_
    have g39_ : fs [(0, 0, 8, 8), (0, 0, 10, 10), (0, 0, 12, 12), (331, 331, 8, 8), (331, 331, 10, 11), (335, 335, 0, 100000), (338, 338, 0, 100000), (1, 1, 1, 1), (1, 1, 6, 8), (3, 6, 0, 100000), (105, 117, 0, 100000), (119, 119, 2, 3), (120, 120, 1, 1), (120, 120, 3, 4), (121, 121, 0, 100000), (123, 123, 0, 4), (124, 124, 0, 100000), (126, 330, 0, 100000)] F F36_ := fs_tr g10_ s38_ rfl
    obtain ⟨K, l, tl, hk1_, hk2_, hk3_, hk4_, hk5_, hk6_⟩ := c31_
    obtain ⟨hD, hDl⟩ := hDD (by omega)
    refine ga_aload_n (v := .ref 0) hm_3 rfl rfl rfl ?_
    refine ga_getr (b := 120) hm_3 rfl sc_0 rfl ?_
    refine ga_aload_n (v := .ref 0) hm_3 rfl rfl rfl ?_
    refine ga_getr (b := 7) hm_3 rfl sc_0 rfl ?_
    refine ga_aload_n (v := .ref 0) hm_3 rfl rfl rfl ?_
    refine ga_getr (b := 104) hm_3 rfl sc_0 rfl ?_
    refine gVi (nY := 4) (F := 6) (L := 144) (As := [.ref 7, .ref 104]) (b := 120) (rest := []) hm_3 rfl hm_101 rfl rfl (fl_ob sc_120) rfl rfl rfl rfl rfl (by omega) (by omega) (mc_101 hG F36_ X g37_ (pl) (tl) (ps) (D) ((prb_i K nm ts pl ps)) ((prb_g K nm ts pl ps)) (by rw [(Eq.trans (a := F36_ 15 2) (b := F7_ 15 2) (s38_ 15 2 (by first | exact fs_c rfl | exact (fs_n (by omega) (fs_n (by omega) (fs_n (by omega) (fs_n (by omega) (fs_n (by omega) rfl))))))) (show F7_ 15 2 = F 15 2 from (s9_ 15 2 (by first | exact fs_c rfl | exact (fs_n (by omega) (fs_n (by omega) (fs_n (by omega) (fs_n (by omega) (fs_n (by omega) (fs_n (by omega) (fs_n (by omega) rfl)))))))))))]; exact (di_fs (di_fs (hdm (by omega)) s9_ (by first | exact fs_rg rfl | exact fun r j hj => (fs_n (by omega) (fs_n (by omega) (fs_n (by omega) (fs_n (by omega) (fs_n (by omega) (fs_n (by omega) (fs_n (by omega) rfl))))))))) s38_ (by first | exact fs_rg rfl | exact fun r j hj => (fs_n (by omega) (fs_n (by omega) (fs_n (by omega) (fs_n (by omega) (fs_n (by omega) rfl)))))))) (c33_) (c34_) ((rep_fs (rep_fs hpl s9_ (fun _ => (by first | exact fs_c rfl | exact (fs_n (by omega) (fs_n (by omega) (fs_n (by omega) (fs_n (by omega) (fs_n (by omega) (fs_n (by omega) (fs_n (by omega) rfl))))))))) (by first | exact fs_c rfl | exact (fs_n (by omega) (fs_n (by omega) (fs_n (by omega) (fs_n (by omega) (fs_n (by omega) (fs_n (by omega) (fs_n (by omega) rfl))))))))) s38_ (fun _ => (by first | exact fs_c rfl | exact (fs_n (by omega) (fs_n (by omega) (fs_n (by omega) (fs_n (by omega) (fs_n (by omega) rfl))))))) (by first | exact fs_c rfl | exact (fs_n (by omega) (fs_n (by omega) (fs_n (by omega) (fs_n (by omega) (fs_n (by omega) rfl)))))))) ((prd_fs (prd_fs hps s9_ (fun _ _ _ => (by first | exact fs_c rfl | exact (fs_n (by omega) (fs_n (by omega) (fs_n (by omega) (fs_n (by omega) (fs_n (by omega) (fs_n (by omega) (fs_n (by omega) rfl)))))))))) s38_ (fun _ _ _ => (by first | exact fs_c rfl | exact (fs_n (by omega) (fs_n (by omega) (fs_n (by omega) (fs_n (by omega) (fs_n (by omega) rfl))))))))) (hpn) ((dar_fs (dar_fs hD s9_ (by first | exact fs_rg rfl | exact fun r j hj => (fs_n (by omega) (fs_n (by omega) (fs_n (by omega) (fs_n (by omega) (fs_n (by omega) (fs_n (by omega) (fs_n (by omega) rfl))))))))) s38_ (by first | exact fs_rg rfl | exact fun r j hj => (fs_n (by omega) (fs_n (by omega) (fs_n (by omega) (fs_n (by omega) (fs_n (by omega) rfl)))))))) (Eq.trans hDl ((Eq.trans (a := F36_ 15 2) (b := F7_ 15 2) (s38_ 15 2 (by first | exact fs_c rfl | exact (fs_n (by omega) (fs_n (by omega) (fs_n (by omega) (fs_n (by omega) (fs_n (by omega) rfl))))))) (show F7_ 15 2 = F 15 2 from (s9_ 15 2 (by first | exact fs_c rfl | exact (fs_n (by omega) (fs_n (by omega) (fs_n (by omega) (fs_n (by omega) (fs_n (by omega) (fs_n (by omega) (fs_n (by omega) rfl)))))))))))).symm) (hk4_) ((prb_ok hpn hk2_).1.2) (hk5_) (hk6_) (fun x hx => ((prb_ok hpn hk2_).2.1 x hx).2)) (fun _ _ h => False.elim h) ?_
    rintro z40_ A1_ (⟨F42_, hA_, g43_, s44_, hz_, c41_⟩ | ⟨F51_, hA_, g52_, s53_, hz_, c45_, c46_, c47_, c48_, c49_, c50_⟩)
    ·
      subst hA_
      subst hz_
      have g54_ : fs [(0, 0, 8, 8), (0, 0, 10, 10), (0, 0, 12, 12), (331, 331, 8, 8), (331, 331, 10, 11), (335, 335, 0, 100000), (338, 338, 0, 100000), (1, 1, 1, 1), (1, 1, 6, 8), (3, 6, 0, 100000), (105, 117, 0, 100000), (119, 119, 2, 3), (120, 120, 1, 1), (120, 120, 3, 4), (121, 121, 0, 100000), (123, 123, 0, 4), (124, 124, 0, 100000), (126, 330, 0, 100000)] F F42_ := fs_tr g39_ s44_ rfl
      refine fl_if_ne hm_3 rfl ⟨by omega, by omega⟩ (fun h => absurd h (by omega)) (fun _ => ?_)
      refine fl_thr hm_3 rfl rfl (by omega) (by omega) (Nat.le_of_ble_eq_true rfl) (fl_pos sc_0) ?_
      refine gw_i ?_
      have e55_ : F42_ 1 1 = F36_ 1 1 := (s44_ 1 1 rfl).trans (rfl)
      have b56_ : 0 ≤ F36_ 1 1 ∧ F36_ 1 1 ≤ 600 := gi_g g37_ rfl
      have b57_ : 0 ≤ F 1 1 ∧ F 1 1 ≤ 600 := gi_g hgi rfl
      have e58_ : F36_ 331 11 = F7_ 331 11 := (s38_ 331 11 rfl).trans (rfl)
      have e59_ : F42_ 331 11 = F7_ 331 11 := (s44_ 331 11 rfl).trans (e58_)
      have e60_ : F42_ 1 8 = F36_ 1 8 := (s44_ 1 8 rfl).trans (rfl)
      have b61_ : 0 ≤ F36_ 1 8 ∧ F36_ 1 8 ≤ 100000 := gi_g g37_ rfl
      have b62_ : 0 ≤ F 1 8 ∧ F 1 8 ≤ 100000 := gi_g hgi rfl
      have e63_ : F36_ 0 8 = F7_ 0 8 := (s38_ 0 8 rfl).trans (rfl)
      have e64_ : F42_ 0 8 = F7_ 0 8 := (s44_ 0 8 rfl).trans (e63_)
      have b65_ : 0 ≤ F7_ 0 8 ∧ F7_ 0 8 ≤ 1 := gi_g g8_ rfl
      have b66_ : 0 ≤ F 0 8 ∧ F 0 8 ≤ 1 := gi_g hgi rfl
      have b67_ : 0 ≤ F7_ 331 11 ∧ F7_ 331 11 ≤ 1 := gi_g g8_ rfl
      have e68_ : F36_ 335 200 = F7_ 335 200 := (s38_ 335 200 rfl).trans (rfl)
      have e69_ : F42_ 335 200 = F7_ 335 200 := (s44_ 335 200 rfl).trans (e68_)
      have b70_ : -2147483648 ≤ F7_ 335 200 ∧ F7_ 335 200 ≤ 2147483647 := gi_g g8_ rfl
      have b71_ : 0 ≤ F 331 11 ∧ F 331 11 ≤ 1 := gi_g hgi rfl
      have b72_ : -2147483648 ≤ F 335 200 ∧ F 335 200 ≤ 2147483647 := gi_g hgi rfl
      exact ⟨F42_, 16, (Or.inr (Or.inr (rfl))), ⟨ga_len.symm, (List.append_assoc _ _ _).symm⟩, g43_, g54_, (Or.inr ⟨by omega, by omega⟩), (fun h9_ => absurd h9_ (by omega)), (Or.inr (Or.inr ⟨by omega, rfl, Eq.trans ((show F42_ 1 8 = F36_ 1 8 from (s44_ 1 8 (by first | exact fs_c rfl | exact (fs_n (by omega) (fs_n (by omega) (fs_n (by omega) (fs_n (by omega) (fs_n (by omega) (fs_n (by omega) rfl)))))))))) c35_, K, l, tl, (by have c1 := hk1_; have e2_ : F7_ 2 = F 2 := funext (fun j => (show F7_ 2 j = F 2 j from (s9_ 2 j (by first | exact fs_c rfl | exact (fs_n (by omega) (fs_n (by omega) (fs_n (by omega) (fs_n (by omega) (fs_n (by omega) (fs_n (by omega) (fs_n (by omega) rfl))))))))))); have e1_ : F7_ 1 1 = F 1 1 := (show F7_ 1 1 = F 1 1 from (s9_ 1 1 (by first | exact fs_c rfl | exact (fs_n (by omega) (fs_n (by omega) (fs_n (by omega) (fs_n (by omega) (fs_n (by omega) (fs_n (by omega) (fs_n (by omega) rfl)))))))))); unfold dmk at c1 ⊢; rw [e2_, e1_] at c1; exact c1), hk2_, c41_⟩)), (by rw [if_neg (by omega)]; omega), (⟨fun h9_ => absurd h9_ (by omega), fun _ => by omega⟩)⟩
    subst hA_
    subst hz_
    have g73_ : fs [(0, 0, 8, 8), (0, 0, 10, 10), (0, 0, 12, 12), (331, 331, 8, 8), (331, 331, 10, 11), (335, 335, 0, 100000), (338, 338, 0, 100000), (1, 1, 1, 1), (1, 1, 6, 8), (3, 6, 0, 100000), (105, 117, 0, 100000), (119, 119, 2, 3), (120, 120, 1, 1), (120, 120, 3, 4), (121, 121, 0, 100000), (123, 123, 0, 4), (124, 124, 0, 100000), (126, 330, 0, 100000)] F F51_ := fs_tr g39_ s53_ rfl
    refine fl_if_ne hm_3 rfl ⟨by omega, by omega⟩ (fun _ => ?_) (fun h => absurd (by omega) h)
    refine ga_aload_n (v := .ref 0) hm_3 rfl rfl rfl ?_
    refine fl_iconst hm_3 rfl ?_
    refine ga_putz (z := 1) hm_3 rfl sc_0 rfl rfl (by omega) ?_
    refine ga_aload_n (v := .ref 0) hm_3 rfl rfl rfl ?_
    refine ga_getr (b := 120) hm_3 rfl sc_0 rfl ?_
    have b74_ : 0 ≤ F51_ 120 3 ∧ F51_ 120 3 ≤ 41 := gi_g g52_ rfl
    refine ga_geti (z := F51_ 120 3) hm_3 rfl sc_120 rfl (fl_u_ne (by first | exact nc_ rfl | decide | omega)) ?_
    obtain ⟨F75_, q76_⟩ : ∃ Fq_, Fq_ = (fl_u F51_ 0 8 1) := ⟨_, rfl⟩
    rw [← q76_]
    have g77_ : gi F75_ := by rw [q76_]; exact gi_u (g52_) rfl (by omega) (by omega)
    have g78_ : fs [(0, 0, 8, 8), (0, 0, 10, 10), (0, 0, 12, 12), (331, 331, 8, 8), (331, 331, 10, 11), (335, 335, 0, 100000), (338, 338, 0, 100000), (1, 1, 1, 1), (1, 1, 6, 8), (3, 6, 0, 100000), (105, 117, 0, 100000), (119, 119, 2, 3), (120, 120, 1, 1), (120, 120, 3, 4), (121, 121, 0, 100000), (123, 123, 0, 4), (124, 124, 0, 100000), (126, 330, 0, 100000)] F F75_ := by rw [q76_]; exact fs_u (g73_) rfl
    refine gr_i (z := F51_ 120 3) hm_3 rfl rfl rfl ?_
    have e79_ : F51_ 1 1 = F36_ 1 1 := (s53_ 1 1 rfl).trans (rfl)
    have e80_ : F75_ 1 1 = F36_ 1 1 := by rw [q76_]; exact (fl_u_ne (by first | exact nc_ rfl | decide | omega)).trans (e79_)
    have b81_ : 0 ≤ F36_ 1 1 ∧ F36_ 1 1 ≤ 600 := gi_g g37_ rfl
    have e82_ : F36_ 331 11 = F7_ 331 11 := (s38_ 331 11 rfl).trans (rfl)
    have e83_ : F51_ 331 11 = F7_ 331 11 := (s53_ 331 11 rfl).trans (e82_)
    have e84_ : F75_ 331 11 = F7_ 331 11 := by rw [q76_]; exact (fl_u_ne (by first | exact nc_ rfl | decide | omega)).trans (e83_)
    have e85_ : F75_ 120 3 = F51_ 120 3 := by rw [q76_]; exact fl_u_ne (by first | exact nc_ rfl | decide | omega)
    have e86_ : F51_ 1 8 = F36_ 1 8 := (s53_ 1 8 rfl).trans (rfl)
    have e87_ : F75_ 1 8 = F36_ 1 8 := by rw [q76_]; exact (fl_u_ne (by first | exact nc_ rfl | decide | omega)).trans (e86_)
    have b88_ : 0 ≤ F36_ 1 8 ∧ F36_ 1 8 ≤ 100000 := gi_g g37_ rfl
    have e89_ : F36_ 0 10 = F7_ 0 10 := (s38_ 0 10 rfl).trans (rfl)
    have e90_ : F51_ 0 10 = F7_ 0 10 := (s53_ 0 10 rfl).trans (e89_)
    have e91_ : F75_ 0 10 = F7_ 0 10 := by rw [q76_]; exact (fl_u_ne (by first | exact nc_ rfl | decide | omega)).trans (e90_)
    have b92_ : 0 ≤ F7_ 0 10 ∧ F7_ 0 10 ≤ 60 := gi_g g8_ rfl
    have e93_ : F75_ 0 8 = 1 := by rw [q76_]; exact fl_u_eq
    have b94_ : 0 ≤ F7_ 331 11 ∧ F7_ 331 11 ≤ 1 := gi_g g8_ rfl
    exact ⟨F75_, rfl, g77_, g78_, (⟨by omega, by omega⟩), (⟨by omega, by omega⟩), (fun h9_ => absurd h9_ (by omega)), (⟨K, l, tl, (by have c1 := hk1_; have e2_ : F7_ 2 = F 2 := funext (fun j => (show F7_ 2 j = F 2 j from (s9_ 2 j (by first | exact fs_c rfl | exact (fs_n (by omega) (fs_n (by omega) (fs_n (by omega) (fs_n (by omega) (fs_n (by omega) (fs_n (by omega) (fs_n (by omega) rfl))))))))))); have e1_ : F7_ 1 1 = F 1 1 := (show F7_ 1 1 = F 1 1 from (s9_ 1 1 (by first | exact fs_c rfl | exact (fs_n (by omega) (fs_n (by omega) (fs_n (by omega) (fs_n (by omega) (fs_n (by omega) (fs_n (by omega) (fs_n (by omega) rfl)))))))))); unfold dmk at c1 ⊢; rw [e2_, e1_] at c1; exact c1), hk2_, by have h9_ := c47_.1; have h8_ := c47_.2; have h7_ : F75_ 120 3 = F51_ 120 3 := (show F75_ 120 3 = F51_ 120 3 from (by rw [q76_]; exact (fl_u_ne (by first | exact nc_ rfl | decide | omega)))); omega, ⟨⟨Eq.trans ((show F75_ 120 1 = F51_ 120 1 from (by rw [q76_]; exact (fl_u_ne (by first | exact nc_ rfl | decide | omega))))) c45_.1, c45_.2⟩, fnr_cg c46_ (fun j => (show F75_ 121 j = F51_ 121 j from (by rw [q76_]; exact (fl_u_ne (by first | exact nc_ rfl | decide | omega))))), ⟨Eq.trans ((show F75_ 120 3 = F51_ 120 3 from (by rw [q76_]; exact (fl_u_ne (by first | exact nc_ rfl | decide | omega))))) c47_.1, by rw [(show F75_ 120 3 = F51_ 120 3 from (by rw [q76_]; exact (fl_u_ne (by first | exact nc_ rfl | decide | omega))))]; exact c47_.2⟩, by have h7_ := c47_.1; have h8_ := c47_.2; exact sts_cg c48_ (fun r j hr => (show F75_ (r) j = F51_ (r) j from (by rw [q76_]; exact (fl_u_ne (by first | exact nc_ rfl | decide | omega))))) (fun j => (show F75_ 121 j = F51_ 121 j from (by rw [q76_]; exact (fl_u_ne (by first | exact nc_ rfl | decide | omega))))), by rw [(show F75_ 121 = F51_ 121 from funext (fun j => (show F75_ 121 j = F51_ 121 j from (by rw [q76_]; exact (fl_u_ne (by first | exact nc_ rfl | decide | omega)))))), (show F75_ 125 = F51_ 125 from funext (fun j => (show F75_ 125 j = F51_ 125 j from (by rw [q76_]; exact (fl_u_ne (by first | exact nc_ rfl | decide | omega))))))]; exact Eq.trans ((show F75_ 120 4 = F51_ 120 4 from (by rw [q76_]; exact (fl_u_ne (by first | exact nc_ rfl | decide | omega))))) c49_, by rw [(show F75_ 121 = F51_ 121 from funext (fun j => (show F75_ 121 j = F51_ 121 j from (by rw [q76_]; exact (fl_u_ne (by first | exact nc_ rfl | decide | omega)))))), (show F75_ 125 = F51_ 125 from funext (fun j => (show F75_ 125 j = F51_ 125 j from (by rw [q76_]; exact (fl_u_ne (by first | exact nc_ rfl | decide | omega))))))]; exact ⟨Eq.trans ((show F75_ 123 0 = F51_ 123 0 from (by rw [q76_]; exact (fl_u_ne (by first | exact nc_ rfl | decide | omega))))) c50_.1, Eq.trans ((show F75_ 123 1 = F51_ 123 1 from (by rw [q76_]; exact (fl_u_ne (by first | exact nc_ rfl | decide | omega))))) c50_.2.1, Eq.trans ((show F75_ 123 2 = F51_ 123 2 from (by rw [q76_]; exact (fl_u_ne (by first | exact nc_ rfl | decide | omega))))) c50_.2.2⟩⟩, by have h9_ := hk4_.1; have h8_ : 0 ≤ F36_ 105 2 ∧ F36_ 105 2 ≤ 6 := gi_g g37_ rfl; omega⟩), (Eq.trans ((Eq.trans (a := F75_ 1 8) (b := F51_ 1 8) (by rw [q76_]; exact (fl_u_ne (by first | exact nc_ rfl | decide | omega))) (show F51_ 1 8 = F36_ 1 8 from (s53_ 1 8 (by first | exact fs_c rfl | exact (fs_n (by omega) (fs_n (by omega) (fs_n (by omega) (fs_n (by omega) (fs_n (by omega) (fs_n (by omega) rfl))))))))))) c35_), (⟨by omega, by omega⟩), (by omega)⟩
  refine fl_thr hm_3 rfl rfl (by omega) (by omega) (Nat.le_of_ble_eq_true rfl) (fl_pos sc_0) ?_
  refine gw_i ?_
  have b95_ : 0 ≤ F 1 1 ∧ F 1 1 ≤ 600 := gi_g hgi rfl
  have b96_ : 0 ≤ F 1 8 ∧ F 1 8 ≤ 100000 := gi_g hgi rfl
  have b97_ : 0 ≤ F 0 8 ∧ F 0 8 ≤ 1 := gi_g hgi rfl
  have b98_ : 0 ≤ F 331 11 ∧ F 331 11 ≤ 1 := gi_g hgi rfl
  have b99_ : -2147483648 ≤ F 335 200 ∧ F 335 200 ≤ 2147483647 := gi_g hgi rfl
  exact ⟨F, 15, (Or.inl rfl), ⟨ga_len.symm, (List.append_assoc _ _ _).symm⟩, hgi, fs_refl, (Or.inl ⟨by omega, rfl⟩), (hfd), (Or.inl ⟨by omega, rfl, rfl⟩), (by rw [if_pos (by omega)]), (⟨fun _ => ⟨rfl, rfl⟩, fun h9_ => absurd (by omega) h9_⟩)⟩
/- CheapPlanner.steps -/
abbrev pq_6v (G : Nat → Nat → Option Nat) (F : fl_N) (X : xi_H)  : Outcome → xi_H → Prop := gqi (fun z A => ∃ F' : fl_N, fl_H sh_T G F' ++ X = A ∧ gi F' ∧ fs [] F F' ∧ (-2147483648 ≤ z ∧ z ≤ 2147483647) ∧ (F 331 11 = 1 ∧ z = F 335 200)) (fun j A => ∃ (F' : fl_N) (ci : Nat), (ci = 17) ∧ (387 + X.length = j ∧ fl_H sh_T G F' ++ (X ++ [gx ci]) = A) ∧ gi F' ∧ fs [] F F' ∧ (¬ F 331 11 = 1))
theorem mc_6v {G : Nat → Nat → Option Nat} (hG : gg G) (F : fl_N) (X : xi_H) (hgi : gi F)  : fl_M xi_ms 6 6 100 [.ref 0] (fl_H sh_T G F ++ X) (pq_6v G F X) := by
  intro fr lo hfr hlo
  show fl_R xi_ms 6 fr lo 0 [(0, .ref 0)] [] _ _
  refine ga_aload_n (v := .ref 0) hm_6 rfl rfl rfl ?_
  refine ga_getr (b := 331) hm_6 rfl sc_0 rfl ?_
  refine gIi (nY := 1) (F := 0) (L := 0) (As := []) (b := 331) (rest := []) hm_6 rfl hm_41 rfl rfl (fl_ob sc_331) rfl rfl rfl rfl rfl (by omega) (by omega) ?_
  intro f1_ l2_ h3_ h4_
  show fl_R xi_ms 41 f1_ l2_ 0 [(0, .ref 331)] [] _ _
  refine ga_aload_n (v := .ref 331) hm_41 rfl rfl rfl ?_
  have b5_ : 0 ≤ F 331 11 ∧ F 331 11 ≤ 1 := gi_g hgi rfl
  refine ga_geti (z := F 331 11) hm_41 rfl sc_331 rfl (rfl) ?_
  refine gr_i hm_41 rfl rfl (ga_nb (by omega)) ?_
  clear h3_ h4_ f1_ l2_
  refine fx_if_ne (a := F 331 11) hm_6 rfl ⟨by omega, by omega⟩ (fun h6_ => ?_) (fun h7_ => ?_)
  ·
    refine ga_aload_n (v := .ref 0) hm_6 rfl rfl rfl ?_
    refine ga_getr (b := 331) hm_6 rfl sc_0 rfl ?_
    refine gIi (nY := 1) (F := 0) (L := 0) (As := []) (b := 331) (rest := []) hm_6 rfl hm_132 rfl rfl (fl_ob sc_331) rfl rfl rfl rfl rfl (by omega) (by omega) ?_
    intro f8_ l9_ h10_ h11_
    show fl_R xi_ms 132 f8_ l9_ 0 [(0, .ref 331)] [] _ _
    refine ga_aload_n (v := .ref 331) hm_132 rfl rfl rfl ?_
    refine ga_getr (b := 335) hm_132 rfl sc_331 rfl ?_
    refine fl_sipush hm_132 rfl rfl ?_
    have b12_ : -2147483648 ≤ F 335 200 ∧ F 335 200 ≤ 2147483647 := gi_g hgi rfl
    refine ga_iald (z := 200) (w := F 335 200) hm_132 rfl sc_335 (by omega) (by omega) (by omega) (rfl) ?_
    refine gr_i hm_132 rfl rfl rfl ?_
    clear h10_ h11_ f8_ l9_
    refine gr_i (z := F 335 200) hm_6 rfl rfl rfl ?_
    exact ⟨F, rfl, hgi, fs_refl, (⟨by omega, by omega⟩), (⟨by have h9_ : 0 ≤ F 331 11 ∧ F 331 11 ≤ 1 := gi_g hgi rfl; omega, rfl⟩)⟩
  refine fl_thr hm_6 rfl rfl (by omega) (by omega) (Nat.le_of_ble_eq_true rfl) (fl_pos sc_0) ?_
  refine gw_i ?_
  exact ⟨F, 17, (rfl), ⟨ga_len.symm, (List.append_assoc _ _ _).symm⟩, hgi, fs_refl, (by omega)⟩
/- CheapPlanner.step -/
abbrev pq_7v (G : Nat → Nat → Option Nat) (F : fl_N) (X : xi_H) (k : Int) : Outcome → xi_H → Prop := gqi (fun z A => ∃ F' : fl_N, fl_H sh_T G F' ++ X = A ∧ gi F' ∧ fs [] F F' ∧ (-2147483648 ≤ z ∧ z ≤ 2147483647) ∧ ((F 331 11 = 1 ∧ 0 ≤ k ∧ k < F 335 200) ∧ z = F 339 k.toNat)) (fun j A => ∃ (F' : fl_N) (ci : Nat), (ci = 17) ∧ (387 + X.length = j ∧ fl_H sh_T G F' ++ (X ++ [gx ci]) = A) ∧ gi F' ∧ fs [] F F' ∧ (¬ (F 331 11 = 1 ∧ 0 ≤ k ∧ k < F 335 200)))
theorem mc_7v {G : Nat → Nat → Option Nat} (hG : gg G) (F : fl_N) (X : xi_H) (hgi : gi F) (k : Int) (hfd : fnd F) (hk : -2147483648 ≤ k ∧ k ≤ 2147483647) : fl_M xi_ms 7 6 100 [.ref 0, .int (Int32.ofInt k)] (fl_H sh_T G F ++ X) (pq_7v G F X k) := by
  intro fr lo hfr hlo
  show fl_R xi_ms 7 fr lo 0 [(0, .ref 0), (1, .int (Int32.ofInt k))] [] _ _
  refine ga_aload_n (v := .ref 0) hm_7 rfl rfl rfl ?_
  refine ga_getr (b := 331) hm_7 rfl sc_0 rfl ?_
  refine gIi (nY := 1) (F := 0) (L := 0) (As := []) (b := 331) (rest := []) hm_7 rfl hm_41 rfl rfl (fl_ob sc_331) rfl rfl rfl rfl rfl (by omega) (by omega) ?_
  intro f1_ l2_ h3_ h4_
  show fl_R xi_ms 41 f1_ l2_ 0 [(0, .ref 331)] [] _ _
  refine ga_aload_n (v := .ref 331) hm_41 rfl rfl rfl ?_
  have b5_ : 0 ≤ F 331 11 ∧ F 331 11 ≤ 1 := gi_g hgi rfl
  refine ga_geti (z := F 331 11) hm_41 rfl sc_331 rfl (rfl) ?_
  refine gr_i hm_41 rfl rfl (ga_nb (by omega)) ?_
  clear h3_ h4_ f1_ l2_
  refine fl_if_eq (a := F 331 11) hm_7 rfl ⟨by omega, by omega⟩ (fun h6_ => ?_) (fun h7_ => ?_)
  ·
    refine fl_thr hm_7 rfl rfl (by omega) (by omega) (Nat.le_of_ble_eq_true rfl) (fl_pos sc_0) ?_
    refine gw_i ?_
    have b8_ : -2147483648 ≤ F 335 200 ∧ F 335 200 ≤ 2147483647 := gi_g hgi rfl
    exact ⟨F, 17, (rfl), ⟨ga_len.symm, (List.append_assoc _ _ _).symm⟩, hgi, fs_refl, (by omega)⟩
  refine ga_iload_n (z := k) hm_7 rfl rfl ?_
  refine fl_if_lt (a := k) hm_7 rfl ⟨by omega, by omega⟩ (fun h9_ => ?_) (fun h10_ => ?_)
  ·
    refine fl_thr hm_7 rfl rfl (by omega) (by omega) (Nat.le_of_ble_eq_true rfl) (fl_pos sc_0) ?_
    refine gw_i ?_
    have b11_ : -2147483648 ≤ F 335 200 ∧ F 335 200 ≤ 2147483647 := gi_g hgi rfl
    exact ⟨F, 17, (rfl), ⟨ga_len.symm, (List.append_assoc _ _ _).symm⟩, hgi, fs_refl, (by omega)⟩
  refine ga_iload_n (z := k) hm_7 rfl rfl ?_
  refine ga_aload_n (v := .ref 0) hm_7 rfl rfl rfl ?_
  refine ga_getr (b := 331) hm_7 rfl sc_0 rfl ?_
  refine gIi (nY := 1) (F := 0) (L := 0) (As := []) (b := 331) (rest := [.int (Int32.ofInt k)]) hm_7 rfl hm_132 rfl rfl (fl_ob sc_331) rfl rfl rfl rfl rfl (by omega) (by omega) ?_
  intro f12_ l13_ h14_ h15_
  show fl_R xi_ms 132 f12_ l13_ 0 [(0, .ref 331)] [] _ _
  refine ga_aload_n (v := .ref 331) hm_132 rfl rfl rfl ?_
  refine ga_getr (b := 335) hm_132 rfl sc_331 rfl ?_
  refine fl_sipush hm_132 rfl rfl ?_
  have b16_ : -2147483648 ≤ F 335 200 ∧ F 335 200 ≤ 2147483647 := gi_g hgi rfl
  refine ga_iald (z := 200) (w := F 335 200) hm_132 rfl sc_335 (by omega) (by omega) (by omega) (rfl) ?_
  refine gr_i hm_132 rfl rfl rfl ?_
  clear h14_ h15_ f12_ l13_
  refine fl_icmp_lt (a := k) (b := F 335 200) hm_7 rfl ⟨by omega, by omega⟩ ⟨by omega, by omega⟩ (fun h17_ => ?_) (fun h18_ => ?_)
  ·
    have hf1 := hfd (by omega)
    refine ga_aload_n (v := .ref 0) hm_7 rfl rfl rfl ?_
    refine ga_getr (b := 331) hm_7 rfl sc_0 rfl ?_
    refine ga_iload_n (z := k) hm_7 rfl rfl ?_
    refine gIi (nY := 2) (F := 0) (L := 0) (As := [.int (Int32.ofInt k)]) (b := 331) (rest := []) hm_7 rfl hm_133 rfl rfl (fl_ob sc_331) rfl rfl rfl rfl rfl (by omega) (by omega) ?_
    intro f19_ l20_ h21_ h22_
    show fl_R xi_ms 133 f19_ l20_ 0 [(0, .ref 331), (1, .int (Int32.ofInt k))] [] _ _
    refine ga_aload_n (v := .ref 331) hm_133 rfl rfl rfl ?_
    refine ga_getr (b := 339) hm_133 rfl sc_331 rfl ?_
    refine ga_iload_n (z := k) hm_133 rfl rfl ?_
    have b23_ : 0 ≤ F 339 k.toNat ∧ F 339 k.toNat ≤ 40 := gi_g hgi rfl
    refine ga_iald (z := k) (w := F 339 k.toNat) hm_133 rfl sc_339 (by omega) (by omega) (by omega) (rfl) ?_
    refine gr_i hm_133 rfl rfl rfl ?_
    clear h21_ h22_ f19_ l20_
    refine gr_i (z := F 339 k.toNat) hm_7 rfl rfl rfl ?_
    exact ⟨F, rfl, hgi, fs_refl, (⟨by omega, by omega⟩), (⟨⟨by have h9_ : 0 ≤ F 331 11 ∧ F 331 11 ≤ 1 := gi_g hgi rfl; omega, by omega, by omega⟩, by first | rfl | omega⟩)⟩
  refine fl_thr hm_7 rfl rfl (by omega) (by omega) (Nat.le_of_ble_eq_true rfl) (fl_pos sc_0) ?_
  refine gw_i ?_
  exact ⟨F, 17, (rfl), ⟨ga_len.symm, (List.append_assoc _ _ _).symm⟩, hgi, fs_refl, (by omega)⟩
/- CheapPlannerModel.steps -/
abbrev pq_67v (G : Nat → Nat → Option Nat) (F : fl_N) (X : xi_H)  : Outcome → xi_H → Prop := gqi (fun z A => ∃ F' : fl_N, fl_H sh_T G F' ++ X = A ∧ gi F' ∧ fs [(344, 344, 0, 0)] F F' ∧ (-2147483648 ≤ z ∧ z ≤ 2147483647) ∧ ((F' 344 0 = 1 ∧ ¬ F 344 13 = 1) ∨ (F' 344 0 = 0 ∧ F 344 13 = 1 ∧ z = F 344 58))) gqn
theorem mc_67v {G : Nat → Nat → Option Nat} (hG : gg G) (F : fl_N) (X : xi_H) (hgi : gi F)  : fl_M xi_ms 67 0 0 [.ref 344] (fl_H sh_T G F ++ X) (pq_67v G F X) := by
  intro fr lo hfr hlo
  show fl_R xi_ms 67 fr lo 0 [(0, .ref 344)] [] _ _
  refine ga_aload_n (v := .ref 344) hm_67 rfl rfl rfl ?_
  refine ga_aload_n (v := .ref 344) hm_67 rfl rfl rfl ?_
  have b1_ : 0 ≤ F 344 13 ∧ F 344 13 ≤ 1 := gi_g hgi rfl
  refine ga_geti (z := F 344 13) hm_67 rfl sc_344 rfl (rfl) ?_
  refine fl_if_eq (a := F 344 13) hm_67 rfl ⟨by omega, by omega⟩ (fun h2_ => ?_) (fun h3_ => ?_)
  ·
    refine fl_iconst hm_67 rfl ?_
    refine ga_puti (z := 1) hm_67 rfl sc_344 rfl rfl ?_
    refine ga_aload_n (v := .ref 344) hm_67 rfl rfl rfl ?_
    refine ga_geti (z := F 344 13) hm_67 rfl sc_344 rfl (fl_u_ne (by first | exact nc_ rfl | decide | omega)) ?_
    refine fl_if_eq (a := F 344 13) hm_67 rfl ⟨by omega, by omega⟩ (fun h4_ => ?_) (fun h5_ => ?_)
    ·
      refine fl_iconst hm_67 rfl ?_
      obtain ⟨F6_, q7_⟩ : ∃ Fq_, Fq_ = (fl_u F 344 0 1) := ⟨_, rfl⟩
      rw [← q7_]
      have g8_ : gi F6_ := by rw [q7_]; exact gi_u (hgi) rfl (by omega) (by omega)
      have g9_ : fs [(344, 344, 0, 0)] F F6_ := by rw [q7_]; exact fs_u (fs_refl) rfl
      refine gr_i (z := 0) hm_67 rfl rfl rfl ?_
      have e10_ : F6_ 344 0 = 1 := by rw [q7_]; exact fl_u_eq
      have b11_ : 0 ≤ F 344 58 ∧ F 344 58 ≤ 200 := gi_g hgi rfl
      have e12_ : F6_ 344 13 = F 344 13 := by rw [q7_]; exact fl_u_ne (by first | exact nc_ rfl | decide | omega)
      have e13_ : F6_ 344 58 = F 344 58 := by rw [q7_]; exact fl_u_ne (by first | exact nc_ rfl | decide | omega)
      exact ⟨F6_, rfl, g8_, g9_, (⟨by omega, by omega⟩), (by have h9_ : 0 ≤ F 344 13 ∧ F 344 13 ≤ 1 := gi_g hgi rfl; first | exact Or.inl ⟨by omega, by omega⟩ | exact Or.inr ⟨by omega, by omega, by omega⟩)⟩
    exfalso; omega
  refine fl_iconst hm_67 rfl ?_
  refine fl_goto hm_67 rfl ?_
  refine ga_puti (z := 0) hm_67 rfl sc_344 rfl rfl ?_
  refine ga_aload_n (v := .ref 344) hm_67 rfl rfl rfl ?_
  refine ga_geti (z := F 344 13) hm_67 rfl sc_344 rfl (fl_u_ne (by first | exact nc_ rfl | decide | omega)) ?_
  refine fl_if_eq (a := F 344 13) hm_67 rfl ⟨by omega, by omega⟩ (fun h14_ => ?_) (fun h15_ => ?_)
  · exfalso; omega
  refine ga_aload_n (v := .ref 344) hm_67 rfl rfl rfl ?_
  have b16_ : 0 ≤ F 344 58 ∧ F 344 58 ≤ 200 := gi_g hgi rfl
  refine ga_geti (z := F 344 58) hm_67 rfl sc_344 rfl (fl_u_ne (by first | exact nc_ rfl | decide | omega)) ?_
  refine fl_goto hm_67 rfl ?_
  obtain ⟨F17_, q18_⟩ : ∃ Fq_, Fq_ = (fl_u F 344 0 0) := ⟨_, rfl⟩
  rw [← q18_]
  have g19_ : gi F17_ := by rw [q18_]; exact gi_u (hgi) rfl (by omega) (by omega)
  have g20_ : fs [(344, 344, 0, 0)] F F17_ := by rw [q18_]; exact fs_u (fs_refl) rfl
  refine gr_i (z := F 344 58) hm_67 rfl rfl rfl ?_
  have e21_ : F17_ 344 0 = 0 := by rw [q18_]; exact fl_u_eq
  have e22_ : F17_ 344 13 = F 344 13 := by rw [q18_]; exact fl_u_ne (by first | exact nc_ rfl | decide | omega)
  have e23_ : F17_ 344 58 = F 344 58 := by rw [q18_]; exact fl_u_ne (by first | exact nc_ rfl | decide | omega)
  exact ⟨F17_, rfl, g19_, g20_, (⟨by omega, by omega⟩), (by have h9_ : 0 ≤ F 344 13 ∧ F 344 13 ≤ 1 := gi_g hgi rfl; first | exact Or.inl ⟨by omega, by omega⟩ | exact Or.inr ⟨by omega, by omega, by omega⟩)⟩
/- CheapPlannerModel.step -/
abbrev pq_68v (G : Nat → Nat → Option Nat) (F : fl_N) (X : xi_H) (k : Int) : Outcome → xi_H → Prop := gqi (fun z A => ∃ F' : fl_N, fl_H sh_T G F' ++ X = A ∧ gi F' ∧ fs [(344, 344, 0, 0)] F F' ∧ (-2147483648 ≤ z ∧ z ≤ 2147483647) ∧ ((F' 344 0 = 1 ∧ ¬ (F 344 13 = 1 ∧ 0 ≤ k ∧ k < F 344 58)) ∨ (F' 344 0 = 0 ∧ (F 344 13 = 1 ∧ 0 ≤ k ∧ k < F 344 58) ∧ z = F 381 k.toNat))) gqn
theorem mc_68v {G : Nat → Nat → Option Nat} (hG : gg G) (F : fl_N) (X : xi_H) (hgi : gi F) (k : Int) (hk : -2147483648 ≤ k ∧ k ≤ 2147483647) : fl_M xi_ms 68 0 0 [.ref 344, .int (Int32.ofInt k)] (fl_H sh_T G F ++ X) (pq_68v G F X k) := by
  intro fr lo hfr hlo
  show fl_R xi_ms 68 fr lo 0 [(0, .ref 344), (1, .int (Int32.ofInt k))] [] _ _
  refine ga_aload_n (v := .ref 344) hm_68 rfl rfl rfl ?_
  refine ga_aload_n (v := .ref 344) hm_68 rfl rfl rfl ?_
  have b1_ : 0 ≤ F 344 13 ∧ F 344 13 ≤ 1 := gi_g hgi rfl
  refine ga_geti (z := F 344 13) hm_68 rfl sc_344 rfl (rfl) ?_
  refine fl_if_eq (a := F 344 13) hm_68 rfl ⟨by omega, by omega⟩ (fun h2_ => ?_) (fun h3_ => ?_)
  ·
    refine fl_iconst hm_68 rfl ?_
    refine fl_goto hm_68 rfl ?_
    refine ga_puti (z := 1) hm_68 rfl sc_344 rfl rfl ?_
    refine ga_aload_n (v := .ref 344) hm_68 rfl rfl rfl ?_
    refine ga_geti (z := 1) hm_68 rfl sc_344 rfl (fl_u_eq) ?_
    refine fl_if_le hm_68 rfl ⟨by omega, by omega⟩ (fun h => absurd h (by omega)) (fun _ => ?_)
    refine fl_iconst hm_68 rfl ?_
    refine fl_goto hm_68 rfl ?_
    obtain ⟨F4_, q5_⟩ : ∃ Fq_, Fq_ = (fl_u F 344 0 1) := ⟨_, rfl⟩
    rw [← q5_]
    have g6_ : gi F4_ := by rw [q5_]; exact gi_u (hgi) rfl (by omega) (by omega)
    have g7_ : fs [(344, 344, 0, 0)] F F4_ := by rw [q5_]; exact fs_u (fs_refl) rfl
    refine gr_i (z := 0) hm_68 rfl rfl rfl ?_
    have e8_ : F4_ 344 0 = 1 := by rw [q5_]; exact fl_u_eq
    have b9_ : 0 ≤ F 344 58 ∧ F 344 58 ≤ 200 := gi_g hgi rfl
    have e10_ : F4_ 344 13 = F 344 13 := by rw [q5_]; exact fl_u_ne (by first | exact nc_ rfl | decide | omega)
    have e11_ : F4_ 344 58 = F 344 58 := by rw [q5_]; exact fl_u_ne (by first | exact nc_ rfl | decide | omega)
    have e12_ : F4_ 381 k.toNat = F 381 k.toNat := by rw [q5_]; exact fl_u_ne (by first | exact nc_ rfl | decide | omega)
    exact ⟨F4_, rfl, g6_, g7_, (⟨by omega, by omega⟩), (by have h9_ : 0 ≤ F 344 13 ∧ F 344 13 ≤ 1 := gi_g hgi rfl; first | exact Or.inl ⟨by omega, by omega⟩ | exact Or.inr ⟨by omega, ⟨by omega, by omega, by omega⟩, by omega⟩)⟩
  refine ga_iload_n (z := k) hm_68 rfl rfl ?_
  refine fl_if_lt (a := k) hm_68 rfl ⟨by omega, by omega⟩ (fun h13_ => ?_) (fun h14_ => ?_)
  ·
    refine fl_iconst hm_68 rfl ?_
    refine fl_goto hm_68 rfl ?_
    refine ga_puti (z := 1) hm_68 rfl sc_344 rfl rfl ?_
    refine ga_aload_n (v := .ref 344) hm_68 rfl rfl rfl ?_
    refine ga_geti (z := 1) hm_68 rfl sc_344 rfl (fl_u_eq) ?_
    refine fl_if_le hm_68 rfl ⟨by omega, by omega⟩ (fun h => absurd h (by omega)) (fun _ => ?_)
    refine fl_iconst hm_68 rfl ?_
    refine fl_goto hm_68 rfl ?_
    obtain ⟨F15_, q16_⟩ : ∃ Fq_, Fq_ = (fl_u F 344 0 1) := ⟨_, rfl⟩
    rw [← q16_]
    have g17_ : gi F15_ := by rw [q16_]; exact gi_u (hgi) rfl (by omega) (by omega)
    have g18_ : fs [(344, 344, 0, 0)] F F15_ := by rw [q16_]; exact fs_u (fs_refl) rfl
    refine gr_i (z := 0) hm_68 rfl rfl rfl ?_
    have e19_ : F15_ 344 0 = 1 := by rw [q16_]; exact fl_u_eq
    have b20_ : 0 ≤ F 344 58 ∧ F 344 58 ≤ 200 := gi_g hgi rfl
    have e21_ : F15_ 344 13 = F 344 13 := by rw [q16_]; exact fl_u_ne (by first | exact nc_ rfl | decide | omega)
    have e22_ : F15_ 344 58 = F 344 58 := by rw [q16_]; exact fl_u_ne (by first | exact nc_ rfl | decide | omega)
    have e23_ : F15_ 381 k.toNat = F 381 k.toNat := by rw [q16_]; exact fl_u_ne (by first | exact nc_ rfl | decide | omega)
    exact ⟨F15_, rfl, g17_, g18_, (⟨by omega, by omega⟩), (by have h9_ : 0 ≤ F 344 13 ∧ F 344 13 ≤ 1 := gi_g hgi rfl; first | exact Or.inl ⟨by omega, by omega⟩ | exact Or.inr ⟨by omega, ⟨by omega, by omega, by omega⟩, by omega⟩)⟩
  refine ga_iload_n (z := k) hm_68 rfl rfl ?_
  refine ga_aload_n (v := .ref 344) hm_68 rfl rfl rfl ?_
  have b24_ : 0 ≤ F 344 58 ∧ F 344 58 ≤ 200 := gi_g hgi rfl
  refine ga_geti (z := F 344 58) hm_68 rfl sc_344 rfl (rfl) ?_
  refine fl_icmp_lt (a := k) (b := F 344 58) hm_68 rfl ⟨by omega, by omega⟩ ⟨by omega, by omega⟩ (fun h25_ => ?_) (fun h26_ => ?_)
  ·
    refine fl_iconst hm_68 rfl ?_
    refine ga_puti (z := 0) hm_68 rfl sc_344 rfl rfl ?_
    refine ga_aload_n (v := .ref 344) hm_68 rfl rfl rfl ?_
    refine ga_geti (z := 0) hm_68 rfl sc_344 rfl (fl_u_eq) ?_
    refine fl_if_le hm_68 rfl ⟨by omega, by omega⟩ (fun _ => ?_) (fun h => absurd (by omega) h)
    refine ga_aload_n (v := .ref 344) hm_68 rfl rfl rfl ?_
    refine ga_getr (b := 381) hm_68 rfl sc_344 rfl ?_
    refine ga_iload_n (z := k) hm_68 rfl rfl ?_
    have b27_ : 0 ≤ F 381 k.toNat ∧ F 381 k.toNat ≤ 39 := gi_g hgi rfl
    refine ga_iald (z := k) (w := F 381 k.toNat) hm_68 rfl sc_381 (by omega) (by omega) (by omega) (fl_u_ne (by first | exact nc_ rfl | decide | omega)) ?_
    obtain ⟨F28_, q29_⟩ : ∃ Fq_, Fq_ = (fl_u F 344 0 0) := ⟨_, rfl⟩
    rw [← q29_]
    have g30_ : gi F28_ := by rw [q29_]; exact gi_u (hgi) rfl (by omega) (by omega)
    have g31_ : fs [(344, 344, 0, 0)] F F28_ := by rw [q29_]; exact fs_u (fs_refl) rfl
    refine gr_i (z := F 381 k.toNat) hm_68 rfl rfl rfl ?_
    have e32_ : F28_ 344 0 = 0 := by rw [q29_]; exact fl_u_eq
    have e33_ : F28_ 344 13 = F 344 13 := by rw [q29_]; exact fl_u_ne (by first | exact nc_ rfl | decide | omega)
    have e34_ : F28_ 344 58 = F 344 58 := by rw [q29_]; exact fl_u_ne (by first | exact nc_ rfl | decide | omega)
    have e35_ : F28_ 381 k.toNat = F 381 k.toNat := by rw [q29_]; exact fl_u_ne (by first | exact nc_ rfl | decide | omega)
    exact ⟨F28_, rfl, g30_, g31_, (⟨by omega, by omega⟩), (by have h9_ : 0 ≤ F 344 13 ∧ F 344 13 ≤ 1 := gi_g hgi rfl; first | exact Or.inl ⟨by omega, by omega⟩ | exact Or.inr ⟨by omega, ⟨by omega, by omega, by omega⟩, by omega⟩)⟩
  refine fl_iconst hm_68 rfl ?_
  refine fl_goto hm_68 rfl ?_
  refine ga_puti (z := 1) hm_68 rfl sc_344 rfl rfl ?_
  refine ga_aload_n (v := .ref 344) hm_68 rfl rfl rfl ?_
  refine ga_geti (z := 1) hm_68 rfl sc_344 rfl (fl_u_eq) ?_
  refine fl_if_le hm_68 rfl ⟨by omega, by omega⟩ (fun h => absurd h (by omega)) (fun _ => ?_)
  refine fl_iconst hm_68 rfl ?_
  refine fl_goto hm_68 rfl ?_
  obtain ⟨F36_, q37_⟩ : ∃ Fq_, Fq_ = (fl_u F 344 0 1) := ⟨_, rfl⟩
  rw [← q37_]
  have g38_ : gi F36_ := by rw [q37_]; exact gi_u (hgi) rfl (by omega) (by omega)
  have g39_ : fs [(344, 344, 0, 0)] F F36_ := by rw [q37_]; exact fs_u (fs_refl) rfl
  refine gr_i (z := 0) hm_68 rfl rfl rfl ?_
  have e40_ : F36_ 344 0 = 1 := by rw [q37_]; exact fl_u_eq
  have e41_ : F36_ 344 13 = F 344 13 := by rw [q37_]; exact fl_u_ne (by first | exact nc_ rfl | decide | omega)
  have e42_ : F36_ 344 58 = F 344 58 := by rw [q37_]; exact fl_u_ne (by first | exact nc_ rfl | decide | omega)
  have e43_ : F36_ 381 k.toNat = F 381 k.toNat := by rw [q37_]; exact fl_u_ne (by first | exact nc_ rfl | decide | omega)
  exact ⟨F36_, rfl, g38_, g39_, (⟨by omega, by omega⟩), (by have h9_ : 0 ≤ F 344 13 ∧ F 344 13 ≤ 1 := gi_g hgi rfl; first | exact Or.inl ⟨by omega, by omega⟩ | exact Or.inr ⟨by omega, ⟨by omega, by omega, by omega⟩, by omega⟩)⟩

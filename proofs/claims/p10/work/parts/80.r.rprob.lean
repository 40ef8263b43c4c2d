/- CheapPlannerModel.problem -/
abbrev pq_64v (G : Nat → Nat → Option Nat) (F : fl_N) (X : xi_H) (K : fl_N) (nm : Int) (ts pl : List Int) (ps : List (List Int)) (D : List ad_T) : Outcome → xi_H → Prop := gqi (fun z A => ∃ F' : fl_N, fl_H sh_T G F' ++ X = A ∧ gi F' ∧ fs [(344, 344, 0, 1), (344, 344, 4, 5), (344, 344, 8, 10), (344, 344, 12, 13), (344, 344, 33, 33), (344, 344, 36, 36), (344, 344, 38, 39), (344, 344, 46, 48), (344, 344, 60, 60), (344, 344, 64, 64), (347, 348, 0, 100000), (358, 358, 5, 5), (360, 362, 40, 43), (363, 363, 80, 87), (364, 372, 0, 100000), (384, 384, 0, 100000)] F F' ∧ (-2147483648 ≤ z ∧ z ≤ 2147483647) ∧ ((F 344 11 = 0 ∧ F' 344 1 = F 344 1) ∨ (F 344 11 = 1 ∧ F' 344 1 = 0)) ∧ (pli F') ∧ (F' 344 12 = 1 → sob F' ∧ F' 344 36 ≤ 40) ∧ ((F 344 11 = 0 ∧ F' 344 0 = 1 ∧ F' 344 8 = F 344 8) ∨ (F 344 11 = 1 ∧ ((∃ e, sp_prb K nm ts pl ps = .inl e ∧ F' 344 8 = e.1 + 10 * e.2 ∧ F' 344 0 = 2) ∨ (∃ l tl, sp_prb K nm ts pl ps = .inr (l, tl) ∧ F' 344 8 = 0 ∧ ((F' 344 0 = 3 ∧ (40 < nfc ps tl 216 ∨ 40 < (stP tl D D.length).length)) ∨ (F' 344 0 = 0 ∧ nfc ps tl 216 ≤ 40 ∧ (stP tl D D.length).length ≤ 40 ∧ z = ((stP tl D D.length).length : Int) ∧ F' 344 39 = ((stP tl D D.length).length : Int) ∧ rsts F' D (stP tl D D.length) ∧ pbR F' ps tl (prb_i K nm ts pl ps) (prb_g K nm ts pl ps) ∧ rpn (F' 364) (F' 344 33) l)))))) ∧ ((F' 344 0 = 0 → F' 344 12 = 1 ∧ F' 344 60 = 0) ∧ (F' 344 0 = 1 → F' 344 12 = F 344 12) ∧ (F' 344 0 = 2 ∨ F' 344 0 = 3 → F' 344 12 = 0) ∧ (F' 344 0 = 1 → F' 344 13 = F 344 13) ∧ (¬ F' 344 0 = 1 → F' 344 13 = 0) ∧ (F' 344 0 = 1 → ∀ r j, (r = 364 ∨ r = 367 ∨ r = 368) → F' r j = F r j))) gqn
set_option maxHeartbeats 16000000 in
theorem mg_64_99v {G : Nat → Nat → Option Nat} (hG : gg G) (F : fl_N) (X : xi_H) (hgi : gi F) (K : fl_N) (nm : Int) (ts pl : List Int) (ps : List (List Int)) (D : List ad_T) (hin : kin K (F 344 1)) (htx : ∀ j : Nat, (j : Int) < F 344 1 → F 345 j = K 2 j) (hkw : ∀ j : Nat, j < 76 → F 346 j = ra_at 346 j) (hdm : F 344 11 = 1 → nrel nm (F 344 14) ∧ rpn (F 349) (F 344 15) ts ∧ rpn (F 350) (F 344 17) pl ∧ (rprd F ps ∧ ps.length = pl.length)) (hcs : F 344 11 = 1 → ∀ j : Nat, (j : Int) < F 344 21 → 0 ≤ F 357 j) (hpl : pli F) (hpb : F 344 12 = 1 → sob F ∧ F 344 36 ≤ 40) (hDD : F 344 11 = 1 → rdar F D ∧ (D.length : Int) = F 344 21 ∧ ∀ d ∈ D, adok ps d ∧ d.1.length ≤ 3) (fr lo : Nat) (hfr : 8 ≤ fr) (hlo : 188 ≤ lo) (Fg : fl_N) (ft : Int) (l : List Int) (tl : List Int) (hg_Fg : gi Fg) (hf_Fg : fs [(344, 344, 0, 1), (344, 344, 4, 5), (344, 344, 8, 10), (344, 344, 12, 13), (344, 344, 33, 33), (344, 344, 36, 36), (344, 344, 38, 39), (344, 344, 46, 48), (344, 344, 60, 60), (344, 344, 64, 64), (347, 348, 0, 100000), (358, 358, 5, 5), (360, 362, 40, 43), (363, 363, 80, 87), (364, 372, 0, 100000), (384, 384, 0, 100000)] F Fg) (hftb : 0 ≤ ft ∧ ft ≤ 1) (h11g : F 344 11 = 1) (co1_ : sp_prb K nm ts pl ps = .inr (l, tl)) (htg : trm Fg 5 2 l tl) (h36g : Fg 344 36 = (nfc ps tl 216 : Int)) (hf1g : ft = 1 → nfc ps tl 216 ≤ 40) (hf0g : ft = 0 → 40 < nfc ps tl 216) (hrcg : rcl Fg 40 (prb_g K nm ts pl ps)) (hrng : Fg 358 5 = ((prb_g K nm ts pl ps).length : Int)) (h39g : Fg 344 39 = 0) (h0g_ : Fg 344 0 = 0) (h8g : Fg 344 8 = 0) (h1g : Fg 344 1 = 0) (h12g : Fg 344 12 = 0 ∧ Fg 344 13 = 0) (h60g : Fg 344 60 = 0) (hfng : fnr Fg 366 ps tl 216) (h38g : Fg 344 36 ≤ 40 → Fg 344 38 = msk (Fg 366) (fun j : Nat => (j : Int)) 0 (prb_i K nm ts pl ps)) : fl_R xi_ms 64 fr lo 99 [(1, .int (Int32.ofInt ft)), (0, .ref 344)] [] (fl_H sh_T G Fg ++ X) (pq_64v G F X K nm ts pl ps D) := by
  have hb1 : 0 ≤ F 344 1 ∧ F 344 1 ≤ 600 := gi_g hgi rfl
  have hb11 : 0 ≤ F 344 11 ∧ F 344 11 ≤ 1 := gi_g hgi rfl
  have hb11 : 0 ≤ F 344 11 ∧ F 344 11 ≤ 1 := gi_g hgi rfl
  obtain ⟨hnm, hts, hrpl, hps⟩ := hdm (by omega)
  obtain ⟨hD, hDl, hDw⟩ := hDD (by omega)
  have hb21 : 0 ≤ F 344 21 ∧ F 344 21 ≤ 5 := gi_g hgi rfl
  refine fl_iconst hm_64 rfl ?_
  refine ga_istore_n (lv2 := [(2, .int (Int32.ofInt 0)), (1, .int (Int32.ofInt ft)), (0, .ref 344)]) hm_64 rfl (Nat.le_of_ble_eq_true rfl) rfl ?_
  have b24_ : 0 ≤ Fg 344 36 ∧ Fg 344 36 ≤ 216 := gi_g hg_Fg rfl
  have L22_ : ∀ (n21_ : Nat) (ft : Int) (a : Int) (F1 : fl_N), (5 - a : Int).toNat = n21_ → (gi F1) → (fs [(344, 344, 39, 39), (367, 372, 0, 100000), (384, 384, 0, 100000)] Fg F1) → (0 ≤ a ∧ a ≤ 5) → (0 ≤ ft ∧ ft ≤ 1) → (sob F1) → (ft = 1 → Fg 344 36 ≤ 40) → (a ≤ (D.length : Int)) → (ft = 0 → 40 < nfc ps tl 216 ∨ 40 < (stP tl D D.length).length) → (ft = 1 → F1 344 39 = ((stP tl D a.toNat).length : Int) ∧ rsts F1 D (stP tl D a.toNat)) → fl_R xi_ms 64 fr lo 101 [(2, .int (Int32.ofInt a)), (1, .int (Int32.ofInt ft)), (0, .ref 344)] [] (fl_H sh_T G F1 ++ X) (pq_64v G F X K nm ts pl ps D) := by
    intro n21_
    induction n21_ using Nat.strongRecOn with
    | ind n21_ ih23_ =>
    intro ft a F1 hn25_ hg_F1 hf_F1 ha hft hs1 hf4 hal ho hst
    have g26_ : fs [(344, 344, 0, 1), (344, 344, 4, 5), (344, 344, 8, 10), (344, 344, 12, 13), (344, 344, 33, 33), (344, 344, 36, 36), (344, 344, 38, 39), (344, 344, 46, 48), (344, 344, 60, 60), (344, 344, 64, 64), (347, 348, 0, 100000), (358, 358, 5, 5), (360, 362, 40, 43), (363, 363, 80, 87), (364, 372, 0, 100000), (384, 384, 0, 100000)] F F1 := fs_tr hf_Fg hf_F1 rfl
    refine ga_iload_n (z := a) hm_64 rfl rfl ?_
    refine ga_aload_n (v := .ref 344) hm_64 rfl rfl rfl ?_
    have e27_ : Fg 344 21 = F 344 21 := (hf_Fg 344 21 rfl).trans (rfl)
    have e28_ : F1 344 21 = F 344 21 := (hf_F1 344 21 rfl).trans (e27_)
    have b29_ : 0 ≤ F 344 21 ∧ F 344 21 ≤ 5 := gi_g hgi rfl
    refine ga_geti (z := F 344 21) hm_64 rfl sc_344 rfl (e28_) ?_
    refine fl_icmp_ge (a := a) (b := F 344 21) hm_64 rfl ⟨by omega, by omega⟩ ⟨by omega, by omega⟩ (fun h30_ => ?_) (fun h31_ => ?_)
    ·
      refine ga_iload_n (z := ft) hm_64 rfl rfl ?_
      refine fx_if_ne (a := ft) hm_64 rfl ⟨by omega, by omega⟩ (fun h32_ => ?_) (fun h33_ => ?_)
      ·
        refine ga_aload_n (v := .ref 344) hm_64 rfl rfl rfl ?_
        refine ga_aload_n (v := .ref 344) hm_64 rfl rfl rfl ?_
        refine fl_iconst hm_64 rfl ?_
        refine fl_bipush hm_64 rfl rfl ?_
        refine ga_aload_n (v := .ref 344) hm_64 rfl rfl rfl ?_
        refine ga_getr (b := 358) hm_64 rfl sc_344 rfl ?_
        refine fl_iconst hm_64 rfl ?_
        have e34_ : F1 358 5 = Fg 358 5 := (hf_F1 358 5 rfl).trans (rfl)
        have b35_ : 0 ≤ Fg 358 5 ∧ Fg 358 5 ≤ 4 := gi_g hg_Fg rfl
        refine ga_iald (z := 5) (w := Fg 358 5) hm_64 rfl sc_358 (by omega) (by omega) (by omega) (e34_) ?_
        refine fl_iconst hm_64 rfl ?_
        refine gVl (nY := 9) (F := 2) (L := 47) (As := [.int (Int32.ofInt 5), .int (Int32.ofInt 40), .int (Int32.ofInt (Fg 358 5)), .int (Int32.ofInt 0)]) (b := 344) (rest := [.ref 344]) hm_64 rfl hm_156 rfl rfl (fl_ob sc_344) rfl rfl rfl rfl rfl (by omega) (by omega) (mc_156 hG F1 X hg_F1 (5) (40) (Fg 358 5) (0) ((prb_g K nm ts pl ps)) (ps) (⟨by omega, by omega⟩) (by omega) (⟨by omega, by omega⟩) (⟨by omega, by omega⟩) (rcl_lfr hrcg (show lfr 0 0 0 Fg F1 from (lfr_fg lfr_r hf_F1 rfl)) (Or.inr (Nat.zero_le _))) (by first | omega | (show ((prb_g K nm ts pl ps).length : Int) = F1 358 5; omega)) (fun x hx => ((prb_ok hps.2.symm co1_).2.2 x hx).1) ((rprd_fs (rprd_fs hps.1 hf_Fg (fun r j hj => (fs_n (by omega) (fs_n (by omega) (fs_n (by omega) (fs_n (by omega) (fs_n (by omega) (fs_n (by omega) (fs_n (by omega) (by first | exact fs_c rfl | exact (fs_n (by omega) (fs_n (by omega) (fs_n (by omega) (fs_n (by omega) (fs_n (by omega) (fs_n (by omega) (fs_n (by omega) (fs_n (by omega) (fs_n (by omega) rfl))))))))))))))))))) hf_F1 (by first | exact fs_rg rfl | exact fun r j hj => (fs_n (by omega) (fs_n (by omega) (fs_n (by omega) rfl))))))) (fun _ _ h => False.elim h) ?_
        rintro z36_ A1_ ⟨hA_, c37_, c38_⟩
        subst hA_
        refine ga_putl hm_64 rfl sc_344 rfl rfl ?_
        refine ga_aload_n (v := .ref 344) hm_64 rfl rfl rfl ?_
        refine ga_aload_n (v := .ref 344) hm_64 rfl rfl rfl ?_
        refine fl_iconst hm_64 rfl ?_
        refine fl_bipush hm_64 rfl rfl ?_
        refine ga_aload_n (v := .ref 344) hm_64 rfl rfl rfl ?_
        refine ga_getr (b := 358) hm_64 rfl sc_344 rfl ?_
        refine fl_iconst hm_64 rfl ?_
        refine ga_iald (z := 5) (w := Fg 358 5) hm_64 rfl sc_358 (by omega) (by omega) (by omega) ((fl_u_ne (by first | exact nc_ rfl | decide | omega)).trans (e34_)) ?_
        refine fl_iconst hm_64 rfl ?_
        obtain ⟨F39_, q40_⟩ : ∃ Fq_, Fq_ = (fl_u F1 344 46 z36_) := ⟨_, rfl⟩
        rw [← q40_]
        have g41_ : gi F39_ := by rw [q40_]; exact gi_u (hg_F1) rfl (by omega) (by omega)
        have g42_ : fs [(344, 344, 0, 1), (344, 344, 4, 5), (344, 344, 8, 10), (344, 344, 12, 13), (344, 344, 33, 33), (344, 344, 36, 36), (344, 344, 38, 39), (344, 344, 46, 48), (344, 344, 60, 60), (344, 344, 64, 64), (347, 348, 0, 100000), (358, 358, 5, 5), (360, 362, 40, 43), (363, 363, 80, 87), (364, 372, 0, 100000), (384, 384, 0, 100000)] F F39_ := by rw [q40_]; exact fs_u (g26_) rfl
        have e43_ : F39_ 358 5 = Fg 358 5 := by rw [q40_]; exact (fl_u_ne (by first | exact nc_ rfl | decide | omega)).trans (e34_)
        refine gVl (nY := 9) (F := 2) (L := 47) (As := [.int (Int32.ofInt 5), .int (Int32.ofInt 40), .int (Int32.ofInt (Fg 358 5)), .int (Int32.ofInt 1)]) (b := 344) (rest := [.ref 344]) hm_64 rfl hm_156 rfl rfl (fl_ob sc_344) rfl rfl rfl rfl rfl (by omega) (by omega) (mc_156 hG F39_ X g41_ (5) (40) (Fg 358 5) (1) ((prb_g K nm ts pl ps)) (ps) (⟨by omega, by omega⟩) (by omega) (⟨by omega, by omega⟩) (⟨by omega, by omega⟩) (rcl_lfr hrcg (show lfr 0 0 0 Fg F39_ from (by rw [q40_]; exact (lfr_uo (lfr_fg lfr_r hf_F1 rfl) rfl))) (Or.inr (Nat.zero_le _))) (by first | omega | (show ((prb_g K nm ts pl ps).length : Int) = F39_ 358 5; omega)) (fun x hx => ((prb_ok hps.2.symm co1_).2.2 x hx).1) ((by rw [q40_]; exact (rprd_u (rprd_fs (rprd_fs hps.1 hf_Fg (fun r j hj => (fs_n (by omega) (fs_n (by omega) (fs_n (by omega) (fs_n (by omega) (fs_n (by omega) (fs_n (by omega) (fs_n (by omega) (by first | exact fs_c rfl | exact (fs_n (by omega) (fs_n (by omega) (fs_n (by omega) (fs_n (by omega) (fs_n (by omega) (fs_n (by omega) (fs_n (by omega) (fs_n (by omega) (fs_n (by omega) rfl))))))))))))))))))) hf_F1 (by first | exact fs_rg rfl | exact fun r j hj => (fs_n (by omega) (fs_n (by omega) (fs_n (by omega) rfl))))) (by first | decide | exact nc_ rfl | omega))))) (fun _ _ h => False.elim h) ?_
        rintro z44_ A1_ ⟨hA_, c45_, c46_⟩
        subst hA_
        refine ga_putl hm_64 rfl sc_344 rfl rfl ?_
        refine ga_aload_n (v := .ref 344) hm_64 rfl rfl rfl ?_
        refine ga_aload_n (v := .ref 344) hm_64 rfl rfl rfl ?_
        refine fl_iconst hm_64 rfl ?_
        refine fl_bipush hm_64 rfl rfl ?_
        obtain ⟨F47_, q48_⟩ : ∃ Fq_, Fq_ = (fl_u F39_ 344 47 z44_) := ⟨_, rfl⟩
        rw [← q48_]
        have g49_ : gi F47_ := by rw [q48_]; exact gi_u (g41_) rfl (by omega) (by omega)
        have g50_ : fs [(344, 344, 0, 1), (344, 344, 4, 5), (344, 344, 8, 10), (344, 344, 12, 13), (344, 344, 33, 33), (344, 344, 36, 36), (344, 344, 38, 39), (344, 344, 46, 48), (344, 344, 60, 60), (344, 344, 64, 64), (347, 348, 0, 100000), (358, 358, 5, 5), (360, 362, 40, 43), (363, 363, 80, 87), (364, 372, 0, 100000), (384, 384, 0, 100000)] F F47_ := by rw [q48_]; exact fs_u (g42_) rfl
        have e51_ : F47_ 358 5 = Fg 358 5 := by rw [q48_]; exact (fl_u_ne (by first | exact nc_ rfl | decide | omega)).trans (e43_)
        refine gVi (nY := 6) (F := 1) (L := 23) (As := [.int (Int32.ofInt 5), .int (Int32.ofInt 40)]) (b := 344) (rest := [.ref 344]) hm_64 rfl hm_159 rfl rfl (fl_ob sc_344) rfl rfl rfl rfl rfl (by omega) (by omega) (mc_159 hG F47_ X g49_ (5) (40) ((prb_g K nm ts pl ps)) (⟨by omega, by omega⟩) (by omega) (rcl_lfr hrcg (show lfr 0 0 0 Fg F47_ from (by rw [q48_]; exact (lfr_uo (by rw [q40_]; exact (lfr_uo (lfr_fg lfr_r hf_F1 rfl) rfl)) rfl))) (Or.inr (Nat.zero_le _))) (by first | omega | (show ((prb_g K nm ts pl ps).length : Int) = F47_ 358 5; omega)) (fun x hx h9_ => ((prb_ok hps.2.symm co1_).2.2 x hx).2.1.2.2 h9_)) (fun _ _ h => False.elim h) ?_
        rintro z52_ A1_ ⟨hA_, c53_, c54_⟩
        subst hA_
        refine ga_putz (z := z52_) hm_64 rfl sc_344 rfl rfl (by omega) ?_
        refine ga_aload_n (v := .ref 344) hm_64 rfl rfl rfl ?_
        refine fl_iconst hm_64 rfl ?_
        refine ga_putz (z := 1) hm_64 rfl sc_344 rfl rfl (by omega) ?_
        refine ga_aload_n (v := .ref 344) hm_64 rfl rfl rfl ?_
        have e55_ : F39_ 344 39 = F1 344 39 := by rw [q40_]; exact fl_u_ne (by first | exact nc_ rfl | decide | omega)
        have e56_ : F47_ 344 39 = F1 344 39 := by rw [q48_]; exact (fl_u_ne (by first | exact nc_ rfl | decide | omega)).trans (e55_)
        have b57_ : 0 ≤ F1 344 39 ∧ F1 344 39 ≤ 40 := gi_g hg_F1 rfl
        refine ga_geti (z := F1 344 39) hm_64 rfl sc_344 rfl ((fl_u_ne (by first | exact nc_ rfl | decide | omega)).trans ((fl_u_ne (by first | exact nc_ rfl | decide | omega)).trans (e56_))) ?_
        obtain ⟨F58_, q59_⟩ : ∃ Fq_, Fq_ = (fl_u (fl_u F47_ 344 48 z52_) 344 12 1) := ⟨_, rfl⟩
        rw [← q59_]
        have g60_ : gi F58_ := by rw [q59_]; exact gi_u (gi_u (g49_) rfl (by omega) (by omega)) rfl (by omega) (by omega)
        have g61_ : fs [(344, 344, 0, 1), (344, 344, 4, 5), (344, 344, 8, 10), (344, 344, 12, 13), (344, 344, 33, 33), (344, 344, 36, 36), (344, 344, 38, 39), (344, 344, 46, 48), (344, 344, 60, 60), (344, 344, 64, 64), (347, 348, 0, 100000), (358, 358, 5, 5), (360, 362, 40, 43), (363, 363, 80, 87), (364, 372, 0, 100000), (384, 384, 0, 100000)] F F58_ := by rw [q59_]; exact fs_u (fs_u (g50_) rfl) rfl
        refine gr_i (z := F1 344 39) hm_64 rfl rfl rfl ?_
        have e62_ : F1 344 1 = Fg 344 1 := (hf_F1 344 1 rfl).trans (rfl)
        have e63_ : F39_ 344 1 = Fg 344 1 := by rw [q40_]; exact (fl_u_ne (by first | exact nc_ rfl | decide | omega)).trans (e62_)
        have e64_ : F47_ 344 1 = Fg 344 1 := by rw [q48_]; exact (fl_u_ne (by first | exact nc_ rfl | decide | omega)).trans (e63_)
        have e65_ : F58_ 344 1 = Fg 344 1 := by rw [q59_]; exact (fl_u_ne (by first | exact nc_ rfl | decide | omega)).trans ((fl_u_ne (by first | exact nc_ rfl | decide | omega)).trans (e64_))
        have b66_ : 0 ≤ Fg 344 1 ∧ Fg 344 1 ≤ 600 := gi_g hg_Fg rfl
        have b67_ : 0 ≤ F 344 1 ∧ F 344 1 ≤ 600 := gi_g hgi rfl
        have b68_ : 0 ≤ F 344 11 ∧ F 344 11 ≤ 1 := gi_g hgi rfl
        have e69_ : F1 344 13 = Fg 344 13 := (hf_F1 344 13 rfl).trans (rfl)
        have e70_ : F39_ 344 13 = Fg 344 13 := by rw [q40_]; exact (fl_u_ne (by first | exact nc_ rfl | decide | omega)).trans (e69_)
        have e71_ : F47_ 344 13 = Fg 344 13 := by rw [q48_]; exact (fl_u_ne (by first | exact nc_ rfl | decide | omega)).trans (e70_)
        have e72_ : F58_ 344 13 = Fg 344 13 := by rw [q59_]; exact (fl_u_ne (by first | exact nc_ rfl | decide | omega)).trans ((fl_u_ne (by first | exact nc_ rfl | decide | omega)).trans (e71_))
        have e73_ : F58_ 344 12 = 1 := by rw [q59_]; exact fl_u_eq
        have e74_ : F1 344 36 = Fg 344 36 := (hf_F1 344 36 rfl).trans (rfl)
        have e75_ : F39_ 344 36 = Fg 344 36 := by rw [q40_]; exact (fl_u_ne (by first | exact nc_ rfl | decide | omega)).trans (e74_)
        have e76_ : F47_ 344 36 = Fg 344 36 := by rw [q48_]; exact (fl_u_ne (by first | exact nc_ rfl | decide | omega)).trans (e75_)
        have e77_ : F58_ 344 36 = Fg 344 36 := by rw [q59_]; exact (fl_u_ne (by first | exact nc_ rfl | decide | omega)).trans ((fl_u_ne (by first | exact nc_ rfl | decide | omega)).trans (e76_))
        have e78_ : F1 344 0 = Fg 344 0 := (hf_F1 344 0 rfl).trans (rfl)
        have e79_ : F39_ 344 0 = Fg 344 0 := by rw [q40_]; exact (fl_u_ne (by first | exact nc_ rfl | decide | omega)).trans (e78_)
        have e80_ : F47_ 344 0 = Fg 344 0 := by rw [q48_]; exact (fl_u_ne (by first | exact nc_ rfl | decide | omega)).trans (e79_)
        have e81_ : F58_ 344 0 = Fg 344 0 := by rw [q59_]; exact (fl_u_ne (by first | exact nc_ rfl | decide | omega)).trans ((fl_u_ne (by first | exact nc_ rfl | decide | omega)).trans (e80_))
        have b82_ : 0 ≤ Fg 344 0 ∧ Fg 344 0 ≤ 3 := gi_g hg_Fg rfl
        have e83_ : F1 344 33 = Fg 344 33 := (hf_F1 344 33 rfl).trans (rfl)
        have e84_ : F39_ 344 33 = Fg 344 33 := by rw [q40_]; exact (fl_u_ne (by first | exact nc_ rfl | decide | omega)).trans (e83_)
        have e85_ : F47_ 344 33 = Fg 344 33 := by rw [q48_]; exact (fl_u_ne (by first | exact nc_ rfl | decide | omega)).trans (e84_)
        have e86_ : F58_ 344 33 = Fg 344 33 := by rw [q59_]; exact (fl_u_ne (by first | exact nc_ rfl | decide | omega)).trans ((fl_u_ne (by first | exact nc_ rfl | decide | omega)).trans (e85_))
        have b87_ : 0 ≤ Fg 344 33 ∧ Fg 344 33 ≤ 6 := gi_g hg_Fg rfl
        have e88_ : F58_ 344 39 = F1 344 39 := by rw [q59_]; exact (fl_u_ne (by first | exact nc_ rfl | decide | omega)).trans ((fl_u_ne (by first | exact nc_ rfl | decide | omega)).trans (e56_))
        have e89_ : F1 344 8 = Fg 344 8 := (hf_F1 344 8 rfl).trans (rfl)
        have e90_ : F39_ 344 8 = Fg 344 8 := by rw [q40_]; exact (fl_u_ne (by first | exact nc_ rfl | decide | omega)).trans (e89_)
        have e91_ : F47_ 344 8 = Fg 344 8 := by rw [q48_]; exact (fl_u_ne (by first | exact nc_ rfl | decide | omega)).trans (e90_)
        have e92_ : F58_ 344 8 = Fg 344 8 := by rw [q59_]; exact (fl_u_ne (by first | exact nc_ rfl | decide | omega)).trans ((fl_u_ne (by first | exact nc_ rfl | decide | omega)).trans (e91_))
        have b93_ : 0 ≤ Fg 344 8 ∧ Fg 344 8 ≤ 100000 := gi_g hg_Fg rfl
        have b94_ : 0 ≤ F 344 8 ∧ F 344 8 ≤ 100000 := gi_g hgi rfl
        have e95_ : Fg 344 11 = F 344 11 := (hf_Fg 344 11 rfl).trans (rfl)
        have e96_ : F1 344 11 = F 344 11 := (hf_F1 344 11 rfl).trans (e95_)
        have e97_ : F39_ 344 11 = F 344 11 := by rw [q40_]; exact (fl_u_ne (by first | exact nc_ rfl | decide | omega)).trans (e96_)
        have e98_ : F47_ 344 11 = F 344 11 := by rw [q48_]; exact (fl_u_ne (by first | exact nc_ rfl | decide | omega)).trans (e97_)
        have e99_ : F58_ 344 11 = F 344 11 := by rw [q59_]; exact (fl_u_ne (by first | exact nc_ rfl | decide | omega)).trans ((fl_u_ne (by first | exact nc_ rfl | decide | omega)).trans (e98_))
        have e100_ : F1 344 38 = Fg 344 38 := (hf_F1 344 38 rfl).trans (rfl)
        have e101_ : F39_ 344 38 = Fg 344 38 := by rw [q40_]; exact (fl_u_ne (by first | exact nc_ rfl | decide | omega)).trans (e100_)
        have e102_ : F47_ 344 38 = Fg 344 38 := by rw [q48_]; exact (fl_u_ne (by first | exact nc_ rfl | decide | omega)).trans (e101_)
        have e103_ : F58_ 344 38 = Fg 344 38 := by rw [q59_]; exact (fl_u_ne (by first | exact nc_ rfl | decide | omega)).trans ((fl_u_ne (by first | exact nc_ rfl | decide | omega)).trans (e102_))
        have e104_ : F58_ 344 48 = z52_ := by rw [q59_]; exact (fl_u_ne (by first | exact nc_ rfl | decide | omega)).trans (fl_u_eq)
        have e105_ : F39_ 344 46 = z36_ := by rw [q40_]; exact fl_u_eq
        have e106_ : F47_ 344 46 = z36_ := by rw [q48_]; exact (fl_u_ne (by first | exact nc_ rfl | decide | omega)).trans (e105_)
        have e107_ : F58_ 344 46 = z36_ := by rw [q59_]; exact (fl_u_ne (by first | exact nc_ rfl | decide | omega)).trans ((fl_u_ne (by first | exact nc_ rfl | decide | omega)).trans (e106_))
        have e108_ : F47_ 344 47 = z44_ := by rw [q48_]; exact fl_u_eq
        have e109_ : F58_ 344 47 = z44_ := by rw [q59_]; exact (fl_u_ne (by first | exact nc_ rfl | decide | omega)).trans ((fl_u_ne (by first | exact nc_ rfl | decide | omega)).trans (e108_))
        have b110_ : 0 ≤ Fg 344 13 ∧ Fg 344 13 ≤ 1 := gi_g hg_Fg rfl
        have e111_ : F1 344 60 = Fg 344 60 := (hf_F1 344 60 rfl).trans (rfl)
        have e112_ : F39_ 344 60 = Fg 344 60 := by rw [q40_]; exact (fl_u_ne (by first | exact nc_ rfl | decide | omega)).trans (e111_)
        have e113_ : F47_ 344 60 = Fg 344 60 := by rw [q48_]; exact (fl_u_ne (by first | exact nc_ rfl | decide | omega)).trans (e112_)
        have e114_ : F58_ 344 60 = Fg 344 60 := by rw [q59_]; exact (fl_u_ne (by first | exact nc_ rfl | decide | omega)).trans ((fl_u_ne (by first | exact nc_ rfl | decide | omega)).trans (e113_))
        have b115_ : 0 ≤ Fg 344 60 ∧ Fg 344 60 ≤ 60 := gi_g hg_Fg rfl
        have b116_ : 0 ≤ F 344 12 ∧ F 344 12 ≤ 1 := gi_g hgi rfl
        have b117_ : 0 ≤ F 344 13 ∧ F 344 13 ≤ 1 := gi_g hgi rfl
        exact ⟨F58_, rfl, g60_, g61_, (⟨by omega, by omega⟩), (by omega), (pli_0 (by omega)), (fun _ => ⟨sob_cg hs1 (Eq.trans (a := F58_ 344 39) (b := F47_ 344 39) (by rw [q59_]; exact (fl_u_ne (by first | exact nc_ rfl | decide | omega)).trans ((fl_u_ne (by first | exact nc_ rfl | decide | omega)))) (Eq.trans (a := F47_ 344 39) (b := F39_ 344 39) (by rw [q48_]; exact (fl_u_ne (by first | exact nc_ rfl | decide | omega))) (show F39_ 344 39 = F1 344 39 from (by rw [q40_]; exact (fl_u_ne (by first | exact nc_ rfl | decide | omega)))))) (fun j => (Eq.trans (a := F58_ 357 j) (b := F47_ 357 j) (by rw [q59_]; exact (fl_u_ne (by first | exact nc_ rfl | decide | omega)).trans ((fl_u_ne (by first | exact nc_ rfl | decide | omega)))) (Eq.trans (a := F47_ 357 j) (b := F39_ 357 j) (by rw [q48_]; exact (fl_u_ne (by first | exact nc_ rfl | decide | omega))) (show F39_ 357 j = F1 357 j from (by rw [q40_]; exact (fl_u_ne (by first | exact nc_ rfl | decide | omega))))))) (fun j => (Eq.trans (a := F58_ 367 j) (b := F47_ 367 j) (by rw [q59_]; exact (fl_u_ne (by first | exact nc_ rfl | decide | omega)).trans ((fl_u_ne (by first | exact nc_ rfl | decide | omega)))) (Eq.trans (a := F47_ 367 j) (b := F39_ 367 j) (by rw [q48_]; exact (fl_u_ne (by first | exact nc_ rfl | decide | omega))) (show F39_ 367 j = F1 367 j from (by rw [q40_]; exact (fl_u_ne (by first | exact nc_ rfl | decide | omega))))))) (fun j => (Eq.trans (a := F58_ 354 j) (b := F47_ 354 j) (by rw [q59_]; exact (fl_u_ne (by first | exact nc_ rfl | decide | omega)).trans ((fl_u_ne (by first | exact nc_ rfl | decide | omega)))) (Eq.trans (a := F47_ 354 j) (b := F39_ 354 j) (by rw [q48_]; exact (fl_u_ne (by first | exact nc_ rfl | decide | omega))) (show F39_ 354 j = F1 354 j from (by rw [q40_]; exact (fl_u_ne (by first | exact nc_ rfl | decide | omega))))))) (fun j => (Eq.trans (a := F58_ 368 j) (b := F47_ 368 j) (by rw [q59_]; exact (fl_u_ne (by first | exact nc_ rfl | decide | omega)).trans ((fl_u_ne (by first | exact nc_ rfl | decide | omega)))) (Eq.trans (a := F47_ 368 j) (b := F39_ 368 j) (by rw [q48_]; exact (fl_u_ne (by first | exact nc_ rfl | decide | omega))) (show F39_ 368 j = F1 368 j from (by rw [q40_]; exact (fl_u_ne (by first | exact nc_ rfl | decide | omega))))))), by omega⟩), (Or.inr ⟨by omega, Or.inr ⟨l, tl, co1_, by omega, Or.inr (by have h6_ := hst (by omega); have h5_ : 0 ≤ F1 344 39 ∧ F1 344 39 ≤ 40 := gi_g hg_F1 rfl; have h4_ := hf4 (by omega); rw [show a.toNat = D.length by omega] at h6_; have h7_ := h6_.1; exact ⟨by omega, by omega, by omega, by omega, by omega, rsts_cg h6_.2 (fun j => (Eq.trans (a := F58_ 366 j) (b := F47_ 366 j) (by rw [q59_]; exact (fl_u_ne (by first | exact nc_ rfl | decide | omega)).trans ((fl_u_ne (by first | exact nc_ rfl | decide | omega)))) (Eq.trans (a := F47_ 366 j) (b := F39_ 366 j) (by rw [q48_]; exact (fl_u_ne (by first | exact nc_ rfl | decide | omega))) (show F39_ 366 j = F1 366 j from (by rw [q40_]; exact (fl_u_ne (by first | exact nc_ rfl | decide | omega))))))) (fun j hj => (Eq.trans (a := F58_ 368 j) (b := F47_ 368 j) (by rw [q59_]; exact (fl_u_ne (by first | exact nc_ rfl | decide | omega)).trans ((fl_u_ne (by first | exact nc_ rfl | decide | omega)))) (Eq.trans (a := F47_ 368 j) (b := F39_ 368 j) (by rw [q48_]; exact (fl_u_ne (by first | exact nc_ rfl | decide | omega))) (show F39_ 368 j = F1 368 j from (by rw [q40_]; exact (fl_u_ne (by first | exact nc_ rfl | decide | omega))))))) (fun r j hr hj => (Eq.trans (a := F58_ (r) j) (b := F47_ (r) j) (by rw [q59_]; exact (fl_u_ne (by first | exact nc_ rfl | decide | omega)).trans ((fl_u_ne (by first | exact nc_ rfl | decide | omega)))) (Eq.trans (a := F47_ (r) j) (b := F39_ (r) j) (by rw [q48_]; exact (fl_u_ne (by first | exact nc_ rfl | decide | omega))) (show F39_ (r) j = F1 (r) j from (by rw [q40_]; exact (fl_u_ne (by first | exact nc_ rfl | decide | omega))))))), ⟨fnr_cg hfng (fun j => (Eq.trans (a := F58_ 366 j) (b := F47_ 366 j) (by rw [q59_]; exact (fl_u_ne (by first | exact nc_ rfl | decide | omega)).trans ((fl_u_ne (by first | exact nc_ rfl | decide | omega)))) (Eq.trans (a := F47_ 366 j) (b := F39_ 366 j) (by rw [q48_]; exact (fl_u_ne (by first | exact nc_ rfl | decide | omega))) (Eq.trans (a := F39_ 366 j) (b := F1 366 j) (by rw [q40_]; exact (fl_u_ne (by first | exact nc_ rfl | decide | omega))) (show F1 366 j = Fg 366 j from (hf_F1 366 j (by first | exact fs_c rfl | exact (fs_n (by omega) (fs_n (by omega) (fs_n (by omega) rfl)))))))))), by rw [(show F58_ 366 = Fg 366 from funext (fun j => (Eq.trans (a := F58_ 366 j) (b := F47_ 366 j) (by rw [q59_]; exact (fl_u_ne (by first | exact nc_ rfl | decide | omega)).trans ((fl_u_ne (by first | exact nc_ rfl | decide | omega)))) (Eq.trans (a := F47_ 366 j) (b := F39_ 366 j) (by rw [q48_]; exact (fl_u_ne (by first | exact nc_ rfl | decide | omega))) (Eq.trans (a := F39_ 366 j) (b := F1 366 j) (by rw [q40_]; exact (fl_u_ne (by first | exact nc_ rfl | decide | omega))) (show F1 366 j = Fg 366 j from (hf_F1 366 j (by first | exact fs_c rfl | exact (fs_n (by omega) (fs_n (by omega) (fs_n (by omega) rfl)))))))))))]; exact Eq.trans ((Eq.trans (a := F58_ 344 38) (b := F47_ 344 38) (by rw [q59_]; exact (fl_u_ne (by first | exact nc_ rfl | decide | omega)).trans ((fl_u_ne (by first | exact nc_ rfl | decide | omega)))) (Eq.trans (a := F47_ 344 38) (b := F39_ 344 38) (by rw [q48_]; exact (fl_u_ne (by first | exact nc_ rfl | decide | omega))) (Eq.trans (a := F39_ 344 38) (b := F1 344 38) (by rw [q40_]; exact (fl_u_ne (by first | exact nc_ rfl | decide | omega))) (show F1 344 38 = Fg 344 38 from (hf_F1 344 38 (by first | exact fs_c rfl | exact (fs_n (by omega) (fs_n (by omega) (fs_n (by omega) rfl)))))))))) (h38g (by omega)), by rw [(show F58_ 366 = F1 366 from funext (fun j => (Eq.trans (a := F58_ 366 j) (b := F47_ 366 j) (by rw [q59_]; exact (fl_u_ne (by first | exact nc_ rfl | decide | omega)).trans ((fl_u_ne (by first | exact nc_ rfl | decide | omega)))) (Eq.trans (a := F47_ 366 j) (b := F39_ 366 j) (by rw [q48_]; exact (fl_u_ne (by first | exact nc_ rfl | decide | omega))) (show F39_ 366 j = F1 366 j from (by rw [q40_]; exact (fl_u_ne (by first | exact nc_ rfl | decide | omega))))))))]; exact Eq.trans (e107_) (by rw [c38_, obr5]), by rw [(show F58_ 366 = F39_ 366 from funext (fun j => (Eq.trans (a := F58_ 366 j) (b := F47_ 366 j) (by rw [q59_]; exact (fl_u_ne (by first | exact nc_ rfl | decide | omega)).trans ((fl_u_ne (by first | exact nc_ rfl | decide | omega)))) (show F47_ 366 j = F39_ 366 j from (by rw [q48_]; exact (fl_u_ne (by first | exact nc_ rfl | decide | omega)))))))]; exact Eq.trans (e109_) (by rw [c46_, obr5]), Eq.trans (e104_) (by rw [c54_, obr5])⟩, (by rw [q59_]; exact (rpn_u (rpn_u (by rw [q48_]; exact (rpn_u (by rw [q40_]; exact (rpn_u (rpn_fs (tr5 htg).1 hf_F1 (fun _ => (by first | exact fs_c rfl | exact (fs_n (by omega) (fs_n (by omega) (fs_n (by omega) rfl))))) (by first | exact fs_c rfl | exact (fs_n (by omega) (fs_n (by omega) (fs_n (by omega) rfl))))) (by first | decide | exact nc_ rfl | omega) (by first | decide | exact nc_ rfl | omega))) (by first | decide | exact nc_ rfl | omega) (by first | decide | exact nc_ rfl | omega))) (by first | decide | exact nc_ rfl | omega) (by first | decide | exact nc_ rfl | omega)) (by first | decide | exact nc_ rfl | omega) (by first | decide | exact nc_ rfl | omega)))⟩)⟩⟩), (⟨fun h9_ => ⟨by omega, by omega⟩, fun h9_ => by omega, fun h9_ => by omega, fun h9_ => by omega, fun h9_ => by omega, fun h9_ => absurd h9_ (by omega)⟩)⟩
      refine ga_aload_n (v := .ref 344) hm_64 rfl rfl rfl ?_
      refine fl_iconst hm_64 rfl ?_
      refine ga_puti (z := 3) hm_64 rfl sc_344 rfl rfl ?_
      refine fl_iconst hm_64 rfl ?_
      obtain ⟨F118_, q119_⟩ : ∃ Fq_, Fq_ = (fl_u F1 344 0 3) := ⟨_, rfl⟩
      rw [← q119_]
      have g120_ : gi F118_ := by rw [q119_]; exact gi_u (hg_F1) rfl (by omega) (by omega)
      have g121_ : fs [(344, 344, 0, 1), (344, 344, 4, 5), (344, 344, 8, 10), (344, 344, 12, 13), (344, 344, 33, 33), (344, 344, 36, 36), (344, 344, 38, 39), (344, 344, 46, 48), (344, 344, 60, 60), (344, 344, 64, 64), (347, 348, 0, 100000), (358, 358, 5, 5), (360, 362, 40, 43), (363, 363, 80, 87), (364, 372, 0, 100000), (384, 384, 0, 100000)] F F118_ := by rw [q119_]; exact fs_u (g26_) rfl
      refine gr_i (z := 0) hm_64 rfl rfl rfl ?_
      have e122_ : F1 344 1 = Fg 344 1 := (hf_F1 344 1 rfl).trans (rfl)
      have e123_ : F118_ 344 1 = Fg 344 1 := by rw [q119_]; exact (fl_u_ne (by first | exact nc_ rfl | decide | omega)).trans (e122_)
      have b124_ : 0 ≤ Fg 344 1 ∧ Fg 344 1 ≤ 600 := gi_g hg_Fg rfl
      have b125_ : 0 ≤ F 344 1 ∧ F 344 1 ≤ 600 := gi_g hgi rfl
      have b126_ : 0 ≤ F 344 11 ∧ F 344 11 ≤ 1 := gi_g hgi rfl
      have e127_ : F1 344 13 = Fg 344 13 := (hf_F1 344 13 rfl).trans (rfl)
      have e128_ : F118_ 344 13 = Fg 344 13 := by rw [q119_]; exact (fl_u_ne (by first | exact nc_ rfl | decide | omega)).trans (e127_)
      have e129_ : F1 344 12 = Fg 344 12 := (hf_F1 344 12 rfl).trans (rfl)
      have e130_ : F118_ 344 12 = Fg 344 12 := by rw [q119_]; exact (fl_u_ne (by first | exact nc_ rfl | decide | omega)).trans (e129_)
      have b131_ : 0 ≤ Fg 344 12 ∧ Fg 344 12 ≤ 1 := gi_g hg_Fg rfl
      have e132_ : F1 344 36 = Fg 344 36 := (hf_F1 344 36 rfl).trans (rfl)
      have e133_ : F118_ 344 36 = Fg 344 36 := by rw [q119_]; exact (fl_u_ne (by first | exact nc_ rfl | decide | omega)).trans (e132_)
      have e134_ : F118_ 344 0 = 3 := by rw [q119_]; exact fl_u_eq
      have e135_ : F1 344 33 = Fg 344 33 := (hf_F1 344 33 rfl).trans (rfl)
      have e136_ : F118_ 344 33 = Fg 344 33 := by rw [q119_]; exact (fl_u_ne (by first | exact nc_ rfl | decide | omega)).trans (e135_)
      have b137_ : 0 ≤ Fg 344 33 ∧ Fg 344 33 ≤ 6 := gi_g hg_Fg rfl
      have e138_ : F118_ 344 39 = F1 344 39 := by rw [q119_]; exact fl_u_ne (by first | exact nc_ rfl | decide | omega)
      have b139_ : 0 ≤ F1 344 39 ∧ F1 344 39 ≤ 40 := gi_g hg_F1 rfl
      have e140_ : F1 344 8 = Fg 344 8 := (hf_F1 344 8 rfl).trans (rfl)
      have e141_ : F118_ 344 8 = Fg 344 8 := by rw [q119_]; exact (fl_u_ne (by first | exact nc_ rfl | decide | omega)).trans (e140_)
      have b142_ : 0 ≤ Fg 344 8 ∧ Fg 344 8 ≤ 100000 := gi_g hg_Fg rfl
      have b143_ : 0 ≤ F 344 8 ∧ F 344 8 ≤ 100000 := gi_g hgi rfl
      have e144_ : Fg 344 11 = F 344 11 := (hf_Fg 344 11 rfl).trans (rfl)
      have e145_ : F1 344 11 = F 344 11 := (hf_F1 344 11 rfl).trans (e144_)
      have e146_ : F118_ 344 11 = F 344 11 := by rw [q119_]; exact (fl_u_ne (by first | exact nc_ rfl | decide | omega)).trans (e145_)
      have b147_ : 0 ≤ Fg 344 13 ∧ Fg 344 13 ≤ 1 := gi_g hg_Fg rfl
      have e148_ : F1 344 60 = Fg 344 60 := (hf_F1 344 60 rfl).trans (rfl)
      have e149_ : F118_ 344 60 = Fg 344 60 := by rw [q119_]; exact (fl_u_ne (by first | exact nc_ rfl | decide | omega)).trans (e148_)
      have b150_ : 0 ≤ Fg 344 60 ∧ Fg 344 60 ≤ 60 := gi_g hg_Fg rfl
      have b151_ : 0 ≤ F 344 12 ∧ F 344 12 ≤ 1 := gi_g hgi rfl
      have b152_ : 0 ≤ F 344 13 ∧ F 344 13 ≤ 1 := gi_g hgi rfl
      exact ⟨F118_, rfl, g120_, g121_, (⟨by omega, by omega⟩), (by omega), (pli_0 (by omega)), (fun h9_ => absurd h9_ (by omega)), (Or.inr ⟨by omega, Or.inr ⟨l, tl, co1_, by omega, Or.inl ⟨by omega, ho (by omega)⟩⟩⟩), (⟨fun h9_ => ⟨by omega, by omega⟩, fun h9_ => by omega, fun h9_ => by omega, fun h9_ => by omega, fun h9_ => by omega, fun h9_ => absurd h9_ (by omega)⟩)⟩
    refine ga_iload_n (z := ft) hm_64 rfl rfl ?_
    refine fl_if_eq (a := ft) hm_64 rfl ⟨by omega, by omega⟩ (fun h153_ => ?_) (fun h154_ => ?_)
    ·
      refine ga_iload_n (z := ft) hm_64 rfl rfl ?_
      refine fx_if_ne (a := ft) hm_64 rfl ⟨by omega, by omega⟩ (fun h155_ => ?_) (fun h156_ => ?_)
      · exfalso; omega
      refine ga_aload_n (v := .ref 344) hm_64 rfl rfl rfl ?_
      refine fl_iconst hm_64 rfl ?_
      refine ga_puti (z := 3) hm_64 rfl sc_344 rfl rfl ?_
      refine fl_iconst hm_64 rfl ?_
      obtain ⟨F157_, q158_⟩ : ∃ Fq_, Fq_ = (fl_u F1 344 0 3) := ⟨_, rfl⟩
      rw [← q158_]
      have g159_ : gi F157_ := by rw [q158_]; exact gi_u (hg_F1) rfl (by omega) (by omega)
      have g160_ : fs [(344, 344, 0, 1), (344, 344, 4, 5), (344, 344, 8, 10), (344, 344, 12, 13), (344, 344, 33, 33), (344, 344, 36, 36), (344, 344, 38, 39), (344, 344, 46, 48), (344, 344, 60, 60), (344, 344, 64, 64), (347, 348, 0, 100000), (358, 358, 5, 5), (360, 362, 40, 43), (363, 363, 80, 87), (364, 372, 0, 100000), (384, 384, 0, 100000)] F F157_ := by rw [q158_]; exact fs_u (g26_) rfl
      refine gr_i (z := 0) hm_64 rfl rfl rfl ?_
      have e161_ : F1 344 1 = Fg 344 1 := (hf_F1 344 1 rfl).trans (rfl)
      have e162_ : F157_ 344 1 = Fg 344 1 := by rw [q158_]; exact (fl_u_ne (by first | exact nc_ rfl | decide | omega)).trans (e161_)
      have b163_ : 0 ≤ Fg 344 1 ∧ Fg 344 1 ≤ 600 := gi_g hg_Fg rfl
      have b164_ : 0 ≤ F 344 1 ∧ F 344 1 ≤ 600 := gi_g hgi rfl
      have b165_ : 0 ≤ F 344 11 ∧ F 344 11 ≤ 1 := gi_g hgi rfl
      have e166_ : F1 344 13 = Fg 344 13 := (hf_F1 344 13 rfl).trans (rfl)
      have e167_ : F157_ 344 13 = Fg 344 13 := by rw [q158_]; exact (fl_u_ne (by first | exact nc_ rfl | decide | omega)).trans (e166_)
      have e168_ : F1 344 12 = Fg 344 12 := (hf_F1 344 12 rfl).trans (rfl)
      have e169_ : F157_ 344 12 = Fg 344 12 := by rw [q158_]; exact (fl_u_ne (by first | exact nc_ rfl | decide | omega)).trans (e168_)
      have b170_ : 0 ≤ Fg 344 12 ∧ Fg 344 12 ≤ 1 := gi_g hg_Fg rfl
      have e171_ : F1 344 36 = Fg 344 36 := (hf_F1 344 36 rfl).trans (rfl)
      have e172_ : F157_ 344 36 = Fg 344 36 := by rw [q158_]; exact (fl_u_ne (by first | exact nc_ rfl | decide | omega)).trans (e171_)
      have e173_ : F157_ 344 0 = 3 := by rw [q158_]; exact fl_u_eq
      have e174_ : F1 344 33 = Fg 344 33 := (hf_F1 344 33 rfl).trans (rfl)
      have e175_ : F157_ 344 33 = Fg 344 33 := by rw [q158_]; exact (fl_u_ne (by first | exact nc_ rfl | decide | omega)).trans (e174_)
      have b176_ : 0 ≤ Fg 344 33 ∧ Fg 344 33 ≤ 6 := gi_g hg_Fg rfl
      have e177_ : F157_ 344 39 = F1 344 39 := by rw [q158_]; exact fl_u_ne (by first | exact nc_ rfl | decide | omega)
      have b178_ : 0 ≤ F1 344 39 ∧ F1 344 39 ≤ 40 := gi_g hg_F1 rfl
      have e179_ : F1 344 8 = Fg 344 8 := (hf_F1 344 8 rfl).trans (rfl)
      have e180_ : F157_ 344 8 = Fg 344 8 := by rw [q158_]; exact (fl_u_ne (by first | exact nc_ rfl | decide | omega)).trans (e179_)
      have b181_ : 0 ≤ Fg 344 8 ∧ Fg 344 8 ≤ 100000 := gi_g hg_Fg rfl
      have b182_ : 0 ≤ F 344 8 ∧ F 344 8 ≤ 100000 := gi_g hgi rfl
      have e183_ : Fg 344 11 = F 344 11 := (hf_Fg 344 11 rfl).trans (rfl)
      have e184_ : F1 344 11 = F 344 11 := (hf_F1 344 11 rfl).trans (e183_)
      have e185_ : F157_ 344 11 = F 344 11 := by rw [q158_]; exact (fl_u_ne (by first | exact nc_ rfl | decide | omega)).trans (e184_)
      have b186_ : 0 ≤ Fg 344 13 ∧ Fg 344 13 ≤ 1 := gi_g hg_Fg rfl
      have e187_ : F1 344 60 = Fg 344 60 := (hf_F1 344 60 rfl).trans (rfl)
      have e188_ : F157_ 344 60 = Fg 344 60 := by rw [q158_]; exact (fl_u_ne (by first | exact nc_ rfl | decide | omega)).trans (e187_)
      have b189_ : 0 ≤ Fg 344 60 ∧ Fg 344 60 ≤ 60 := gi_g hg_Fg rfl
      have b190_ : 0 ≤ F 344 12 ∧ F 344 12 ≤ 1 := gi_g hgi rfl
      have b191_ : 0 ≤ F 344 13 ∧ F 344 13 ≤ 1 := gi_g hgi rfl
      exact ⟨F157_, rfl, g159_, g160_, (⟨by omega, by omega⟩), (by omega), (pli_0 (by omega)), (fun h9_ => absurd h9_ (by omega)), (Or.inr ⟨by omega, Or.inr ⟨l, tl, co1_, by omega, Or.inl ⟨by omega, ho (by omega)⟩⟩⟩), (⟨fun h9_ => ⟨by omega, by omega⟩, fun h9_ => by omega, fun h9_ => by omega, fun h9_ => by omega, fun h9_ => by omega, fun h9_ => absurd h9_ (by omega)⟩)⟩
    refine ga_aload_n (v := .ref 344) hm_64 rfl rfl rfl ?_
    refine ga_iload_n (z := a) hm_64 rfl rfl ?_
    have e192_ : Fg 357 a.toNat = F 357 a.toNat := (hf_Fg 357 a.toNat (fs_n (by omega) (fs_n (by omega) (fs_n (by omega) (fs_n (by omega) (fs_n (by omega) (fs_n (by omega) (fs_n (by omega) (by first | exact fs_c rfl | exact (fs_n (by omega) (fs_n (by omega) (fs_n (by omega) (fs_n (by omega) (fs_n (by omega) (fs_n (by omega) (fs_n (by omega) (fs_n (by omega) (fs_n (by omega) rfl)))))))))))))))))).trans (rfl)
    have e193_ : F1 357 a.toNat = F 357 a.toNat := (hf_F1 357 a.toNat (by first | exact fs_c rfl | exact (fs_n (by omega) (fs_n (by omega) (fs_n (by omega) rfl))))).trans (e192_)
    refine gVi (nY := 6) (F := 3) (L := 75) (As := [.int (Int32.ofInt a)]) (b := 344) (rest := []) hm_64 rfl hm_165 rfl rfl (fl_ob sc_344) rfl rfl rfl rfl rfl (by omega) (by omega) (mc_165 hG F1 X hg_F1 (a) (D) (tl) (ps) ((stP tl D a.toNat)) (⟨by omega, by omega⟩) (by have h9_ := hcs (by omega) a.toNat (by omega); omega) (hs1) ((rdar_5 hD hgi (by omega) (lfr_s g26_ rfl)) a.toNat _ (dat_get (by omega))) (⟨by have h9_ := (tr5 (trm_fs htg hf_F1 (by first | exact fs_rg rfl | exact fun r j hj => (fs_n (by omega) (fs_n (by omega) (fs_n (by omega) rfl)))))).1.1; have h8_ := (prb_ok hps.2.symm co1_).1.1; omega, (tr5 (trm_fs htg hf_F1 (by first | exact fs_rg rfl | exact fun r j hj => (fs_n (by omega) (fs_n (by omega) (fs_n (by omega) rfl)))))).2⟩) ((rprd_fs (rprd_fs hps.1 hf_Fg (fun r j hj => (fs_n (by omega) (fs_n (by omega) (fs_n (by omega) (fs_n (by omega) (fs_n (by omega) (fs_n (by omega) (fs_n (by omega) (by first | exact fs_c rfl | exact (fs_n (by omega) (fs_n (by omega) (fs_n (by omega) (fs_n (by omega) (fs_n (by omega) (fs_n (by omega) (fs_n (by omega) (fs_n (by omega) (fs_n (by omega) rfl))))))))))))))))))) hf_F1 (by first | exact fs_rg rfl | exact fun r j hj => (fs_n (by omega) (fs_n (by omega) (fs_n (by omega) rfl)))))) (ad_l3 (hDw _ (dat_mem (by omega)))) (ad_e3 (hDw _ (dat_mem (by omega)))) ((hst (by omega)).1) ((hst (by omega)).2)) (fun _ _ h => False.elim h) ?_
    rintro z194_ A1_ (⟨F197_, hA_, g198_, s199_, hz_, c195_, c196_⟩ | ⟨F203_, hA_, g204_, s205_, hz_, c200_, c201_, c202_⟩)
    ·
      subst hA_
      subst hz_
      have g206_ : fs [(344, 344, 0, 1), (344, 344, 4, 5), (344, 344, 8, 10), (344, 344, 12, 13), (344, 344, 33, 33), (344, 344, 36, 36), (344, 344, 38, 39), (344, 344, 46, 48), (344, 344, 60, 60), (344, 344, 64, 64), (347, 348, 0, 100000), (358, 358, 5, 5), (360, 362, 40, 43), (363, 363, 80, 87), (364, 372, 0, 100000), (384, 384, 0, 100000)] F F197_ := fs_tr g26_ s199_ rfl
      refine ga_istore_n (lv2 := [(1, .int (Int32.ofInt 0)), (2, .int (Int32.ofInt a)), (0, .ref 344)]) hm_64 rfl (Nat.le_of_ble_eq_true rfl) rfl ?_
      refine ga_inc (a := a) (c := a + 1) (lv2 := [(2, .int (Int32.ofInt (a + 1))), (1, .int (Int32.ofInt 0)), (0, .ref 344)]) hm_64 rfl rfl (Nat.le_of_ble_eq_true rfl) rfl rfl ?_
      refine fl_goto hm_64 rfl ?_
      have b207_ : 0 ≤ F197_ 344 39 ∧ F197_ 344 39 ≤ 40 := gi_g g198_ rfl
      have b208_ : 0 ≤ F1 344 39 ∧ F1 344 39 ≤ 40 := gi_g hg_F1 rfl
      exact ih23_ _ (by omega) (0) (a + 1) F197_ rfl g198_ (fs_tr hf_F1 s199_ rfl) (⟨by omega, by omega⟩) (⟨by omega, by omega⟩) (c196_) (fun _ => hf4 (by omega)) (by omega) (fun _ => Or.inr (by have h9_ := c195_; rw [← stP_s] at h9_; have h8_ := stP_le (tl := tl) (D := D) (show a.toNat + 1 ≤ D.length by omega); omega)) (fun h9_ => absurd h9_ (by omega))
    subst hA_
    subst hz_
    have g209_ : fs [(344, 344, 0, 1), (344, 344, 4, 5), (344, 344, 8, 10), (344, 344, 12, 13), (344, 344, 33, 33), (344, 344, 36, 36), (344, 344, 38, 39), (344, 344, 46, 48), (344, 344, 60, 60), (344, 344, 64, 64), (347, 348, 0, 100000), (358, 358, 5, 5), (360, 362, 40, 43), (363, 363, 80, 87), (364, 372, 0, 100000), (384, 384, 0, 100000)] F F203_ := fs_tr g26_ s205_ rfl
    refine ga_istore_n (lv2 := [(1, .int (Int32.ofInt 1)), (2, .int (Int32.ofInt a)), (0, .ref 344)]) hm_64 rfl (Nat.le_of_ble_eq_true rfl) rfl ?_
    refine ga_inc (a := a) (c := a + 1) (lv2 := [(2, .int (Int32.ofInt (a + 1))), (1, .int (Int32.ofInt 1)), (0, .ref 344)]) hm_64 rfl rfl (Nat.le_of_ble_eq_true rfl) rfl rfl ?_
    refine fl_goto hm_64 rfl ?_
    have b210_ : 0 ≤ F203_ 344 39 ∧ F203_ 344 39 ≤ 40 := gi_g g204_ rfl
    have b211_ : 0 ≤ F1 344 39 ∧ F1 344 39 ≤ 40 := gi_g hg_F1 rfl
    exact ih23_ _ (by omega) (1) (a + 1) F203_ rfl g204_ (fs_tr hf_F1 s205_ rfl) (⟨by omega, by omega⟩) (⟨by omega, by omega⟩) (c200_) (fun _ => hf4 (by omega)) (by omega) (fun h9_ => absurd h9_ (by omega)) (fun _ => by rw [show (a + 1).toNat = a.toNat + 1 by omega, stP_s]; exact ⟨c201_, c202_⟩)
  have b212_ : 0 ≤ Fg 344 39 ∧ Fg 344 39 ≤ 40 := gi_g hg_Fg rfl
  exact L22_ _ (ft) (0) Fg rfl hg_Fg fs_refl (⟨by omega, by omega⟩) (⟨by omega, by omega⟩) (sob_0 h39g) (fun h9_ => by have h8_ := hf1g h9_; omega) (by omega) (fun h9_ => Or.inl (hf0g h9_)) (fun _ => ⟨Eq.trans h39g rfl, rsts_nil⟩)

/-- what the reference holds of a problem's first state and goal -/
def pbR (F : fl_N) (ps : List (List Int)) (tl : List Int) (Li Lg : List lt_T) : Prop := fnr F 366 ps tl 216 ∧ F 344 38 = msk (F 366) (fun j : Nat => (j : Int)) 0 Li ∧ F 344 46 = msk (F 366) (fun j : Nat => (j : Int)) 0 Lg ∧ F 344 47 = msk (F 366) (fun j : Nat => (j : Int)) 1 Lg ∧ F 344 48 = (if eqh Lg (fun j : Nat => (j : Int)) = true then 1 else 0)

/- CheapPlannerModel.problem -/
abbrev pq_64 (G : Nat → Nat → Option Nat) (F : fl_N) (X : xi_H) (K : fl_N) (nm : Int) (ts pl : List Int) (ps : List (List Int)) (D : List ad_T) : Outcome → xi_H → Prop := gqi (fun z A => ∃ F' : fl_N, fl_H sh_T G F' ++ X = A ∧ gi F' ∧ fs [(344, 344, 0, 1), (344, 344, 4, 5), (344, 344, 8, 10), (344, 344, 12, 13), (344, 344, 33, 33), (344, 344, 36, 36), (344, 344, 38, 39), (344, 344, 46, 48), (344, 344, 60, 60), (344, 344, 64, 64), (347, 348, 0, 100000), (358, 358, 5, 5), (360, 362, 40, 43), (363, 363, 80, 87), (364, 372, 0, 100000), (384, 384, 0, 100000)] F F' ∧ (-2147483648 ≤ z ∧ z ≤ 2147483647) ∧ ((F 344 11 = 0 ∧ F' 344 1 = F 344 1) ∨ (F 344 11 = 1 ∧ F' 344 1 = 0)) ∧ (pli F') ∧ (F' 344 12 = 1 → sob F' ∧ F' 344 36 ≤ 40) ∧ ((F 344 11 = 0 ∧ F' 344 0 = 1 ∧ F' 344 8 = F 344 8) ∨ (F 344 11 = 1 ∧ ((∃ e, sp_prb K nm ts pl ps = .inl e ∧ F' 344 8 = e.1 + 10 * e.2 ∧ F' 344 0 = 2) ∨ (∃ l tl, sp_prb K nm ts pl ps = .inr (l, tl) ∧ F' 344 8 = 0 ∧ ((F' 344 0 = 3 ∧ (40 < nfc ps tl 216 ∨ 40 < (stP tl D D.length).length)) ∨ (F' 344 0 = 0 ∧ nfc ps tl 216 ≤ 40 ∧ (stP tl D D.length).length ≤ 40 ∧ z = ((stP tl D D.length).length : Int) ∧ F' 344 39 = ((stP tl D D.length).length : Int) ∧ rsts F' D (stP tl D D.length) ∧ pbR F' ps tl (prb_i K nm ts pl ps) (prb_g K nm ts pl ps))))))) ∧ ((F' 344 0 = 0 → F' 344 12 = 1 ∧ F' 344 60 = 0) ∧ (F' 344 0 = 1 → F' 344 12 = F 344 12) ∧ (F' 344 0 = 2 ∨ F' 344 0 = 3 → F' 344 12 = 0))) gqn
set_option maxHeartbeats 16000000 in
theorem mg_64_99 {G : Nat → Nat → Option Nat} (hG : gg G) (F : fl_N) (X : xi_H) (hgi : gi F) (K : fl_N) (nm : Int) (ts pl : List Int) (ps : List (List Int)) (D : List ad_T) (hin : kin K (F 344 1)) (htx : ∀ j : Nat, (j : Int) < F 344 1 → F 345 j = K 2 j) (hkw : ∀ j : Nat, j < 76 → F 346 j = ra_at 346 j) (hdm : F 344 11 = 1 → nrel nm (F 344 14) ∧ rpn (F 349) (F 344 15) ts ∧ rpn (F 350) (F 344 17) pl ∧ (rprd F ps ∧ ps.length = pl.length)) (hcs : F 344 11 = 1 → ∀ j : Nat, (j : Int) < F 344 21 → 0 ≤ F 357 j) (hpl : pli F) (hpb : F 344 12 = 1 → sob F ∧ F 344 36 ≤ 40) (hDD : F 344 11 = 1 → rdar F D ∧ (D.length : Int) = F 344 21 ∧ ∀ d ∈ D, adok ps d ∧ d.1.length ≤ 3) (fr lo : Nat) (hfr : 8 ≤ fr) (hlo : 188 ≤ lo) (Fg : fl_N) (ft : Int) (l : List Int) (tl : List Int) (hg_Fg : gi Fg) (hf_Fg : fs [(344, 344, 0, 1), (344, 344, 4, 5), (344, 344, 8, 10), (344, 344, 12, 13), (344, 344, 33, 33), (344, 344, 36, 36), (344, 344, 38, 39), (344, 344, 46, 48), (344, 344, 60, 60), (344, 344, 64, 64), (347, 348, 0, 100000), (358, 358, 5, 5), (360, 362, 40, 43), (363, 363, 80, 87), (364, 372, 0, 100000), (384, 384, 0, 100000)] F Fg) (hftb : 0 ≤ ft ∧ ft ≤ 1) (h11g : F 344 11 = 1) (co1_ : sp_prb K nm ts pl ps = .inr (l, tl)) (htg : trm Fg 5 2 l tl) (h36g : Fg 344 36 = (nfc ps tl 216 : Int)) (hf1g : ft = 1 → nfc ps tl 216 ≤ 40) (hf0g : ft = 0 → 40 < nfc ps tl 216) (hrcg : rcl Fg 40 (prb_g K nm ts pl ps)) (hrng : Fg 358 5 = ((prb_g K nm ts pl ps).length : Int)) (h39g : Fg 344 39 = 0) (h0g_ : Fg 344 0 = 0) (h8g : Fg 344 8 = 0) (h1g : Fg 344 1 = 0) (h12g : Fg 344 12 = 0 ∧ Fg 344 13 = 0) (h60g : Fg 344 60 = 0) (hfng : fnr Fg 366 ps tl 216) (h38g : Fg 344 36 ≤ 40 → Fg 344 38 = msk (Fg 366) (fun j : Nat => (j : Int)) 0 (prb_i K nm ts pl ps)) : fl_R xi_ms 64 fr lo 99 [(1, .int (Int32.ofInt ft)), (0, .ref 344)] [] (fl_H sh_T G Fg ++ X) (pq_64 G F X K nm ts pl ps D) := by
  have hb1 : 0 ≤ F 344 1 ∧ F 344 1 ≤ 600 := gi_g hgi rfl
  have hb11 : 0 ≤ F 344 11 ∧ F 344 11 ≤ 1 := gi_g hgi rfl
  have hb11 : 0 ≤ F 344 11 ∧ F 344 11 ≤ 1 := gi_g hgi rfl
  obtain ⟨hnm, hts, hrpl, hps⟩ := hdm (by omega)
  obtain ⟨hD, hDl, hDw⟩ := hDD (by omega)
  have hb21 : 0 ≤ F 344 21 ∧ F 344 21 ≤ 5 := gi_g hgi rfl
  refine fl_iconst hm_64 rfl ?_
  refine ga_istore_n (lv2 := [(2, .int (Int32.ofInt 0)), (1, .int (Int32.ofInt ft)), (0, .ref 344)]) hm_64 rfl (Nat.le_of_ble_eq_true rfl) rfl ?_
  have b24_ : 0 ≤ Fg 344 36 ∧ Fg 344 36 ≤ 216 := gi_g hg_Fg rfl
  have L22_ : ∀ (n21_ : Nat) (ft : Int) (a : Int) (F1 : fl_N), (5 - a : Int).toNat = n21_ → (gi F1) → (fs [(344, 344, 39, 39), (367, 372, 0, 100000), (384, 384, 0, 100000)] Fg F1) → (0 ≤ a ∧ a ≤ 5) → (0 ≤ ft ∧ ft ≤ 1) → (sob F1) → (ft = 1 → Fg 344 36 ≤ 40) → (a ≤ (D.length : Int)) → (ft = 0 → 40 < nfc ps tl 216 ∨ 40 < (stP tl D D.length).length) → (ft = 1 → F1 344 39 = ((stP tl D a.toNat).length : Int) ∧ rsts F1 D (stP tl D a.toNat)) → fl_R xi_ms 64 fr lo 101 [(2, .int (Int32.ofInt a)), (1, .int (Int32.ofInt ft)), (0, .ref 344)] [] (fl_H sh_T G F1 ++ X) (pq_64 G F X K nm ts pl ps D) := by
    intro n21_
    induction n21_ using Nat.strongRecOn with
    | ind n21_ ih23_ =>
    intro ft a F1 hn25_ hg_F1 hf_F1 ha hft hs1 hf4 hal ho hst
    have g26_ : fs [(344, 344, 0, 1), (344, 344, 4, 5), (344, 344, 8, 10), (344, 344, 12, 13), (344, 344, 33, 33), (344, 344, 36, 36), (344, 344, 38, 39), (344, 344, 46, 48), (344, 344, 60, 60), (344, 344, 64, 64), (347, 348, 0, 100000), (358, 358, 5, 5), (360, 362, 40, 43), (363, 363, 80, 87), (364, 372, 0, 100000), (384, 384, 0, 100000)] F F1 := fs_tr hf_Fg hf_F1 rfl
    refine ga_iload_n (z := a) hm_64 rfl rfl ?_
    refine ga_aload_n (v := .ref 344) hm_64 rfl rfl rfl ?_
    have e27_ : Fg 344 21 = F 344 21 := (hf_Fg 344 21 rfl).trans (rfl)
    have e28_ : F1 344 21 = F 344 21 := (hf_F1 344 21 rfl).trans (e27_)
    have b29_ : 0 ≤ F 344 21 ∧ F 344 21 ≤ 5 := gi_g hgi rfl
    refine ga_geti (z := F 344 21) hm_64 rfl sc_344 rfl (e28_) ?_
    refine fl_icmp_ge (a := a) (b := F 344 21) hm_64 rfl ⟨by omega, by omega⟩ ⟨by omega, by omega⟩ (fun h30_ => ?_) (fun h31_ => ?_)
    ·
      refine ga_iload_n (z := ft) hm_64 rfl rfl ?_
      refine fx_if_ne (a := ft) hm_64 rfl ⟨by omega, by omega⟩ (fun h32_ => ?_) (fun h33_ => ?_)
      ·
        refine ga_aload_n (v := .ref 344) hm_64 rfl rfl rfl ?_
        refine ga_aload_n (v := .ref 344) hm_64 rfl rfl rfl ?_
        refine fl_iconst hm_64 rfl ?_
        refine fl_bipush hm_64 rfl rfl ?_
        refine ga_aload_n (v := .ref 344) hm_64 rfl rfl rfl ?_
        refine ga_getr (b := 358) hm_64 rfl sc_344 rfl ?_
        refine fl_iconst hm_64 rfl ?_
        have e34_ : F1 358 5 = Fg 358 5 := (hf_F1 358 5 rfl).trans (rfl)
        have b35_ : 0 ≤ Fg 358 5 ∧ Fg 358 5 ≤ 4 := gi_g hg_Fg rfl
        refine ga_iald (z := 5) (w := Fg 358 5) hm_64 rfl sc_358 (by omega) (by omega) (by omega) (e34_) ?_
        refine fl_iconst hm_64 rfl ?_
        refine gVl (nY := 9) (F := 2) (L := 47) (As := [.int (Int32.ofInt 5), .int (Int32.ofInt 40), .int (Int32.ofInt (Fg 358 5)), .int (Int32.ofInt 0)]) (b := 344) (rest := [.ref 344]) hm_64 rfl hm_156 rfl rfl (fl_ob sc_344) rfl rfl rfl rfl rfl (by omega) (by omega) (mc_156 hG F1 X hg_F1 (5) (40) (Fg 358 5) (0) ((prb_g K nm ts pl ps)) (ps) (⟨by omega, by omega⟩) (by omega) (⟨by omega, by omega⟩) (⟨by omega, by omega⟩) (rcl_lfr hrcg (show lfr 0 0 0 Fg F1 from (lfr_fg lfr_r hf_F1 rfl)) (Or.inr (Nat.zero_le _))) (by first | omega | (show ((prb_g K nm ts pl ps).length : Int) = F1 358 5; omega)) (fun x hx => ((prb_ok hps.2.symm co1_).2.2 x hx).1) ((rprd_fs (rprd_fs hps.1 hf_Fg (fun r j hj => (fs_n (by omega) (fs_n (by omega) (fs_n (by omega) (fs_n (by omega) (fs_n (by omega) (fs_n (by omega) (fs_n (by omega) (by first | exact fs_c rfl | exact (fs_n (by omega) (fs_n (by omega) (fs_n (by omega) (fs_n (by omega) (fs_n (by omega) (fs_n (by omega) (fs_n (by omega) (fs_n (by omega) (fs_n (by omega) rfl))))))))))))))))))) hf_F1 (by first | exact fs_rg rfl | exact fun r j hj => (fs_n (by omega) (fs_n (by omega) (fs_n (by omega) rfl))))))) (fun _ _ h => False.elim h) ?_
        rintro z36_ A1_ ⟨hA_, c37_, c38_⟩
        subst hA_
        refine ga_putl hm_64 rfl sc_344 rfl rfl ?_
        refine ga_aload_n (v := .ref 344) hm_64 rfl rfl rfl ?_
        refine ga_aload_n (v := .ref 344) hm_64 rfl rfl rfl ?_
        refine fl_iconst hm_64 rfl ?_
        refine fl_bipush hm_64 rfl rfl ?_
        refine ga_aload_n (v := .ref 344) hm_64 rfl rfl rfl ?_
        refine ga_getr (b := 358) hm_64 rfl sc_344 rfl ?_
        refine fl_iconst hm_64 rfl ?_
        refine ga_iald (z := 5) (w := Fg 358 5) hm_64 rfl sc_358 (by omega) (by omega) (by omega) ((fl_u_ne (by first | exact nc_ rfl | decide | omega)).trans (e34_)) ?_
        refine fl_iconst hm_64 rfl ?_
        obtain ⟨F39_, q40_⟩ : ∃ Fq_, Fq_ = (fl_u F1 344 46 z36_) := ⟨_, rfl⟩
        rw [← q40_]
        have g41_ : gi F39_ := by rw [q40_]; exact gi_u (hg_F1) rfl (by omega) (by omega)
        have g42_ : fs [(344, 344, 0, 1), (344, 344, 4, 5), (344, 344, 8, 10), (344, 344, 12, 13), (344, 344, 33, 33), (344, 344, 36, 36), (344, 344, 38, 39), (344, 344, 46, 48), (344, 344, 60, 60), (344, 344, 64, 64), (347, 348, 0, 100000), (358, 358, 5, 5), (360, 362, 40, 43), (363, 363, 80, 87), (364, 372, 0, 100000), (384, 384, 0, 100000)] F F39_ := by rw [q40_]; exact fs_u (g26_) rfl
        have e43_ : F39_ 358 5 = Fg 358 5 := by rw [q40_]; exact (fl_u_ne (by first | exact nc_ rfl | decide | omega)).trans (e34_)
        refine gVl (nY := 9) (F := 2) (L := 47) (As := [.int (Int32.ofInt 5), .int (Int32.ofInt 40), .int (Int32.ofInt (Fg 358 5)), .int (Int32.ofInt 1)]) (b := 344) (rest := [.ref 344]) hm_64 rfl hm_156 rfl rfl (fl_ob sc_344) rfl rfl rfl rfl rfl (by omega) (by omega) (mc_156 hG F39_ X g41_ (5) (40) (Fg 358 5) (1) ((prb_g K nm ts pl ps)) (ps) (⟨by omega, by omega⟩) (by omega) (⟨by omega, by omega⟩) (⟨by omega, by omega⟩) (rcl_lfr hrcg (show lfr 0 0 0 Fg F39_ from (by rw [q40_]; exact (lfr_uo (lfr_fg lfr_r hf_F1 rfl) rfl))) (Or.inr (Nat.zero_le _))) (by first | omega | (show ((prb_g K nm ts pl ps).length : Int) = F39_ 358 5; omega)) (fun x hx => ((prb_ok hps.2.symm co1_).2.2 x hx).1) ((by rw [q40_]; exact (rprd_u (rprd_fs (rprd_fs hps.1 hf_Fg (fun r j hj => (fs_n (by omega) (fs_n (by omega) (fs_n (by omega) (fs_n (by omega) (fs_n (by omega) (fs_n (by omega) (fs_n (by omega) (by first | exact fs_c rfl | exact (fs_n (by omega) (fs_n (by omega) (fs_n (by omega) (fs_n (by omega) (fs_n (by omega) (fs_n (by omega) (fs_n (by omega) (fs_n (by omega) (fs_n (by omega) rfl))))))))))))))))))) hf_F1 (by first | exact fs_rg rfl | exact fun r j hj => (fs_n (by omega) (fs_n (by omega) (fs_n (by omega) rfl))))) (by first | decide | exact nc_ rfl | omega))))) (fun _ _ h => False.elim h) ?_
        rintro z44_ A1_ ⟨hA_, c45_, c46_⟩
        subst hA_
        refine ga_putl hm_64 rfl sc_344 rfl rfl ?_
        refine ga_aload_n (v := .ref 344) hm_64 rfl rfl rfl ?_
        refine ga_aload_n (v := .ref 344) hm_64 rfl rfl rfl ?_
        refine fl_iconst hm_64 rfl ?_
        refine fl_bipush hm_64 rfl rfl ?_
        obtain ⟨F47_, q48_⟩ : ∃ Fq_, Fq_ = (fl_u F39_ 344 47 z44_) := ⟨_, rfl⟩
        rw [← q48_]
        have g49_ : gi F47_ := by rw [q48_]; exact gi_u (g41_) rfl (by omega) (by omega)
        have g50_ : fs [(344, 344, 0, 1), (344, 344, 4, 5), (344, 344, 8, 10), (344, 344, 12, 13), (344, 344, 33, 33), (344, 344, 36, 36), (344, 344, 38, 39), (344, 344, 46, 48), (344, 344, 60, 60), (344, 344, 64, 64), (347, 348, 0, 100000), (358, 358, 5, 5), (360, 362, 40, 43), (363, 363, 80, 87), (364, 372, 0, 100000), (384, 384, 0, 100000)] F F47_ := by rw [q48_]; exact fs_u (g42_) rfl
        have e51_ : F47_ 358 5 = Fg 358 5 := by rw [q48_]; exact (fl_u_ne (by first | exact nc_ rfl | decide | omega)).trans (e43_)
        refine gVi (nY := 6) (F := 1) (L := 23) (As := [.int (Int32.ofInt 5), .int (Int32.ofInt 40)]) (b := 344) (rest := [.ref 344]) hm_64 rfl hm_159 rfl rfl (fl_ob sc_344) rfl rfl rfl rfl rfl (by omega) (by omega) (mc_159 hG F47_ X g49_ (5) (40) ((prb_g K nm ts pl ps)) (⟨by omega, by omega⟩) (by omega) (rcl_lfr hrcg (show lfr 0 0 0 Fg F47_ from (by rw [q48_]; exact (lfr_uo (by rw [q40_]; exact (lfr_uo (lfr_fg lfr_r hf_F1 rfl) rfl)) rfl))) (Or.inr (Nat.zero_le _))) (by first | omega | (show ((prb_g K nm ts pl ps).length : Int) = F47_ 358 5; omega)) (fun x hx h9_ => ((prb_ok hps.2.symm co1_).2.2 x hx).2.1.2.2 h9_)) (fun _ _ h => False.elim h) ?_
        rintro z52_ A1_ ⟨hA_, c53_, c54_⟩
        subst hA_
        refine ga_putz (z := z52_) hm_64 rfl sc_344 rfl rfl (by omega) ?_
        refine ga_aload_n (v := .ref 344) hm_64 rfl rfl rfl ?_
        refine fl_iconst hm_64 rfl ?_
        refine ga_putz (z := 1) hm_64 rfl sc_344 rfl rfl (by omega) ?_
        refine ga_aload_n (v := .ref 344) hm_64 rfl rfl rfl ?_
        have e55_ : F39_ 344 39 = F1 344 39 := by rw [q40_]; exact fl_u_ne (by first | exact nc_ rfl | decide | omega)
        have e56_ : F47_ 344 39 = F1 344 39 := by rw [q48_]; exact (fl_u_ne (by first | exact nc_ rfl | decide | omega)).trans (e55_)
        have b57_ : 0 ≤ F1 344 39 ∧ F1 344 39 ≤ 40 := gi_g hg_F1 rfl
        refine ga_geti (z := F1 344 39) hm_64 rfl sc_344 rfl ((fl_u_ne (by first | exact nc_ rfl | decide | omega)).trans ((fl_u_ne (by first | exact nc_ rfl | decide | omega)).trans (e56_))) ?_
        obtain ⟨F58_, q59_⟩ : ∃ Fq_, Fq_ = (fl_u (fl_u F47_ 344 48 z52_) 344 12 1) := ⟨_, rfl⟩
        rw [← q59_]
        have g60_ : gi F58_ := by rw [q59_]; exact gi_u (gi_u (g49_) rfl (by omega) (by omega)) rfl (by omega) (by omega)
        have g61_ : fs [(344, 344, 0, 1), (344, 344, 4, 5), (344, 344, 8, 10), (344, 344, 12, 13), (344, 344, 33, 33), (344, 344, 36, 36), (344, 344, 38, 39), (344, 344, 46, 48), (344, 344, 60, 60), (344, 344, 64, 64), (347, 348, 0, 100000), (358, 358, 5, 5), (360, 362, 40, 43), (363, 363, 80, 87), (364, 372, 0, 100000), (384, 384, 0, 100000)] F F58_ := by rw [q59_]; exact fs_u (fs_u (g50_) rfl) rfl
        refine gr_i (z := F1 344 39) hm_64 rfl rfl rfl ?_
        have e62_ : F1 344 1 = Fg 344 1 := (hf_F1 344 1 rfl).trans (rfl)
        have e63_ : F39_ 344 1 = Fg 344 1 := by rw [q40_]; exact (fl_u_ne (by first | exact nc_ rfl | decide | omega)).trans (e62_)
        have e64_ : F47_ 344 1 = Fg 344 1 := by rw [q48_]; exact (fl_u_ne (by first | exact nc_ rfl | decide | omega)).trans (e63_)
        have e65_ : F58_ 344 1 = Fg 344 1 := by rw [q59_]; exact (fl_u_ne (by first | exact nc_ rfl | decide | omega)).trans ((fl_u_ne (by first | exact nc_ rfl | decide | omega)).trans (e64_))
        have b66_ : 0 ≤ Fg 344 1 ∧ Fg 344 1 ≤ 600 := gi_g hg_Fg rfl
        have b67_ : 0 ≤ F 344 1 ∧ F 344 1 ≤ 600 := gi_g hgi rfl
        have b68_ : 0 ≤ F 344 11 ∧ F 344 11 ≤ 1 := gi_g hgi rfl
        have e69_ : F1 344 13 = Fg 344 13 := (hf_F1 344 13 rfl).trans (rfl)
        have e70_ : F39_ 344 13 = Fg 344 13 := by rw [q40_]; exact (fl_u_ne (by first | exact nc_ rfl | decide | omega)).trans (e69_)
        have e71_ : F47_ 344 13 = Fg 344 13 := by rw [q48_]; exact (fl_u_ne (by first | exact nc_ rfl | decide | omega)).trans (e70_)
        have e72_ : F58_ 344 13 = Fg 344 13 := by rw [q59_]; exact (fl_u_ne (by first | exact nc_ rfl | decide | omega)).trans ((fl_u_ne (by first | exact nc_ rfl | decide | omega)).trans (e71_))
        have e73_ : F58_ 344 12 = 1 := by rw [q59_]; exact fl_u_eq
        have e74_ : F1 344 36 = Fg 344 36 := (hf_F1 344 36 rfl).trans (rfl)
        have e75_ : F39_ 344 36 = Fg 344 36 := by rw [q40_]; exact (fl_u_ne (by first | exact nc_ rfl | decide | omega)).trans (e74_)
        have e76_ : F47_ 344 36 = Fg 344 36 := by rw [q48_]; exact (fl_u_ne (by first | exact nc_ rfl | decide | omega)).trans (e75_)
        have e77_ : F58_ 344 36 = Fg 344 36 := by rw [q59_]; exact (fl_u_ne (by first | exact nc_ rfl | decide | omega)).trans ((fl_u_ne (by first | exact nc_ rfl | decide | omega)).trans (e76_))
        have e78_ : F1 344 0 = Fg 344 0 := (hf_F1 344 0 rfl).trans (rfl)
        have e79_ : F39_ 344 0 = Fg 344 0 := by rw [q40_]; exact (fl_u_ne (by first | exact nc_ rfl | decide | omega)).trans (e78_)
        have e80_ : F47_ 344 0 = Fg 344 0 := by rw [q48_]; exact (fl_u_ne (by first | exact nc_ rfl | decide | omega)).trans (e79_)
        have e81_ : F58_ 344 0 = Fg 344 0 := by rw [q59_]; exact (fl_u_ne (by first | exact nc_ rfl | decide | omega)).trans ((fl_u_ne (by first | exact nc_ rfl | decide | omega)).trans (e80_))
        have b82_ : 0 ≤ Fg 344 0 ∧ Fg 344 0 ≤ 3 := gi_g hg_Fg rfl
        have e83_ : F58_ 344 39 = F1 344 39 := by rw [q59_]; exact (fl_u_ne (by first | exact nc_ rfl | decide | omega)).trans ((fl_u_ne (by first | exact nc_ rfl | decide | omega)).trans (e56_))
        have e84_ : F1 344 8 = Fg 344 8 := (hf_F1 344 8 rfl).trans (rfl)
        have e85_ : F39_ 344 8 = Fg 344 8 := by rw [q40_]; exact (fl_u_ne (by first | exact nc_ rfl | decide | omega)).trans (e84_)
        have e86_ : F47_ 344 8 = Fg 344 8 := by rw [q48_]; exact (fl_u_ne (by first | exact nc_ rfl | decide | omega)).trans (e85_)
        have e87_ : F58_ 344 8 = Fg 344 8 := by rw [q59_]; exact (fl_u_ne (by first | exact nc_ rfl | decide | omega)).trans ((fl_u_ne (by first | exact nc_ rfl | decide | omega)).trans (e86_))
        have b88_ : 0 ≤ Fg 344 8 ∧ Fg 344 8 ≤ 100000 := gi_g hg_Fg rfl
        have b89_ : 0 ≤ F 344 8 ∧ F 344 8 ≤ 100000 := gi_g hgi rfl
        have e90_ : Fg 344 11 = F 344 11 := (hf_Fg 344 11 rfl).trans (rfl)
        have e91_ : F1 344 11 = F 344 11 := (hf_F1 344 11 rfl).trans (e90_)
        have e92_ : F39_ 344 11 = F 344 11 := by rw [q40_]; exact (fl_u_ne (by first | exact nc_ rfl | decide | omega)).trans (e91_)
        have e93_ : F47_ 344 11 = F 344 11 := by rw [q48_]; exact (fl_u_ne (by first | exact nc_ rfl | decide | omega)).trans (e92_)
        have e94_ : F58_ 344 11 = F 344 11 := by rw [q59_]; exact (fl_u_ne (by first | exact nc_ rfl | decide | omega)).trans ((fl_u_ne (by first | exact nc_ rfl | decide | omega)).trans (e93_))
        have e95_ : F1 344 38 = Fg 344 38 := (hf_F1 344 38 rfl).trans (rfl)
        have e96_ : F39_ 344 38 = Fg 344 38 := by rw [q40_]; exact (fl_u_ne (by first | exact nc_ rfl | decide | omega)).trans (e95_)
        have e97_ : F47_ 344 38 = Fg 344 38 := by rw [q48_]; exact (fl_u_ne (by first | exact nc_ rfl | decide | omega)).trans (e96_)
        have e98_ : F58_ 344 38 = Fg 344 38 := by rw [q59_]; exact (fl_u_ne (by first | exact nc_ rfl | decide | omega)).trans ((fl_u_ne (by first | exact nc_ rfl | decide | omega)).trans (e97_))
        have e99_ : F58_ 344 48 = z52_ := by rw [q59_]; exact (fl_u_ne (by first | exact nc_ rfl | decide | omega)).trans (fl_u_eq)
        have e100_ : F39_ 344 46 = z36_ := by rw [q40_]; exact fl_u_eq
        have e101_ : F47_ 344 46 = z36_ := by rw [q48_]; exact (fl_u_ne (by first | exact nc_ rfl | decide | omega)).trans (e100_)
        have e102_ : F58_ 344 46 = z36_ := by rw [q59_]; exact (fl_u_ne (by first | exact nc_ rfl | decide | omega)).trans ((fl_u_ne (by first | exact nc_ rfl | decide | omega)).trans (e101_))
        have e103_ : F47_ 344 47 = z44_ := by rw [q48_]; exact fl_u_eq
        have e104_ : F58_ 344 47 = z44_ := by rw [q59_]; exact (fl_u_ne (by first | exact nc_ rfl | decide | omega)).trans ((fl_u_ne (by first | exact nc_ rfl | decide | omega)).trans (e103_))
        have e105_ : F1 344 60 = Fg 344 60 := (hf_F1 344 60 rfl).trans (rfl)
        have e106_ : F39_ 344 60 = Fg 344 60 := by rw [q40_]; exact (fl_u_ne (by first | exact nc_ rfl | decide | omega)).trans (e105_)
        have e107_ : F47_ 344 60 = Fg 344 60 := by rw [q48_]; exact (fl_u_ne (by first | exact nc_ rfl | decide | omega)).trans (e106_)
        have e108_ : F58_ 344 60 = Fg 344 60 := by rw [q59_]; exact (fl_u_ne (by first | exact nc_ rfl | decide | omega)).trans ((fl_u_ne (by first | exact nc_ rfl | decide | omega)).trans (e107_))
        have b109_ : 0 ≤ Fg 344 60 ∧ Fg 344 60 ≤ 60 := gi_g hg_Fg rfl
        have b110_ : 0 ≤ F 344 12 ∧ F 344 12 ≤ 1 := gi_g hgi rfl
        exact ⟨F58_, rfl, g60_, g61_, (⟨by omega, by omega⟩), (by omega), (pli_0 (by omega)), (fun _ => ⟨sob_cg hs1 (Eq.trans (a := F58_ 344 39) (b := F47_ 344 39) (by rw [q59_]; exact (fl_u_ne (by first | exact nc_ rfl | decide | omega)).trans ((fl_u_ne (by first | exact nc_ rfl | decide | omega)))) (Eq.trans (a := F47_ 344 39) (b := F39_ 344 39) (by rw [q48_]; exact (fl_u_ne (by first | exact nc_ rfl | decide | omega))) (show F39_ 344 39 = F1 344 39 from (by rw [q40_]; exact (fl_u_ne (by first | exact nc_ rfl | decide | omega)))))) (fun j => (Eq.trans (a := F58_ 357 j) (b := F47_ 357 j) (by rw [q59_]; exact (fl_u_ne (by first | exact nc_ rfl | decide | omega)).trans ((fl_u_ne (by first | exact nc_ rfl | decide | omega)))) (Eq.trans (a := F47_ 357 j) (b := F39_ 357 j) (by rw [q48_]; exact (fl_u_ne (by first | exact nc_ rfl | decide | omega))) (show F39_ 357 j = F1 357 j from (by rw [q40_]; exact (fl_u_ne (by first | exact nc_ rfl | decide | omega))))))) (fun j => (Eq.trans (a := F58_ 367 j) (b := F47_ 367 j) (by rw [q59_]; exact (fl_u_ne (by first | exact nc_ rfl | decide | omega)).trans ((fl_u_ne (by first | exact nc_ rfl | decide | omega)))) (Eq.trans (a := F47_ 367 j) (b := F39_ 367 j) (by rw [q48_]; exact (fl_u_ne (by first | exact nc_ rfl | decide | omega))) (show F39_ 367 j = F1 367 j from (by rw [q40_]; exact (fl_u_ne (by first | exact nc_ rfl | decide | omega))))))) (fun j => (Eq.trans (a := F58_ 354 j) (b := F47_ 354 j) (by rw [q59_]; exact (fl_u_ne (by first | exact nc_ rfl | decide | omega)).trans ((fl_u_ne (by first | exact nc_ rfl | decide | omega)))) (Eq.trans (a := F47_ 354 j) (b := F39_ 354 j) (by rw [q48_]; exact (fl_u_ne (by first | exact nc_ rfl | decide | omega))) (show F39_ 354 j = F1 354 j from (by rw [q40_]; exact (fl_u_ne (by first | exact nc_ rfl | decide | omega))))))) (fun j => (Eq.trans (a := F58_ 368 j) (b := F47_ 368 j) (by rw [q59_]; exact (fl_u_ne (by first | exact nc_ rfl | decide | omega)).trans ((fl_u_ne (by first | exact nc_ rfl | decide | omega)))) (Eq.trans (a := F47_ 368 j) (b := F39_ 368 j) (by rw [q48_]; exact (fl_u_ne (by first | exact nc_ rfl | decide | omega))) (show F39_ 368 j = F1 368 j from (by rw [q40_]; exact (fl_u_ne (by first | exact nc_ rfl | decide | omega))))))), by omega⟩), (Or.inr ⟨by omega, Or.inr ⟨l, tl, co1_, by omega, Or.inr (by have h6_ := hst (by omega); have h5_ : 0 ≤ F1 344 39 ∧ F1 344 39 ≤ 40 := gi_g hg_F1 rfl; have h4_ := hf4 (by omega); rw [show a.toNat = D.length by omega] at h6_; have h7_ := h6_.1; exact ⟨by omega, by omega, by omega, by omega, by omega, rsts_cg h6_.2 (fun j => (Eq.trans (a := F58_ 366 j) (b := F47_ 366 j) (by rw [q59_]; exact (fl_u_ne (by first | exact nc_ rfl | decide | omega)).trans ((fl_u_ne (by first | exact nc_ rfl | decide | omega)))) (Eq.trans (a := F47_ 366 j) (b := F39_ 366 j) (by rw [q48_]; exact (fl_u_ne (by first | exact nc_ rfl | decide | omega))) (show F39_ 366 j = F1 366 j from (by rw [q40_]; exact (fl_u_ne (by first | exact nc_ rfl | decide | omega))))))) (fun j hj => (Eq.trans (a := F58_ 368 j) (b := F47_ 368 j) (by rw [q59_]; exact (fl_u_ne (by first | exact nc_ rfl | decide | omega)).trans ((fl_u_ne (by first | exact nc_ rfl | decide | omega)))) (Eq.trans (a := F47_ 368 j) (b := F39_ 368 j) (by rw [q48_]; exact (fl_u_ne (by first | exact nc_ rfl | decide | omega))) (show F39_ 368 j = F1 368 j from (by rw [q40_]; exact (fl_u_ne (by first | exact nc_ rfl | decide | omega))))))) (fun r j hr hj => (Eq.trans (a := F58_ (r) j) (b := F47_ (r) j) (by rw [q59_]; exact (fl_u_ne (by first | exact nc_ rfl | decide | omega)).trans ((fl_u_ne (by first | exact nc_ rfl | decide | omega)))) (Eq.trans (a := F47_ (r) j) (b := F39_ (r) j) (by rw [q48_]; exact (fl_u_ne (by first | exact nc_ rfl | decide | omega))) (show F39_ (r) j = F1 (r) j from (by rw [q40_]; exact (fl_u_ne (by first | exact nc_ rfl | decide | omega))))))), ⟨fnr_cg hfng (fun j => (Eq.trans (a := F58_ 366 j) (b := F47_ 366 j) (by rw [q59_]; exact (fl_u_ne (by first | exact nc_ rfl | decide | omega)).trans ((fl_u_ne (by first | exact nc_ rfl | decide | omega)))) (Eq.trans (a := F47_ 366 j) (b := F39_ 366 j) (by rw [q48_]; exact (fl_u_ne (by first | exact nc_ rfl | decide | omega))) (Eq.trans (a := F39_ 366 j) (b := F1 366 j) (by rw [q40_]; exact (fl_u_ne (by first | exact nc_ rfl | decide | omega))) (show F1 366 j = Fg 366 j from (hf_F1 366 j (by first | exact fs_c rfl | exact (fs_n (by omega) (fs_n (by omega) (fs_n (by omega) rfl)))))))))), by rw [(show F58_ 366 = Fg 366 from funext (fun j => (Eq.trans (a := F58_ 366 j) (b := F47_ 366 j) (by rw [q59_]; exact (fl_u_ne (by first | exact nc_ rfl | decide | omega)).trans ((fl_u_ne (by first | exact nc_ rfl | decide | omega)))) (Eq.trans (a := F47_ 366 j) (b := F39_ 366 j) (by rw [q48_]; exact (fl_u_ne (by first | exact nc_ rfl | decide | omega))) (Eq.trans (a := F39_ 366 j) (b := F1 366 j) (by rw [q40_]; exact (fl_u_ne (by first | exact nc_ rfl | decide | omega))) (show F1 366 j = Fg 366 j from (hf_F1 366 j (by first | exact fs_c rfl | exact (fs_n (by omega) (fs_n (by omega) (fs_n (by omega) rfl)))))))))))]; exact Eq.trans ((Eq.trans (a := F58_ 344 38) (b := F47_ 344 38) (by rw [q59_]; exact (fl_u_ne (by first | exact nc_ rfl | decide | omega)).trans ((fl_u_ne (by first | exact nc_ rfl | decide | omega)))) (Eq.trans (a := F47_ 344 38) (b := F39_ 344 38) (by rw [q48_]; exact (fl_u_ne (by first | exact nc_ rfl | decide | omega))) (Eq.trans (a := F39_ 344 38) (b := F1 344 38) (by rw [q40_]; exact (fl_u_ne (by first | exact nc_ rfl | decide | omega))) (show F1 344 38 = Fg 344 38 from (hf_F1 344 38 (by first | exact fs_c rfl | exact (fs_n (by omega) (fs_n (by omega) (fs_n (by omega) rfl)))))))))) (h38g (by omega)), by rw [(show F58_ 366 = F1 366 from funext (fun j => (Eq.trans (a := F58_ 366 j) (b := F47_ 366 j) (by rw [q59_]; exact (fl_u_ne (by first | exact nc_ rfl | decide | omega)).trans ((fl_u_ne (by first | exact nc_ rfl | decide | omega)))) (Eq.trans (a := F47_ 366 j) (b := F39_ 366 j) (by rw [q48_]; exact (fl_u_ne (by first | exact nc_ rfl | decide | omega))) (show F39_ 366 j = F1 366 j from (by rw [q40_]; exact (fl_u_ne (by first | exact nc_ rfl | decide | omega))))))))]; exact Eq.trans (e102_) (by rw [c38_, obr5]), by rw [(show F58_ 366 = F39_ 366 from funext (fun j => (Eq.trans (a := F58_ 366 j) (b := F47_ 366 j) (by rw [q59_]; exact (fl_u_ne (by first | exact nc_ rfl | decide | omega)).trans ((fl_u_ne (by first | exact nc_ rfl | decide | omega)))) (show F47_ 366 j = F39_ 366 j from (by rw [q48_]; exact (fl_u_ne (by first | exact nc_ rfl | decide | omega)))))))]; exact Eq.trans (e104_) (by rw [c46_, obr5]), Eq.trans (e99_) (by rw [c54_, obr5])⟩⟩)⟩⟩), (⟨fun h9_ => ⟨by omega, by omega⟩, fun h9_ => by omega, fun h9_ => by omega⟩)⟩
      refine ga_aload_n (v := .ref 344) hm_64 rfl rfl rfl ?_
      refine fl_iconst hm_64 rfl ?_
      refine ga_puti (z := 3) hm_64 rfl sc_344 rfl rfl ?_
      refine fl_iconst hm_64 rfl ?_
      obtain ⟨F111_, q112_⟩ : ∃ Fq_, Fq_ = (fl_u F1 344 0 3) := ⟨_, rfl⟩
      rw [← q112_]
      have g113_ : gi F111_ := by rw [q112_]; exact gi_u (hg_F1) rfl (by omega) (by omega)
      have g114_ : fs [(344, 344, 0, 1), (344, 344, 4, 5), (344, 344, 8, 10), (344, 344, 12, 13), (344, 344, 33, 33), (344, 344, 36, 36), (344, 344, 38, 39), (344, 344, 46, 48), (344, 344, 60, 60), (344, 344, 64, 64), (347, 348, 0, 100000), (358, 358, 5, 5), (360, 362, 40, 43), (363, 363, 80, 87), (364, 372, 0, 100000), (384, 384, 0, 100000)] F F111_ := by rw [q112_]; exact fs_u (g26_) rfl
      refine gr_i (z := 0) hm_64 rfl rfl rfl ?_
      have e115_ : F1 344 1 = Fg 344 1 := (hf_F1 344 1 rfl).trans (rfl)
      have e116_ : F111_ 344 1 = Fg 344 1 := by rw [q112_]; exact (fl_u_ne (by first | exact nc_ rfl | decide | omega)).trans (e115_)
      have b117_ : 0 ≤ Fg 344 1 ∧ Fg 344 1 ≤ 600 := gi_g hg_Fg rfl
      have b118_ : 0 ≤ F 344 1 ∧ F 344 1 ≤ 600 := gi_g hgi rfl
      have b119_ : 0 ≤ F 344 11 ∧ F 344 11 ≤ 1 := gi_g hgi rfl
      have e120_ : F1 344 13 = Fg 344 13 := (hf_F1 344 13 rfl).trans (rfl)
      have e121_ : F111_ 344 13 = Fg 344 13 := by rw [q112_]; exact (fl_u_ne (by first | exact nc_ rfl | decide | omega)).trans (e120_)
      have e122_ : F1 344 12 = Fg 344 12 := (hf_F1 344 12 rfl).trans (rfl)
      have e123_ : F111_ 344 12 = Fg 344 12 := by rw [q112_]; exact (fl_u_ne (by first | exact nc_ rfl | decide | omega)).trans (e122_)
      have b124_ : 0 ≤ Fg 344 12 ∧ Fg 344 12 ≤ 1 := gi_g hg_Fg rfl
      have e125_ : F1 344 36 = Fg 344 36 := (hf_F1 344 36 rfl).trans (rfl)
      have e126_ : F111_ 344 36 = Fg 344 36 := by rw [q112_]; exact (fl_u_ne (by first | exact nc_ rfl | decide | omega)).trans (e125_)
      have e127_ : F111_ 344 0 = 3 := by rw [q112_]; exact fl_u_eq
      have e128_ : F111_ 344 39 = F1 344 39 := by rw [q112_]; exact fl_u_ne (by first | exact nc_ rfl | decide | omega)
      have b129_ : 0 ≤ F1 344 39 ∧ F1 344 39 ≤ 40 := gi_g hg_F1 rfl
      have e130_ : F1 344 8 = Fg 344 8 := (hf_F1 344 8 rfl).trans (rfl)
      have e131_ : F111_ 344 8 = Fg 344 8 := by rw [q112_]; exact (fl_u_ne (by first | exact nc_ rfl | decide | omega)).trans (e130_)
      have b132_ : 0 ≤ Fg 344 8 ∧ Fg 344 8 ≤ 100000 := gi_g hg_Fg rfl
      have b133_ : 0 ≤ F 344 8 ∧ F 344 8 ≤ 100000 := gi_g hgi rfl
      have e134_ : Fg 344 11 = F 344 11 := (hf_Fg 344 11 rfl).trans (rfl)
      have e135_ : F1 344 11 = F 344 11 := (hf_F1 344 11 rfl).trans (e134_)
      have e136_ : F111_ 344 11 = F 344 11 := by rw [q112_]; exact (fl_u_ne (by first | exact nc_ rfl | decide | omega)).trans (e135_)
      have e137_ : F1 344 60 = Fg 344 60 := (hf_F1 344 60 rfl).trans (rfl)
      have e138_ : F111_ 344 60 = Fg 344 60 := by rw [q112_]; exact (fl_u_ne (by first | exact nc_ rfl | decide | omega)).trans (e137_)
      have b139_ : 0 ≤ Fg 344 60 ∧ Fg 344 60 ≤ 60 := gi_g hg_Fg rfl
      have b140_ : 0 ≤ F 344 12 ∧ F 344 12 ≤ 1 := gi_g hgi rfl
      exact ⟨F111_, rfl, g113_, g114_, (⟨by omega, by omega⟩), (by omega), (pli_0 (by omega)), (fun h9_ => absurd h9_ (by omega)), (Or.inr ⟨by omega, Or.inr ⟨l, tl, co1_, by omega, Or.inl ⟨by omega, ho (by omega)⟩⟩⟩), (⟨fun h9_ => ⟨by omega, by omega⟩, fun h9_ => by omega, fun h9_ => by omega⟩)⟩
    refine ga_iload_n (z := ft) hm_64 rfl rfl ?_
    refine fl_if_eq (a := ft) hm_64 rfl ⟨by omega, by omega⟩ (fun h141_ => ?_) (fun h142_ => ?_)
    ·
      refine ga_iload_n (z := ft) hm_64 rfl rfl ?_
      refine fx_if_ne (a := ft) hm_64 rfl ⟨by omega, by omega⟩ (fun h143_ => ?_) (fun h144_ => ?_)
      · exfalso; omega
      refine ga_aload_n (v := .ref 344) hm_64 rfl rfl rfl ?_
      refine fl_iconst hm_64 rfl ?_
      refine ga_puti (z := 3) hm_64 rfl sc_344 rfl rfl ?_
      refine fl_iconst hm_64 rfl ?_
      obtain ⟨F145_, q146_⟩ : ∃ Fq_, Fq_ = (fl_u F1 344 0 3) := ⟨_, rfl⟩
      rw [← q146_]
      have g147_ : gi F145_ := by rw [q146_]; exact gi_u (hg_F1) rfl (by omega) (by omega)
      have g148_ : fs [(344, 344, 0, 1), (344, 344, 4, 5), (344, 344, 8, 10), (344, 344, 12, 13), (344, 344, 33, 33), (344, 344, 36, 36), (344, 344, 38, 39), (344, 344, 46, 48), (344, 344, 60, 60), (344, 344, 64, 64), (347, 348, 0, 100000), (358, 358, 5, 5), (360, 362, 40, 43), (363, 363, 80, 87), (364, 372, 0, 100000), (384, 384, 0, 100000)] F F145_ := by rw [q146_]; exact fs_u (g26_) rfl
      refine gr_i (z := 0) hm_64 rfl rfl rfl ?_
      have e149_ : F1 344 1 = Fg 344 1 := (hf_F1 344 1 rfl).trans (rfl)
      have e150_ : F145_ 344 1 = Fg 344 1 := by rw [q146_]; exact (fl_u_ne (by first | exact nc_ rfl | decide | omega)).trans (e149_)
      have b151_ : 0 ≤ Fg 344 1 ∧ Fg 344 1 ≤ 600 := gi_g hg_Fg rfl
      have b152_ : 0 ≤ F 344 1 ∧ F 344 1 ≤ 600 := gi_g hgi rfl
      have b153_ : 0 ≤ F 344 11 ∧ F 344 11 ≤ 1 := gi_g hgi rfl
      have e154_ : F1 344 13 = Fg 344 13 := (hf_F1 344 13 rfl).trans (rfl)
      have e155_ : F145_ 344 13 = Fg 344 13 := by rw [q146_]; exact (fl_u_ne (by first | exact nc_ rfl | decide | omega)).trans (e154_)
      have e156_ : F1 344 12 = Fg 344 12 := (hf_F1 344 12 rfl).trans (rfl)
      have e157_ : F145_ 344 12 = Fg 344 12 := by rw [q146_]; exact (fl_u_ne (by first | exact nc_ rfl | decide | omega)).trans (e156_)
      have b158_ : 0 ≤ Fg 344 12 ∧ Fg 344 12 ≤ 1 := gi_g hg_Fg rfl
      have e159_ : F1 344 36 = Fg 344 36 := (hf_F1 344 36 rfl).trans (rfl)
      have e160_ : F145_ 344 36 = Fg 344 36 := by rw [q146_]; exact (fl_u_ne (by first | exact nc_ rfl | decide | omega)).trans (e159_)
      have e161_ : F145_ 344 0 = 3 := by rw [q146_]; exact fl_u_eq
      have e162_ : F145_ 344 39 = F1 344 39 := by rw [q146_]; exact fl_u_ne (by first | exact nc_ rfl | decide | omega)
      have b163_ : 0 ≤ F1 344 39 ∧ F1 344 39 ≤ 40 := gi_g hg_F1 rfl
      have e164_ : F1 344 8 = Fg 344 8 := (hf_F1 344 8 rfl).trans (rfl)
      have e165_ : F145_ 344 8 = Fg 344 8 := by rw [q146_]; exact (fl_u_ne (by first | exact nc_ rfl | decide | omega)).trans (e164_)
      have b166_ : 0 ≤ Fg 344 8 ∧ Fg 344 8 ≤ 100000 := gi_g hg_Fg rfl
      have b167_ : 0 ≤ F 344 8 ∧ F 344 8 ≤ 100000 := gi_g hgi rfl
      have e168_ : Fg 344 11 = F 344 11 := (hf_Fg 344 11 rfl).trans (rfl)
      have e169_ : F1 344 11 = F 344 11 := (hf_F1 344 11 rfl).trans (e168_)
      have e170_ : F145_ 344 11 = F 344 11 := by rw [q146_]; exact (fl_u_ne (by first | exact nc_ rfl | decide | omega)).trans (e169_)
      have e171_ : F1 344 60 = Fg 344 60 := (hf_F1 344 60 rfl).trans (rfl)
      have e172_ : F145_ 344 60 = Fg 344 60 := by rw [q146_]; exact (fl_u_ne (by first | exact nc_ rfl | decide | omega)).trans (e171_)
      have b173_ : 0 ≤ Fg 344 60 ∧ Fg 344 60 ≤ 60 := gi_g hg_Fg rfl
      have b174_ : 0 ≤ F 344 12 ∧ F 344 12 ≤ 1 := gi_g hgi rfl
      exact ⟨F145_, rfl, g147_, g148_, (⟨by omega, by omega⟩), (by omega), (pli_0 (by omega)), (fun h9_ => absurd h9_ (by omega)), (Or.inr ⟨by omega, Or.inr ⟨l, tl, co1_, by omega, Or.inl ⟨by omega, ho (by omega)⟩⟩⟩), (⟨fun h9_ => ⟨by omega, by omega⟩, fun h9_ => by omega, fun h9_ => by omega⟩)⟩
    refine ga_aload_n (v := .ref 344) hm_64 rfl rfl rfl ?_
    refine ga_iload_n (z := a) hm_64 rfl rfl ?_
    have e175_ : Fg 357 a.toNat = F 357 a.toNat := (hf_Fg 357 a.toNat (fs_n (by omega) (fs_n (by omega) (fs_n (by omega) (fs_n (by omega) (fs_n (by omega) (fs_n (by omega) (fs_n (by omega) (by first | exact fs_c rfl | exact (fs_n (by omega) (fs_n (by omega) (fs_n (by omega) (fs_n (by omega) (fs_n (by omega) (fs_n (by omega) (fs_n (by omega) (fs_n (by omega) (fs_n (by omega) rfl)))))))))))))))))).trans (rfl)
    have e176_ : F1 357 a.toNat = F 357 a.toNat := (hf_F1 357 a.toNat (by first | exact fs_c rfl | exact (fs_n (by omega) (fs_n (by omega) (fs_n (by omega) rfl))))).trans (e175_)
    refine gVi (nY := 6) (F := 3) (L := 75) (As := [.int (Int32.ofInt a)]) (b := 344) (rest := []) hm_64 rfl hm_165 rfl rfl (fl_ob sc_344) rfl rfl rfl rfl rfl (by omega) (by omega) (mc_165 hG F1 X hg_F1 (a) (D) (tl) (ps) ((stP tl D a.toNat)) (⟨by omega, by omega⟩) (by have h9_ := hcs (by omega) a.toNat (by omega); omega) (hs1) ((rdar_5 hD hgi (by omega) (lfr_s g26_ rfl)) a.toNat _ (dat_get (by omega))) (⟨by have h9_ := (tr5 (trm_fs htg hf_F1 (by first | exact fs_rg rfl | exact fun r j hj => (fs_n (by omega) (fs_n (by omega) (fs_n (by omega) rfl)))))).1.1; have h8_ := (prb_ok hps.2.symm co1_).1.1; omega, (tr5 (trm_fs htg hf_F1 (by first | exact fs_rg rfl | exact fun r j hj => (fs_n (by omega) (fs_n (by omega) (fs_n (by omega) rfl)))))).2⟩) ((rprd_fs (rprd_fs hps.1 hf_Fg (fun r j hj => (fs_n (by omega) (fs_n (by omega) (fs_n (by omega) (fs_n (by omega) (fs_n (by omega) (fs_n (by omega) (fs_n (by omega) (by first | exact fs_c rfl | exact (fs_n (by omega) (fs_n (by omega) (fs_n (by omega) (fs_n (by omega) (fs_n (by omega) (fs_n (by omega) (fs_n (by omega) (fs_n (by omega) (fs_n (by omega) rfl))))))))))))))))))) hf_F1 (by first | exact fs_rg rfl | exact fun r j hj => (fs_n (by omega) (fs_n (by omega) (fs_n (by omega) rfl)))))) (ad_l3 (hDw _ (dat_mem (by omega)))) (ad_e3 (hDw _ (dat_mem (by omega)))) ((hst (by omega)).1) ((hst (by omega)).2)) (fun _ _ h => False.elim h) ?_
    rintro z177_ A1_ (⟨F180_, hA_, g181_, s182_, hz_, c178_, c179_⟩ | ⟨F186_, hA_, g187_, s188_, hz_, c183_, c184_, c185_⟩)
    ·
      subst hA_
      subst hz_
      have g189_ : fs [(344, 344, 0, 1), (344, 344, 4, 5), (344, 344, 8, 10), (344, 344, 12, 13), (344, 344, 33, 33), (344, 344, 36, 36), (344, 344, 38, 39), (344, 344, 46, 48), (344, 344, 60, 60), (344, 344, 64, 64), (347, 348, 0, 100000), (358, 358, 5, 5), (360, 362, 40, 43), (363, 363, 80, 87), (364, 372, 0, 100000), (384, 384, 0, 100000)] F F180_ := fs_tr g26_ s182_ rfl
      refine ga_istore_n (lv2 := [(1, .int (Int32.ofInt 0)), (2, .int (Int32.ofInt a)), (0, .ref 344)]) hm_64 rfl (Nat.le_of_ble_eq_true rfl) rfl ?_
      refine ga_inc (a := a) (c := a + 1) (lv2 := [(2, .int (Int32.ofInt (a + 1))), (1, .int (Int32.ofInt 0)), (0, .ref 344)]) hm_64 rfl rfl (Nat.le_of_ble_eq_true rfl) rfl rfl ?_
      refine fl_goto hm_64 rfl ?_
      have b190_ : 0 ≤ F180_ 344 39 ∧ F180_ 344 39 ≤ 40 := gi_g g181_ rfl
      have b191_ : 0 ≤ F1 344 39 ∧ F1 344 39 ≤ 40 := gi_g hg_F1 rfl
      exact ih23_ _ (by omega) (0) (a + 1) F180_ rfl g181_ (fs_tr hf_F1 s182_ rfl) (⟨by omega, by omega⟩) (⟨by omega, by omega⟩) (c179_) (fun _ => hf4 (by omega)) (by omega) (fun _ => Or.inr (by have h9_ := c178_; rw [← stP_s] at h9_; have h8_ := stP_le (tl := tl) (D := D) (show a.toNat + 1 ≤ D.length by omega); omega)) (fun h9_ => absurd h9_ (by omega))
    subst hA_
    subst hz_
    have g192_ : fs [(344, 344, 0, 1), (344, 344, 4, 5), (344, 344, 8, 10), (344, 344, 12, 13), (344, 344, 33, 33), (344, 344, 36, 36), (344, 344, 38, 39), (344, 344, 46, 48), (344, 344, 60, 60), (344, 344, 64, 64), (347, 348, 0, 100000), (358, 358, 5, 5), (360, 362, 40, 43), (363, 363, 80, 87), (364, 372, 0, 100000), (384, 384, 0, 100000)] F F186_ := fs_tr g26_ s188_ rfl
    refine ga_istore_n (lv2 := [(1, .int (Int32.ofInt 1)), (2, .int (Int32.ofInt a)), (0, .ref 344)]) hm_64 rfl (Nat.le_of_ble_eq_true rfl) rfl ?_
    refine ga_inc (a := a) (c := a + 1) (lv2 := [(2, .int (Int32.ofInt (a + 1))), (1, .int (Int32.ofInt 1)), (0, .ref 344)]) hm_64 rfl rfl (Nat.le_of_ble_eq_true rfl) rfl rfl ?_
    refine fl_goto hm_64 rfl ?_
    have b193_ : 0 ≤ F186_ 344 39 ∧ F186_ 344 39 ≤ 40 := gi_g g187_ rfl
    have b194_ : 0 ≤ F1 344 39 ∧ F1 344 39 ≤ 40 := gi_g hg_F1 rfl
    exact ih23_ _ (by omega) (1) (a + 1) F186_ rfl g187_ (fs_tr hf_F1 s188_ rfl) (⟨by omega, by omega⟩) (⟨by omega, by omega⟩) (c183_) (fun _ => hf4 (by omega)) (by omega) (fun h9_ => absurd h9_ (by omega)) (fun _ => by rw [show (a + 1).toNat = a.toNat + 1 by omega, stP_s]; exact ⟨c184_, c185_⟩)
  have b195_ : 0 ≤ Fg 344 39 ∧ Fg 344 39 ≤ 40 := gi_g hg_Fg rfl
  exact L22_ _ (ft) (0) Fg rfl hg_Fg fs_refl (⟨by omega, by omega⟩) (⟨by omega, by omega⟩) (sob_0 h39g) (fun h9_ => by have h8_ := hf1g h9_; omega) (by omega) (fun h9_ => Or.inl (hf0g h9_)) (fun _ => ⟨Eq.trans h39g rfl, rsts_nil⟩)

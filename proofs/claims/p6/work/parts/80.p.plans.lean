/- CheapPlannerModel.plan -/
abbrev pq_66v (G : Nat → Nat → Option Nat) (F : fl_N) (X : xi_H) (mo : Int) : Outcome → xi_H → Prop := gqi (fun z A => ∃ F' : fl_N, fl_H sh_T G F' ++ X = A ∧ gi F' ∧ fs [(344, 344, 0, 0), (344, 344, 13, 13), (344, 344, 49, 49), (344, 344, 58, 58), (344, 344, 66, 66), (373, 381, 0, 100000)] F F' ∧ (-2147483648 ≤ z ∧ z ≤ 2147483647) ∧ (pli F') ∧ ((F' 344 0 = 1 ∧ F 344 12 = 0 ∧ z = 0) ∨ (F' 344 0 = 2 ∧ F 344 12 = 1 ∧ ¬ (1 ≤ mo ∧ mo ≤ 200) ∧ z = 0) ∨ ((F' 344 0 = 0 ∨ F' 344 0 = 3) ∧ F 344 12 = 1 ∧ (1 ≤ mo ∧ mo ≤ 200) ∧ plR F mo (F' 344 0) z))) gqn
theorem mc_66v {G : Nat → Nat → Option Nat} (hG : gg G) (F : fl_N) (X : xi_H) (hgi : gi F) (mo : Int) (hmo : -2147483648 ≤ mo ∧ mo ≤ 2147483647) (hpl : pli F) (hpb : F 344 12 = 1 → sob F) (hpp : F 344 12 = 1 → ∀ s : Nat, (s : Int) < F 344 39 → 1 ≤ F 357 (F 367 s).toNat ∧ F 357 (F 367 s).toNat ≤ 999) : fl_M xi_ms 66 3 78 [.ref 344, .int (Int32.ofInt mo)] (fl_H sh_T G F ++ X) (pq_66v G F X mo) := by
  intro fr lo hfr hlo
  show fl_R xi_ms 66 fr lo 0 [(0, .ref 344), (1, .int (Int32.ofInt mo))] [] _ _
  have hb12 : 0 ≤ F 344 12 ∧ F 344 12 ≤ 1 := gi_g hgi rfl
  have hb39 : 0 ≤ F 344 39 ∧ F 344 39 ≤ 40 := gi_g hgi rfl
  refine ga_aload_n (v := .ref 344) hm_66 rfl rfl rfl ?_
  refine ga_aload_n (v := .ref 344) hm_66 rfl rfl rfl ?_
  have b1_ : 0 ≤ F 344 12 ∧ F 344 12 ≤ 1 := gi_g hgi rfl
  refine ga_geti (z := F 344 12) hm_66 rfl sc_344 rfl (rfl) ?_
  refine fx_if_ne (a := F 344 12) hm_66 rfl ⟨by omega, by omega⟩ (fun h2_ => ?_) (fun h3_ => ?_)
  ·
    refine ga_iload_n (z := mo) hm_66 rfl rfl ?_
    refine fl_iconst hm_66 rfl ?_
    refine fl_icmp_lt (a := mo) (b := 1) hm_66 rfl ⟨by omega, by omega⟩ ⟨by omega, by omega⟩ (fun h4_ => ?_) (fun h5_ => ?_)
    ·
      refine fl_iconst hm_66 rfl ?_
      refine fl_goto hm_66 rfl ?_
      refine ga_puti (z := 2) hm_66 rfl sc_344 rfl rfl ?_
      refine ga_aload_n (v := .ref 344) hm_66 rfl rfl rfl ?_
      refine ga_geti (z := 2) hm_66 rfl sc_344 rfl (fl_u_eq) ?_
      refine fl_if_le hm_66 rfl ⟨by omega, by omega⟩ (fun h => absurd h (by omega)) (fun _ => ?_)
      refine fl_iconst hm_66 rfl ?_
      obtain ⟨F6_, q7_⟩ : ∃ Fq_, Fq_ = (fl_u F 344 0 2) := ⟨_, rfl⟩
      rw [← q7_]
      have g8_ : gi F6_ := by rw [q7_]; exact gi_u (hgi) rfl (by omega) (by omega)
      have g9_ : fs [(344, 344, 0, 0), (344, 344, 13, 13), (344, 344, 49, 49), (344, 344, 58, 58), (344, 344, 66, 66), (373, 381, 0, 100000)] F F6_ := by rw [q7_]; exact fs_u (fs_refl) rfl
      refine gr_i (z := 0) hm_66 rfl rfl rfl ?_
      have e10_ : F6_ 344 13 = F 344 13 := by rw [q7_]; exact fl_u_ne (by first | exact nc_ rfl | decide | omega)
      have e11_ : F6_ 344 58 = F 344 58 := by rw [q7_]; exact fl_u_ne (by first | exact nc_ rfl | decide | omega)
      have e12_ : F6_ 344 0 = 2 := by rw [q7_]; exact fl_u_eq
      exact ⟨F6_, rfl, g8_, g9_, (⟨by omega, by omega⟩), (pli_cg hpl (show F6_ 344 13 = F 344 13 from (by rw [q7_]; exact (fl_u_ne (by first | exact nc_ rfl | decide | omega)))) (show F6_ 344 58 = F 344 58 from (by rw [q7_]; exact (fl_u_ne (by first | exact nc_ rfl | decide | omega)))) (fun j => (show F6_ 354 j = F 354 j from (by rw [q7_]; exact (fl_u_ne (by first | exact nc_ rfl | decide | omega))))) (fun j => (show F6_ 367 j = F 367 j from (by rw [q7_]; exact (fl_u_ne (by first | exact nc_ rfl | decide | omega))))) (fun j => (show F6_ 368 j = F 368 j from (by rw [q7_]; exact (fl_u_ne (by first | exact nc_ rfl | decide | omega))))) (fun j => (show F6_ 381 j = F 381 j from (by rw [q7_]; exact (fl_u_ne (by first | exact nc_ rfl | decide | omega)))))), (Or.inr (Or.inl ⟨by omega, by omega, by omega, rfl⟩))⟩
    refine ga_iload_n (z := mo) hm_66 rfl rfl ?_
    refine fl_sipush hm_66 rfl rfl ?_
    refine fl_icmp_le (a := mo) (b := 200) hm_66 rfl ⟨by omega, by omega⟩ ⟨by omega, by omega⟩ (fun h13_ => ?_) (fun h14_ => ?_)
    ·
      refine fl_iconst hm_66 rfl ?_
      refine ga_puti (z := 0) hm_66 rfl sc_344 rfl rfl ?_
      refine ga_aload_n (v := .ref 344) hm_66 rfl rfl rfl ?_
      refine ga_geti (z := 0) hm_66 rfl sc_344 rfl (fl_u_eq) ?_
      refine fl_if_le hm_66 rfl ⟨by omega, by omega⟩ (fun _ => ?_) (fun h => absurd (by omega) h)
      refine ga_aload_n (v := .ref 344) hm_66 rfl rfl rfl ?_
      refine fl_iconst hm_66 rfl ?_
      refine ga_putz (z := 0) hm_66 rfl sc_344 rfl rfl (by omega) ?_
      refine ga_aload_n (v := .ref 344) hm_66 rfl rfl rfl ?_
      refine fl_iconst hm_66 rfl ?_
      refine ga_puti (z := 0) hm_66 rfl sc_344 rfl rfl ?_
      refine ga_aload_n (v := .ref 344) hm_66 rfl rfl rfl ?_
      refine ga_aload_n (v := .ref 344) hm_66 rfl rfl rfl ?_
      have b15_ : -9223372036854775808 ≤ F 344 38 ∧ F 344 38 ≤ 9223372036854775807 := gi_g hgi rfl
      refine ga_getl (z := F 344 38) hm_66 rfl sc_344 rfl ((fl_u_ne (by first | exact nc_ rfl | decide | omega)).trans ((fl_u_ne (by first | exact nc_ rfl | decide | omega)).trans (fl_u_ne (by first | exact nc_ rfl | decide | omega)))) ?_
      obtain ⟨F16_, q17_⟩ : ∃ Fq_, Fq_ = (fl_u (fl_u (fl_u F 344 0 0) 344 13 0) 344 58 0) := ⟨_, rfl⟩
      rw [← q17_]
      have g18_ : gi F16_ := by rw [q17_]; exact gi_u (gi_u (gi_u (hgi) rfl (by omega) (by omega)) rfl (by omega) (by omega)) rfl (by omega) (by omega)
      have g19_ : fs [(344, 344, 0, 0), (344, 344, 13, 13), (344, 344, 49, 49), (344, 344, 58, 58), (344, 344, 66, 66), (373, 381, 0, 100000)] F F16_ := by rw [q17_]; exact fs_u (fs_u (fs_u (fs_refl) rfl) rfl) rfl
      refine gVi (nY := 3) (F := 0) (L := 0) (As := [.long (Int64.ofInt (F 344 38))]) (b := 344) (rest := []) hm_66 rfl hm_168 rfl rfl (fl_ob sc_344) rfl rfl rfl rfl rfl (by omega) (by omega) (mc_168 hG F16_ X g18_ (F 344 38) (⟨by omega, by omega⟩)) (fun _ _ h => False.elim h) ?_
      rintro z20_ A1_ ⟨hA_, c21_, c22_⟩
      subst hA_
      refine fl_if_eq (a := z20_) hm_66 rfl ⟨by omega, by omega⟩ (fun h23_ => ?_) (fun h24_ => ?_)
      ·
        refine fl_iconst hm_66 rfl ?_
        refine ga_istore_n (lv2 := [(2, .int (Int32.ofInt 0)), (0, .ref 344), (1, .int (Int32.ofInt mo))]) hm_66 rfl (Nat.le_of_ble_eq_true rfl) rfl ?_
        have L26_ : ∀ (n25_ : Nat) (k : Int) (F1 : fl_N), (512 - k : Int).toNat = n25_ → (gi F1) → (fs [(378, 378, 0, 100000)] F16_ F1) → (0 ≤ k ∧ k ≤ 512) → (∀ j : Nat, (j : Int) < k → F1 378 j = 0) → fl_R xi_ms 66 fr lo 71 [(2, .int (Int32.ofInt k)), (0, .ref 344), (1, .int (Int32.ofInt mo))] [] (fl_H sh_T G F1 ++ X) (pq_66v G F X mo) := by
          intro n25_
          induction n25_ using Nat.strongRecOn with
          | ind n25_ ih27_ =>
          intro k F1 hn28_ hg_F1 hf_F1 hk hz1
          have g29_ : fs [(344, 344, 0, 0), (344, 344, 13, 13), (344, 344, 49, 49), (344, 344, 58, 58), (344, 344, 66, 66), (373, 381, 0, 100000)] F F1 := fs_tr g19_ hf_F1 rfl
          refine ga_iload_n (z := k) hm_66 rfl rfl ?_
          refine fl_sipush hm_66 rfl rfl ?_
          refine fl_icmp_ge (a := k) (b := 512) hm_66 rfl ⟨by omega, by omega⟩ ⟨by omega, by omega⟩ (fun h30_ => ?_) (fun h31_ => ?_)
          ·
            refine ga_aload_n (v := .ref 344) hm_66 rfl rfl rfl ?_
            refine fl_iconst hm_66 rfl ?_
            refine ga_puti (z := 1) hm_66 rfl sc_344 rfl rfl ?_
            refine ga_aload_n (v := .ref 344) hm_66 rfl rfl rfl ?_
            refine ga_getr (b := 373) hm_66 rfl sc_344 rfl ?_
            refine fl_iconst hm_66 rfl ?_
            refine ga_aload_n (v := .ref 344) hm_66 rfl rfl rfl ?_
            have e32_ : F16_ 344 38 = F 344 38 := by rw [q17_]; exact (fl_u_ne (by first | exact nc_ rfl | decide | omega)).trans ((fl_u_ne (by first | exact nc_ rfl | decide | omega)).trans (fl_u_ne (by first | exact nc_ rfl | decide | omega)))
            have e33_ : F1 344 38 = F 344 38 := (hf_F1 344 38 rfl).trans (e32_)
            refine ga_getl (z := F 344 38) hm_66 rfl sc_344 rfl ((fl_u_ne (by first | exact nc_ rfl | decide | omega)).trans (e33_)) ?_
            refine fl_last (z := 0) (v := F 344 38) hm_66 rfl sc_373 (by omega) (by omega) (by omega) ?_
            refine ga_aload_n (v := .ref 344) hm_66 rfl rfl rfl ?_
            refine ga_getr (b := 374) hm_66 rfl sc_344 rfl ?_
            refine fl_iconst hm_66 rfl ?_
            refine fl_iconst hm_66 rfl ?_
            refine fl_iast (z := 0) (v := 0) hm_66 rfl sc_374 (by omega) (by omega) (by omega) ?_
            refine ga_aload_n (v := .ref 344) hm_66 rfl rfl rfl ?_
            refine ga_getr (b := 375) hm_66 rfl sc_344 rfl ?_
            refine fl_iconst hm_66 rfl ?_
            refine fl_iconst hm_66 rfl ?_
            refine fl_iast (z := 0) (v := 0) hm_66 rfl sc_375 (by omega) (by omega) (by omega) ?_
            refine ga_aload_n (v := .ref 344) hm_66 rfl rfl rfl ?_
            refine ga_getr (b := 378) hm_66 rfl sc_344 rfl ?_
            refine ga_aload_n (v := .ref 344) hm_66 rfl rfl rfl ?_
            refine ga_aload_n (v := .ref 344) hm_66 rfl rfl rfl ?_
            refine ga_getl (z := F 344 38) hm_66 rfl sc_344 rfl ((fl_u_ne (by first | exact nc_ rfl | decide | omega)).trans ((fl_u_ne (by first | exact nc_ rfl | decide | omega)).trans ((fl_u_ne (by first | exact nc_ rfl | decide | omega)).trans ((fl_u_ne (by first | exact nc_ rfl | decide | omega)).trans (e33_))))) ?_
            obtain ⟨F34_, q35_⟩ : ∃ Fq_, Fq_ = (fl_u (fl_u (fl_u (fl_u F1 344 49 1) 373 (0 : Int).toNat (F 344 38)) 374 (0 : Int).toNat 0) 375 (0 : Int).toNat 0) := ⟨_, rfl⟩
            rw [← q35_]
            have g36_ : gi F34_ := by rw [q35_]; exact gi_u (gi_u (gi_u (gi_u (hg_F1) rfl (by omega) (by omega)) rfl (by omega) (by omega)) rfl (by omega) (by omega)) rfl (by omega) (by omega)
            have g37_ : fs [(344, 344, 0, 0), (344, 344, 13, 13), (344, 344, 49, 49), (344, 344, 58, 58), (344, 344, 66, 66), (373, 381, 0, 100000)] F F34_ := by rw [q35_]; exact fs_u (fs_u (fs_u (fs_u (g29_) rfl) rfl) rfl) rfl
            refine gVi (nY := 6) (F := 0) (L := 0) (As := [.long (Int64.ofInt (F 344 38))]) (b := 344) (rest := [.ref 378]) hm_66 rfl hm_189 rfl rfl (fl_ob sc_344) rfl rfl rfl rfl rfl (by omega) (by omega) (mc_189 hG F34_ X g36_ (F 344 38) (⟨by omega, by omega⟩) (⟨0, by omega, by omega, by rw [show F34_ 378 (0 : Int).toNat = F1 378 0 from (show F34_ 378 0 = F1 378 0 from (by rw [q35_]; exact (fl_u_ne (by first | exact nc_ rfl | decide | omega)).trans ((fl_u_ne (by first | exact nc_ rfl | decide | omega)).trans ((fl_u_ne (by first | exact nc_ rfl | decide | omega)).trans ((fl_u_ne (by first | exact nc_ rfl | decide | omega)))))))]; exact hz1 0 (by omega)⟩)) (fun _ _ h => False.elim h) ?_
            rintro z38_ A1_ ⟨hA_, c39_, c40_⟩
            subst hA_
            refine fl_iconst hm_66 rfl ?_
            refine fl_iast (z := z38_) (v := 1) hm_66 rfl sc_378 (by omega) (by omega) (by omega) ?_
            obtain ⟨F41_, q42_⟩ : ∃ Fq_, Fq_ = (fl_u F34_ 378 z38_.toNat 1) := ⟨_, rfl⟩
            rw [← q42_]
            have g43_ : gi F41_ := by rw [q42_]; exact gi_u (g36_) rfl (by omega) (by omega)
            have g44_ : fs [(344, 344, 0, 0), (344, 344, 13, 13), (344, 344, 49, 49), (344, 344, 58, 58), (344, 344, 66, 66), (373, 381, 0, 100000)] F F41_ := by rw [q42_]; exact fs_u (g37_) (fs_z (fs_z (fs_z (fs_z (fs_z (fs_y (by omega)))))))
            have L46_ : ∀ (n45_ : Nat)  (F2 : fl_N), (201 - F2 344 49 : Int).toNat = n45_ → (gi F2) → (fs [(344, 344, 49, 49), (344, 344, 66, 66), (373, 380, 0, 100000)] F41_ F2) → (gs F2 (F2 344 49)) → (F2 344 49 ≤ mo) → (∃ T, tR F2 T ∧ cms (pR F) mo.toNat [(F 344 38, 0)] T ∧ (∀ i : Nat, i < T.length → 0 ≤ ca T i ∧ ca T i ≤ 999 * (i : Int))) → fl_R xi_ms 66 fr lo 134 [(0, .ref 344), (1, .int (Int32.ofInt mo))] [] (fl_H sh_T G F2 ++ X) (pq_66v G F X mo) := by
              intro n45_
              induction n45_ using Nat.strongRecOn with
              | ind n45_ ih47_ =>
              intro F2 hn48_ hg_F2 hf_F2 hg2 hsm2 hlk
              have g49_ : fs [(344, 344, 0, 0), (344, 344, 13, 13), (344, 344, 49, 49), (344, 344, 58, 58), (344, 344, 66, 66), (373, 381, 0, 100000)] F F2 := fs_tr g44_ hf_F2 rfl
              have hb49 : 0 ≤ F2 344 49 ∧ F2 344 49 ≤ 200 := gi_g hg_F2 rfl
              refine ga_aload_n (v := .ref 344) hm_66 rfl rfl rfl ?_
              obtain ⟨T, t1_, t2_, t3_⟩ : ∃ T, tR F2 T ∧ cms (pR F) mo.toNat [(F 344 38, 0)] T ∧ (∀ i : Nat, i < T.length → 0 ≤ ca T i ∧ ca T i ≤ 999 * (i : Int)) := hlk
              have t11_ := t1_.1
              have hP2_ : pR F2 = pR F := (pR_cg (F := F) (F' := F2) ((Eq.trans (a := F2 344 39) (b := F41_ 344 39) (hf_F2 344 39 (by first | exact fs_c rfl | exact (fs_n (by omega) (fs_n (by omega) (fs_n (by omega) rfl))))) (Eq.trans (a := F41_ 344 39) (b := F34_ 344 39) (by rw [q42_]; exact (fl_u_ne (by first | exact nc_ rfl | decide | omega))) (Eq.trans (a := F34_ 344 39) (b := F1 344 39) (by rw [q35_]; exact (fl_u_ne (by first | exact nc_ rfl | decide | omega)).trans ((fl_u_ne (by first | exact nc_ rfl | decide | omega)).trans ((fl_u_ne (by first | exact nc_ rfl | decide | omega)).trans ((fl_u_ne (by first | exact nc_ rfl | decide | omega)))))) (Eq.trans (a := F1 344 39) (b := F16_ 344 39) (hf_F1 344 39 (by first | exact fs_c rfl | exact (fs_n (by omega) rfl))) (show F16_ 344 39 = F 344 39 from (by rw [q17_]; exact (fl_u_ne (by first | exact nc_ rfl | decide | omega)).trans ((fl_u_ne (by first | exact nc_ rfl | decide | omega)).trans ((fl_u_ne (by first | exact nc_ rfl | decide | omega))))))))))) ((Eq.trans (a := F2 344 46) (b := F41_ 344 46) (hf_F2 344 46 (by first | exact fs_c rfl | exact (fs_n (by omega) (fs_n (by omega) (fs_n (by omega) rfl))))) (Eq.trans (a := F41_ 344 46) (b := F34_ 344 46) (by rw [q42_]; exact (fl_u_ne (by first | exact nc_ rfl | decide | omega))) (Eq.trans (a := F34_ 344 46) (b := F1 344 46) (by rw [q35_]; exact (fl_u_ne (by first | exact nc_ rfl | decide | omega)).trans ((fl_u_ne (by first | exact nc_ rfl | decide | omega)).trans ((fl_u_ne (by first | exact nc_ rfl | decide | omega)).trans ((fl_u_ne (by first | exact nc_ rfl | decide | omega)))))) (Eq.trans (a := F1 344 46) (b := F16_ 344 46) (hf_F1 344 46 (by first | exact fs_c rfl | exact (fs_n (by omega) rfl))) (show F16_ 344 46 = F 344 46 from (by rw [q17_]; exact (fl_u_ne (by first | exact nc_ rfl | decide | omega)).trans ((fl_u_ne (by first | exact nc_ rfl | decide | omega)).trans ((fl_u_ne (by first | exact nc_ rfl | decide | omega))))))))))) ((Eq.trans (a := F2 344 47) (b := F41_ 344 47) (hf_F2 344 47 (by first | exact fs_c rfl | exact (fs_n (by omega) (fs_n (by omega) (fs_n (by omega) rfl))))) (Eq.trans (a := F41_ 344 47) (b := F34_ 344 47) (by rw [q42_]; exact (fl_u_ne (by first | exact nc_ rfl | decide | omega))) (Eq.trans (a := F34_ 344 47) (b := F1 344 47) (by rw [q35_]; exact (fl_u_ne (by first | exact nc_ rfl | decide | omega)).trans ((fl_u_ne (by first | exact nc_ rfl | decide | omega)).trans ((fl_u_ne (by first | exact nc_ rfl | decide | omega)).trans ((fl_u_ne (by first | exact nc_ rfl | decide | omega)))))) (Eq.trans (a := F1 344 47) (b := F16_ 344 47) (hf_F1 344 47 (by first | exact fs_c rfl | exact (fs_n (by omega) rfl))) (show F16_ 344 47 = F 344 47 from (by rw [q17_]; exact (fl_u_ne (by first | exact nc_ rfl | decide | omega)).trans ((fl_u_ne (by first | exact nc_ rfl | decide | omega)).trans ((fl_u_ne (by first | exact nc_ rfl | decide | omega))))))))))) ((Eq.trans (a := F2 344 48) (b := F41_ 344 48) (hf_F2 344 48 (by first | exact fs_c rfl | exact (fs_n (by omega) (fs_n (by omega) (fs_n (by omega) rfl))))) (Eq.trans (a := F41_ 344 48) (b := F34_ 344 48) (by rw [q42_]; exact (fl_u_ne (by first | exact nc_ rfl | decide | omega))) (Eq.trans (a := F34_ 344 48) (b := F1 344 48) (by rw [q35_]; exact (fl_u_ne (by first | exact nc_ rfl | decide | omega)).trans ((fl_u_ne (by first | exact nc_ rfl | decide | omega)).trans ((fl_u_ne (by first | exact nc_ rfl | decide | omega)).trans ((fl_u_ne (by first | exact nc_ rfl | decide | omega)))))) (Eq.trans (a := F1 344 48) (b := F16_ 344 48) (hf_F1 344 48 (by first | exact fs_c rfl | exact (fs_n (by omega) rfl))) (show F16_ 344 48 = F 344 48 from (by rw [q17_]; exact (fl_u_ne (by first | exact nc_ rfl | decide | omega)).trans ((fl_u_ne (by first | exact nc_ rfl | decide | omega)).trans ((fl_u_ne (by first | exact nc_ rfl | decide | omega))))))))))) (fun j => (Eq.trans (a := F2 357 j) (b := F41_ 357 j) (hf_F2 357 j (by first | exact fs_c rfl | exact (fs_n (by omega) (fs_n (by omega) (fs_n (by omega) rfl))))) (Eq.trans (a := F41_ 357 j) (b := F34_ 357 j) (by rw [q42_]; exact (fl_u_ne (by first | exact nc_ rfl | decide | omega))) (Eq.trans (a := F34_ 357 j) (b := F1 357 j) (by rw [q35_]; exact (fl_u_ne (by first | exact nc_ rfl | decide | omega)).trans ((fl_u_ne (by first | exact nc_ rfl | decide | omega)).trans ((fl_u_ne (by first | exact nc_ rfl | decide | omega)).trans ((fl_u_ne (by first | exact nc_ rfl | decide | omega)))))) (Eq.trans (a := F1 357 j) (b := F16_ 357 j) (hf_F1 357 j (by first | exact fs_c rfl | exact (fs_n (by omega) rfl))) (show F16_ 357 j = F 357 j from (by rw [q17_]; exact (fl_u_ne (by first | exact nc_ rfl | decide | omega)).trans ((fl_u_ne (by first | exact nc_ rfl | decide | omega)).trans ((fl_u_ne (by first | exact nc_ rfl | decide | omega))))))))))) (fun j => (Eq.trans (a := F2 367 j) (b := F41_ 367 j) (hf_F2 367 j (by first | exact fs_c rfl | exact (fs_n (by omega) (fs_n (by omega) (fs_n (by omega) rfl))))) (Eq.trans (a := F41_ 367 j) (b := F34_ 367 j) (by rw [q42_]; exact (fl_u_ne (by first | exact nc_ rfl | decide | omega))) (Eq.trans (a := F34_ 367 j) (b := F1 367 j) (by rw [q35_]; exact (fl_u_ne (by first | exact nc_ rfl | decide | omega)).trans ((fl_u_ne (by first | exact nc_ rfl | decide | omega)).trans ((fl_u_ne (by first | exact nc_ rfl | decide | omega)).trans ((fl_u_ne (by first | exact nc_ rfl | decide | omega)))))) (Eq.trans (a := F1 367 j) (b := F16_ 367 j) (hf_F1 367 j (by first | exact fs_c rfl | exact (fs_n (by omega) rfl))) (show F16_ 367 j = F 367 j from (by rw [q17_]; exact (fl_u_ne (by first | exact nc_ rfl | decide | omega)).trans ((fl_u_ne (by first | exact nc_ rfl | decide | omega)).trans ((fl_u_ne (by first | exact nc_ rfl | decide | omega))))))))))) (fun j => (Eq.trans (a := F2 369 j) (b := F41_ 369 j) (hf_F2 369 j (by first | exact fs_c rfl | exact (fs_n (by omega) (fs_n (by omega) (fs_n (by omega) rfl))))) (Eq.trans (a := F41_ 369 j) (b := F34_ 369 j) (by rw [q42_]; exact (fl_u_ne (by first | exact nc_ rfl | decide | omega))) (Eq.trans (a := F34_ 369 j) (b := F1 369 j) (by rw [q35_]; exact (fl_u_ne (by first | exact nc_ rfl | decide | omega)).trans ((fl_u_ne (by first | exact nc_ rfl | decide | omega)).trans ((fl_u_ne (by first | exact nc_ rfl | decide | omega)).trans ((fl_u_ne (by first | exact nc_ rfl | decide | omega)))))) (Eq.trans (a := F1 369 j) (b := F16_ 369 j) (hf_F1 369 j (by first | exact fs_c rfl | exact (fs_n (by omega) rfl))) (show F16_ 369 j = F 369 j from (by rw [q17_]; exact (fl_u_ne (by first | exact nc_ rfl | decide | omega)).trans ((fl_u_ne (by first | exact nc_ rfl | decide | omega)).trans ((fl_u_ne (by first | exact nc_ rfl | decide | omega))))))))))) (fun j => (Eq.trans (a := F2 370 j) (b := F41_ 370 j) (hf_F2 370 j (by first | exact fs_c rfl | exact (fs_n (by omega) (fs_n (by omega) (fs_n (by omega) rfl))))) (Eq.trans (a := F41_ 370 j) (b := F34_ 370 j) (by rw [q42_]; exact (fl_u_ne (by first | exact nc_ rfl | decide | omega))) (Eq.trans (a := F34_ 370 j) (b := F1 370 j) (by rw [q35_]; exact (fl_u_ne (by first | exact nc_ rfl | decide | omega)).trans ((fl_u_ne (by first | exact nc_ rfl | decide | omega)).trans ((fl_u_ne (by first | exact nc_ rfl | decide | omega)).trans ((fl_u_ne (by first | exact nc_ rfl | decide | omega)))))) (Eq.trans (a := F1 370 j) (b := F16_ 370 j) (hf_F1 370 j (by first | exact fs_c rfl | exact (fs_n (by omega) rfl))) (show F16_ 370 j = F 370 j from (by rw [q17_]; exact (fl_u_ne (by first | exact nc_ rfl | decide | omega)).trans ((fl_u_ne (by first | exact nc_ rfl | decide | omega)).trans ((fl_u_ne (by first | exact nc_ rfl | decide | omega))))))))))) (fun j => (Eq.trans (a := F2 371 j) (b := F41_ 371 j) (hf_F2 371 j (by first | exact fs_c rfl | exact (fs_n (by omega) (fs_n (by omega) (fs_n (by omega) rfl))))) (Eq.trans (a := F41_ 371 j) (b := F34_ 371 j) (by rw [q42_]; exact (fl_u_ne (by first | exact nc_ rfl | decide | omega))) (Eq.trans (a := F34_ 371 j) (b := F1 371 j) (by rw [q35_]; exact (fl_u_ne (by first | exact nc_ rfl | decide | omega)).trans ((fl_u_ne (by first | exact nc_ rfl | decide | omega)).trans ((fl_u_ne (by first | exact nc_ rfl | decide | omega)).trans ((fl_u_ne (by first | exact nc_ rfl | decide | omega)))))) (Eq.trans (a := F1 371 j) (b := F16_ 371 j) (hf_F1 371 j (by first | exact fs_c rfl | exact (fs_n (by omega) rfl))) (show F16_ 371 j = F 371 j from (by rw [q17_]; exact (fl_u_ne (by first | exact nc_ rfl | decide | omega)).trans ((fl_u_ne (by first | exact nc_ rfl | decide | omega)).trans ((fl_u_ne (by first | exact nc_ rfl | decide | omega))))))))))) (fun j => (Eq.trans (a := F2 372 j) (b := F41_ 372 j) (hf_F2 372 j (by first | exact fs_c rfl | exact (fs_n (by omega) (fs_n (by omega) (fs_n (by omega) rfl))))) (Eq.trans (a := F41_ 372 j) (b := F34_ 372 j) (by rw [q42_]; exact (fl_u_ne (by first | exact nc_ rfl | decide | omega))) (Eq.trans (a := F34_ 372 j) (b := F1 372 j) (by rw [q35_]; exact (fl_u_ne (by first | exact nc_ rfl | decide | omega)).trans ((fl_u_ne (by first | exact nc_ rfl | decide | omega)).trans ((fl_u_ne (by first | exact nc_ rfl | decide | omega)).trans ((fl_u_ne (by first | exact nc_ rfl | decide | omega)))))) (Eq.trans (a := F1 372 j) (b := F16_ 372 j) (hf_F1 372 j (by first | exact fs_c rfl | exact (fs_n (by omega) rfl))) (show F16_ 372 j = F 372 j from (by rw [q17_]; exact (fl_u_ne (by first | exact nc_ rfl | decide | omega)).trans ((fl_u_ne (by first | exact nc_ rfl | decide | omega)).trans ((fl_u_ne (by first | exact nc_ rfl | decide | omega))))))))))))
              have hpb_ := pR_b (hpp (by omega))
              refine gVi (nY := 5) (F := 1) (L := 25) (As := []) (b := 344) (rest := []) hm_66 rfl hm_172 rfl rfl (fl_ob sc_344) rfl rfl rfl rfl rfl (by omega) (by omega) (mc_172v hG F2 X hg_F2 (T) (hg2) (t1_) (fun i hi => by have h9_ := t3_ i hi; omega) (fun s hs => by rw [show F2 344 39 = F 344 39 from (Eq.trans (a := F2 344 39) (b := F41_ 344 39) (hf_F2 344 39 (by first | exact fs_c rfl | exact (fs_n (by omega) (fs_n (by omega) (fs_n (by omega) rfl))))) (Eq.trans (a := F41_ 344 39) (b := F34_ 344 39) (by rw [q42_]; exact (fl_u_ne (by first | exact nc_ rfl | decide | omega))) (Eq.trans (a := F34_ 344 39) (b := F1 344 39) (by rw [q35_]; exact (fl_u_ne (by first | exact nc_ rfl | decide | omega)).trans ((fl_u_ne (by first | exact nc_ rfl | decide | omega)).trans ((fl_u_ne (by first | exact nc_ rfl | decide | omega)).trans ((fl_u_ne (by first | exact nc_ rfl | decide | omega)))))) (Eq.trans (a := F1 344 39) (b := F16_ 344 39) (hf_F1 344 39 (by first | exact fs_c rfl | exact (fs_n (by omega) rfl))) (show F16_ 344 39 = F 344 39 from (by rw [q17_]; exact (fl_u_ne (by first | exact nc_ rfl | decide | omega)).trans ((fl_u_ne (by first | exact nc_ rfl | decide | omega)).trans ((fl_u_ne (by first | exact nc_ rfl | decide | omega))))))))))] at hs; rw [show F2 367 s = F 367 s from (Eq.trans (a := F2 367 s) (b := F41_ 367 s) (hf_F2 367 s (by first | exact fs_c rfl | exact (fs_n (by omega) (fs_n (by omega) (fs_n (by omega) rfl))))) (Eq.trans (a := F41_ 367 s) (b := F34_ 367 s) (by rw [q42_]; exact (fl_u_ne (by first | exact nc_ rfl | decide | omega))) (Eq.trans (a := F34_ 367 s) (b := F1 367 s) (by rw [q35_]; exact (fl_u_ne (by first | exact nc_ rfl | decide | omega)).trans ((fl_u_ne (by first | exact nc_ rfl | decide | omega)).trans ((fl_u_ne (by first | exact nc_ rfl | decide | omega)).trans ((fl_u_ne (by first | exact nc_ rfl | decide | omega)))))) (Eq.trans (a := F1 367 s) (b := F16_ 367 s) (hf_F1 367 s (by first | exact fs_c rfl | exact (fs_n (by omega) rfl))) (show F16_ 367 s = F 367 s from (by rw [q17_]; exact (fl_u_ne (by first | exact nc_ rfl | decide | omega)).trans ((fl_u_ne (by first | exact nc_ rfl | decide | omega)).trans ((fl_u_ne (by first | exact nc_ rfl | decide | omega)))))))))), show F2 357 (F 367 s).toNat = F 357 (F 367 s).toNat from (Eq.trans (a := F2 357 (F 367 s).toNat) (b := F41_ 357 (F 367 s).toNat) (hf_F2 357 (F 367 s).toNat (by first | exact fs_c rfl | exact (fs_n (by omega) (fs_n (by omega) (fs_n (by omega) rfl))))) (Eq.trans (a := F41_ 357 (F 367 s).toNat) (b := F34_ 357 (F 367 s).toNat) (by rw [q42_]; exact (fl_u_ne (by first | exact nc_ rfl | decide | omega))) (Eq.trans (a := F34_ 357 (F 367 s).toNat) (b := F1 357 (F 367 s).toNat) (by rw [q35_]; exact (fl_u_ne (by first | exact nc_ rfl | decide | omega)).trans ((fl_u_ne (by first | exact nc_ rfl | decide | omega)).trans ((fl_u_ne (by first | exact nc_ rfl | decide | omega)).trans ((fl_u_ne (by first | exact nc_ rfl | decide | omega)))))) (Eq.trans (a := F1 357 (F 367 s).toNat) (b := F16_ 357 (F 367 s).toNat) (hf_F1 357 (F 367 s).toNat (by first | exact fs_c rfl | exact (fs_n (by omega) rfl))) (show F16_ 357 (F 367 s).toNat = F 357 (F 367 s).toNat from (by rw [q17_]; exact (fl_u_ne (by first | exact nc_ rfl | decide | omega)).trans ((fl_u_ne (by first | exact nc_ rfl | decide | omega)).trans ((fl_u_ne (by first | exact nc_ rfl | decide | omega))))))))))]; have h9_ := hpp (by omega) s hs; omega)) (fun _ _ h => False.elim h) ?_
              rintro z50_ A1_ ⟨hA_, c51_, c52_⟩
              subst hA_
              try rw [hP2_] at c51_
              try rw [hP2_] at c52_
              refine ga_istore_n (lv2 := [(2, .int (Int32.ofInt z50_)), (0, .ref 344), (1, .int (Int32.ofInt mo))]) hm_66 rfl (Nat.le_of_ble_eq_true rfl) rfl ?_
              refine ga_iload_n (z := z50_) hm_66 rfl rfl ?_
              refine fl_iconst hm_66 rfl ?_
              refine fx_icmp_ne (a := z50_) (b := -1) hm_66 rfl ⟨by omega, by omega⟩ ⟨by omega, by omega⟩ (fun h53_ => ?_) (fun h54_ => ?_)
              ·
                refine ga_aload_n (v := .ref 344) hm_66 rfl rfl rfl ?_
                refine ga_iload_n (z := z50_) hm_66 rfl rfl ?_
                refine gVv (nY := 4) (F := 2) (L := 49) (As := [.int (Int32.ofInt z50_)]) (b := 344) (rest := []) hm_66 rfl hm_163 rfl rfl (fl_ob sc_344) rfl rfl rfl rfl rfl (by omega) (by omega) (mc_163v hG F2 X hg_F2 (z50_) (T) (⟨by omega, by omega⟩) (hg2.1) (hg2.2.2.2) (t1_) (fun i hi => by have h9_ := t3_ i hi; omega) (fun s hs => by rw [show F2 344 39 = F 344 39 from (Eq.trans (a := F2 344 39) (b := F41_ 344 39) (hf_F2 344 39 (by first | exact fs_c rfl | exact (fs_n (by omega) (fs_n (by omega) (fs_n (by omega) rfl))))) (Eq.trans (a := F41_ 344 39) (b := F34_ 344 39) (by rw [q42_]; exact (fl_u_ne (by first | exact nc_ rfl | decide | omega))) (Eq.trans (a := F34_ 344 39) (b := F1 344 39) (by rw [q35_]; exact (fl_u_ne (by first | exact nc_ rfl | decide | omega)).trans ((fl_u_ne (by first | exact nc_ rfl | decide | omega)).trans ((fl_u_ne (by first | exact nc_ rfl | decide | omega)).trans ((fl_u_ne (by first | exact nc_ rfl | decide | omega)))))) (Eq.trans (a := F1 344 39) (b := F16_ 344 39) (hf_F1 344 39 (by first | exact fs_c rfl | exact (fs_n (by omega) rfl))) (show F16_ 344 39 = F 344 39 from (by rw [q17_]; exact (fl_u_ne (by first | exact nc_ rfl | decide | omega)).trans ((fl_u_ne (by first | exact nc_ rfl | decide | omega)).trans ((fl_u_ne (by first | exact nc_ rfl | decide | omega))))))))))] at hs; rw [show F2 367 s = F 367 s from (Eq.trans (a := F2 367 s) (b := F41_ 367 s) (hf_F2 367 s (by first | exact fs_c rfl | exact (fs_n (by omega) (fs_n (by omega) (fs_n (by omega) rfl))))) (Eq.trans (a := F41_ 367 s) (b := F34_ 367 s) (by rw [q42_]; exact (fl_u_ne (by first | exact nc_ rfl | decide | omega))) (Eq.trans (a := F34_ 367 s) (b := F1 367 s) (by rw [q35_]; exact (fl_u_ne (by first | exact nc_ rfl | decide | omega)).trans ((fl_u_ne (by first | exact nc_ rfl | decide | omega)).trans ((fl_u_ne (by first | exact nc_ rfl | decide | omega)).trans ((fl_u_ne (by first | exact nc_ rfl | decide | omega)))))) (Eq.trans (a := F1 367 s) (b := F16_ 367 s) (hf_F1 367 s (by first | exact fs_c rfl | exact (fs_n (by omega) rfl))) (show F16_ 367 s = F 367 s from (by rw [q17_]; exact (fl_u_ne (by first | exact nc_ rfl | decide | omega)).trans ((fl_u_ne (by first | exact nc_ rfl | decide | omega)).trans ((fl_u_ne (by first | exact nc_ rfl | decide | omega)))))))))), show F2 357 (F 367 s).toNat = F 357 (F 367 s).toNat from (Eq.trans (a := F2 357 (F 367 s).toNat) (b := F41_ 357 (F 367 s).toNat) (hf_F2 357 (F 367 s).toNat (by first | exact fs_c rfl | exact (fs_n (by omega) (fs_n (by omega) (fs_n (by omega) rfl))))) (Eq.trans (a := F41_ 357 (F 367 s).toNat) (b := F34_ 357 (F 367 s).toNat) (by rw [q42_]; exact (fl_u_ne (by first | exact nc_ rfl | decide | omega))) (Eq.trans (a := F34_ 357 (F 367 s).toNat) (b := F1 357 (F 367 s).toNat) (by rw [q35_]; exact (fl_u_ne (by first | exact nc_ rfl | decide | omega)).trans ((fl_u_ne (by first | exact nc_ rfl | decide | omega)).trans ((fl_u_ne (by first | exact nc_ rfl | decide | omega)).trans ((fl_u_ne (by first | exact nc_ rfl | decide | omega)))))) (Eq.trans (a := F1 357 (F 367 s).toNat) (b := F16_ 357 (F 367 s).toNat) (hf_F1 357 (F 367 s).toNat (by first | exact fs_c rfl | exact (fs_n (by omega) rfl))) (show F16_ 357 (F 367 s).toNat = F 357 (F 367 s).toNat from (by rw [q17_]; exact (fl_u_ne (by first | exact nc_ rfl | decide | omega)).trans ((fl_u_ne (by first | exact nc_ rfl | decide | omega)).trans ((fl_u_ne (by first | exact nc_ rfl | decide | omega))))))))))]; have h9_ := hpp (by omega) s hs; omega)) (fun _ _ h => False.elim h) ?_
                rintro A1_ ⟨F61_, hA_, g62_, s63_, c56_, c57_, c58_, c59_, c60_⟩
                subst hA_
                have g64_ : fs [(344, 344, 0, 0), (344, 344, 13, 13), (344, 344, 49, 49), (344, 344, 58, 58), (344, 344, 66, 66), (373, 381, 0, 100000)] F F61_ := fs_tr g49_ s63_ rfl
                try rw [hP2_] at c56_
                try rw [hP2_] at c57_
                try rw [hP2_] at c58_
                try rw [hP2_] at c59_
                try rw [hP2_] at c60_
                refine ga_aload_n (v := .ref 344) hm_66 rfl rfl rfl ?_
                have b65_ : 0 ≤ F61_ 344 66 ∧ F61_ 344 66 ≤ 1 := gi_g g62_ rfl
                refine ga_geti (z := F61_ 344 66) hm_66 rfl sc_344 rfl (rfl) ?_
                refine fl_if_eq (a := F61_ 344 66) hm_66 rfl ⟨by omega, by omega⟩ (fun h66_ => ?_) (fun h67_ => ?_)
                ·
                  refine ga_aload_n (v := .ref 344) hm_66 rfl rfl rfl ?_
                  refine ga_iload_n (z := z50_) hm_66 rfl rfl ?_
                  refine ga_iload_n (z := mo) hm_66 rfl rfl ?_
                  have hP3_ : pR F61_ = pR F := (pR_cg (F := F) (F' := F61_) ((Eq.trans (a := F61_ 344 39) (b := F2 344 39) (s63_ 344 39 (by first | exact fs_c rfl | exact (fs_n (by omega) (fs_n (by omega) (fs_n (by omega) rfl))))) (Eq.trans (a := F2 344 39) (b := F41_ 344 39) (hf_F2 344 39 (by first | exact fs_c rfl | exact (fs_n (by omega) (fs_n (by omega) (fs_n (by omega) rfl))))) (Eq.trans (a := F41_ 344 39) (b := F34_ 344 39) (by rw [q42_]; exact (fl_u_ne (by first | exact nc_ rfl | decide | omega))) (Eq.trans (a := F34_ 344 39) (b := F1 344 39) (by rw [q35_]; exact (fl_u_ne (by first | exact nc_ rfl | decide | omega)).trans ((fl_u_ne (by first | exact nc_ rfl | decide | omega)).trans ((fl_u_ne (by first | exact nc_ rfl | decide | omega)).trans ((fl_u_ne (by first | exact nc_ rfl | decide | omega)))))) (Eq.trans (a := F1 344 39) (b := F16_ 344 39) (hf_F1 344 39 (by first | exact fs_c rfl | exact (fs_n (by omega) rfl))) (show F16_ 344 39 = F 344 39 from (by rw [q17_]; exact (fl_u_ne (by first | exact nc_ rfl | decide | omega)).trans ((fl_u_ne (by first | exact nc_ rfl | decide | omega)).trans ((fl_u_ne (by first | exact nc_ rfl | decide | omega)))))))))))) ((Eq.trans (a := F61_ 344 46) (b := F2 344 46) (s63_ 344 46 (by first | exact fs_c rfl | exact (fs_n (by omega) (fs_n (by omega) (fs_n (by omega) rfl))))) (Eq.trans (a := F2 344 46) (b := F41_ 344 46) (hf_F2 344 46 (by first | exact fs_c rfl | exact (fs_n (by omega) (fs_n (by omega) (fs_n (by omega) rfl))))) (Eq.trans (a := F41_ 344 46) (b := F34_ 344 46) (by rw [q42_]; exact (fl_u_ne (by first | exact nc_ rfl | decide | omega))) (Eq.trans (a := F34_ 344 46) (b := F1 344 46) (by rw [q35_]; exact (fl_u_ne (by first | exact nc_ rfl | decide | omega)).trans ((fl_u_ne (by first | exact nc_ rfl | decide | omega)).trans ((fl_u_ne (by first | exact nc_ rfl | decide | omega)).trans ((fl_u_ne (by first | exact nc_ rfl | decide | omega)))))) (Eq.trans (a := F1 344 46) (b := F16_ 344 46) (hf_F1 344 46 (by first | exact fs_c rfl | exact (fs_n (by omega) rfl))) (show F16_ 344 46 = F 344 46 from (by rw [q17_]; exact (fl_u_ne (by first | exact nc_ rfl | decide | omega)).trans ((fl_u_ne (by first | exact nc_ rfl | decide | omega)).trans ((fl_u_ne (by first | exact nc_ rfl | decide | omega)))))))))))) ((Eq.trans (a := F61_ 344 47) (b := F2 344 47) (s63_ 344 47 (by first | exact fs_c rfl | exact (fs_n (by omega) (fs_n (by omega) (fs_n (by omega) rfl))))) (Eq.trans (a := F2 344 47) (b := F41_ 344 47) (hf_F2 344 47 (by first | exact fs_c rfl | exact (fs_n (by omega) (fs_n (by omega) (fs_n (by omega) rfl))))) (Eq.trans (a := F41_ 344 47) (b := F34_ 344 47) (by rw [q42_]; exact (fl_u_ne (by first | exact nc_ rfl | decide | omega))) (Eq.trans (a := F34_ 344 47) (b := F1 344 47) (by rw [q35_]; exact (fl_u_ne (by first | exact nc_ rfl | decide | omega)).trans ((fl_u_ne (by first | exact nc_ rfl | decide | omega)).trans ((fl_u_ne (by first | exact nc_ rfl | decide | omega)).trans ((fl_u_ne (by first | exact nc_ rfl | decide | omega)))))) (Eq.trans (a := F1 344 47) (b := F16_ 344 47) (hf_F1 344 47 (by first | exact fs_c rfl | exact (fs_n (by omega) rfl))) (show F16_ 344 47 = F 344 47 from (by rw [q17_]; exact (fl_u_ne (by first | exact nc_ rfl | decide | omega)).trans ((fl_u_ne (by first | exact nc_ rfl | decide | omega)).trans ((fl_u_ne (by first | exact nc_ rfl | decide | omega)))))))))))) ((Eq.trans (a := F61_ 344 48) (b := F2 344 48) (s63_ 344 48 (by first | exact fs_c rfl | exact (fs_n (by omega) (fs_n (by omega) (fs_n (by omega) rfl))))) (Eq.trans (a := F2 344 48) (b := F41_ 344 48) (hf_F2 344 48 (by first | exact fs_c rfl | exact (fs_n (by omega) (fs_n (by omega) (fs_n (by omega) rfl))))) (Eq.trans (a := F41_ 344 48) (b := F34_ 344 48) (by rw [q42_]; exact (fl_u_ne (by first | exact nc_ rfl | decide | omega))) (Eq.trans (a := F34_ 344 48) (b := F1 344 48) (by rw [q35_]; exact (fl_u_ne (by first | exact nc_ rfl | decide | omega)).trans ((fl_u_ne (by first | exact nc_ rfl | decide | omega)).trans ((fl_u_ne (by first | exact nc_ rfl | decide | omega)).trans ((fl_u_ne (by first | exact nc_ rfl | decide | omega)))))) (Eq.trans (a := F1 344 48) (b := F16_ 344 48) (hf_F1 344 48 (by first | exact fs_c rfl | exact (fs_n (by omega) rfl))) (show F16_ 344 48 = F 344 48 from (by rw [q17_]; exact (fl_u_ne (by first | exact nc_ rfl | decide | omega)).trans ((fl_u_ne (by first | exact nc_ rfl | decide | omega)).trans ((fl_u_ne (by first | exact nc_ rfl | decide | omega)))))))))))) (fun j => (Eq.trans (a := F61_ 357 j) (b := F2 357 j) (s63_ 357 j (by first | exact fs_c rfl | exact (fs_n (by omega) (fs_n (by omega) (fs_n (by omega) rfl))))) (Eq.trans (a := F2 357 j) (b := F41_ 357 j) (hf_F2 357 j (by first | exact fs_c rfl | exact (fs_n (by omega) (fs_n (by omega) (fs_n (by omega) rfl))))) (Eq.trans (a := F41_ 357 j) (b := F34_ 357 j) (by rw [q42_]; exact (fl_u_ne (by first | exact nc_ rfl | decide | omega))) (Eq.trans (a := F34_ 357 j) (b := F1 357 j) (by rw [q35_]; exact (fl_u_ne (by first | exact nc_ rfl | decide | omega)).trans ((fl_u_ne (by first | exact nc_ rfl | decide | omega)).trans ((fl_u_ne (by first | exact nc_ rfl | decide | omega)).trans ((fl_u_ne (by first | exact nc_ rfl | decide | omega)))))) (Eq.trans (a := F1 357 j) (b := F16_ 357 j) (hf_F1 357 j (by first | exact fs_c rfl | exact (fs_n (by omega) rfl))) (show F16_ 357 j = F 357 j from (by rw [q17_]; exact (fl_u_ne (by first | exact nc_ rfl | decide | omega)).trans ((fl_u_ne (by first | exact nc_ rfl | decide | omega)).trans ((fl_u_ne (by first | exact nc_ rfl | decide | omega)))))))))))) (fun j => (Eq.trans (a := F61_ 367 j) (b := F2 367 j) (s63_ 367 j (by first | exact fs_c rfl | exact (fs_n (by omega) (fs_n (by omega) (fs_n (by omega) rfl))))) (Eq.trans (a := F2 367 j) (b := F41_ 367 j) (hf_F2 367 j (by first | exact fs_c rfl | exact (fs_n (by omega) (fs_n (by omega) (fs_n (by omega) rfl))))) (Eq.trans (a := F41_ 367 j) (b := F34_ 367 j) (by rw [q42_]; exact (fl_u_ne (by first | exact nc_ rfl | decide | omega))) (Eq.trans (a := F34_ 367 j) (b := F1 367 j) (by rw [q35_]; exact (fl_u_ne (by first | exact nc_ rfl | decide | omega)).trans ((fl_u_ne (by first | exact nc_ rfl | decide | omega)).trans ((fl_u_ne (by first | exact nc_ rfl | decide | omega)).trans ((fl_u_ne (by first | exact nc_ rfl | decide | omega)))))) (Eq.trans (a := F1 367 j) (b := F16_ 367 j) (hf_F1 367 j (by first | exact fs_c rfl | exact (fs_n (by omega) rfl))) (show F16_ 367 j = F 367 j from (by rw [q17_]; exact (fl_u_ne (by first | exact nc_ rfl | decide | omega)).trans ((fl_u_ne (by first | exact nc_ rfl | decide | omega)).trans ((fl_u_ne (by first | exact nc_ rfl | decide | omega)))))))))))) (fun j => (Eq.trans (a := F61_ 369 j) (b := F2 369 j) (s63_ 369 j (by first | exact fs_c rfl | exact (fs_n (by omega) (fs_n (by omega) (fs_n (by omega) rfl))))) (Eq.trans (a := F2 369 j) (b := F41_ 369 j) (hf_F2 369 j (by first | exact fs_c rfl | exact (fs_n (by omega) (fs_n (by omega) (fs_n (by omega) rfl))))) (Eq.trans (a := F41_ 369 j) (b := F34_ 369 j) (by rw [q42_]; exact (fl_u_ne (by first | exact nc_ rfl | decide | omega))) (Eq.trans (a := F34_ 369 j) (b := F1 369 j) (by rw [q35_]; exact (fl_u_ne (by first | exact nc_ rfl | decide | omega)).trans ((fl_u_ne (by first | exact nc_ rfl | decide | omega)).trans ((fl_u_ne (by first | exact nc_ rfl | decide | omega)).trans ((fl_u_ne (by first | exact nc_ rfl | decide | omega)))))) (Eq.trans (a := F1 369 j) (b := F16_ 369 j) (hf_F1 369 j (by first | exact fs_c rfl | exact (fs_n (by omega) rfl))) (show F16_ 369 j = F 369 j from (by rw [q17_]; exact (fl_u_ne (by first | exact nc_ rfl | decide | omega)).trans ((fl_u_ne (by first | exact nc_ rfl | decide | omega)).trans ((fl_u_ne (by first | exact nc_ rfl | decide | omega)))))))))))) (fun j => (Eq.trans (a := F61_ 370 j) (b := F2 370 j) (s63_ 370 j (by first | exact fs_c rfl | exact (fs_n (by omega) (fs_n (by omega) (fs_n (by omega) rfl))))) (Eq.trans (a := F2 370 j) (b := F41_ 370 j) (hf_F2 370 j (by first | exact fs_c rfl | exact (fs_n (by omega) (fs_n (by omega) (fs_n (by omega) rfl))))) (Eq.trans (a := F41_ 370 j) (b := F34_ 370 j) (by rw [q42_]; exact (fl_u_ne (by first | exact nc_ rfl | decide | omega))) (Eq.trans (a := F34_ 370 j) (b := F1 370 j) (by rw [q35_]; exact (fl_u_ne (by first | exact nc_ rfl | decide | omega)).trans ((fl_u_ne (by first | exact nc_ rfl | decide | omega)).trans ((fl_u_ne (by first | exact nc_ rfl | decide | omega)).trans ((fl_u_ne (by first | exact nc_ rfl | decide | omega)))))) (Eq.trans (a := F1 370 j) (b := F16_ 370 j) (hf_F1 370 j (by first | exact fs_c rfl | exact (fs_n (by omega) rfl))) (show F16_ 370 j = F 370 j from (by rw [q17_]; exact (fl_u_ne (by first | exact nc_ rfl | decide | omega)).trans ((fl_u_ne (by first | exact nc_ rfl | decide | omega)).trans ((fl_u_ne (by first | exact nc_ rfl | decide | omega)))))))))))) (fun j => (Eq.trans (a := F61_ 371 j) (b := F2 371 j) (s63_ 371 j (by first | exact fs_c rfl | exact (fs_n (by omega) (fs_n (by omega) (fs_n (by omega) rfl))))) (Eq.trans (a := F2 371 j) (b := F41_ 371 j) (hf_F2 371 j (by first | exact fs_c rfl | exact (fs_n (by omega) (fs_n (by omega) (fs_n (by omega) rfl))))) (Eq.trans (a := F41_ 371 j) (b := F34_ 371 j) (by rw [q42_]; exact (fl_u_ne (by first | exact nc_ rfl | decide | omega))) (Eq.trans (a := F34_ 371 j) (b := F1 371 j) (by rw [q35_]; exact (fl_u_ne (by first | exact nc_ rfl | decide | omega)).trans ((fl_u_ne (by first | exact nc_ rfl | decide | omega)).trans ((fl_u_ne (by first | exact nc_ rfl | decide | omega)).trans ((fl_u_ne (by first | exact nc_ rfl | decide | omega)))))) (Eq.trans (a := F1 371 j) (b := F16_ 371 j) (hf_F1 371 j (by first | exact fs_c rfl | exact (fs_n (by omega) rfl))) (show F16_ 371 j = F 371 j from (by rw [q17_]; exact (fl_u_ne (by first | exact nc_ rfl | decide | omega)).trans ((fl_u_ne (by first | exact nc_ rfl | decide | omega)).trans ((fl_u_ne (by first | exact nc_ rfl | decide | omega)))))))))))) (fun j => (Eq.trans (a := F61_ 372 j) (b := F2 372 j) (s63_ 372 j (by first | exact fs_c rfl | exact (fs_n (by omega) (fs_n (by omega) (fs_n (by omega) rfl))))) (Eq.trans (a := F2 372 j) (b := F41_ 372 j) (hf_F2 372 j (by first | exact fs_c rfl | exact (fs_n (by omega) (fs_n (by omega) (fs_n (by omega) rfl))))) (Eq.trans (a := F41_ 372 j) (b := F34_ 372 j) (by rw [q42_]; exact (fl_u_ne (by first | exact nc_ rfl | decide | omega))) (Eq.trans (a := F34_ 372 j) (b := F1 372 j) (by rw [q35_]; exact (fl_u_ne (by first | exact nc_ rfl | decide | omega)).trans ((fl_u_ne (by first | exact nc_ rfl | decide | omega)).trans ((fl_u_ne (by first | exact nc_ rfl | decide | omega)).trans ((fl_u_ne (by first | exact nc_ rfl | decide | omega)))))) (Eq.trans (a := F1 372 j) (b := F16_ 372 j) (hf_F1 372 j (by first | exact fs_c rfl | exact (fs_n (by omega) rfl))) (show F16_ 372 j = F 372 j from (by rw [q17_]; exact (fl_u_ne (by first | exact nc_ rfl | decide | omega)).trans ((fl_u_ne (by first | exact nc_ rfl | decide | omega)).trans ((fl_u_ne (by first | exact nc_ rfl | decide | omega)))))))))))))
                  have e68_ : F61_ 344 49 = F2 344 49 := (s63_ 344 49 rfl).trans (rfl)
                  have b69_ : 0 ≤ F2 344 49 ∧ F2 344 49 ≤ 200 := gi_g hg_F2 rfl
                  refine gVi (nY := 10) (F := 2) (L := 49) (As := [.int (Int32.ofInt z50_), .int (Int32.ofInt mo)]) (b := 344) (rest := []) hm_66 rfl hm_166 rfl rfl (fl_ob sc_344) rfl rfl rfl rfl rfl (by omega) (by omega) (mc_166v hG F61_ X g62_ (z50_) (mo) (T) (⟨by omega, by omega⟩) (⟨by omega, by omega⟩) (by omega) (gs_fg (F := F2) hg2 c56_ ((show F61_ 344 49 = F2 344 49 from (s63_ 344 49 (by first | exact fs_c rfl | exact (fs_n (by omega) (fs_n (by omega) (fs_n (by omega) rfl))))))) (fun j => (show F61_ 378 j = F2 378 j from (s63_ 378 j (by first | exact fs_c rfl | exact (fs_n (by omega) (fs_n (by omega) (fs_n (by omega) rfl)))))))) (c60_) (fun i hi => by have h9_ := t3_ i hi; omega) (fun s hs => by rw [show F61_ 344 39 = F 344 39 from (Eq.trans (a := F61_ 344 39) (b := F2 344 39) (s63_ 344 39 (by first | exact fs_c rfl | exact (fs_n (by omega) (fs_n (by omega) (fs_n (by omega) rfl))))) (Eq.trans (a := F2 344 39) (b := F41_ 344 39) (hf_F2 344 39 (by first | exact fs_c rfl | exact (fs_n (by omega) (fs_n (by omega) (fs_n (by omega) rfl))))) (Eq.trans (a := F41_ 344 39) (b := F34_ 344 39) (by rw [q42_]; exact (fl_u_ne (by first | exact nc_ rfl | decide | omega))) (Eq.trans (a := F34_ 344 39) (b := F1 344 39) (by rw [q35_]; exact (fl_u_ne (by first | exact nc_ rfl | decide | omega)).trans ((fl_u_ne (by first | exact nc_ rfl | decide | omega)).trans ((fl_u_ne (by first | exact nc_ rfl | decide | omega)).trans ((fl_u_ne (by first | exact nc_ rfl | decide | omega)))))) (Eq.trans (a := F1 344 39) (b := F16_ 344 39) (hf_F1 344 39 (by first | exact fs_c rfl | exact (fs_n (by omega) rfl))) (show F16_ 344 39 = F 344 39 from (by rw [q17_]; exact (fl_u_ne (by first | exact nc_ rfl | decide | omega)).trans ((fl_u_ne (by first | exact nc_ rfl | decide | omega)).trans ((fl_u_ne (by first | exact nc_ rfl | decide | omega)))))))))))] at hs; rw [show F61_ 367 s = F 367 s from (Eq.trans (a := F61_ 367 s) (b := F2 367 s) (s63_ 367 s (by first | exact fs_c rfl | exact (fs_n (by omega) (fs_n (by omega) (fs_n (by omega) rfl))))) (Eq.trans (a := F2 367 s) (b := F41_ 367 s) (hf_F2 367 s (by first | exact fs_c rfl | exact (fs_n (by omega) (fs_n (by omega) (fs_n (by omega) rfl))))) (Eq.trans (a := F41_ 367 s) (b := F34_ 367 s) (by rw [q42_]; exact (fl_u_ne (by first | exact nc_ rfl | decide | omega))) (Eq.trans (a := F34_ 367 s) (b := F1 367 s) (by rw [q35_]; exact (fl_u_ne (by first | exact nc_ rfl | decide | omega)).trans ((fl_u_ne (by first | exact nc_ rfl | decide | omega)).trans ((fl_u_ne (by first | exact nc_ rfl | decide | omega)).trans ((fl_u_ne (by first | exact nc_ rfl | decide | omega)))))) (Eq.trans (a := F1 367 s) (b := F16_ 367 s) (hf_F1 367 s (by first | exact fs_c rfl | exact (fs_n (by omega) rfl))) (show F16_ 367 s = F 367 s from (by rw [q17_]; exact (fl_u_ne (by first | exact nc_ rfl | decide | omega)).trans ((fl_u_ne (by first | exact nc_ rfl | decide | omega)).trans ((fl_u_ne (by first | exact nc_ rfl | decide | omega))))))))))), show F61_ 357 (F 367 s).toNat = F 357 (F 367 s).toNat from (Eq.trans (a := F61_ 357 (F 367 s).toNat) (b := F2 357 (F 367 s).toNat) (s63_ 357 (F 367 s).toNat (by first | exact fs_c rfl | exact (fs_n (by omega) (fs_n (by omega) (fs_n (by omega) rfl))))) (Eq.trans (a := F2 357 (F 367 s).toNat) (b := F41_ 357 (F 367 s).toNat) (hf_F2 357 (F 367 s).toNat (by first | exact fs_c rfl | exact (fs_n (by omega) (fs_n (by omega) (fs_n (by omega) rfl))))) (Eq.trans (a := F41_ 357 (F 367 s).toNat) (b := F34_ 357 (F 367 s).toNat) (by rw [q42_]; exact (fl_u_ne (by first | exact nc_ rfl | decide | omega))) (Eq.trans (a := F34_ 357 (F 367 s).toNat) (b := F1 357 (F 367 s).toNat) (by rw [q35_]; exact (fl_u_ne (by first | exact nc_ rfl | decide | omega)).trans ((fl_u_ne (by first | exact nc_ rfl | decide | omega)).trans ((fl_u_ne (by first | exact nc_ rfl | decide | omega)).trans ((fl_u_ne (by first | exact nc_ rfl | decide | omega)))))) (Eq.trans (a := F1 357 (F 367 s).toNat) (b := F16_ 357 (F 367 s).toNat) (hf_F1 357 (F 367 s).toNat (by first | exact fs_c rfl | exact (fs_n (by omega) rfl))) (show F16_ 357 (F 367 s).toNat = F 357 (F 367 s).toNat from (by rw [q17_]; exact (fl_u_ne (by first | exact nc_ rfl | decide | omega)).trans ((fl_u_ne (by first | exact nc_ rfl | decide | omega)).trans ((fl_u_ne (by first | exact nc_ rfl | decide | omega)))))))))))]; have h9_ := hpp (by omega) s hs; omega) (by rw [hP3_]; exact (show gol (pR F) z50_ T = false by cases h9_ : gol (pR F) z50_ T with | false => rfl | true => exact absurd (c59_.mpr h9_) (by omega)))) (fun _ _ h => False.elim h) ?_
                  rintro z70_ A1_ (⟨F72_, hA_, g73_, s74_, hz_, c71_⟩ | ⟨F79_, hA_, g80_, s81_, hz_, c75_, c76_, c77_, c78_⟩)
                  ·
                    subst hA_
                    subst hz_
                    have g82_ : fs [(344, 344, 0, 0), (344, 344, 13, 13), (344, 344, 49, 49), (344, 344, 58, 58), (344, 344, 66, 66), (373, 381, 0, 100000)] F F72_ := fs_tr g64_ s74_ rfl
                    try rw [hP3_] at c71_
                    refine fl_if_ne hm_66 rfl ⟨by omega, by omega⟩ (fun h => absurd h (by omega)) (fun _ => ?_)
                    refine ga_aload_n (v := .ref 344) hm_66 rfl rfl rfl ?_
                    refine fl_iconst hm_66 rfl ?_
                    refine ga_puti (z := 3) hm_66 rfl sc_344 rfl rfl ?_
                    refine fl_iconst hm_66 rfl ?_
                    obtain ⟨F83_, q84_⟩ : ∃ Fq_, Fq_ = (fl_u F72_ 344 0 3) := ⟨_, rfl⟩
                    rw [← q84_]
                    have g85_ : gi F83_ := by rw [q84_]; exact gi_u (g73_) rfl (by omega) (by omega)
                    have g86_ : fs [(344, 344, 0, 0), (344, 344, 13, 13), (344, 344, 49, 49), (344, 344, 58, 58), (344, 344, 66, 66), (373, 381, 0, 100000)] F F83_ := by rw [q84_]; exact fs_u (g82_) rfl
                    refine gr_i (z := 0) hm_66 rfl rfl rfl ?_
                    have e87_ : F16_ 344 13 = 0 := by rw [q17_]; exact (fl_u_ne (by first | exact nc_ rfl | decide | omega)).trans (fl_u_eq)
                    have e88_ : F1 344 13 = 0 := (hf_F1 344 13 rfl).trans (e87_)
                    have e89_ : F34_ 344 13 = 0 := by rw [q35_]; exact (fl_u_ne (by first | exact nc_ rfl | decide | omega)).trans ((fl_u_ne (by first | exact nc_ rfl | decide | omega)).trans ((fl_u_ne (by first | exact nc_ rfl | decide | omega)).trans ((fl_u_ne (by first | exact nc_ rfl | decide | omega)).trans (e88_))))
                    have e90_ : F41_ 344 13 = 0 := by rw [q42_]; exact (fl_u_ne (by first | exact nc_ rfl | decide | omega)).trans (e89_)
                    have e91_ : F2 344 13 = 0 := (hf_F2 344 13 rfl).trans (e90_)
                    have e92_ : F61_ 344 13 = 0 := (s63_ 344 13 rfl).trans (e91_)
                    have e93_ : F72_ 344 13 = 0 := (s74_ 344 13 rfl).trans (e92_)
                    have e94_ : F83_ 344 13 = 0 := by rw [q84_]; exact (fl_u_ne (by first | exact nc_ rfl | decide | omega)).trans (e93_)
                    have e95_ : F16_ 344 58 = 0 := by rw [q17_]; exact fl_u_eq
                    have e96_ : F1 344 58 = 0 := (hf_F1 344 58 rfl).trans (e95_)
                    have e97_ : F34_ 344 58 = 0 := by rw [q35_]; exact (fl_u_ne (by first | exact nc_ rfl | decide | omega)).trans ((fl_u_ne (by first | exact nc_ rfl | decide | omega)).trans ((fl_u_ne (by first | exact nc_ rfl | decide | omega)).trans ((fl_u_ne (by first | exact nc_ rfl | decide | omega)).trans (e96_))))
                    have e98_ : F41_ 344 58 = 0 := by rw [q42_]; exact (fl_u_ne (by first | exact nc_ rfl | decide | omega)).trans (e97_)
                    have e99_ : F2 344 58 = 0 := (hf_F2 344 58 rfl).trans (e98_)
                    have e100_ : F61_ 344 58 = 0 := (s63_ 344 58 rfl).trans (e99_)
                    have e101_ : F72_ 344 58 = 0 := (s74_ 344 58 rfl).trans (e100_)
                    have e102_ : F83_ 344 58 = 0 := by rw [q84_]; exact (fl_u_ne (by first | exact nc_ rfl | decide | omega)).trans (e101_)
                    have e103_ : F83_ 344 0 = 3 := by rw [q84_]; exact fl_u_eq
                    exact ⟨F83_, rfl, g85_, g86_, (⟨by omega, by omega⟩), (pli_0 (by omega)), (Or.inr (Or.inr ⟨by omega, by omega, ⟨by omega, by omega⟩, by rw [show F83_ 344 0 = 3 from e103_]; exact Or.inr ⟨(show ¬ gR F (F 344 38) by rcases c22_ with ⟨h6_, h7_⟩ | ⟨h6_, h7_⟩; (exfalso; omega); rw [(gr_cg (F := F) (F' := F16_) ((show F16_ 344 46 = F 344 46 from (by rw [q17_]; exact (fl_u_ne (by first | exact nc_ rfl | decide | omega)).trans ((fl_u_ne (by first | exact nc_ rfl | decide | omega)).trans ((fl_u_ne (by first | exact nc_ rfl | decide | omega))))))) ((show F16_ 344 47 = F 344 47 from (by rw [q17_]; exact (fl_u_ne (by first | exact nc_ rfl | decide | omega)).trans ((fl_u_ne (by first | exact nc_ rfl | decide | omega)).trans ((fl_u_ne (by first | exact nc_ rfl | decide | omega))))))) ((show F16_ 344 48 = F 344 48 from (by rw [q17_]; exact (fl_u_ne (by first | exact nc_ rfl | decide | omega)).trans ((fl_u_ne (by first | exact nc_ rfl | decide | omega)).trans ((fl_u_ne (by first | exact nc_ rfl | decide | omega))))))))] at h7_; exact h7_), r_crw t2_ (Or.resolve_left c51_ (fun h9_ => absurd h9_.1 (by omega))) (show gol (pR F) z50_ T = false by cases h9_ : gol (pR F) z50_ T with | false => rfl | true => exact absurd (c59_.mpr h9_) (by omega)) c71_⟩⟩))⟩
                  subst hA_
                  subst hz_
                  have g104_ : fs [(344, 344, 0, 0), (344, 344, 13, 13), (344, 344, 49, 49), (344, 344, 58, 58), (344, 344, 66, 66), (373, 381, 0, 100000)] F F79_ := fs_tr g64_ s81_ rfl
                  try rw [hP3_] at c75_
                  try rw [hP3_] at c76_
                  try rw [hP3_] at c77_
                  try rw [hP3_] at c78_
                  refine fl_if_ne hm_66 rfl ⟨by omega, by omega⟩ (fun _ => ?_) (fun h => absurd (by omega) h)
                  have hnt_ := (Or.resolve_left c51_ (fun h9_ => absurd h9_.1 (by omega)))
                  have hng_ := (show gol (pR F) z50_ T = false by cases h9_ : gol (pR F) z50_ T with | false => rfl | true => exact absurd (c59_.mpr h9_) (by omega))
                  have hgt_ := lay_gt (most := mo.toNat) hnt_.1 hng_ c78_
                  have htl_ := c77_.1
                  refine fl_goto hm_66 rfl ?_
                  have b105_ : 0 ≤ F79_ 344 49 ∧ F79_ 344 49 ≤ 200 := gi_g g80_ rfl
                  exact fl_R_sub (lv' := [(0, .ref 344), (1, .int (Int32.ofInt mo))]) rfl rfl (ih47_ _ (by omega) F79_ rfl g80_ (fs_tr (fs_tr hf_F2 s63_ rfl) s81_ rfl) (c75_) (by omega) (⟨_, c77_, r_lay t2_ hnt_ hng_ c78_, lay_ca hnt_.1 hpb_ t3_⟩))
                refine ga_aload_n (v := .ref 344) hm_66 rfl rfl rfl ?_
                refine fl_iconst hm_66 rfl ?_
                refine ga_putz (z := 1) hm_66 rfl sc_344 rfl rfl (by omega) ?_
                refine ga_aload_n (v := .ref 344) hm_66 rfl rfl rfl ?_
                refine ga_aload_n (v := .ref 344) hm_66 rfl rfl rfl ?_
                refine ga_getr (b := 375) hm_66 rfl sc_344 rfl ?_
                have e106_ : F61_ 344 49 = F2 344 49 := (s63_ 344 49 rfl).trans (rfl)
                have hd200 := gn_d c56_ c57_ (by omega) (by omega)
                refine fl_sipush hm_66 rfl rfl ?_
                have b107_ : 0 ≤ F61_ 375 200 ∧ F61_ 375 200 ≤ 201 := gi_g g62_ rfl
                refine ga_iald (z := 200) (w := F61_ 375 200) hm_66 rfl sc_375 (by omega) (by omega) (by omega) (fl_u_ne (by first | exact nc_ rfl | decide | omega)) ?_
                refine ga_puti (z := F61_ 375 200) hm_66 rfl sc_344 rfl rfl ?_
                refine ga_aload_n (v := .ref 344) hm_66 rfl rfl rfl ?_
                refine fl_sipush hm_66 rfl rfl ?_
                refine ga_aload_n (v := .ref 344) hm_66 rfl rfl rfl ?_
                refine ga_getr (b := 381) hm_66 rfl sc_344 rfl ?_
                obtain ⟨F108_, q109_⟩ : ∃ Fq_, Fq_ = (fl_u (fl_u F61_ 344 13 1) 344 58 (F61_ 375 200)) := ⟨_, rfl⟩
                rw [← q109_]
                have g110_ : gi F108_ := by rw [q109_]; exact gi_u (gi_u (g62_) rfl (by omega) (by omega)) rfl (by omega) (by omega)
                have g111_ : fs [(344, 344, 0, 0), (344, 344, 13, 13), (344, 344, 49, 49), (344, 344, 58, 58), (344, 344, 66, 66), (373, 381, 0, 100000)] F F108_ := by rw [q109_]; exact fs_u (fs_u (g64_) rfl) rfl
                refine gVv (nY := 5) (F := 0) (L := 0) (As := [.int (Int32.ofInt 200), .ref 381]) (b := 344) (rest := []) hm_66 rfl hm_194 rfl rfl (fl_ob sc_344) rfl rfl rfl rfl rfl (by omega) (by omega) (mc_194 hG F108_ X g110_ (381) (201) (200) (0) (39) sc_381 (fun _ => rfl) (⟨by omega, by omega⟩) (by omega) (⟨by omega, by omega⟩) (⟨by omega, by omega⟩)) (fun _ _ h => False.elim h) ?_
                have e113_ : F16_ 344 39 = F 344 39 := by rw [q17_]; exact (fl_u_ne (by first | exact nc_ rfl | decide | omega)).trans ((fl_u_ne (by first | exact nc_ rfl | decide | omega)).trans (fl_u_ne (by first | exact nc_ rfl | decide | omega)))
                have e114_ : F1 344 39 = F 344 39 := (hf_F1 344 39 rfl).trans (e113_)
                have e115_ : F34_ 344 39 = F 344 39 := by rw [q35_]; exact (fl_u_ne (by first | exact nc_ rfl | decide | omega)).trans ((fl_u_ne (by first | exact nc_ rfl | decide | omega)).trans ((fl_u_ne (by first | exact nc_ rfl | decide | omega)).trans ((fl_u_ne (by first | exact nc_ rfl | decide | omega)).trans (e114_))))
                have e116_ : F41_ 344 39 = F 344 39 := by rw [q42_]; exact (fl_u_ne (by first | exact nc_ rfl | decide | omega)).trans (e115_)
                have e117_ : F2 344 39 = F 344 39 := (hf_F2 344 39 rfl).trans (e116_)
                have e118_ : F61_ 344 39 = F 344 39 := (s63_ 344 39 rfl).trans (e117_)
                have e119_ : F108_ 344 39 = F 344 39 := by rw [q109_]; exact (fl_u_ne (by first | exact nc_ rfl | decide | omega)).trans ((fl_u_ne (by first | exact nc_ rfl | decide | omega)).trans (e118_))
                have b120_ : 0 ≤ F 344 39 ∧ F 344 39 ≤ 40 := gi_g hgi rfl
                rintro A1_ ⟨F122_, hA_, g123_, s124_, c121_⟩
                subst hA_
                have g125_ : fs [(344, 344, 0, 0), (344, 344, 13, 13), (344, 344, 49, 49), (344, 344, 58, 58), (344, 344, 66, 66), (373, 381, 0, 100000)] F F122_ := fs_tr g111_ s124_ rfl
                try simp only [e119_] at c121_
                refine ga_iload_n (z := z50_) hm_66 rfl rfl ?_
                refine gr_i (z := z50_) hm_66 rfl rfl rfl ?_
                have e126_ : F108_ 344 13 = 1 := by rw [q109_]; exact (fl_u_ne (by first | exact nc_ rfl | decide | omega)).trans (fl_u_eq)
                have e127_ : F122_ 344 13 = 1 := (s124_ 344 13 rfl).trans (e126_)
                have e128_ : F108_ 344 58 = F61_ 375 200 := by rw [q109_]; exact fl_u_eq
                have e129_ : F122_ 344 58 = F61_ 375 200 := (s124_ 344 58 rfl).trans (e128_)
                have e130_ : F122_ 344 39 = F 344 39 := (s124_ 344 39 rfl).trans (e119_)
                have e131_ : F108_ 375 200 = F61_ 375 200 := by rw [q109_]; exact (fl_u_ne (by first | exact nc_ rfl | decide | omega)).trans (fl_u_ne (by first | exact nc_ rfl | decide | omega))
                have e132_ : F122_ 375 200 = F61_ 375 200 := (s124_ 375 200 rfl).trans (e131_)
                have e133_ : F16_ 344 0 = 0 := by rw [q17_]; exact (fl_u_ne (by first | exact nc_ rfl | decide | omega)).trans ((fl_u_ne (by first | exact nc_ rfl | decide | omega)).trans (fl_u_eq))
                have e134_ : F1 344 0 = 0 := (hf_F1 344 0 rfl).trans (e133_)
                have e135_ : F34_ 344 0 = 0 := by rw [q35_]; exact (fl_u_ne (by first | exact nc_ rfl | decide | omega)).trans ((fl_u_ne (by first | exact nc_ rfl | decide | omega)).trans ((fl_u_ne (by first | exact nc_ rfl | decide | omega)).trans ((fl_u_ne (by first | exact nc_ rfl | decide | omega)).trans (e134_))))
                have e136_ : F41_ 344 0 = 0 := by rw [q42_]; exact (fl_u_ne (by first | exact nc_ rfl | decide | omega)).trans (e135_)
                have e137_ : F2 344 0 = 0 := (hf_F2 344 0 rfl).trans (e136_)
                have e138_ : F61_ 344 0 = 0 := (s63_ 344 0 rfl).trans (e137_)
                have e139_ : F108_ 344 0 = 0 := by rw [q109_]; exact (fl_u_ne (by first | exact nc_ rfl | decide | omega)).trans ((fl_u_ne (by first | exact nc_ rfl | decide | omega)).trans (e138_))
                have e140_ : F122_ 344 0 = 0 := (s124_ 344 0 rfl).trans (e139_)
                exact ⟨F122_, rfl, g123_, g125_, (⟨by omega, by omega⟩), (pli_w (sob_cg (hpb (by omega)) (Eq.trans (a := F122_ 344 39) (b := F108_ 344 39) (s124_ 344 39 (by first | exact fs_c rfl | exact (fs_n (by omega) rfl))) (Eq.trans (a := F108_ 344 39) (b := F61_ 344 39) (by rw [q109_]; exact (fl_u_ne (by first | exact nc_ rfl | decide | omega)).trans ((fl_u_ne (by first | exact nc_ rfl | decide | omega)))) (Eq.trans (a := F61_ 344 39) (b := F2 344 39) (s63_ 344 39 (by first | exact fs_c rfl | exact (fs_n (by omega) (fs_n (by omega) (fs_n (by omega) rfl))))) (Eq.trans (a := F2 344 39) (b := F41_ 344 39) (hf_F2 344 39 (by first | exact fs_c rfl | exact (fs_n (by omega) (fs_n (by omega) (fs_n (by omega) rfl))))) (Eq.trans (a := F41_ 344 39) (b := F34_ 344 39) (by rw [q42_]; exact (fl_u_ne (by first | exact nc_ rfl | decide | omega))) (Eq.trans (a := F34_ 344 39) (b := F1 344 39) (by rw [q35_]; exact (fl_u_ne (by first | exact nc_ rfl | decide | omega)).trans ((fl_u_ne (by first | exact nc_ rfl | decide | omega)).trans ((fl_u_ne (by first | exact nc_ rfl | decide | omega)).trans ((fl_u_ne (by first | exact nc_ rfl | decide | omega)))))) (Eq.trans (a := F1 344 39) (b := F16_ 344 39) (hf_F1 344 39 (by first | exact fs_c rfl | exact (fs_n (by omega) rfl))) (show F16_ 344 39 = F 344 39 from (by rw [q17_]; exact (fl_u_ne (by first | exact nc_ rfl | decide | omega)).trans ((fl_u_ne (by first | exact nc_ rfl | decide | omega)).trans ((fl_u_ne (by first | exact nc_ rfl | decide | omega))))))))))))) (fun j => (Eq.trans (a := F122_ 357 j) (b := F108_ 357 j) (s124_ 357 j (by first | exact fs_c rfl | exact (fs_n (by omega) rfl))) (Eq.trans (a := F108_ 357 j) (b := F61_ 357 j) (by rw [q109_]; exact (fl_u_ne (by first | exact nc_ rfl | decide | omega)).trans ((fl_u_ne (by first | exact nc_ rfl | decide | omega)))) (Eq.trans (a := F61_ 357 j) (b := F2 357 j) (s63_ 357 j (by first | exact fs_c rfl | exact (fs_n (by omega) (fs_n (by omega) (fs_n (by omega) rfl))))) (Eq.trans (a := F2 357 j) (b := F41_ 357 j) (hf_F2 357 j (by first | exact fs_c rfl | exact (fs_n (by omega) (fs_n (by omega) (fs_n (by omega) rfl))))) (Eq.trans (a := F41_ 357 j) (b := F34_ 357 j) (by rw [q42_]; exact (fl_u_ne (by first | exact nc_ rfl | decide | omega))) (Eq.trans (a := F34_ 357 j) (b := F1 357 j) (by rw [q35_]; exact (fl_u_ne (by first | exact nc_ rfl | decide | omega)).trans ((fl_u_ne (by first | exact nc_ rfl | decide | omega)).trans ((fl_u_ne (by first | exact nc_ rfl | decide | omega)).trans ((fl_u_ne (by first | exact nc_ rfl | decide | omega)))))) (Eq.trans (a := F1 357 j) (b := F16_ 357 j) (hf_F1 357 j (by first | exact fs_c rfl | exact (fs_n (by omega) rfl))) (show F16_ 357 j = F 357 j from (by rw [q17_]; exact (fl_u_ne (by first | exact nc_ rfl | decide | omega)).trans ((fl_u_ne (by first | exact nc_ rfl | decide | omega)).trans ((fl_u_ne (by first | exact nc_ rfl | decide | omega)))))))))))))) (fun j => (Eq.trans (a := F122_ 367 j) (b := F108_ 367 j) (s124_ 367 j (by first | exact fs_c rfl | exact (fs_n (by omega) rfl))) (Eq.trans (a := F108_ 367 j) (b := F61_ 367 j) (by rw [q109_]; exact (fl_u_ne (by first | exact nc_ rfl | decide | omega)).trans ((fl_u_ne (by first | exact nc_ rfl | decide | omega)))) (Eq.trans (a := F61_ 367 j) (b := F2 367 j) (s63_ 367 j (by first | exact fs_c rfl | exact (fs_n (by omega) (fs_n (by omega) (fs_n (by omega) rfl))))) (Eq.trans (a := F2 367 j) (b := F41_ 367 j) (hf_F2 367 j (by first | exact fs_c rfl | exact (fs_n (by omega) (fs_n (by omega) (fs_n (by omega) rfl))))) (Eq.trans (a := F41_ 367 j) (b := F34_ 367 j) (by rw [q42_]; exact (fl_u_ne (by first | exact nc_ rfl | decide | omega))) (Eq.trans (a := F34_ 367 j) (b := F1 367 j) (by rw [q35_]; exact (fl_u_ne (by first | exact nc_ rfl | decide | omega)).trans ((fl_u_ne (by first | exact nc_ rfl | decide | omega)).trans ((fl_u_ne (by first | exact nc_ rfl | decide | omega)).trans ((fl_u_ne (by first | exact nc_ rfl | decide | omega)))))) (Eq.trans (a := F1 367 j) (b := F16_ 367 j) (hf_F1 367 j (by first | exact fs_c rfl | exact (fs_n (by omega) rfl))) (show F16_ 367 j = F 367 j from (by rw [q17_]; exact (fl_u_ne (by first | exact nc_ rfl | decide | omega)).trans ((fl_u_ne (by first | exact nc_ rfl | decide | omega)).trans ((fl_u_ne (by first | exact nc_ rfl | decide | omega)))))))))))))) (fun j => (Eq.trans (a := F122_ 354 j) (b := F108_ 354 j) (s124_ 354 j (by first | exact fs_c rfl | exact (fs_n (by omega) rfl))) (Eq.trans (a := F108_ 354 j) (b := F61_ 354 j) (by rw [q109_]; exact (fl_u_ne (by first | exact nc_ rfl | decide | omega)).trans ((fl_u_ne (by first | exact nc_ rfl | decide | omega)))) (Eq.trans (a := F61_ 354 j) (b := F2 354 j) (s63_ 354 j (by first | exact fs_c rfl | exact (fs_n (by omega) (fs_n (by omega) (fs_n (by omega) rfl))))) (Eq.trans (a := F2 354 j) (b := F41_ 354 j) (hf_F2 354 j (by first | exact fs_c rfl | exact (fs_n (by omega) (fs_n (by omega) (fs_n (by omega) rfl))))) (Eq.trans (a := F41_ 354 j) (b := F34_ 354 j) (by rw [q42_]; exact (fl_u_ne (by first | exact nc_ rfl | decide | omega))) (Eq.trans (a := F34_ 354 j) (b := F1 354 j) (by rw [q35_]; exact (fl_u_ne (by first | exact nc_ rfl | decide | omega)).trans ((fl_u_ne (by first | exact nc_ rfl | decide | omega)).trans ((fl_u_ne (by first | exact nc_ rfl | decide | omega)).trans ((fl_u_ne (by first | exact nc_ rfl | decide | omega)))))) (Eq.trans (a := F1 354 j) (b := F16_ 354 j) (hf_F1 354 j (by first | exact fs_c rfl | exact (fs_n (by omega) rfl))) (show F16_ 354 j = F 354 j from (by rw [q17_]; exact (fl_u_ne (by first | exact nc_ rfl | decide | omega)).trans ((fl_u_ne (by first | exact nc_ rfl | decide | omega)).trans ((fl_u_ne (by first | exact nc_ rfl | decide | omega)))))))))))))) (fun j => (Eq.trans (a := F122_ 368 j) (b := F108_ 368 j) (s124_ 368 j (by first | exact fs_c rfl | exact (fs_n (by omega) rfl))) (Eq.trans (a := F108_ 368 j) (b := F61_ 368 j) (by rw [q109_]; exact (fl_u_ne (by first | exact nc_ rfl | decide | omega)).trans ((fl_u_ne (by first | exact nc_ rfl | decide | omega)))) (Eq.trans (a := F61_ 368 j) (b := F2 368 j) (s63_ 368 j (by first | exact fs_c rfl | exact (fs_n (by omega) (fs_n (by omega) (fs_n (by omega) rfl))))) (Eq.trans (a := F2 368 j) (b := F41_ 368 j) (hf_F2 368 j (by first | exact fs_c rfl | exact (fs_n (by omega) (fs_n (by omega) (fs_n (by omega) rfl))))) (Eq.trans (a := F41_ 368 j) (b := F34_ 368 j) (by rw [q42_]; exact (fl_u_ne (by first | exact nc_ rfl | decide | omega))) (Eq.trans (a := F34_ 368 j) (b := F1 368 j) (by rw [q35_]; exact (fl_u_ne (by first | exact nc_ rfl | decide | omega)).trans ((fl_u_ne (by first | exact nc_ rfl | decide | omega)).trans ((fl_u_ne (by first | exact nc_ rfl | decide | omega)).trans ((fl_u_ne (by first | exact nc_ rfl | decide | omega)))))) (Eq.trans (a := F1 368 j) (b := F16_ 368 j) (hf_F1 368 j (by first | exact fs_c rfl | exact (fs_n (by omega) rfl))) (show F16_ 368 j = F 368 j from (by rw [q17_]; exact (fl_u_ne (by first | exact nc_ rfl | decide | omega)).trans ((fl_u_ne (by first | exact nc_ rfl | decide | omega)).trans ((fl_u_ne (by first | exact nc_ rfl | decide | omega))))))))))))))) g123_ (fun j hj => by have h9_ := c121_ (wkc_g (F1 := F61_) c56_ c57_ (by omega) (show F108_ 344 49 = F61_ 344 49 from (by rw [q109_]; exact (fl_u_ne (by first | exact nc_ rfl | decide | omega)).trans ((fl_u_ne (by first | exact nc_ rfl | decide | omega))))) (show F108_ 344 39 = F61_ 344 39 from (by rw [q109_]; exact (fl_u_ne (by first | exact nc_ rfl | decide | omega)).trans ((fl_u_ne (by first | exact nc_ rfl | decide | omega))))) (fun j => (show F108_ 375 j = F61_ 375 j from (by rw [q109_]; exact (fl_u_ne (by first | exact nc_ rfl | decide | omega)).trans ((fl_u_ne (by first | exact nc_ rfl | decide | omega)))))) (fun j => (show F108_ 376 j = F61_ 376 j from (by rw [q109_]; exact (fl_u_ne (by first | exact nc_ rfl | decide | omega)).trans ((fl_u_ne (by first | exact nc_ rfl | decide | omega)))))) (fun j => (show F108_ 377 j = F61_ 377 j from (by rw [q109_]; exact (fl_u_ne (by first | exact nc_ rfl | decide | omega)).trans ((fl_u_ne (by first | exact nc_ rfl | decide | omega))))))) j (by rw [show (200 : Int).toNat = 200 from rfl]; omega); omega)), (Or.inr (Or.inr ⟨by omega, by omega, ⟨by omega, by omega⟩, by rw [show F122_ 344 0 = 0 from e140_]; exact Or.inr ⟨(show ¬ gR F (F 344 38) by rcases c22_ with ⟨h6_, h7_⟩ | ⟨h6_, h7_⟩; (exfalso; omega); rw [(gr_cg (F := F) (F' := F16_) ((show F16_ 344 46 = F 344 46 from (by rw [q17_]; exact (fl_u_ne (by first | exact nc_ rfl | decide | omega)).trans ((fl_u_ne (by first | exact nc_ rfl | decide | omega)).trans ((fl_u_ne (by first | exact nc_ rfl | decide | omega))))))) ((show F16_ 344 47 = F 344 47 from (by rw [q17_]; exact (fl_u_ne (by first | exact nc_ rfl | decide | omega)).trans ((fl_u_ne (by first | exact nc_ rfl | decide | omega)).trans ((fl_u_ne (by first | exact nc_ rfl | decide | omega))))))) ((show F16_ 344 48 = F 344 48 from (by rw [q17_]; exact (fl_u_ne (by first | exact nc_ rfl | decide | omega)).trans ((fl_u_ne (by first | exact nc_ rfl | decide | omega)).trans ((fl_u_ne (by first | exact nc_ rfl | decide | omega))))))))] at h7_; exact h7_), r_gol t2_ (Or.resolve_left c51_ (fun h9_ => absurd h9_.1 (by omega))) (c59_.mp (by omega))⟩⟩))⟩
              refine fl_iconst hm_66 rfl ?_
              refine gr_i (z := -1) hm_66 rfl rfl rfl ?_
              have e141_ : F16_ 344 13 = 0 := by rw [q17_]; exact (fl_u_ne (by first | exact nc_ rfl | decide | omega)).trans (fl_u_eq)
              have e142_ : F1 344 13 = 0 := (hf_F1 344 13 rfl).trans (e141_)
              have e143_ : F34_ 344 13 = 0 := by rw [q35_]; exact (fl_u_ne (by first | exact nc_ rfl | decide | omega)).trans ((fl_u_ne (by first | exact nc_ rfl | decide | omega)).trans ((fl_u_ne (by first | exact nc_ rfl | decide | omega)).trans ((fl_u_ne (by first | exact nc_ rfl | decide | omega)).trans (e142_))))
              have e144_ : F41_ 344 13 = 0 := by rw [q42_]; exact (fl_u_ne (by first | exact nc_ rfl | decide | omega)).trans (e143_)
              have e145_ : F2 344 13 = 0 := (hf_F2 344 13 rfl).trans (e144_)
              have e146_ : F16_ 344 58 = 0 := by rw [q17_]; exact fl_u_eq
              have e147_ : F1 344 58 = 0 := (hf_F1 344 58 rfl).trans (e146_)
              have e148_ : F34_ 344 58 = 0 := by rw [q35_]; exact (fl_u_ne (by first | exact nc_ rfl | decide | omega)).trans ((fl_u_ne (by first | exact nc_ rfl | decide | omega)).trans ((fl_u_ne (by first | exact nc_ rfl | decide | omega)).trans ((fl_u_ne (by first | exact nc_ rfl | decide | omega)).trans (e147_))))
              have e149_ : F41_ 344 58 = 0 := by rw [q42_]; exact (fl_u_ne (by first | exact nc_ rfl | decide | omega)).trans (e148_)
              have e150_ : F2 344 58 = 0 := (hf_F2 344 58 rfl).trans (e149_)
              have e151_ : F16_ 344 0 = 0 := by rw [q17_]; exact (fl_u_ne (by first | exact nc_ rfl | decide | omega)).trans ((fl_u_ne (by first | exact nc_ rfl | decide | omega)).trans (fl_u_eq))
              have e152_ : F1 344 0 = 0 := (hf_F1 344 0 rfl).trans (e151_)
              have e153_ : F34_ 344 0 = 0 := by rw [q35_]; exact (fl_u_ne (by first | exact nc_ rfl | decide | omega)).trans ((fl_u_ne (by first | exact nc_ rfl | decide | omega)).trans ((fl_u_ne (by first | exact nc_ rfl | decide | omega)).trans ((fl_u_ne (by first | exact nc_ rfl | decide | omega)).trans (e152_))))
              have e154_ : F41_ 344 0 = 0 := by rw [q42_]; exact (fl_u_ne (by first | exact nc_ rfl | decide | omega)).trans (e153_)
              have e155_ : F2 344 0 = 0 := (hf_F2 344 0 rfl).trans (e154_)
              exact ⟨F2, rfl, hg_F2, g49_, (⟨by omega, by omega⟩), (pli_0 (by omega)), (Or.inr (Or.inr ⟨by omega, by omega, ⟨by omega, by omega⟩, by rw [show F2 344 0 = 0 from e155_]; exact Or.inr ⟨(show ¬ gR F (F 344 38) by rcases c22_ with ⟨h6_, h7_⟩ | ⟨h6_, h7_⟩; (exfalso; omega); rw [(gr_cg (F := F) (F' := F16_) ((show F16_ 344 46 = F 344 46 from (by rw [q17_]; exact (fl_u_ne (by first | exact nc_ rfl | decide | omega)).trans ((fl_u_ne (by first | exact nc_ rfl | decide | omega)).trans ((fl_u_ne (by first | exact nc_ rfl | decide | omega))))))) ((show F16_ 344 47 = F 344 47 from (by rw [q17_]; exact (fl_u_ne (by first | exact nc_ rfl | decide | omega)).trans ((fl_u_ne (by first | exact nc_ rfl | decide | omega)).trans ((fl_u_ne (by first | exact nc_ rfl | decide | omega))))))) ((show F16_ 344 48 = F 344 48 from (by rw [q17_]; exact (fl_u_ne (by first | exact nc_ rfl | decide | omega)).trans ((fl_u_ne (by first | exact nc_ rfl | decide | omega)).trans ((fl_u_ne (by first | exact nc_ rfl | decide | omega))))))))] at h7_; exact h7_), r_none t2_ (by rcases c51_ with h9_ | h9_; exact h9_.2; have h8_ := nxt_no hpb_ t3_ h9_; exfalso; omega)⟩⟩))⟩
            have e156_ : F34_ 344 49 = 1 := by rw [q35_]; exact (fl_u_ne (by first | exact nc_ rfl | decide | omega)).trans ((fl_u_ne (by first | exact nc_ rfl | decide | omega)).trans ((fl_u_ne (by first | exact nc_ rfl | decide | omega)).trans (fl_u_eq)))
            have e157_ : F41_ 344 49 = 1 := by rw [q42_]; exact (fl_u_ne (by first | exact nc_ rfl | decide | omega)).trans (e156_)
            have e158_ : F34_ 375 0 = 0 := by rw [q35_]; exact fl_u_eq
            have e159_ : F41_ 375 0 = 0 := by rw [q42_]; exact (fl_u_ne (by first | exact nc_ rfl | decide | omega)).trans (e158_)
            have e160_ : F41_ 378 z38_.toNat = 1 := by rw [q42_]; exact fl_u_eq
            have e161_ : F34_ 373 0 = F 344 38 := by rw [q35_]; exact (fl_u_ne (by first | exact nc_ rfl | decide | omega)).trans ((fl_u_ne (by first | exact nc_ rfl | decide | omega)).trans (fl_u_eq))
            have e162_ : F41_ 373 0 = F 344 38 := by rw [q42_]; exact (fl_u_ne (by first | exact nc_ rfl | decide | omega)).trans (e161_)
            have e163_ : F34_ 374 0 = 0 := by rw [q35_]; exact (fl_u_ne (by first | exact nc_ rfl | decide | omega)).trans (fl_u_eq)
            have e164_ : F41_ 374 0 = 0 := by rw [q42_]; exact (fl_u_ne (by first | exact nc_ rfl | decide | omega)).trans (e163_)
            exact fl_R_sub (lv' := [(0, .ref 344), (1, .int (Int32.ofInt mo))]) rfl rfl (L46_ _ F41_ rfl g43_ fs_refl (gs_0 (k := z38_) (F1 := F1) (fun j hj => hz1 j (by omega)) (e157_) (e159_) (fun j hj => (Eq.trans (a := F41_ 378 j) (b := F34_ 378 j) (by rw [q42_]; exact (fl_u_ne (by first | exact nc_ rfl | decide | omega))) (show F34_ 378 j = F1 378 j from (by rw [q35_]; exact (fl_u_ne (by first | exact nc_ rfl | decide | omega)).trans ((fl_u_ne (by first | exact nc_ rfl | decide | omega)).trans ((fl_u_ne (by first | exact nc_ rfl | decide | omega)).trans ((fl_u_ne (by first | exact nc_ rfl | decide | omega))))))))) (e160_)) (by omega) (⟨[(F 344 38, 0)], tr_0 (B := F34_) (z := z38_) (fun j hj => Eq.trans ((show F34_ 378 j = F1 378 j from (by rw [q35_]; exact (fl_u_ne (by first | exact nc_ rfl | decide | omega)).trans ((fl_u_ne (by first | exact nc_ rfl | decide | omega)).trans ((fl_u_ne (by first | exact nc_ rfl | decide | omega)).trans ((fl_u_ne (by first | exact nc_ rfl | decide | omega)))))))) (hz1 j (by omega))) (c40_) (e157_) (e162_) (e164_) (e160_) (fun j hj => (show F41_ 378 j = F34_ 378 j from (by rw [q42_]; exact (fl_u_ne (by first | exact nc_ rfl | decide | omega))))), cms_r, fun i hi => by rw [List.length_singleton] at hi; rw [show i = 0 by omega]; exact ⟨Int.le_refl _, Int.le_refl _⟩⟩))
          refine ga_aload_n (v := .ref 344) hm_66 rfl rfl rfl ?_
          refine ga_getr (b := 378) hm_66 rfl sc_344 rfl ?_
          refine ga_iload_n (z := k) hm_66 rfl rfl ?_
          refine fl_iconst hm_66 rfl ?_
          refine fl_iast (z := k) (v := 0) hm_66 rfl sc_378 (by omega) (by omega) (by omega) ?_
          refine ga_inc (a := k) (c := k + 1) (lv2 := [(2, .int (Int32.ofInt (k + 1))), (0, .ref 344), (1, .int (Int32.ofInt mo))]) hm_66 rfl rfl (Nat.le_of_ble_eq_true rfl) rfl rfl ?_
          refine fl_goto hm_66 rfl ?_
          obtain ⟨F165_, q166_⟩ : ∃ Fq_, Fq_ = (fl_u F1 378 k.toNat 0) := ⟨_, rfl⟩
          rw [← q166_]
          have g167_ : gi F165_ := by rw [q166_]; exact gi_u (hg_F1) rfl (by omega) (by omega)
          have g168_ : fs [(344, 344, 0, 0), (344, 344, 13, 13), (344, 344, 49, 49), (344, 344, 58, 58), (344, 344, 66, 66), (373, 381, 0, 100000)] F F165_ := by rw [q166_]; exact fs_u (g29_) (fs_z (fs_z (fs_z (fs_z (fs_z (fs_y (by omega)))))))
          exact ih27_ _ (by omega) (k + 1) F165_ rfl g167_ (by rw [q166_]; exact fs_u (hf_F1) (fs_y (by omega))) (⟨by omega, by omega⟩) (by rw [q166_]; exact z0_w hz1 (by omega))
        exact L26_ _ (0) F16_ rfl g18_ fs_refl (⟨by omega, by omega⟩) (fun j hj => absurd hj (by omega))
      refine ga_aload_n (v := .ref 344) hm_66 rfl rfl rfl ?_
      refine fl_iconst hm_66 rfl ?_
      refine ga_putz (z := 1) hm_66 rfl sc_344 rfl rfl (by omega) ?_
      refine fl_iconst hm_66 rfl ?_
      obtain ⟨F169_, q170_⟩ : ∃ Fq_, Fq_ = (fl_u F16_ 344 13 1) := ⟨_, rfl⟩
      rw [← q170_]
      have g171_ : gi F169_ := by rw [q170_]; exact gi_u (g18_) rfl (by omega) (by omega)
      have g172_ : fs [(344, 344, 0, 0), (344, 344, 13, 13), (344, 344, 49, 49), (344, 344, 58, 58), (344, 344, 66, 66), (373, 381, 0, 100000)] F F169_ := by rw [q170_]; exact fs_u (g19_) rfl
      refine gr_i (z := 0) hm_66 rfl rfl rfl ?_
      have e173_ : F169_ 344 13 = 1 := by rw [q170_]; exact fl_u_eq
      have e174_ : F16_ 344 58 = 0 := by rw [q17_]; exact fl_u_eq
      have e175_ : F169_ 344 58 = 0 := by rw [q170_]; exact (fl_u_ne (by first | exact nc_ rfl | decide | omega)).trans (e174_)
      have e176_ : F16_ 344 0 = 0 := by rw [q17_]; exact (fl_u_ne (by first | exact nc_ rfl | decide | omega)).trans ((fl_u_ne (by first | exact nc_ rfl | decide | omega)).trans (fl_u_eq))
      have e177_ : F169_ 344 0 = 0 := by rw [q170_]; exact (fl_u_ne (by first | exact nc_ rfl | decide | omega)).trans (e176_)
      exact ⟨F169_, rfl, g171_, g172_, (⟨by omega, by omega⟩), (pli_n (by omega)), (Or.inr (Or.inr ⟨by omega, by omega, ⟨by omega, by omega⟩, by rw [show F169_ 344 0 = 0 from e177_]; exact Or.inl ⟨(show gR F (F 344 38) by rcases c22_ with ⟨h6_, h7_⟩ | ⟨h6_, h7_⟩; (rw [(gr_cg (F := F) (F' := F16_) ((show F16_ 344 46 = F 344 46 from (by rw [q17_]; exact (fl_u_ne (by first | exact nc_ rfl | decide | omega)).trans ((fl_u_ne (by first | exact nc_ rfl | decide | omega)).trans ((fl_u_ne (by first | exact nc_ rfl | decide | omega))))))) ((show F16_ 344 47 = F 344 47 from (by rw [q17_]; exact (fl_u_ne (by first | exact nc_ rfl | decide | omega)).trans ((fl_u_ne (by first | exact nc_ rfl | decide | omega)).trans ((fl_u_ne (by first | exact nc_ rfl | decide | omega))))))) ((show F16_ 344 48 = F 344 48 from (by rw [q17_]; exact (fl_u_ne (by first | exact nc_ rfl | decide | omega)).trans ((fl_u_ne (by first | exact nc_ rfl | decide | omega)).trans ((fl_u_ne (by first | exact nc_ rfl | decide | omega))))))))] at h7_; exact h7_); (exfalso; omega)), rfl, rfl⟩⟩))⟩
    refine fl_iconst hm_66 rfl ?_
    refine fl_goto hm_66 rfl ?_
    refine ga_puti (z := 2) hm_66 rfl sc_344 rfl rfl ?_
    refine ga_aload_n (v := .ref 344) hm_66 rfl rfl rfl ?_
    refine ga_geti (z := 2) hm_66 rfl sc_344 rfl (fl_u_eq) ?_
    refine fl_if_le hm_66 rfl ⟨by omega, by omega⟩ (fun h => absurd h (by omega)) (fun _ => ?_)
    refine fl_iconst hm_66 rfl ?_
    obtain ⟨F178_, q179_⟩ : ∃ Fq_, Fq_ = (fl_u F 344 0 2) := ⟨_, rfl⟩
    rw [← q179_]
    have g180_ : gi F178_ := by rw [q179_]; exact gi_u (hgi) rfl (by omega) (by omega)
    have g181_ : fs [(344, 344, 0, 0), (344, 344, 13, 13), (344, 344, 49, 49), (344, 344, 58, 58), (344, 344, 66, 66), (373, 381, 0, 100000)] F F178_ := by rw [q179_]; exact fs_u (fs_refl) rfl
    refine gr_i (z := 0) hm_66 rfl rfl rfl ?_
    have e182_ : F178_ 344 13 = F 344 13 := by rw [q179_]; exact fl_u_ne (by first | exact nc_ rfl | decide | omega)
    have e183_ : F178_ 344 58 = F 344 58 := by rw [q179_]; exact fl_u_ne (by first | exact nc_ rfl | decide | omega)
    have e184_ : F178_ 344 0 = 2 := by rw [q179_]; exact fl_u_eq
    exact ⟨F178_, rfl, g180_, g181_, (⟨by omega, by omega⟩), (pli_cg hpl (show F178_ 344 13 = F 344 13 from (by rw [q179_]; exact (fl_u_ne (by first | exact nc_ rfl | decide | omega)))) (show F178_ 344 58 = F 344 58 from (by rw [q179_]; exact (fl_u_ne (by first | exact nc_ rfl | decide | omega)))) (fun j => (show F178_ 354 j = F 354 j from (by rw [q179_]; exact (fl_u_ne (by first | exact nc_ rfl | decide | omega))))) (fun j => (show F178_ 367 j = F 367 j from (by rw [q179_]; exact (fl_u_ne (by first | exact nc_ rfl | decide | omega))))) (fun j => (show F178_ 368 j = F 368 j from (by rw [q179_]; exact (fl_u_ne (by first | exact nc_ rfl | decide | omega))))) (fun j => (show F178_ 381 j = F 381 j from (by rw [q179_]; exact (fl_u_ne (by first | exact nc_ rfl | decide | omega)))))), (Or.inr (Or.inl ⟨by omega, by omega, by omega, rfl⟩))⟩
  refine fl_iconst hm_66 rfl ?_
  refine fl_goto hm_66 rfl ?_
  refine ga_puti (z := 1) hm_66 rfl sc_344 rfl rfl ?_
  refine ga_aload_n (v := .ref 344) hm_66 rfl rfl rfl ?_
  refine ga_geti (z := 1) hm_66 rfl sc_344 rfl (fl_u_eq) ?_
  refine fl_if_le hm_66 rfl ⟨by omega, by omega⟩ (fun h => absurd h (by omega)) (fun _ => ?_)
  refine fl_iconst hm_66 rfl ?_
  obtain ⟨F185_, q186_⟩ : ∃ Fq_, Fq_ = (fl_u F 344 0 1) := ⟨_, rfl⟩
  rw [← q186_]
  have g187_ : gi F185_ := by rw [q186_]; exact gi_u (hgi) rfl (by omega) (by omega)
  have g188_ : fs [(344, 344, 0, 0), (344, 344, 13, 13), (344, 344, 49, 49), (344, 344, 58, 58), (344, 344, 66, 66), (373, 381, 0, 100000)] F F185_ := by rw [q186_]; exact fs_u (fs_refl) rfl
  refine gr_i (z := 0) hm_66 rfl rfl rfl ?_
  have e189_ : F185_ 344 13 = F 344 13 := by rw [q186_]; exact fl_u_ne (by first | exact nc_ rfl | decide | omega)
  have e190_ : F185_ 344 58 = F 344 58 := by rw [q186_]; exact fl_u_ne (by first | exact nc_ rfl | decide | omega)
  have e191_ : F185_ 344 0 = 1 := by rw [q186_]; exact fl_u_eq
  exact ⟨F185_, rfl, g187_, g188_, (⟨by omega, by omega⟩), (pli_cg hpl (show F185_ 344 13 = F 344 13 from (by rw [q186_]; exact (fl_u_ne (by first | exact nc_ rfl | decide | omega)))) (show F185_ 344 58 = F 344 58 from (by rw [q186_]; exact (fl_u_ne (by first | exact nc_ rfl | decide | omega)))) (fun j => (show F185_ 354 j = F 354 j from (by rw [q186_]; exact (fl_u_ne (by first | exact nc_ rfl | decide | omega))))) (fun j => (show F185_ 367 j = F 367 j from (by rw [q186_]; exact (fl_u_ne (by first | exact nc_ rfl | decide | omega))))) (fun j => (show F185_ 368 j = F 368 j from (by rw [q186_]; exact (fl_u_ne (by first | exact nc_ rfl | decide | omega))))) (fun j => (show F185_ 381 j = F 381 j from (by rw [q186_]; exact (fl_u_ne (by first | exact nc_ rfl | decide | omega)))))), (Or.inl ⟨by omega, by omega, rfl⟩)⟩
/- CheapPlanner.plan -/
abbrev pq_5v (G : Nat → Nat → Option Nat) (F : fl_N) (X : xi_H) (mo : Int) (pa : Nat → Int) : Outcome → xi_H → Prop := gqi (fun z A => ∃ F' : fl_N, fl_H sh_T G F' ++ X = A ∧ gi F' ∧ fs [(0, 0, 12, 12), (331, 331, 8, 12), (332, 339, 0, 100000), (343, 343, 0, 100000)] F F' ∧ (-2147483648 ≤ z ∧ z ≤ 2147483647) ∧ (fnd F') ∧ (F 0 8 = 1 ∧ (1 ≤ mo ∧ mo ≤ 200) ∧ plE F mo 0 z)) (fun j A => ∃ (F' : fl_N) (ci : Nat), (ci = 15 ∨ ci = 14 ∨ ci = 16) ∧ (387 + X.length = j ∧ fl_H sh_T G F' ++ (X ++ [gx ci]) = A) ∧ gi F' ∧ fs [(0, 0, 12, 12), (331, 331, 8, 12), (332, 339, 0, 100000), (343, 343, 0, 100000)] F F' ∧ (fnd F') ∧ ((ci = 15 ∧ F 0 8 = 0) ∨ (ci = 14 ∧ F 0 8 = 1 ∧ ¬ (1 ≤ mo ∧ mo ≤ 200)) ∨ (ci = 16 ∧ F 0 8 = 1 ∧ (1 ≤ mo ∧ mo ≤ 200) ∧ plE F mo 3 0)))
theorem mc_5v {G : Nat → Nat → Option Nat} (hG : gg G) (F : fl_N) (X : xi_H) (hgi : gi F) (mo : Int) (pa : Nat → Int) (hfd : fnd F) (hmo : -2147483648 ≤ mo ∧ mo ≤ 2147483647) (hpa : F 0 8 = 1 → ∀ s : Nat, (s : Int) < F 120 3 → 1 ≤ F (126 + 5 * s) 2 ∧ ∃ a, a < 5 ∧ F (126 + 5 * s) 2 = pa a) : fl_M xi_ms 5 7 145 [.ref 0, .int (Int32.ofInt mo)] (fl_H sh_T G F ++ X) (pq_5v G F X mo pa) := by
  intro fr lo hfr hlo
  show fl_R xi_ms 5 fr lo 0 [(0, .ref 0), (1, .int (Int32.ofInt mo))] [] _ _
  have hb123 : 0 ≤ F 120 3 ∧ F 120 3 ≤ 41 := gi_g hgi rfl
  have hb08 : 0 ≤ F 0 8 ∧ F 0 8 ≤ 1 := gi_g hgi rfl
  refine ga_aload_n (v := .ref 0) hm_5 rfl rfl rfl ?_
  refine gIv (nY := 1) (F := 6) (L := 100) (As := []) (b := 0) (rest := []) hm_5 rfl hm_13 rfl rfl (fl_ob sc_0) rfl rfl rfl rfl rfl (by omega) (by omega) ?_
  intro f1_ l2_ h3_ h4_
  show fl_R xi_ms 13 f1_ l2_ 0 [(0, .ref 0)] [] _ _
  refine ga_aload_n (v := .ref 0) hm_13 rfl rfl rfl ?_
  have b5_ : 0 ≤ F 0 8 ∧ F 0 8 ≤ 1 := gi_g hgi rfl
  refine ga_geti (z := F 0 8) hm_13 rfl sc_0 rfl (rfl) ?_
  refine fx_if_ne (a := F 0 8) hm_13 rfl ⟨by omega, by omega⟩ (fun h6_ => ?_) (fun h7_ => ?_)
  ·
    refine gr_v hm_13 rfl rfl ?_
    clear h3_ h4_ f1_ l2_
    refine ga_iload_n (z := mo) hm_5 rfl rfl ?_
    refine fl_iconst hm_5 rfl ?_
    refine fl_icmp_lt (a := mo) (b := 1) hm_5 rfl ⟨by omega, by omega⟩ ⟨by omega, by omega⟩ (fun h8_ => ?_) (fun h9_ => ?_)
    ·
      refine fl_thr hm_5 rfl rfl (by omega) (by omega) (Nat.le_of_ble_eq_true rfl) (fl_pos sc_0) ?_
      refine gw_i ?_
      exact ⟨F, 14, (Or.inr (Or.inl rfl)), ⟨ga_len.symm, (List.append_assoc _ _ _).symm⟩, hgi, fs_refl, (hfd), (by first | exact Or.inl ⟨rfl, by omega⟩ | exact Or.inr (Or.inl ⟨rfl, by omega, by omega⟩))⟩
    refine ga_iload_n (z := mo) hm_5 rfl rfl ?_
    refine fl_sipush hm_5 rfl rfl ?_
    refine fl_icmp_le (a := mo) (b := 200) hm_5 rfl ⟨by omega, by omega⟩ ⟨by omega, by omega⟩ (fun h10_ => ?_) (fun h11_ => ?_)
    ·
      refine ga_aload_n (v := .ref 0) hm_5 rfl rfl rfl ?_
      refine fl_iconst hm_5 rfl ?_
      refine ga_puti (z := 0) hm_5 rfl sc_0 rfl rfl ?_
      refine ga_aload_n (v := .ref 0) hm_5 rfl rfl rfl ?_
      refine ga_getr (b := 331) hm_5 rfl sc_0 rfl ?_
      refine ga_iload_n (z := mo) hm_5 rfl rfl ?_
      obtain ⟨F12_, q13_⟩ : ∃ Fq_, Fq_ = (fl_u F 0 12 0) := ⟨_, rfl⟩
      rw [← q13_]
      have g14_ : gi F12_ := by rw [q13_]; exact gi_u (hgi) rfl (by omega) (by omega)
      have g15_ : fs [(0, 0, 12, 12), (331, 331, 8, 12), (332, 339, 0, 100000), (343, 343, 0, 100000)] F F12_ := by rw [q13_]; exact fs_u (fs_refl) rfl
      refine gVv (nY := 3) (F := 5) (L := 123) (As := [.int (Int32.ofInt mo)]) (b := 331) (rest := []) hm_5 rfl hm_139 rfl rfl (fl_ob sc_331) rfl rfl rfl rfl rfl (by omega) (by omega) (mc_139v hG F12_ X g14_ (mo) (pa) (⟨by omega, by omega⟩) (fun s hs => by rw [show F12_ 120 3 = F 120 3 from (show F12_ 120 3 = F 120 3 from (by rw [q13_]; exact (fl_u_ne (by first | exact nc_ rfl | decide | omega))))] at hs; rw [show F12_ (126 + 5 * s) 2 = F (126 + 5 * s) 2 from (show F12_ ((126 + 5 * s)) 2 = F ((126 + 5 * s)) 2 from (by rw [q13_]; exact (fl_u_ne (by first | exact nc_ rfl | decide | omega))))]; exact hpa (by omega) s hs)) (fun _ _ h => False.elim h) ?_
      rintro A1_ ⟨F19_, hA_, g20_, s21_, c17_, c18_⟩
      subst hA_
      have g22_ : fs [(0, 0, 12, 12), (331, 331, 8, 12), (332, 339, 0, 100000), (343, 343, 0, 100000)] F F19_ := fs_tr g15_ s21_ rfl
      refine ga_aload_n (v := .ref 0) hm_5 rfl rfl rfl ?_
      refine ga_getr (b := 331) hm_5 rfl sc_0 rfl ?_
      refine gIi (nY := 1) (F := 0) (L := 0) (As := []) (b := 331) (rest := []) hm_5 rfl hm_137 rfl rfl (fl_ob sc_331) rfl rfl rfl rfl rfl (by omega) (by omega) ?_
      intro f23_ l24_ h25_ h26_
      show fl_R xi_ms 137 f23_ l24_ 0 [(0, .ref 331)] [] _ _
      refine ga_aload_n (v := .ref 331) hm_137 rfl rfl rfl ?_
      have b27_ : 0 ≤ F19_ 331 10 ∧ F19_ 331 10 ≤ 1 := gi_g g20_ rfl
      refine ga_geti (z := F19_ 331 10) hm_137 rfl sc_331 rfl (rfl) ?_
      refine gr_i hm_137 rfl rfl (ga_nb (by omega)) ?_
      clear h25_ h26_ f23_ l24_
      refine fl_if_eq (a := F19_ 331 10) hm_5 rfl ⟨by omega, by omega⟩ (fun h28_ => ?_) (fun h29_ => ?_)
      ·
        refine ga_aload_n (v := .ref 0) hm_5 rfl rfl rfl ?_
        refine ga_getr (b := 331) hm_5 rfl sc_0 rfl ?_
        refine gIi (nY := 1) (F := 0) (L := 0) (As := []) (b := 331) (rest := []) hm_5 rfl hm_41 rfl rfl (fl_ob sc_331) rfl rfl rfl rfl rfl (by omega) (by omega) ?_
        intro f30_ l31_ h32_ h33_
        show fl_R xi_ms 41 f30_ l31_ 0 [(0, .ref 331)] [] _ _
        refine ga_aload_n (v := .ref 331) hm_41 rfl rfl rfl ?_
        have b34_ : 0 ≤ F19_ 331 11 ∧ F19_ 331 11 ≤ 1 := gi_g g20_ rfl
        refine ga_geti (z := F19_ 331 11) hm_41 rfl sc_331 rfl (rfl) ?_
        refine gr_i hm_41 rfl rfl (ga_nb (by omega)) ?_
        clear h32_ h33_ f30_ l31_
        refine fx_if_ne (a := F19_ 331 11) hm_5 rfl ⟨by omega, by omega⟩ (fun h35_ => ?_) (fun h36_ => ?_)
        ·
          have hf1 := c17_ (by omega)
          refine fl_iconst hm_5 rfl ?_
          refine ga_istore_n (lv2 := [(2, .int (Int32.ofInt 0)), (0, .ref 0), (1, .int (Int32.ofInt mo))]) hm_5 rfl (Nat.le_of_ble_eq_true rfl) rfl ?_
          have L38_ : ∀ (n37_ : Nat) (k : Int) (F1 : fl_N), (200 - k : Int).toNat = n37_ → (gi F1) → (fs [(0, 0, 12, 12), (343, 343, 0, 100000)] F19_ F1) → (0 ≤ k ∧ k ≤ 200) → fl_R xi_ms 5 fr lo 73 [(2, .int (Int32.ofInt k)), (0, .ref 0), (1, .int (Int32.ofInt mo))] [] (fl_H sh_T G F1 ++ X) (pq_5v G F X mo pa) := by
            intro n37_
            induction n37_ using Nat.strongRecOn with
            | ind n37_ ih39_ =>
            intro k F1 hn40_ hg_F1 hf_F1 hk
            have g41_ : fs [(0, 0, 12, 12), (331, 331, 8, 12), (332, 339, 0, 100000), (343, 343, 0, 100000)] F F1 := fs_tr g22_ hf_F1 rfl
            refine ga_iload_n (z := k) hm_5 rfl rfl ?_
            refine ga_aload_n (v := .ref 0) hm_5 rfl rfl rfl ?_
            refine ga_getr (b := 331) hm_5 rfl sc_0 rfl ?_
            refine gIi (nY := 1) (F := 0) (L := 0) (As := []) (b := 331) (rest := [.int (Int32.ofInt k)]) hm_5 rfl hm_132 rfl rfl (fl_ob sc_331) rfl rfl rfl rfl rfl (by omega) (by omega) ?_
            intro f42_ l43_ h44_ h45_
            show fl_R xi_ms 132 f42_ l43_ 0 [(0, .ref 331)] [] _ _
            refine ga_aload_n (v := .ref 331) hm_132 rfl rfl rfl ?_
            refine ga_getr (b := 335) hm_132 rfl sc_331 rfl ?_
            refine fl_sipush hm_132 rfl rfl ?_
            have e46_ : F1 335 200 = F19_ 335 200 := (hf_F1 335 200 rfl).trans (rfl)
            have b47_ : -2147483648 ≤ F19_ 335 200 ∧ F19_ 335 200 ≤ 2147483647 := gi_g g20_ rfl
            refine ga_iald (z := 200) (w := F19_ 335 200) hm_132 rfl sc_335 (by omega) (by omega) (by omega) (e46_) ?_
            refine gr_i hm_132 rfl rfl rfl ?_
            clear h44_ h45_ f42_ l43_
            refine fl_icmp_ge (a := k) (b := F19_ 335 200) hm_5 rfl ⟨by omega, by omega⟩ ⟨by omega, by omega⟩ (fun h48_ => ?_) (fun h49_ => ?_)
            ·
              refine ga_aload_n (v := .ref 0) hm_5 rfl rfl rfl ?_
              refine ga_getr (b := 331) hm_5 rfl sc_0 rfl ?_
              refine gIi (nY := 1) (F := 0) (L := 0) (As := []) (b := 331) (rest := []) hm_5 rfl hm_131 rfl rfl (fl_ob sc_331) rfl rfl rfl rfl rfl (by omega) (by omega) ?_
              intro f50_ l51_ h52_ h53_
              show fl_R xi_ms 131 f50_ l51_ 0 [(0, .ref 331)] [] _ _
              refine ga_aload_n (v := .ref 331) hm_131 rfl rfl rfl ?_
              have e54_ : F1 331 12 = F19_ 331 12 := (hf_F1 331 12 rfl).trans (rfl)
              have b55_ : -2147483648 ≤ F19_ 331 12 ∧ F19_ 331 12 ≤ 2147483647 := gi_g g20_ rfl
              refine ga_geti (z := F19_ 331 12) hm_131 rfl sc_331 rfl (e54_) ?_
              refine gr_i hm_131 rfl rfl rfl ?_
              clear h52_ h53_ f50_ l51_
              refine gr_i (z := F19_ 331 12) hm_5 rfl rfl rfl ?_
              exact ⟨F1, rfl, hg_F1, g41_, (⟨by omega, by omega⟩), (fnd_cg (F := F19_) c17_ (show F1 331 11 = F19_ 331 11 from (hf_F1 331 11 (by first | exact fs_c rfl | exact (fs_n (by omega) (fs_n (by omega) rfl))))) (show F1 335 200 = F19_ 335 200 from (hf_F1 335 200 (by first | exact fs_c rfl | exact (fs_n (by omega) (fs_n (by omega) rfl)))))), (⟨by omega, ⟨by omega, by omega⟩, by first | exact pl_no (lkE_cg (F := F) (by omega) (fun r k hr => (show F12_ (r) k = F (r) k from (by rw [q13_]; exact (fl_u_ne (by first | exact nc_ rfl | decide | omega))))) c18_) (by omega) (by omega) | exact pl_fd (lkE_cg (F := F) (by omega) (fun r k hr => (show F12_ (r) k = F (r) k from (by rw [q13_]; exact (fl_u_ne (by first | exact nc_ rfl | decide | omega))))) c18_) (by omega) (by omega)⟩)⟩
            refine ga_aload_n (v := .ref 0) hm_5 rfl rfl rfl ?_
            refine ga_aload_n (v := .ref 0) hm_5 rfl rfl rfl ?_
            refine ga_getr (b := 120) hm_5 rfl sc_0 rfl ?_
            refine ga_getr (b := 122) hm_5 rfl sc_120 rfl ?_
            refine ga_aload_n (v := .ref 0) hm_5 rfl rfl rfl ?_
            refine ga_getr (b := 331) hm_5 rfl sc_0 rfl ?_
            refine ga_iload_n (z := k) hm_5 rfl rfl ?_
            refine gIi (nY := 2) (F := 0) (L := 0) (As := [.int (Int32.ofInt k)]) (b := 331) (rest := [.ref 122, .ref 0]) hm_5 rfl hm_133 rfl rfl (fl_ob sc_331) rfl rfl rfl rfl rfl (by omega) (by omega) ?_
            intro f56_ l57_ h58_ h59_
            show fl_R xi_ms 133 f56_ l57_ 0 [(0, .ref 331), (1, .int (Int32.ofInt k))] [] _ _
            refine ga_aload_n (v := .ref 331) hm_133 rfl rfl rfl ?_
            refine ga_getr (b := 339) hm_133 rfl sc_331 rfl ?_
            refine ga_iload_n (z := k) hm_133 rfl rfl ?_
            have e60_ : F1 339 k.toNat = F19_ 339 k.toNat := (hf_F1 339 k.toNat (by first | exact fs_c rfl | exact (fs_n (by omega) (fs_n (by omega) rfl)))).trans (rfl)
            have b61_ : 0 ≤ F19_ 339 k.toNat ∧ F19_ 339 k.toNat ≤ 40 := gi_g g20_ rfl
            refine ga_iald (z := k) (w := F19_ 339 k.toNat) hm_133 rfl sc_339 (by omega) (by omega) (by omega) (e60_) ?_
            refine gr_i hm_133 rfl rfl rfl ?_
            clear h58_ h59_ f56_ l57_
            obtain ⟨a62_, r63_, n64_, q65_⟩ := ra_122 (F19_ 339 k.toNat).toNat (by omega)
            refine fl_aald (z := F19_ 339 k.toNat) (q := a62_) hm_5 rfl sc_122 (hG _ _ _ sc_122) rfl (by omega) (by simp only [List.length_cons, List.length_nil]; omega) (by simp only [List.length_cons, List.length_nil]; omega) r63_ ?_
            refine gVv (nY := 3) (F := 2) (L := 45) (As := [.ref a62_]) (b := 0) (rest := []) hm_5 rfl hm_85 rfl rfl (fl_ob sc_0) rfl rfl rfl rfl rfl (by omega) (by omega) (mc_85 hG F1 X hg_F1 (a62_) n64_) (fun _ _ h => False.elim h) ?_
            rintro A1_ ⟨F67_, hA_, g68_, s69_⟩
            subst hA_
            have g70_ : fs [(0, 0, 12, 12), (331, 331, 8, 12), (332, 339, 0, 100000), (343, 343, 0, 100000)] F F67_ := fs_tr g41_ s69_ rfl
            refine ga_inc (a := k) (c := k + 1) (lv2 := [(2, .int (Int32.ofInt (k + 1))), (0, .ref 0), (1, .int (Int32.ofInt mo))]) hm_5 rfl rfl (Nat.le_of_ble_eq_true rfl) rfl rfl ?_
            refine fl_goto hm_5 rfl ?_
            exact ih39_ _ (by omega) (k + 1) F67_ rfl g68_ (fs_tr hf_F1 s69_ rfl) (⟨by omega, by omega⟩)
          exact L38_ _ (0) F19_ rfl g20_ fs_refl (⟨by omega, by omega⟩)
        refine fl_iconst hm_5 rfl ?_
        refine gr_i (z := -1) hm_5 rfl rfl rfl ?_
        exact ⟨F19_, rfl, g20_, g22_, (⟨by omega, by omega⟩), (c17_), (⟨by omega, ⟨by omega, by omega⟩, by first | exact pl_no (lkE_cg (F := F) (by omega) (fun r k hr => (show F12_ (r) k = F (r) k from (by rw [q13_]; exact (fl_u_ne (by first | exact nc_ rfl | decide | omega))))) c18_) (by omega) (by omega) | exact pl_fd (lkE_cg (F := F) (by omega) (fun r k hr => (show F12_ (r) k = F (r) k from (by rw [q13_]; exact (fl_u_ne (by first | exact nc_ rfl | decide | omega))))) c18_) (by omega) (by omega)⟩)⟩
      refine fl_thr hm_5 rfl rfl (by omega) (by omega) (Nat.le_of_ble_eq_true rfl) (fl_pos sc_0) ?_
      refine gw_i ?_
      exact ⟨F19_, 16, (Or.inr (Or.inr (rfl))), ⟨ga_len.symm, (List.append_assoc _ _ _).symm⟩, g20_, g22_, (c17_), (Or.inr (Or.inr ⟨rfl, by omega, ⟨by omega, by omega⟩, pl_cr (lkE_cg (F := F) (by omega) (fun r k hr => (show F12_ (r) k = F (r) k from (by rw [q13_]; exact (fl_u_ne (by first | exact nc_ rfl | decide | omega))))) c18_) (by omega)⟩))⟩
    refine fl_thr hm_5 rfl rfl (by omega) (by omega) (Nat.le_of_ble_eq_true rfl) (fl_pos sc_0) ?_
    refine gw_i ?_
    exact ⟨F, 14, (Or.inr (Or.inl rfl)), ⟨ga_len.symm, (List.append_assoc _ _ _).symm⟩, hgi, fs_refl, (hfd), (by first | exact Or.inl ⟨rfl, by omega⟩ | exact Or.inr (Or.inl ⟨rfl, by omega, by omega⟩))⟩
  refine fl_thr hm_13 rfl rfl (by omega) (by omega) (Nat.le_of_ble_eq_true rfl) (fl_pos sc_0) ?_
  refine gw_v ⟨rfl, ?_⟩
  refine gw_i ?_
  exact ⟨F, 15, (Or.inl rfl), ⟨ga_len.symm, (List.append_assoc _ _ _).symm⟩, hgi, fs_refl, (hfd), (by first | exact Or.inl ⟨rfl, by omega⟩ | exact Or.inr (Or.inl ⟨rfl, by omega, by omega⟩))⟩

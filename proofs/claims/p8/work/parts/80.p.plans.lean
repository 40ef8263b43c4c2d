/- CheapPlannerModel.plan -/
abbrev pq_66v (G : Nat → Nat → Option Nat) (F : fl_N) (X : xi_H) (mo : Int) : Outcome → xi_H → Prop := gqi (fun z A => ∃ F' : fl_N, fl_H sh_T G F' ++ X = A ∧ gi F' ∧ fs [(344, 344, 0, 0), (344, 344, 13, 13), (344, 344, 49, 49), (344, 344, 58, 58), (344, 344, 66, 66), (373, 381, 0, 100000)] F F' ∧ (-2147483648 ≤ z ∧ z ≤ 2147483647) ∧ (pli F') ∧ ((F' 344 0 = 1 ∧ F 344 12 = 0 ∧ F' 344 13 = F 344 13 ∧ F' 344 58 = F 344 58) ∨ (F' 344 0 = 2 ∧ F 344 12 = 1 ∧ ¬ (1 ≤ mo ∧ mo ≤ 200) ∧ F' 344 13 = F 344 13 ∧ F' 344 58 = F 344 58) ∨ ((F' 344 0 = 0 ∨ F' 344 0 = 3) ∧ F 344 12 = 1 ∧ (1 ≤ mo ∧ mo ≤ 200) ∧ ∃ w, plV F mo (F' 344 0) z w ∧ plK F' (F' 344 0) z w)) ∧ ((F' 344 0 = 1 ∨ F' 344 0 = 2) → ∀ j, F' 381 j = F 381 j)) gqn
theorem mc_66v {G : Nat → Nat → Option Nat} (hG : gg G) (F : fl_N) (X : xi_H) (hgi : gi F) (mo : Int) (hmo : -2147483648 ≤ mo ∧ mo ≤ 2147483647) (hpl : pli F) (hpb : F 344 12 = 1 → sob F) (hpp : F 344 12 = 1 → ∀ s : Nat, (s : Int) < F 344 39 → 1 ≤ F 357 (F 367 s).toNat ∧ F 357 (F 367 s).toNat ≤ 999) : fl_M xi_ms 66 3 78 [.ref 344, .int (Int32.ofInt mo)] (fl_H sh_T G F ++ X) (pq_66v G F X mo) := by
  intro fr lo hfr hlo
  show fl_R xi_ms 66 fr lo 0 [(0, .ref 344), (1, .int (Int32.ofInt mo))] [] _ _
  have hb12 : 0 ≤ F 344 12 ∧ F 344 12 ≤ 1 := gi_g hgi rfl
  have hb39 : 0 ≤ F 344 39 ∧ F 344 39 ≤ 40 := gi_g hgi rfl
  refine ga_aload_n (v := .ref 344) hm_66 rfl rfl rfl ?_
  refine ga_aload_n (v := .ref 344) hm_66 rfl rfl rfl ?_
  have b1_ : 0 ≤ F 344 12 ∧ F 344 12 ≤ 1 := gi_g hgi rfl
  refine ga_geti (z := F 344 12) hm_66 rfl sc_344 rfl (rfl) ?_
  refine fx_if_ne (a := F 344 12) hm_66 rfl ⟨by omega, by omega⟩ (fun h2_ => ?_) (fun h3_ => ?_)
  ·
    refine ga_iload_n (z := mo) hm_66 rfl rfl ?_
    refine fl_iconst hm_66 rfl ?_
    refine fl_icmp_lt (a := mo) (b := 1) hm_66 rfl ⟨by omega, by omega⟩ ⟨by omega, by omega⟩ (fun h4_ => ?_) (fun h5_ => ?_)
    ·
      refine fl_iconst hm_66 rfl ?_
      refine fl_goto hm_66 rfl ?_
      refine ga_puti (z := 2) hm_66 rfl sc_344 rfl rfl ?_
      refine ga_aload_n (v := .ref 344) hm_66 rfl rfl rfl ?_
      refine ga_geti (z := 2) hm_66 rfl sc_344 rfl (fl_u_eq) ?_
      refine fl_if_le hm_66 rfl ⟨by omega, by omega⟩ (fun h => absurd h (by omega)) (fun _ => ?_)
      refine fl_iconst hm_66 rfl ?_
      obtain ⟨F6_, q7_⟩ : ∃ Fq_, Fq_ = (fl_u F 344 0 2) := ⟨_, rfl⟩
      rw [← q7_]
      have g8_ : gi F6_ := by rw [q7_]; exact gi_u (hgi) rfl (by omega) (by omega)
      have g9_ : fs [(344, 344, 0, 0), (344, 344, 13, 13), (344, 344, 49, 49), (344, 344, 58, 58), (344, 344, 66, 66), (373, 381, 0, 100000)] F F6_ := by rw [q7_]; exact fs_u (fs_refl) rfl
      refine gr_i (z := 0) hm_66 rfl rfl rfl ?_
      have e10_ : F6_ 344 13 = F 344 13 := by rw [q7_]; exact fl_u_ne (by first | exact nc_ rfl | decide | omega)
      have e11_ : F6_ 344 58 = F 344 58 := by rw [q7_]; exact fl_u_ne (by first | exact nc_ rfl | decide | omega)
      have e12_ : F6_ 344 0 = 2 := by rw [q7_]; exact fl_u_eq
      have b13_ : 0 ≤ F 344 13 ∧ F 344 13 ≤ 1 := gi_g hgi rfl
      have b14_ : 0 ≤ F 344 58 ∧ F 344 58 ≤ 200 := gi_g hgi rfl
      exact ⟨F6_, rfl, g8_, g9_, (⟨by omega, by omega⟩), (pli_cg hpl (show F6_ 344 13 = F 344 13 from (by rw [q7_]; exact (fl_u_ne (by first | exact nc_ rfl | decide | omega)))) (show F6_ 344 58 = F 344 58 from (by rw [q7_]; exact (fl_u_ne (by first | exact nc_ rfl | decide | omega)))) (fun j => (show F6_ 354 j = F 354 j from (by rw [q7_]; exact (fl_u_ne (by first | exact nc_ rfl | decide | omega))))) (fun j => (show F6_ 367 j = F 367 j from (by rw [q7_]; exact (fl_u_ne (by first | exact nc_ rfl | decide | omega))))) (fun j => (show F6_ 368 j = F 368 j from (by rw [q7_]; exact (fl_u_ne (by first | exact nc_ rfl | decide | omega))))) (fun j => (show F6_ 381 j = F 381 j from (by rw [q7_]; exact (fl_u_ne (by first | exact nc_ rfl | decide | omega)))))), (Or.inr (Or.inl ⟨by omega, by omega, by omega, (show F6_ 344 13 = F 344 13 from (by rw [q7_]; exact (fl_u_ne (by first | exact nc_ rfl | decide | omega)))), (show F6_ 344 58 = F 344 58 from (by rw [q7_]; exact (fl_u_ne (by first | exact nc_ rfl | decide | omega))))⟩)), (fun h9_ j => (show F6_ 381 j = F 381 j from (by rw [q7_]; exact (fl_u_ne (by first | exact nc_ rfl | decide | omega)))))⟩
    refine ga_iload_n (z := mo) hm_66 rfl rfl ?_
    refine fl_sipush hm_66 rfl rfl ?_
    refine fl_icmp_le (a := mo) (b := 200) hm_66 rfl ⟨by omega, by omega⟩ ⟨by omega, by omega⟩ (fun h15_ => ?_) (fun h16_ => ?_)
    ·
      refine fl_iconst hm_66 rfl ?_
      refine ga_puti (z := 0) hm_66 rfl sc_344 rfl rfl ?_
      refine ga_aload_n (v := .ref 344) hm_66 rfl rfl rfl ?_
      refine ga_geti (z := 0) hm_66 rfl sc_344 rfl (fl_u_eq) ?_
      refine fl_if_le hm_66 rfl ⟨by omega, by omega⟩ (fun _ => ?_) (fun h => absurd (by omega) h)
      refine ga_aload_n (v := .ref 344) hm_66 rfl rfl rfl ?_
      refine fl_iconst hm_66 rfl ?_
      refine ga_putz (z := 0) hm_66 rfl sc_344 rfl rfl (by omega) ?_
      refine ga_aload_n (v := .ref 344) hm_66 rfl rfl rfl ?_
      refine fl_iconst hm_66 rfl ?_
      refine ga_puti (z := 0) hm_66 rfl sc_344 rfl rfl ?_
      refine ga_aload_n (v := .ref 344) hm_66 rfl rfl rfl ?_
      refine ga_aload_n (v := .ref 344) hm_66 rfl rfl rfl ?_
      have b17_ : -9223372036854775808 ≤ F 344 38 ∧ F 344 38 ≤ 9223372036854775807 := gi_g hgi rfl
      refine ga_getl (z := F 344 38) hm_66 rfl sc_344 rfl ((fl_u_ne (by first | exact nc_ rfl | decide | omega)).trans ((fl_u_ne (by first | exact nc_ rfl | decide | omega)).trans (fl_u_ne (by first | exact nc_ rfl | decide | omega)))) ?_
      obtain ⟨F18_, q19_⟩ : ∃ Fq_, Fq_ = (fl_u (fl_u (fl_u F 344 0 0) 344 13 0) 344 58 0) := ⟨_, rfl⟩
      rw [← q19_]
      have g20_ : gi F18_ := by rw [q19_]; exact gi_u (gi_u (gi_u (hgi) rfl (by omega) (by omega)) rfl (by omega) (by omega)) rfl (by omega) (by omega)
      have g21_ : fs [(344, 344, 0, 0), (344, 344, 13, 13), (344, 344, 49, 49), (344, 344, 58, 58), (344, 344, 66, 66), (373, 381, 0, 100000)] F F18_ := by rw [q19_]; exact fs_u (fs_u (fs_u (fs_refl) rfl) rfl) rfl
      refine gVi (nY := 3) (F := 0) (L := 0) (As := [.long (Int64.ofInt (F 344 38))]) (b := 344) (rest := []) hm_66 rfl hm_168 rfl rfl (fl_ob sc_344) rfl rfl rfl rfl rfl (by omega) (by omega) (mc_168 hG F18_ X g20_ (F 344 38) (⟨by omega, by omega⟩)) (fun _ _ h => False.elim h) ?_
      rintro z22_ A1_ ⟨hA_, c23_, c24_⟩
      subst hA_
      refine fl_if_eq (a := z22_) hm_66 rfl ⟨by omega, by omega⟩ (fun h25_ => ?_) (fun h26_ => ?_)
      ·
        refine fl_iconst hm_66 rfl ?_
        refine ga_istore_n (lv2 := [(2, .int (Int32.ofInt 0)), (0, .ref 344), (1, .int (Int32.ofInt mo))]) hm_66 rfl (Nat.le_of_ble_eq_true rfl) rfl ?_
        have L28_ : ∀ (n27_ : Nat) (k : Int) (F1 : fl_N), (512 - k : Int).toNat = n27_ → (gi F1) → (fs [(378, 378, 0, 100000)] F18_ F1) → (0 ≤ k ∧ k ≤ 512) → (∀ j : Nat, (j : Int) < k → F1 378 j = 0) → fl_R xi_ms 66 fr lo 71 [(2, .int (Int32.ofInt k)), (0, .ref 344), (1, .int (Int32.ofInt mo))] [] (fl_H sh_T G F1 ++ X) (pq_66v G F X mo) := by
          intro n27_
          induction n27_ using Nat.strongRecOn with
          | ind n27_ ih29_ =>
          intro k F1 hn30_ hg_F1 hf_F1 hk hz1
          have g31_ : fs [(344, 344, 0, 0), (344, 344, 13, 13), (344, 344, 49, 49), (344, 344, 58, 58), (344, 344, 66, 66), (373, 381, 0, 100000)] F F1 := fs_tr g21_ hf_F1 rfl
          refine ga_iload_n (z := k) hm_66 rfl rfl ?_
          refine fl_sipush hm_66 rfl rfl ?_
          refine fl_icmp_ge (a := k) (b := 512) hm_66 rfl ⟨by omega, by omega⟩ ⟨by omega, by omega⟩ (fun h32_ => ?_) (fun h33_ => ?_)
          ·
            refine ga_aload_n (v := .ref 344) hm_66 rfl rfl rfl ?_
            refine fl_iconst hm_66 rfl ?_
            refine ga_puti (z := 1) hm_66 rfl sc_344 rfl rfl ?_
            refine ga_aload_n (v := .ref 344) hm_66 rfl rfl rfl ?_
            refine ga_getr (b := 373) hm_66 rfl sc_344 rfl ?_
            refine fl_iconst hm_66 rfl ?_
            refine ga_aload_n (v := .ref 344) hm_66 rfl rfl rfl ?_
            have e34_ : F18_ 344 38 = F 344 38 := by rw [q19_]; exact (fl_u_ne (by first | exact nc_ rfl | decide | omega)).trans ((fl_u_ne (by first | exact nc_ rfl | decide | omega)).trans (fl_u_ne (by first | exact nc_ rfl | decide | omega)))
            have e35_ : F1 344 38 = F 344 38 := (hf_F1 344 38 rfl).trans (e34_)
            refine ga_getl (z := F 344 38) hm_66 rfl sc_344 rfl ((fl_u_ne (by first | exact nc_ rfl | decide | omega)).trans (e35_)) ?_
            refine fl_last (z := 0) (v := F 344 38) hm_66 rfl sc_373 (by omega) (by omega) (by omega) ?_
            refine ga_aload_n (v := .ref 344) hm_66 rfl rfl rfl ?_
            refine ga_getr (b := 374) hm_66 rfl sc_344 rfl ?_
            refine fl_iconst hm_66 rfl ?_
            refine fl_iconst hm_66 rfl ?_
            refine fl_iast (z := 0) (v := 0) hm_66 rfl sc_374 (by omega) (by omega) (by omega) ?_
            refine ga_aload_n (v := .ref 344) hm_66 rfl rfl rfl ?_
            refine ga_getr (b := 375) hm_66 rfl sc_344 rfl ?_
            refine fl_iconst hm_66 rfl ?_
            refine fl_iconst hm_66 rfl ?_
            refine fl_iast (z := 0) (v := 0) hm_66 rfl sc_375 (by omega) (by omega) (by omega) ?_
            refine ga_aload_n (v := .ref 344) hm_66 rfl rfl rfl ?_
            refine ga_getr (b := 378) hm_66 rfl sc_344 rfl ?_
            refine ga_aload_n (v := .ref 344) hm_66 rfl rfl rfl ?_
            refine ga_aload_n (v := .ref 344) hm_66 rfl rfl rfl ?_
            refine ga_getl (z := F 344 38) hm_66 rfl sc_344 rfl ((fl_u_ne (by first | exact nc_ rfl | decide | omega)).trans ((fl_u_ne (by first | exact nc_ rfl | decide | omega)).trans ((fl_u_ne (by first | exact nc_ rfl | decide | omega)).trans ((fl_u_ne (by first | exact nc_ rfl | decide | omega)).trans (e35_))))) ?_
            obtain ⟨F36_, q37_⟩ : ∃ Fq_, Fq_ = (fl_u (fl_u (fl_u (fl_u F1 344 49 1) 373 (0 : Int).toNat (F 344 38)) 374 (0 : Int).toNat 0) 375 (0 : Int).toNat 0) := ⟨_, rfl⟩
            rw [← q37_]
            have g38_ : gi F36_ := by rw [q37_]; exact gi_u (gi_u (gi_u (gi_u (hg_F1) rfl (by omega) (by omega)) rfl (by omega) (by omega)) rfl (by omega) (by omega)) rfl (by omega) (by omega)
            have g39_ : fs [(344, 344, 0, 0), (344, 344, 13, 13), (344, 344, 49, 49), (344, 344, 58, 58), (344, 344, 66, 66), (373, 381, 0, 100000)] F F36_ := by rw [q37_]; exact fs_u (fs_u (fs_u (fs_u (g31_) rfl) rfl) rfl) rfl
            refine gVi (nY := 6) (F := 0) (L := 0) (As := [.long (Int64.ofInt (F 344 38))]) (b := 344) (rest := [.ref 378]) hm_66 rfl hm_189 rfl rfl (fl_ob sc_344) rfl rfl rfl rfl rfl (by omega) (by omega) (mc_189 hG F36_ X g38_ (F 344 38) (⟨by omega, by omega⟩) (⟨0, by omega, by omega, by rw [show F36_ 378 (0 : Int).toNat = F1 378 0 from (show F36_ 378 0 = F1 378 0 from (by rw [q37_]; exact (fl_u_ne (by first | exact nc_ rfl | decide | omega)).trans ((fl_u_ne (by first | exact nc_ rfl | decide | omega)).trans ((fl_u_ne (by first | exact nc_ rfl | decide | omega)).trans ((fl_u_ne (by first | exact nc_ rfl | decide | omega)))))))]; exact hz1 0 (by omega)⟩)) (fun _ _ h => False.elim h) ?_
            rintro z40_ A1_ ⟨hA_, c41_, c42_⟩
            subst hA_
            refine fl_iconst hm_66 rfl ?_
            refine fl_iast (z := z40_) (v := 1) hm_66 rfl sc_378 (by omega) (by omega) (by omega) ?_
            obtain ⟨F43_, q44_⟩ : ∃ Fq_, Fq_ = (fl_u F36_ 378 z40_.toNat 1) := ⟨_, rfl⟩
            rw [← q44_]
            have g45_ : gi F43_ := by rw [q44_]; exact gi_u (g38_) rfl (by omega) (by omega)
            have g46_ : fs [(344, 344, 0, 0), (344, 344, 13, 13), (344, 344, 49, 49), (344, 344, 58, 58), (344, 344, 66, 66), (373, 381, 0, 100000)] F F43_ := by rw [q44_]; exact fs_u (g39_) (fs_z (fs_z (fs_z (fs_z (fs_z (fs_y (by omega)))))))
            have L48_ : ∀ (n47_ : Nat)  (F2 : fl_N), (201 - F2 344 49 : Int).toNat = n47_ → (gi F2) → (fs [(344, 344, 49, 49), (344, 344, 66, 66), (373, 380, 0, 100000)] F43_ F2) → (gs F2 (F2 344 49)) → (F2 344 49 ≤ mo) → (∃ T V, tR F2 T ∧ cmv (pR F) mo.toNat [(F 344 38, 0)] [[]] T V ∧ (∀ i : Nat, i < T.length → 0 ≤ ca T i ∧ ca T i ≤ 999 * (i : Int)) ∧ chn (F2 375) (F2 376) (F2 377) V (F2 344 49) ∧ V.length = T.length ∧ dst T) → fl_R xi_ms 66 fr lo 134 [(0, .ref 344), (1, .int (Int32.ofInt mo))] [] (fl_H sh_T G F2 ++ X) (pq_66v G F X mo) := by
              intro n47_
              induction n47_ using Nat.strongRecOn with
              | ind n47_ ih49_ =>
              intro F2 hn50_ hg_F2 hf_F2 hg2 hsm2 hlk
              have g51_ : fs [(344, 344, 0, 0), (344, 344, 13, 13), (344, 344, 49, 49), (344, 344, 58, 58), (344, 344, 66, 66), (373, 381, 0, 100000)] F F2 := fs_tr g46_ hf_F2 rfl
              have hb49 : 0 ≤ F2 344 49 ∧ F2 344 49 ≤ 200 := gi_g hg_F2 rfl
              refine ga_aload_n (v := .ref 344) hm_66 rfl rfl rfl ?_
              obtain ⟨T, V, t1_, t2_, t3_, t4_, t5_, t6_⟩ : ∃ T V, tR F2 T ∧ cmv (pR F) mo.toNat [(F 344 38, 0)] [[]] T V ∧ (∀ i : Nat, i < T.length → 0 ≤ ca T i ∧ ca T i ≤ 999 * (i : Int)) ∧ chn (F2 375) (F2 376) (F2 377) V (F2 344 49) ∧ V.length = T.length ∧ dst T := hlk
              have t11_ := t1_.1
              have hP2_ : pR F2 = pR F := (pR_cg (F := F) (F' := F2) ((Eq.trans (a := F2 344 39) (b := F43_ 344 39) (hf_F2 344 39 (by first | exact fs_c rfl | exact (fs_n (by omega) (fs_n (by omega) (fs_n (by omega) rfl))))) (Eq.trans (a := F43_ 344 39) (b := F36_ 344 39) (by rw [q44_]; exact (fl_u_ne (by first | exact nc_ rfl | decide | omega))) (Eq.trans (a := F36_ 344 39) (b := F1 344 39) (by rw [q37_]; exact (fl_u_ne (by first | exact nc_ rfl | decide | omega)).trans ((fl_u_ne (by first | exact nc_ rfl | decide | omega)).trans ((fl_u_ne (by first | exact nc_ rfl | decide | omega)).trans ((fl_u_ne (by first | exact nc_ rfl | decide | omega)))))) (Eq.trans (a := F1 344 39) (b := F18_ 344 39) (hf_F1 344 39 (by first | exact fs_c rfl | exact (fs_n (by omega) rfl))) (show F18_ 344 39 = F 344 39 from (by rw [q19_]; exact (fl_u_ne (by first | exact nc_ rfl | decide | omega)).trans ((fl_u_ne (by first | exact nc_ rfl | decide | omega)).trans ((fl_u_ne (by first | exact nc_ rfl | decide | omega))))))))))) ((Eq.trans (a := F2 344 46) (b := F43_ 344 46) (hf_F2 344 46 (by first | exact fs_c rfl | exact (fs_n (by omega) (fs_n (by omega) (fs_n (by omega) rfl))))) (Eq.trans (a := F43_ 344 46) (b := F36_ 344 46) (by rw [q44_]; exact (fl_u_ne (by first | exact nc_ rfl | decide | omega))) (Eq.trans (a := F36_ 344 46) (b := F1 344 46) (by rw [q37_]; exact (fl_u_ne (by first | exact nc_ rfl | decide | omega)).trans ((fl_u_ne (by first | exact nc_ rfl | decide | omega)).trans ((fl_u_ne (by first | exact nc_ rfl | decide | omega)).trans ((fl_u_ne (by first | exact nc_ rfl | decide | omega)))))) (Eq.trans (a := F1 344 46) (b := F18_ 344 46) (hf_F1 344 46 (by first | exact fs_c rfl | exact (fs_n (by omega) rfl))) (show F18_ 344 46 = F 344 46 from (by rw [q19_]; exact (fl_u_ne (by first | exact nc_ rfl | decide | omega)).trans ((fl_u_ne (by first | exact nc_ rfl | decide | omega)).trans ((fl_u_ne (by first | exact nc_ rfl | decide | omega))))))))))) ((Eq.trans (a := F2 344 47) (b := F43_ 344 47) (hf_F2 344 47 (by first | exact fs_c rfl | exact (fs_n (by omega) (fs_n (by omega) (fs_n (by omega) rfl))))) (Eq.trans (a := F43_ 344 47) (b := F36_ 344 47) (by rw [q44_]; exact (fl_u_ne (by first | exact nc_ rfl | decide | omega))) (Eq.trans (a := F36_ 344 47) (b := F1 344 47) (by rw [q37_]; exact (fl_u_ne (by first | exact nc_ rfl | decide | omega)).trans ((fl_u_ne (by first | exact nc_ rfl | decide | omega)).trans ((fl_u_ne (by first | exact nc_ rfl | decide | omega)).trans ((fl_u_ne (by first | exact nc_ rfl | decide | omega)))))) (Eq.trans (a := F1 344 47) (b := F18_ 344 47) (hf_F1 344 47 (by first | exact fs_c rfl | exact (fs_n (by omega) rfl))) (show F18_ 344 47 = F 344 47 from (by rw [q19_]; exact (fl_u_ne (by first | exact nc_ rfl | decide | omega)).trans ((fl_u_ne (by first | exact nc_ rfl | decide | omega)).trans ((fl_u_ne (by first | exact nc_ rfl | decide | omega))))))))))) ((Eq.trans (a := F2 344 48) (b := F43_ 344 48) (hf_F2 344 48 (by first | exact fs_c rfl | exact (fs_n (by omega) (fs_n (by omega) (fs_n (by omega) rfl))))) (Eq.trans (a := F43_ 344 48) (b := F36_ 344 48) (by rw [q44_]; exact (fl_u_ne (by first | exact nc_ rfl | decide | omega))) (Eq.trans (a := F36_ 344 48) (b := F1 344 48) (by rw [q37_]; exact (fl_u_ne (by first | exact nc_ rfl | decide | omega)).trans ((fl_u_ne (by first | exact nc_ rfl | decide | omega)).trans ((fl_u_ne (by first | exact nc_ rfl | decide | omega)).trans ((fl_u_ne (by first | exact nc_ rfl | decide | omega)))))) (Eq.trans (a := F1 344 48) (b := F18_ 344 48) (hf_F1 344 48 (by first | exact fs_c rfl | exact (fs_n (by omega) rfl))) (show F18_ 344 48 = F 344 48 from (by rw [q19_]; exact (fl_u_ne (by first | exact nc_ rfl | decide | omega)).trans ((fl_u_ne (by first | exact nc_ rfl | decide | omega)).trans ((fl_u_ne (by first | exact nc_ rfl | decide | omega))))))))))) (fun j => (Eq.trans (a := F2 357 j) (b := F43_ 357 j) (hf_F2 357 j (by first | exact fs_c rfl | exact (fs_n (by omega) (fs_n (by omega) (fs_n (by omega) rfl))))) (Eq.trans (a := F43_ 357 j) (b := F36_ 357 j) (by rw [q44_]; exact (fl_u_ne (by first | exact nc_ rfl | decide | omega))) (Eq.trans (a := F36_ 357 j) (b := F1 357 j) (by rw [q37_]; exact (fl_u_ne (by first | exact nc_ rfl | decide | omega)).trans ((fl_u_ne (by first | exact nc_ rfl | decide | omega)).trans ((fl_u_ne (by first | exact nc_ rfl | decide | omega)).trans ((fl_u_ne (by first | exact nc_ rfl | decide | omega)))))) (Eq.trans (a := F1 357 j) (b := F18_ 357 j) (hf_F1 357 j (by first | exact fs_c rfl | exact (fs_n (by omega) rfl))) (show F18_ 357 j = F 357 j from (by rw [q19_]; exact (fl_u_ne (by first | exact nc_ rfl | decide | omega)).trans ((fl_u_ne (by first | exact nc_ rfl | decide | omega)).trans ((fl_u_ne (by first | exact nc_ rfl | decide | omega))))))))))) (fun j => (Eq.trans (a := F2 367 j) (b := F43_ 367 j) (hf_F2 367 j (by first | exact fs_c rfl | exact (fs_n (by omega) (fs_n (by omega) (fs_n (by omega) rfl))))) (Eq.trans (a := F43_ 367 j) (b := F36_ 367 j) (by rw [q44_]; exact (fl_u_ne (by first | exact nc_ rfl | decide | omega))) (Eq.trans (a := F36_ 367 j) (b := F1 367 j) (by rw [q37_]; exact (fl_u_ne (by first | exact nc_ rfl | decide | omega)).trans ((fl_u_ne (by first | exact nc_ rfl | decide | omega)).trans ((fl_u_ne (by first | exact nc_ rfl | decide | omega)).trans ((fl_u_ne (by first | exact nc_ rfl | decide | omega)))))) (Eq.trans (a := F1 367 j) (b := F18_ 367 j) (hf_F1 367 j (by first | exact fs_c rfl | exact (fs_n (by omega) rfl))) (show F18_ 367 j = F 367 j from (by rw [q19_]; exact (fl_u_ne (by first | exact nc_ rfl | decide | omega)).trans ((fl_u_ne (by first | exact nc_ rfl | decide | omega)).trans ((fl_u_ne (by first | exact nc_ rfl | decide | omega))))))))))) (fun j => (Eq.trans (a := F2 369 j) (b := F43_ 369 j) (hf_F2 369 j (by first | exact fs_c rfl | exact (fs_n (by omega) (fs_n (by omega) (fs_n (by omega) rfl))))) (Eq.trans (a := F43_ 369 j) (b := F36_ 369 j) (by rw [q44_]; exact (fl_u_ne (by first | exact nc_ rfl | decide | omega))) (Eq.trans (a := F36_ 369 j) (b := F1 369 j) (by rw [q37_]; exact (fl_u_ne (by first | exact nc_ rfl | decide | omega)).trans ((fl_u_ne (by first | exact nc_ rfl | decide | omega)).trans ((fl_u_ne (by first | exact nc_ rfl | decide | omega)).trans ((fl_u_ne (by first | exact nc_ rfl | decide | omega)))))) (Eq.trans (a := F1 369 j) (b := F18_ 369 j) (hf_F1 369 j (by first | exact fs_c rfl | exact (fs_n (by omega) rfl))) (show F18_ 369 j = F 369 j from (by rw [q19_]; exact (fl_u_ne (by first | exact nc_ rfl | decide | omega)).trans ((fl_u_ne (by first | exact nc_ rfl | decide | omega)).trans ((fl_u_ne (by first | exact nc_ rfl | decide | omega))))))))))) (fun j => (Eq.trans (a := F2 370 j) (b := F43_ 370 j) (hf_F2 370 j (by first | exact fs_c rfl | exact (fs_n (by omega) (fs_n (by omega) (fs_n (by omega) rfl))))) (Eq.trans (a := F43_ 370 j) (b := F36_ 370 j) (by rw [q44_]; exact (fl_u_ne (by first | exact nc_ rfl | decide | omega))) (Eq.trans (a := F36_ 370 j) (b := F1 370 j) (by rw [q37_]; exact (fl_u_ne (by first | exact nc_ rfl | decide | omega)).trans ((fl_u_ne (by first | exact nc_ rfl | decide | omega)).trans ((fl_u_ne (by first | exact nc_ rfl | decide | omega)).trans ((fl_u_ne (by first | exact nc_ rfl | decide | omega)))))) (Eq.trans (a := F1 370 j) (b := F18_ 370 j) (hf_F1 370 j (by first | exact fs_c rfl | exact (fs_n (by omega) rfl))) (show F18_ 370 j = F 370 j from (by rw [q19_]; exact (fl_u_ne (by first | exact nc_ rfl | decide | omega)).trans ((fl_u_ne (by first | exact nc_ rfl | decide | omega)).trans ((fl_u_ne (by first | exact nc_ rfl | decide | omega))))))))))) (fun j => (Eq.trans (a := F2 371 j) (b := F43_ 371 j) (hf_F2 371 j (by first | exact fs_c rfl | exact (fs_n (by omega) (fs_n (by omega) (fs_n (by omega) rfl))))) (Eq.trans (a := F43_ 371 j) (b := F36_ 371 j) (by rw [q44_]; exact (fl_u_ne (by first | exact nc_ rfl | decide | omega))) (Eq.trans (a := F36_ 371 j) (b := F1 371 j) (by rw [q37_]; exact (fl_u_ne (by first | exact nc_ rfl | decide | omega)).trans ((fl_u_ne (by first | exact nc_ rfl | decide | omega)).trans ((fl_u_ne (by first | exact nc_ rfl | decide | omega)).trans ((fl_u_ne (by first | exact nc_ rfl | decide | omega)))))) (Eq.trans (a := F1 371 j) (b := F18_ 371 j) (hf_F1 371 j (by first | exact fs_c rfl | exact (fs_n (by omega) rfl))) (show F18_ 371 j = F 371 j from (by rw [q19_]; exact (fl_u_ne (by first | exact nc_ rfl | decide | omega)).trans ((fl_u_ne (by first | exact nc_ rfl | decide | omega)).trans ((fl_u_ne (by first | exact nc_ rfl | decide | omega))))))))))) (fun j => (Eq.trans (a := F2 372 j) (b := F43_ 372 j) (hf_F2 372 j (by first | exact fs_c rfl | exact (fs_n (by omega) (fs_n (by omega) (fs_n (by omega) rfl))))) (Eq.trans (a := F43_ 372 j) (b := F36_ 372 j) (by rw [q44_]; exact (fl_u_ne (by first | exact nc_ rfl | decide | omega))) (Eq.trans (a := F36_ 372 j) (b := F1 372 j) (by rw [q37_]; exact (fl_u_ne (by first | exact nc_ rfl | decide | omega)).trans ((fl_u_ne (by first | exact nc_ rfl | decide | omega)).trans ((fl_u_ne (by first | exact nc_ rfl | decide | omega)).trans ((fl_u_ne (by first | exact nc_ rfl | decide | omega)))))) (Eq.trans (a := F1 372 j) (b := F18_ 372 j) (hf_F1 372 j (by first | exact fs_c rfl | exact (fs_n (by omega) rfl))) (show F18_ 372 j = F 372 j from (by rw [q19_]; exact (fl_u_ne (by first | exact nc_ rfl | decide | omega)).trans ((fl_u_ne (by first | exact nc_ rfl | decide | omega)).trans ((fl_u_ne (by first | exact nc_ rfl | decide | omega))))))))))))
              have hpb_ := pR_b (hpp (by omega))
              refine gVi (nY := 5) (F := 1) (L := 25) (As := []) (b := 344) (rest := []) hm_66 rfl hm_172 rfl rfl (fl_ob sc_344) rfl rfl rfl rfl rfl (by omega) (by omega) (mc_172v hG F2 X hg_F2 (T) (hg2) (t1_) (fun i hi => by have h9_ := t3_ i hi; omega) (fun s hs => by rw [show F2 344 39 = F 344 39 from (Eq.trans (a := F2 344 39) (b := F43_ 344 39) (hf_F2 344 39 (by first | exact fs_c rfl | exact (fs_n (by omega) (fs_n (by omega) (fs_n (by omega) rfl))))) (Eq.trans (a := F43_ 344 39) (b := F36_ 344 39) (by rw [q44_]; exact (fl_u_ne (by first | exact nc_ rfl | decide | omega))) (Eq.trans (a := F36_ 344 39) (b := F1 344 39) (by rw [q37_]; exact (fl_u_ne (by first | exact nc_ rfl | decide | omega)).trans ((fl_u_ne (by first | exact nc_ rfl | decide | omega)).trans ((fl_u_ne (by first | exact nc_ rfl | decide | omega)).trans ((fl_u_ne (by first | exact nc_ rfl | decide | omega)))))) (Eq.trans (a := F1 344 39) (b := F18_ 344 39) (hf_F1 344 39 (by first | exact fs_c rfl | exact (fs_n (by omega) rfl))) (show F18_ 344 39 = F 344 39 from (by rw [q19_]; exact (fl_u_ne (by first | exact nc_ rfl | decide | omega)).trans ((fl_u_ne (by first | exact nc_ rfl | decide | omega)).trans ((fl_u_ne (by first | exact nc_ rfl | decide | omega))))))))))] at hs; rw [show F2 367 s = F 367 s from (Eq.trans (a := F2 367 s) (b := F43_ 367 s) (hf_F2 367 s (by first | exact fs_c rfl | exact (fs_n (by omega) (fs_n (by omega) (fs_n (by omega) rfl))))) (Eq.trans (a := F43_ 367 s) (b := F36_ 367 s) (by rw [q44_]; exact (fl_u_ne (by first | exact nc_ rfl | decide | omega))) (Eq.trans (a := F36_ 367 s) (b := F1 367 s) (by rw [q37_]; exact (fl_u_ne (by first | exact nc_ rfl | decide | omega)).trans ((fl_u_ne (by first | exact nc_ rfl | decide | omega)).trans ((fl_u_ne (by first | exact nc_ rfl | decide | omega)).trans ((fl_u_ne (by first | exact nc_ rfl | decide | omega)))))) (Eq.trans (a := F1 367 s) (b := F18_ 367 s) (hf_F1 367 s (by first | exact fs_c rfl | exact (fs_n (by omega) rfl))) (show F18_ 367 s = F 367 s from (by rw [q19_]; exact (fl_u_ne (by first | exact nc_ rfl | decide | omega)).trans ((fl_u_ne (by first | exact nc_ rfl | decide | omega)).trans ((fl_u_ne (by first | exact nc_ rfl | decide | omega)))))))))), show F2 357 (F 367 s).toNat = F 357 (F 367 s).toNat from (Eq.trans (a := F2 357 (F 367 s).toNat) (b := F43_ 357 (F 367 s).toNat) (hf_F2 357 (F 367 s).toNat (by first | exact fs_c rfl | exact (fs_n (by omega) (fs_n (by omega) (fs_n (by omega) rfl))))) (Eq.trans (a := F43_ 357 (F 367 s).toNat) (b := F36_ 357 (F 367 s).toNat) (by rw [q44_]; exact (fl_u_ne (by first | exact nc_ rfl | decide | omega))) (Eq.trans (a := F36_ 357 (F 367 s).toNat) (b := F1 357 (F 367 s).toNat) (by rw [q37_]; exact (fl_u_ne (by first | exact nc_ rfl | decide | omega)).trans ((fl_u_ne (by first | exact nc_ rfl | decide | omega)).trans ((fl_u_ne (by first | exact nc_ rfl | decide | omega)).trans ((fl_u_ne (by first | exact nc_ rfl | decide | omega)))))) (Eq.trans (a := F1 357 (F 367 s).toNat) (b := F18_ 357 (F 367 s).toNat) (hf_F1 357 (F 367 s).toNat (by first | exact fs_c rfl | exact (fs_n (by omega) rfl))) (show F18_ 357 (F 367 s).toNat = F 357 (F 367 s).toNat from (by rw [q19_]; exact (fl_u_ne (by first | exact nc_ rfl | decide | omega)).trans ((fl_u_ne (by first | exact nc_ rfl | decide | omega)).trans ((fl_u_ne (by first | exact nc_ rfl | decide | omega))))))))))]; have h9_ := hpp (by omega) s hs; omega)) (fun _ _ h => False.elim h) ?_
              rintro z52_ A1_ ⟨hA_, c53_, c54_⟩
              subst hA_
              try rw [hP2_] at c53_
              try rw [hP2_] at c54_
              refine ga_istore_n (lv2 := [(2, .int (Int32.ofInt z52_)), (0, .ref 344), (1, .int (Int32.ofInt mo))]) hm_66 rfl (Nat.le_of_ble_eq_true rfl) rfl ?_
              refine ga_iload_n (z := z52_) hm_66 rfl rfl ?_
              refine fl_iconst hm_66 rfl ?_
              refine fx_icmp_ne (a := z52_) (b := -1) hm_66 rfl ⟨by omega, by omega⟩ ⟨by omega, by omega⟩ (fun h55_ => ?_) (fun h56_ => ?_)
              ·
                refine ga_aload_n (v := .ref 344) hm_66 rfl rfl rfl ?_
                refine ga_iload_n (z := z52_) hm_66 rfl rfl ?_
                refine gVv (nY := 4) (F := 2) (L := 49) (As := [.int (Int32.ofInt z52_)]) (b := 344) (rest := []) hm_66 rfl hm_163 rfl rfl (fl_ob sc_344) rfl rfl rfl rfl rfl (by omega) (by omega) (mc_163v hG F2 X hg_F2 (z52_) (T) (V) ((F2 344 49)) (⟨by omega, by omega⟩) (hg2.1) (hg2.2.2.2) (t1_) (fun i hi => by have h9_ := t3_ i hi; omega) (fun s hs => by rw [show F2 344 39 = F 344 39 from (Eq.trans (a := F2 344 39) (b := F43_ 344 39) (hf_F2 344 39 (by first | exact fs_c rfl | exact (fs_n (by omega) (fs_n (by omega) (fs_n (by omega) rfl))))) (Eq.trans (a := F43_ 344 39) (b := F36_ 344 39) (by rw [q44_]; exact (fl_u_ne (by first | exact nc_ rfl | decide | omega))) (Eq.trans (a := F36_ 344 39) (b := F1 344 39) (by rw [q37_]; exact (fl_u_ne (by first | exact nc_ rfl | decide | omega)).trans ((fl_u_ne (by first | exact nc_ rfl | decide | omega)).trans ((fl_u_ne (by first | exact nc_ rfl | decide | omega)).trans ((fl_u_ne (by first | exact nc_ rfl | decide | omega)))))) (Eq.trans (a := F1 344 39) (b := F18_ 344 39) (hf_F1 344 39 (by first | exact fs_c rfl | exact (fs_n (by omega) rfl))) (show F18_ 344 39 = F 344 39 from (by rw [q19_]; exact (fl_u_ne (by first | exact nc_ rfl | decide | omega)).trans ((fl_u_ne (by first | exact nc_ rfl | decide | omega)).trans ((fl_u_ne (by first | exact nc_ rfl | decide | omega))))))))))] at hs; rw [show F2 367 s = F 367 s from (Eq.trans (a := F2 367 s) (b := F43_ 367 s) (hf_F2 367 s (by first | exact fs_c rfl | exact (fs_n (by omega) (fs_n (by omega) (fs_n (by omega) rfl))))) (Eq.trans (a := F43_ 367 s) (b := F36_ 367 s) (by rw [q44_]; exact (fl_u_ne (by first | exact nc_ rfl | decide | omega))) (Eq.trans (a := F36_ 367 s) (b := F1 367 s) (by rw [q37_]; exact (fl_u_ne (by first | exact nc_ rfl | decide | omega)).trans ((fl_u_ne (by first | exact nc_ rfl | decide | omega)).trans ((fl_u_ne (by first | exact nc_ rfl | decide | omega)).trans ((fl_u_ne (by first | exact nc_ rfl | decide | omega)))))) (Eq.trans (a := F1 367 s) (b := F18_ 367 s) (hf_F1 367 s (by first | exact fs_c rfl | exact (fs_n (by omega) rfl))) (show F18_ 367 s = F 367 s from (by rw [q19_]; exact (fl_u_ne (by first | exact nc_ rfl | decide | omega)).trans ((fl_u_ne (by first | exact nc_ rfl | decide | omega)).trans ((fl_u_ne (by first | exact nc_ rfl | decide | omega)))))))))), show F2 357 (F 367 s).toNat = F 357 (F 367 s).toNat from (Eq.trans (a := F2 357 (F 367 s).toNat) (b := F43_ 357 (F 367 s).toNat) (hf_F2 357 (F 367 s).toNat (by first | exact fs_c rfl | exact (fs_n (by omega) (fs_n (by omega) (fs_n (by omega) rfl))))) (Eq.trans (a := F43_ 357 (F 367 s).toNat) (b := F36_ 357 (F 367 s).toNat) (by rw [q44_]; exact (fl_u_ne (by first | exact nc_ rfl | decide | omega))) (Eq.trans (a := F36_ 357 (F 367 s).toNat) (b := F1 357 (F 367 s).toNat) (by rw [q37_]; exact (fl_u_ne (by first | exact nc_ rfl | decide | omega)).trans ((fl_u_ne (by first | exact nc_ rfl | decide | omega)).trans ((fl_u_ne (by first | exact nc_ rfl | decide | omega)).trans ((fl_u_ne (by first | exact nc_ rfl | decide | omega)))))) (Eq.trans (a := F1 357 (F 367 s).toNat) (b := F18_ 357 (F 367 s).toNat) (hf_F1 357 (F 367 s).toNat (by first | exact fs_c rfl | exact (fs_n (by omega) rfl))) (show F18_ 357 (F 367 s).toNat = F 357 (F 367 s).toNat from (by rw [q19_]; exact (fl_u_ne (by first | exact nc_ rfl | decide | omega)).trans ((fl_u_ne (by first | exact nc_ rfl | decide | omega)).trans ((fl_u_ne (by first | exact nc_ rfl | decide | omega))))))))))]; have h9_ := hpp (by omega) s hs; omega) (t4_) (t5_)) (fun _ _ h => False.elim h) ?_
                rintro A1_ ⟨F65_, hA_, g66_, s67_, c58_, c59_, c60_, c61_, c62_, c63_, c64_⟩
                subst hA_
                have g68_ : fs [(344, 344, 0, 0), (344, 344, 13, 13), (344, 344, 49, 49), (344, 344, 58, 58), (344, 344, 66, 66), (373, 381, 0, 100000)] F F65_ := fs_tr g51_ s67_ rfl
                try rw [hP2_] at c58_
                try rw [hP2_] at c59_
                try rw [hP2_] at c60_
                try rw [hP2_] at c61_
                try rw [hP2_] at c62_
                try rw [hP2_] at c63_
                try rw [hP2_] at c64_
                refine ga_aload_n (v := .ref 344) hm_66 rfl rfl rfl ?_
                have b69_ : 0 ≤ F65_ 344 66 ∧ F65_ 344 66 ≤ 1 := gi_g g66_ rfl
                refine ga_geti (z := F65_ 344 66) hm_66 rfl sc_344 rfl (rfl) ?_
                refine fl_if_eq (a := F65_ 344 66) hm_66 rfl ⟨by omega, by omega⟩ (fun h70_ => ?_) (fun h71_ => ?_)
                ·
                  refine ga_aload_n (v := .ref 344) hm_66 rfl rfl rfl ?_
                  refine ga_iload_n (z := z52_) hm_66 rfl rfl ?_
                  refine ga_iload_n (z := mo) hm_66 rfl rfl ?_
                  have hP3_ : pR F65_ = pR F := (pR_cg (F := F) (F' := F65_) ((Eq.trans (a := F65_ 344 39) (b := F2 344 39) (s67_ 344 39 (by first | exact fs_c rfl | exact (fs_n (by omega) (fs_n (by omega) (fs_n (by omega) rfl))))) (Eq.trans (a := F2 344 39) (b := F43_ 344 39) (hf_F2 344 39 (by first | exact fs_c rfl | exact (fs_n (by omega) (fs_n (by omega) (fs_n (by omega) rfl))))) (Eq.trans (a := F43_ 344 39) (b := F36_ 344 39) (by rw [q44_]; exact (fl_u_ne (by first | exact nc_ rfl | decide | omega))) (Eq.trans (a := F36_ 344 39) (b := F1 344 39) (by rw [q37_]; exact (fl_u_ne (by first | exact nc_ rfl | decide | omega)).trans ((fl_u_ne (by first | exact nc_ rfl | decide | omega)).trans ((fl_u_ne (by first | exact nc_ rfl | decide | omega)).trans ((fl_u_ne (by first | exact nc_ rfl | decide | omega)))))) (Eq.trans (a := F1 344 39) (b := F18_ 344 39) (hf_F1 344 39 (by first | exact fs_c rfl | exact (fs_n (by omega) rfl))) (show F18_ 344 39 = F 344 39 from (by rw [q19_]; exact (fl_u_ne (by first | exact nc_ rfl | decide | omega)).trans ((fl_u_ne (by first | exact nc_ rfl | decide | omega)).trans ((fl_u_ne (by first | exact nc_ rfl | decide | omega)))))))))))) ((Eq.trans (a := F65_ 344 46) (b := F2 344 46) (s67_ 344 46 (by first | exact fs_c rfl | exact (fs_n (by omega) (fs_n (by omega) (fs_n (by omega) rfl))))) (Eq.trans (a := F2 344 46) (b := F43_ 344 46) (hf_F2 344 46 (by first | exact fs_c rfl | exact (fs_n (by omega) (fs_n (by omega) (fs_n (by omega) rfl))))) (Eq.trans (a := F43_ 344 46) (b := F36_ 344 46) (by rw [q44_]; exact (fl_u_ne (by first | exact nc_ rfl | decide | omega))) (Eq.trans (a := F36_ 344 46) (b := F1 344 46) (by rw [q37_]; exact (fl_u_ne (by first | exact nc_ rfl | decide | omega)).trans ((fl_u_ne (by first | exact nc_ rfl | decide | omega)).trans ((fl_u_ne (by first | exact nc_ rfl | decide | omega)).trans ((fl_u_ne (by first | exact nc_ rfl | decide | omega)))))) (Eq.trans (a := F1 344 46) (b := F18_ 344 46) (hf_F1 344 46 (by first | exact fs_c rfl | exact (fs_n (by omega) rfl))) (show F18_ 344 46 = F 344 46 from (by rw [q19_]; exact (fl_u_ne (by first | exact nc_ rfl | decide | omega)).trans ((fl_u_ne (by first | exact nc_ rfl | decide | omega)).trans ((fl_u_ne (by first | exact nc_ rfl | decide | omega)))))))))))) ((Eq.trans (a := F65_ 344 47) (b := F2 344 47) (s67_ 344 47 (by first | exact fs_c rfl | exact (fs_n (by omega) (fs_n (by omega) (fs_n (by omega) rfl))))) (Eq.trans (a := F2 344 47) (b := F43_ 344 47) (hf_F2 344 47 (by first | exact fs_c rfl | exact (fs_n (by omega) (fs_n (by omega) (fs_n (by omega) rfl))))) (Eq.trans (a := F43_ 344 47) (b := F36_ 344 47) (by rw [q44_]; exact (fl_u_ne (by first | exact nc_ rfl | decide | omega))) (Eq.trans (a := F36_ 344 47) (b := F1 344 47) (by rw [q37_]; exact (fl_u_ne (by first | exact nc_ rfl | decide | omega)).trans ((fl_u_ne (by first | exact nc_ rfl | decide | omega)).trans ((fl_u_ne (by first | exact nc_ rfl | decide | omega)).trans ((fl_u_ne (by first | exact nc_ rfl | decide | omega)))))) (Eq.trans (a := F1 344 47) (b := F18_ 344 47) (hf_F1 344 47 (by first | exact fs_c rfl | exact (fs_n (by omega) rfl))) (show F18_ 344 47 = F 344 47 from (by rw [q19_]; exact (fl_u_ne (by first | exact nc_ rfl | decide | omega)).trans ((fl_u_ne (by first | exact nc_ rfl | decide | omega)).trans ((fl_u_ne (by first | exact nc_ rfl | decide | omega)))))))))))) ((Eq.trans (a := F65_ 344 48) (b := F2 344 48) (s67_ 344 48 (by first | exact fs_c rfl | exact (fs_n (by omega) (fs_n (by omega) (fs_n (by omega) rfl))))) (Eq.trans (a := F2 344 48) (b := F43_ 344 48) (hf_F2 344 48 (by first | exact fs_c rfl | exact (fs_n (by omega) (fs_n (by omega) (fs_n (by omega) rfl))))) (Eq.trans (a := F43_ 344 48) (b := F36_ 344 48) (by rw [q44_]; exact (fl_u_ne (by first | exact nc_ rfl | decide | omega))) (Eq.trans (a := F36_ 344 48) (b := F1 344 48) (by rw [q37_]; exact (fl_u_ne (by first | exact nc_ rfl | decide | omega)).trans ((fl_u_ne (by first | exact nc_ rfl | decide | omega)).trans ((fl_u_ne (by first | exact nc_ rfl | decide | omega)).trans ((fl_u_ne (by first | exact nc_ rfl | decide | omega)))))) (Eq.trans (a := F1 344 48) (b := F18_ 344 48) (hf_F1 344 48 (by first | exact fs_c rfl | exact (fs_n (by omega) rfl))) (show F18_ 344 48 = F 344 48 from (by rw [q19_]; exact (fl_u_ne (by first | exact nc_ rfl | decide | omega)).trans ((fl_u_ne (by first | exact nc_ rfl | decide | omega)).trans ((fl_u_ne (by first | exact nc_ rfl | decide | omega)))))))))))) (fun j => (Eq.trans (a := F65_ 357 j) (b := F2 357 j) (s67_ 357 j (by first | exact fs_c rfl | exact (fs_n (by omega) (fs_n (by omega) (fs_n (by omega) rfl))))) (Eq.trans (a := F2 357 j) (b := F43_ 357 j) (hf_F2 357 j (by first | exact fs_c rfl | exact (fs_n (by omega) (fs_n (by omega) (fs_n (by omega) rfl))))) (Eq.trans (a := F43_ 357 j) (b := F36_ 357 j) (by rw [q44_]; exact (fl_u_ne (by first | exact nc_ rfl | decide | omega))) (Eq.trans (a := F36_ 357 j) (b := F1 357 j) (by rw [q37_]; exact (fl_u_ne (by first | exact nc_ rfl | decide | omega)).trans ((fl_u_ne (by first | exact nc_ rfl | decide | omega)).trans ((fl_u_ne (by first | exact nc_ rfl | decide | omega)).trans ((fl_u_ne (by first | exact nc_ rfl | decide | omega)))))) (Eq.trans (a := F1 357 j) (b := F18_ 357 j) (hf_F1 357 j (by first | exact fs_c rfl | exact (fs_n (by omega) rfl))) (show F18_ 357 j = F 357 j from (by rw [q19_]; exact (fl_u_ne (by first | exact nc_ rfl | decide | omega)).trans ((fl_u_ne (by first | exact nc_ rfl | decide | omega)).trans ((fl_u_ne (by first | exact nc_ rfl | decide | omega)))))))))))) (fun j => (Eq.trans (a := F65_ 367 j) (b := F2 367 j) (s67_ 367 j (by first | exact fs_c rfl | exact (fs_n (by omega) (fs_n (by omega) (fs_n (by omega) rfl))))) (Eq.trans (a := F2 367 j) (b := F43_ 367 j) (hf_F2 367 j (by first | exact fs_c rfl | exact (fs_n (by omega) (fs_n (by omega) (fs_n (by omega) rfl))))) (Eq.trans (a := F43_ 367 j) (b := F36_ 367 j) (by rw [q44_]; exact (fl_u_ne (by first | exact nc_ rfl | decide | omega))) (Eq.trans (a := F36_ 367 j) (b := F1 367 j) (by rw [q37_]; exact (fl_u_ne (by first | exact nc_ rfl | decide | omega)).trans ((fl_u_ne (by first | exact nc_ rfl | decide | omega)).trans ((fl_u_ne (by first | exact nc_ rfl | decide | omega)).trans ((fl_u_ne (by first | exact nc_ rfl | decide | omega)))))) (Eq.trans (a := F1 367 j) (b := F18_ 367 j) (hf_F1 367 j (by first | exact fs_c rfl | exact (fs_n (by omega) rfl))) (show F18_ 367 j = F 367 j from (by rw [q19_]; exact (fl_u_ne (by first | exact nc_ rfl | decide | omega)).trans ((fl_u_ne (by first | exact nc_ rfl | decide | omega)).trans ((fl_u_ne (by first | exact nc_ rfl | decide | omega)))))))))))) (fun j => (Eq.trans (a := F65_ 369 j) (b := F2 369 j) (s67_ 369 j (by first | exact fs_c rfl | exact (fs_n (by omega) (fs_n (by omega) (fs_n (by omega) rfl))))) (Eq.trans (a := F2 369 j) (b := F43_ 369 j) (hf_F2 369 j (by first | exact fs_c rfl | exact (fs_n (by omega) (fs_n (by omega) (fs_n (by omega) rfl))))) (Eq.trans (a := F43_ 369 j) (b := F36_ 369 j) (by rw [q44_]; exact (fl_u_ne (by first | exact nc_ rfl | decide | omega))) (Eq.trans (a := F36_ 369 j) (b := F1 369 j) (by rw [q37_]; exact (fl_u_ne (by first | exact nc_ rfl | decide | omega)).trans ((fl_u_ne (by first | exact nc_ rfl | decide | omega)).trans ((fl_u_ne (by first | exact nc_ rfl | decide | omega)).trans ((fl_u_ne (by first | exact nc_ rfl | decide | omega)))))) (Eq.trans (a := F1 369 j) (b := F18_ 369 j) (hf_F1 369 j (by first | exact fs_c rfl | exact (fs_n (by omega) rfl))) (show F18_ 369 j = F 369 j from (by rw [q19_]; exact (fl_u_ne (by first | exact nc_ rfl | decide | omega)).trans ((fl_u_ne (by first | exact nc_ rfl | decide | omega)).trans ((fl_u_ne (by first | exact nc_ rfl | decide | omega)))))))))))) (fun j => (Eq.trans (a := F65_ 370 j) (b := F2 370 j) (s67_ 370 j (by first | exact fs_c rfl | exact (fs_n (by omega) (fs_n (by omega) (fs_n (by omega) rfl))))) (Eq.trans (a := F2 370 j) (b := F43_ 370 j) (hf_F2 370 j (by first | exact fs_c rfl | exact (fs_n (by omega) (fs_n (by omega) (fs_n (by omega) rfl))))) (Eq.trans (a := F43_ 370 j) (b := F36_ 370 j) (by rw [q44_]; exact (fl_u_ne (by first | exact nc_ rfl | decide | omega))) (Eq.trans (a := F36_ 370 j) (b := F1 370 j) (by rw [q37_]; exact (fl_u_ne (by first | exact nc_ rfl | decide | omega)).trans ((fl_u_ne (by first | exact nc_ rfl | decide | omega)).trans ((fl_u_ne (by first | exact nc_ rfl | decide | omega)).trans ((fl_u_ne (by first | exact nc_ rfl | decide | omega)))))) (Eq.trans (a := F1 370 j) (b := F18_ 370 j) (hf_F1 370 j (by first | exact fs_c rfl | exact (fs_n (by omega) rfl))) (show F18_ 370 j = F 370 j from (by rw [q19_]; exact (fl_u_ne (by first | exact nc_ rfl | decide | omega)).trans ((fl_u_ne (by first | exact nc_ rfl | decide | omega)).trans ((fl_u_ne (by first | exact nc_ rfl | decide | omega)))))))))))) (fun j => (Eq.trans (a := F65_ 371 j) (b := F2 371 j) (s67_ 371 j (by first | exact fs_c rfl | exact (fs_n (by omega) (fs_n (by omega) (fs_n (by omega) rfl))))) (Eq.trans (a := F2 371 j) (b := F43_ 371 j) (hf_F2 371 j (by first | exact fs_c rfl | exact (fs_n (by omega) (fs_n (by omega) (fs_n (by omega) rfl))))) (Eq.trans (a := F43_ 371 j) (b := F36_ 371 j) (by rw [q44_]; exact (fl_u_ne (by first | exact nc_ rfl | decide | omega))) (Eq.trans (a := F36_ 371 j) (b := F1 371 j) (by rw [q37_]; exact (fl_u_ne (by first | exact nc_ rfl | decide | omega)).trans ((fl_u_ne (by first | exact nc_ rfl | decide | omega)).trans ((fl_u_ne (by first | exact nc_ rfl | decide | omega)).trans ((fl_u_ne (by first | exact nc_ rfl | decide | omega)))))) (Eq.trans (a := F1 371 j) (b := F18_ 371 j) (hf_F1 371 j (by first | exact fs_c rfl | exact (fs_n (by omega) rfl))) (show F18_ 371 j = F 371 j from (by rw [q19_]; exact (fl_u_ne (by first | exact nc_ rfl | decide | omega)).trans ((fl_u_ne (by first | exact nc_ rfl | decide | omega)).trans ((fl_u_ne (by first | exact nc_ rfl | decide | omega)))))))))))) (fun j => (Eq.trans (a := F65_ 372 j) (b := F2 372 j) (s67_ 372 j (by first | exact fs_c rfl | exact (fs_n (by omega) (fs_n (by omega) (fs_n (by omega) rfl))))) (Eq.trans (a := F2 372 j) (b := F43_ 372 j) (hf_F2 372 j (by first | exact fs_c rfl | exact (fs_n (by omega) (fs_n (by omega) (fs_n (by omega) rfl))))) (Eq.trans (a := F43_ 372 j) (b := F36_ 372 j) (by rw [q44_]; exact (fl_u_ne (by first | exact nc_ rfl | decide | omega))) (Eq.trans (a := F36_ 372 j) (b := F1 372 j) (by rw [q37_]; exact (fl_u_ne (by first | exact nc_ rfl | decide | omega)).trans ((fl_u_ne (by first | exact nc_ rfl | decide | omega)).trans ((fl_u_ne (by first | exact nc_ rfl | decide | omega)).trans ((fl_u_ne (by first | exact nc_ rfl | decide | omega)))))) (Eq.trans (a := F1 372 j) (b := F18_ 372 j) (hf_F1 372 j (by first | exact fs_c rfl | exact (fs_n (by omega) rfl))) (show F18_ 372 j = F 372 j from (by rw [q19_]; exact (fl_u_ne (by first | exact nc_ rfl | decide | omega)).trans ((fl_u_ne (by first | exact nc_ rfl | decide | omega)).trans ((fl_u_ne (by first | exact nc_ rfl | decide | omega)))))))))))))
                  have e72_ : F65_ 344 49 = F2 344 49 := (s67_ 344 49 rfl).trans (rfl)
                  have b73_ : 0 ≤ F2 344 49 ∧ F2 344 49 ≤ 200 := gi_g hg_F2 rfl
                  refine gVi (nY := 10) (F := 2) (L := 49) (As := [.int (Int32.ofInt z52_), .int (Int32.ofInt mo)]) (b := 344) (rest := []) hm_66 rfl hm_166 rfl rfl (fl_ob sc_344) rfl rfl rfl rfl rfl (by omega) (by omega) (mc_166v hG F65_ X g66_ (z52_) (mo) (T) (V) (⟨by omega, by omega⟩) (⟨by omega, by omega⟩) (by omega) (gs_fg (F := F2) hg2 c58_ ((show F65_ 344 49 = F2 344 49 from (s67_ 344 49 (by first | exact fs_c rfl | exact (fs_n (by omega) (fs_n (by omega) (fs_n (by omega) rfl))))))) (fun j => (show F65_ 378 j = F2 378 j from (s67_ 378 j (by first | exact fs_c rfl | exact (fs_n (by omega) (fs_n (by omega) (fs_n (by omega) rfl)))))))) (c62_) (fun i hi => by have h9_ := t3_ i hi; omega) (fun s hs => by rw [show F65_ 344 39 = F 344 39 from (Eq.trans (a := F65_ 344 39) (b := F2 344 39) (s67_ 344 39 (by first | exact fs_c rfl | exact (fs_n (by omega) (fs_n (by omega) (fs_n (by omega) rfl))))) (Eq.trans (a := F2 344 39) (b := F43_ 344 39) (hf_F2 344 39 (by first | exact fs_c rfl | exact (fs_n (by omega) (fs_n (by omega) (fs_n (by omega) rfl))))) (Eq.trans (a := F43_ 344 39) (b := F36_ 344 39) (by rw [q44_]; exact (fl_u_ne (by first | exact nc_ rfl | decide | omega))) (Eq.trans (a := F36_ 344 39) (b := F1 344 39) (by rw [q37_]; exact (fl_u_ne (by first | exact nc_ rfl | decide | omega)).trans ((fl_u_ne (by first | exact nc_ rfl | decide | omega)).trans ((fl_u_ne (by first | exact nc_ rfl | decide | omega)).trans ((fl_u_ne (by first | exact nc_ rfl | decide | omega)))))) (Eq.trans (a := F1 344 39) (b := F18_ 344 39) (hf_F1 344 39 (by first | exact fs_c rfl | exact (fs_n (by omega) rfl))) (show F18_ 344 39 = F 344 39 from (by rw [q19_]; exact (fl_u_ne (by first | exact nc_ rfl | decide | omega)).trans ((fl_u_ne (by first | exact nc_ rfl | decide | omega)).trans ((fl_u_ne (by first | exact nc_ rfl | decide | omega)))))))))))] at hs; rw [show F65_ 367 s = F 367 s from (Eq.trans (a := F65_ 367 s) (b := F2 367 s) (s67_ 367 s (by first | exact fs_c rfl | exact (fs_n (by omega) (fs_n (by omega) (fs_n (by omega) rfl))))) (Eq.trans (a := F2 367 s) (b := F43_ 367 s) (hf_F2 367 s (by first | exact fs_c rfl | exact (fs_n (by omega) (fs_n (by omega) (fs_n (by omega) rfl))))) (Eq.trans (a := F43_ 367 s) (b := F36_ 367 s) (by rw [q44_]; exact (fl_u_ne (by first | exact nc_ rfl | decide | omega))) (Eq.trans (a := F36_ 367 s) (b := F1 367 s) (by rw [q37_]; exact (fl_u_ne (by first | exact nc_ rfl | decide | omega)).trans ((fl_u_ne (by first | exact nc_ rfl | decide | omega)).trans ((fl_u_ne (by first | exact nc_ rfl | decide | omega)).trans ((fl_u_ne (by first | exact nc_ rfl | decide | omega)))))) (Eq.trans (a := F1 367 s) (b := F18_ 367 s) (hf_F1 367 s (by first | exact fs_c rfl | exact (fs_n (by omega) rfl))) (show F18_ 367 s = F 367 s from (by rw [q19_]; exact (fl_u_ne (by first | exact nc_ rfl | decide | omega)).trans ((fl_u_ne (by first | exact nc_ rfl | decide | omega)).trans ((fl_u_ne (by first | exact nc_ rfl | decide | omega))))))))))), show F65_ 357 (F 367 s).toNat = F 357 (F 367 s).toNat from (Eq.trans (a := F65_ 357 (F 367 s).toNat) (b := F2 357 (F 367 s).toNat) (s67_ 357 (F 367 s).toNat (by first | exact fs_c rfl | exact (fs_n (by omega) (fs_n (by omega) (fs_n (by omega) rfl))))) (Eq.trans (a := F2 357 (F 367 s).toNat) (b := F43_ 357 (F 367 s).toNat) (hf_F2 357 (F 367 s).toNat (by first | exact fs_c rfl | exact (fs_n (by omega) (fs_n (by omega) (fs_n (by omega) rfl))))) (Eq.trans (a := F43_ 357 (F 367 s).toNat) (b := F36_ 357 (F 367 s).toNat) (by rw [q44_]; exact (fl_u_ne (by first | exact nc_ rfl | decide | omega))) (Eq.trans (a := F36_ 357 (F 367 s).toNat) (b := F1 357 (F 367 s).toNat) (by rw [q37_]; exact (fl_u_ne (by first | exact nc_ rfl | decide | omega)).trans ((fl_u_ne (by first | exact nc_ rfl | decide | omega)).trans ((fl_u_ne (by first | exact nc_ rfl | decide | omega)).trans ((fl_u_ne (by first | exact nc_ rfl | decide | omega)))))) (Eq.trans (a := F1 357 (F 367 s).toNat) (b := F18_ 357 (F 367 s).toNat) (hf_F1 357 (F 367 s).toNat (by first | exact fs_c rfl | exact (fs_n (by omega) rfl))) (show F18_ 357 (F 367 s).toNat = F 357 (F 367 s).toNat from (by rw [q19_]; exact (fl_u_ne (by first | exact nc_ rfl | decide | omega)).trans ((fl_u_ne (by first | exact nc_ rfl | decide | omega)).trans ((fl_u_ne (by first | exact nc_ rfl | decide | omega)))))))))))]; have h9_ := hpp (by omega) s hs; omega) (by rw [hP3_]; exact (show gol (pR F) z52_ T = false by cases h9_ : gol (pR F) z52_ T with | false => rfl | true => exact absurd (c61_.mpr h9_) (by omega))) (chn_up c64_ (Int.le_of_eq (Eq.symm ((show F65_ 344 49 = F2 344 49 from (s67_ 344 49 (by first | exact fs_c rfl | exact (fs_n (by omega) (fs_n (by omega) (fs_n (by omega) rfl)))))))))) (t5_) (t6_) (by have h9_ := hg2.2.2.2; omega)) (fun _ _ h => False.elim h) ?_
                  rintro z74_ A1_ (⟨F76_, hA_, g77_, s78_, hz_, c75_⟩ | ⟨F84_, hA_, g85_, s86_, hz_, c79_, c80_, c81_, c82_, c83_⟩)
                  ·
                    subst hA_
                    subst hz_
                    have g87_ : fs [(344, 344, 0, 0), (344, 344, 13, 13), (344, 344, 49, 49), (344, 344, 58, 58), (344, 344, 66, 66), (373, 381, 0, 100000)] F F76_ := fs_tr g68_ s78_ rfl
                    try rw [hP3_] at c75_
                    refine fl_if_ne hm_66 rfl ⟨by omega, by omega⟩ (fun h => absurd h (by omega)) (fun _ => ?_)
                    refine ga_aload_n (v := .ref 344) hm_66 rfl rfl rfl ?_
                    refine fl_iconst hm_66 rfl ?_
                    refine ga_puti (z := 3) hm_66 rfl sc_344 rfl rfl ?_
                    refine fl_iconst hm_66 rfl ?_
                    obtain ⟨F88_, q89_⟩ : ∃ Fq_, Fq_ = (fl_u F76_ 344 0 3) := ⟨_, rfl⟩
                    rw [← q89_]
                    have g90_ : gi F88_ := by rw [q89_]; exact gi_u (g77_) rfl (by omega) (by omega)
                    have g91_ : fs [(344, 344, 0, 0), (344, 344, 13, 13), (344, 344, 49, 49), (344, 344, 58, 58), (344, 344, 66, 66), (373, 381, 0, 100000)] F F88_ := by rw [q89_]; exact fs_u (g87_) rfl
                    refine gr_i (z := 0) hm_66 rfl rfl rfl ?_
                    have e92_ : F18_ 344 13 = 0 := by rw [q19_]; exact (fl_u_ne (by first | exact nc_ rfl | decide | omega)).trans (fl_u_eq)
                    have e93_ : F1 344 13 = 0 := (hf_F1 344 13 rfl).trans (e92_)
                    have e94_ : F36_ 344 13 = 0 := by rw [q37_]; exact (fl_u_ne (by first | exact nc_ rfl | decide | omega)).trans ((fl_u_ne (by first | exact nc_ rfl | decide | omega)).trans ((fl_u_ne (by first | exact nc_ rfl | decide | omega)).trans ((fl_u_ne (by first | exact nc_ rfl | decide | omega)).trans (e93_))))
                    have e95_ : F43_ 344 13 = 0 := by rw [q44_]; exact (fl_u_ne (by first | exact nc_ rfl | decide | omega)).trans (e94_)
                    have e96_ : F2 344 13 = 0 := (hf_F2 344 13 rfl).trans (e95_)
                    have e97_ : F65_ 344 13 = 0 := (s67_ 344 13 rfl).trans (e96_)
                    have e98_ : F76_ 344 13 = 0 := (s78_ 344 13 rfl).trans (e97_)
                    have e99_ : F88_ 344 13 = 0 := by rw [q89_]; exact (fl_u_ne (by first | exact nc_ rfl | decide | omega)).trans (e98_)
                    have e100_ : F18_ 344 58 = 0 := by rw [q19_]; exact fl_u_eq
                    have e101_ : F1 344 58 = 0 := (hf_F1 344 58 rfl).trans (e100_)
                    have e102_ : F36_ 344 58 = 0 := by rw [q37_]; exact (fl_u_ne (by first | exact nc_ rfl | decide | omega)).trans ((fl_u_ne (by first | exact nc_ rfl | decide | omega)).trans ((fl_u_ne (by first | exact nc_ rfl | decide | omega)).trans ((fl_u_ne (by first | exact nc_ rfl | decide | omega)).trans (e101_))))
                    have e103_ : F43_ 344 58 = 0 := by rw [q44_]; exact (fl_u_ne (by first | exact nc_ rfl | decide | omega)).trans (e102_)
                    have e104_ : F2 344 58 = 0 := (hf_F2 344 58 rfl).trans (e103_)
                    have e105_ : F65_ 344 58 = 0 := (s67_ 344 58 rfl).trans (e104_)
                    have e106_ : F76_ 344 58 = 0 := (s78_ 344 58 rfl).trans (e105_)
                    have e107_ : F88_ 344 58 = 0 := by rw [q89_]; exact (fl_u_ne (by first | exact nc_ rfl | decide | omega)).trans (e106_)
                    have e108_ : F88_ 344 0 = 3 := by rw [q89_]; exact fl_u_eq
                    have b109_ : 0 ≤ F 344 13 ∧ F 344 13 ≤ 1 := gi_g hgi rfl
                    have b110_ : 0 ≤ F 344 58 ∧ F 344 58 ≤ 200 := gi_g hgi rfl
                    exact ⟨F88_, rfl, g90_, g91_, (⟨by omega, by omega⟩), (pli_0 (by omega)), (Or.inr (Or.inr ⟨by omega, by omega, ⟨by omega, by omega⟩, by rw [show F88_ 344 0 = 3 from e108_]; exact ⟨[], Or.inr ⟨(show ¬ gR F (F 344 38) by rcases c24_ with ⟨h6_, h7_⟩ | ⟨h6_, h7_⟩; (exfalso; omega); rw [(gr_cg (F := F) (F' := F18_) ((show F18_ 344 46 = F 344 46 from (by rw [q19_]; exact (fl_u_ne (by first | exact nc_ rfl | decide | omega)).trans ((fl_u_ne (by first | exact nc_ rfl | decide | omega)).trans ((fl_u_ne (by first | exact nc_ rfl | decide | omega))))))) ((show F18_ 344 47 = F 344 47 from (by rw [q19_]; exact (fl_u_ne (by first | exact nc_ rfl | decide | omega)).trans ((fl_u_ne (by first | exact nc_ rfl | decide | omega)).trans ((fl_u_ne (by first | exact nc_ rfl | decide | omega))))))) ((show F18_ 344 48 = F 344 48 from (by rw [q19_]; exact (fl_u_ne (by first | exact nc_ rfl | decide | omega)).trans ((fl_u_ne (by first | exact nc_ rfl | decide | omega)).trans ((fl_u_ne (by first | exact nc_ rfl | decide | omega))))))))] at h7_; exact h7_), rv_crw t2_ (Or.resolve_left c53_ (fun h9_ => absurd h9_.1 (by omega))) (show gol (pR F) z52_ T = false by cases h9_ : gol (pR F) z52_ T with | false => rfl | true => exact absurd (c61_.mpr h9_) (by omega)) c75_⟩, Or.inl ⟨by omega, by omega⟩⟩⟩)), (fun h9_ j => (Eq.trans (a := F88_ 381 j) (b := F76_ 381 j) (by rw [q89_]; exact (fl_u_ne (by first | exact nc_ rfl | decide | omega))) (Eq.trans (a := F76_ 381 j) (b := F65_ 381 j) (s78_ 381 j (by first | exact fs_c rfl | exact (fs_n (by omega) (fs_n (by omega) rfl)))) (Eq.trans (a := F65_ 381 j) (b := F2 381 j) (s67_ 381 j (by first | exact fs_c rfl | exact (fs_n (by omega) (fs_n (by omega) (fs_n (by omega) rfl))))) (Eq.trans (a := F2 381 j) (b := F43_ 381 j) (hf_F2 381 j (by first | exact fs_c rfl | exact (fs_n (by omega) (fs_n (by omega) (fs_n (by omega) rfl))))) (Eq.trans (a := F43_ 381 j) (b := F36_ 381 j) (by rw [q44_]; exact (fl_u_ne (by first | exact nc_ rfl | decide | omega))) (Eq.trans (a := F36_ 381 j) (b := F1 381 j) (by rw [q37_]; exact (fl_u_ne (by first | exact nc_ rfl | decide | omega)).trans ((fl_u_ne (by first | exact nc_ rfl | decide | omega)).trans ((fl_u_ne (by first | exact nc_ rfl | decide | omega)).trans ((fl_u_ne (by first | exact nc_ rfl | decide | omega)))))) (Eq.trans (a := F1 381 j) (b := F18_ 381 j) (hf_F1 381 j (by first | exact fs_c rfl | exact (fs_n (by omega) rfl))) (show F18_ 381 j = F 381 j from (by rw [q19_]; exact (fl_u_ne (by first | exact nc_ rfl | decide | omega)).trans ((fl_u_ne (by first | exact nc_ rfl | decide | omega)).trans ((fl_u_ne (by first | exact nc_ rfl | decide | omega))))))))))))))⟩
                  subst hA_
                  subst hz_
                  have g111_ : fs [(344, 344, 0, 0), (344, 344, 13, 13), (344, 344, 49, 49), (344, 344, 58, 58), (344, 344, 66, 66), (373, 381, 0, 100000)] F F84_ := fs_tr g68_ s86_ rfl
                  try simp only [e72_] at c83_
                  try rw [hP3_] at c79_
                  try rw [hP3_] at c80_
                  try rw [hP3_] at c81_
                  try rw [hP3_] at c82_
                  try rw [hP3_] at c83_
                  refine fl_if_ne hm_66 rfl ⟨by omega, by omega⟩ (fun _ => ?_) (fun h => absurd (by omega) h)
                  have hnt_ := (Or.resolve_left c53_ (fun h9_ => absurd h9_.1 (by omega)))
                  have hng_ := (show gol (pR F) z52_ T = false by cases h9_ : gol (pR F) z52_ T with | false => rfl | true => exact absurd (c61_.mpr h9_) (by omega))
                  have hgt_ := lay_gt (most := mo.toNat) hnt_.1 hng_ c82_
                  have htl_ := c81_.1
                  refine fl_goto hm_66 rfl ?_
                  have b112_ : 0 ≤ F84_ 344 49 ∧ F84_ 344 49 ≤ 200 := gi_g g85_ rfl
                  exact fl_R_sub (lv' := [(0, .ref 344), (1, .int (Int32.ofInt mo))]) rfl rfl (ih49_ _ (by omega) F84_ rfl g85_ (fs_tr (fs_tr hf_F2 s67_ rfl) s86_ rfl) (c79_) (by omega) (⟨_, _, c81_, rv_lay t2_ hnt_ hng_ c82_, lay_ca hnt_.1 hpb_ t3_, chn_up c83_ (by omega), lav_len t5_, lay_dst t6_⟩))
                refine ga_aload_n (v := .ref 344) hm_66 rfl rfl rfl ?_
                refine fl_iconst hm_66 rfl ?_
                refine ga_putz (z := 1) hm_66 rfl sc_344 rfl rfl (by omega) ?_
                refine ga_aload_n (v := .ref 344) hm_66 rfl rfl rfl ?_
                refine ga_aload_n (v := .ref 344) hm_66 rfl rfl rfl ?_
                refine ga_getr (b := 375) hm_66 rfl sc_344 rfl ?_
                have e113_ : F65_ 344 49 = F2 344 49 := (s67_ 344 49 rfl).trans (rfl)
                have hd200 := gn_d c58_ c59_ (by omega) (by omega)
                refine fl_sipush hm_66 rfl rfl ?_
                have b114_ : 0 ≤ F65_ 375 200 ∧ F65_ 375 200 ≤ 201 := gi_g g66_ rfl
                refine ga_iald (z := 200) (w := F65_ 375 200) hm_66 rfl sc_375 (by omega) (by omega) (by omega) (fl_u_ne (by first | exact nc_ rfl | decide | omega)) ?_
                refine ga_puti (z := F65_ 375 200) hm_66 rfl sc_344 rfl rfl ?_
                refine ga_aload_n (v := .ref 344) hm_66 rfl rfl rfl ?_
                refine fl_sipush hm_66 rfl rfl ?_
                refine ga_aload_n (v := .ref 344) hm_66 rfl rfl rfl ?_
                refine ga_getr (b := 381) hm_66 rfl sc_344 rfl ?_
                obtain ⟨F115_, q116_⟩ : ∃ Fq_, Fq_ = (fl_u (fl_u F65_ 344 13 1) 344 58 (F65_ 375 200)) := ⟨_, rfl⟩
                rw [← q116_]
                have g117_ : gi F115_ := by rw [q116_]; exact gi_u (gi_u (g66_) rfl (by omega) (by omega)) rfl (by omega) (by omega)
                have g118_ : fs [(344, 344, 0, 0), (344, 344, 13, 13), (344, 344, 49, 49), (344, 344, 58, 58), (344, 344, 66, 66), (373, 381, 0, 100000)] F F115_ := by rw [q116_]; exact fs_u (fs_u (g68_) rfl) rfl
                refine gVv (nY := 5) (F := 0) (L := 0) (As := [.int (Int32.ofInt 200), .ref 381]) (b := 344) (rest := []) hm_66 rfl hm_194 rfl rfl (fl_ob sc_344) rfl rfl rfl rfl rfl (by omega) (by omega) (mc_194v hG F115_ X g117_ (381) (201) (200) (0) (39) (V) ((F2 344 49)) ((vat V (F65_ 376 200).toNat ++ [F65_ 377 200])) sc_381 (fun _ => rfl) (⟨by omega, by omega⟩) (by omega) (⟨by omega, by omega⟩) (⟨by omega, by omega⟩) ((chn_cg c64_ (fun i _ => (show F115_ 375 i = F65_ 375 i from (by rw [q116_]; exact (fl_u_ne (by first | exact nc_ rfl | decide | omega)).trans ((fl_u_ne (by first | exact nc_ rfl | decide | omega)))))) (fun i _ => (show F115_ 376 i = F65_ 376 i from (by rw [q116_]; exact (fl_u_ne (by first | exact nc_ rfl | decide | omega)).trans ((fl_u_ne (by first | exact nc_ rfl | decide | omega)))))) (fun i _ => (show F115_ 377 i = F65_ 377 i from (by rw [q116_]; exact (fl_u_ne (by first | exact nc_ rfl | decide | omega)).trans ((fl_u_ne (by first | exact nc_ rfl | decide | omega)))))))) (by unfold wyR; rw [show F115_ 376 (200 : Int).toNat = F65_ 376 200 from (show F115_ 376 200 = F65_ 376 200 from (by rw [q116_]; exact (fl_u_ne (by first | exact nc_ rfl | decide | omega)).trans ((fl_u_ne (by first | exact nc_ rfl | decide | omega))))), show F115_ 377 (200 : Int).toNat = F65_ 377 200 from (show F115_ 377 200 = F65_ 377 200 from (by rw [q116_]; exact (fl_u_ne (by first | exact nc_ rfl | decide | omega)).trans ((fl_u_ne (by first | exact nc_ rfl | decide | omega)))))]; exact Or.inr ⟨(gH_e c63_ (by omega)).2.1, rfl⟩) (by rw [show F115_ 375 (200 : Int).toNat = F65_ 375 200 from (show F115_ 375 200 = F65_ 375 200 from (by rw [q116_]; exact (fl_u_ne (by first | exact nc_ rfl | decide | omega)).trans ((fl_u_ne (by first | exact nc_ rfl | decide | omega))))), (gH_e c63_ (by omega)).2.2, List.length_append, List.length_singleton]; omega)) (fun _ _ h => False.elim h) ?_
                have e120_ : F18_ 344 39 = F 344 39 := by rw [q19_]; exact (fl_u_ne (by first | exact nc_ rfl | decide | omega)).trans ((fl_u_ne (by first | exact nc_ rfl | decide | omega)).trans (fl_u_ne (by first | exact nc_ rfl | decide | omega)))
                have e121_ : F1 344 39 = F 344 39 := (hf_F1 344 39 rfl).trans (e120_)
                have e122_ : F36_ 344 39 = F 344 39 := by rw [q37_]; exact (fl_u_ne (by first | exact nc_ rfl | decide | omega)).trans ((fl_u_ne (by first | exact nc_ rfl | decide | omega)).trans ((fl_u_ne (by first | exact nc_ rfl | decide | omega)).trans ((fl_u_ne (by first | exact nc_ rfl | decide | omega)).trans (e121_))))
                have e123_ : F43_ 344 39 = F 344 39 := by rw [q44_]; exact (fl_u_ne (by first | exact nc_ rfl | decide | omega)).trans (e122_)
                have e124_ : F2 344 39 = F 344 39 := (hf_F2 344 39 rfl).trans (e123_)
                have e125_ : F65_ 344 39 = F 344 39 := (s67_ 344 39 rfl).trans (e124_)
                have e126_ : F115_ 344 39 = F 344 39 := by rw [q116_]; exact (fl_u_ne (by first | exact nc_ rfl | decide | omega)).trans ((fl_u_ne (by first | exact nc_ rfl | decide | omega)).trans (e125_))
                have b127_ : 0 ≤ F 344 39 ∧ F 344 39 ≤ 40 := gi_g hgi rfl
                rintro A1_ ⟨F130_, hA_, g131_, s132_, c128_, c129_⟩
                subst hA_
                have g133_ : fs [(344, 344, 0, 0), (344, 344, 13, 13), (344, 344, 49, 49), (344, 344, 58, 58), (344, 344, 66, 66), (373, 381, 0, 100000)] F F130_ := fs_tr g118_ s132_ rfl
                try simp only [e126_] at c128_
                refine ga_iload_n (z := z52_) hm_66 rfl rfl ?_
                refine gr_i (z := z52_) hm_66 rfl rfl rfl ?_
                have e134_ : F115_ 344 13 = 1 := by rw [q116_]; exact (fl_u_ne (by first | exact nc_ rfl | decide | omega)).trans (fl_u_eq)
                have e135_ : F130_ 344 13 = 1 := (s132_ 344 13 rfl).trans (e134_)
                have e136_ : F115_ 344 58 = F65_ 375 200 := by rw [q116_]; exact fl_u_eq
                have e137_ : F130_ 344 58 = F65_ 375 200 := (s132_ 344 58 rfl).trans (e136_)
                have e138_ : F130_ 344 39 = F 344 39 := (s132_ 344 39 rfl).trans (e126_)
                have e139_ : F115_ 375 200 = F65_ 375 200 := by rw [q116_]; exact (fl_u_ne (by first | exact nc_ rfl | decide | omega)).trans (fl_u_ne (by first | exact nc_ rfl | decide | omega))
                have e140_ : F130_ 375 200 = F65_ 375 200 := (s132_ 375 200 rfl).trans (e139_)
                have e141_ : F18_ 344 0 = 0 := by rw [q19_]; exact (fl_u_ne (by first | exact nc_ rfl | decide | omega)).trans ((fl_u_ne (by first | exact nc_ rfl | decide | omega)).trans (fl_u_eq))
                have e142_ : F1 344 0 = 0 := (hf_F1 344 0 rfl).trans (e141_)
                have e143_ : F36_ 344 0 = 0 := by rw [q37_]; exact (fl_u_ne (by first | exact nc_ rfl | decide | omega)).trans ((fl_u_ne (by first | exact nc_ rfl | decide | omega)).trans ((fl_u_ne (by first | exact nc_ rfl | decide | omega)).trans ((fl_u_ne (by first | exact nc_ rfl | decide | omega)).trans (e142_))))
                have e144_ : F43_ 344 0 = 0 := by rw [q44_]; exact (fl_u_ne (by first | exact nc_ rfl | decide | omega)).trans (e143_)
                have e145_ : F2 344 0 = 0 := (hf_F2 344 0 rfl).trans (e144_)
                have e146_ : F65_ 344 0 = 0 := (s67_ 344 0 rfl).trans (e145_)
                have e147_ : F115_ 344 0 = 0 := by rw [q116_]; exact (fl_u_ne (by first | exact nc_ rfl | decide | omega)).trans ((fl_u_ne (by first | exact nc_ rfl | decide | omega)).trans (e146_))
                have e148_ : F130_ 344 0 = 0 := (s132_ 344 0 rfl).trans (e147_)
                have b149_ : 0 ≤ F 344 13 ∧ F 344 13 ≤ 1 := gi_g hgi rfl
                have b150_ : 0 ≤ F 344 58 ∧ F 344 58 ≤ 200 := gi_g hgi rfl
                exact ⟨F130_, rfl, g131_, g133_, (⟨by omega, by omega⟩), (pli_w (sob_cg (hpb (by omega)) (Eq.trans (a := F130_ 344 39) (b := F115_ 344 39) (s132_ 344 39 (by first | exact fs_c rfl | exact (fs_n (by omega) rfl))) (Eq.trans (a := F115_ 344 39) (b := F65_ 344 39) (by rw [q116_]; exact (fl_u_ne (by first | exact nc_ rfl | decide | omega)).trans ((fl_u_ne (by first | exact nc_ rfl | decide | omega)))) (Eq.trans (a := F65_ 344 39) (b := F2 344 39) (s67_ 344 39 (by first | exact fs_c rfl | exact (fs_n (by omega) (fs_n (by omega) (fs_n (by omega) rfl))))) (Eq.trans (a := F2 344 39) (b := F43_ 344 39) (hf_F2 344 39 (by first | exact fs_c rfl | exact (fs_n (by omega) (fs_n (by omega) (fs_n (by omega) rfl))))) (Eq.trans (a := F43_ 344 39) (b := F36_ 344 39) (by rw [q44_]; exact (fl_u_ne (by first | exact nc_ rfl | decide | omega))) (Eq.trans (a := F36_ 344 39) (b := F1 344 39) (by rw [q37_]; exact (fl_u_ne (by first | exact nc_ rfl | decide | omega)).trans ((fl_u_ne (by first | exact nc_ rfl | decide | omega)).trans ((fl_u_ne (by first | exact nc_ rfl | decide | omega)).trans ((fl_u_ne (by first | exact nc_ rfl | decide | omega)))))) (Eq.trans (a := F1 344 39) (b := F18_ 344 39) (hf_F1 344 39 (by first | exact fs_c rfl | exact (fs_n (by omega) rfl))) (show F18_ 344 39 = F 344 39 from (by rw [q19_]; exact (fl_u_ne (by first | exact nc_ rfl | decide | omega)).trans ((fl_u_ne (by first | exact nc_ rfl | decide | omega)).trans ((fl_u_ne (by first | exact nc_ rfl | decide | omega))))))))))))) (fun j => (Eq.trans (a := F130_ 357 j) (b := F115_ 357 j) (s132_ 357 j (by first | exact fs_c rfl | exact (fs_n (by omega) rfl))) (Eq.trans (a := F115_ 357 j) (b := F65_ 357 j) (by rw [q116_]; exact (fl_u_ne (by first | exact nc_ rfl | decide | omega)).trans ((fl_u_ne (by first | exact nc_ rfl | decide | omega)))) (Eq.trans (a := F65_ 357 j) (b := F2 357 j) (s67_ 357 j (by first | exact fs_c rfl | exact (fs_n (by omega) (fs_n (by omega) (fs_n (by omega) rfl))))) (Eq.trans (a := F2 357 j) (b := F43_ 357 j) (hf_F2 357 j (by first | exact fs_c rfl | exact (fs_n (by omega) (fs_n (by omega) (fs_n (by omega) rfl))))) (Eq.trans (a := F43_ 357 j) (b := F36_ 357 j) (by rw [q44_]; exact (fl_u_ne (by first | exact nc_ rfl | decide | omega))) (Eq.trans (a := F36_ 357 j) (b := F1 357 j) (by rw [q37_]; exact (fl_u_ne (by first | exact nc_ rfl | decide | omega)).trans ((fl_u_ne (by first | exact nc_ rfl | decide | omega)).trans ((fl_u_ne (by first | exact nc_ rfl | decide | omega)).trans ((fl_u_ne (by first | exact nc_ rfl | decide | omega)))))) (Eq.trans (a := F1 357 j) (b := F18_ 357 j) (hf_F1 357 j (by first | exact fs_c rfl | exact (fs_n (by omega) rfl))) (show F18_ 357 j = F 357 j from (by rw [q19_]; exact (fl_u_ne (by first | exact nc_ rfl | decide | omega)).trans ((fl_u_ne (by first | exact nc_ rfl | decide | omega)).trans ((fl_u_ne (by first | exact nc_ rfl | decide | omega)))))))))))))) (fun j => (Eq.trans (a := F130_ 367 j) (b := F115_ 367 j) (s132_ 367 j (by first | exact fs_c rfl | exact (fs_n (by omega) rfl))) (Eq.trans (a := F115_ 367 j) (b := F65_ 367 j) (by rw [q116_]; exact (fl_u_ne (by first | exact nc_ rfl | decide | omega)).trans ((fl_u_ne (by first | exact nc_ rfl | decide | omega)))) (Eq.trans (a := F65_ 367 j) (b := F2 367 j) (s67_ 367 j (by first | exact fs_c rfl | exact (fs_n (by omega) (fs_n (by omega) (fs_n (by omega) rfl))))) (Eq.trans (a := F2 367 j) (b := F43_ 367 j) (hf_F2 367 j (by first | exact fs_c rfl | exact (fs_n (by omega) (fs_n (by omega) (fs_n (by omega) rfl))))) (Eq.trans (a := F43_ 367 j) (b := F36_ 367 j) (by rw [q44_]; exact (fl_u_ne (by first | exact nc_ rfl | decide | omega))) (Eq.trans (a := F36_ 367 j) (b := F1 367 j) (by rw [q37_]; exact (fl_u_ne (by first | exact nc_ rfl | decide | omega)).trans ((fl_u_ne (by first | exact nc_ rfl | decide | omega)).trans ((fl_u_ne (by first | exact nc_ rfl | decide | omega)).trans ((fl_u_ne (by first | exact nc_ rfl | decide | omega)))))) (Eq.trans (a := F1 367 j) (b := F18_ 367 j) (hf_F1 367 j (by first | exact fs_c rfl | exact (fs_n (by omega) rfl))) (show F18_ 367 j = F 367 j from (by rw [q19_]; exact (fl_u_ne (by first | exact nc_ rfl | decide | omega)).trans ((fl_u_ne (by first | exact nc_ rfl | decide | omega)).trans ((fl_u_ne (by first | exact nc_ rfl | decide | omega)))))))))))))) (fun j => (Eq.trans (a := F130_ 354 j) (b := F115_ 354 j) (s132_ 354 j (by first | exact fs_c rfl | exact (fs_n (by omega) rfl))) (Eq.trans (a := F115_ 354 j) (b := F65_ 354 j) (by rw [q116_]; exact (fl_u_ne (by first | exact nc_ rfl | decide | omega)).trans ((fl_u_ne (by first | exact nc_ rfl | decide | omega)))) (Eq.trans (a := F65_ 354 j) (b := F2 354 j) (s67_ 354 j (by first | exact fs_c rfl | exact (fs_n (by omega) (fs_n (by omega) (fs_n (by omega) rfl))))) (Eq.trans (a := F2 354 j) (b := F43_ 354 j) (hf_F2 354 j (by first | exact fs_c rfl | exact (fs_n (by omega) (fs_n (by omega) (fs_n (by omega) rfl))))) (Eq.trans (a := F43_ 354 j) (b := F36_ 354 j) (by rw [q44_]; exact (fl_u_ne (by first | exact nc_ rfl | decide | omega))) (Eq.trans (a := F36_ 354 j) (b := F1 354 j) (by rw [q37_]; exact (fl_u_ne (by first | exact nc_ rfl | decide | omega)).trans ((fl_u_ne (by first | exact nc_ rfl | decide | omega)).trans ((fl_u_ne (by first | exact nc_ rfl | decide | omega)).trans ((fl_u_ne (by first | exact nc_ rfl | decide | omega)))))) (Eq.trans (a := F1 354 j) (b := F18_ 354 j) (hf_F1 354 j (by first | exact fs_c rfl | exact (fs_n (by omega) rfl))) (show F18_ 354 j = F 354 j from (by rw [q19_]; exact (fl_u_ne (by first | exact nc_ rfl | decide | omega)).trans ((fl_u_ne (by first | exact nc_ rfl | decide | omega)).trans ((fl_u_ne (by first | exact nc_ rfl | decide | omega)))))))))))))) (fun j => (Eq.trans (a := F130_ 368 j) (b := F115_ 368 j) (s132_ 368 j (by first | exact fs_c rfl | exact (fs_n (by omega) rfl))) (Eq.trans (a := F115_ 368 j) (b := F65_ 368 j) (by rw [q116_]; exact (fl_u_ne (by first | exact nc_ rfl | decide | omega)).trans ((fl_u_ne (by first | exact nc_ rfl | decide | omega)))) (Eq.trans (a := F65_ 368 j) (b := F2 368 j) (s67_ 368 j (by first | exact fs_c rfl | exact (fs_n (by omega) (fs_n (by omega) (fs_n (by omega) rfl))))) (Eq.trans (a := F2 368 j) (b := F43_ 368 j) (hf_F2 368 j (by first | exact fs_c rfl | exact (fs_n (by omega) (fs_n (by omega) (fs_n (by omega) rfl))))) (Eq.trans (a := F43_ 368 j) (b := F36_ 368 j) (by rw [q44_]; exact (fl_u_ne (by first | exact nc_ rfl | decide | omega))) (Eq.trans (a := F36_ 368 j) (b := F1 368 j) (by rw [q37_]; exact (fl_u_ne (by first | exact nc_ rfl | decide | omega)).trans ((fl_u_ne (by first | exact nc_ rfl | decide | omega)).trans ((fl_u_ne (by first | exact nc_ rfl | decide | omega)).trans ((fl_u_ne (by first | exact nc_ rfl | decide | omega)))))) (Eq.trans (a := F1 368 j) (b := F18_ 368 j) (hf_F1 368 j (by first | exact fs_c rfl | exact (fs_n (by omega) rfl))) (show F18_ 368 j = F 368 j from (by rw [q19_]; exact (fl_u_ne (by first | exact nc_ rfl | decide | omega)).trans ((fl_u_ne (by first | exact nc_ rfl | decide | omega)).trans ((fl_u_ne (by first | exact nc_ rfl | decide | omega))))))))))))))) g131_ (fun j hj => by have h9_ := c128_ (wkc_g (F1 := F65_) c58_ c59_ (by omega) (show F115_ 344 49 = F65_ 344 49 from (by rw [q116_]; exact (fl_u_ne (by first | exact nc_ rfl | decide | omega)).trans ((fl_u_ne (by first | exact nc_ rfl | decide | omega))))) (show F115_ 344 39 = F65_ 344 39 from (by rw [q116_]; exact (fl_u_ne (by first | exact nc_ rfl | decide | omega)).trans ((fl_u_ne (by first | exact nc_ rfl | decide | omega))))) (fun j => (show F115_ 375 j = F65_ 375 j from (by rw [q116_]; exact (fl_u_ne (by first | exact nc_ rfl | decide | omega)).trans ((fl_u_ne (by first | exact nc_ rfl | decide | omega)))))) (fun j => (show F115_ 376 j = F65_ 376 j from (by rw [q116_]; exact (fl_u_ne (by first | exact nc_ rfl | decide | omega)).trans ((fl_u_ne (by first | exact nc_ rfl | decide | omega)))))) (fun j => (show F115_ 377 j = F65_ 377 j from (by rw [q116_]; exact (fl_u_ne (by first | exact nc_ rfl | decide | omega)).trans ((fl_u_ne (by first | exact nc_ rfl | decide | omega))))))) j (by rw [show (200 : Int).toNat = 200 from rfl]; omega); omega)), (Or.inr (Or.inr ⟨by omega, by omega, ⟨by omega, by omega⟩, by rw [show F130_ 344 0 = 0 from e148_]; exact ⟨_, Or.inr ⟨(show ¬ gR F (F 344 38) by rcases c24_ with ⟨h6_, h7_⟩ | ⟨h6_, h7_⟩; (exfalso; omega); rw [(gr_cg (F := F) (F' := F18_) ((show F18_ 344 46 = F 344 46 from (by rw [q19_]; exact (fl_u_ne (by first | exact nc_ rfl | decide | omega)).trans ((fl_u_ne (by first | exact nc_ rfl | decide | omega)).trans ((fl_u_ne (by first | exact nc_ rfl | decide | omega))))))) ((show F18_ 344 47 = F 344 47 from (by rw [q19_]; exact (fl_u_ne (by first | exact nc_ rfl | decide | omega)).trans ((fl_u_ne (by first | exact nc_ rfl | decide | omega)).trans ((fl_u_ne (by first | exact nc_ rfl | decide | omega))))))) ((show F18_ 344 48 = F 344 48 from (by rw [q19_]; exact (fl_u_ne (by first | exact nc_ rfl | decide | omega)).trans ((fl_u_ne (by first | exact nc_ rfl | decide | omega)).trans ((fl_u_ne (by first | exact nc_ rfl | decide | omega))))))))] at h7_; exact h7_), rv_gol t2_ (Or.resolve_left c53_ (fun h9_ => absurd h9_.1 (by omega))) (c61_.mp (by omega)) (gH_e c63_ (by omega)).1⟩, Or.inr ⟨rfl, by have h9_ := nxt_no hpb_ t3_ (Or.resolve_left c53_ (fun h9_ => absurd h9_.1 (by omega))); omega, by omega, by rw [List.length_append, List.length_singleton]; have h9_ := (gH_e c63_ (by omega)).2.2; omega, c129_⟩⟩⟩)), (fun h9_ => absurd h9_ (by omega))⟩
              refine fl_iconst hm_66 rfl ?_
              refine gr_i (z := -1) hm_66 rfl rfl rfl ?_
              have e151_ : F18_ 344 13 = 0 := by rw [q19_]; exact (fl_u_ne (by first | exact nc_ rfl | decide | omega)).trans (fl_u_eq)
              have e152_ : F1 344 13 = 0 := (hf_F1 344 13 rfl).trans (e151_)
              have e153_ : F36_ 344 13 = 0 := by rw [q37_]; exact (fl_u_ne (by first | exact nc_ rfl | decide | omega)).trans ((fl_u_ne (by first | exact nc_ rfl | decide | omega)).trans ((fl_u_ne (by first | exact nc_ rfl | decide | omega)).trans ((fl_u_ne (by first | exact nc_ rfl | decide | omega)).trans (e152_))))
              have e154_ : F43_ 344 13 = 0 := by rw [q44_]; exact (fl_u_ne (by first | exact nc_ rfl | decide | omega)).trans (e153_)
              have e155_ : F2 344 13 = 0 := (hf_F2 344 13 rfl).trans (e154_)
              have e156_ : F18_ 344 58 = 0 := by rw [q19_]; exact fl_u_eq
              have e157_ : F1 344 58 = 0 := (hf_F1 344 58 rfl).trans (e156_)
              have e158_ : F36_ 344 58 = 0 := by rw [q37_]; exact (fl_u_ne (by first | exact nc_ rfl | decide | omega)).trans ((fl_u_ne (by first | exact nc_ rfl | decide | omega)).trans ((fl_u_ne (by first | exact nc_ rfl | decide | omega)).trans ((fl_u_ne (by first | exact nc_ rfl | decide | omega)).trans (e157_))))
              have e159_ : F43_ 344 58 = 0 := by rw [q44_]; exact (fl_u_ne (by first | exact nc_ rfl | decide | omega)).trans (e158_)
              have e160_ : F2 344 58 = 0 := (hf_F2 344 58 rfl).trans (e159_)
              have e161_ : F18_ 344 0 = 0 := by rw [q19_]; exact (fl_u_ne (by first | exact nc_ rfl | decide | omega)).trans ((fl_u_ne (by first | exact nc_ rfl | decide | omega)).trans (fl_u_eq))
              have e162_ : F1 344 0 = 0 := (hf_F1 344 0 rfl).trans (e161_)
              have e163_ : F36_ 344 0 = 0 := by rw [q37_]; exact (fl_u_ne (by first | exact nc_ rfl | decide | omega)).trans ((fl_u_ne (by first | exact nc_ rfl | decide | omega)).trans ((fl_u_ne (by first | exact nc_ rfl | decide | omega)).trans ((fl_u_ne (by first | exact nc_ rfl | decide | omega)).trans (e162_))))
              have e164_ : F43_ 344 0 = 0 := by rw [q44_]; exact (fl_u_ne (by first | exact nc_ rfl | decide | omega)).trans (e163_)
              have e165_ : F2 344 0 = 0 := (hf_F2 344 0 rfl).trans (e164_)
              have b166_ : 0 ≤ F 344 13 ∧ F 344 13 ≤ 1 := gi_g hgi rfl
              have b167_ : 0 ≤ F 344 58 ∧ F 344 58 ≤ 200 := gi_g hgi rfl
              exact ⟨F2, rfl, hg_F2, g51_, (⟨by omega, by omega⟩), (pli_0 (by omega)), (Or.inr (Or.inr ⟨by omega, by omega, ⟨by omega, by omega⟩, by rw [show F2 344 0 = 0 from e165_]; exact ⟨[], Or.inr ⟨(show ¬ gR F (F 344 38) by rcases c24_ with ⟨h6_, h7_⟩ | ⟨h6_, h7_⟩; (exfalso; omega); rw [(gr_cg (F := F) (F' := F18_) ((show F18_ 344 46 = F 344 46 from (by rw [q19_]; exact (fl_u_ne (by first | exact nc_ rfl | decide | omega)).trans ((fl_u_ne (by first | exact nc_ rfl | decide | omega)).trans ((fl_u_ne (by first | exact nc_ rfl | decide | omega))))))) ((show F18_ 344 47 = F 344 47 from (by rw [q19_]; exact (fl_u_ne (by first | exact nc_ rfl | decide | omega)).trans ((fl_u_ne (by first | exact nc_ rfl | decide | omega)).trans ((fl_u_ne (by first | exact nc_ rfl | decide | omega))))))) ((show F18_ 344 48 = F 344 48 from (by rw [q19_]; exact (fl_u_ne (by first | exact nc_ rfl | decide | omega)).trans ((fl_u_ne (by first | exact nc_ rfl | decide | omega)).trans ((fl_u_ne (by first | exact nc_ rfl | decide | omega))))))))] at h7_; exact h7_), rv_none t2_ (by rcases c53_ with h9_ | h9_; exact h9_.2; have h8_ := nxt_no hpb_ t3_ h9_; exfalso; omega)⟩, Or.inl ⟨by omega, by omega⟩⟩⟩)), (fun h9_ j => (Eq.trans (a := F2 381 j) (b := F43_ 381 j) (hf_F2 381 j (by first | exact fs_c rfl | exact (fs_n (by omega) (fs_n (by omega) (fs_n (by omega) rfl))))) (Eq.trans (a := F43_ 381 j) (b := F36_ 381 j) (by rw [q44_]; exact (fl_u_ne (by first | exact nc_ rfl | decide | omega))) (Eq.trans (a := F36_ 381 j) (b := F1 381 j) (by rw [q37_]; exact (fl_u_ne (by first | exact nc_ rfl | decide | omega)).trans ((fl_u_ne (by first | exact nc_ rfl | decide | omega)).trans ((fl_u_ne (by first | exact nc_ rfl | decide | omega)).trans ((fl_u_ne (by first | exact nc_ rfl | decide | omega)))))) (Eq.trans (a := F1 381 j) (b := F18_ 381 j) (hf_F1 381 j (by first | exact fs_c rfl | exact (fs_n (by omega) rfl))) (show F18_ 381 j = F 381 j from (by rw [q19_]; exact (fl_u_ne (by first | exact nc_ rfl | decide | omega)).trans ((fl_u_ne (by first | exact nc_ rfl | decide | omega)).trans ((fl_u_ne (by first | exact nc_ rfl | decide | omega)))))))))))⟩
            have e168_ : F36_ 344 49 = 1 := by rw [q37_]; exact (fl_u_ne (by first | exact nc_ rfl | decide | omega)).trans ((fl_u_ne (by first | exact nc_ rfl | decide | omega)).trans ((fl_u_ne (by first | exact nc_ rfl | decide | omega)).trans (fl_u_eq)))
            have e169_ : F43_ 344 49 = 1 := by rw [q44_]; exact (fl_u_ne (by first | exact nc_ rfl | decide | omega)).trans (e168_)
            have e170_ : F36_ 375 0 = 0 := by rw [q37_]; exact fl_u_eq
            have e171_ : F43_ 375 0 = 0 := by rw [q44_]; exact (fl_u_ne (by first | exact nc_ rfl | decide | omega)).trans (e170_)
            have e172_ : F43_ 378 z40_.toNat = 1 := by rw [q44_]; exact fl_u_eq
            have e173_ : F36_ 373 0 = F 344 38 := by rw [q37_]; exact (fl_u_ne (by first | exact nc_ rfl | decide | omega)).trans ((fl_u_ne (by first | exact nc_ rfl | decide | omega)).trans (fl_u_eq))
            have e174_ : F43_ 373 0 = F 344 38 := by rw [q44_]; exact (fl_u_ne (by first | exact nc_ rfl | decide | omega)).trans (e173_)
            have e175_ : F36_ 374 0 = 0 := by rw [q37_]; exact (fl_u_ne (by first | exact nc_ rfl | decide | omega)).trans (fl_u_eq)
            have e176_ : F43_ 374 0 = 0 := by rw [q44_]; exact (fl_u_ne (by first | exact nc_ rfl | decide | omega)).trans (e175_)
            exact fl_R_sub (lv' := [(0, .ref 344), (1, .int (Int32.ofInt mo))]) rfl rfl (L48_ _ F43_ rfl g45_ fs_refl (gs_0 (k := z40_) (F1 := F1) (fun j hj => hz1 j (by omega)) (e169_) (e171_) (fun j hj => (Eq.trans (a := F43_ 378 j) (b := F36_ 378 j) (by rw [q44_]; exact (fl_u_ne (by first | exact nc_ rfl | decide | omega))) (show F36_ 378 j = F1 378 j from (by rw [q37_]; exact (fl_u_ne (by first | exact nc_ rfl | decide | omega)).trans ((fl_u_ne (by first | exact nc_ rfl | decide | omega)).trans ((fl_u_ne (by first | exact nc_ rfl | decide | omega)).trans ((fl_u_ne (by first | exact nc_ rfl | decide | omega))))))))) (e172_)) (by omega) (⟨[(F 344 38, 0)], [[]], tr_0 (B := F36_) (z := z40_) (fun j hj => Eq.trans ((show F36_ 378 j = F1 378 j from (by rw [q37_]; exact (fl_u_ne (by first | exact nc_ rfl | decide | omega)).trans ((fl_u_ne (by first | exact nc_ rfl | decide | omega)).trans ((fl_u_ne (by first | exact nc_ rfl | decide | omega)).trans ((fl_u_ne (by first | exact nc_ rfl | decide | omega)))))))) (hz1 j (by omega))) (c42_) (e169_) (e174_) (e176_) (e172_) (fun j hj => (show F43_ 378 j = F36_ 378 j from (by rw [q44_]; exact (fl_u_ne (by first | exact nc_ rfl | decide | omega))))), cmv_r, fun i hi => by rw [List.length_singleton] at hi; rw [show i = 0 by omega]; exact ⟨Int.le_refl _, Int.le_refl _⟩, chn_0 (e171_), rfl, dst_1⟩))
          refine ga_aload_n (v := .ref 344) hm_66 rfl rfl rfl ?_
          refine ga_getr (b := 378) hm_66 rfl sc_344 rfl ?_
          refine ga_iload_n (z := k) hm_66 rfl rfl ?_
          refine fl_iconst hm_66 rfl ?_
          refine fl_iast (z := k) (v := 0) hm_66 rfl sc_378 (by omega) (by omega) (by omega) ?_
          refine ga_inc (a := k) (c := k + 1) (lv2 := [(2, .int (Int32.ofInt (k + 1))), (0, .ref 344), (1, .int (Int32.ofInt mo))]) hm_66 rfl rfl (Nat.le_of_ble_eq_true rfl) rfl rfl ?_
          refine fl_goto hm_66 rfl ?_
          obtain ⟨F177_, q178_⟩ : ∃ Fq_, Fq_ = (fl_u F1 378 k.toNat 0) := ⟨_, rfl⟩
          rw [← q178_]
          have g179_ : gi F177_ := by rw [q178_]; exact gi_u (hg_F1) rfl (by omega) (by omega)
          have g180_ : fs [(344, 344, 0, 0), (344, 344, 13, 13), (344, 344, 49, 49), (344, 344, 58, 58), (344, 344, 66, 66), (373, 381, 0, 100000)] F F177_ := by rw [q178_]; exact fs_u (g31_) (fs_z (fs_z (fs_z (fs_z (fs_z (fs_y (by omega)))))))
          exact ih29_ _ (by omega) (k + 1) F177_ rfl g179_ (by rw [q178_]; exact fs_u (hf_F1) (fs_y (by omega))) (⟨by omega, by omega⟩) (by rw [q178_]; exact z0_w hz1 (by omega))
        exact L28_ _ (0) F18_ rfl g20_ fs_refl (⟨by omega, by omega⟩) (fun j hj => absurd hj (by omega))
      refine ga_aload_n (v := .ref 344) hm_66 rfl rfl rfl ?_
      refine fl_iconst hm_66 rfl ?_
      refine ga_putz (z := 1) hm_66 rfl sc_344 rfl rfl (by omega) ?_
      refine fl_iconst hm_66 rfl ?_
      obtain ⟨F181_, q182_⟩ : ∃ Fq_, Fq_ = (fl_u F18_ 344 13 1) := ⟨_, rfl⟩
      rw [← q182_]
      have g183_ : gi F181_ := by rw [q182_]; exact gi_u (g20_) rfl (by omega) (by omega)
      have g184_ : fs [(344, 344, 0, 0), (344, 344, 13, 13), (344, 344, 49, 49), (344, 344, 58, 58), (344, 344, 66, 66), (373, 381, 0, 100000)] F F181_ := by rw [q182_]; exact fs_u (g21_) rfl
      refine gr_i (z := 0) hm_66 rfl rfl rfl ?_
      have e185_ : F181_ 344 13 = 1 := by rw [q182_]; exact fl_u_eq
      have e186_ : F18_ 344 58 = 0 := by rw [q19_]; exact fl_u_eq
      have e187_ : F181_ 344 58 = 0 := by rw [q182_]; exact (fl_u_ne (by first | exact nc_ rfl | decide | omega)).trans (e186_)
      have e188_ : F18_ 344 0 = 0 := by rw [q19_]; exact (fl_u_ne (by first | exact nc_ rfl | decide | omega)).trans ((fl_u_ne (by first | exact nc_ rfl | decide | omega)).trans (fl_u_eq))
      have e189_ : F181_ 344 0 = 0 := by rw [q182_]; exact (fl_u_ne (by first | exact nc_ rfl | decide | omega)).trans (e188_)
      have b190_ : 0 ≤ F 344 13 ∧ F 344 13 ≤ 1 := gi_g hgi rfl
      have b191_ : 0 ≤ F 344 58 ∧ F 344 58 ≤ 200 := gi_g hgi rfl
      exact ⟨F181_, rfl, g183_, g184_, (⟨by omega, by omega⟩), (pli_n (by omega)), (Or.inr (Or.inr ⟨by omega, by omega, ⟨by omega, by omega⟩, by rw [show F181_ 344 0 = 0 from e189_]; exact ⟨[], Or.inl ⟨(show gR F (F 344 38) by rcases c24_ with ⟨h6_, h7_⟩ | ⟨h6_, h7_⟩; (rw [(gr_cg (F := F) (F' := F18_) ((show F18_ 344 46 = F 344 46 from (by rw [q19_]; exact (fl_u_ne (by first | exact nc_ rfl | decide | omega)).trans ((fl_u_ne (by first | exact nc_ rfl | decide | omega)).trans ((fl_u_ne (by first | exact nc_ rfl | decide | omega))))))) ((show F18_ 344 47 = F 344 47 from (by rw [q19_]; exact (fl_u_ne (by first | exact nc_ rfl | decide | omega)).trans ((fl_u_ne (by first | exact nc_ rfl | decide | omega)).trans ((fl_u_ne (by first | exact nc_ rfl | decide | omega))))))) ((show F18_ 344 48 = F 344 48 from (by rw [q19_]; exact (fl_u_ne (by first | exact nc_ rfl | decide | omega)).trans ((fl_u_ne (by first | exact nc_ rfl | decide | omega)).trans ((fl_u_ne (by first | exact nc_ rfl | decide | omega))))))))] at h7_; exact h7_); (exfalso; omega)), rfl, rfl, rfl⟩, Or.inr ⟨rfl, by omega, by omega, Eq.trans (e187_) rfl, fun j hj => absurd hj (by simp)⟩⟩⟩)), (fun h9_ j => (Eq.trans (a := F181_ 381 j) (b := F18_ 381 j) (by rw [q182_]; exact (fl_u_ne (by first | exact nc_ rfl | decide | omega))) (show F18_ 381 j = F 381 j from (by rw [q19_]; exact (fl_u_ne (by first | exact nc_ rfl | decide | omega)).trans ((fl_u_ne (by first | exact nc_ rfl | decide | omega)).trans ((fl_u_ne (by first | exact nc_ rfl | decide | omega))))))))⟩
    refine fl_iconst hm_66 rfl ?_
    refine fl_goto hm_66 rfl ?_
    refine ga_puti (z := 2) hm_66 rfl sc_344 rfl rfl ?_
    refine ga_aload_n (v := .ref 344) hm_66 rfl rfl rfl ?_
    refine ga_geti (z := 2) hm_66 rfl sc_344 rfl (fl_u_eq) ?_
    refine fl_if_le hm_66 rfl ⟨by omega, by omega⟩ (fun h => absurd h (by omega)) (fun _ => ?_)
    refine fl_iconst hm_66 rfl ?_
    obtain ⟨F192_, q193_⟩ : ∃ Fq_, Fq_ = (fl_u F 344 0 2) := ⟨_, rfl⟩
    rw [← q193_]
    have g194_ : gi F192_ := by rw [q193_]; exact gi_u (hgi) rfl (by omega) (by omega)
    have g195_ : fs [(344, 344, 0, 0), (344, 344, 13, 13), (344, 344, 49, 49), (344, 344, 58, 58), (344, 344, 66, 66), (373, 381, 0, 100000)] F F192_ := by rw [q193_]; exact fs_u (fs_refl) rfl
    refine gr_i (z := 0) hm_66 rfl rfl rfl ?_
    have e196_ : F192_ 344 13 = F 344 13 := by rw [q193_]; exact fl_u_ne (by first | exact nc_ rfl | decide | omega)
    have e197_ : F192_ 344 58 = F 344 58 := by rw [q193_]; exact fl_u_ne (by first | exact nc_ rfl | decide | omega)
    have e198_ : F192_ 344 0 = 2 := by rw [q193_]; exact fl_u_eq
    have b199_ : 0 ≤ F 344 13 ∧ F 344 13 ≤ 1 := gi_g hgi rfl
    have b200_ : 0 ≤ F 344 58 ∧ F 344 58 ≤ 200 := gi_g hgi rfl
    exact ⟨F192_, rfl, g194_, g195_, (⟨by omega, by omega⟩), (pli_cg hpl (show F192_ 344 13 = F 344 13 from (by rw [q193_]; exact (fl_u_ne (by first | exact nc_ rfl | decide | omega)))) (show F192_ 344 58 = F 344 58 from (by rw [q193_]; exact (fl_u_ne (by first | exact nc_ rfl | decide | omega)))) (fun j => (show F192_ 354 j = F 354 j from (by rw [q193_]; exact (fl_u_ne (by first | exact nc_ rfl | decide | omega))))) (fun j => (show F192_ 367 j = F 367 j from (by rw [q193_]; exact (fl_u_ne (by first | exact nc_ rfl | decide | omega))))) (fun j => (show F192_ 368 j = F 368 j from (by rw [q193_]; exact (fl_u_ne (by first | exact nc_ rfl | decide | omega))))) (fun j => (show F192_ 381 j = F 381 j from (by rw [q193_]; exact (fl_u_ne (by first | exact nc_ rfl | decide | omega)))))), (Or.inr (Or.inl ⟨by omega, by omega, by omega, (show F192_ 344 13 = F 344 13 from (by rw [q193_]; exact (fl_u_ne (by first | exact nc_ rfl | decide | omega)))), (show F192_ 344 58 = F 344 58 from (by rw [q193_]; exact (fl_u_ne (by first | exact nc_ rfl | decide | omega))))⟩)), (fun h9_ j => (show F192_ 381 j = F 381 j from (by rw [q193_]; exact (fl_u_ne (by first | exact nc_ rfl | decide | omega)))))⟩
  refine fl_iconst hm_66 rfl ?_
  refine fl_goto hm_66 rfl ?_
  refine ga_puti (z := 1) hm_66 rfl sc_344 rfl rfl ?_
  refine ga_aload_n (v := .ref 344) hm_66 rfl rfl rfl ?_
  refine ga_geti (z := 1) hm_66 rfl sc_344 rfl (fl_u_eq) ?_
  refine fl_if_le hm_66 rfl ⟨by omega, by omega⟩ (fun h => absurd h (by omega)) (fun _ => ?_)
  refine fl_iconst hm_66 rfl ?_
  obtain ⟨F201_, q202_⟩ : ∃ Fq_, Fq_ = (fl_u F 344 0 1) := ⟨_, rfl⟩
  rw [← q202_]
  have g203_ : gi F201_ := by rw [q202_]; exact gi_u (hgi) rfl (by omega) (by omega)
  have g204_ : fs [(344, 344, 0, 0), (344, 344, 13, 13), (344, 344, 49, 49), (344, 344, 58, 58), (344, 344, 66, 66), (373, 381, 0, 100000)] F F201_ := by rw [q202_]; exact fs_u (fs_refl) rfl
  refine gr_i (z := 0) hm_66 rfl rfl rfl ?_
  have e205_ : F201_ 344 13 = F 344 13 := by rw [q202_]; exact fl_u_ne (by first | exact nc_ rfl | decide | omega)
  have e206_ : F201_ 344 58 = F 344 58 := by rw [q202_]; exact fl_u_ne (by first | exact nc_ rfl | decide | omega)
  have e207_ : F201_ 344 0 = 1 := by rw [q202_]; exact fl_u_eq
  have b208_ : 0 ≤ F 344 13 ∧ F 344 13 ≤ 1 := gi_g hgi rfl
  have b209_ : 0 ≤ F 344 58 ∧ F 344 58 ≤ 200 := gi_g hgi rfl
  exact ⟨F201_, rfl, g203_, g204_, (⟨by omega, by omega⟩), (pli_cg hpl (show F201_ 344 13 = F 344 13 from (by rw [q202_]; exact (fl_u_ne (by first | exact nc_ rfl | decide | omega)))) (show F201_ 344 58 = F 344 58 from (by rw [q202_]; exact (fl_u_ne (by first | exact nc_ rfl | decide | omega)))) (fun j => (show F201_ 354 j = F 354 j from (by rw [q202_]; exact (fl_u_ne (by first | exact nc_ rfl | decide | omega))))) (fun j => (show F201_ 367 j = F 367 j from (by rw [q202_]; exact (fl_u_ne (by first | exact nc_ rfl | decide | omega))))) (fun j => (show F201_ 368 j = F 368 j from (by rw [q202_]; exact (fl_u_ne (by first | exact nc_ rfl | decide | omega))))) (fun j => (show F201_ 381 j = F 381 j from (by rw [q202_]; exact (fl_u_ne (by first | exact nc_ rfl | decide | omega)))))), (Or.inl ⟨by omega, by omega, (show F201_ 344 13 = F 344 13 from (by rw [q202_]; exact (fl_u_ne (by first | exact nc_ rfl | decide | omega)))), (show F201_ 344 58 = F 344 58 from (by rw [q202_]; exact (fl_u_ne (by first | exact nc_ rfl | decide | omega))))⟩), (fun h9_ j => (show F201_ 381 j = F 381 j from (by rw [q202_]; exact (fl_u_ne (by first | exact nc_ rfl | decide | omega)))))⟩
/- CheapPlanner.plan -/
abbrev pq_5v (G : Nat → Nat → Option Nat) (F : fl_N) (X : xi_H) (mo : Int) (pa : Nat → Int) : Outcome → xi_H → Prop := gqi (fun z A => ∃ F' : fl_N, fl_H sh_T G F' ++ X = A ∧ gi F' ∧ fs [(0, 0, 12, 12), (331, 331, 8, 12), (332, 339, 0, 100000), (343, 343, 0, 100000)] F F' ∧ (-2147483648 ≤ z ∧ z ≤ 2147483647) ∧ (fnd F') ∧ (F 0 8 = 1 ∧ (1 ≤ mo ∧ mo ≤ 200) ∧ ∃ w, plF F mo 0 z w ∧ plL F' 0 z w)) (fun j A => ∃ (F' : fl_N) (ci : Nat), (ci = 15 ∨ ci = 14 ∨ ci = 16) ∧ (387 + X.length = j ∧ fl_H sh_T G F' ++ (X ++ [gx ci]) = A) ∧ gi F' ∧ fs [(0, 0, 12, 12), (331, 331, 8, 12), (332, 339, 0, 100000), (343, 343, 0, 100000)] F F' ∧ (fnd F') ∧ ((ci = 15 ∧ F 0 8 = 0 ∧ F' 331 11 = F 331 11 ∧ F' 335 200 = F 335 200 ∧ ∀ j, F' 339 j = F 339 j) ∨ (ci = 14 ∧ F 0 8 = 1 ∧ ¬ (1 ≤ mo ∧ mo ≤ 200) ∧ F' 331 11 = F 331 11 ∧ F' 335 200 = F 335 200 ∧ ∀ j, F' 339 j = F 339 j) ∨ (ci = 16 ∧ F 0 8 = 1 ∧ (1 ≤ mo ∧ mo ≤ 200) ∧ plF F mo 3 0 [] ∧ plL F' 3 0 [])))
theorem mc_5v {G : Nat → Nat → Option Nat} (hG : gg G) (F : fl_N) (X : xi_H) (hgi : gi F) (mo : Int) (pa : Nat → Int) (hfd : fnd F) (hmo : -2147483648 ≤ mo ∧ mo ≤ 2147483647) (hpa : F 0 8 = 1 → ∀ s : Nat, (s : Int) < F 120 3 → 1 ≤ F (126 + 5 * s) 2 ∧ ∃ a, a < 5 ∧ F (126 + 5 * s) 2 = pa a) : fl_M xi_ms 5 7 145 [.ref 0, .int (Int32.ofInt mo)] (fl_H sh_T G F ++ X) (pq_5v G F X mo pa) := by
  intro fr lo hfr hlo
  show fl_R xi_ms 5 fr lo 0 [(0, .ref 0), (1, .int (Int32.ofInt mo))] [] _ _
  have hb123 : 0 ≤ F 120 3 ∧ F 120 3 ≤ 41 := gi_g hgi rfl
  have hb08 : 0 ≤ F 0 8 ∧ F 0 8 ≤ 1 := gi_g hgi rfl
  refine ga_aload_n (v := .ref 0) hm_5 rfl rfl rfl ?_
  refine gIv (nY := 1) (F := 6) (L := 100) (As := []) (b := 0) (rest := []) hm_5 rfl hm_13 rfl rfl (fl_ob sc_0) rfl rfl rfl rfl rfl (by omega) (by omega) ?_
  intro f1_ l2_ h3_ h4_
  show fl_R xi_ms 13 f1_ l2_ 0 [(0, .ref 0)] [] _ _
  refine ga_aload_n (v := .ref 0) hm_13 rfl rfl rfl ?_
  have b5_ : 0 ≤ F 0 8 ∧ F 0 8 ≤ 1 := gi_g hgi rfl
  refine ga_geti (z := F 0 8) hm_13 rfl sc_0 rfl (rfl) ?_
  refine fx_if_ne (a := F 0 8) hm_13 rfl ⟨by omega, by omega⟩ (fun h6_ => ?_) (fun h7_ => ?_)
  ·
    refine gr_v hm_13 rfl rfl ?_
    clear h3_ h4_ f1_ l2_
    refine ga_iload_n (z := mo) hm_5 rfl rfl ?_
    refine fl_iconst hm_5 rfl ?_
    refine fl_icmp_lt (a := mo) (b := 1) hm_5 rfl ⟨by omega, by omega⟩ ⟨by omega, by omega⟩ (fun h8_ => ?_) (fun h9_ => ?_)
    ·
      refine fl_thr hm_5 rfl rfl (by omega) (by omega) (Nat.le_of_ble_eq_true rfl) (fl_pos sc_0) ?_
      refine gw_i ?_
      have b10_ : 0 ≤ F 3 0 ∧ F 3 0 ≤ 5 := gi_g hgi rfl
      have b11_ : 0 ≤ F 331 11 ∧ F 331 11 ≤ 1 := gi_g hgi rfl
      have b12_ : -2147483648 ≤ F 335 200 ∧ F 335 200 ≤ 2147483647 := gi_g hgi rfl
      exact ⟨F, 14, (Or.inr (Or.inl rfl)), ⟨ga_len.symm, (List.append_assoc _ _ _).symm⟩, hgi, fs_refl, (hfd), (by first | exact Or.inl ⟨rfl, by omega, rfl, rfl, fun j_ => rfl⟩ | exact Or.inr (Or.inl ⟨rfl, by omega, by omega, rfl, rfl, fun j_ => rfl⟩))⟩
    refine ga_iload_n (z := mo) hm_5 rfl rfl ?_
    refine fl_sipush hm_5 rfl rfl ?_
    refine fl_icmp_le (a := mo) (b := 200) hm_5 rfl ⟨by omega, by omega⟩ ⟨by omega, by omega⟩ (fun h13_ => ?_) (fun h14_ => ?_)
    ·
      refine ga_aload_n (v := .ref 0) hm_5 rfl rfl rfl ?_
      refine fl_iconst hm_5 rfl ?_
      refine ga_puti (z := 0) hm_5 rfl sc_0 rfl rfl ?_
      refine ga_aload_n (v := .ref 0) hm_5 rfl rfl rfl ?_
      refine ga_getr (b := 331) hm_5 rfl sc_0 rfl ?_
      refine ga_iload_n (z := mo) hm_5 rfl rfl ?_
      obtain ⟨F15_, q16_⟩ : ∃ Fq_, Fq_ = (fl_u F 0 12 0) := ⟨_, rfl⟩
      rw [← q16_]
      have g17_ : gi F15_ := by rw [q16_]; exact gi_u (hgi) rfl (by omega) (by omega)
      have g18_ : fs [(0, 0, 12, 12), (331, 331, 8, 12), (332, 339, 0, 100000), (343, 343, 0, 100000)] F F15_ := by rw [q16_]; exact fs_u (fs_refl) rfl
      refine gVv (nY := 3) (F := 5) (L := 123) (As := [.int (Int32.ofInt mo)]) (b := 331) (rest := []) hm_5 rfl hm_139 rfl rfl (fl_ob sc_331) rfl rfl rfl rfl rfl (by omega) (by omega) (mc_139v hG F15_ X g17_ (mo) (pa) (⟨by omega, by omega⟩) (fun s hs => by rw [show F15_ 120 3 = F 120 3 from (show F15_ 120 3 = F 120 3 from (by rw [q16_]; exact (fl_u_ne (by first | exact nc_ rfl | decide | omega))))] at hs; rw [show F15_ (126 + 5 * s) 2 = F (126 + 5 * s) 2 from (show F15_ ((126 + 5 * s)) 2 = F ((126 + 5 * s)) 2 from (by rw [q16_]; exact (fl_u_ne (by first | exact nc_ rfl | decide | omega))))]; exact hpa (by omega) s hs)) (fun _ _ h => False.elim h) ?_
      rintro A1_ ⟨F22_, hA_, g23_, s24_, c20_, c21_⟩
      subst hA_
      have g25_ : fs [(0, 0, 12, 12), (331, 331, 8, 12), (332, 339, 0, 100000), (343, 343, 0, 100000)] F F22_ := fs_tr g18_ s24_ rfl
      refine ga_aload_n (v := .ref 0) hm_5 rfl rfl rfl ?_
      refine ga_getr (b := 331) hm_5 rfl sc_0 rfl ?_
      refine gIi (nY := 1) (F := 0) (L := 0) (As := []) (b := 331) (rest := []) hm_5 rfl hm_137 rfl rfl (fl_ob sc_331) rfl rfl rfl rfl rfl (by omega) (by omega) ?_
      intro f26_ l27_ h28_ h29_
      show fl_R xi_ms 137 f26_ l27_ 0 [(0, .ref 331)] [] _ _
      refine ga_aload_n (v := .ref 331) hm_137 rfl rfl rfl ?_
      have b30_ : 0 ≤ F22_ 331 10 ∧ F22_ 331 10 ≤ 1 := gi_g g23_ rfl
      refine ga_geti (z := F22_ 331 10) hm_137 rfl sc_331 rfl (rfl) ?_
      refine gr_i hm_137 rfl rfl (ga_nb (by omega)) ?_
      clear h28_ h29_ f26_ l27_
      refine fl_if_eq (a := F22_ 331 10) hm_5 rfl ⟨by omega, by omega⟩ (fun h31_ => ?_) (fun h32_ => ?_)
      ·
        refine ga_aload_n (v := .ref 0) hm_5 rfl rfl rfl ?_
        refine ga_getr (b := 331) hm_5 rfl sc_0 rfl ?_
        refine gIi (nY := 1) (F := 0) (L := 0) (As := []) (b := 331) (rest := []) hm_5 rfl hm_41 rfl rfl (fl_ob sc_331) rfl rfl rfl rfl rfl (by omega) (by omega) ?_
        intro f33_ l34_ h35_ h36_
        show fl_R xi_ms 41 f33_ l34_ 0 [(0, .ref 331)] [] _ _
        refine ga_aload_n (v := .ref 331) hm_41 rfl rfl rfl ?_
        have b37_ : 0 ≤ F22_ 331 11 ∧ F22_ 331 11 ≤ 1 := gi_g g23_ rfl
        refine ga_geti (z := F22_ 331 11) hm_41 rfl sc_331 rfl (rfl) ?_
        refine gr_i hm_41 rfl rfl (ga_nb (by omega)) ?_
        clear h35_ h36_ f33_ l34_
        refine fx_if_ne (a := F22_ 331 11) hm_5 rfl ⟨by omega, by omega⟩ (fun h38_ => ?_) (fun h39_ => ?_)
        ·
          have hf1 := c20_ (by omega)
          refine fl_iconst hm_5 rfl ?_
          refine ga_istore_n (lv2 := [(2, .int (Int32.ofInt 0)), (0, .ref 0), (1, .int (Int32.ofInt mo))]) hm_5 rfl (Nat.le_of_ble_eq_true rfl) rfl ?_
          have L41_ : ∀ (n40_ : Nat) (k : Int) (F1 : fl_N), (200 - k : Int).toNat = n40_ → (gi F1) → (fs [(0, 0, 12, 12), (343, 343, 0, 100000)] F22_ F1) → (0 ≤ k ∧ k ≤ 200) → fl_R xi_ms 5 fr lo 73 [(2, .int (Int32.ofInt k)), (0, .ref 0), (1, .int (Int32.ofInt mo))] [] (fl_H sh_T G F1 ++ X) (pq_5v G F X mo pa) := by
            intro n40_
            induction n40_ using Nat.strongRecOn with
            | ind n40_ ih42_ =>
            intro k F1 hn43_ hg_F1 hf_F1 hk
            have g44_ : fs [(0, 0, 12, 12), (331, 331, 8, 12), (332, 339, 0, 100000), (343, 343, 0, 100000)] F F1 := fs_tr g25_ hf_F1 rfl
            refine ga_iload_n (z := k) hm_5 rfl rfl ?_
            refine ga_aload_n (v := .ref 0) hm_5 rfl rfl rfl ?_
            refine ga_getr (b := 331) hm_5 rfl sc_0 rfl ?_
            refine gIi (nY := 1) (F := 0) (L := 0) (As := []) (b := 331) (rest := [.int (Int32.ofInt k)]) hm_5 rfl hm_132 rfl rfl (fl_ob sc_331) rfl rfl rfl rfl rfl (by omega) (by omega) ?_
            intro f45_ l46_ h47_ h48_
            show fl_R xi_ms 132 f45_ l46_ 0 [(0, .ref 331)] [] _ _
            refine ga_aload_n (v := .ref 331) hm_132 rfl rfl rfl ?_
            refine ga_getr (b := 335) hm_132 rfl sc_331 rfl ?_
            refine fl_sipush hm_132 rfl rfl ?_
            have e49_ : F1 335 200 = F22_ 335 200 := (hf_F1 335 200 rfl).trans (rfl)
            have b50_ : -2147483648 ≤ F22_ 335 200 ∧ F22_ 335 200 ≤ 2147483647 := gi_g g23_ rfl
            refine ga_iald (z := 200) (w := F22_ 335 200) hm_132 rfl sc_335 (by omega) (by omega) (by omega) (e49_) ?_
            refine gr_i hm_132 rfl rfl rfl ?_
            clear h47_ h48_ f45_ l46_
            refine fl_icmp_ge (a := k) (b := F22_ 335 200) hm_5 rfl ⟨by omega, by omega⟩ ⟨by omega, by omega⟩ (fun h51_ => ?_) (fun h52_ => ?_)
            ·
              refine ga_aload_n (v := .ref 0) hm_5 rfl rfl rfl ?_
              refine ga_getr (b := 331) hm_5 rfl sc_0 rfl ?_
              refine gIi (nY := 1) (F := 0) (L := 0) (As := []) (b := 331) (rest := []) hm_5 rfl hm_131 rfl rfl (fl_ob sc_331) rfl rfl rfl rfl rfl (by omega) (by omega) ?_
              intro f53_ l54_ h55_ h56_
              show fl_R xi_ms 131 f53_ l54_ 0 [(0, .ref 331)] [] _ _
              refine ga_aload_n (v := .ref 331) hm_131 rfl rfl rfl ?_
              have e57_ : F1 331 12 = F22_ 331 12 := (hf_F1 331 12 rfl).trans (rfl)
              have b58_ : -2147483648 ≤ F22_ 331 12 ∧ F22_ 331 12 ≤ 2147483647 := gi_g g23_ rfl
              refine ga_geti (z := F22_ 331 12) hm_131 rfl sc_331 rfl (e57_) ?_
              refine gr_i hm_131 rfl rfl rfl ?_
              clear h55_ h56_ f53_ l54_
              refine gr_i (z := F22_ 331 12) hm_5 rfl rfl rfl ?_
              have e59_ : F1 331 10 = F22_ 331 10 := (hf_F1 331 10 rfl).trans (rfl)
              have e60_ : F1 331 11 = F22_ 331 11 := (hf_F1 331 11 rfl).trans (rfl)
              exact ⟨F1, rfl, hg_F1, g44_, (⟨by omega, by omega⟩), (fnd_cg (F := F22_) c20_ (show F1 331 11 = F22_ 331 11 from (hf_F1 331 11 (by first | exact fs_c rfl | exact (fs_n (by omega) (fs_n (by omega) rfl))))) (show F1 335 200 = F22_ 335 200 from (hf_F1 335 200 (by first | exact fs_c rfl | exact (fs_n (by omega) (fs_n (by omega) rfl)))))), (⟨by omega, ⟨by omega, by omega⟩, by first | exact ⟨[], lkG_no (by obtain ⟨o_, v_, w_, h1_, h2_⟩ := c21_; exact ⟨o_, v_, w_, plF_cg (F := F) (by omega) (fun r_ k_ hr_ => (show F15_ (r_) k_ = F (r_) k_ from (by rw [q16_]; exact (fl_u_ne (by first | exact nc_ rfl | decide | omega))))) h1_, h2_⟩ : ∃ o v w, plF F mo o v w ∧ lkG F22_ o v w) (by omega) (by omega), Or.inl ⟨by omega, by omega⟩⟩ | (obtain ⟨w_, h1_, h2_, h3_, h4_⟩ := lkG_fd (by obtain ⟨o_, v_, w_, h1_, h2_⟩ := c21_; exact ⟨o_, v_, w_, plF_cg (F := F) (by omega) (fun r_ k_ hr_ => (show F15_ (r_) k_ = F (r_) k_ from (by rw [q16_]; exact (fl_u_ne (by first | exact nc_ rfl | decide | omega))))) h1_, h2_⟩ : ∃ o v w, plF F mo o v w ∧ lkG F22_ o v w) (by omega) (by omega); exact ⟨w_, h1_, Or.inr ⟨rfl, h2_, by have h9_ : 0 ≤ F22_ 331 11 ∧ F22_ 331 11 ≤ 1 := gi_g g23_ rfl; omega, Eq.trans ((show F1 335 200 = F22_ 335 200 from (hf_F1 335 200 (by first | exact fs_c rfl | exact (fs_n (by omega) (fs_n (by omega) rfl)))))) h3_, fun j_ hj_ => Eq.trans ((show F1 339 j_ = F22_ 339 j_ from (hf_F1 339 j_ (by first | exact fs_c rfl | exact (fs_n (by omega) (fs_n (by omega) rfl)))))) (h4_ j_ hj_)⟩⟩)⟩)⟩
            refine ga_aload_n (v := .ref 0) hm_5 rfl rfl rfl ?_
            refine ga_aload_n (v := .ref 0) hm_5 rfl rfl rfl ?_
            refine ga_getr (b := 120) hm_5 rfl sc_0 rfl ?_
            refine ga_getr (b := 122) hm_5 rfl sc_120 rfl ?_
            refine ga_aload_n (v := .ref 0) hm_5 rfl rfl rfl ?_
            refine ga_getr (b := 331) hm_5 rfl sc_0 rfl ?_
            refine ga_iload_n (z := k) hm_5 rfl rfl ?_
            refine gIi (nY := 2) (F := 0) (L := 0) (As := [.int (Int32.ofInt k)]) (b := 331) (rest := [.ref 122, .ref 0]) hm_5 rfl hm_133 rfl rfl (fl_ob sc_331) rfl rfl rfl rfl rfl (by omega) (by omega) ?_
            intro f61_ l62_ h63_ h64_
            show fl_R xi_ms 133 f61_ l62_ 0 [(0, .ref 331), (1, .int (Int32.ofInt k))] [] _ _
            refine ga_aload_n (v := .ref 331) hm_133 rfl rfl rfl ?_
            refine ga_getr (b := 339) hm_133 rfl sc_331 rfl ?_
            refine ga_iload_n (z := k) hm_133 rfl rfl ?_
            have e65_ : F1 339 k.toNat = F22_ 339 k.toNat := (hf_F1 339 k.toNat (by first | exact fs_c rfl | exact (fs_n (by omega) (fs_n (by omega) rfl)))).trans (rfl)
            have b66_ : 0 ≤ F22_ 339 k.toNat ∧ F22_ 339 k.toNat ≤ 40 := gi_g g23_ rfl
            refine ga_iald (z := k) (w := F22_ 339 k.toNat) hm_133 rfl sc_339 (by omega) (by omega) (by omega) (e65_) ?_
            refine gr_i hm_133 rfl rfl rfl ?_
            clear h63_ h64_ f61_ l62_
            obtain ⟨a67_, r68_, n69_, q70_⟩ := ra_122 (F22_ 339 k.toNat).toNat (by omega)
            refine fl_aald (z := F22_ 339 k.toNat) (q := a67_) hm_5 rfl sc_122 (hG _ _ _ sc_122) rfl (by omega) (by simp only [List.length_cons, List.length_nil]; omega) (by simp only [List.length_cons, List.length_nil]; omega) r68_ ?_
            refine gVv (nY := 3) (F := 2) (L := 45) (As := [.ref a67_]) (b := 0) (rest := []) hm_5 rfl hm_85 rfl rfl (fl_ob sc_0) rfl rfl rfl rfl rfl (by omega) (by omega) (mc_85 hG F1 X hg_F1 (a67_) n69_) (fun _ _ h => False.elim h) ?_
            rintro A1_ ⟨F72_, hA_, g73_, s74_⟩
            subst hA_
            have g75_ : fs [(0, 0, 12, 12), (331, 331, 8, 12), (332, 339, 0, 100000), (343, 343, 0, 100000)] F F72_ := fs_tr g44_ s74_ rfl
            refine ga_inc (a := k) (c := k + 1) (lv2 := [(2, .int (Int32.ofInt (k + 1))), (0, .ref 0), (1, .int (Int32.ofInt mo))]) hm_5 rfl rfl (Nat.le_of_ble_eq_true rfl) rfl rfl ?_
            refine fl_goto hm_5 rfl ?_
            exact ih42_ _ (by omega) (k + 1) F72_ rfl g73_ (fs_tr hf_F1 s74_ rfl) (⟨by omega, by omega⟩)
          exact L41_ _ (0) F22_ rfl g23_ fs_refl (⟨by omega, by omega⟩)
        refine fl_iconst hm_5 rfl ?_
        refine gr_i (z := -1) hm_5 rfl rfl rfl ?_
        exact ⟨F22_, rfl, g23_, g25_, (⟨by omega, by omega⟩), (c20_), (⟨by omega, ⟨by omega, by omega⟩, by first | exact ⟨[], lkG_no (by obtain ⟨o_, v_, w_, h1_, h2_⟩ := c21_; exact ⟨o_, v_, w_, plF_cg (F := F) (by omega) (fun r_ k_ hr_ => (show F15_ (r_) k_ = F (r_) k_ from (by rw [q16_]; exact (fl_u_ne (by first | exact nc_ rfl | decide | omega))))) h1_, h2_⟩ : ∃ o v w, plF F mo o v w ∧ lkG F22_ o v w) (by omega) (by omega), Or.inl ⟨by omega, by omega⟩⟩ | (obtain ⟨w_, h1_, h2_, h3_, h4_⟩ := lkG_fd (by obtain ⟨o_, v_, w_, h1_, h2_⟩ := c21_; exact ⟨o_, v_, w_, plF_cg (F := F) (by omega) (fun r_ k_ hr_ => (show F15_ (r_) k_ = F (r_) k_ from (by rw [q16_]; exact (fl_u_ne (by first | exact nc_ rfl | decide | omega))))) h1_, h2_⟩ : ∃ o v w, plF F mo o v w ∧ lkG F22_ o v w) (by omega) (by omega); exact ⟨w_, h1_, Or.inr ⟨rfl, h2_, by have h9_ : 0 ≤ F22_ 331 11 ∧ F22_ 331 11 ≤ 1 := gi_g g23_ rfl; omega, Eq.trans (rfl) h3_, fun j_ hj_ => Eq.trans (rfl) (h4_ j_ hj_)⟩⟩)⟩)⟩
      refine fl_thr hm_5 rfl rfl (by omega) (by omega) (Nat.le_of_ble_eq_true rfl) (fl_pos sc_0) ?_
      refine gw_i ?_
      have e76_ : F15_ 3 0 = F 3 0 := by rw [q16_]; exact fl_u_ne (by first | exact nc_ rfl | decide | omega)
      have e77_ : F22_ 3 0 = F 3 0 := (s24_ 3 0 rfl).trans (e76_)
      have b78_ : 0 ≤ F 3 0 ∧ F 3 0 ≤ 5 := gi_g hgi rfl
      have b79_ : 0 ≤ F22_ 331 11 ∧ F22_ 331 11 ≤ 1 := gi_g g23_ rfl
      have b80_ : -2147483648 ≤ F22_ 335 200 ∧ F22_ 335 200 ≤ 2147483647 := gi_g g23_ rfl
      have b81_ : 0 ≤ F 331 11 ∧ F 331 11 ≤ 1 := gi_g hgi rfl
      have b82_ : -2147483648 ≤ F 335 200 ∧ F 335 200 ≤ 2147483647 := gi_g hgi rfl
      exact ⟨F22_, 16, (Or.inr (Or.inr (rfl))), ⟨ga_len.symm, (List.append_assoc _ _ _).symm⟩, g23_, g25_, (c20_), (by have h9_ := lkG_cr (by obtain ⟨o_, v_, w_, h1_, h2_⟩ := c21_; exact ⟨o_, v_, w_, plF_cg (F := F) (by omega) (fun r_ k_ hr_ => (show F15_ (r_) k_ = F (r_) k_ from (by rw [q16_]; exact (fl_u_ne (by first | exact nc_ rfl | decide | omega))))) h1_, h2_⟩ : ∃ o v w, plF F mo o v w ∧ lkG F22_ o v w) (by omega); exact Or.inr (Or.inr ⟨rfl, by omega, ⟨by omega, by omega⟩, h9_.1, Or.inl ⟨by omega, Eq.trans (rfl) h9_.2⟩⟩))⟩
    refine fl_thr hm_5 rfl rfl (by omega) (by omega) (Nat.le_of_ble_eq_true rfl) (fl_pos sc_0) ?_
    refine gw_i ?_
    have b83_ : 0 ≤ F 3 0 ∧ F 3 0 ≤ 5 := gi_g hgi rfl
    have b84_ : 0 ≤ F 331 11 ∧ F 331 11 ≤ 1 := gi_g hgi rfl
    have b85_ : -2147483648 ≤ F 335 200 ∧ F 335 200 ≤ 2147483647 := gi_g hgi rfl
    exact ⟨F, 14, (Or.inr (Or.inl rfl)), ⟨ga_len.symm, (List.append_assoc _ _ _).symm⟩, hgi, fs_refl, (hfd), (by first | exact Or.inl ⟨rfl, by omega, rfl, rfl, fun j_ => rfl⟩ | exact Or.inr (Or.inl ⟨rfl, by omega, by omega, rfl, rfl, fun j_ => rfl⟩))⟩
  refine fl_thr hm_13 rfl rfl (by omega) (by omega) (Nat.le_of_ble_eq_true rfl) (fl_pos sc_0) ?_
  refine gw_v ⟨rfl, ?_⟩
  refine gw_i ?_
  have b86_ : 0 ≤ F 3 0 ∧ F 3 0 ≤ 5 := gi_g hgi rfl
  have b87_ : 0 ≤ F 331 11 ∧ F 331 11 ≤ 1 := gi_g hgi rfl
  have b88_ : -2147483648 ≤ F 335 200 ∧ F 335 200 ≤ 2147483647 := gi_g hgi rfl
  exact ⟨F, 15, (Or.inl rfl), ⟨ga_len.symm, (List.append_assoc _ _ _).symm⟩, hgi, fs_refl, (hfd), (by first | exact Or.inl ⟨rfl, by omega, rfl, rfl, fun j_ => rfl⟩ | exact Or.inr (Or.inl ⟨rfl, by omega, by omega, rfl, rfl, fun j_ => rfl⟩))⟩

/- CheapPlanner$Search.forget -/
abbrev pq_40v (G : Nat → Nat → Option Nat) (F : fl_N) (X : xi_H)  : Outcome → xi_H → Prop := gqv (fun A => ∃ F' : fl_N, fl_H sh_T G F' ++ X = A ∧ gi F' ∧ fs [(331, 331, 8, 8), (331, 331, 10, 11), (335, 335, 0, 100000), (338, 338, 0, 100000)] F F' ∧ (F' 331 8 = 0) ∧ (F' 331 11 = 0) ∧ (F' 335 200 = 2147483647) ∧ (∀ j : Nat, j < 512 → F' 338 j = 0) ∧ (F' 331 10 = 0)) gqn
theorem mc_40v {G : Nat → Nat → Option Nat} (hG : gg G) (F : fl_N) (X : xi_H) (hgi : gi F)  : fl_M xi_ms 40 1 23 [.ref 331] (fl_H sh_T G F ++ X) (pq_40v G F X) := by
  intro fr lo hfr hlo
  show fl_R xi_ms 40 fr lo 0 [(0, .ref 331)] [] _ _
  refine ga_aload_n (v := .ref 331) hm_40 rfl rfl rfl ?_
  refine fl_iconst hm_40 rfl ?_
  refine ga_putz (z := 0) hm_40 rfl sc_331 rfl rfl (by omega) ?_
  refine ga_aload_n (v := .ref 331) hm_40 rfl rfl rfl ?_
  refine fl_iconst hm_40 rfl ?_
  refine ga_putz (z := 0) hm_40 rfl sc_331 rfl rfl (by omega) ?_
  refine ga_aload_n (v := .ref 331) hm_40 rfl rfl rfl ?_
  refine fl_iconst hm_40 rfl ?_
  refine ga_puti (z := 0) hm_40 rfl sc_331 rfl rfl ?_
  refine ga_aload_n (v := .ref 331) hm_40 rfl rfl rfl ?_
  refine ga_getr (b := 335) hm_40 rfl sc_331 rfl ?_
  refine fl_sipush hm_40 rfl rfl ?_
  refine ga_ldci (z := 2147483647) hm_40 rfl (by decide) ?_
  refine fl_iast (z := 200) (v := 2147483647) hm_40 rfl sc_335 (by omega) (by omega) (by omega) ?_
  refine ga_aload_n (v := .ref 331) hm_40 rfl rfl rfl ?_
  refine ga_getr (b := 338) hm_40 rfl sc_331 rfl ?_
  refine fl_iconst hm_40 rfl ?_
  obtain ⟨F1_, q2_⟩ : ∃ Fq_, Fq_ = (fl_u (fl_u (fl_u (fl_u F 331 11 0) 331 10 0) 331 8 0) 335 (200 : Int).toNat 2147483647) := ⟨_, rfl⟩
  rw [← q2_]
  have g3_ : gi F1_ := by rw [q2_]; exact gi_u (gi_u (gi_u (gi_u (hgi) rfl (by omega) (by omega)) rfl (by omega) (by omega)) rfl (by omega) (by omega)) rfl (by omega) (by omega)
  have g4_ : fs [(331, 331, 8, 8), (331, 331, 10, 11), (335, 335, 0, 100000), (338, 338, 0, 100000)] F F1_ := by rw [q2_]; exact fs_u (fs_u (fs_u (fs_u (fs_refl) rfl) rfl) rfl) rfl
  refine gSv (nY := 4) (F := 0) (L := 0) (As := [.ref 338, .int (Int32.ofInt 0)]) (rest := []) hm_40 rfl hm_43 rfl rfl (fl_pos sc_0) rfl rfl rfl rfl (by omega) (by omega) (mc_43 hG F1_ X g3_ (338) (512) (0) (0) (200) sc_338 (fun _ => rfl) (⟨by omega, by omega⟩) (by omega) (⟨by omega, by omega⟩))  ?_
  rintro A1_ ⟨F7_, hA_, g8_, s9_, c6_⟩
  subst hA_
  have g10_ : fs [(331, 331, 8, 8), (331, 331, 10, 11), (335, 335, 0, 100000), (338, 338, 0, 100000)] F F7_ := fs_tr g4_ s9_ rfl
  refine gr_v hm_40 rfl rfl ?_
  have e11_ : F1_ 331 8 = 0 := by rw [q2_]; exact (fl_u_ne (by first | exact nc_ rfl | decide | omega)).trans (fl_u_eq)
  have e12_ : F7_ 331 8 = 0 := (s9_ 331 8 rfl).trans (e11_)
  have e13_ : F1_ 331 11 = 0 := by rw [q2_]; exact (fl_u_ne (by first | exact nc_ rfl | decide | omega)).trans ((fl_u_ne (by first | exact nc_ rfl | decide | omega)).trans ((fl_u_ne (by first | exact nc_ rfl | decide | omega)).trans (fl_u_eq)))
  have e14_ : F7_ 331 11 = 0 := (s9_ 331 11 rfl).trans (e13_)
  have e15_ : F1_ 335 200 = 2147483647 := by rw [q2_]; exact fl_u_eq
  have e16_ : F7_ 335 200 = 2147483647 := (s9_ 335 200 rfl).trans (e15_)
  have e17_ : F1_ 331 10 = 0 := by rw [q2_]; exact (fl_u_ne (by first | exact nc_ rfl | decide | omega)).trans ((fl_u_ne (by first | exact nc_ rfl | decide | omega)).trans (fl_u_eq))
  have e18_ : F7_ 331 10 = 0 := (s9_ 331 10 rfl).trans (e17_)
  exact ⟨F7_, rfl, g8_, g10_, (by omega), (by omega), (by omega), (fun j hj => Eq.trans (rfl) (c6_ j (by omega))), (by omega)⟩
/- CheapPlanner$Search.look -/
abbrev pq_139v (G : Nat → Nat → Option Nat) (F : fl_N) (X : xi_H) (mo : Int) (pa : Nat → Int) : Outcome → xi_H → Prop := gqv (fun A => ∃ F' : fl_N, fl_H sh_T G F' ++ X = A ∧ gi F' ∧ fs [(331, 331, 8, 12), (332, 339, 0, 100000)] F F' ∧ (F' 331 11 = 1 → 0 ≤ F' 335 200 ∧ F' 335 200 ≤ 200) ∧ (lkE F F' mo)) gqn
theorem mc_139v {G : Nat → Nat → Option Nat} (hG : gg G) (F : fl_N) (X : xi_H) (hgi : gi F) (mo : Int) (pa : Nat → Int) (hmo : 1 ≤ mo ∧ mo ≤ 200) (hpa : ∀ s : Nat, (s : Int) < F 120 3 → 1 ≤ F (126 + 5 * s) 2 ∧ ∃ a, a < 5 ∧ F (126 + 5 * s) 2 = pa a) : fl_M xi_ms 139 5 123 [.ref 331, .int (Int32.ofInt mo)] (fl_H sh_T G F ++ X) (pq_139v G F X mo pa) := by
  intro fr lo hfr hlo
  show fl_R xi_ms 139 fr lo 0 [(0, .ref 331), (1, .int (Int32.ofInt mo))] [] _ _
  have hb123 : 0 ≤ F 120 3 ∧ F 120 3 ≤ 41 := gi_g hgi rfl
  refine ga_aload_n (v := .ref 331) hm_139 rfl rfl rfl ?_
  refine gVv (nY := 1) (F := 1) (L := 23) (As := []) (b := 331) (rest := []) hm_139 rfl hm_40 rfl rfl (fl_ob sc_331) rfl rfl rfl rfl rfl (by omega) (by omega) (mc_40v hG F X hgi) (fun _ _ h => False.elim h) ?_
  rintro A1_ ⟨F7_, hA_, g8_, s9_, c2_, c3_, c4_, c5_, c6_⟩
  subst hA_
  have g10_ : fs [(331, 331, 8, 12), (332, 339, 0, 100000)] F F7_ := fs_tr fs_refl s9_ rfl
  refine ga_aload_n (v := .ref 331) hm_139 rfl rfl rfl ?_
  refine ga_iload_n (z := mo) hm_139 rfl rfl ?_
  refine ga_puti (z := mo) hm_139 rfl sc_331 rfl rfl ?_
  refine ga_aload_n (v := .ref 331) hm_139 rfl rfl rfl ?_
  refine fl_iconst hm_139 rfl ?_
  refine ga_puti (z := 0) hm_139 rfl sc_331 rfl rfl ?_
  refine ga_aload_n (v := .ref 331) hm_139 rfl rfl rfl ?_
  refine ga_getr (b := 120) hm_139 rfl sc_331 rfl ?_
  refine ga_getr (b := 123) hm_139 rfl sc_120 rfl ?_
  refine ga_aload_n (v := .ref 331) hm_139 rfl rfl rfl ?_
  refine ga_getr (b := 120) hm_139 rfl sc_331 rfl ?_
  have e11_ : F7_ 120 4 = F 120 4 := (s9_ 120 4 rfl).trans (rfl)
  have b12_ : -9223372036854775808 ≤ F 120 4 ∧ F 120 4 ≤ 9223372036854775807 := gi_g hgi rfl
  refine ga_getl (z := F 120 4) hm_139 rfl sc_120 rfl ((fl_u_ne (by first | exact nc_ rfl | decide | omega)).trans ((fl_u_ne (by first | exact nc_ rfl | decide | omega)).trans (e11_))) ?_
  obtain ⟨F13_, q14_⟩ : ∃ Fq_, Fq_ = (fl_u (fl_u F7_ 331 9 mo) 331 12 0) := ⟨_, rfl⟩
  rw [← q14_]
  have g15_ : gi F13_ := by rw [q14_]; exact gi_u (gi_u (g8_) rfl (by omega) (by omega)) rfl (by omega) (by omega)
  have g16_ : fs [(331, 331, 8, 12), (332, 339, 0, 100000)] F F13_ := by rw [q14_]; exact fs_u (fs_u (g10_) rfl) rfl
  refine gVi (nY := 3) (F := 0) (L := 0) (As := [.long (Int64.ofInt (F 120 4))]) (b := 123) (rest := []) hm_139 rfl hm_115 rfl rfl (fl_ob sc_123) rfl rfl rfl rfl rfl (by omega) (by omega) (mc_115v hG F13_ X g15_ (123) (F 120 4) nd_123 (⟨by omega, by omega⟩)) (fun _ _ h => False.elim h) ?_
  rintro z17_ A1_ (⟨hA_, hz_, c18_⟩ | ⟨hA_, hz_, c19_⟩)
  ·
    subst hA_
    subst hz_
    refine fl_if_eq hm_139 rfl ⟨by omega, by omega⟩ (fun _ => ?_) (fun h => absurd (by omega) h)
    refine ga_aload_n (v := .ref 331) hm_139 rfl rfl rfl ?_
    refine ga_aload_n (v := .ref 331) hm_139 rfl rfl rfl ?_
    refine ga_aload_n (v := .ref 331) hm_139 rfl rfl rfl ?_
    refine ga_getr (b := 120) hm_139 rfl sc_331 rfl ?_
    have e20_ : F13_ 120 4 = F 120 4 := by rw [q14_]; exact (fl_u_ne (by first | exact nc_ rfl | decide | omega)).trans ((fl_u_ne (by first | exact nc_ rfl | decide | omega)).trans (e11_))
    refine ga_getl (z := F 120 4) hm_139 rfl sc_120 rfl (e20_) ?_
    refine gVi (nY := 5) (F := 0) (L := 0) (As := [.long (Int64.ofInt (F 120 4))]) (b := 331) (rest := [.ref 331]) hm_139 rfl hm_142 rfl rfl (fl_ob sc_331) rfl rfl rfl rfl rfl (by omega) (by omega) (mc_142v hG F13_ X g15_ (F 120 4) (⟨by omega, by omega⟩) (⟨0, by omega, by omega, by show F13_ 338 0 = 0; exact Eq.trans ((show F13_ 338 0 = F7_ 338 0 from (by rw [q14_]; exact (fl_u_ne (by first | exact nc_ rfl | decide | omega)).trans ((fl_u_ne (by first | exact nc_ rfl | decide | omega)))))) (c5_ 0 (by omega))⟩)) (fun _ _ h => False.elim h) ?_
    rintro z21_ A1_ ⟨hA_, c22_, c23_⟩
    subst hA_
    refine ga_aload_n (v := .ref 331) hm_139 rfl rfl rfl ?_
    refine ga_getr (b := 120) hm_139 rfl sc_331 rfl ?_
    refine ga_getl (z := F 120 4) hm_139 rfl sc_120 rfl (e20_) ?_
    refine fl_iconst hm_139 rfl ?_
    have e24_ : F13_ 331 8 = F7_ 331 8 := by rw [q14_]; exact (fl_u_ne (by first | exact nc_ rfl | decide | omega)).trans (fl_u_ne (by first | exact nc_ rfl | decide | omega))
    have b25_ : 0 ≤ F7_ 331 8 ∧ F7_ 331 8 ≤ 200 := gi_g g8_ rfl
    refine gVv (nY := 5) (F := 1) (L := 25) (As := [.int (Int32.ofInt z21_), .long (Int64.ofInt (F 120 4)), .int (Int32.ofInt 0)]) (b := 331) (rest := []) hm_139 rfl hm_129 rfl rfl (fl_ob sc_331) rfl rfl rfl rfl rfl (by omega) (by omega) (mc_129v hG F13_ X g15_ (z21_) (F 120 4) (0) ([]) (⟨by omega, by omega⟩) (⟨by omega, by omega⟩) (⟨by omega, by omega⟩) (by omega) (tS_0 (by omega) (fun j hj => Eq.trans ((show F13_ 338 j = F7_ 338 j from (by rw [q14_]; exact (fl_u_ne (by first | exact nc_ rfl | decide | omega)).trans ((fl_u_ne (by first | exact nc_ rfl | decide | omega)))))) (c5_ j (by omega)))) (c23_) (rfl) (⟨by omega, by omega⟩)) (fun _ _ h => False.elim h) ?_
    rintro A1_ ⟨F33_, hA_, g34_, s35_, c27_, c28_, c29_, c30_, c31_, c32_⟩
    subst hA_
    have g36_ : fs [(331, 331, 8, 12), (332, 339, 0, 100000)] F F33_ := fs_tr g16_ s35_ rfl
    try simp only [e24_] at c27_
    try simp only [e24_] at c28_
    try simp only [e24_] at c29_
    refine fl_iconst hm_139 rfl ?_
    refine ga_istore_n (lv2 := [(2, .int (Int32.ofInt 0)), (0, .ref 331), (1, .int (Int32.ofInt mo))]) hm_139 rfl (Nat.le_of_ble_eq_true rfl) rfl ?_
    have L38_ : ∀ (n37_ : Nat) (k : Int) (F1 : fl_N), (1001 - k : Int).toNat = n37_ → (gi F1) → (fs [(331, 331, 8, 12), (332, 339, 0, 100000)] F33_ F1) → (0 ≤ k ∧ k ≤ 1001) → (li F1) → (F1 331 9 = mo) → (lkI F1 (pC F) mo.toNat [(F 120 4, 0)] pa k) → fl_R xi_ms 139 fr lo 74 [(2, .int (Int32.ofInt k)), (0, .ref 331), (1, .int (Int32.ofInt mo))] [] (fl_H sh_T G F1 ++ X) (pq_139v G F X mo pa) := by
      intro n37_
      induction n37_ using Nat.strongRecOn with
      | ind n37_ ih39_ =>
      intro k F1 hn40_ hg_F1 hf_F1 hk hl1 h9 hlk
      have g41_ : fs [(331, 331, 8, 12), (332, 339, 0, 100000)] F F1 := fs_tr g36_ hf_F1 rfl
      refine ga_iload_n (z := k) hm_139 rfl rfl ?_
      refine fl_sipush hm_139 rfl rfl ?_
      refine fl_icmp_gt (a := k) (b := 1000) hm_139 rfl ⟨by omega, by omega⟩ ⟨by omega, by omega⟩ (fun h42_ => ?_) (fun h43_ => ?_)
      ·
        refine ga_aload_n (v := .ref 331) hm_139 rfl rfl rfl ?_
        have b44_ : 0 ≤ F1 331 11 ∧ F1 331 11 ≤ 1 := gi_g hg_F1 rfl
        refine ga_geti (z := F1 331 11) hm_139 rfl sc_331 rfl (rfl) ?_
        refine fl_if_eq (a := F1 331 11) hm_139 rfl ⟨by omega, by omega⟩ (fun h45_ => ?_) (fun h46_ => ?_)
        ·
          refine gr_v hm_139 rfl rfl ?_
          have b47_ : -2147483648 ≤ F1 335 200 ∧ F1 335 200 ≤ 2147483647 := gi_g hg_F1 rfl
          exact ⟨F1, rfl, hg_F1, g41_, ((hl1).2.2), (Or.inr ⟨(show ¬ gC F (F 120 4) from fun h9_ => c18_ (by rw [hN_cg (F := F) (F' := F13_) (fun j => (Eq.trans (a := F13_ (123) j) (b := F7_ (123) j) (by rw [q14_]; exact (fl_u_ne (by first | exact nc_ rfl | decide | omega)).trans ((fl_u_ne (by first | exact nc_ rfl | decide | omega)))) (show F7_ (123) j = F (123) j from (s9_ (123) j (by first | exact fs_c rfl | exact (fs_n (by omega) (fs_n (by omega) (fs_n (by omega) (fs_n (by omega) rfl)))))))))]; exact h9_)), by rcases hlk with ⟨h1_, h2_, T, cp, -, -, -, -, -, -, h3_⟩ | ⟨h1_, h2_, h3_⟩ | ⟨h1_, h2_, h3_⟩ <;> first | (exfalso; omega) | exact Or.inl ⟨by omega, by omega, by omega, by rw [show F1 331 12 = F1 331 12 from rfl]; exact h3_⟩ | exact Or.inr (Or.inl ⟨by omega, by omega, h3_⟩)⟩)⟩
        refine ga_aload_n (v := .ref 331) hm_139 rfl rfl rfl ?_
        refine fl_iconst hm_139 rfl ?_
        refine ga_putz (z := 0) hm_139 rfl sc_331 rfl rfl (by omega) ?_
        refine ga_aload_n (v := .ref 331) hm_139 rfl rfl rfl ?_
        obtain ⟨F48_, q49_⟩ : ∃ Fq_, Fq_ = (fl_u F1 331 10 0) := ⟨_, rfl⟩
        rw [← q49_]
        have g50_ : gi F48_ := by rw [q49_]; exact gi_u (hg_F1) rfl (by omega) (by omega)
        have g51_ : fs [(331, 331, 8, 12), (332, 339, 0, 100000)] F F48_ := by rw [q49_]; exact fs_u (g41_) rfl
        refine gVv (nY := 3) (F := 0) (L := 0) (As := []) (b := 331) (rest := []) hm_139 rfl hm_143 rfl rfl (fl_ob sc_331) rfl rfl rfl rfl rfl (by omega) (by omega) (mc_143 hG F48_ X g50_ (by have h9_ := hl1.2.2 (by omega); rw [(show F48_ 335 200 = F1 335 200 from (by rw [q49_]; exact (fl_u_ne (by first | exact nc_ rfl | decide | omega))))]; exact h9_)) (fun _ _ h => False.elim h) ?_
        rintro A1_ ⟨F53_, hA_, g54_, s55_⟩
        subst hA_
        have g56_ : fs [(331, 331, 8, 12), (332, 339, 0, 100000)] F F53_ := fs_tr g51_ s55_ rfl
        refine gr_v hm_139 rfl rfl ?_
        have e57_ : F48_ 331 11 = F1 331 11 := by rw [q49_]; exact fl_u_ne (by first | exact nc_ rfl | decide | omega)
        have e58_ : F53_ 331 11 = F1 331 11 := (s55_ 331 11 rfl).trans (e57_)
        have e59_ : F48_ 335 200 = F1 335 200 := by rw [q49_]; exact fl_u_ne (by first | exact nc_ rfl | decide | omega)
        have e60_ : F53_ 335 200 = F1 335 200 := (s55_ 335 200 rfl).trans (e59_)
        have b61_ : -2147483648 ≤ F1 335 200 ∧ F1 335 200 ≤ 2147483647 := gi_g hg_F1 rfl
        have e62_ : F48_ 331 10 = 0 := by rw [q49_]; exact fl_u_eq
        have e63_ : F53_ 331 10 = 0 := (s55_ 331 10 rfl).trans (e62_)
        have e64_ : F48_ 331 12 = F1 331 12 := by rw [q49_]; exact fl_u_ne (by first | exact nc_ rfl | decide | omega)
        have e65_ : F53_ 331 12 = F1 331 12 := (s55_ 331 12 rfl).trans (e64_)
        exact ⟨F53_, rfl, g54_, g56_, ((li_cg hl1 ((Eq.trans (a := F53_ 331 8) (b := F48_ 331 8) (s55_ 331 8 (by first | exact fs_c rfl | exact (fs_n (by omega) rfl))) (show F48_ 331 8 = F1 331 8 from (by rw [q49_]; exact (fl_u_ne (by first | exact nc_ rfl | decide | omega)))))) ((Eq.trans (a := F53_ 331 11) (b := F48_ 331 11) (s55_ 331 11 (by first | exact fs_c rfl | exact (fs_n (by omega) rfl))) (show F48_ 331 11 = F1 331 11 from (by rw [q49_]; exact (fl_u_ne (by first | exact nc_ rfl | decide | omega)))))) (fun i => (Eq.trans (a := F53_ 335 i) (b := F48_ 335 i) (s55_ 335 i (by first | exact fs_c rfl | exact (fs_n (by omega) rfl))) (show F48_ 335 i = F1 335 i from (by rw [q49_]; exact (fl_u_ne (by first | exact nc_ rfl | decide | omega))))))).2.2), (Or.inr ⟨(show ¬ gC F (F 120 4) from fun h9_ => c18_ (by rw [hN_cg (F := F) (F' := F13_) (fun j => (Eq.trans (a := F13_ (123) j) (b := F7_ (123) j) (by rw [q14_]; exact (fl_u_ne (by first | exact nc_ rfl | decide | omega)).trans ((fl_u_ne (by first | exact nc_ rfl | decide | omega)))) (show F7_ (123) j = F (123) j from (s9_ (123) j (by first | exact fs_c rfl | exact (fs_n (by omega) (fs_n (by omega) (fs_n (by omega) (fs_n (by omega) rfl)))))))))]; exact h9_)), by rcases hlk with ⟨h1_, h2_, T, cp, -, -, -, -, -, -, h3_⟩ | ⟨h1_, h2_, h3_⟩ | ⟨h1_, h2_, h3_⟩ <;> first | (exfalso; omega) | exact Or.inl ⟨by omega, by omega, by omega, by rw [show F53_ 331 12 = F1 331 12 from (Eq.trans (a := F53_ 331 12) (b := F48_ 331 12) (s55_ 331 12 (by first | exact fs_c rfl | exact (fs_n (by omega) rfl))) (show F48_ 331 12 = F1 331 12 from (by rw [q49_]; exact (fl_u_ne (by first | exact nc_ rfl | decide | omega)))))]; exact h3_⟩ | exact Or.inr (Or.inl ⟨by omega, by omega, h3_⟩)⟩)⟩
      refine ga_aload_n (v := .ref 331) hm_139 rfl rfl rfl ?_
      have b66_ : 0 ≤ F1 331 11 ∧ F1 331 11 ≤ 1 := gi_g hg_F1 rfl
      refine ga_geti (z := F1 331 11) hm_139 rfl sc_331 rfl (rfl) ?_
      refine fx_if_ne (a := F1 331 11) hm_139 rfl ⟨by omega, by omega⟩ (fun h67_ => ?_) (fun h68_ => ?_)
      ·
        refine ga_aload_n (v := .ref 331) hm_139 rfl rfl rfl ?_
        refine ga_geti (z := F1 331 11) hm_139 rfl sc_331 rfl (rfl) ?_
        refine fl_if_eq (a := F1 331 11) hm_139 rfl ⟨by omega, by omega⟩ (fun h69_ => ?_) (fun h70_ => ?_)
        · exfalso; omega
        refine ga_aload_n (v := .ref 331) hm_139 rfl rfl rfl ?_
        refine fl_iconst hm_139 rfl ?_
        refine ga_putz (z := 0) hm_139 rfl sc_331 rfl rfl (by omega) ?_
        refine ga_aload_n (v := .ref 331) hm_139 rfl rfl rfl ?_
        obtain ⟨F71_, q72_⟩ : ∃ Fq_, Fq_ = (fl_u F1 331 10 0) := ⟨_, rfl⟩
        rw [← q72_]
        have g73_ : gi F71_ := by rw [q72_]; exact gi_u (hg_F1) rfl (by omega) (by omega)
        have g74_ : fs [(331, 331, 8, 12), (332, 339, 0, 100000)] F F71_ := by rw [q72_]; exact fs_u (g41_) rfl
        refine gVv (nY := 3) (F := 0) (L := 0) (As := []) (b := 331) (rest := []) hm_139 rfl hm_143 rfl rfl (fl_ob sc_331) rfl rfl rfl rfl rfl (by omega) (by omega) (mc_143 hG F71_ X g73_ (by have h9_ := hl1.2.2 (by omega); rw [(show F71_ 335 200 = F1 335 200 from (by rw [q72_]; exact (fl_u_ne (by first | exact nc_ rfl | decide | omega))))]; exact h9_)) (fun _ _ h => False.elim h) ?_
        rintro A1_ ⟨F76_, hA_, g77_, s78_⟩
        subst hA_
        have g79_ : fs [(331, 331, 8, 12), (332, 339, 0, 100000)] F F76_ := fs_tr g74_ s78_ rfl
        refine gr_v hm_139 rfl rfl ?_
        have e80_ : F71_ 331 11 = F1 331 11 := by rw [q72_]; exact fl_u_ne (by first | exact nc_ rfl | decide | omega)
        have e81_ : F76_ 331 11 = F1 331 11 := (s78_ 331 11 rfl).trans (e80_)
        have e82_ : F71_ 335 200 = F1 335 200 := by rw [q72_]; exact fl_u_ne (by first | exact nc_ rfl | decide | omega)
        have e83_ : F76_ 335 200 = F1 335 200 := (s78_ 335 200 rfl).trans (e82_)
        have b84_ : -2147483648 ≤ F1 335 200 ∧ F1 335 200 ≤ 2147483647 := gi_g hg_F1 rfl
        have e85_ : F71_ 331 10 = 0 := by rw [q72_]; exact fl_u_eq
        have e86_ : F76_ 331 10 = 0 := (s78_ 331 10 rfl).trans (e85_)
        have e87_ : F71_ 331 12 = F1 331 12 := by rw [q72_]; exact fl_u_ne (by first | exact nc_ rfl | decide | omega)
        have e88_ : F76_ 331 12 = F1 331 12 := (s78_ 331 12 rfl).trans (e87_)
        exact ⟨F76_, rfl, g77_, g79_, ((li_cg hl1 ((Eq.trans (a := F76_ 331 8) (b := F71_ 331 8) (s78_ 331 8 (by first | exact fs_c rfl | exact (fs_n (by omega) rfl))) (show F71_ 331 8 = F1 331 8 from (by rw [q72_]; exact (fl_u_ne (by first | exact nc_ rfl | decide | omega)))))) ((Eq.trans (a := F76_ 331 11) (b := F71_ 331 11) (s78_ 331 11 (by first | exact fs_c rfl | exact (fs_n (by omega) rfl))) (show F71_ 331 11 = F1 331 11 from (by rw [q72_]; exact (fl_u_ne (by first | exact nc_ rfl | decide | omega)))))) (fun i => (Eq.trans (a := F76_ 335 i) (b := F71_ 335 i) (s78_ 335 i (by first | exact fs_c rfl | exact (fs_n (by omega) rfl))) (show F71_ 335 i = F1 335 i from (by rw [q72_]; exact (fl_u_ne (by first | exact nc_ rfl | decide | omega))))))).2.2), (Or.inr ⟨(show ¬ gC F (F 120 4) from fun h9_ => c18_ (by rw [hN_cg (F := F) (F' := F13_) (fun j => (Eq.trans (a := F13_ (123) j) (b := F7_ (123) j) (by rw [q14_]; exact (fl_u_ne (by first | exact nc_ rfl | decide | omega)).trans ((fl_u_ne (by first | exact nc_ rfl | decide | omega)))) (show F7_ (123) j = F (123) j from (s9_ (123) j (by first | exact fs_c rfl | exact (fs_n (by omega) (fs_n (by omega) (fs_n (by omega) (fs_n (by omega) rfl)))))))))]; exact h9_)), by rcases hlk with ⟨h1_, h2_, T, cp, -, -, -, -, -, -, h3_⟩ | ⟨h1_, h2_, h3_⟩ | ⟨h1_, h2_, h3_⟩ <;> first | (exfalso; omega) | exact Or.inl ⟨by omega, by omega, by omega, by rw [show F76_ 331 12 = F1 331 12 from (Eq.trans (a := F76_ 331 12) (b := F71_ 331 12) (s78_ 331 12 (by first | exact fs_c rfl | exact (fs_n (by omega) rfl))) (show F71_ 331 12 = F1 331 12 from (by rw [q72_]; exact (fl_u_ne (by first | exact nc_ rfl | decide | omega)))))]; exact h3_⟩ | exact Or.inr (Or.inl ⟨by omega, by omega, h3_⟩)⟩)⟩
      refine ga_aload_n (v := .ref 331) hm_139 rfl rfl rfl ?_
      have b89_ : 0 ≤ F1 331 10 ∧ F1 331 10 ≤ 1 := gi_g hg_F1 rfl
      refine ga_geti (z := F1 331 10) hm_139 rfl sc_331 rfl (rfl) ?_
      refine fx_if_ne (a := F1 331 10) hm_139 rfl ⟨by omega, by omega⟩ (fun h90_ => ?_) (fun h91_ => ?_)
      ·
        refine ga_aload_n (v := .ref 331) hm_139 rfl rfl rfl ?_
        refine ga_geti (z := F1 331 11) hm_139 rfl sc_331 rfl (rfl) ?_
        refine fl_if_eq (a := F1 331 11) hm_139 rfl ⟨by omega, by omega⟩ (fun h92_ => ?_) (fun h93_ => ?_)
        ·
          refine gr_v hm_139 rfl rfl ?_
          have b94_ : -2147483648 ≤ F1 335 200 ∧ F1 335 200 ≤ 2147483647 := gi_g hg_F1 rfl
          exact ⟨F1, rfl, hg_F1, g41_, ((hl1).2.2), (Or.inr ⟨(show ¬ gC F (F 120 4) from fun h9_ => c18_ (by rw [hN_cg (F := F) (F' := F13_) (fun j => (Eq.trans (a := F13_ (123) j) (b := F7_ (123) j) (by rw [q14_]; exact (fl_u_ne (by first | exact nc_ rfl | decide | omega)).trans ((fl_u_ne (by first | exact nc_ rfl | decide | omega)))) (show F7_ (123) j = F (123) j from (s9_ (123) j (by first | exact fs_c rfl | exact (fs_n (by omega) (fs_n (by omega) (fs_n (by omega) (fs_n (by omega) rfl)))))))))]; exact h9_)), by rcases hlk with ⟨h1_, h2_, T, cp, -, -, -, -, -, -, h3_⟩ | ⟨h1_, h2_, h3_⟩ | ⟨h1_, h2_, h3_⟩ <;> first | (exfalso; omega) | exact Or.inl ⟨by omega, by omega, by omega, by rw [show F1 331 12 = F1 331 12 from rfl]; exact h3_⟩ | exact Or.inr (Or.inl ⟨by omega, by omega, h3_⟩)⟩)⟩
        exfalso; omega
      refine ga_aload_n (v := .ref 331) hm_139 rfl rfl rfl ?_
      refine ga_aload_n (v := .ref 331) hm_139 rfl rfl rfl ?_
      obtain ⟨T, cp, t1_, t2_, t3_, t4_, t5_, t6_, t7_⟩ : ∃ T cp, tS F1 T ∧ cms (pC F) mo.toNat [(F 120 4, 0)] T ∧ clsd (pC F) T cp ∧ (∀ i : Nat, i < T.length → due (pC F) T cp i (F1 334 i)) ∧ (1 ≤ T.length ∧ T.length ≤ mo.toNat) ∧ (∀ i : Nat, i < T.length → 0 ≤ ca T i ∧ ca T i ≤ 999 * (i : Int)) ∧ k + (phi pa cp T : Int) ≤ 1000 := by
        rcases hlk with ⟨-, -, h9_⟩ | ⟨h9_, -⟩ | ⟨-, h9_, -⟩
        · exact h9_
        · exfalso; omega
        · exfalso; omega
      have t11_ := t1_.1
      refine gVi (nY := 3) (F := 1) (L := 21) (As := []) (b := 331) (rest := [.ref 331]) hm_139 rfl hm_138 rfl rfl (fl_ob sc_331) rfl rfl rfl rfl rfl (by omega) (by omega) (mc_138v hG F1 X hg_F1) (fun _ _ h => False.elim h) ?_
      have b96_ : 0 ≤ F1 331 8 ∧ F1 331 8 ≤ 200 := gi_g hg_F1 rfl
      rintro z95_ A1_ ⟨hA_, c97_, c98_⟩
      subst hA_
      refine ga_puti (z := z95_) hm_139 rfl sc_331 rfl rfl ?_
      refine ga_aload_n (v := .ref 331) hm_139 rfl rfl rfl ?_
      refine ga_geti (z := z95_) hm_139 rfl sc_331 rfl (fl_u_eq) ?_
      refine ga_ldci (z := 2147483647) hm_139 rfl (by decide) ?_
      refine fx_icmp_ne (a := z95_) (b := 2147483647) hm_139 rfl ⟨by omega, by omega⟩ ⟨by omega, by omega⟩ (fun h99_ => ?_) (fun h100_ => ?_)
      ·
        refine ga_aload_n (v := .ref 331) hm_139 rfl rfl rfl ?_
        obtain ⟨F101_, q102_⟩ : ∃ Fq_, Fq_ = (fl_u F1 331 12 z95_) := ⟨_, rfl⟩
        rw [← q102_]
        have g103_ : gi F101_ := by rw [q102_]; exact gi_u (hg_F1) rfl (by omega) (by omega)
        have g104_ : fs [(331, 331, 8, 12), (332, 339, 0, 100000)] F F101_ := by rw [q102_]; exact fs_u (g41_) rfl
        have e105_ : F101_ 331 10 = F1 331 10 := by rw [q102_]; exact fl_u_ne (by first | exact nc_ rfl | decide | omega)
        have e106_ : F101_ 331 11 = F1 331 11 := by rw [q102_]; exact fl_u_ne (by first | exact nc_ rfl | decide | omega)
        have e107_ : F101_ 331 12 = z95_ := by rw [q102_]; exact fl_u_eq
        refine gVv (nY := 3) (F := 4) (L := 101) (As := []) (b := 331) (rest := []) hm_139 rfl hm_134 rfl rfl (fl_ob sc_331) rfl rfl rfl rfl rfl (by omega) (by omega) (mc_134v hG F101_ X g103_ ((pC F)) (T) (cp) (li_cg hl1 ((show F101_ 331 8 = F1 331 8 from (by rw [q102_]; exact (fl_u_ne (by first | exact nc_ rfl | decide | omega))))) ((show F101_ 331 11 = F1 331 11 from (by rw [q102_]; exact (fl_u_ne (by first | exact nc_ rfl | decide | omega))))) (fun i => (show F101_ 335 i = F1 335 i from (by rw [q102_]; exact (fl_u_ne (by first | exact nc_ rfl | decide | omega)))))) ((pC_cg (by omega) (fun r j hr => (Eq.trans (a := F101_ (r) j) (b := F1 (r) j) (by rw [q102_]; exact (fl_u_ne (by first | exact nc_ rfl | decide | omega))) (Eq.trans (a := F1 (r) j) (b := F33_ (r) j) (hf_F1 (r) j (by first | exact fs_c rfl | exact (fs_n (by omega) (fs_n (by omega) rfl)))) (Eq.trans (a := F33_ (r) j) (b := F13_ (r) j) (s35_ (r) j (by first | exact fs_c rfl | exact (fs_n (by omega) (fs_n (by omega) (fs_n (by omega) rfl))))) (Eq.trans (a := F13_ (r) j) (b := F7_ (r) j) (by rw [q14_]; exact (fl_u_ne (by first | exact nc_ rfl | decide | omega)).trans ((fl_u_ne (by first | exact nc_ rfl | decide | omega)))) (show F7_ (r) j = F (r) j from (s9_ (r) j (by first | exact fs_c rfl | exact (fs_n (by omega) (fs_n (by omega) (fs_n (by omega) (fs_n (by omega) rfl))))))))))))).symm) ((ts_cg t1_ ((show F101_ 331 8 = F1 331 8 from (by rw [q102_]; exact (fl_u_ne (by first | exact nc_ rfl | decide | omega))))) (fun j => (show F101_ 332 j = F1 332 j from (by rw [q102_]; exact (fl_u_ne (by first | exact nc_ rfl | decide | omega))))) (fun j => (show F101_ 333 j = F1 333 j from (by rw [q102_]; exact (fl_u_ne (by first | exact nc_ rfl | decide | omega))))) (fun j => (show F101_ 338 j = F1 338 j from (by rw [q102_]; exact (fl_u_ne (by first | exact nc_ rfl | decide | omega))))))) (by omega) (by omega) (by obtain ⟨i, s, i1_, s1_, e1_⟩ := due_at (g := F1 334) (c := z95_) t4_ (by rcases c98_.2 with h9_ | ⟨i, h8_, h9_⟩; omega; exact ⟨i, by omega, h9_⟩) (by omega); have h7_ := t6_ i i1_; have h6_ := pr_b hgi s s1_ (fun s hs => (hpa s hs).1); have h5_ := t5_.2; omega) (fun i hi => by have h9_ := t6_ i hi; have h8_ := t5_.2; omega) (by rw [show F101_ 331 12 = z95_ from e107_]; exact (due_lc (g := F1 334) t4_ (by rcases c98_.2 with h9_ | ⟨i, h8_, h9_⟩; omega; exact ⟨i, by omega, h9_⟩) (fun i hi => c98_.1 i (by omega)) (by omega))) (fun i hi => by rw [show F101_ 334 i = F1 334 i from (show F101_ 334 i = F1 334 i from (by rw [q102_]; exact (fl_u_ne (by first | exact nc_ rfl | decide | omega))))]; exact t4_ i hi)) (fun _ _ h => False.elim h) ?_
        have e109_ : F101_ 331 8 = F1 331 8 := by rw [q102_]; exact fl_u_ne (by first | exact nc_ rfl | decide | omega)
        rintro A1_ ⟨F113_, hA_, g114_, s115_, c110_, c111_, c112_⟩
        subst hA_
        have g116_ : fs [(331, 331, 8, 12), (332, 339, 0, 100000)] F F113_ := fs_tr g104_ s115_ rfl
        try simp only [e109_] at c111_
        refine ga_inc (a := k) (c := k + 1) (lv2 := [(2, .int (Int32.ofInt (k + 1))), (0, .ref 331), (1, .int (Int32.ofInt mo))]) hm_139 rfl rfl (Nat.le_of_ble_eq_true rfl) rfl rfl ?_
        refine fl_goto hm_139 rfl ?_
        have e117_ : F101_ 331 9 = F1 331 9 := by rw [q102_]; exact fl_u_ne (by first | exact nc_ rfl | decide | omega)
        have e118_ : F113_ 331 9 = F1 331 9 := (s115_ 331 9 rfl).trans (e117_)
        have b119_ : 0 ≤ F1 331 9 ∧ F1 331 9 ≤ 200 := gi_g hg_F1 rfl
        have e120_ : F113_ 331 12 = z95_ := (s115_ 331 12 rfl).trans (e107_)
        exact ih39_ _ (by omega) (k + 1) F113_ rfl g114_ (fs_tr (by rw [q102_]; exact fs_u (hf_F1) rfl) s115_ rfl) (⟨by omega, by omega⟩) (c110_) (by omega) (by have e9_ : F101_ 331 9 = mo := Eq.trans ((show F101_ 331 9 = F1 331 9 from (by rw [q102_]; exact (fl_u_ne (by first | exact nc_ rfl | decide | omega))))) h9; have h9_ := lk_s (Fc := F101_) (F2 := F113_) (P := pC F) (T0 := [(F 120 4, 0)]) (T := T) (cp := cp) (c := z95_) (k := k) (pa := pa) (pC_cg (by omega) (fun r j hr => (Eq.trans (a := F101_ (r) j) (b := F1 (r) j) (by rw [q102_]; exact (fl_u_ne (by first | exact nc_ rfl | decide | omega))) (Eq.trans (a := F1 (r) j) (b := F33_ (r) j) (hf_F1 (r) j (by first | exact fs_c rfl | exact (fs_n (by omega) (fs_n (by omega) rfl)))) (Eq.trans (a := F33_ (r) j) (b := F13_ (r) j) (s35_ (r) j (by first | exact fs_c rfl | exact (fs_n (by omega) (fs_n (by omega) (fs_n (by omega) rfl))))) (Eq.trans (a := F13_ (r) j) (b := F7_ (r) j) (by rw [q14_]; exact (fl_u_ne (by first | exact nc_ rfl | decide | omega)).trans ((fl_u_ne (by first | exact nc_ rfl | decide | omega)))) (show F7_ (r) j = F (r) j from (s9_ (r) j (by first | exact fs_c rfl | exact (fs_n (by omega) (fs_n (by omega) (fs_n (by omega) (fs_n (by omega) rfl))))))))))))).symm (e107_) (by rw [e9_]; exact t2_) t3_ (due_lc (g := F1 334) t4_ (by rcases c98_.2 with h9_ | ⟨i, h8_, h9_⟩; omega; exact ⟨i, by omega, h9_⟩) (fun i hi => c98_.1 i (by omega)) (by omega)) (fun s hs => pr_b hgi s hs (fun s hs => (hpa s hs).1)) (fun s hs => pr_a s hs (fun s hs => (hpa s hs).2)) (due_at (g := F1 334) t4_ (by rcases c98_.2 with h9_ | ⟨i, h8_, h9_⟩; omega; exact ⟨i, by omega, h9_⟩) (by omega)) t6_ (by rw [e9_]; exact t5_) (by rw [e9_]; omega) t7_ c112_ (gi_g g114_ rfl) (by omega); rw [e9_] at h9_; exact h9_)
      obtain ⟨F121_, q122_⟩ : ∃ Fq_, Fq_ = (fl_u F1 331 12 z95_) := ⟨_, rfl⟩
      rw [← q122_]
      have g123_ : gi F121_ := by rw [q122_]; exact gi_u (hg_F1) rfl (by omega) (by omega)
      have g124_ : fs [(331, 331, 8, 12), (332, 339, 0, 100000)] F F121_ := by rw [q122_]; exact fs_u (g41_) rfl
      refine gr_v hm_139 rfl rfl ?_
      have e125_ : F121_ 331 11 = F1 331 11 := by rw [q122_]; exact fl_u_ne (by first | exact nc_ rfl | decide | omega)
      have e126_ : F121_ 335 200 = F1 335 200 := by rw [q122_]; exact fl_u_ne (by first | exact nc_ rfl | decide | omega)
      have b127_ : -2147483648 ≤ F1 335 200 ∧ F1 335 200 ≤ 2147483647 := gi_g hg_F1 rfl
      have e128_ : F121_ 331 10 = F1 331 10 := by rw [q122_]; exact fl_u_ne (by first | exact nc_ rfl | decide | omega)
      have e129_ : F121_ 331 12 = z95_ := by rw [q122_]; exact fl_u_eq
      exact ⟨F121_, rfl, g123_, g124_, ((li_cg hl1 ((show F121_ 331 8 = F1 331 8 from (by rw [q122_]; exact (fl_u_ne (by first | exact nc_ rfl | decide | omega))))) ((show F121_ 331 11 = F1 331 11 from (by rw [q122_]; exact (fl_u_ne (by first | exact nc_ rfl | decide | omega))))) (fun i => (show F121_ 335 i = F1 335 i from (by rw [q122_]; exact (fl_u_ne (by first | exact nc_ rfl | decide | omega)))))).2.2), (Or.inr ⟨(show ¬ gC F (F 120 4) from fun h9_ => c18_ (by rw [hN_cg (F := F) (F' := F13_) (fun j => (Eq.trans (a := F13_ (123) j) (b := F7_ (123) j) (by rw [q14_]; exact (fl_u_ne (by first | exact nc_ rfl | decide | omega)).trans ((fl_u_ne (by first | exact nc_ rfl | decide | omega)))) (show F7_ (123) j = F (123) j from (s9_ (123) j (by first | exact fs_c rfl | exact (fs_n (by omega) (fs_n (by omega) (fs_n (by omega) (fs_n (by omega) rfl)))))))))]; exact h9_)), Or.inr (Or.inr ⟨by omega, by omega, cms_end t2_ t3_ (due_end (g := F1 334) t4_ (fun i hi => by have h9_ := c98_.1 i (by omega); omega) (fun i s hi hs => by have h9_ := t6_ i hi; have h8_ := pr_b hgi s hs (fun s hs => (hpa s hs).1); have h7_ := t5_.2; omega))⟩)⟩)⟩
    have e130_ : F13_ 331 9 = mo := by rw [q14_]; exact (fl_u_ne (by first | exact nc_ rfl | decide | omega)).trans (fl_u_eq)
    have e131_ : F33_ 331 9 = mo := (s35_ 331 9 rfl).trans (e130_)
    have e132_ : F13_ 331 10 = F7_ 331 10 := by rw [q14_]; exact (fl_u_ne (by first | exact nc_ rfl | decide | omega)).trans (fl_u_ne (by first | exact nc_ rfl | decide | omega))
    have e133_ : F33_ 331 10 = F7_ 331 10 := (s35_ 331 10 rfl).trans (e132_)
    have e134_ : F13_ 331 11 = F7_ 331 11 := by rw [q14_]; exact (fl_u_ne (by first | exact nc_ rfl | decide | omega)).trans (fl_u_ne (by first | exact nc_ rfl | decide | omega))
    have e135_ : F33_ 331 11 = F7_ 331 11 := (s35_ 331 11 rfl).trans (e134_)
    exact L38_ _ (0) F33_ rfl g34_ fs_refl (⟨by omega, by omega⟩) (li_0 (F := F13_) (by first | exact c2_ | exact (Eq.trans ((show F13_ 331 8 = F7_ 331 8 from (by rw [q14_]; exact (fl_u_ne (by first | exact nc_ rfl | decide | omega)).trans ((fl_u_ne (by first | exact nc_ rfl | decide | omega)))))) c2_)) (Eq.trans ((show F13_ 331 11 = F7_ 331 11 from (by rw [q14_]; exact (fl_u_ne (by first | exact nc_ rfl | decide | omega)).trans ((fl_u_ne (by first | exact nc_ rfl | decide | omega)))))) c3_) (Eq.trans ((show F13_ 335 200 = F7_ 335 200 from (by rw [q14_]; exact (fl_u_ne (by first | exact nc_ rfl | decide | omega)).trans ((fl_u_ne (by first | exact nc_ rfl | decide | omega)))))) c4_) c27_ c28_ c29_ ((show F33_ 331 11 = F13_ 331 11 from (s35_ 331 11 (by first | exact fs_c rfl | exact (fs_n (by omega) (fs_n (by omega) (fs_n (by omega) rfl)))))))) (by omega) (lk_0 c30_ (by omega) (by omega) (show ¬ gC F (F 120 4) from fun h9_ => c18_ (by rw [hN_cg (F := F) (F' := F13_) (fun j => (Eq.trans (a := F13_ (123) j) (b := F7_ (123) j) (by rw [q14_]; exact (fl_u_ne (by first | exact nc_ rfl | decide | omega)).trans ((fl_u_ne (by first | exact nc_ rfl | decide | omega)))) (show F7_ (123) j = F (123) j from (s9_ (123) j (by first | exact fs_c rfl | exact (fs_n (by omega) (fs_n (by omega) (fs_n (by omega) (fs_n (by omega) rfl)))))))))]; exact h9_)) (sdu_cg (by omega) c31_ (fun r j hr => (Eq.trans (a := F13_ (r) j) (b := F7_ (r) j) (by rw [q14_]; exact (fl_u_ne (by first | exact nc_ rfl | decide | omega)).trans ((fl_u_ne (by first | exact nc_ rfl | decide | omega)))) (show F7_ (r) j = F (r) j from (s9_ (r) j (by first | exact fs_c rfl | exact (fs_n (by omega) (fs_n (by omega) (fs_n (by omega) (fs_n (by omega) rfl)))))))))) (by omega) (fun s hs => (hpa s hs).1))
  subst hA_
  subst hz_
  refine fl_if_eq hm_139 rfl ⟨by omega, by omega⟩ (fun h => absurd h (by omega)) (fun _ => ?_)
  refine ga_aload_n (v := .ref 331) hm_139 rfl rfl rfl ?_
  refine fl_iconst hm_139 rfl ?_
  refine ga_putz (z := 1) hm_139 rfl sc_331 rfl rfl (by omega) ?_
  refine ga_aload_n (v := .ref 331) hm_139 rfl rfl rfl ?_
  refine ga_getr (b := 335) hm_139 rfl sc_331 rfl ?_
  refine fl_sipush hm_139 rfl rfl ?_
  refine fl_iconst hm_139 rfl ?_
  refine fl_iast (z := 200) (v := 0) hm_139 rfl sc_335 (by omega) (by omega) (by omega) ?_
  obtain ⟨F136_, q137_⟩ : ∃ Fq_, Fq_ = (fl_u (fl_u F13_ 331 11 1) 335 (200 : Int).toNat 0) := ⟨_, rfl⟩
  rw [← q137_]
  have g138_ : gi F136_ := by rw [q137_]; exact gi_u (gi_u (g15_) rfl (by omega) (by omega)) rfl (by omega) (by omega)
  have g139_ : fs [(331, 331, 8, 12), (332, 339, 0, 100000)] F F136_ := by rw [q137_]; exact fs_u (fs_u (g16_) rfl) rfl
  refine gr_v hm_139 rfl rfl ?_
  have e140_ : F136_ 331 11 = 1 := by rw [q137_]; exact (fl_u_ne (by first | exact nc_ rfl | decide | omega)).trans (fl_u_eq)
  have e141_ : F136_ 335 200 = 0 := by rw [q137_]; exact fl_u_eq
  have e142_ : F13_ 331 10 = F7_ 331 10 := by rw [q14_]; exact (fl_u_ne (by first | exact nc_ rfl | decide | omega)).trans (fl_u_ne (by first | exact nc_ rfl | decide | omega))
  have e143_ : F136_ 331 10 = F7_ 331 10 := by rw [q137_]; exact (fl_u_ne (by first | exact nc_ rfl | decide | omega)).trans ((fl_u_ne (by first | exact nc_ rfl | decide | omega)).trans (e142_))
  have e144_ : F13_ 331 12 = 0 := by rw [q14_]; exact fl_u_eq
  have e145_ : F136_ 331 12 = 0 := by rw [q137_]; exact (fl_u_ne (by first | exact nc_ rfl | decide | omega)).trans ((fl_u_ne (by first | exact nc_ rfl | decide | omega)).trans (e144_))
  exact ⟨F136_, rfl, g138_, g139_, (fun _ => by rw [e141_]; omega), (Or.inl ⟨(show gC F (F 120 4) from by have h9_ := c19_; rw [hN_cg (F := F) (F' := F13_) (fun j => (Eq.trans (a := F13_ (123) j) (b := F7_ (123) j) (by rw [q14_]; exact (fl_u_ne (by first | exact nc_ rfl | decide | omega)).trans ((fl_u_ne (by first | exact nc_ rfl | decide | omega)))) (show F7_ (123) j = F (123) j from (s9_ (123) j (by first | exact fs_c rfl | exact (fs_n (by omega) (fs_n (by omega) (fs_n (by omega) (fs_n (by omega) rfl)))))))))] at h9_; exact h9_), by omega, by omega, by omega⟩)⟩

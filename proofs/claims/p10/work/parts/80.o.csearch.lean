/- CheapPlanner$Search.traceSteps -/
abbrev pq_143v (G : Nat → Nat → Option Nat) (F : fl_N) (X : xi_H) (V : List wy_T) (b : Int) (W : wy_T) : Outcome → xi_H → Prop := gqv (fun A => ∃ F' : fl_N, fl_H sh_T G F' ++ X = A ∧ gi F' ∧ fs [(339, 339, 0, 100000)] F F' ∧ (∀ j : Nat, j < W.length → F' 339 j = W.getD j 0)) gqn
theorem mc_143v {G : Nat → Nat → Option Nat} (hG : gg G) (F : fl_N) (X : xi_H) (hgi : gi F) (V : List wy_T) (b : Int) (W : wy_T) (hl : 0 ≤ F 335 200 ∧ F 335 200 ≤ 200) (hch : chn (F 335) (F 336) (F 337) V b) (hwr : wyC F V 200 W) (hwl : F 335 200 = (W.length : Int)) : fl_M xi_ms 143 0 0 [.ref 331] (fl_H sh_T G F ++ X) (pq_143v G F X V b W) := by
  intro fr lo hfr hlo
  show fl_R xi_ms 143 fr lo 0 [(0, .ref 331)] [] _ _
  refine fl_sipush hm_143 rfl rfl ?_
  refine ga_istore_n (lv2 := [(1, .int (Int32.ofInt 200)), (0, .ref 331)]) hm_143 rfl (Nat.le_of_ble_eq_true rfl) rfl ?_
  refine ga_aload_n (v := .ref 331) hm_143 rfl rfl rfl ?_
  refine ga_getr (b := 335) hm_143 rfl sc_331 rfl ?_
  refine fl_sipush hm_143 rfl rfl ?_
  have b1_ : -2147483648 ≤ F 335 200 ∧ F 335 200 ≤ 2147483647 := gi_g hgi rfl
  refine ga_iald (z := 200) (w := F 335 200) hm_143 rfl sc_335 (by omega) (by omega) (by omega) (rfl) ?_
  refine fl_iconst hm_143 rfl ?_
  refine ga_isub (a := F 335 200) (b := 1) (c := F 335 200 - 1) hm_143 rfl (by omega) ?_
  refine ga_istore_n (lv2 := [(2, .int (Int32.ofInt (F 335 200 - 1))), (1, .int (Int32.ofInt 200)), (0, .ref 331)]) hm_143 rfl (Nat.le_of_ble_eq_true rfl) rfl ?_
  have L3_ : ∀ (n2_ : Nat) (k : Int) (w : Int) (F1 : fl_N), (k + 1 : Int).toNat = n2_ → (gi F1) → (fs [(339, 339, 0, 100000)] F F1) → (-1 ≤ k ∧ k ≤ 199) → (0 ≤ w ∧ w ≤ 200) → (wkC F (F1 339) V W w k) → fl_R xi_ms 143 fr lo 15 [(2, .int (Int32.ofInt k)), (1, .int (Int32.ofInt w)), (0, .ref 331)] [] (fl_H sh_T G F1 ++ X) (pq_143v G F X V b W) := by
    intro n2_
    induction n2_ using Nat.strongRecOn with
    | ind n2_ ih4_ =>
    intro k w F1 hn5_ hg_F1 hf_F1 hk hw hwk
    have g6_ : fs [(339, 339, 0, 100000)] F F1 := fs_tr fs_refl hf_F1 rfl
    refine ga_iload_n (z := k) hm_143 rfl rfl ?_
    refine fl_if_lt (a := k) hm_143 rfl ⟨by omega, by omega⟩ (fun h7_ => ?_) (fun h8_ => ?_)
    ·
      refine gr_v hm_143 rfl rfl ?_
      exact ⟨F1, rfl, hg_F1, g6_, (wc_e hwk (by omega))⟩
    refine ga_aload_n (v := .ref 331) hm_143 rfl rfl rfl ?_
    refine ga_getr (b := 339) hm_143 rfl sc_331 rfl ?_
    refine ga_iload_n (z := k) hm_143 rfl rfl ?_
    refine ga_aload_n (v := .ref 331) hm_143 rfl rfl rfl ?_
    refine ga_getr (b := 337) hm_143 rfl sc_331 rfl ?_
    refine ga_iload_n (z := w) hm_143 rfl rfl ?_
    have e9_ : F1 337 w.toNat = F 337 w.toNat := (hf_F1 337 w.toNat (by first | exact fs_c rfl | exact (fs_n (by omega) rfl))).trans (rfl)
    have b10_ : 0 ≤ F 337 w.toNat ∧ F 337 w.toNat ≤ 40 := gi_g hgi rfl
    refine ga_iald (z := w) (w := F 337 w.toNat) hm_143 rfl sc_337 (by omega) (by omega) (by omega) (e9_) ?_
    refine fl_iast (z := k) (v := F 337 w.toNat) hm_143 rfl sc_339 (by omega) (by omega) (by omega) ?_
    refine ga_aload_n (v := .ref 331) hm_143 rfl rfl rfl ?_
    refine ga_getr (b := 336) hm_143 rfl sc_331 rfl ?_
    refine ga_iload_n (z := w) hm_143 rfl rfl ?_
    have e11_ : F1 336 w.toNat = F 336 w.toNat := (hf_F1 336 w.toNat (by first | exact fs_c rfl | exact (fs_n (by omega) rfl))).trans (rfl)
    have b12_ : 0 ≤ F 336 w.toNat ∧ F 336 w.toNat ≤ 199 := gi_g hgi rfl
    refine ga_iald (z := w) (w := F 336 w.toNat) hm_143 rfl sc_336 (by omega) (by omega) (by omega) ((fl_u_ne (by first | exact nc_ rfl | decide | omega)).trans (e11_)) ?_
    refine ga_istore_n (lv2 := [(1, .int (Int32.ofInt (F 336 w.toNat))), (2, .int (Int32.ofInt k)), (0, .ref 331)]) hm_143 rfl (Nat.le_of_ble_eq_true rfl) rfl ?_
    refine ga_inc (a := k) (c := k - 1) (lv2 := [(2, .int (Int32.ofInt (k - 1))), (1, .int (Int32.ofInt (F 336 w.toNat))), (0, .ref 331)]) hm_143 rfl rfl (Nat.le_of_ble_eq_true rfl) (by omega) rfl ?_
    refine fl_goto hm_143 rfl ?_
    obtain ⟨F13_, q14_⟩ : ∃ Fq_, Fq_ = (fl_u F1 339 k.toNat (F 337 w.toNat)) := ⟨_, rfl⟩
    rw [← q14_]
    have g15_ : gi F13_ := by rw [q14_]; exact gi_u (hg_F1) rfl (by omega) (by omega)
    have g16_ : fs [(339, 339, 0, 100000)] F F13_ := by rw [q14_]; exact fs_u (g6_) (fs_y (by omega))
    exact ih4_ _ (by omega) (k - 1) (F 336 w.toNat) F13_ rfl g15_ (by rw [q14_]; exact fs_u (hf_F1) (fs_y (by omega))) (⟨by omega, by omega⟩) (⟨by omega, by omega⟩) (by rw [q14_]; exact wc_s hch hwk (by omega) (fun j hj => fl_u_ne (by first | exact nc_ rfl | decide | omega)) fl_u_eq)
  exact L3_ _ (F 335 200 - 1) (200) F rfl hgi fs_refl (⟨by omega, by omega⟩) (⟨by omega, by omega⟩) (wc_0 hwr (by omega))
/- CheapPlanner$Search.forget -/
abbrev pq_40v (G : Nat → Nat → Option Nat) (F : fl_N) (X : xi_H)  : Outcome → xi_H → Prop := gqv (fun A => ∃ F' : fl_N, fl_H sh_T G F' ++ X = A ∧ gi F' ∧ fs [(331, 331, 8, 8), (331, 331, 10, 11), (335, 335, 0, 100000), (338, 338, 0, 100000)] F F' ∧ (F' 331 8 = 0) ∧ (F' 331 11 = 0) ∧ (F' 335 200 = 2147483647) ∧ (∀ j : Nat, j < 512 → F' 338 j = 0) ∧ (F' 331 10 = 0)) gqn
theorem mc_40v {G : Nat → Nat → Option Nat} (hG : gg G) (F : fl_N) (X : xi_H) (hgi : gi F)  : fl_M xi_ms 40 1 23 [.ref 331] (fl_H sh_T G F ++ X) (pq_40v G F X) := by
  intro fr lo hfr hlo
  show fl_R xi_ms 40 fr lo 0 [(0, .ref 331)] [] _ _
  refine ga_aload_n (v := .ref 331) hm_40 rfl rfl rfl ?_
  refine fl_iconst hm_40 rfl ?_
  refine ga_putz (z := 0) hm_40 rfl sc_331 rfl rfl (by omega) ?_
  refine ga_aload_n (v := .ref 331) hm_40 rfl rfl rfl ?_
  refine fl_iconst hm_40 rfl ?_
  refine ga_putz (z := 0) hm_40 rfl sc_331 rfl rfl (by omega) ?_
  refine ga_aload_n (v := .ref 331) hm_40 rfl rfl rfl ?_
  refine fl_iconst hm_40 rfl ?_
  refine ga_puti (z := 0) hm_40 rfl sc_331 rfl rfl ?_
  refine ga_aload_n (v := .ref 331) hm_40 rfl rfl rfl ?_
  refine ga_getr (b := 335) hm_40 rfl sc_331 rfl ?_
  refine fl_sipush hm_40 rfl rfl ?_
  refine ga_ldci (z := 2147483647) hm_40 rfl (by decide) ?_
  refine fl_iast (z := 200) (v := 2147483647) hm_40 rfl sc_335 (by omega) (by omega) (by omega) ?_
  refine ga_aload_n (v := .ref 331) hm_40 rfl rfl rfl ?_
  refine ga_getr (b := 338) hm_40 rfl sc_331 rfl ?_
  refine fl_iconst hm_40 rfl ?_
  obtain ⟨F1_, q2_⟩ : ∃ Fq_, Fq_ = (fl_u (fl_u (fl_u (fl_u F 331 11 0) 331 10 0) 331 8 0) 335 (200 : Int).toNat 2147483647) := ⟨_, rfl⟩
  rw [← q2_]
  have g3_ : gi F1_ := by rw [q2_]; exact gi_u (gi_u (gi_u (gi_u (hgi) rfl (by omega) (by omega)) rfl (by omega) (by omega)) rfl (by omega) (by omega)) rfl (by omega) (by omega)
  have g4_ : fs [(331, 331, 8, 8), (331, 331, 10, 11), (335, 335, 0, 100000), (338, 338, 0, 100000)] F F1_ := by rw [q2_]; exact fs_u (fs_u (fs_u (fs_u (fs_refl) rfl) rfl) rfl) rfl
  refine gSv (nY := 4) (F := 0) (L := 0) (As := [.ref 338, .int (Int32.ofInt 0)]) (rest := []) hm_40 rfl hm_43 rfl rfl (fl_pos sc_0) rfl rfl rfl rfl (by omega) (by omega) (mc_43 hG F1_ X g3_ (338) (512) (0) (0) (200) sc_338 (fun _ => rfl) (⟨by omega, by omega⟩) (by omega) (⟨by omega, by omega⟩))  ?_
  rintro A1_ ⟨F7_, hA_, g8_, s9_, c6_⟩
  subst hA_
  have g10_ : fs [(331, 331, 8, 8), (331, 331, 10, 11), (335, 335, 0, 100000), (338, 338, 0, 100000)] F F7_ := fs_tr g4_ s9_ rfl
  refine gr_v hm_40 rfl rfl ?_
  have e11_ : F1_ 331 8 = 0 := by rw [q2_]; exact (fl_u_ne (by first | exact nc_ rfl | decide | omega)).trans (fl_u_eq)
  have e12_ : F7_ 331 8 = 0 := (s9_ 331 8 rfl).trans (e11_)
  have e13_ : F1_ 331 11 = 0 := by rw [q2_]; exact (fl_u_ne (by first | exact nc_ rfl | decide | omega)).trans ((fl_u_ne (by first | exact nc_ rfl | decide | omega)).trans ((fl_u_ne (by first | exact nc_ rfl | decide | omega)).trans (fl_u_eq)))
  have e14_ : F7_ 331 11 = 0 := (s9_ 331 11 rfl).trans (e13_)
  have e15_ : F1_ 335 200 = 2147483647 := by rw [q2_]; exact fl_u_eq
  have e16_ : F7_ 335 200 = 2147483647 := (s9_ 335 200 rfl).trans (e15_)
  have e17_ : F1_ 331 10 = 0 := by rw [q2_]; exact (fl_u_ne (by first | exact nc_ rfl | decide | omega)).trans ((fl_u_ne (by first | exact nc_ rfl | decide | omega)).trans (fl_u_eq))
  have e18_ : F7_ 331 10 = 0 := (s9_ 331 10 rfl).trans (e17_)
  exact ⟨F7_, rfl, g8_, g10_, (by omega), (by omega), (by omega), (fun j hj => Eq.trans (rfl) (c6_ j (by omega))), (by omega)⟩
/- CheapPlanner$Search.look -/
abbrev pq_139v (G : Nat → Nat → Option Nat) (F : fl_N) (X : xi_H) (mo : Int) (pa : Nat → Int) : Outcome → xi_H → Prop := gqv (fun A => ∃ F' : fl_N, fl_H sh_T G F' ++ X = A ∧ gi F' ∧ fs [(331, 331, 8, 12), (332, 339, 0, 100000)] F F' ∧ (F' 331 11 = 1 → 0 ≤ F' 335 200 ∧ F' 335 200 ≤ 200) ∧ (∃ o v w, plF F mo o v w ∧ lkG F' o v w)) gqn
theorem mc_139v {G : Nat → Nat → Option Nat} (hG : gg G) (F : fl_N) (X : xi_H) (hgi : gi F) (mo : Int) (pa : Nat → Int) (hmo : 1 ≤ mo ∧ mo ≤ 200) (hpa : ∀ s : Nat, (s : Int) < F 120 3 → 1 ≤ F (126 + 5 * s) 2 ∧ ∃ a, a < 5 ∧ F (126 + 5 * s) 2 = pa a) : fl_M xi_ms 139 5 123 [.ref 331, .int (Int32.ofInt mo)] (fl_H sh_T G F ++ X) (pq_139v G F X mo pa) := by
  intro fr lo hfr hlo
  show fl_R xi_ms 139 fr lo 0 [(0, .ref 331), (1, .int (Int32.ofInt mo))] [] _ _
  have hb123 : 0 ≤ F 120 3 ∧ F 120 3 ≤ 41 := gi_g hgi rfl
  refine ga_aload_n (v := .ref 331) hm_139 rfl rfl rfl ?_
  refine gVv (nY := 1) (F := 1) (L := 23) (As := []) (b := 331) (rest := []) hm_139 rfl hm_40 rfl rfl (fl_ob sc_331) rfl rfl rfl rfl rfl (by omega) (by omega) (mc_40v hG F X hgi) (fun _ _ h => False.elim h) ?_
  rintro A1_ ⟨F7_, hA_, g8_, s9_, c2_, c3_, c4_, c5_, c6_⟩
  subst hA_
  have g10_ : fs [(331, 331, 8, 12), (332, 339, 0, 100000)] F F7_ := fs_tr fs_refl s9_ rfl
  refine ga_aload_n (v := .ref 331) hm_139 rfl rfl rfl ?_
  refine ga_iload_n (z := mo) hm_139 rfl rfl ?_
  refine ga_puti (z := mo) hm_139 rfl sc_331 rfl rfl ?_
  refine ga_aload_n (v := .ref 331) hm_139 rfl rfl rfl ?_
  refine fl_iconst hm_139 rfl ?_
  refine ga_puti (z := 0) hm_139 rfl sc_331 rfl rfl ?_
  refine ga_aload_n (v := .ref 331) hm_139 rfl rfl rfl ?_
  refine ga_getr (b := 120) hm_139 rfl sc_331 rfl ?_
  refine ga_getr (b := 123) hm_139 rfl sc_120 rfl ?_
  refine ga_aload_n (v := .ref 331) hm_139 rfl rfl rfl ?_
  refine ga_getr (b := 120) hm_139 rfl sc_331 rfl ?_
  have e11_ : F7_ 120 4 = F 120 4 := (s9_ 120 4 rfl).trans (rfl)
  have b12_ : -9223372036854775808 ≤ F 120 4 ∧ F 120 4 ≤ 9223372036854775807 := gi_g hgi rfl
  refine ga_getl (z := F 120 4) hm_139 rfl sc_120 rfl ((fl_u_ne (by first | exact nc_ rfl | decide | omega)).trans ((fl_u_ne (by first | exact nc_ rfl | decide | omega)).trans (e11_))) ?_
  obtain ⟨F13_, q14_⟩ : ∃ Fq_, Fq_ = (fl_u (fl_u F7_ 331 9 mo) 331 12 0) := ⟨_, rfl⟩
  rw [← q14_]
  have g15_ : gi F13_ := by rw [q14_]; exact gi_u (gi_u (g8_) rfl (by omega) (by omega)) rfl (by omega) (by omega)
  have g16_ : fs [(331, 331, 8, 12), (332, 339, 0, 100000)] F F13_ := by rw [q14_]; exact fs_u (fs_u (g10_) rfl) rfl
  refine gVi (nY := 3) (F := 0) (L := 0) (As := [.long (Int64.ofInt (F 120 4))]) (b := 123) (rest := []) hm_139 rfl hm_115 rfl rfl (fl_ob sc_123) rfl rfl rfl rfl rfl (by omega) (by omega) (mc_115v hG F13_ X g15_ (123) (F 120 4) nd_123 (⟨by omega, by omega⟩)) (fun _ _ h => False.elim h) ?_
  rintro z17_ A1_ (⟨hA_, hz_, c18_⟩ | ⟨hA_, hz_, c19_⟩)
  ·
    subst hA_
    subst hz_
    refine fl_if_eq hm_139 rfl ⟨by omega, by omega⟩ (fun _ => ?_) (fun h => absurd (by omega) h)
    refine ga_aload_n (v := .ref 331) hm_139 rfl rfl rfl ?_
    refine ga_aload_n (v := .ref 331) hm_139 rfl rfl rfl ?_
    refine ga_aload_n (v := .ref 331) hm_139 rfl rfl rfl ?_
    refine ga_getr (b := 120) hm_139 rfl sc_331 rfl ?_
    have e20_ : F13_ 120 4 = F 120 4 := by rw [q14_]; exact (fl_u_ne (by first | exact nc_ rfl | decide | omega)).trans ((fl_u_ne (by first | exact nc_ rfl | decide | omega)).trans (e11_))
    refine ga_getl (z := F 120 4) hm_139 rfl sc_120 rfl (e20_) ?_
    refine gVi (nY := 5) (F := 0) (L := 0) (As := [.long (Int64.ofInt (F 120 4))]) (b := 331) (rest := [.ref 331]) hm_139 rfl hm_142 rfl rfl (fl_ob sc_331) rfl rfl rfl rfl rfl (by omega) (by omega) (mc_142v hG F13_ X g15_ (F 120 4) (⟨by omega, by omega⟩) (⟨0, by omega, by omega, by show F13_ 338 0 = 0; exact Eq.trans ((show F13_ 338 0 = F7_ 338 0 from (by rw [q14_]; exact (fl_u_ne (by first | exact nc_ rfl | decide | omega)).trans ((fl_u_ne (by first | exact nc_ rfl | decide | omega)))))) (c5_ 0 (by omega))⟩)) (fun _ _ h => False.elim h) ?_
    rintro z21_ A1_ ⟨hA_, c22_, c23_⟩
    subst hA_
    refine ga_aload_n (v := .ref 331) hm_139 rfl rfl rfl ?_
    refine ga_getr (b := 120) hm_139 rfl sc_331 rfl ?_
    refine ga_getl (z := F 120 4) hm_139 rfl sc_120 rfl (e20_) ?_
    refine fl_iconst hm_139 rfl ?_
    have e24_ : F13_ 331 8 = F7_ 331 8 := by rw [q14_]; exact (fl_u_ne (by first | exact nc_ rfl | decide | omega)).trans (fl_u_ne (by first | exact nc_ rfl | decide | omega))
    have b25_ : 0 ≤ F7_ 331 8 ∧ F7_ 331 8 ≤ 200 := gi_g g8_ rfl
    refine gVv (nY := 5) (F := 1) (L := 25) (As := [.int (Int32.ofInt z21_), .long (Int64.ofInt (F 120 4)), .int (Int32.ofInt 0)]) (b := 331) (rest := []) hm_139 rfl hm_129 rfl rfl (fl_ob sc_331) rfl rfl rfl rfl rfl (by omega) (by omega) (mc_129v hG F13_ X g15_ (z21_) (F 120 4) (0) ([]) (⟨by omega, by omega⟩) (⟨by omega, by omega⟩) (⟨by omega, by omega⟩) (by omega) (tS_0 (by omega) (fun j hj => Eq.trans ((show F13_ 338 j = F7_ 338 j from (by rw [q14_]; exact (fl_u_ne (by first | exact nc_ rfl | decide | omega)).trans ((fl_u_ne (by first | exact nc_ rfl | decide | omega)))))) (c5_ j (by omega)))) (c23_) (rfl) (⟨by omega, by omega⟩)) (fun _ _ h => False.elim h) ?_
    rintro A1_ ⟨F34_, hA_, g35_, s36_, c27_, c28_, c29_, c30_, c31_, c32_, c33_⟩
    subst hA_
    have g37_ : fs [(331, 331, 8, 12), (332, 339, 0, 100000)] F F34_ := fs_tr g16_ s36_ rfl
    try simp only [e24_] at c27_
    try simp only [e24_] at c28_
    try simp only [e24_] at c29_
    try simp only [e24_] at c33_
    refine fl_iconst hm_139 rfl ?_
    refine ga_istore_n (lv2 := [(2, .int (Int32.ofInt 0)), (0, .ref 331), (1, .int (Int32.ofInt mo))]) hm_139 rfl (Nat.le_of_ble_eq_true rfl) rfl ?_
    have L39_ : ∀ (n38_ : Nat) (k : Int) (F1 : fl_N), (1001 - k : Int).toNat = n38_ → (gi F1) → (fs [(331, 331, 8, 12), (332, 339, 0, 100000)] F34_ F1) → (0 ≤ k ∧ k ≤ 1001) → (li F1) → (F1 331 9 = mo) → (lkV F1 (pC F) mo.toNat [(F 120 4, 0)] pa k) → fl_R xi_ms 139 fr lo 74 [(2, .int (Int32.ofInt k)), (0, .ref 331), (1, .int (Int32.ofInt mo))] [] (fl_H sh_T G F1 ++ X) (pq_139v G F X mo pa) := by
      intro n38_
      induction n38_ using Nat.strongRecOn with
      | ind n38_ ih40_ =>
      intro k F1 hn41_ hg_F1 hf_F1 hk hl1 h9 hlk
      have g42_ : fs [(331, 331, 8, 12), (332, 339, 0, 100000)] F F1 := fs_tr g37_ hf_F1 rfl
      refine ga_iload_n (z := k) hm_139 rfl rfl ?_
      refine fl_sipush hm_139 rfl rfl ?_
      refine fl_icmp_gt (a := k) (b := 1000) hm_139 rfl ⟨by omega, by omega⟩ ⟨by omega, by omega⟩ (fun h43_ => ?_) (fun h44_ => ?_)
      ·
        refine ga_aload_n (v := .ref 331) hm_139 rfl rfl rfl ?_
        have b45_ : 0 ≤ F1 331 11 ∧ F1 331 11 ≤ 1 := gi_g hg_F1 rfl
        refine ga_geti (z := F1 331 11) hm_139 rfl sc_331 rfl (rfl) ?_
        refine fl_if_eq (a := F1 331 11) hm_139 rfl ⟨by omega, by omega⟩ (fun h46_ => ?_) (fun h47_ => ?_)
        ·
          refine gr_v hm_139 rfl rfl ?_
          have b48_ : -2147483648 ≤ F1 335 200 ∧ F1 335 200 ≤ 2147483647 := gi_g hg_F1 rfl
          exact ⟨F1, rfl, hg_F1, g42_, ((hl1).2.2), (⟨3, 0, [], Or.inr ⟨(show ¬ gC F (F 120 4) from fun h9_ => c18_ (by rw [hN_cg (F := F) (F' := F13_) (fun j => (Eq.trans (a := F13_ (123) j) (b := F7_ (123) j) (by rw [q14_]; exact (fl_u_ne (by first | exact nc_ rfl | decide | omega)).trans ((fl_u_ne (by first | exact nc_ rfl | decide | omega)))) (show F7_ (123) j = F (123) j from (s9_ (123) j (by first | exact fs_c rfl | exact (fs_n (by omega) (fs_n (by omega) (fs_n (by omega) (fs_n (by omega) rfl)))))))))]; exact h9_)), (lkv_w hlk (by omega) (by omega)).2⟩, Or.inr (Or.inr ⟨rfl, rfl, rfl, by omega, by have h9_ := (lkv_w hlk (by omega) (by omega)).1; omega⟩)⟩)⟩
        refine ga_aload_n (v := .ref 331) hm_139 rfl rfl rfl ?_
        refine fl_iconst hm_139 rfl ?_
        refine ga_putz (z := 0) hm_139 rfl sc_331 rfl rfl (by omega) ?_
        refine ga_aload_n (v := .ref 331) hm_139 rfl rfl rfl ?_
        obtain ⟨u0_, w_, Vw_, bw_, u1_, u2_, u3_, u4_⟩ := lkv_f hlk (by omega)
        obtain ⟨F49_, q50_⟩ : ∃ Fq_, Fq_ = (fl_u F1 331 10 0) := ⟨_, rfl⟩
        rw [← q50_]
        have g51_ : gi F49_ := by rw [q50_]; exact gi_u (hg_F1) rfl (by omega) (by omega)
        have g52_ : fs [(331, 331, 8, 12), (332, 339, 0, 100000)] F F49_ := by rw [q50_]; exact fs_u (g42_) rfl
        refine gVv (nY := 3) (F := 0) (L := 0) (As := []) (b := 331) (rest := []) hm_139 rfl hm_143 rfl rfl (fl_ob sc_331) rfl rfl rfl rfl rfl (by omega) (by omega) (mc_143v hG F49_ X g51_ (Vw_) (bw_) (w_) (by have h9_ := hl1.2.2 (by omega); rw [(show F49_ 335 200 = F1 335 200 from (by rw [q50_]; exact (fl_u_ne (by first | exact nc_ rfl | decide | omega))))]; exact h9_) ((chn_cg u2_ (fun i_ _ => (show F49_ 335 i_ = F1 335 i_ from (by rw [q50_]; exact (fl_u_ne (by first | exact nc_ rfl | decide | omega))))) (fun i_ _ => (show F49_ 336 i_ = F1 336 i_ from (by rw [q50_]; exact (fl_u_ne (by first | exact nc_ rfl | decide | omega))))) (fun i_ _ => (show F49_ 337 i_ = F1 337 i_ from (by rw [q50_]; exact (fl_u_ne (by first | exact nc_ rfl | decide | omega))))))) (wyC_cg u3_ ((show F49_ 336 200 = F1 336 200 from (by rw [q50_]; exact (fl_u_ne (by first | exact nc_ rfl | decide | omega))))) ((show F49_ 337 200 = F1 337 200 from (by rw [q50_]; exact (fl_u_ne (by first | exact nc_ rfl | decide | omega)))))) (Eq.trans ((show F49_ 335 200 = F1 335 200 from (by rw [q50_]; exact (fl_u_ne (by first | exact nc_ rfl | decide | omega))))) u4_)) (fun _ _ h => False.elim h) ?_
        rintro A1_ ⟨F55_, hA_, g56_, s57_, c54_⟩
        subst hA_
        have g58_ : fs [(331, 331, 8, 12), (332, 339, 0, 100000)] F F55_ := fs_tr g52_ s57_ rfl
        refine gr_v hm_139 rfl rfl ?_
        have e59_ : F49_ 331 11 = F1 331 11 := by rw [q50_]; exact fl_u_ne (by first | exact nc_ rfl | decide | omega)
        have e60_ : F55_ 331 11 = F1 331 11 := (s57_ 331 11 rfl).trans (e59_)
        have e61_ : F49_ 335 200 = F1 335 200 := by rw [q50_]; exact fl_u_ne (by first | exact nc_ rfl | decide | omega)
        have e62_ : F55_ 335 200 = F1 335 200 := (s57_ 335 200 rfl).trans (e61_)
        have b63_ : -2147483648 ≤ F1 335 200 ∧ F1 335 200 ≤ 2147483647 := gi_g hg_F1 rfl
        have e64_ : F49_ 331 10 = 0 := by rw [q50_]; exact fl_u_eq
        have e65_ : F55_ 331 10 = 0 := (s57_ 331 10 rfl).trans (e64_)
        have e66_ : F49_ 331 12 = F1 331 12 := by rw [q50_]; exact fl_u_ne (by first | exact nc_ rfl | decide | omega)
        have e67_ : F55_ 331 12 = F1 331 12 := (s57_ 331 12 rfl).trans (e66_)
        exact ⟨F55_, rfl, g56_, g58_, ((li_cg hl1 ((Eq.trans (a := F55_ 331 8) (b := F49_ 331 8) (s57_ 331 8 (by first | exact fs_c rfl | exact (fs_n (by omega) rfl))) (show F49_ 331 8 = F1 331 8 from (by rw [q50_]; exact (fl_u_ne (by first | exact nc_ rfl | decide | omega)))))) ((Eq.trans (a := F55_ 331 11) (b := F49_ 331 11) (s57_ 331 11 (by first | exact fs_c rfl | exact (fs_n (by omega) rfl))) (show F49_ 331 11 = F1 331 11 from (by rw [q50_]; exact (fl_u_ne (by first | exact nc_ rfl | decide | omega)))))) (fun i => (Eq.trans (a := F55_ 335 i) (b := F49_ 335 i) (s57_ 335 i (by first | exact fs_c rfl | exact (fs_n (by omega) rfl))) (show F49_ 335 i = F1 335 i from (by rw [q50_]; exact (fl_u_ne (by first | exact nc_ rfl | decide | omega))))))).2.2), (⟨0, F1 331 12, w_, Or.inr ⟨(show ¬ gC F (F 120 4) from fun h9_ => c18_ (by rw [hN_cg (F := F) (F' := F13_) (fun j => (Eq.trans (a := F13_ (123) j) (b := F7_ (123) j) (by rw [q14_]; exact (fl_u_ne (by first | exact nc_ rfl | decide | omega)).trans ((fl_u_ne (by first | exact nc_ rfl | decide | omega)))) (show F7_ (123) j = F (123) j from (s9_ (123) j (by first | exact fs_c rfl | exact (fs_n (by omega) (fs_n (by omega) (fs_n (by omega) (fs_n (by omega) rfl)))))))))]; exact h9_)), u1_⟩, Or.inl ⟨rfl, by omega, by omega, by omega, (Eq.trans (a := F55_ 331 12) (b := F49_ 331 12) (s57_ 331 12 (by first | exact fs_c rfl | exact (fs_n (by omega) rfl))) (show F49_ 331 12 = F1 331 12 from (by rw [q50_]; exact (fl_u_ne (by first | exact nc_ rfl | decide | omega))))), Eq.trans ((Eq.trans (a := F55_ 335 200) (b := F49_ 335 200) (s57_ 335 200 (by first | exact fs_c rfl | exact (fs_n (by omega) rfl))) (show F49_ 335 200 = F1 335 200 from (by rw [q50_]; exact (fl_u_ne (by first | exact nc_ rfl | decide | omega)))))) u4_, c54_⟩⟩)⟩
      refine ga_aload_n (v := .ref 331) hm_139 rfl rfl rfl ?_
      have b68_ : 0 ≤ F1 331 11 ∧ F1 331 11 ≤ 1 := gi_g hg_F1 rfl
      refine ga_geti (z := F1 331 11) hm_139 rfl sc_331 rfl (rfl) ?_
      refine fx_if_ne (a := F1 331 11) hm_139 rfl ⟨by omega, by omega⟩ (fun h69_ => ?_) (fun h70_ => ?_)
      ·
        refine ga_aload_n (v := .ref 331) hm_139 rfl rfl rfl ?_
        refine ga_geti (z := F1 331 11) hm_139 rfl sc_331 rfl (rfl) ?_
        refine fl_if_eq (a := F1 331 11) hm_139 rfl ⟨by omega, by omega⟩ (fun h71_ => ?_) (fun h72_ => ?_)
        · exfalso; omega
        refine ga_aload_n (v := .ref 331) hm_139 rfl rfl rfl ?_
        refine fl_iconst hm_139 rfl ?_
        refine ga_putz (z := 0) hm_139 rfl sc_331 rfl rfl (by omega) ?_
        refine ga_aload_n (v := .ref 331) hm_139 rfl rfl rfl ?_
        obtain ⟨u0_, w_, Vw_, bw_, u1_, u2_, u3_, u4_⟩ := lkv_f hlk (by omega)
        obtain ⟨F73_, q74_⟩ : ∃ Fq_, Fq_ = (fl_u F1 331 10 0) := ⟨_, rfl⟩
        rw [← q74_]
        have g75_ : gi F73_ := by rw [q74_]; exact gi_u (hg_F1) rfl (by omega) (by omega)
        have g76_ : fs [(331, 331, 8, 12), (332, 339, 0, 100000)] F F73_ := by rw [q74_]; exact fs_u (g42_) rfl
        refine gVv (nY := 3) (F := 0) (L := 0) (As := []) (b := 331) (rest := []) hm_139 rfl hm_143 rfl rfl (fl_ob sc_331) rfl rfl rfl rfl rfl (by omega) (by omega) (mc_143v hG F73_ X g75_ (Vw_) (bw_) (w_) (by have h9_ := hl1.2.2 (by omega); rw [(show F73_ 335 200 = F1 335 200 from (by rw [q74_]; exact (fl_u_ne (by first | exact nc_ rfl | decide | omega))))]; exact h9_) ((chn_cg u2_ (fun i_ _ => (show F73_ 335 i_ = F1 335 i_ from (by rw [q74_]; exact (fl_u_ne (by first | exact nc_ rfl | decide | omega))))) (fun i_ _ => (show F73_ 336 i_ = F1 336 i_ from (by rw [q74_]; exact (fl_u_ne (by first | exact nc_ rfl | decide | omega))))) (fun i_ _ => (show F73_ 337 i_ = F1 337 i_ from (by rw [q74_]; exact (fl_u_ne (by first | exact nc_ rfl | decide | omega))))))) (wyC_cg u3_ ((show F73_ 336 200 = F1 336 200 from (by rw [q74_]; exact (fl_u_ne (by first | exact nc_ rfl | decide | omega))))) ((show F73_ 337 200 = F1 337 200 from (by rw [q74_]; exact (fl_u_ne (by first | exact nc_ rfl | decide | omega)))))) (Eq.trans ((show F73_ 335 200 = F1 335 200 from (by rw [q74_]; exact (fl_u_ne (by first | exact nc_ rfl | decide | omega))))) u4_)) (fun _ _ h => False.elim h) ?_
        rintro A1_ ⟨F79_, hA_, g80_, s81_, c78_⟩
        subst hA_
        have g82_ : fs [(331, 331, 8, 12), (332, 339, 0, 100000)] F F79_ := fs_tr g76_ s81_ rfl
        refine gr_v hm_139 rfl rfl ?_
        have e83_ : F73_ 331 11 = F1 331 11 := by rw [q74_]; exact fl_u_ne (by first | exact nc_ rfl | decide | omega)
        have e84_ : F79_ 331 11 = F1 331 11 := (s81_ 331 11 rfl).trans (e83_)
        have e85_ : F73_ 335 200 = F1 335 200 := by rw [q74_]; exact fl_u_ne (by first | exact nc_ rfl | decide | omega)
        have e86_ : F79_ 335 200 = F1 335 200 := (s81_ 335 200 rfl).trans (e85_)
        have b87_ : -2147483648 ≤ F1 335 200 ∧ F1 335 200 ≤ 2147483647 := gi_g hg_F1 rfl
        have e88_ : F73_ 331 10 = 0 := by rw [q74_]; exact fl_u_eq
        have e89_ : F79_ 331 10 = 0 := (s81_ 331 10 rfl).trans (e88_)
        have e90_ : F73_ 331 12 = F1 331 12 := by rw [q74_]; exact fl_u_ne (by first | exact nc_ rfl | decide | omega)
        have e91_ : F79_ 331 12 = F1 331 12 := (s81_ 331 12 rfl).trans (e90_)
        exact ⟨F79_, rfl, g80_, g82_, ((li_cg hl1 ((Eq.trans (a := F79_ 331 8) (b := F73_ 331 8) (s81_ 331 8 (by first | exact fs_c rfl | exact (fs_n (by omega) rfl))) (show F73_ 331 8 = F1 331 8 from (by rw [q74_]; exact (fl_u_ne (by first | exact nc_ rfl | decide | omega)))))) ((Eq.trans (a := F79_ 331 11) (b := F73_ 331 11) (s81_ 331 11 (by first | exact fs_c rfl | exact (fs_n (by omega) rfl))) (show F73_ 331 11 = F1 331 11 from (by rw [q74_]; exact (fl_u_ne (by first | exact nc_ rfl | decide | omega)))))) (fun i => (Eq.trans (a := F79_ 335 i) (b := F73_ 335 i) (s81_ 335 i (by first | exact fs_c rfl | exact (fs_n (by omega) rfl))) (show F73_ 335 i = F1 335 i from (by rw [q74_]; exact (fl_u_ne (by first | exact nc_ rfl | decide | omega))))))).2.2), (⟨0, F1 331 12, w_, Or.inr ⟨(show ¬ gC F (F 120 4) from fun h9_ => c18_ (by rw [hN_cg (F := F) (F' := F13_) (fun j => (Eq.trans (a := F13_ (123) j) (b := F7_ (123) j) (by rw [q14_]; exact (fl_u_ne (by first | exact nc_ rfl | decide | omega)).trans ((fl_u_ne (by first | exact nc_ rfl | decide | omega)))) (show F7_ (123) j = F (123) j from (s9_ (123) j (by first | exact fs_c rfl | exact (fs_n (by omega) (fs_n (by omega) (fs_n (by omega) (fs_n (by omega) rfl)))))))))]; exact h9_)), u1_⟩, Or.inl ⟨rfl, by omega, by omega, by omega, (Eq.trans (a := F79_ 331 12) (b := F73_ 331 12) (s81_ 331 12 (by first | exact fs_c rfl | exact (fs_n (by omega) rfl))) (show F73_ 331 12 = F1 331 12 from (by rw [q74_]; exact (fl_u_ne (by first | exact nc_ rfl | decide | omega))))), Eq.trans ((Eq.trans (a := F79_ 335 200) (b := F73_ 335 200) (s81_ 335 200 (by first | exact fs_c rfl | exact (fs_n (by omega) rfl))) (show F73_ 335 200 = F1 335 200 from (by rw [q74_]; exact (fl_u_ne (by first | exact nc_ rfl | decide | omega)))))) u4_, c78_⟩⟩)⟩
      refine ga_aload_n (v := .ref 331) hm_139 rfl rfl rfl ?_
      have b92_ : 0 ≤ F1 331 10 ∧ F1 331 10 ≤ 1 := gi_g hg_F1 rfl
      refine ga_geti (z := F1 331 10) hm_139 rfl sc_331 rfl (rfl) ?_
      refine fx_if_ne (a := F1 331 10) hm_139 rfl ⟨by omega, by omega⟩ (fun h93_ => ?_) (fun h94_ => ?_)
      ·
        refine ga_aload_n (v := .ref 331) hm_139 rfl rfl rfl ?_
        refine ga_geti (z := F1 331 11) hm_139 rfl sc_331 rfl (rfl) ?_
        refine fl_if_eq (a := F1 331 11) hm_139 rfl ⟨by omega, by omega⟩ (fun h95_ => ?_) (fun h96_ => ?_)
        ·
          refine gr_v hm_139 rfl rfl ?_
          have b97_ : -2147483648 ≤ F1 335 200 ∧ F1 335 200 ≤ 2147483647 := gi_g hg_F1 rfl
          exact ⟨F1, rfl, hg_F1, g42_, ((hl1).2.2), (⟨3, 0, [], Or.inr ⟨(show ¬ gC F (F 120 4) from fun h9_ => c18_ (by rw [hN_cg (F := F) (F' := F13_) (fun j => (Eq.trans (a := F13_ (123) j) (b := F7_ (123) j) (by rw [q14_]; exact (fl_u_ne (by first | exact nc_ rfl | decide | omega)).trans ((fl_u_ne (by first | exact nc_ rfl | decide | omega)))) (show F7_ (123) j = F (123) j from (s9_ (123) j (by first | exact fs_c rfl | exact (fs_n (by omega) (fs_n (by omega) (fs_n (by omega) (fs_n (by omega) rfl)))))))))]; exact h9_)), (lkv_w hlk (by omega) (by omega)).2⟩, Or.inr (Or.inr ⟨rfl, rfl, rfl, by omega, by have h9_ := (lkv_w hlk (by omega) (by omega)).1; omega⟩)⟩)⟩
        exfalso; omega
      refine ga_aload_n (v := .ref 331) hm_139 rfl rfl rfl ?_
      refine ga_aload_n (v := .ref 331) hm_139 rfl rfl rfl ?_
      obtain ⟨T, V, cp, ⟨t1_, t2_, t3_, t4_, t5_, t6_, t7_⟩, t8_, t9_, t10_, t12_⟩ := lkv_c hlk (by omega) (by omega)
      have t11_ := t1_.1
      refine gVi (nY := 3) (F := 1) (L := 21) (As := []) (b := 331) (rest := [.ref 331]) hm_139 rfl hm_138 rfl rfl (fl_ob sc_331) rfl rfl rfl rfl rfl (by omega) (by omega) (mc_138v hG F1 X hg_F1) (fun _ _ h => False.elim h) ?_
      have b99_ : 0 ≤ F1 331 8 ∧ F1 331 8 ≤ 200 := gi_g hg_F1 rfl
      rintro z98_ A1_ ⟨hA_, c100_, c101_⟩
      subst hA_
      refine ga_puti (z := z98_) hm_139 rfl sc_331 rfl rfl ?_
      refine ga_aload_n (v := .ref 331) hm_139 rfl rfl rfl ?_
      refine ga_geti (z := z98_) hm_139 rfl sc_331 rfl (fl_u_eq) ?_
      refine ga_ldci (z := 2147483647) hm_139 rfl (by decide) ?_
      refine fx_icmp_ne (a := z98_) (b := 2147483647) hm_139 rfl ⟨by omega, by omega⟩ ⟨by omega, by omega⟩ (fun h102_ => ?_) (fun h103_ => ?_)
      ·
        refine ga_aload_n (v := .ref 331) hm_139 rfl rfl rfl ?_
        obtain ⟨F104_, q105_⟩ : ∃ Fq_, Fq_ = (fl_u F1 331 12 z98_) := ⟨_, rfl⟩
        rw [← q105_]
        have g106_ : gi F104_ := by rw [q105_]; exact gi_u (hg_F1) rfl (by omega) (by omega)
        have g107_ : fs [(331, 331, 8, 12), (332, 339, 0, 100000)] F F104_ := by rw [q105_]; exact fs_u (g42_) rfl
        have e108_ : F104_ 331 10 = F1 331 10 := by rw [q105_]; exact fl_u_ne (by first | exact nc_ rfl | decide | omega)
        have e109_ : F104_ 331 11 = F1 331 11 := by rw [q105_]; exact fl_u_ne (by first | exact nc_ rfl | decide | omega)
        have e110_ : F104_ 331 12 = z98_ := by rw [q105_]; exact fl_u_eq
        refine gVv (nY := 3) (F := 4) (L := 101) (As := []) (b := 331) (rest := []) hm_139 rfl hm_134 rfl rfl (fl_ob sc_331) rfl rfl rfl rfl rfl (by omega) (by omega) (mc_134v hG F104_ X g106_ ((pC F)) (T) (cp) (V) (li_cg hl1 ((show F104_ 331 8 = F1 331 8 from (by rw [q105_]; exact (fl_u_ne (by first | exact nc_ rfl | decide | omega))))) ((show F104_ 331 11 = F1 331 11 from (by rw [q105_]; exact (fl_u_ne (by first | exact nc_ rfl | decide | omega))))) (fun i => (show F104_ 335 i = F1 335 i from (by rw [q105_]; exact (fl_u_ne (by first | exact nc_ rfl | decide | omega)))))) ((pC_cg (by omega) (fun r j hr => (Eq.trans (a := F104_ (r) j) (b := F1 (r) j) (by rw [q105_]; exact (fl_u_ne (by first | exact nc_ rfl | decide | omega))) (Eq.trans (a := F1 (r) j) (b := F34_ (r) j) (hf_F1 (r) j (by first | exact fs_c rfl | exact (fs_n (by omega) (fs_n (by omega) rfl)))) (Eq.trans (a := F34_ (r) j) (b := F13_ (r) j) (s36_ (r) j (by first | exact fs_c rfl | exact (fs_n (by omega) (fs_n (by omega) (fs_n (by omega) rfl))))) (Eq.trans (a := F13_ (r) j) (b := F7_ (r) j) (by rw [q14_]; exact (fl_u_ne (by first | exact nc_ rfl | decide | omega)).trans ((fl_u_ne (by first | exact nc_ rfl | decide | omega)))) (show F7_ (r) j = F (r) j from (s9_ (r) j (by first | exact fs_c rfl | exact (fs_n (by omega) (fs_n (by omega) (fs_n (by omega) (fs_n (by omega) rfl))))))))))))).symm) ((ts_cg t1_ ((show F104_ 331 8 = F1 331 8 from (by rw [q105_]; exact (fl_u_ne (by first | exact nc_ rfl | decide | omega))))) (fun j => (show F104_ 332 j = F1 332 j from (by rw [q105_]; exact (fl_u_ne (by first | exact nc_ rfl | decide | omega))))) (fun j => (show F104_ 333 j = F1 333 j from (by rw [q105_]; exact (fl_u_ne (by first | exact nc_ rfl | decide | omega))))) (fun j => (show F104_ 338 j = F1 338 j from (by rw [q105_]; exact (fl_u_ne (by first | exact nc_ rfl | decide | omega))))))) (by omega) (by omega) (by obtain ⟨i, s, i1_, s1_, e1_⟩ := due_at (g := F1 334) (c := z98_) t4_ (by rcases c101_.2 with h9_ | ⟨i, h8_, h9_⟩; omega; exact ⟨i, by omega, h9_⟩) (by omega); have h7_ := t6_ i i1_; have h6_ := pr_b hgi s s1_ (fun s hs => (hpa s hs).1); have h5_ := t5_.2; omega) (fun i hi => by have h9_ := t6_ i hi; have h8_ := t5_.2; omega) (by rw [show F104_ 331 12 = z98_ from e110_]; exact (due_lc (g := F1 334) t4_ (by rcases c101_.2 with h9_ | ⟨i, h8_, h9_⟩; omega; exact ⟨i, by omega, h9_⟩) (fun i hi => c101_.1 i (by omega)) (by omega))) (fun i hi => by rw [show F104_ 334 i = F1 334 i from (show F104_ 334 i = F1 334 i from (by rw [q105_]; exact (fl_u_ne (by first | exact nc_ rfl | decide | omega))))]; exact t4_ i hi) ((chn_cg t8_ (fun i_ _ => (show F104_ 335 i_ = F1 335 i_ from (by rw [q105_]; exact (fl_u_ne (by first | exact nc_ rfl | decide | omega))))) (fun i_ _ => (show F104_ 336 i_ = F1 336 i_ from (by rw [q105_]; exact (fl_u_ne (by first | exact nc_ rfl | decide | omega))))) (fun i_ _ => (show F104_ 337 i_ = F1 337 i_ from (by rw [q105_]; exact (fl_u_ne (by first | exact nc_ rfl | decide | omega))))))) (Eq.trans ((show F104_ 335 200 = F1 335 200 from (by rw [q105_]; exact (fl_u_ne (by first | exact nc_ rfl | decide | omega))))) t12_) (t9_) (t10_) (fun j hj => by rw [show F104_ 331 12 = z98_ from e110_]; have h9_ := cl_ca t3_ hj; have h8_ := ((due_lc (g := F1 334) t4_ (by rcases c101_.2 with h9_ | ⟨i, h8_, h9_⟩; omega; exact ⟨i, by omega, h9_⟩) (fun i hi => c101_.1 i (by omega)) (by omega))).1; omega)) (fun _ _ h => False.elim h) ?_
        have e112_ : F104_ 331 8 = F1 331 8 := by rw [q105_]; exact fl_u_ne (by first | exact nc_ rfl | decide | omega)
        have e113_ : F104_ 331 9 = F1 331 9 := by rw [q105_]; exact fl_u_ne (by first | exact nc_ rfl | decide | omega)
        have b114_ : 0 ≤ F1 331 9 ∧ F1 331 9 ≤ 200 := gi_g hg_F1 rfl
        rintro A1_ ⟨F119_, hA_, g120_, s121_, c115_, c116_, c117_, c118_⟩
        subst hA_
        have g122_ : fs [(331, 331, 8, 12), (332, 339, 0, 100000)] F F119_ := fs_tr g107_ s121_ rfl
        try simp only [e112_] at c116_
        try simp only [e110_, e113_] at c118_
        refine ga_inc (a := k) (c := k + 1) (lv2 := [(2, .int (Int32.ofInt (k + 1))), (0, .ref 331), (1, .int (Int32.ofInt mo))]) hm_139 rfl rfl (Nat.le_of_ble_eq_true rfl) rfl rfl ?_
        refine fl_goto hm_139 rfl ?_
        have e123_ : F119_ 331 9 = F1 331 9 := (s121_ 331 9 rfl).trans (e113_)
        have e124_ : F119_ 331 12 = z98_ := (s121_ 331 12 rfl).trans (e110_)
        exact ih40_ _ (by omega) (k + 1) F119_ rfl g120_ (fs_tr (by rw [q105_]; exact fs_u (hf_F1) rfl) s121_ rfl) (⟨by omega, by omega⟩) (c115_) (by omega) (by have e9_ : F104_ 331 9 = mo := Eq.trans ((show F104_ 331 9 = F1 331 9 from (by rw [q105_]; exact (fl_u_ne (by first | exact nc_ rfl | decide | omega))))) h9; have h9_ := lkv_s (V := V) (Fc := F104_) (F2 := F119_) (P := pC F) (T0 := [(F 120 4, 0)]) (T := T) (cp := cp) (c := z98_) (k := k) (pa := pa) (pC_cg (by omega) (fun r j hr => (Eq.trans (a := F104_ (r) j) (b := F1 (r) j) (by rw [q105_]; exact (fl_u_ne (by first | exact nc_ rfl | decide | omega))) (Eq.trans (a := F1 (r) j) (b := F34_ (r) j) (hf_F1 (r) j (by first | exact fs_c rfl | exact (fs_n (by omega) (fs_n (by omega) rfl)))) (Eq.trans (a := F34_ (r) j) (b := F13_ (r) j) (s36_ (r) j (by first | exact fs_c rfl | exact (fs_n (by omega) (fs_n (by omega) (fs_n (by omega) rfl))))) (Eq.trans (a := F13_ (r) j) (b := F7_ (r) j) (by rw [q14_]; exact (fl_u_ne (by first | exact nc_ rfl | decide | omega)).trans ((fl_u_ne (by first | exact nc_ rfl | decide | omega)))) (show F7_ (r) j = F (r) j from (s9_ (r) j (by first | exact fs_c rfl | exact (fs_n (by omega) (fs_n (by omega) (fs_n (by omega) (fs_n (by omega) rfl))))))))))))).symm (e110_) (by rw [e9_]; exact t2_) t3_ (due_lc (g := F1 334) t4_ (by rcases c101_.2 with h9_ | ⟨i, h8_, h9_⟩; omega; exact ⟨i, by omega, h9_⟩) (fun i hi => c101_.1 i (by omega)) (by omega)) (fun s hs => pr_b hgi s hs (fun s hs => (hpa s hs).1)) (fun s hs => pr_a s hs (fun s hs => (hpa s hs).2)) (due_at (g := F1 334) t4_ (by rcases c101_.2 with h9_ | ⟨i, h8_, h9_⟩; omega; exact ⟨i, by omega, h9_⟩) (by omega)) t6_ (by rw [e9_]; exact t5_) (by rw [e9_]; omega) t7_ c117_ (gi_g g120_ rfl) (by omega) (by rw [show F104_ 331 9 = F1 331 9 from (show F104_ 331 9 = F1 331 9 from (by rw [q105_]; exact (fl_u_ne (by first | exact nc_ rfl | decide | omega)))), show F104_ 331 12 = z98_ from e110_]; exact c118_) t9_ t10_; rw [e9_] at h9_; exact h9_)
      obtain ⟨F125_, q126_⟩ : ∃ Fq_, Fq_ = (fl_u F1 331 12 z98_) := ⟨_, rfl⟩
      rw [← q126_]
      have g127_ : gi F125_ := by rw [q126_]; exact gi_u (hg_F1) rfl (by omega) (by omega)
      have g128_ : fs [(331, 331, 8, 12), (332, 339, 0, 100000)] F F125_ := by rw [q126_]; exact fs_u (g42_) rfl
      refine gr_v hm_139 rfl rfl ?_
      have e129_ : F125_ 331 11 = F1 331 11 := by rw [q126_]; exact fl_u_ne (by first | exact nc_ rfl | decide | omega)
      have e130_ : F125_ 335 200 = F1 335 200 := by rw [q126_]; exact fl_u_ne (by first | exact nc_ rfl | decide | omega)
      have b131_ : -2147483648 ≤ F1 335 200 ∧ F1 335 200 ≤ 2147483647 := gi_g hg_F1 rfl
      have e132_ : F125_ 331 10 = F1 331 10 := by rw [q126_]; exact fl_u_ne (by first | exact nc_ rfl | decide | omega)
      have e133_ : F125_ 331 12 = z98_ := by rw [q126_]; exact fl_u_eq
      exact ⟨F125_, rfl, g127_, g128_, ((li_cg hl1 ((show F125_ 331 8 = F1 331 8 from (by rw [q126_]; exact (fl_u_ne (by first | exact nc_ rfl | decide | omega))))) ((show F125_ 331 11 = F1 331 11 from (by rw [q126_]; exact (fl_u_ne (by first | exact nc_ rfl | decide | omega))))) (fun i => (show F125_ 335 i = F1 335 i from (by rw [q126_]; exact (fl_u_ne (by first | exact nc_ rfl | decide | omega)))))).2.2), (⟨0, -1, [], Or.inr ⟨(show ¬ gC F (F 120 4) from fun h9_ => c18_ (by rw [hN_cg (F := F) (F' := F13_) (fun j => (Eq.trans (a := F13_ (123) j) (b := F7_ (123) j) (by rw [q14_]; exact (fl_u_ne (by first | exact nc_ rfl | decide | omega)).trans ((fl_u_ne (by first | exact nc_ rfl | decide | omega)))) (show F7_ (123) j = F (123) j from (s9_ (123) j (by first | exact fs_c rfl | exact (fs_n (by omega) (fs_n (by omega) (fs_n (by omega) (fs_n (by omega) rfl)))))))))]; exact h9_)), cmv_end t2_ t3_ (due_end (g := F1 334) t4_ (fun i hi => by have h9_ := c101_.1 i (by omega); omega) (fun i s hi hs => by have h9_ := t6_ i hi; have h8_ := pr_b hgi s hs (fun s hs => (hpa s hs).1); have h7_ := t5_.2; omega))⟩, Or.inr (Or.inl ⟨rfl, rfl, rfl, by omega, by omega⟩)⟩)⟩
    have e134_ : F13_ 331 9 = mo := by rw [q14_]; exact (fl_u_ne (by first | exact nc_ rfl | decide | omega)).trans (fl_u_eq)
    have e135_ : F34_ 331 9 = mo := (s36_ 331 9 rfl).trans (e134_)
    have e136_ : F13_ 331 10 = F7_ 331 10 := by rw [q14_]; exact (fl_u_ne (by first | exact nc_ rfl | decide | omega)).trans (fl_u_ne (by first | exact nc_ rfl | decide | omega))
    have e137_ : F34_ 331 10 = F7_ 331 10 := (s36_ 331 10 rfl).trans (e136_)
    have e138_ : F13_ 331 11 = F7_ 331 11 := by rw [q14_]; exact (fl_u_ne (by first | exact nc_ rfl | decide | omega)).trans (fl_u_ne (by first | exact nc_ rfl | decide | omega))
    have e139_ : F34_ 331 11 = F7_ 331 11 := (s36_ 331 11 rfl).trans (e138_)
    exact L39_ _ (0) F34_ rfl g35_ fs_refl (⟨by omega, by omega⟩) (li_0 (F := F13_) (by first | exact c2_ | exact (Eq.trans ((show F13_ 331 8 = F7_ 331 8 from (by rw [q14_]; exact (fl_u_ne (by first | exact nc_ rfl | decide | omega)).trans ((fl_u_ne (by first | exact nc_ rfl | decide | omega)))))) c2_)) (Eq.trans ((show F13_ 331 11 = F7_ 331 11 from (by rw [q14_]; exact (fl_u_ne (by first | exact nc_ rfl | decide | omega)).trans ((fl_u_ne (by first | exact nc_ rfl | decide | omega)))))) c3_) (Eq.trans ((show F13_ 335 200 = F7_ 335 200 from (by rw [q14_]; exact (fl_u_ne (by first | exact nc_ rfl | decide | omega)).trans ((fl_u_ne (by first | exact nc_ rfl | decide | omega)))))) c4_) c27_ c28_ c29_ ((show F34_ 331 11 = F13_ 331 11 from (s36_ 331 11 (by first | exact fs_c rfl | exact (fs_n (by omega) (fs_n (by omega) (fs_n (by omega) rfl)))))))) (by omega) (lkv_0 c30_ (by omega) (by omega) (show ¬ gC F (F 120 4) from fun h9_ => c18_ (by rw [hN_cg (F := F) (F' := F13_) (fun j => (Eq.trans (a := F13_ (123) j) (b := F7_ (123) j) (by rw [q14_]; exact (fl_u_ne (by first | exact nc_ rfl | decide | omega)).trans ((fl_u_ne (by first | exact nc_ rfl | decide | omega)))) (show F7_ (123) j = F (123) j from (s9_ (123) j (by first | exact fs_c rfl | exact (fs_n (by omega) (fs_n (by omega) (fs_n (by omega) (fs_n (by omega) rfl)))))))))]; exact h9_)) (sdu_cg (by omega) c31_ (fun r j hr => (Eq.trans (a := F13_ (r) j) (b := F7_ (r) j) (by rw [q14_]; exact (fl_u_ne (by first | exact nc_ rfl | decide | omega)).trans ((fl_u_ne (by first | exact nc_ rfl | decide | omega)))) (show F7_ (r) j = F (r) j from (s9_ (r) j (by first | exact fs_c rfl | exact (fs_n (by omega) (fs_n (by omega) (fs_n (by omega) (fs_n (by omega) rfl)))))))))) (by omega) (fun s hs => (hpa s hs).1) (by rcases c28_ with ⟨h8_, h9_⟩ | ⟨h9_, -⟩; (rw [h8_] at h9_; exact h9_); (exfalso; omega)) (Eq.trans (rfl) (Eq.trans (c29_ 200 (by omega)) (Eq.trans ((show F13_ 335 200 = F7_ 335 200 from (by rw [q14_]; exact (fl_u_ne (by first | exact nc_ rfl | decide | omega)).trans ((fl_u_ne (by first | exact nc_ rfl | decide | omega)))))) c4_))))
  subst hA_
  subst hz_
  refine fl_if_eq hm_139 rfl ⟨by omega, by omega⟩ (fun h => absurd h (by omega)) (fun _ => ?_)
  refine ga_aload_n (v := .ref 331) hm_139 rfl rfl rfl ?_
  refine fl_iconst hm_139 rfl ?_
  refine ga_putz (z := 1) hm_139 rfl sc_331 rfl rfl (by omega) ?_
  refine ga_aload_n (v := .ref 331) hm_139 rfl rfl rfl ?_
  refine ga_getr (b := 335) hm_139 rfl sc_331 rfl ?_
  refine fl_sipush hm_139 rfl rfl ?_
  refine fl_iconst hm_139 rfl ?_
  refine fl_iast (z := 200) (v := 0) hm_139 rfl sc_335 (by omega) (by omega) (by omega) ?_
  obtain ⟨F140_, q141_⟩ : ∃ Fq_, Fq_ = (fl_u (fl_u F13_ 331 11 1) 335 (200 : Int).toNat 0) := ⟨_, rfl⟩
  rw [← q141_]
  have g142_ : gi F140_ := by rw [q141_]; exact gi_u (gi_u (g15_) rfl (by omega) (by omega)) rfl (by omega) (by omega)
  have g143_ : fs [(331, 331, 8, 12), (332, 339, 0, 100000)] F F140_ := by rw [q141_]; exact fs_u (fs_u (g16_) rfl) rfl
  refine gr_v hm_139 rfl rfl ?_
  have e144_ : F140_ 331 11 = 1 := by rw [q141_]; exact (fl_u_ne (by first | exact nc_ rfl | decide | omega)).trans (fl_u_eq)
  have e145_ : F140_ 335 200 = 0 := by rw [q141_]; exact fl_u_eq
  have e146_ : F13_ 331 10 = F7_ 331 10 := by rw [q14_]; exact (fl_u_ne (by first | exact nc_ rfl | decide | omega)).trans (fl_u_ne (by first | exact nc_ rfl | decide | omega))
  have e147_ : F140_ 331 10 = F7_ 331 10 := by rw [q141_]; exact (fl_u_ne (by first | exact nc_ rfl | decide | omega)).trans ((fl_u_ne (by first | exact nc_ rfl | decide | omega)).trans (e146_))
  have e148_ : F13_ 331 12 = 0 := by rw [q14_]; exact fl_u_eq
  have e149_ : F140_ 331 12 = 0 := by rw [q141_]; exact (fl_u_ne (by first | exact nc_ rfl | decide | omega)).trans ((fl_u_ne (by first | exact nc_ rfl | decide | omega)).trans (e148_))
  exact ⟨F140_, rfl, g142_, g143_, (fun _ => by rw [e145_]; omega), (⟨0, 0, [], Or.inl ⟨(show gC F (F 120 4) from by have h9_ := c19_; rw [hN_cg (F := F) (F' := F13_) (fun j => (Eq.trans (a := F13_ (123) j) (b := F7_ (123) j) (by rw [q14_]; exact (fl_u_ne (by first | exact nc_ rfl | decide | omega)).trans ((fl_u_ne (by first | exact nc_ rfl | decide | omega)))) (show F7_ (123) j = F (123) j from (s9_ (123) j (by first | exact fs_c rfl | exact (fs_n (by omega) (fs_n (by omega) (fs_n (by omega) (fs_n (by omega) rfl)))))))))] at h9_; exact h9_), rfl, rfl, rfl⟩, Or.inl ⟨rfl, by omega, by omega, by omega, by omega, Eq.trans (e145_) rfl, fun j hj => absurd hj (by simp)⟩⟩)⟩

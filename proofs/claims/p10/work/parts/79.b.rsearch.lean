/- CheapPlannerModel.walk -/
abbrev pq_194 (G : Nat → Nat → Option Nat) (F : fl_N) (X : xi_H) (p n : Nat) (w lo_ hi_ : Int) : Outcome → xi_H → Prop := gqv (fun A => ∃ F' : fl_N, fl_H sh_T G F' ++ X = A ∧ gi F' ∧ fs [(p, p, 0, 100000)] F F' ∧ (wkc F w → ∀ j : Nat, (j : Int) < F 375 w.toNat → F' p j < F 344 39)) gqn
theorem mc_194 {G : Nat → Nat → Option Nat} (hG : gg G) (F : fl_N) (X : xi_H) (hgi : gi F) (p n : Nat) (w lo_ hi_ : Int) (h_p : sh_T[p]? = some (0, 0, [n])) (h_g : ∀ k, gb p k = (lo_, hi_)) (h_b : lo_ = 0 ∧ hi_ = 39) (h_n : n = 201) (h_r : 379 ≤ p ∧ p ≤ 381) (hw : 0 ≤ w ∧ w ≤ 200) : fl_M xi_ms 194 0 0 [.ref 344, .int (Int32.ofInt w), .ref p] (fl_H sh_T G F ++ X) (pq_194 G F X p n w lo_ hi_) := by
  intro fr lo hfr hlo
  show fl_R xi_ms 194 fr lo 0 [(0, .ref 344), (1, .int (Int32.ofInt w)), (2, .ref p)] [] _ _
  refine ga_iload_n (z := w) hm_194 rfl rfl ?_
  refine ga_istore_n (lv2 := [(3, .int (Int32.ofInt w)), (0, .ref 344), (1, .int (Int32.ofInt w)), (2, .ref p)]) hm_194 rfl (Nat.le_of_ble_eq_true rfl) rfl ?_
  refine ga_aload_n (v := .ref 344) hm_194 rfl rfl rfl ?_
  refine ga_getr (b := 375) hm_194 rfl sc_344 rfl ?_
  refine ga_iload_n (z := w) hm_194 rfl rfl ?_
  have b1_ : 0 ≤ F 375 w.toNat ∧ F 375 w.toNat ≤ 201 := gi_g hgi rfl
  refine ga_iald (z := w) (w := F 375 w.toNat) hm_194 rfl sc_375 (by omega) (by omega) (by omega) (rfl) ?_
  refine fl_iconst hm_194 rfl ?_
  refine ga_isub (a := F 375 w.toNat) (b := 1) (c := F 375 w.toNat - 1) hm_194 rfl (by omega) ?_
  refine ga_istore (lv2 := [(4, .int (Int32.ofInt (F 375 w.toNat - 1))), (3, .int (Int32.ofInt w)), (0, .ref 344), (1, .int (Int32.ofInt w)), (2, .ref p)]) hm_194 rfl (Nat.le_of_ble_eq_true rfl) rfl ?_
  have b5_ : 0 ≤ F 344 39 ∧ F 344 39 ≤ 40 := gi_g hgi rfl
  have L3_ : ∀ (n2_ : Nat) (k : Int) (d : Int) (F1 : fl_N), (d + 1 : Int).toNat = n2_ → (gi F1) → (fs [(p, p, 0, 100000)] F F1) → (0 ≤ k ∧ k ≤ 200) → (-1 ≤ d ∧ d ≤ 200) → (wkc F w → (wkc F k ∧ F 375 k.toNat = d + 1) ∧ ∀ j : Nat, d < (j : Int) → (j : Int) < F 375 w.toNat → F1 p j < F 344 39) → fl_R xi_ms 194 fr lo 12 [(4, .int (Int32.ofInt d)), (3, .int (Int32.ofInt k)), (0, .ref 344), (1, .int (Int32.ofInt w)), (2, .ref p)] [] (fl_H sh_T G F1 ++ X) (pq_194 G F X p n w lo_ hi_) := by
    intro n2_
    induction n2_ using Nat.strongRecOn with
    | ind n2_ ih4_ =>
    intro k d F1 hn6_ hg_F1 hf_F1 hk hd hq
    have g7_ : fs [(p, p, 0, 100000)] F F1 := fs_tr fs_refl hf_F1 (by simp [fs_le]; try omega)
    refine ga_iload (z := d) hm_194 rfl rfl ?_
    refine fl_if_lt (a := d) hm_194 rfl ⟨by omega, by omega⟩ (fun h8_ => ?_) (fun h9_ => ?_)
    ·
      refine gr_v hm_194 rfl rfl ?_
      exact ⟨F1, rfl, hg_F1, g7_, (fun h9_ j hj => (hq h9_).2 j (by omega) hj)⟩
    refine ga_aload_n (v := .ref p) hm_194 rfl rfl rfl ?_
    refine ga_iload (z := d) hm_194 rfl rfl ?_
    refine ga_aload_n (v := .ref 344) hm_194 rfl rfl rfl ?_
    refine ga_getr (b := 377) hm_194 rfl sc_344 rfl ?_
    refine ga_iload_n (z := k) hm_194 rfl rfl ?_
    have e10_ : F1 377 k.toNat = F 377 k.toNat := (hf_F1 377 k.toNat (by first | exact fs_c rfl | exact (fs_n (by omega) rfl))).trans (rfl)
    have b11_ : 0 ≤ F 377 k.toNat ∧ F 377 k.toNat ≤ 39 := gi_g hgi rfl
    refine ga_iald (z := k) (w := F 377 k.toNat) hm_194 rfl sc_377 (by omega) (by omega) (by omega) (e10_) ?_
    refine fl_iast (z := d) (v := F 377 k.toNat) hm_194 rfl h_p (by omega) (by omega) (by omega) ?_
    refine ga_aload_n (v := .ref 344) hm_194 rfl rfl rfl ?_
    refine ga_getr (b := 376) hm_194 rfl sc_344 rfl ?_
    refine ga_iload_n (z := k) hm_194 rfl rfl ?_
    have e12_ : F1 376 k.toNat = F 376 k.toNat := (hf_F1 376 k.toNat (by first | exact fs_c rfl | exact (fs_n (by omega) rfl))).trans (rfl)
    have b13_ : 0 ≤ F 376 k.toNat ∧ F 376 k.toNat ≤ 200 := gi_g hgi rfl
    refine ga_iald (z := k) (w := F 376 k.toNat) hm_194 rfl sc_376 (by omega) (by omega) (by omega) ((fl_u_ne (by first | exact nc_ rfl | decide | omega)).trans (e12_)) ?_
    refine ga_istore_n (lv2 := [(3, .int (Int32.ofInt (F 376 k.toNat))), (4, .int (Int32.ofInt d)), (0, .ref 344), (1, .int (Int32.ofInt w)), (2, .ref p)]) hm_194 rfl (Nat.le_of_ble_eq_true rfl) rfl ?_
    refine ga_inc (a := d) (c := d - 1) (lv2 := [(4, .int (Int32.ofInt (d - 1))), (3, .int (Int32.ofInt (F 376 k.toNat))), (0, .ref 344), (1, .int (Int32.ofInt w)), (2, .ref p)]) hm_194 rfl rfl (Nat.le_of_ble_eq_true rfl) (by omega) rfl ?_
    refine fl_goto hm_194 rfl ?_
    obtain ⟨F14_, q15_⟩ : ∃ Fq_, Fq_ = (fl_u F1 p d.toNat (F 377 k.toNat)) := ⟨_, rfl⟩
    rw [← q15_]
    have g16_ : gi F14_ := by rw [q15_]; exact gi_u (hg_F1) (h_g _) (by omega) (by omega)
    have g17_ : fs [(p, p, 0, 100000)] F F14_ := by rw [q15_]; exact fs_u (g7_) (fs_y (by omega))
    exact ih4_ _ (by omega) (F 376 k.toNat) (d - 1) F14_ rfl g16_ (by rw [q15_]; exact fs_u (hf_F1) (fs_y (by omega))) (⟨by omega, by omega⟩) (⟨by omega, by omega⟩) (by rw [q15_]; exact wk_b hq (by omega))
  exact L3_ _ (w) (F 375 w.toNat - 1) F rfl hgi fs_refl (⟨by omega, by omega⟩) (⟨by omega, by omega⟩) (fun h9_ => ⟨⟨h9_, by omega⟩, fun j h1_ h2_ => absurd h2_ (by omega)⟩)
/- CheapPlannerModel.know -/
abbrev pq_170 (G : Nat → Nat → Option Nat) (F : fl_N) (X : xi_H) (w fm st : Int) : Outcome → xi_H → Prop := gqv (fun A => ∃ F' : fl_N, fl_H sh_T G F' ++ X = A ∧ gi F' ∧ fs [(374, 377, 0, 100000)] F F' ∧ (∀ j : Nat, j ≠ w.toNat → F' 374 j = F 374 j ∧ F' 375 j = F 375 j ∧ F' 376 j = F 376 j ∧ F' 377 j = F 377 j) ∧ (F' 376 w.toNat = fm) ∧ (F' 377 w.toNat = st) ∧ (F' 375 w.toNat = F 375 fm.toNat + 1)) gqn
theorem mc_170 {G : Nat → Nat → Option Nat} (hG : gg G) (F : fl_N) (X : xi_H) (hgi : gi F) (w fm st : Int) (hw : 0 ≤ w ∧ w ≤ 200) (hf : 0 ≤ fm ∧ fm ≤ 199) (hs : 0 ≤ st ∧ st ≤ 39) (hd : F 375 fm.toNat ≤ 200) : fl_M xi_ms 170 0 0 [.ref 344, .int (Int32.ofInt w), .int (Int32.ofInt fm), .int (Int32.ofInt st)] (fl_H sh_T G F ++ X) (pq_170 G F X w fm st) := by
  intro fr lo hfr hlo
  show fl_R xi_ms 170 fr lo 0 [(0, .ref 344), (1, .int (Int32.ofInt w)), (2, .int (Int32.ofInt fm)), (3, .int (Int32.ofInt st))] [] _ _
  refine ga_aload_n (v := .ref 344) hm_170 rfl rfl rfl ?_
  refine ga_getr (b := 376) hm_170 rfl sc_344 rfl ?_
  refine ga_iload_n (z := w) hm_170 rfl rfl ?_
  refine ga_iload_n (z := fm) hm_170 rfl rfl ?_
  refine fl_iast (z := w) (v := fm) hm_170 rfl sc_376 (by omega) (by omega) (by omega) ?_
  refine ga_aload_n (v := .ref 344) hm_170 rfl rfl rfl ?_
  refine ga_getr (b := 377) hm_170 rfl sc_344 rfl ?_
  refine ga_iload_n (z := w) hm_170 rfl rfl ?_
  refine ga_iload_n (z := st) hm_170 rfl rfl ?_
  refine fl_iast (z := w) (v := st) hm_170 rfl sc_377 (by omega) (by omega) (by omega) ?_
  refine ga_aload_n (v := .ref 344) hm_170 rfl rfl rfl ?_
  refine ga_getr (b := 375) hm_170 rfl sc_344 rfl ?_
  refine ga_iload_n (z := w) hm_170 rfl rfl ?_
  refine ga_aload_n (v := .ref 344) hm_170 rfl rfl rfl ?_
  refine ga_getr (b := 375) hm_170 rfl sc_344 rfl ?_
  refine ga_iload_n (z := fm) hm_170 rfl rfl ?_
  have b1_ : 0 ≤ F 375 fm.toNat ∧ F 375 fm.toNat ≤ 201 := gi_g hgi rfl
  refine ga_iald (z := fm) (w := F 375 fm.toNat) hm_170 rfl sc_375 (by omega) (by omega) (by omega) ((fl_u_ne (by first | exact nc_ rfl | decide | omega)).trans (fl_u_ne (by first | exact nc_ rfl | decide | omega))) ?_
  refine fl_iconst hm_170 rfl ?_
  refine ga_iadd (a := F 375 fm.toNat) (b := 1) (c := F 375 fm.toNat + 1) hm_170 rfl (by omega) ?_
  refine fl_iast (z := w) (v := F 375 fm.toNat + 1) hm_170 rfl sc_375 (by omega) (by omega) (by omega) ?_
  refine ga_aload_n (v := .ref 344) hm_170 rfl rfl rfl ?_
  refine ga_getr (b := 374) hm_170 rfl sc_344 rfl ?_
  refine ga_iload_n (z := w) hm_170 rfl rfl ?_
  refine ga_aload_n (v := .ref 344) hm_170 rfl rfl rfl ?_
  refine ga_getr (b := 374) hm_170 rfl sc_344 rfl ?_
  refine ga_iload_n (z := fm) hm_170 rfl rfl ?_
  have b2_ : -2147483648 ≤ F 374 fm.toNat ∧ F 374 fm.toNat ≤ 2147483647 := gi_g hgi rfl
  refine ga_iald (z := fm) (w := F 374 fm.toNat) hm_170 rfl sc_374 (by omega) (by omega) (by omega) ((fl_u_ne (by first | exact nc_ rfl | decide | omega)).trans ((fl_u_ne (by first | exact nc_ rfl | decide | omega)).trans (fl_u_ne (by first | exact nc_ rfl | decide | omega)))) ?_
  refine ga_aload_n (v := .ref 344) hm_170 rfl rfl rfl ?_
  refine ga_getr (b := 357) hm_170 rfl sc_344 rfl ?_
  refine ga_aload_n (v := .ref 344) hm_170 rfl rfl rfl ?_
  refine ga_getr (b := 367) hm_170 rfl sc_344 rfl ?_
  refine ga_iload_n (z := st) hm_170 rfl rfl ?_
  have b3_ : 0 ≤ F 367 st.toNat ∧ F 367 st.toNat ≤ 4 := gi_g hgi rfl
  refine ga_iald (z := st) (w := F 367 st.toNat) hm_170 rfl sc_367 (by omega) (by omega) (by omega) ((fl_u_ne (by first | exact nc_ rfl | decide | omega)).trans ((fl_u_ne (by first | exact nc_ rfl | decide | omega)).trans (fl_u_ne (by first | exact nc_ rfl | decide | omega)))) ?_
  have b4_ : -1000 ≤ F 357 (F 367 st.toNat).toNat ∧ F 357 (F 367 st.toNat).toNat ≤ 2000 := gi_g hgi rfl
  refine ga_iald (z := F 367 st.toNat) (w := F 357 (F 367 st.toNat).toNat) hm_170 rfl sc_357 (by omega) (by omega) (by omega) ((fl_u_ne (by first | exact nc_ rfl | decide | omega)).trans ((fl_u_ne (by first | exact nc_ rfl | decide | omega)).trans (fl_u_ne (by first | exact nc_ rfl | decide | omega)))) ?_
  refine ga_iany hm_170 rfl rfl rfl (fun z5_ ⟨h6_, h7_⟩ => ?_)
  refine fl_iast (z := w) (v := z5_) hm_170 rfl sc_374 (by omega) (by omega) (by omega) ?_
  obtain ⟨F8_, q9_⟩ : ∃ Fq_, Fq_ = (fl_u (fl_u (fl_u (fl_u F 376 w.toNat fm) 377 w.toNat st) 375 w.toNat (F 375 fm.toNat + 1)) 374 w.toNat z5_) := ⟨_, rfl⟩
  rw [← q9_]
  have g10_ : gi F8_ := by rw [q9_]; exact gi_u (gi_u (gi_u (gi_u (hgi) rfl (by omega) (by omega)) rfl (by omega) (by omega)) rfl (by omega) (by omega)) rfl (by omega) (by omega)
  have g11_ : fs [(374, 377, 0, 100000)] F F8_ := by rw [q9_]; exact fs_u (fs_u (fs_u (fs_u (fs_refl) (fs_y (by omega))) (fs_y (by omega))) (fs_y (by omega))) (fs_y (by omega))
  refine gr_v hm_170 rfl rfl ?_
  have e12_ : F8_ 376 w.toNat = fm := by rw [q9_]; exact (fl_u_ne (by first | exact nc_ rfl | decide | omega)).trans ((fl_u_ne (by first | exact nc_ rfl | decide | omega)).trans ((fl_u_ne (by first | exact nc_ rfl | decide | omega)).trans (fl_u_eq)))
  have e13_ : F8_ 377 w.toNat = st := by rw [q9_]; exact (fl_u_ne (by first | exact nc_ rfl | decide | omega)).trans ((fl_u_ne (by first | exact nc_ rfl | decide | omega)).trans (fl_u_eq))
  have e14_ : F8_ 375 w.toNat = F 375 fm.toNat + 1 := by rw [q9_]; exact (fl_u_ne (by first | exact nc_ rfl | decide | omega)).trans (fl_u_eq)
  exact ⟨F8_, rfl, g10_, g11_, (fun j hj => ⟨(show F8_ 374 j = F 374 j from (by rw [q9_]; exact (fl_u_ne (by first | exact nc_ rfl | decide | omega)).trans ((fl_u_ne (by first | exact nc_ rfl | decide | omega)).trans ((fl_u_ne (by first | exact nc_ rfl | decide | omega)).trans ((fl_u_ne (by first | exact nc_ rfl | decide | omega))))))), (show F8_ 375 j = F 375 j from (by rw [q9_]; exact (fl_u_ne (by first | exact nc_ rfl | decide | omega)).trans ((fl_u_ne (by first | exact nc_ rfl | decide | omega)).trans ((fl_u_ne (by first | exact nc_ rfl | decide | omega)).trans ((fl_u_ne (by first | exact nc_ rfl | decide | omega))))))), (show F8_ 376 j = F 376 j from (by rw [q9_]; exact (fl_u_ne (by first | exact nc_ rfl | decide | omega)).trans ((fl_u_ne (by first | exact nc_ rfl | decide | omega)).trans ((fl_u_ne (by first | exact nc_ rfl | decide | omega)).trans ((fl_u_ne (by first | exact nc_ rfl | decide | omega))))))), (show F8_ 377 j = F 377 j from (by rw [q9_]; exact (fl_u_ne (by first | exact nc_ rfl | decide | omega)).trans ((fl_u_ne (by first | exact nc_ rfl | decide | omega)).trans ((fl_u_ne (by first | exact nc_ rfl | decide | omega)).trans ((fl_u_ne (by first | exact nc_ rfl | decide | omega)))))))⟩), (e12_), (e13_), (e14_)⟩
/- CheapPlannerModel.isBefore -/
abbrev pq_167 (G : Nat → Nat → Option Nat) (F : fl_N) (X : xi_H) (fm st kn : Int) : Outcome → xi_H → Prop := gqi (fun z A => ∃ F' : fl_N, fl_H sh_T G F' ++ X = A ∧ gi F' ∧ fs [(379, 380, 0, 100000)] F F' ∧ (0 ≤ z ∧ z ≤ 1)) gqn
theorem mc_167 {G : Nat → Nat → Option Nat} (hG : gg G) (F : fl_N) (X : xi_H) (hgi : gi F) (fm st kn : Int) (hf : 0 ≤ fm ∧ fm ≤ 200) (hs : 0 ≤ st ∧ st ≤ 39) (hkn : 0 ≤ kn ∧ kn ≤ 200) : fl_M xi_ms 167 1 24 [.ref 344, .int (Int32.ofInt fm), .int (Int32.ofInt st), .int (Int32.ofInt kn)] (fl_H sh_T G F ++ X) (pq_167 G F X fm st kn) := by
  intro fr lo hfr hlo
  show fl_R xi_ms 167 fr lo 0 [(0, .ref 344), (1, .int (Int32.ofInt fm)), (2, .int (Int32.ofInt st)), (3, .int (Int32.ofInt kn))] [] _ _
  refine ga_aload_n (v := .ref 344) hm_167 rfl rfl rfl ?_
  refine ga_getr (b := 375) hm_167 rfl sc_344 rfl ?_
  refine ga_iload_n (z := fm) hm_167 rfl rfl ?_
  have b1_ : 0 ≤ F 375 fm.toNat ∧ F 375 fm.toNat ≤ 201 := gi_g hgi rfl
  refine ga_iald (z := fm) (w := F 375 fm.toNat) hm_167 rfl sc_375 (by omega) (by omega) (by omega) (rfl) ?_
  refine fl_iconst hm_167 rfl ?_
  refine ga_iadd (a := F 375 fm.toNat) (b := 1) (c := F 375 fm.toNat + 1) hm_167 rfl (by omega) ?_
  refine ga_istore (lv2 := [(4, .int (Int32.ofInt (F 375 fm.toNat + 1))), (0, .ref 344), (1, .int (Int32.ofInt fm)), (2, .int (Int32.ofInt st)), (3, .int (Int32.ofInt kn))]) hm_167 rfl (Nat.le_of_ble_eq_true rfl) rfl ?_
  refine ga_iload (z := F 375 fm.toNat + 1) hm_167 rfl rfl ?_
  refine ga_aload_n (v := .ref 344) hm_167 rfl rfl rfl ?_
  refine ga_getr (b := 375) hm_167 rfl sc_344 rfl ?_
  refine ga_iload_n (z := kn) hm_167 rfl rfl ?_
  have b2_ : 0 ≤ F 375 kn.toNat ∧ F 375 kn.toNat ≤ 201 := gi_g hgi rfl
  refine ga_iald (z := kn) (w := F 375 kn.toNat) hm_167 rfl sc_375 (by omega) (by omega) (by omega) (rfl) ?_
  refine fl_icmp_eq (a := F 375 fm.toNat + 1) (b := F 375 kn.toNat) hm_167 rfl ⟨by omega, by omega⟩ ⟨by omega, by omega⟩ (fun h3_ => ?_) (fun h4_ => ?_)
  ·
    refine ga_iload_n (z := fm) hm_167 rfl rfl ?_
    refine ga_aload_n (v := .ref 344) hm_167 rfl rfl rfl ?_
    refine ga_getr (b := 376) hm_167 rfl sc_344 rfl ?_
    refine ga_iload_n (z := kn) hm_167 rfl rfl ?_
    have b5_ : 0 ≤ F 376 kn.toNat ∧ F 376 kn.toNat ≤ 200 := gi_g hgi rfl
    refine ga_iald (z := kn) (w := F 376 kn.toNat) hm_167 rfl sc_376 (by omega) (by omega) (by omega) (rfl) ?_
    refine fx_icmp_ne (a := fm) (b := F 376 kn.toNat) hm_167 rfl ⟨by omega, by omega⟩ ⟨by omega, by omega⟩ (fun h6_ => ?_) (fun h7_ => ?_)
    ·
      refine ga_aload_n (v := .ref 344) hm_167 rfl rfl rfl ?_
      refine ga_iload_n (z := fm) hm_167 rfl rfl ?_
      refine ga_aload_n (v := .ref 344) hm_167 rfl rfl rfl ?_
      refine ga_getr (b := 379) hm_167 rfl sc_344 rfl ?_
      refine gVv (nY := 5) (F := 0) (L := 0) (As := [.int (Int32.ofInt fm), .ref 379]) (b := 344) (rest := []) hm_167 rfl hm_194 rfl rfl (fl_ob sc_344) rfl rfl rfl rfl rfl (by omega) (by omega) (mc_194 hG F X hgi (379) (201) (fm) (0) (39) sc_379 (fun _ => rfl) (⟨by omega, by omega⟩) (by omega) (⟨by omega, by omega⟩) (⟨by omega, by omega⟩)) (fun _ _ h => False.elim h) ?_
      have b9_ : 0 ≤ F 344 39 ∧ F 344 39 ≤ 40 := gi_g hgi rfl
      rintro A1_ ⟨F11_, hA_, g12_, s13_, c10_⟩
      subst hA_
      have g14_ : fs [(379, 380, 0, 100000)] F F11_ := fs_tr fs_refl s13_ rfl
      refine ga_aload_n (v := .ref 344) hm_167 rfl rfl rfl ?_
      refine ga_aload_n (v := .ref 344) hm_167 rfl rfl rfl ?_
      refine ga_getr (b := 376) hm_167 rfl sc_344 rfl ?_
      refine ga_iload_n (z := kn) hm_167 rfl rfl ?_
      have e15_ : F11_ 376 kn.toNat = F 376 kn.toNat := (s13_ 376 kn.toNat (by first | exact fs_c rfl | exact (fs_n (by omega) rfl))).trans (rfl)
      refine ga_iald (z := kn) (w := F 376 kn.toNat) hm_167 rfl sc_376 (by omega) (by omega) (by omega) (e15_) ?_
      refine ga_aload_n (v := .ref 344) hm_167 rfl rfl rfl ?_
      refine ga_getr (b := 380) hm_167 rfl sc_344 rfl ?_
      refine gVv (nY := 5) (F := 0) (L := 0) (As := [.int (Int32.ofInt (F 376 kn.toNat)), .ref 380]) (b := 344) (rest := []) hm_167 rfl hm_194 rfl rfl (fl_ob sc_344) rfl rfl rfl rfl rfl (by omega) (by omega) (mc_194 hG F11_ X g12_ (380) (201) (F 376 kn.toNat) (0) (39) sc_380 (fun _ => rfl) (⟨by omega, by omega⟩) (by omega) (⟨by omega, by omega⟩) (⟨by omega, by omega⟩)) (fun _ _ h => False.elim h) ?_
      have e17_ : F11_ 344 39 = F 344 39 := (s13_ 344 39 rfl).trans (rfl)
      rintro A1_ ⟨F19_, hA_, g20_, s21_, c18_⟩
      subst hA_
      have g22_ : fs [(379, 380, 0, 100000)] F F19_ := fs_tr g14_ s21_ rfl
      try simp only [e17_] at c18_
      refine fl_iconst hm_167 rfl ?_
      refine ga_istore (lv2 := [(5, .int (Int32.ofInt 0)), (4, .int (Int32.ofInt (F 375 fm.toNat + 1))), (0, .ref 344), (1, .int (Int32.ofInt fm)), (2, .int (Int32.ofInt st)), (3, .int (Int32.ofInt kn))]) hm_167 rfl (Nat.le_of_ble_eq_true rfl) rfl ?_
      have L24_ : ∀ (n23_ : Nat) (k : Int), (201 - k : Int).toNat = n23_ → (0 ≤ k ∧ k ≤ 201) → fl_R xi_ms 167 fr lo 90 [(5, .int (Int32.ofInt k)), (4, .int (Int32.ofInt (F 375 fm.toNat + 1))), (0, .ref 344), (1, .int (Int32.ofInt fm)), (2, .int (Int32.ofInt st)), (3, .int (Int32.ofInt kn))] [] (fl_H sh_T G F19_ ++ X) (pq_167 G F X fm st kn) := by
        intro n23_
        induction n23_ using Nat.strongRecOn with
        | ind n23_ ih25_ =>
        intro k hn26_ hk
        refine ga_iload (z := k) hm_167 rfl rfl ?_
        refine ga_iload (z := F 375 fm.toNat + 1) hm_167 rfl rfl ?_
        refine fl_iconst hm_167 rfl ?_
        refine ga_isub (a := F 375 fm.toNat + 1) (b := 1) (c := F 375 fm.toNat) hm_167 rfl (by omega) ?_
        refine fl_icmp_ge (a := k) (b := F 375 fm.toNat) hm_167 rfl ⟨by omega, by omega⟩ ⟨by omega, by omega⟩ (fun h27_ => ?_) (fun h28_ => ?_)
        ·
          refine ga_iload_n (z := st) hm_167 rfl rfl ?_
          refine ga_aload_n (v := .ref 344) hm_167 rfl rfl rfl ?_
          refine ga_getr (b := 377) hm_167 rfl sc_344 rfl ?_
          refine ga_iload_n (z := kn) hm_167 rfl rfl ?_
          have e29_ : F11_ 377 kn.toNat = F 377 kn.toNat := (s13_ 377 kn.toNat (by first | exact fs_c rfl | exact (fs_n (by omega) rfl))).trans (rfl)
          have e30_ : F19_ 377 kn.toNat = F 377 kn.toNat := (s21_ 377 kn.toNat (by first | exact fs_c rfl | exact (fs_n (by omega) rfl))).trans (e29_)
          have b31_ : 0 ≤ F 377 kn.toNat ∧ F 377 kn.toNat ≤ 39 := gi_g hgi rfl
          refine ga_iald (z := kn) (w := F 377 kn.toNat) hm_167 rfl sc_377 (by omega) (by omega) (by omega) (e30_) ?_
          refine fl_icmp_ge (a := st) (b := F 377 kn.toNat) hm_167 rfl ⟨by omega, by omega⟩ ⟨by omega, by omega⟩ (fun h32_ => ?_) (fun h33_ => ?_)
          ·
            refine fl_iconst hm_167 rfl ?_
            refine gr_i (z := 0) hm_167 rfl rfl (ga_nb (by omega)) ?_
            exact ⟨F19_, rfl, g20_, g22_, (⟨by omega, by omega⟩)⟩
          refine fl_iconst hm_167 rfl ?_
          refine fl_goto hm_167 rfl ?_
          refine gr_i (z := 1) hm_167 rfl rfl (ga_nb (by omega)) ?_
          exact ⟨F19_, rfl, g20_, g22_, (⟨by omega, by omega⟩)⟩
        refine ga_aload_n (v := .ref 344) hm_167 rfl rfl rfl ?_
        refine ga_getr (b := 379) hm_167 rfl sc_344 rfl ?_
        refine ga_iload (z := k) hm_167 rfl rfl ?_
        have e34_ : F19_ 379 k.toNat = F11_ 379 k.toNat := (s21_ 379 k.toNat (by first | exact fs_c rfl | exact (fs_n (by omega) rfl))).trans (rfl)
        have b35_ : 0 ≤ F11_ 379 k.toNat ∧ F11_ 379 k.toNat ≤ 39 := gi_g g12_ rfl
        refine ga_iald (z := k) (w := F11_ 379 k.toNat) hm_167 rfl sc_379 (by omega) (by omega) (by omega) (e34_) ?_
        refine ga_aload_n (v := .ref 344) hm_167 rfl rfl rfl ?_
        refine ga_getr (b := 380) hm_167 rfl sc_344 rfl ?_
        refine ga_iload (z := k) hm_167 rfl rfl ?_
        have b36_ : 0 ≤ F19_ 380 k.toNat ∧ F19_ 380 k.toNat ≤ 39 := gi_g g20_ rfl
        refine ga_iald (z := k) (w := F19_ 380 k.toNat) hm_167 rfl sc_380 (by omega) (by omega) (by omega) (rfl) ?_
        refine fl_icmp_eq (a := F11_ 379 k.toNat) (b := F19_ 380 k.toNat) hm_167 rfl ⟨by omega, by omega⟩ ⟨by omega, by omega⟩ (fun h37_ => ?_) (fun h38_ => ?_)
        ·
          refine ga_inc (a := k) (c := k + 1) (lv2 := [(5, .int (Int32.ofInt (k + 1))), (4, .int (Int32.ofInt (F 375 fm.toNat + 1))), (0, .ref 344), (1, .int (Int32.ofInt fm)), (2, .int (Int32.ofInt st)), (3, .int (Int32.ofInt kn))]) hm_167 rfl rfl (Nat.le_of_ble_eq_true rfl) rfl rfl ?_
          refine fl_goto hm_167 rfl ?_
          exact ih25_ _ (by omega) (k + 1) rfl (⟨by omega, by omega⟩)
        refine ga_aload_n (v := .ref 344) hm_167 rfl rfl rfl ?_
        refine ga_getr (b := 379) hm_167 rfl sc_344 rfl ?_
        refine ga_iload (z := k) hm_167 rfl rfl ?_
        refine ga_iald (z := k) (w := F11_ 379 k.toNat) hm_167 rfl sc_379 (by omega) (by omega) (by omega) (e34_) ?_
        refine ga_aload_n (v := .ref 344) hm_167 rfl rfl rfl ?_
        refine ga_getr (b := 380) hm_167 rfl sc_344 rfl ?_
        refine ga_iload (z := k) hm_167 rfl rfl ?_
        refine ga_iald (z := k) (w := F19_ 380 k.toNat) hm_167 rfl sc_380 (by omega) (by omega) (by omega) (rfl) ?_
        refine fl_icmp_ge (a := F11_ 379 k.toNat) (b := F19_ 380 k.toNat) hm_167 rfl ⟨by omega, by omega⟩ ⟨by omega, by omega⟩ (fun h39_ => ?_) (fun h40_ => ?_)
        ·
          refine fl_iconst hm_167 rfl ?_
          refine gr_i (z := 0) hm_167 rfl rfl (ga_nb (by omega)) ?_
          exact ⟨F19_, rfl, g20_, g22_, (⟨by omega, by omega⟩)⟩
        refine fl_iconst hm_167 rfl ?_
        refine fl_goto hm_167 rfl ?_
        refine gr_i (z := 1) hm_167 rfl rfl (ga_nb (by omega)) ?_
        exact ⟨F19_, rfl, g20_, g22_, (⟨by omega, by omega⟩)⟩
      exact L24_ _ (0) rfl (⟨by omega, by omega⟩)
    refine ga_iload_n (z := st) hm_167 rfl rfl ?_
    refine ga_aload_n (v := .ref 344) hm_167 rfl rfl rfl ?_
    refine ga_getr (b := 377) hm_167 rfl sc_344 rfl ?_
    refine ga_iload_n (z := kn) hm_167 rfl rfl ?_
    have b41_ : 0 ≤ F 377 kn.toNat ∧ F 377 kn.toNat ≤ 39 := gi_g hgi rfl
    refine ga_iald (z := kn) (w := F 377 kn.toNat) hm_167 rfl sc_377 (by omega) (by omega) (by omega) (rfl) ?_
    refine fl_icmp_ge (a := st) (b := F 377 kn.toNat) hm_167 rfl ⟨by omega, by omega⟩ ⟨by omega, by omega⟩ (fun h42_ => ?_) (fun h43_ => ?_)
    ·
      refine fl_iconst hm_167 rfl ?_
      refine gr_i (z := 0) hm_167 rfl rfl (ga_nb (by omega)) ?_
      exact ⟨F, rfl, hgi, fs_refl, (⟨by omega, by omega⟩)⟩
    refine fl_iconst hm_167 rfl ?_
    refine fl_goto hm_167 rfl ?_
    refine gr_i (z := 1) hm_167 rfl rfl (ga_nb (by omega)) ?_
    exact ⟨F, rfl, hgi, fs_refl, (⟨by omega, by omega⟩)⟩
  refine ga_iload (z := F 375 fm.toNat + 1) hm_167 rfl rfl ?_
  refine ga_aload_n (v := .ref 344) hm_167 rfl rfl rfl ?_
  refine ga_getr (b := 375) hm_167 rfl sc_344 rfl ?_
  refine ga_iload_n (z := kn) hm_167 rfl rfl ?_
  refine ga_iald (z := kn) (w := F 375 kn.toNat) hm_167 rfl sc_375 (by omega) (by omega) (by omega) (rfl) ?_
  refine fl_icmp_ge (a := F 375 fm.toNat + 1) (b := F 375 kn.toNat) hm_167 rfl ⟨by omega, by omega⟩ ⟨by omega, by omega⟩ (fun h44_ => ?_) (fun h45_ => ?_)
  ·
    refine fl_iconst hm_167 rfl ?_
    refine gr_i (z := 0) hm_167 rfl rfl (ga_nb (by omega)) ?_
    exact ⟨F, rfl, hgi, fs_refl, (⟨by omega, by omega⟩)⟩
  refine fl_iconst hm_167 rfl ?_
  refine fl_goto hm_167 rfl ?_
  refine gr_i (z := 1) hm_167 rfl rfl (ga_nb (by omega)) ?_
  exact ⟨F, rfl, hgi, fs_refl, (⟨by omega, by omega⟩)⟩
/- CheapPlannerModel.nextCost -/
abbrev pq_172 (G : Nat → Nat → Option Nat) (F : fl_N) (X : xi_H)  : Outcome → xi_H → Prop := gqi (fun z A => fl_H sh_T G F ++ X = A ∧ (z = -1 ∨ nxw F z) ∧ (-2147483648 ≤ z ∧ z ≤ 2147483647)) gqn
theorem mc_172 {G : Nat → Nat → Option Nat} (hG : gg G) (F : fl_N) (X : xi_H) (hgi : gi F)  (hg : gs F (F 344 49)) : fl_M xi_ms 172 1 25 [.ref 344] (fl_H sh_T G F ++ X) (pq_172 G F X) := by
  intro fr lo hfr hlo
  show fl_R xi_ms 172 fr lo 0 [(0, .ref 344)] [] _ _
  refine fl_iconst hm_172 rfl ?_
  refine ga_istore_n (lv2 := [(1, .int (Int32.ofInt (-1))), (0, .ref 344)]) hm_172 rfl (Nat.le_of_ble_eq_true rfl) rfl ?_
  refine fl_iconst hm_172 rfl ?_
  refine ga_istore_n (lv2 := [(2, .int (Int32.ofInt 0)), (1, .int (Int32.ofInt (-1))), (0, .ref 344)]) hm_172 rfl (Nat.le_of_ble_eq_true rfl) rfl ?_
  have L2_ : ∀ (n1_ : Nat) (be : Int) (i : Int), (200 - i : Int).toNat = n1_ → (0 ≤ i ∧ i ≤ 200) → ((be = -1 ∨ nxw F be) ∧ -2147483648 ≤ be ∧ be ≤ 2147483647) → fl_R xi_ms 172 fr lo 4 [(2, .int (Int32.ofInt i)), (1, .int (Int32.ofInt be)), (0, .ref 344)] [] (fl_H sh_T G F ++ X) (pq_172 G F X) := by
    intro n1_
    induction n1_ using Nat.strongRecOn with
    | ind n1_ ih3_ =>
    intro be i hn4_ hi hbe
    refine ga_iload_n (z := i) hm_172 rfl rfl ?_
    refine ga_aload_n (v := .ref 344) hm_172 rfl rfl rfl ?_
    have b5_ : 0 ≤ F 344 49 ∧ F 344 49 ≤ 200 := gi_g hgi rfl
    refine ga_geti (z := F 344 49) hm_172 rfl sc_344 rfl (rfl) ?_
    refine fl_icmp_ge (a := i) (b := F 344 49) hm_172 rfl ⟨by omega, by omega⟩ ⟨by omega, by omega⟩ (fun h6_ => ?_) (fun h7_ => ?_)
    ·
      refine ga_iload_n (z := be) hm_172 rfl rfl ?_
      refine gr_i (z := be) hm_172 rfl rfl rfl ?_
      exact ⟨rfl, (hbe.1), (⟨hbe.2.1, hbe.2.2⟩)⟩
    refine fl_iconst hm_172 rfl ?_
    refine ga_istore_n (lv2 := [(3, .int (Int32.ofInt 0)), (2, .int (Int32.ofInt i)), (1, .int (Int32.ofInt be)), (0, .ref 344)]) hm_172 rfl (Nat.le_of_ble_eq_true rfl) rfl ?_
    have L9_ : ∀ (n8_ : Nat) (b2 : Int) (s : Int), (40 - s : Int).toNat = n8_ → (0 ≤ s ∧ s ≤ 40) → ((b2 = -1 ∨ nxw F b2) ∧ -2147483648 ≤ b2 ∧ b2 ≤ 2147483647) → fl_R xi_ms 172 fr lo 14 [(3, .int (Int32.ofInt s)), (2, .int (Int32.ofInt i)), (1, .int (Int32.ofInt b2)), (0, .ref 344)] [] (fl_H sh_T G F ++ X) (pq_172 G F X) := by
      intro n8_
      induction n8_ using Nat.strongRecOn with
      | ind n8_ ih10_ =>
      intro b2 s hn11_ hs hb2
      refine ga_iload_n (z := s) hm_172 rfl rfl ?_
      refine ga_aload_n (v := .ref 344) hm_172 rfl rfl rfl ?_
      have b12_ : 0 ≤ F 344 39 ∧ F 344 39 ≤ 40 := gi_g hgi rfl
      refine ga_geti (z := F 344 39) hm_172 rfl sc_344 rfl (rfl) ?_
      refine fl_icmp_ge (a := s) (b := F 344 39) hm_172 rfl ⟨by omega, by omega⟩ ⟨by omega, by omega⟩ (fun h13_ => ?_) (fun h14_ => ?_)
      ·
        refine ga_inc (a := i) (c := i + 1) (lv2 := [(2, .int (Int32.ofInt (i + 1))), (3, .int (Int32.ofInt s)), (1, .int (Int32.ofInt b2)), (0, .ref 344)]) hm_172 rfl rfl (Nat.le_of_ble_eq_true rfl) rfl rfl ?_
        refine fl_goto hm_172 rfl ?_
        exact fl_R_sub (lv' := [(2, .int (Int32.ofInt (i + 1))), (1, .int (Int32.ofInt b2)), (0, .ref 344)]) rfl rfl (ih3_ _ (by omega) (b2) (i + 1) rfl (⟨by omega, by omega⟩) (hb2))
      refine ga_aload_n (v := .ref 344) hm_172 rfl rfl rfl ?_
      refine ga_getr (b := 374) hm_172 rfl sc_344 rfl ?_
      refine ga_iload_n (z := i) hm_172 rfl rfl ?_
      have b15_ : -2147483648 ≤ F 374 i.toNat ∧ F 374 i.toNat ≤ 2147483647 := gi_g hgi rfl
      refine ga_iald (z := i) (w := F 374 i.toNat) hm_172 rfl sc_374 (by omega) (by omega) (by omega) (rfl) ?_
      refine ga_aload_n (v := .ref 344) hm_172 rfl rfl rfl ?_
      refine ga_getr (b := 357) hm_172 rfl sc_344 rfl ?_
      refine ga_aload_n (v := .ref 344) hm_172 rfl rfl rfl ?_
      refine ga_getr (b := 367) hm_172 rfl sc_344 rfl ?_
      refine ga_iload_n (z := s) hm_172 rfl rfl ?_
      have b16_ : 0 ≤ F 367 s.toNat ∧ F 367 s.toNat ≤ 4 := gi_g hgi rfl
      refine ga_iald (z := s) (w := F 367 s.toNat) hm_172 rfl sc_367 (by omega) (by omega) (by omega) (rfl) ?_
      have b17_ : -1000 ≤ F 357 (F 367 s.toNat).toNat ∧ F 357 (F 367 s.toNat).toNat ≤ 2000 := gi_g hgi rfl
      refine ga_iald (z := F 367 s.toNat) (w := F 357 (F 367 s.toNat).toNat) hm_172 rfl sc_357 (by omega) (by omega) (by omega) (rfl) ?_
      refine ga_ix (z := (iwa (F 374 i.toNat) (F 357 (F 367 s.toNat).toNat))) hm_172 rfl rfl rfl (lop_e 5 _ _) (fun ⟨h18_, h19_⟩ => ?_)
      refine ga_istore (lv2 := [(4, .int (Int32.ofInt ((iwa (F 374 i.toNat) (F 357 (F 367 s.toNat).toNat))))), (3, .int (Int32.ofInt s)), (2, .int (Int32.ofInt i)), (1, .int (Int32.ofInt b2)), (0, .ref 344)]) hm_172 rfl (Nat.le_of_ble_eq_true rfl) rfl ?_
      refine ga_iload_n (z := b2) hm_172 rfl rfl ?_
      refine fl_iconst hm_172 rfl ?_
      refine fl_icmp_eq (a := b2) (b := -1) hm_172 rfl ⟨by omega, by omega⟩ ⟨by omega, by omega⟩ (fun h20_ => ?_) (fun h21_ => ?_)
      ·
        refine ga_aload_n (v := .ref 344) hm_172 rfl rfl rfl ?_
        refine ga_iload_n (z := s) hm_172 rfl rfl ?_
        refine ga_aload_n (v := .ref 344) hm_172 rfl rfl rfl ?_
        refine ga_getr (b := 373) hm_172 rfl sc_344 rfl ?_
        refine ga_iload_n (z := i) hm_172 rfl rfl ?_
        have b22_ : -9223372036854775808 ≤ F 373 i.toNat ∧ F 373 i.toNat ≤ 9223372036854775807 := gi_g hgi rfl
        refine ga_lald (z := i) (w := F 373 i.toNat) hm_172 rfl sc_373 (by omega) (by omega) (by omega) (rfl) ?_
        refine gVi (nY := 4) (F := 0) (L := 0) (As := [.int (Int32.ofInt s), .long (Int64.ofInt (F 373 i.toNat))]) (b := 344) (rest := []) hm_172 rfl hm_157 rfl rfl (fl_ob sc_344) rfl rfl rfl rfl rfl (by omega) (by omega) (mc_157 hG F X hgi (s) (F 373 i.toNat) (⟨by omega, by omega⟩) (⟨by omega, by omega⟩)) (fun _ _ h => False.elim h) ?_
        rintro z23_ A1_ (⟨hA_, hz_, c24_⟩ | ⟨hA_, hz_, c25_⟩)
        ·
          subst hA_
          subst hz_
          refine fl_if_ne hm_172 rfl ⟨by omega, by omega⟩ (fun h => absurd h (by omega)) (fun _ => ?_)
          refine fl_goto hm_172 rfl ?_
          refine ga_inc (a := s) (c := s + 1) (lv2 := [(3, .int (Int32.ofInt (s + 1))), (4, .int (Int32.ofInt ((iwa (F 374 i.toNat) (F 357 (F 367 s.toNat).toNat))))), (2, .int (Int32.ofInt i)), (1, .int (Int32.ofInt b2)), (0, .ref 344)]) hm_172 rfl rfl (Nat.le_of_ble_eq_true rfl) rfl rfl ?_
          refine fl_goto hm_172 rfl ?_
          exact fl_R_sub (lv' := [(3, .int (Int32.ofInt (s + 1))), (2, .int (Int32.ofInt i)), (1, .int (Int32.ofInt b2)), (0, .ref 344)]) rfl rfl (ih10_ _ (by omega) (b2) (s + 1) rfl (⟨by omega, by omega⟩) (hb2))
        subst hA_
        subst hz_
        refine fl_if_ne hm_172 rfl ⟨by omega, by omega⟩ (fun _ => ?_) (fun h => absurd (by omega) h)
        refine ga_aload_n (v := .ref 344) hm_172 rfl rfl rfl ?_
        refine ga_getr (b := 378) hm_172 rfl sc_344 rfl ?_
        refine ga_aload_n (v := .ref 344) hm_172 rfl rfl rfl ?_
        refine ga_aload_n (v := .ref 344) hm_172 rfl rfl rfl ?_
        refine ga_iload_n (z := s) hm_172 rfl rfl ?_
        refine ga_aload_n (v := .ref 344) hm_172 rfl rfl rfl ?_
        refine ga_getr (b := 373) hm_172 rfl sc_344 rfl ?_
        refine ga_iload_n (z := i) hm_172 rfl rfl ?_
        refine ga_lald (z := i) (w := F 373 i.toNat) hm_172 rfl sc_373 (by omega) (by omega) (by omega) (rfl) ?_
        refine gVl (nY := 4) (F := 0) (L := 0) (As := [.int (Int32.ofInt s), .long (Int64.ofInt (F 373 i.toNat))]) (b := 344) (rest := [.ref 344, .ref 378]) hm_172 rfl hm_158 rfl rfl (fl_ob sc_344) rfl rfl rfl rfl rfl (by omega) (by omega) (mc_158 hG F X hgi (s) (F 373 i.toNat) (⟨by omega, by omega⟩) (⟨by omega, by omega⟩)) (fun _ _ h => False.elim h) ?_
        rintro z26_ A1_ ⟨hA_, c27_, c28_⟩
        subst hA_
        refine gVi (nY := 6) (F := 0) (L := 0) (As := [.long (Int64.ofInt z26_)]) (b := 344) (rest := [.ref 378]) hm_172 rfl hm_189 rfl rfl (fl_ob sc_344) rfl rfl rfl rfl rfl (by omega) (by omega) (mc_189 hG F X hgi (z26_) (⟨by omega, by omega⟩) (gs_free hg (by omega))) (fun _ _ h => False.elim h) ?_
        rintro z29_ A1_ ⟨hA_, c30_, c31_⟩
        subst hA_
        have b32_ : 0 ≤ F 378 z29_.toNat ∧ F 378 z29_.toNat ≤ 200 := gi_g hgi rfl
        refine ga_iald (z := z29_) (w := F 378 z29_.toNat) hm_172 rfl sc_378 (by omega) (by omega) (by omega) (rfl) ?_
        refine fx_if_ne (a := F 378 z29_.toNat) hm_172 rfl ⟨by omega, by omega⟩ (fun h33_ => ?_) (fun h34_ => ?_)
        ·
          refine ga_inc (a := s) (c := s + 1) (lv2 := [(3, .int (Int32.ofInt (s + 1))), (4, .int (Int32.ofInt ((iwa (F 374 i.toNat) (F 357 (F 367 s.toNat).toNat))))), (2, .int (Int32.ofInt i)), (1, .int (Int32.ofInt b2)), (0, .ref 344)]) hm_172 rfl rfl (Nat.le_of_ble_eq_true rfl) rfl rfl ?_
          refine fl_goto hm_172 rfl ?_
          exact fl_R_sub (lv' := [(3, .int (Int32.ofInt (s + 1))), (2, .int (Int32.ofInt i)), (1, .int (Int32.ofInt b2)), (0, .ref 344)]) rfl rfl (ih10_ _ (by omega) (b2) (s + 1) rfl (⟨by omega, by omega⟩) (hb2))
        refine ga_iload (z := (iwa (F 374 i.toNat) (F 357 (F 367 s.toNat).toNat))) hm_172 rfl rfl ?_
        refine ga_istore_n (lv2 := [(1, .int (Int32.ofInt ((iwa (F 374 i.toNat) (F 357 (F 367 s.toNat).toNat))))), (4, .int (Int32.ofInt ((iwa (F 374 i.toNat) (F 357 (F 367 s.toNat).toNat))))), (3, .int (Int32.ofInt s)), (2, .int (Int32.ofInt i)), (0, .ref 344)]) hm_172 rfl (Nat.le_of_ble_eq_true rfl) rfl ?_
        refine ga_inc (a := s) (c := s + 1) (lv2 := [(3, .int (Int32.ofInt (s + 1))), (1, .int (Int32.ofInt ((iwa (F 374 i.toNat) (F 357 (F 367 s.toNat).toNat))))), (4, .int (Int32.ofInt ((iwa (F 374 i.toNat) (F 357 (F 367 s.toNat).toNat))))), (2, .int (Int32.ofInt i)), (0, .ref 344)]) hm_172 rfl rfl (Nat.le_of_ble_eq_true rfl) rfl rfl ?_
        refine fl_goto hm_172 rfl ?_
        exact fl_R_sub (lv' := [(3, .int (Int32.ofInt (s + 1))), (2, .int (Int32.ofInt i)), (1, .int (Int32.ofInt ((iwa (F 374 i.toNat) (F 357 (F 367 s.toNat).toNat))))), (0, .ref 344)]) rfl rfl (ih10_ _ (by omega) ((iwa (F 374 i.toNat) (F 357 (F 367 s.toNat).toNat))) (s + 1) rfl (⟨by omega, by omega⟩) (⟨Or.inr ⟨i, s, ⟨by omega, by omega⟩, ⟨by omega, by omega⟩, rfl, c25_, _, (c27_) ▸ c31_, by omega⟩, by omega, by omega⟩))
      refine ga_iload (z := (iwa (F 374 i.toNat) (F 357 (F 367 s.toNat).toNat))) hm_172 rfl rfl ?_
      refine ga_iload_n (z := b2) hm_172 rfl rfl ?_
      refine fl_icmp_ge (a := (iwa (F 374 i.toNat) (F 357 (F 367 s.toNat).toNat))) (b := b2) hm_172 rfl ⟨by omega, by omega⟩ ⟨by omega, by omega⟩ (fun h35_ => ?_) (fun h36_ => ?_)
      ·
        refine ga_inc (a := s) (c := s + 1) (lv2 := [(3, .int (Int32.ofInt (s + 1))), (4, .int (Int32.ofInt ((iwa (F 374 i.toNat) (F 357 (F 367 s.toNat).toNat))))), (2, .int (Int32.ofInt i)), (1, .int (Int32.ofInt b2)), (0, .ref 344)]) hm_172 rfl rfl (Nat.le_of_ble_eq_true rfl) rfl rfl ?_
        refine fl_goto hm_172 rfl ?_
        exact fl_R_sub (lv' := [(3, .int (Int32.ofInt (s + 1))), (2, .int (Int32.ofInt i)), (1, .int (Int32.ofInt b2)), (0, .ref 344)]) rfl rfl (ih10_ _ (by omega) (b2) (s + 1) rfl (⟨by omega, by omega⟩) (hb2))
      refine ga_aload_n (v := .ref 344) hm_172 rfl rfl rfl ?_
      refine ga_iload_n (z := s) hm_172 rfl rfl ?_
      refine ga_aload_n (v := .ref 344) hm_172 rfl rfl rfl ?_
      refine ga_getr (b := 373) hm_172 rfl sc_344 rfl ?_
      refine ga_iload_n (z := i) hm_172 rfl rfl ?_
      have b37_ : -9223372036854775808 ≤ F 373 i.toNat ∧ F 373 i.toNat ≤ 9223372036854775807 := gi_g hgi rfl
      refine ga_lald (z := i) (w := F 373 i.toNat) hm_172 rfl sc_373 (by omega) (by omega) (by omega) (rfl) ?_
      refine gVi (nY := 4) (F := 0) (L := 0) (As := [.int (Int32.ofInt s), .long (Int64.ofInt (F 373 i.toNat))]) (b := 344) (rest := []) hm_172 rfl hm_157 rfl rfl (fl_ob sc_344) rfl rfl rfl rfl rfl (by omega) (by omega) (mc_157 hG F X hgi (s) (F 373 i.toNat) (⟨by omega, by omega⟩) (⟨by omega, by omega⟩)) (fun _ _ h => False.elim h) ?_
      rintro z38_ A1_ (⟨hA_, hz_, c39_⟩ | ⟨hA_, hz_, c40_⟩)
      ·
        subst hA_
        subst hz_
        refine fl_if_ne hm_172 rfl ⟨by omega, by omega⟩ (fun h => absurd h (by omega)) (fun _ => ?_)
        refine fl_goto hm_172 rfl ?_
        refine ga_inc (a := s) (c := s + 1) (lv2 := [(3, .int (Int32.ofInt (s + 1))), (4, .int (Int32.ofInt ((iwa (F 374 i.toNat) (F 357 (F 367 s.toNat).toNat))))), (2, .int (Int32.ofInt i)), (1, .int (Int32.ofInt b2)), (0, .ref 344)]) hm_172 rfl rfl (Nat.le_of_ble_eq_true rfl) rfl rfl ?_
        refine fl_goto hm_172 rfl ?_
        exact fl_R_sub (lv' := [(3, .int (Int32.ofInt (s + 1))), (2, .int (Int32.ofInt i)), (1, .int (Int32.ofInt b2)), (0, .ref 344)]) rfl rfl (ih10_ _ (by omega) (b2) (s + 1) rfl (⟨by omega, by omega⟩) (hb2))
      subst hA_
      subst hz_
      refine fl_if_ne hm_172 rfl ⟨by omega, by omega⟩ (fun _ => ?_) (fun h => absurd (by omega) h)
      refine ga_aload_n (v := .ref 344) hm_172 rfl rfl rfl ?_
      refine ga_getr (b := 378) hm_172 rfl sc_344 rfl ?_
      refine ga_aload_n (v := .ref 344) hm_172 rfl rfl rfl ?_
      refine ga_aload_n (v := .ref 344) hm_172 rfl rfl rfl ?_
      refine ga_iload_n (z := s) hm_172 rfl rfl ?_
      refine ga_aload_n (v := .ref 344) hm_172 rfl rfl rfl ?_
      refine ga_getr (b := 373) hm_172 rfl sc_344 rfl ?_
      refine ga_iload_n (z := i) hm_172 rfl rfl ?_
      refine ga_lald (z := i) (w := F 373 i.toNat) hm_172 rfl sc_373 (by omega) (by omega) (by omega) (rfl) ?_
      refine gVl (nY := 4) (F := 0) (L := 0) (As := [.int (Int32.ofInt s), .long (Int64.ofInt (F 373 i.toNat))]) (b := 344) (rest := [.ref 344, .ref 378]) hm_172 rfl hm_158 rfl rfl (fl_ob sc_344) rfl rfl rfl rfl rfl (by omega) (by omega) (mc_158 hG F X hgi (s) (F 373 i.toNat) (⟨by omega, by omega⟩) (⟨by omega, by omega⟩)) (fun _ _ h => False.elim h) ?_
      rintro z41_ A1_ ⟨hA_, c42_, c43_⟩
      subst hA_
      refine gVi (nY := 6) (F := 0) (L := 0) (As := [.long (Int64.ofInt z41_)]) (b := 344) (rest := [.ref 378]) hm_172 rfl hm_189 rfl rfl (fl_ob sc_344) rfl rfl rfl rfl rfl (by omega) (by omega) (mc_189 hG F X hgi (z41_) (⟨by omega, by omega⟩) (gs_free hg (by omega))) (fun _ _ h => False.elim h) ?_
      rintro z44_ A1_ ⟨hA_, c45_, c46_⟩
      subst hA_
      have b47_ : 0 ≤ F 378 z44_.toNat ∧ F 378 z44_.toNat ≤ 200 := gi_g hgi rfl
      refine ga_iald (z := z44_) (w := F 378 z44_.toNat) hm_172 rfl sc_378 (by omega) (by omega) (by omega) (rfl) ?_
      refine fx_if_ne (a := F 378 z44_.toNat) hm_172 rfl ⟨by omega, by omega⟩ (fun h48_ => ?_) (fun h49_ => ?_)
      ·
        refine ga_inc (a := s) (c := s + 1) (lv2 := [(3, .int (Int32.ofInt (s + 1))), (4, .int (Int32.ofInt ((iwa (F 374 i.toNat) (F 357 (F 367 s.toNat).toNat))))), (2, .int (Int32.ofInt i)), (1, .int (Int32.ofInt b2)), (0, .ref 344)]) hm_172 rfl rfl (Nat.le_of_ble_eq_true rfl) rfl rfl ?_
        refine fl_goto hm_172 rfl ?_
        exact fl_R_sub (lv' := [(3, .int (Int32.ofInt (s + 1))), (2, .int (Int32.ofInt i)), (1, .int (Int32.ofInt b2)), (0, .ref 344)]) rfl rfl (ih10_ _ (by omega) (b2) (s + 1) rfl (⟨by omega, by omega⟩) (hb2))
      refine ga_iload (z := (iwa (F 374 i.toNat) (F 357 (F 367 s.toNat).toNat))) hm_172 rfl rfl ?_
      refine ga_istore_n (lv2 := [(1, .int (Int32.ofInt ((iwa (F 374 i.toNat) (F 357 (F 367 s.toNat).toNat))))), (4, .int (Int32.ofInt ((iwa (F 374 i.toNat) (F 357 (F 367 s.toNat).toNat))))), (3, .int (Int32.ofInt s)), (2, .int (Int32.ofInt i)), (0, .ref 344)]) hm_172 rfl (Nat.le_of_ble_eq_true rfl) rfl ?_
      refine ga_inc (a := s) (c := s + 1) (lv2 := [(3, .int (Int32.ofInt (s + 1))), (1, .int (Int32.ofInt ((iwa (F 374 i.toNat) (F 357 (F 367 s.toNat).toNat))))), (4, .int (Int32.ofInt ((iwa (F 374 i.toNat) (F 357 (F 367 s.toNat).toNat))))), (2, .int (Int32.ofInt i)), (0, .ref 344)]) hm_172 rfl rfl (Nat.le_of_ble_eq_true rfl) rfl rfl ?_
      refine fl_goto hm_172 rfl ?_
      exact fl_R_sub (lv' := [(3, .int (Int32.ofInt (s + 1))), (2, .int (Int32.ofInt i)), (1, .int (Int32.ofInt ((iwa (F 374 i.toNat) (F 357 (F 367 s.toNat).toNat))))), (0, .ref 344)]) rfl rfl (ih10_ _ (by omega) ((iwa (F 374 i.toNat) (F 357 (F 367 s.toNat).toNat))) (s + 1) rfl (⟨by omega, by omega⟩) (⟨Or.inr ⟨i, s, ⟨by omega, by omega⟩, ⟨by omega, by omega⟩, rfl, c40_, _, (c42_) ▸ c46_, by omega⟩, by omega, by omega⟩))
    exact L9_ _ (be) (0) rfl (⟨by omega, by omega⟩) (hbe)
  exact L2_ _ (-1) (0) rfl (⟨by omega, by omega⟩) (⟨Or.inl rfl, by omega, by omega⟩)
/- CheapPlannerModel.findGoal -/
abbrev pq_163 (G : Nat → Nat → Option Nat) (F : fl_N) (X : xi_H) (c : Int) : Outcome → xi_H → Prop := gqv (fun A => ∃ F' : fl_N, fl_H sh_T G F' ++ X = A ∧ gi F' ∧ fs [(344, 344, 66, 66), (374, 377, 0, 100000), (379, 380, 0, 100000)] F F' ∧ (rs F' (F' 344 49)) ∧ (gn F') ∧ (∀ j : Nat, j ≠ 200 → F' 374 j = F 374 j)) gqn
theorem mc_163 {G : Nat → Nat → Option Nat} (hG : gg G) (F : fl_N) (X : xi_H) (hgi : gi F) (c : Int) (hc : -2147483648 ≤ c ∧ c ≤ 2147483647) (hr : rs F (F 344 49)) (h49 : 1 ≤ F 344 49) : fl_M xi_ms 163 2 49 [.ref 344, .int (Int32.ofInt c)] (fl_H sh_T G F ++ X) (pq_163 G F X c) := by
  intro fr lo hfr hlo
  show fl_R xi_ms 163 fr lo 0 [(0, .ref 344), (1, .int (Int32.ofInt c))] [] _ _
  have hb49 : 0 ≤ F 344 49 ∧ F 344 49 ≤ 200 := gi_g hgi rfl
  refine ga_aload_n (v := .ref 344) hm_163 rfl rfl rfl ?_
  refine fl_iconst hm_163 rfl ?_
  refine ga_putz (z := 0) hm_163 rfl sc_344 rfl rfl (by omega) ?_
  refine fl_iconst hm_163 rfl ?_
  refine ga_istore_n (lv2 := [(2, .int (Int32.ofInt 0)), (0, .ref 344), (1, .int (Int32.ofInt c))]) hm_163 rfl (Nat.le_of_ble_eq_true rfl) rfl ?_
  obtain ⟨F1_, q2_⟩ : ∃ Fq_, Fq_ = (fl_u F 344 66 0) := ⟨_, rfl⟩
  rw [← q2_]
  have g3_ : gi F1_ := by rw [q2_]; exact gi_u (hgi) rfl (by omega) (by omega)
  have g4_ : fs [(344, 344, 66, 66), (374, 377, 0, 100000), (379, 380, 0, 100000)] F F1_ := by rw [q2_]; exact fs_u (fs_refl) rfl
  have L6_ : ∀ (n5_ : Nat) (i : Int) (F1 : fl_N), (200 - i : Int).toNat = n5_ → (gi F1) → (fs [(344, 344, 66, 66), (374, 377, 0, 100000), (379, 380, 0, 100000)] F1_ F1) → (0 ≤ i ∧ i ≤ 200) → (rs F1 (F1 344 49)) → (gn F1) → (∀ j : Nat, j ≠ 200 → F1 374 j = F 374 j) → fl_R xi_ms 163 fr lo 7 [(2, .int (Int32.ofInt i)), (0, .ref 344), (1, .int (Int32.ofInt c))] [] (fl_H sh_T G F1 ++ X) (pq_163 G F X c) := by
    intro n5_
    induction n5_ using Nat.strongRecOn with
    | ind n5_ ih7_ =>
    intro i F1 hn8_ hg_F1 hf_F1 hi hr1 hg1 ho1
    have g9_ : fs [(344, 344, 66, 66), (374, 377, 0, 100000), (379, 380, 0, 100000)] F F1 := fs_tr g4_ hf_F1 rfl
    refine ga_iload_n (z := i) hm_163 rfl rfl ?_
    refine ga_aload_n (v := .ref 344) hm_163 rfl rfl rfl ?_
    have e10_ : F1_ 344 49 = F 344 49 := by rw [q2_]; exact fl_u_ne (by first | exact nc_ rfl | decide | omega)
    have e11_ : F1 344 49 = F 344 49 := (hf_F1 344 49 rfl).trans (e10_)
    have b12_ : 0 ≤ F 344 49 ∧ F 344 49 ≤ 200 := gi_g hgi rfl
    refine ga_geti (z := F 344 49) hm_163 rfl sc_344 rfl (e11_) ?_
    refine fl_icmp_ge (a := i) (b := F 344 49) hm_163 rfl ⟨by omega, by omega⟩ ⟨by omega, by omega⟩ (fun h13_ => ?_) (fun h14_ => ?_)
    ·
      refine gr_v hm_163 rfl rfl ?_
      exact ⟨F1, rfl, hg_F1, g9_, (hr1), (hg1), (ho1)⟩
    refine fl_iconst hm_163 rfl ?_
    refine ga_istore_n (lv2 := [(3, .int (Int32.ofInt 0)), (2, .int (Int32.ofInt i)), (0, .ref 344), (1, .int (Int32.ofInt c))]) hm_163 rfl (Nat.le_of_ble_eq_true rfl) rfl ?_
    have L16_ : ∀ (n15_ : Nat) (s : Int) (F2 : fl_N), (40 - s : Int).toNat = n15_ → (gi F2) → (fs [(344, 344, 66, 66), (374, 377, 0, 100000), (379, 380, 0, 100000)] F1 F2) → (0 ≤ s ∧ s ≤ 40) → (rs F2 (F2 344 49)) → (gn F2) → (∀ j : Nat, j ≠ 200 → F2 374 j = F 374 j) → fl_R xi_ms 163 fr lo 17 [(3, .int (Int32.ofInt s)), (2, .int (Int32.ofInt i)), (0, .ref 344), (1, .int (Int32.ofInt c))] [] (fl_H sh_T G F2 ++ X) (pq_163 G F X c) := by
      intro n15_
      induction n15_ using Nat.strongRecOn with
      | ind n15_ ih17_ =>
      intro s F2 hn18_ hg_F2 hf_F2 hs hr2 hg2 ho2
      have g19_ : fs [(344, 344, 66, 66), (374, 377, 0, 100000), (379, 380, 0, 100000)] F F2 := fs_tr g9_ hf_F2 rfl
      refine ga_iload_n (z := s) hm_163 rfl rfl ?_
      refine ga_aload_n (v := .ref 344) hm_163 rfl rfl rfl ?_
      have e20_ : F1_ 344 39 = F 344 39 := by rw [q2_]; exact fl_u_ne (by first | exact nc_ rfl | decide | omega)
      have e21_ : F1 344 39 = F 344 39 := (hf_F1 344 39 rfl).trans (e20_)
      have e22_ : F2 344 39 = F 344 39 := (hf_F2 344 39 rfl).trans (e21_)
      have b23_ : 0 ≤ F 344 39 ∧ F 344 39 ≤ 40 := gi_g hgi rfl
      refine ga_geti (z := F 344 39) hm_163 rfl sc_344 rfl (e22_) ?_
      refine fl_icmp_ge (a := s) (b := F 344 39) hm_163 rfl ⟨by omega, by omega⟩ ⟨by omega, by omega⟩ (fun h24_ => ?_) (fun h25_ => ?_)
      ·
        refine ga_inc (a := i) (c := i + 1) (lv2 := [(2, .int (Int32.ofInt (i + 1))), (3, .int (Int32.ofInt s)), (0, .ref 344), (1, .int (Int32.ofInt c))]) hm_163 rfl rfl (Nat.le_of_ble_eq_true rfl) rfl rfl ?_
        refine fl_goto hm_163 rfl ?_
        have e26_ : F2 344 49 = F 344 49 := (hf_F2 344 49 rfl).trans (e11_)
        exact fl_R_sub (lv' := [(2, .int (Int32.ofInt (i + 1))), (0, .ref 344), (1, .int (Int32.ofInt c))]) rfl rfl (ih7_ _ (by omega) (i + 1) F2 rfl hg_F2 (fs_tr hf_F1 hf_F2 rfl) (⟨by omega, by omega⟩) (hr2) (hg2) (ho2))
      refine ga_aload_n (v := .ref 344) hm_163 rfl rfl rfl ?_
      refine ga_getr (b := 374) hm_163 rfl sc_344 rfl ?_
      refine ga_iload_n (z := i) hm_163 rfl rfl ?_
      have b27_ : -2147483648 ≤ F2 374 i.toNat ∧ F2 374 i.toNat ≤ 2147483647 := gi_g hg_F2 rfl
      refine ga_iald (z := i) (w := F2 374 i.toNat) hm_163 rfl sc_374 (by omega) (by omega) (by omega) (rfl) ?_
      refine ga_aload_n (v := .ref 344) hm_163 rfl rfl rfl ?_
      refine ga_getr (b := 357) hm_163 rfl sc_344 rfl ?_
      refine ga_aload_n (v := .ref 344) hm_163 rfl rfl rfl ?_
      refine ga_getr (b := 367) hm_163 rfl sc_344 rfl ?_
      refine ga_iload_n (z := s) hm_163 rfl rfl ?_
      have e28_ : F1_ 367 s.toNat = F 367 s.toNat := by rw [q2_]; exact fl_u_ne (by first | exact nc_ rfl | decide | omega)
      have e29_ : F1 367 s.toNat = F 367 s.toNat := (hf_F1 367 s.toNat (by first | exact fs_c rfl | exact (fs_n (by omega) (fs_n (by omega) (fs_n (by omega) rfl))))).trans (e28_)
      have e30_ : F2 367 s.toNat = F 367 s.toNat := (hf_F2 367 s.toNat (by first | exact fs_c rfl | exact (fs_n (by omega) (fs_n (by omega) (fs_n (by omega) rfl))))).trans (e29_)
      have b31_ : 0 ≤ F 367 s.toNat ∧ F 367 s.toNat ≤ 4 := gi_g hgi rfl
      refine ga_iald (z := s) (w := F 367 s.toNat) hm_163 rfl sc_367 (by omega) (by omega) (by omega) (e30_) ?_
      have e32_ : F1_ 357 (F 367 s.toNat).toNat = F 357 (F 367 s.toNat).toNat := by rw [q2_]; exact fl_u_ne (by first | exact nc_ rfl | decide | omega)
      have e33_ : F1 357 (F 367 s.toNat).toNat = F 357 (F 367 s.toNat).toNat := (hf_F1 357 (F 367 s.toNat).toNat (by first | exact fs_c rfl | exact (fs_n (by omega) (fs_n (by omega) (fs_n (by omega) rfl))))).trans (e32_)
      have e34_ : F2 357 (F 367 s.toNat).toNat = F 357 (F 367 s.toNat).toNat := (hf_F2 357 (F 367 s.toNat).toNat (by first | exact fs_c rfl | exact (fs_n (by omega) (fs_n (by omega) (fs_n (by omega) rfl))))).trans (e33_)
      have b35_ : -1000 ≤ F 357 (F 367 s.toNat).toNat ∧ F 357 (F 367 s.toNat).toNat ≤ 2000 := gi_g hgi rfl
      refine ga_iald (z := F 367 s.toNat) (w := F 357 (F 367 s.toNat).toNat) hm_163 rfl sc_357 (by omega) (by omega) (by omega) (e34_) ?_
      refine ga_ix (z := (iwa (F2 374 i.toNat) (F 357 (F 367 s.toNat).toNat))) hm_163 rfl rfl rfl (lop_e 5 _ _) (fun ⟨h36_, h37_⟩ => ?_)
      refine ga_iload_n (z := c) hm_163 rfl rfl ?_
      refine fx_icmp_ne (a := (iwa (F2 374 i.toNat) (F 357 (F 367 s.toNat).toNat))) (b := c) hm_163 rfl ⟨by omega, by omega⟩ ⟨by omega, by omega⟩ (fun h38_ => ?_) (fun h39_ => ?_)
      ·
        refine ga_inc (a := s) (c := s + 1) (lv2 := [(3, .int (Int32.ofInt (s + 1))), (2, .int (Int32.ofInt i)), (0, .ref 344), (1, .int (Int32.ofInt c))]) hm_163 rfl rfl (Nat.le_of_ble_eq_true rfl) rfl rfl ?_
        refine fl_goto hm_163 rfl ?_
        have e40_ : F2 344 49 = F 344 49 := (hf_F2 344 49 rfl).trans (e11_)
        exact ih17_ _ (by omega) (s + 1) F2 rfl hg_F2 hf_F2 (⟨by omega, by omega⟩) (hr2) (hg2) (ho2)
      refine ga_aload_n (v := .ref 344) hm_163 rfl rfl rfl ?_
      refine ga_iload_n (z := s) hm_163 rfl rfl ?_
      refine ga_aload_n (v := .ref 344) hm_163 rfl rfl rfl ?_
      refine ga_getr (b := 373) hm_163 rfl sc_344 rfl ?_
      refine ga_iload_n (z := i) hm_163 rfl rfl ?_
      have e41_ : F1_ 373 i.toNat = F 373 i.toNat := by rw [q2_]; exact fl_u_ne (by first | exact nc_ rfl | decide | omega)
      have e42_ : F1 373 i.toNat = F 373 i.toNat := (hf_F1 373 i.toNat (by first | exact fs_c rfl | exact (fs_n (by omega) (fs_n (by omega) (fs_n (by omega) rfl))))).trans (e41_)
      have e43_ : F2 373 i.toNat = F 373 i.toNat := (hf_F2 373 i.toNat (by first | exact fs_c rfl | exact (fs_n (by omega) (fs_n (by omega) (fs_n (by omega) rfl))))).trans (e42_)
      have b44_ : -9223372036854775808 ≤ F 373 i.toNat ∧ F 373 i.toNat ≤ 9223372036854775807 := gi_g hgi rfl
      refine ga_lald (z := i) (w := F 373 i.toNat) hm_163 rfl sc_373 (by omega) (by omega) (by omega) (e43_) ?_
      refine gVi (nY := 4) (F := 0) (L := 0) (As := [.int (Int32.ofInt s), .long (Int64.ofInt (F 373 i.toNat))]) (b := 344) (rest := []) hm_163 rfl hm_157 rfl rfl (fl_ob sc_344) rfl rfl rfl rfl rfl (by omega) (by omega) (mc_157 hG F2 X hg_F2 (s) (F 373 i.toNat) (⟨by omega, by omega⟩) (⟨by omega, by omega⟩)) (fun _ _ h => False.elim h) ?_
      rintro z45_ A1_ (⟨hA_, hz_, c46_⟩ | ⟨hA_, hz_, c47_⟩)
      ·
        subst hA_
        subst hz_
        refine fl_if_eq hm_163 rfl ⟨by omega, by omega⟩ (fun _ => ?_) (fun h => absurd (by omega) h)
        refine ga_inc (a := s) (c := s + 1) (lv2 := [(3, .int (Int32.ofInt (s + 1))), (2, .int (Int32.ofInt i)), (0, .ref 344), (1, .int (Int32.ofInt c))]) hm_163 rfl rfl (Nat.le_of_ble_eq_true rfl) rfl rfl ?_
        refine fl_goto hm_163 rfl ?_
        have e48_ : F2 344 49 = F 344 49 := (hf_F2 344 49 rfl).trans (e11_)
        exact ih17_ _ (by omega) (s + 1) F2 rfl hg_F2 hf_F2 (⟨by omega, by omega⟩) (hr2) (hg2) (ho2)
      subst hA_
      subst hz_
      refine fl_if_eq hm_163 rfl ⟨by omega, by omega⟩ (fun h => absurd h (by omega)) (fun _ => ?_)
      refine ga_aload_n (v := .ref 344) hm_163 rfl rfl rfl ?_
      refine ga_aload_n (v := .ref 344) hm_163 rfl rfl rfl ?_
      refine ga_iload_n (z := s) hm_163 rfl rfl ?_
      refine ga_aload_n (v := .ref 344) hm_163 rfl rfl rfl ?_
      refine ga_getr (b := 373) hm_163 rfl sc_344 rfl ?_
      refine ga_iload_n (z := i) hm_163 rfl rfl ?_
      refine ga_lald (z := i) (w := F 373 i.toNat) hm_163 rfl sc_373 (by omega) (by omega) (by omega) (e43_) ?_
      refine gVl (nY := 4) (F := 0) (L := 0) (As := [.int (Int32.ofInt s), .long (Int64.ofInt (F 373 i.toNat))]) (b := 344) (rest := [.ref 344]) hm_163 rfl hm_158 rfl rfl (fl_ob sc_344) rfl rfl rfl rfl rfl (by omega) (by omega) (mc_158 hG F2 X hg_F2 (s) (F 373 i.toNat) (⟨by omega, by omega⟩) (⟨by omega, by omega⟩)) (fun _ _ h => False.elim h) ?_
      rintro z49_ A1_ ⟨hA_, c50_, c51_⟩
      subst hA_
      refine gVi (nY := 3) (F := 0) (L := 0) (As := [.long (Int64.ofInt z49_)]) (b := 344) (rest := []) hm_163 rfl hm_168 rfl rfl (fl_ob sc_344) rfl rfl rfl rfl rfl (by omega) (by omega) (mc_168 hG F2 X hg_F2 (z49_) (⟨by omega, by omega⟩)) (fun _ _ h => False.elim h) ?_
      rintro z52_ A1_ ⟨hA_, c53_, c54_⟩
      subst hA_
      refine fx_if_ne (a := z52_) hm_163 rfl ⟨by omega, by omega⟩ (fun h55_ => ?_) (fun h56_ => ?_)
      ·
        refine ga_aload_n (v := .ref 344) hm_163 rfl rfl rfl ?_
        have b57_ : 0 ≤ F2 344 66 ∧ F2 344 66 ≤ 1 := gi_g hg_F2 rfl
        refine ga_geti (z := F2 344 66) hm_163 rfl sc_344 rfl (rfl) ?_
        refine fl_if_eq (a := F2 344 66) hm_163 rfl ⟨by omega, by omega⟩ (fun h58_ => ?_) (fun h59_ => ?_)
        ·
          refine ga_aload_n (v := .ref 344) hm_163 rfl rfl rfl ?_
          refine fl_sipush hm_163 rfl rfl ?_
          refine ga_iload_n (z := i) hm_163 rfl rfl ?_
          refine ga_iload_n (z := s) hm_163 rfl rfl ?_
          have e60_ : F2 344 49 = F 344 49 := (hf_F2 344 49 rfl).trans (e11_)
          refine gVv (nY := 4) (F := 0) (L := 0) (As := [.int (Int32.ofInt 200), .int (Int32.ofInt i), .int (Int32.ofInt s)]) (b := 344) (rest := []) hm_163 rfl hm_170 rfl rfl (fl_ob sc_344) rfl rfl rfl rfl rfl (by omega) (by omega) (mc_170 hG F2 X hg_F2 (200) (i) (s) (⟨by omega, by omega⟩) (⟨by omega, by omega⟩) (⟨by omega, by omega⟩) (by have h9_ := rs_di hr2 (i := i) (by omega) (by omega); omega)) (fun _ _ h => False.elim h) ?_
          rintro A1_ ⟨F66_, hA_, g67_, s68_, c62_, c63_, c64_, c65_⟩
          subst hA_
          have g69_ : fs [(344, 344, 66, 66), (374, 377, 0, 100000), (379, 380, 0, 100000)] F F66_ := fs_tr g19_ s68_ rfl
          refine ga_aload_n (v := .ref 344) hm_163 rfl rfl rfl ?_
          refine fl_iconst hm_163 rfl ?_
          refine ga_putz (z := 1) hm_163 rfl sc_344 rfl rfl (by omega) ?_
          refine ga_inc (a := s) (c := s + 1) (lv2 := [(3, .int (Int32.ofInt (s + 1))), (2, .int (Int32.ofInt i)), (0, .ref 344), (1, .int (Int32.ofInt c))]) hm_163 rfl rfl (Nat.le_of_ble_eq_true rfl) rfl rfl ?_
          refine fl_goto hm_163 rfl ?_
          obtain ⟨F70_, q71_⟩ : ∃ Fq_, Fq_ = (fl_u F66_ 344 66 1) := ⟨_, rfl⟩
          rw [← q71_]
          have g72_ : gi F70_ := by rw [q71_]; exact gi_u (g67_) rfl (by omega) (by omega)
          have g73_ : fs [(344, 344, 66, 66), (374, 377, 0, 100000), (379, 380, 0, 100000)] F F70_ := by rw [q71_]; exact fs_u (g69_) rfl
          have e74_ : F66_ 344 49 = F 344 49 := (s68_ 344 49 rfl).trans (e60_)
          have e75_ : F70_ 344 49 = F 344 49 := by rw [q71_]; exact (fl_u_ne (by first | exact nc_ rfl | decide | omega)).trans (e74_)
          have e76_ : F66_ 344 39 = F 344 39 := (s68_ 344 39 rfl).trans (e22_)
          have e77_ : F70_ 344 39 = F 344 39 := by rw [q71_]; exact (fl_u_ne (by first | exact nc_ rfl | decide | omega)).trans (e76_)
          exact ih17_ _ (by omega) (s + 1) F70_ rfl g72_ (by rw [q71_]; exact fs_u ((fs_tr hf_F2 s68_ rfl)) rfl) (⟨by omega, by omega⟩) (rs_old (rs_cg (old := F2 344 49) hr2 (Eq.trans (a := F70_ 344 49) (b := F66_ 344 49) (show F70_ 344 49 = F66_ 344 49 from (by rw [q71_]; exact (fl_u_ne (by first | exact nc_ rfl | decide | omega)))) (show F66_ 344 49 = F2 344 49 from (s68_ 344 49 (by first | exact fs_c rfl | exact (fs_n (by omega) rfl))))) (Eq.trans (a := F70_ 344 39) (b := F66_ 344 39) (show F70_ 344 39 = F66_ 344 39 from (by rw [q71_]; exact (fl_u_ne (by first | exact nc_ rfl | decide | omega)))) (show F66_ 344 39 = F2 344 39 from (s68_ 344 39 (by first | exact fs_c rfl | exact (fs_n (by omega) rfl))))) (by omega) (fun j hj => ⟨(Eq.trans (a := F70_ 375 j) (b := F66_ 375 j) (show F70_ 375 j = F66_ 375 j from (by rw [q71_]; exact (fl_u_ne (by first | exact nc_ rfl | decide | omega)))) (c62_ j (by omega)).2.1), (Eq.trans (a := F70_ 376 j) (b := F66_ 376 j) (show F70_ 376 j = F66_ 376 j from (by rw [q71_]; exact (fl_u_ne (by first | exact nc_ rfl | decide | omega)))) (c62_ j (by omega)).2.2.1), (Eq.trans (a := F70_ 377 j) (b := F66_ 377 j) (show F70_ 377 j = F66_ 377 j from (by rw [q71_]; exact (fl_u_ne (by first | exact nc_ rfl | decide | omega)))) (c62_ j (by omega)).2.2.2)⟩)) ((Eq.trans (a := F70_ 344 49) (b := F66_ 344 49) (show F70_ 344 49 = F66_ 344 49 from (by rw [q71_]; exact (fl_u_ne (by first | exact nc_ rfl | decide | omega)))) (show F66_ 344 49 = F2 344 49 from (s68_ 344 49 (by first | exact fs_c rfl | exact (fs_n (by omega) rfl))))))) (gn_k c62_ c63_ c64_ c65_ (fun j => (show F70_ 375 j = F66_ 375 j from (by rw [q71_]; exact (fl_u_ne (by first | exact nc_ rfl | decide | omega))))) (fun j => (show F70_ 376 j = F66_ 376 j from (by rw [q71_]; exact (fl_u_ne (by first | exact nc_ rfl | decide | omega))))) (fun j => (show F70_ 377 j = F66_ 377 j from (by rw [q71_]; exact (fl_u_ne (by first | exact nc_ rfl | decide | omega))))) ⟨by omega, by omega⟩ (by omega) (by omega)) (fun j hj => Eq.trans (Eq.trans (a := F70_ 374 j) (b := F66_ 374 j) (show F70_ 374 j = F66_ 374 j from (by rw [q71_]; exact (fl_u_ne (by first | exact nc_ rfl | decide | omega)))) (c62_ j (by omega)).1) (ho2 j hj))
        refine ga_aload_n (v := .ref 344) hm_163 rfl rfl rfl ?_
        refine ga_iload_n (z := i) hm_163 rfl rfl ?_
        refine ga_iload_n (z := s) hm_163 rfl rfl ?_
        refine fl_sipush hm_163 rfl rfl ?_
        refine gVi (nY := 6) (F := 1) (L := 24) (As := [.int (Int32.ofInt i), .int (Int32.ofInt s), .int (Int32.ofInt 200)]) (b := 344) (rest := []) hm_163 rfl hm_167 rfl rfl (fl_ob sc_344) rfl rfl rfl rfl rfl (by omega) (by omega) (mc_167 hG F2 X hg_F2 (i) (s) (200) (⟨by omega, by omega⟩) (⟨by omega, by omega⟩) (⟨by omega, by omega⟩)) (fun _ _ h => False.elim h) ?_
        rintro z78_ A1_ ⟨F80_, hA_, g81_, s82_, c79_⟩
        subst hA_
        have g83_ : fs [(344, 344, 66, 66), (374, 377, 0, 100000), (379, 380, 0, 100000)] F F80_ := fs_tr g19_ s82_ rfl
        refine fx_if_ne (a := z78_) hm_163 rfl ⟨by omega, by omega⟩ (fun h84_ => ?_) (fun h85_ => ?_)
        ·
          refine ga_aload_n (v := .ref 344) hm_163 rfl rfl rfl ?_
          refine fl_sipush hm_163 rfl rfl ?_
          refine ga_iload_n (z := i) hm_163 rfl rfl ?_
          refine ga_iload_n (z := s) hm_163 rfl rfl ?_
          have e86_ : F2 344 49 = F 344 49 := (hf_F2 344 49 rfl).trans (e11_)
          refine gVv (nY := 4) (F := 0) (L := 0) (As := [.int (Int32.ofInt 200), .int (Int32.ofInt i), .int (Int32.ofInt s)]) (b := 344) (rest := []) hm_163 rfl hm_170 rfl rfl (fl_ob sc_344) rfl rfl rfl rfl rfl (by omega) (by omega) (mc_170 hG F80_ X g81_ (200) (i) (s) (⟨by omega, by omega⟩) (⟨by omega, by omega⟩) (⟨by omega, by omega⟩) (by have h9_ := rs_di hr2 (i := i) (by omega) (by omega); rw [show F80_ 375 i.toNat = F2 375 i.toNat from (show F80_ 375 i.toNat = F2 375 i.toNat from (s82_ 375 i.toNat (by first | exact fs_c rfl | exact (fs_n (by omega) rfl))))]; omega)) (fun _ _ h => False.elim h) ?_
          rintro A1_ ⟨F92_, hA_, g93_, s94_, c88_, c89_, c90_, c91_⟩
          subst hA_
          have g95_ : fs [(344, 344, 66, 66), (374, 377, 0, 100000), (379, 380, 0, 100000)] F F92_ := fs_tr g83_ s94_ rfl
          refine ga_aload_n (v := .ref 344) hm_163 rfl rfl rfl ?_
          refine fl_iconst hm_163 rfl ?_
          refine ga_putz (z := 1) hm_163 rfl sc_344 rfl rfl (by omega) ?_
          refine ga_inc (a := s) (c := s + 1) (lv2 := [(3, .int (Int32.ofInt (s + 1))), (2, .int (Int32.ofInt i)), (0, .ref 344), (1, .int (Int32.ofInt c))]) hm_163 rfl rfl (Nat.le_of_ble_eq_true rfl) rfl rfl ?_
          refine fl_goto hm_163 rfl ?_
          obtain ⟨F96_, q97_⟩ : ∃ Fq_, Fq_ = (fl_u F92_ 344 66 1) := ⟨_, rfl⟩
          rw [← q97_]
          have g98_ : gi F96_ := by rw [q97_]; exact gi_u (g93_) rfl (by omega) (by omega)
          have g99_ : fs [(344, 344, 66, 66), (374, 377, 0, 100000), (379, 380, 0, 100000)] F F96_ := by rw [q97_]; exact fs_u (g95_) rfl
          have e100_ : F80_ 344 49 = F 344 49 := (s82_ 344 49 rfl).trans (e86_)
          have e101_ : F92_ 344 49 = F 344 49 := (s94_ 344 49 rfl).trans (e100_)
          have e102_ : F96_ 344 49 = F 344 49 := by rw [q97_]; exact (fl_u_ne (by first | exact nc_ rfl | decide | omega)).trans (e101_)
          have e103_ : F80_ 344 39 = F 344 39 := (s82_ 344 39 rfl).trans (e22_)
          have e104_ : F92_ 344 39 = F 344 39 := (s94_ 344 39 rfl).trans (e103_)
          have e105_ : F96_ 344 39 = F 344 39 := by rw [q97_]; exact (fl_u_ne (by first | exact nc_ rfl | decide | omega)).trans (e104_)
          exact ih17_ _ (by omega) (s + 1) F96_ rfl g98_ (by rw [q97_]; exact fs_u ((fs_tr (fs_tr hf_F2 s82_ rfl) s94_ rfl)) rfl) (⟨by omega, by omega⟩) (rs_old (rs_cg (old := F2 344 49) hr2 (Eq.trans (a := F96_ 344 49) (b := F92_ 344 49) (show F96_ 344 49 = F92_ 344 49 from (by rw [q97_]; exact (fl_u_ne (by first | exact nc_ rfl | decide | omega)))) (Eq.trans (a := F92_ 344 49) (b := F80_ 344 49) (show F92_ 344 49 = F80_ 344 49 from (s94_ 344 49 (by first | exact fs_c rfl | exact (fs_n (by omega) rfl)))) (show F80_ 344 49 = F2 344 49 from (s82_ 344 49 (by first | exact fs_c rfl | exact (fs_n (by omega) rfl)))))) (Eq.trans (a := F96_ 344 39) (b := F92_ 344 39) (show F96_ 344 39 = F92_ 344 39 from (by rw [q97_]; exact (fl_u_ne (by first | exact nc_ rfl | decide | omega)))) (Eq.trans (a := F92_ 344 39) (b := F80_ 344 39) (show F92_ 344 39 = F80_ 344 39 from (s94_ 344 39 (by first | exact fs_c rfl | exact (fs_n (by omega) rfl)))) (show F80_ 344 39 = F2 344 39 from (s82_ 344 39 (by first | exact fs_c rfl | exact (fs_n (by omega) rfl)))))) (by omega) (fun j hj => ⟨(Eq.trans (a := F96_ 375 j) (b := F92_ 375 j) (show F96_ 375 j = F92_ 375 j from (by rw [q97_]; exact (fl_u_ne (by first | exact nc_ rfl | decide | omega)))) (Eq.trans (a := F92_ 375 j) (b := F80_ 375 j) (c88_ j (by omega)).2.1 (show F80_ 375 j = F2 375 j from (s82_ 375 j (by first | exact fs_c rfl | exact (fs_n (by omega) rfl)))))), (Eq.trans (a := F96_ 376 j) (b := F92_ 376 j) (show F96_ 376 j = F92_ 376 j from (by rw [q97_]; exact (fl_u_ne (by first | exact nc_ rfl | decide | omega)))) (Eq.trans (a := F92_ 376 j) (b := F80_ 376 j) (c88_ j (by omega)).2.2.1 (show F80_ 376 j = F2 376 j from (s82_ 376 j (by first | exact fs_c rfl | exact (fs_n (by omega) rfl)))))), (Eq.trans (a := F96_ 377 j) (b := F92_ 377 j) (show F96_ 377 j = F92_ 377 j from (by rw [q97_]; exact (fl_u_ne (by first | exact nc_ rfl | decide | omega)))) (Eq.trans (a := F92_ 377 j) (b := F80_ 377 j) (c88_ j (by omega)).2.2.2 (show F80_ 377 j = F2 377 j from (s82_ 377 j (by first | exact fs_c rfl | exact (fs_n (by omega) rfl))))))⟩)) ((Eq.trans (a := F96_ 344 49) (b := F92_ 344 49) (show F96_ 344 49 = F92_ 344 49 from (by rw [q97_]; exact (fl_u_ne (by first | exact nc_ rfl | decide | omega)))) (Eq.trans (a := F92_ 344 49) (b := F80_ 344 49) (show F92_ 344 49 = F80_ 344 49 from (s94_ 344 49 (by first | exact fs_c rfl | exact (fs_n (by omega) rfl)))) (show F80_ 344 49 = F2 344 49 from (s82_ 344 49 (by first | exact fs_c rfl | exact (fs_n (by omega) rfl)))))))) (gn_k c88_ c89_ c90_ c91_ (fun j => (show F96_ 375 j = F92_ 375 j from (by rw [q97_]; exact (fl_u_ne (by first | exact nc_ rfl | decide | omega))))) (fun j => (show F96_ 376 j = F92_ 376 j from (by rw [q97_]; exact (fl_u_ne (by first | exact nc_ rfl | decide | omega))))) (fun j => (show F96_ 377 j = F92_ 377 j from (by rw [q97_]; exact (fl_u_ne (by first | exact nc_ rfl | decide | omega))))) ⟨by omega, by omega⟩ (by omega) (by omega)) (fun j hj => Eq.trans (Eq.trans (a := F96_ 374 j) (b := F92_ 374 j) (show F96_ 374 j = F92_ 374 j from (by rw [q97_]; exact (fl_u_ne (by first | exact nc_ rfl | decide | omega)))) (Eq.trans (a := F92_ 374 j) (b := F80_ 374 j) (c88_ j (by omega)).1 (show F80_ 374 j = F2 374 j from (s82_ 374 j (by first | exact fs_c rfl | exact (fs_n (by omega) rfl)))))) (ho2 j hj))
        refine fl_goto hm_163 rfl ?_
        refine ga_inc (a := s) (c := s + 1) (lv2 := [(3, .int (Int32.ofInt (s + 1))), (2, .int (Int32.ofInt i)), (0, .ref 344), (1, .int (Int32.ofInt c))]) hm_163 rfl rfl (Nat.le_of_ble_eq_true rfl) rfl rfl ?_
        refine fl_goto hm_163 rfl ?_
        have e106_ : F2 344 49 = F 344 49 := (hf_F2 344 49 rfl).trans (e11_)
        have e107_ : F80_ 344 49 = F 344 49 := (s82_ 344 49 rfl).trans (e106_)
        exact ih17_ _ (by omega) (s + 1) F80_ rfl g81_ (fs_tr hf_F2 s82_ rfl) (⟨by omega, by omega⟩) (rs_old (rs_cg (old := F2 344 49) hr2 (show F80_ 344 49 = F2 344 49 from (s82_ 344 49 (by first | exact fs_c rfl | exact (fs_n (by omega) rfl)))) (show F80_ 344 39 = F2 344 39 from (s82_ 344 39 (by first | exact fs_c rfl | exact (fs_n (by omega) rfl)))) (by omega) (fun j hj => ⟨(show F80_ 375 j = F2 375 j from (s82_ 375 j (by first | exact fs_c rfl | exact (fs_n (by omega) rfl)))), (show F80_ 376 j = F2 376 j from (s82_ 376 j (by first | exact fs_c rfl | exact (fs_n (by omega) rfl)))), (show F80_ 377 j = F2 377 j from (s82_ 377 j (by first | exact fs_c rfl | exact (fs_n (by omega) rfl))))⟩)) ((show F80_ 344 49 = F2 344 49 from (s82_ 344 49 (by first | exact fs_c rfl | exact (fs_n (by omega) rfl)))))) (gn_cg hg2 (show F80_ 344 66 = F2 344 66 from (s82_ 344 66 (by first | exact fs_c rfl | exact (fs_n (by omega) rfl)))) (show F80_ 344 49 = F2 344 49 from (s82_ 344 49 (by first | exact fs_c rfl | exact (fs_n (by omega) rfl)))) (show F80_ 344 39 = F2 344 39 from (s82_ 344 39 (by first | exact fs_c rfl | exact (fs_n (by omega) rfl)))) (fun j => (show F80_ 375 j = F2 375 j from (s82_ 375 j (by first | exact fs_c rfl | exact (fs_n (by omega) rfl))))) (fun j => (show F80_ 376 j = F2 376 j from (s82_ 376 j (by first | exact fs_c rfl | exact (fs_n (by omega) rfl))))) (fun j => (show F80_ 377 j = F2 377 j from (s82_ 377 j (by first | exact fs_c rfl | exact (fs_n (by omega) rfl)))))) (fun j hj => Eq.trans (show F80_ 374 j = F2 374 j from (s82_ 374 j (by first | exact fs_c rfl | exact (fs_n (by omega) rfl)))) (ho2 j hj))
      refine fl_goto hm_163 rfl ?_
      refine ga_inc (a := s) (c := s + 1) (lv2 := [(3, .int (Int32.ofInt (s + 1))), (2, .int (Int32.ofInt i)), (0, .ref 344), (1, .int (Int32.ofInt c))]) hm_163 rfl rfl (Nat.le_of_ble_eq_true rfl) rfl rfl ?_
      refine fl_goto hm_163 rfl ?_
      have e108_ : F2 344 49 = F 344 49 := (hf_F2 344 49 rfl).trans (e11_)
      exact ih17_ _ (by omega) (s + 1) F2 rfl hg_F2 hf_F2 (⟨by omega, by omega⟩) (hr2) (hg2) (ho2)
    exact L16_ _ (0) F1 rfl hg_F1 fs_refl (⟨by omega, by omega⟩) (hr1) (hg1) (ho1)
  have e109_ : F1_ 344 49 = F 344 49 := by rw [q2_]; exact fl_u_ne (by first | exact nc_ rfl | decide | omega)
  have b110_ : 0 ≤ F 344 49 ∧ F 344 49 ≤ 200 := gi_g hgi rfl
  have e111_ : F1_ 344 66 = 0 := by rw [q2_]; exact fl_u_eq
  exact L6_ _ (0) F1_ rfl g3_ fs_refl (⟨by omega, by omega⟩) (rs_old (rs_cg (old := F 344 49) hr (show F1_ 344 49 = F 344 49 from (by rw [q2_]; exact (fl_u_ne (by first | exact nc_ rfl | decide | omega)))) (show F1_ 344 39 = F 344 39 from (by rw [q2_]; exact (fl_u_ne (by first | exact nc_ rfl | decide | omega)))) (by omega) (fun j hj => ⟨(show F1_ 375 j = F 375 j from (by rw [q2_]; exact (fl_u_ne (by first | exact nc_ rfl | decide | omega)))), (show F1_ 376 j = F 376 j from (by rw [q2_]; exact (fl_u_ne (by first | exact nc_ rfl | decide | omega)))), (show F1_ 377 j = F 377 j from (by rw [q2_]; exact (fl_u_ne (by first | exact nc_ rfl | decide | omega))))⟩)) ((show F1_ 344 49 = F 344 49 from (by rw [q2_]; exact (fl_u_ne (by first | exact nc_ rfl | decide | omega)))))) (fun h9_ => absurd h9_ (by omega)) (fun j _ => (show F1_ 374 j = F 374 j from (by rw [q2_]; exact (fl_u_ne (by first | exact nc_ rfl | decide | omega)))))
/- CheapPlannerModel.grow -/
abbrev pq_166 (G : Nat → Nat → Option Nat) (F : fl_N) (X : xi_H) (c mo : Int) : Outcome → xi_H → Prop := gqi (fun z A => (∃ F' : fl_N, fl_H sh_T G F' ++ X = A ∧ gi F' ∧ fs [(344, 344, 49, 49), (373, 380, 0, 100000)] F F' ∧ (z = 0)) ∨ (∃ F' : fl_N, fl_H sh_T G F' ++ X = A ∧ gi F' ∧ fs [(344, 344, 49, 49), (373, 380, 0, 100000)] F F' ∧ (z = 1) ∧ (gs F' (F' 344 49)) ∧ (F 344 49 < F' 344 49) ∧ (F' 344 49 ≤ mo))) gqn
theorem mc_166 {G : Nat → Nat → Option Nat} (hG : gg G) (F : fl_N) (X : xi_H) (hgi : gi F) (c mo : Int) (hc : -2147483648 ≤ c ∧ c ≤ 2147483647) (hmo : 1 ≤ mo ∧ mo ≤ 200) (hsm : F 344 49 ≤ mo) (hg : gs F (F 344 49)) (hnw : nxw F c) : fl_M xi_ms 166 2 49 [.ref 344, .int (Int32.ofInt c), .int (Int32.ofInt mo)] (fl_H sh_T G F ++ X) (pq_166 G F X c mo) := by
  intro fr lo hfr hlo
  show fl_R xi_ms 166 fr lo 0 [(0, .ref 344), (1, .int (Int32.ofInt c)), (2, .int (Int32.ofInt mo))] [] _ _
  obtain ⟨iw, sw, hw⟩ := hnw
  have hw1 := hw.1
  have hw2 := hw.2.1
  have hb49 : 0 ≤ F 344 49 ∧ F 344 49 ≤ 200 := gi_g hgi rfl
  have hb39 : 0 ≤ F 344 39 ∧ F 344 39 ≤ 40 := gi_g hgi rfl
  refine ga_aload_n (v := .ref 344) hm_166 rfl rfl rfl ?_
  have b1_ : 0 ≤ F 344 49 ∧ F 344 49 ≤ 200 := gi_g hgi rfl
  refine ga_geti (z := F 344 49) hm_166 rfl sc_344 rfl (rfl) ?_
  refine ga_istore_n (lv2 := [(3, .int (Int32.ofInt (F 344 49))), (0, .ref 344), (1, .int (Int32.ofInt c)), (2, .int (Int32.ofInt mo))]) hm_166 rfl (Nat.le_of_ble_eq_true rfl) rfl ?_
  refine fl_iconst hm_166 rfl ?_
  refine ga_istore (lv2 := [(4, .int (Int32.ofInt 0)), (3, .int (Int32.ofInt (F 344 49))), (0, .ref 344), (1, .int (Int32.ofInt c)), (2, .int (Int32.ofInt mo))]) hm_166 rfl (Nat.le_of_ble_eq_true rfl) rfl ?_
  have L3_ : ∀ (n2_ : Nat) (i : Int) (F1 : fl_N), (200 - i : Int).toNat = n2_ → (gi F1) → (fs [(344, 344, 49, 49), (373, 380, 0, 100000)] F F1) → (0 ≤ i ∧ i ≤ F 344 49) → (gs F1 (F 344 49)) → (F 344 49 ≤ F1 344 49 ∧ F1 344 49 ≤ mo) → ((F1 = F ∧ i ≤ iw) ∨ F 344 49 < F1 344 49) → fl_R xi_ms 166 fr lo 8 [(4, .int (Int32.ofInt i)), (3, .int (Int32.ofInt (F 344 49))), (0, .ref 344), (1, .int (Int32.ofInt c)), (2, .int (Int32.ofInt mo))] [] (fl_H sh_T G F1 ++ X) (pq_166 G F X c mo) := by
    intro n2_
    induction n2_ using Nat.strongRecOn with
    | ind n2_ ih4_ =>
    intro i F1 hn5_ hg_F1 hf_F1 hi hg1 hge hd1
    have g6_ : fs [(344, 344, 49, 49), (373, 380, 0, 100000)] F F1 := fs_tr fs_refl hf_F1 rfl
    refine ga_iload (z := i) hm_166 rfl rfl ?_
    refine ga_iload_n (z := F 344 49) hm_166 rfl rfl ?_
    refine fl_icmp_ge (a := i) (b := F 344 49) hm_166 rfl ⟨by omega, by omega⟩ ⟨by omega, by omega⟩ (fun h7_ => ?_) (fun h8_ => ?_)
    ·
      refine fl_iconst hm_166 rfl ?_
      refine gr_i (z := 1) hm_166 rfl rfl (ga_nb (by omega)) ?_
      have b9_ : 0 ≤ F1 344 49 ∧ F1 344 49 ≤ 200 := gi_g hg_F1 rfl
      exact Or.inr (⟨F1, rfl, hg_F1, g6_, rfl, (⟨rs_mono hg1.1 (by omega), hg1.2⟩), (nwx_e hd1 (by omega)), (by omega)⟩)
    refine fl_iconst hm_166 rfl ?_
    refine ga_istore (lv2 := [(5, .int (Int32.ofInt 0)), (4, .int (Int32.ofInt i)), (3, .int (Int32.ofInt (F 344 49))), (0, .ref 344), (1, .int (Int32.ofInt c)), (2, .int (Int32.ofInt mo))]) hm_166 rfl (Nat.le_of_ble_eq_true rfl) rfl ?_
    have L11_ : ∀ (n10_ : Nat) (s : Int) (F2 : fl_N), (40 - s : Int).toNat = n10_ → (gi F2) → (fs [(344, 344, 49, 49), (373, 380, 0, 100000)] F1 F2) → (0 ≤ s ∧ s ≤ 40) → (gs F2 (F 344 49)) → (F 344 49 ≤ F2 344 49 ∧ F2 344 49 ≤ mo) → ((F2 = F ∧ (i < iw ∨ (i = iw ∧ s ≤ sw))) ∨ F 344 49 < F2 344 49) → fl_R xi_ms 166 fr lo 17 [(5, .int (Int32.ofInt s)), (4, .int (Int32.ofInt i)), (3, .int (Int32.ofInt (F 344 49))), (0, .ref 344), (1, .int (Int32.ofInt c)), (2, .int (Int32.ofInt mo))] [] (fl_H sh_T G F2 ++ X) (pq_166 G F X c mo) := by
      intro n10_
      induction n10_ using Nat.strongRecOn with
      | ind n10_ ih12_ =>
      intro s F2 hn13_ hg_F2 hf_F2 hs hg2 hge2 hd2
      have g14_ : fs [(344, 344, 49, 49), (373, 380, 0, 100000)] F F2 := fs_tr g6_ hf_F2 rfl
      have hb492 : 0 ≤ F2 344 49 ∧ F2 344 49 ≤ 200 := gi_g hg_F2 rfl
      refine ga_iload (z := s) hm_166 rfl rfl ?_
      refine ga_aload_n (v := .ref 344) hm_166 rfl rfl rfl ?_
      have e15_ : F1 344 39 = F 344 39 := (hf_F1 344 39 rfl).trans (rfl)
      have e16_ : F2 344 39 = F 344 39 := (hf_F2 344 39 rfl).trans (e15_)
      have b17_ : 0 ≤ F 344 39 ∧ F 344 39 ≤ 40 := gi_g hgi rfl
      refine ga_geti (z := F 344 39) hm_166 rfl sc_344 rfl (e16_) ?_
      refine fl_icmp_ge (a := s) (b := F 344 39) hm_166 rfl ⟨by omega, by omega⟩ ⟨by omega, by omega⟩ (fun h18_ => ?_) (fun h19_ => ?_)
      ·
        refine ga_inc (a := i) (c := i + 1) (lv2 := [(4, .int (Int32.ofInt (i + 1))), (5, .int (Int32.ofInt s)), (3, .int (Int32.ofInt (F 344 49))), (0, .ref 344), (1, .int (Int32.ofInt c)), (2, .int (Int32.ofInt mo))]) hm_166 rfl rfl (Nat.le_of_ble_eq_true rfl) rfl rfl ?_
        refine fl_goto hm_166 rfl ?_
        have b20_ : 0 ≤ F2 344 49 ∧ F2 344 49 ≤ 200 := gi_g hg_F2 rfl
        have b21_ : 0 ≤ F1 344 49 ∧ F1 344 49 ≤ 200 := gi_g hg_F1 rfl
        exact fl_R_sub (lv' := [(4, .int (Int32.ofInt (i + 1))), (3, .int (Int32.ofInt (F 344 49))), (0, .ref 344), (1, .int (Int32.ofInt c)), (2, .int (Int32.ofInt mo))]) rfl rfl (ih4_ _ (by omega) (i + 1) F2 rfl hg_F2 (fs_tr hf_F1 hf_F2 rfl) (⟨by omega, by omega⟩) (hg2) (⟨by omega, by omega⟩) (nwx_o hd2 (by omega)))
      refine ga_aload_n (v := .ref 344) hm_166 rfl rfl rfl ?_
      refine ga_getr (b := 374) hm_166 rfl sc_344 rfl ?_
      refine ga_iload (z := i) hm_166 rfl rfl ?_
      have b22_ : -2147483648 ≤ F2 374 i.toNat ∧ F2 374 i.toNat ≤ 2147483647 := gi_g hg_F2 rfl
      refine ga_iald (z := i) (w := F2 374 i.toNat) hm_166 rfl sc_374 (by omega) (by omega) (by omega) (rfl) ?_
      refine ga_aload_n (v := .ref 344) hm_166 rfl rfl rfl ?_
      refine ga_getr (b := 357) hm_166 rfl sc_344 rfl ?_
      refine ga_aload_n (v := .ref 344) hm_166 rfl rfl rfl ?_
      refine ga_getr (b := 367) hm_166 rfl sc_344 rfl ?_
      refine ga_iload (z := s) hm_166 rfl rfl ?_
      have e23_ : F1 367 s.toNat = F 367 s.toNat := (hf_F1 367 s.toNat (by first | exact fs_c rfl | exact (fs_n (by omega) (fs_n (by omega) rfl)))).trans (rfl)
      have e24_ : F2 367 s.toNat = F 367 s.toNat := (hf_F2 367 s.toNat (by first | exact fs_c rfl | exact (fs_n (by omega) (fs_n (by omega) rfl)))).trans (e23_)
      have b25_ : 0 ≤ F 367 s.toNat ∧ F 367 s.toNat ≤ 4 := gi_g hgi rfl
      refine ga_iald (z := s) (w := F 367 s.toNat) hm_166 rfl sc_367 (by omega) (by omega) (by omega) (e24_) ?_
      have e26_ : F1 357 (F 367 s.toNat).toNat = F 357 (F 367 s.toNat).toNat := (hf_F1 357 (F 367 s.toNat).toNat (by first | exact fs_c rfl | exact (fs_n (by omega) (fs_n (by omega) rfl)))).trans (rfl)
      have e27_ : F2 357 (F 367 s.toNat).toNat = F 357 (F 367 s.toNat).toNat := (hf_F2 357 (F 367 s.toNat).toNat (by first | exact fs_c rfl | exact (fs_n (by omega) (fs_n (by omega) rfl)))).trans (e26_)
      have b28_ : -1000 ≤ F 357 (F 367 s.toNat).toNat ∧ F 357 (F 367 s.toNat).toNat ≤ 2000 := gi_g hgi rfl
      refine ga_iald (z := F 367 s.toNat) (w := F 357 (F 367 s.toNat).toNat) hm_166 rfl sc_357 (by omega) (by omega) (by omega) (e27_) ?_
      refine ga_ix (z := (iwa (F2 374 i.toNat) (F 357 (F 367 s.toNat).toNat))) hm_166 rfl rfl rfl (lop_e 5 _ _) (fun ⟨h29_, h30_⟩ => ?_)
      refine ga_iload_n (z := c) hm_166 rfl rfl ?_
      refine fx_icmp_ne (a := (iwa (F2 374 i.toNat) (F 357 (F 367 s.toNat).toNat))) (b := c) hm_166 rfl ⟨by omega, by omega⟩ ⟨by omega, by omega⟩ (fun h31_ => ?_) (fun h32_ => ?_)
      ·
        refine ga_inc (a := s) (c := s + 1) (lv2 := [(5, .int (Int32.ofInt (s + 1))), (4, .int (Int32.ofInt i)), (3, .int (Int32.ofInt (F 344 49))), (0, .ref 344), (1, .int (Int32.ofInt c)), (2, .int (Int32.ofInt mo))]) hm_166 rfl rfl (Nat.le_of_ble_eq_true rfl) rfl rfl ?_
        refine fl_goto hm_166 rfl ?_
        have b33_ : 0 ≤ F2 344 49 ∧ F2 344 49 ≤ 200 := gi_g hg_F2 rfl
        exact ih12_ _ (by omega) (s + 1) F2 rfl hg_F2 hf_F2 (⟨by omega, by omega⟩) (hg2) (⟨by omega, by omega⟩) (nwx_1 hd2 hw (by assumption))
      refine ga_aload_n (v := .ref 344) hm_166 rfl rfl rfl ?_
      refine ga_iload (z := s) hm_166 rfl rfl ?_
      refine ga_aload_n (v := .ref 344) hm_166 rfl rfl rfl ?_
      refine ga_getr (b := 373) hm_166 rfl sc_344 rfl ?_
      refine ga_iload (z := i) hm_166 rfl rfl ?_
      have b34_ : -9223372036854775808 ≤ F2 373 i.toNat ∧ F2 373 i.toNat ≤ 9223372036854775807 := gi_g hg_F2 rfl
      refine ga_lald (z := i) (w := F2 373 i.toNat) hm_166 rfl sc_373 (by omega) (by omega) (by omega) (rfl) ?_
      refine gVi (nY := 4) (F := 0) (L := 0) (As := [.int (Int32.ofInt s), .long (Int64.ofInt (F2 373 i.toNat))]) (b := 344) (rest := []) hm_166 rfl hm_157 rfl rfl (fl_ob sc_344) rfl rfl rfl rfl rfl (by omega) (by omega) (mc_157 hG F2 X hg_F2 (s) (F2 373 i.toNat) (⟨by omega, by omega⟩) (⟨by omega, by omega⟩)) (fun _ _ h => False.elim h) ?_
      rintro z35_ A1_ (⟨hA_, hz_, c36_⟩ | ⟨hA_, hz_, c37_⟩)
      ·
        subst hA_
        subst hz_
        refine fl_if_ne hm_166 rfl ⟨by omega, by omega⟩ (fun h => absurd h (by omega)) (fun _ => ?_)
        refine fl_goto hm_166 rfl ?_
        refine ga_inc (a := s) (c := s + 1) (lv2 := [(5, .int (Int32.ofInt (s + 1))), (4, .int (Int32.ofInt i)), (3, .int (Int32.ofInt (F 344 49))), (0, .ref 344), (1, .int (Int32.ofInt c)), (2, .int (Int32.ofInt mo))]) hm_166 rfl rfl (Nat.le_of_ble_eq_true rfl) rfl rfl ?_
        refine fl_goto hm_166 rfl ?_
        have b38_ : 0 ≤ F2 344 49 ∧ F2 344 49 ≤ 200 := gi_g hg_F2 rfl
        exact ih12_ _ (by omega) (s + 1) F2 rfl hg_F2 hf_F2 (⟨by omega, by omega⟩) (hg2) (⟨by omega, by omega⟩) (nwx_2 hd2 hw c36_)
      subst hA_
      subst hz_
      refine fl_if_ne hm_166 rfl ⟨by omega, by omega⟩ (fun _ => ?_) (fun h => absurd (by omega) h)
      refine ga_aload_n (v := .ref 344) hm_166 rfl rfl rfl ?_
      refine ga_iload (z := s) hm_166 rfl rfl ?_
      refine ga_aload_n (v := .ref 344) hm_166 rfl rfl rfl ?_
      refine ga_getr (b := 373) hm_166 rfl sc_344 rfl ?_
      refine ga_iload (z := i) hm_166 rfl rfl ?_
      refine ga_lald (z := i) (w := F2 373 i.toNat) hm_166 rfl sc_373 (by omega) (by omega) (by omega) (rfl) ?_
      refine gVl (nY := 4) (F := 0) (L := 0) (As := [.int (Int32.ofInt s), .long (Int64.ofInt (F2 373 i.toNat))]) (b := 344) (rest := []) hm_166 rfl hm_158 rfl rfl (fl_ob sc_344) rfl rfl rfl rfl rfl (by omega) (by omega) (mc_158 hG F2 X hg_F2 (s) (F2 373 i.toNat) (⟨by omega, by omega⟩) (⟨by omega, by omega⟩)) (fun _ _ h => False.elim h) ?_
      rintro z39_ A1_ ⟨hA_, c40_, c41_⟩
      subst hA_
      refine ga_lstore (lv2 := [(6, .long (Int64.ofInt z39_)), (5, .int (Int32.ofInt s)), (4, .int (Int32.ofInt i)), (3, .int (Int32.ofInt (F 344 49))), (0, .ref 344), (1, .int (Int32.ofInt c)), (2, .int (Int32.ofInt mo))]) hm_166 rfl (Nat.le_of_ble_eq_true rfl) rfl ?_
      refine ga_aload_n (v := .ref 344) hm_166 rfl rfl rfl ?_
      refine ga_lload (z := z39_) hm_166 rfl rfl ?_
      refine gVi (nY := 6) (F := 0) (L := 0) (As := [.long (Int64.ofInt z39_)]) (b := 344) (rest := []) hm_166 rfl hm_189 rfl rfl (fl_ob sc_344) rfl rfl rfl rfl rfl (by omega) (by omega) (mc_189 hG F2 X hg_F2 (z39_) (⟨by omega, by omega⟩) (gs_free hg2 (by omega))) (fun _ _ h => False.elim h) ?_
      rintro z42_ A1_ ⟨hA_, c43_, c44_⟩
      subst hA_
      refine ga_istore (lv2 := [(8, .int (Int32.ofInt z42_)), (6, .long (Int64.ofInt z39_)), (5, .int (Int32.ofInt s)), (4, .int (Int32.ofInt i)), (3, .int (Int32.ofInt (F 344 49))), (0, .ref 344), (1, .int (Int32.ofInt c)), (2, .int (Int32.ofInt mo))]) hm_166 rfl (Nat.le_of_ble_eq_true rfl) rfl ?_
      refine ga_aload_n (v := .ref 344) hm_166 rfl rfl rfl ?_
      refine ga_getr (b := 378) hm_166 rfl sc_344 rfl ?_
      refine ga_iload (z := z42_) hm_166 rfl rfl ?_
      have b45_ : 0 ≤ F2 378 z42_.toNat ∧ F2 378 z42_.toNat ≤ 200 := gi_g hg_F2 rfl
      refine ga_iald (z := z42_) (w := F2 378 z42_.toNat) hm_166 rfl sc_378 (by omega) (by omega) (by omega) (rfl) ?_
      refine fl_iconst hm_166 rfl ?_
      refine ga_isub (a := F2 378 z42_.toNat) (b := 1) (c := F2 378 z42_.toNat - 1) hm_166 rfl (by omega) ?_
      refine ga_istore (lv2 := [(9, .int (Int32.ofInt (F2 378 z42_.toNat - 1))), (8, .int (Int32.ofInt z42_)), (6, .long (Int64.ofInt z39_)), (5, .int (Int32.ofInt s)), (4, .int (Int32.ofInt i)), (3, .int (Int32.ofInt (F 344 49))), (0, .ref 344), (1, .int (Int32.ofInt c)), (2, .int (Int32.ofInt mo))]) hm_166 rfl (Nat.le_of_ble_eq_true rfl) rfl ?_
      have htb := hg2.2.2.1 (z42_).toNat (by omega)
      refine ga_iload (z := F2 378 z42_.toNat - 1) hm_166 rfl rfl ?_
      refine fl_iconst hm_166 rfl ?_
      refine fx_icmp_ne (a := F2 378 z42_.toNat - 1) (b := -1) hm_166 rfl ⟨by omega, by omega⟩ ⟨by omega, by omega⟩ (fun h46_ => ?_) (fun h47_ => ?_)
      ·
        refine ga_iload (z := F2 378 z42_.toNat - 1) hm_166 rfl rfl ?_
        refine ga_iload_n (z := F 344 49) hm_166 rfl rfl ?_
        refine fl_icmp_lt (a := F2 378 z42_.toNat - 1) (b := F 344 49) hm_166 rfl ⟨by omega, by omega⟩ ⟨by omega, by omega⟩ (fun h48_ => ?_) (fun h49_ => ?_)
        ·
          refine ga_inc (a := s) (c := s + 1) (lv2 := [(5, .int (Int32.ofInt (s + 1))), (9, .int (Int32.ofInt (F2 378 z42_.toNat - 1))), (8, .int (Int32.ofInt z42_)), (6, .long (Int64.ofInt z39_)), (4, .int (Int32.ofInt i)), (3, .int (Int32.ofInt (F 344 49))), (0, .ref 344), (1, .int (Int32.ofInt c)), (2, .int (Int32.ofInt mo))]) hm_166 rfl rfl (Nat.le_of_ble_eq_true rfl) rfl rfl ?_
          refine fl_goto hm_166 rfl ?_
          have b50_ : 0 ≤ F2 344 49 ∧ F2 344 49 ≤ 200 := gi_g hg_F2 rfl
          exact fl_R_sub (lv' := [(5, .int (Int32.ofInt (s + 1))), (4, .int (Int32.ofInt i)), (3, .int (Int32.ofInt (F 344 49))), (0, .ref 344), (1, .int (Int32.ofInt c)), (2, .int (Int32.ofInt mo))]) rfl rfl (ih12_ _ (by omega) (s + 1) F2 rfl hg_F2 hf_F2 (⟨by omega, by omega⟩) (hg2) (⟨by omega, by omega⟩) (nwx_3 hd2 hw ((c40_) ▸ c44_) (by omega)))
        refine ga_aload_n (v := .ref 344) hm_166 rfl rfl rfl ?_
        refine ga_iload (z := i) hm_166 rfl rfl ?_
        refine ga_iload (z := s) hm_166 rfl rfl ?_
        refine ga_iload (z := F2 378 z42_.toNat - 1) hm_166 rfl rfl ?_
        refine gVi (nY := 6) (F := 1) (L := 24) (As := [.int (Int32.ofInt i), .int (Int32.ofInt s), .int (Int32.ofInt (F2 378 z42_.toNat - 1))]) (b := 344) (rest := []) hm_166 rfl hm_167 rfl rfl (fl_ob sc_344) rfl rfl rfl rfl rfl (by omega) (by omega) (mc_167 hG F2 X hg_F2 (i) (s) (F2 378 z42_.toNat - 1) (⟨by omega, by omega⟩) (⟨by omega, by omega⟩) (⟨by omega, by omega⟩)) (fun _ _ h => False.elim h) ?_
        rintro z51_ A1_ ⟨F53_, hA_, g54_, s55_, c52_⟩
        subst hA_
        have g56_ : fs [(344, 344, 49, 49), (373, 380, 0, 100000)] F F53_ := fs_tr g14_ s55_ rfl
        refine fl_if_eq (a := z51_) hm_166 rfl ⟨by omega, by omega⟩ (fun h57_ => ?_) (fun h58_ => ?_)
        ·
          refine ga_inc (a := s) (c := s + 1) (lv2 := [(5, .int (Int32.ofInt (s + 1))), (9, .int (Int32.ofInt (F2 378 z42_.toNat - 1))), (8, .int (Int32.ofInt z42_)), (6, .long (Int64.ofInt z39_)), (4, .int (Int32.ofInt i)), (3, .int (Int32.ofInt (F 344 49))), (0, .ref 344), (1, .int (Int32.ofInt c)), (2, .int (Int32.ofInt mo))]) hm_166 rfl rfl (Nat.le_of_ble_eq_true rfl) rfl rfl ?_
          refine fl_goto hm_166 rfl ?_
          have e59_ : F53_ 344 49 = F2 344 49 := (s55_ 344 49 rfl).trans (rfl)
          have b60_ : 0 ≤ F2 344 49 ∧ F2 344 49 ≤ 200 := gi_g hg_F2 rfl
          exact fl_R_sub (lv' := [(5, .int (Int32.ofInt (s + 1))), (4, .int (Int32.ofInt i)), (3, .int (Int32.ofInt (F 344 49))), (0, .ref 344), (1, .int (Int32.ofInt c)), (2, .int (Int32.ofInt mo))]) rfl rfl (ih12_ _ (by omega) (s + 1) F53_ rfl g54_ (fs_tr hf_F2 s55_ rfl) (⟨by omega, by omega⟩) (gs_cg hg2 (show F53_ 344 49 = F2 344 49 from (s55_ 344 49 (by first | exact fs_c rfl | exact (fs_n (by omega) rfl)))) (show F53_ 344 39 = F2 344 39 from (s55_ 344 39 (by first | exact fs_c rfl | exact (fs_n (by omega) rfl)))) (fun j hj => ⟨(show F53_ 375 j = F2 375 j from (s55_ 375 j (by first | exact fs_c rfl | exact (fs_n (by omega) rfl)))), (show F53_ 376 j = F2 376 j from (s55_ 376 j (by first | exact fs_c rfl | exact (fs_n (by omega) rfl)))), (show F53_ 377 j = F2 377 j from (s55_ 377 j (by first | exact fs_c rfl | exact (fs_n (by omega) rfl))))⟩) (fun j => (show F53_ 378 j = F2 378 j from (s55_ 378 j (by first | exact fs_c rfl | exact (fs_n (by omega) rfl)))))) (⟨by omega, by omega⟩) (Or.inr (by have h7_ := nwx_gt hd2 hg2 (k := z42_) (by omega) (by omega); omega)))
        refine ga_aload_n (v := .ref 344) hm_166 rfl rfl rfl ?_
        refine ga_iload (z := F2 378 z42_.toNat - 1) hm_166 rfl rfl ?_
        refine ga_iload (z := i) hm_166 rfl rfl ?_
        refine ga_iload (z := s) hm_166 rfl rfl ?_
        refine gVv (nY := 4) (F := 0) (L := 0) (As := [.int (Int32.ofInt (F2 378 z42_.toNat - 1)), .int (Int32.ofInt i), .int (Int32.ofInt s)]) (b := 344) (rest := []) hm_166 rfl hm_170 rfl rfl (fl_ob sc_344) rfl rfl rfl rfl rfl (by omega) (by omega) (mc_170 hG F53_ X g54_ (F2 378 z42_.toNat - 1) (i) (s) (⟨by omega, by omega⟩) (⟨by omega, by omega⟩) (⟨by omega, by omega⟩) (by have h9_ := rs_di hg2.1 (i := i) (by omega) (by omega); rw [show F53_ 375 i.toNat = F2 375 i.toNat from (show F53_ 375 i.toNat = F2 375 i.toNat from (s55_ 375 i.toNat (by first | exact fs_c rfl | exact (fs_n (by omega) rfl))))]; omega)) (fun _ _ h => False.elim h) ?_
        rintro A1_ ⟨F66_, hA_, g67_, s68_, c62_, c63_, c64_, c65_⟩
        subst hA_
        have g69_ : fs [(344, 344, 49, 49), (373, 380, 0, 100000)] F F66_ := fs_tr g56_ s68_ rfl
        refine ga_inc (a := s) (c := s + 1) (lv2 := [(5, .int (Int32.ofInt (s + 1))), (9, .int (Int32.ofInt (F2 378 z42_.toNat - 1))), (8, .int (Int32.ofInt z42_)), (6, .long (Int64.ofInt z39_)), (4, .int (Int32.ofInt i)), (3, .int (Int32.ofInt (F 344 49))), (0, .ref 344), (1, .int (Int32.ofInt c)), (2, .int (Int32.ofInt mo))]) hm_166 rfl rfl (Nat.le_of_ble_eq_true rfl) rfl rfl ?_
        refine fl_goto hm_166 rfl ?_
        have e70_ : F53_ 344 49 = F2 344 49 := (s55_ 344 49 rfl).trans (rfl)
        have e71_ : F66_ 344 49 = F2 344 49 := (s68_ 344 49 rfl).trans (e70_)
        have b72_ : 0 ≤ F2 344 49 ∧ F2 344 49 ≤ 200 := gi_g hg_F2 rfl
        have e73_ : F53_ 344 39 = F 344 39 := (s55_ 344 39 rfl).trans (e16_)
        have e74_ : F66_ 344 39 = F 344 39 := (s68_ 344 39 rfl).trans (e73_)
        exact fl_R_sub (lv' := [(5, .int (Int32.ofInt (s + 1))), (4, .int (Int32.ofInt i)), (3, .int (Int32.ofInt (F 344 49))), (0, .ref 344), (1, .int (Int32.ofInt c)), (2, .int (Int32.ofInt mo))]) rfl rfl (ih12_ _ (by omega) (s + 1) F66_ rfl g67_ (fs_tr (fs_tr hf_F2 s55_ rfl) s68_ rfl) (⟨by omega, by omega⟩) (gs_re (i := i) (s := s) (n := F2 378 z42_.toNat - 1) hg2 (by omega) (by omega) (fun j hj => ⟨(Eq.trans (a := F66_ 375 j) (b := F53_ 375 j) (c62_ j (by omega)).2.1 (show F53_ 375 j = F2 375 j from (s55_ 375 j (by first | exact fs_c rfl | exact (fs_n (by omega) rfl))))), (Eq.trans (a := F66_ 376 j) (b := F53_ 376 j) (c62_ j (by omega)).2.2.1 (show F53_ 376 j = F2 376 j from (s55_ 376 j (by first | exact fs_c rfl | exact (fs_n (by omega) rfl))))), (Eq.trans (a := F66_ 377 j) (b := F53_ 377 j) (c62_ j (by omega)).2.2.2 (show F53_ 377 j = F2 377 j from (s55_ 377 j (by first | exact fs_c rfl | exact (fs_n (by omega) rfl)))))⟩) (c63_) (c64_) (Eq.trans (c65_) (by rw [show F53_ 375 i.toNat = F2 375 i.toNat from (show F53_ 375 i.toNat = F2 375 i.toNat from (s55_ 375 i.toNat (by first | exact fs_c rfl | exact (fs_n (by omega) rfl))))])) ⟨by omega, by omega⟩ (by omega) (by omega) (fun j => (Eq.trans (a := F66_ 378 j) (b := F53_ 378 j) (show F66_ 378 j = F53_ 378 j from (s68_ 378 j (by first | exact fs_c rfl | exact (fs_n (by omega) rfl)))) (show F53_ 378 j = F2 378 j from (s55_ 378 j (by first | exact fs_c rfl | exact (fs_n (by omega) rfl))))))) (⟨by omega, by omega⟩) (Or.inr (by have h7_ := nwx_gt hd2 hg2 (k := z42_) (by omega) (by omega); omega)))
      refine ga_aload_n (v := .ref 344) hm_166 rfl rfl rfl ?_
      have b75_ : 0 ≤ F2 344 49 ∧ F2 344 49 ≤ 200 := gi_g hg_F2 rfl
      refine ga_geti (z := F2 344 49) hm_166 rfl sc_344 rfl (rfl) ?_
      refine ga_iload_n (z := mo) hm_166 rfl rfl ?_
      refine fx_icmp_ne (a := F2 344 49) (b := mo) hm_166 rfl ⟨by omega, by omega⟩ ⟨by omega, by omega⟩ (fun h76_ => ?_) (fun h77_ => ?_)
      ·
        refine ga_aload_n (v := .ref 344) hm_166 rfl rfl rfl ?_
        refine ga_getr (b := 373) hm_166 rfl sc_344 rfl ?_
        refine ga_aload_n (v := .ref 344) hm_166 rfl rfl rfl ?_
        refine ga_geti (z := F2 344 49) hm_166 rfl sc_344 rfl (rfl) ?_
        refine ga_lload (z := z39_) hm_166 rfl rfl ?_
        refine fl_last (z := F2 344 49) (v := z39_) hm_166 rfl sc_373 (by omega) (by omega) (by omega) ?_
        refine ga_aload_n (v := .ref 344) hm_166 rfl rfl rfl ?_
        refine ga_aload_n (v := .ref 344) hm_166 rfl rfl rfl ?_
        refine ga_geti (z := F2 344 49) hm_166 rfl sc_344 rfl (fl_u_ne (by first | exact nc_ rfl | decide | omega)) ?_
        refine ga_iload (z := i) hm_166 rfl rfl ?_
        refine ga_iload (z := s) hm_166 rfl rfl ?_
        obtain ⟨F78_, q79_⟩ : ∃ Fq_, Fq_ = (fl_u F2 373 (F2 344 49).toNat z39_) := ⟨_, rfl⟩
        rw [← q79_]
        have g80_ : gi F78_ := by rw [q79_]; exact gi_u (hg_F2) rfl (by omega) (by omega)
        have g81_ : fs [(344, 344, 49, 49), (373, 380, 0, 100000)] F F78_ := by rw [q79_]; exact fs_u (g14_) (fs_z (fs_y (by omega)))
        refine gVv (nY := 4) (F := 0) (L := 0) (As := [.int (Int32.ofInt (F2 344 49)), .int (Int32.ofInt i), .int (Int32.ofInt s)]) (b := 344) (rest := []) hm_166 rfl hm_170 rfl rfl (fl_ob sc_344) rfl rfl rfl rfl rfl (by omega) (by omega) (mc_170 hG F78_ X g80_ (F2 344 49) (i) (s) (⟨by omega, by omega⟩) (⟨by omega, by omega⟩) (⟨by omega, by omega⟩) (by have h9_ := rs_di hg2.1 (i := i) (by omega) (by omega); rw [show F78_ 375 i.toNat = F2 375 i.toNat from (show F78_ 375 i.toNat = F2 375 i.toNat from (by rw [q79_]; exact (fl_u_ne (by first | exact nc_ rfl | decide | omega))))]; omega)) (fun _ _ h => False.elim h) ?_
        rintro A1_ ⟨F87_, hA_, g88_, s89_, c83_, c84_, c85_, c86_⟩
        subst hA_
        have g90_ : fs [(344, 344, 49, 49), (373, 380, 0, 100000)] F F87_ := fs_tr g81_ s89_ rfl
        refine ga_aload_n (v := .ref 344) hm_166 rfl rfl rfl ?_
        refine ga_dup hm_166 rfl rfl ?_
        have e91_ : F78_ 344 49 = F2 344 49 := by rw [q79_]; exact fl_u_ne (by first | exact nc_ rfl | decide | omega)
        have e92_ : F87_ 344 49 = F2 344 49 := (s89_ 344 49 rfl).trans (e91_)
        refine ga_geti (z := F2 344 49) hm_166 rfl sc_344 rfl (e92_) ?_
        refine fl_iconst hm_166 rfl ?_
        refine ga_iadd (a := F2 344 49) (b := 1) (c := F2 344 49 + 1) hm_166 rfl (by omega) ?_
        refine ga_puti (z := F2 344 49 + 1) hm_166 rfl sc_344 rfl rfl ?_
        refine ga_aload_n (v := .ref 344) hm_166 rfl rfl rfl ?_
        refine ga_getr (b := 378) hm_166 rfl sc_344 rfl ?_
        refine ga_iload (z := z42_) hm_166 rfl rfl ?_
        refine ga_aload_n (v := .ref 344) hm_166 rfl rfl rfl ?_
        refine ga_geti (z := F2 344 49 + 1) hm_166 rfl sc_344 rfl (fl_u_eq) ?_
        refine fl_iast (z := z42_) (v := F2 344 49 + 1) hm_166 rfl sc_378 (by omega) (by omega) (by omega) ?_
        refine fl_goto hm_166 rfl ?_
        refine ga_inc (a := s) (c := s + 1) (lv2 := [(5, .int (Int32.ofInt (s + 1))), (9, .int (Int32.ofInt (F2 378 z42_.toNat - 1))), (8, .int (Int32.ofInt z42_)), (6, .long (Int64.ofInt z39_)), (4, .int (Int32.ofInt i)), (3, .int (Int32.ofInt (F 344 49))), (0, .ref 344), (1, .int (Int32.ofInt c)), (2, .int (Int32.ofInt mo))]) hm_166 rfl rfl (Nat.le_of_ble_eq_true rfl) rfl rfl ?_
        refine fl_goto hm_166 rfl ?_
        obtain ⟨F93_, q94_⟩ : ∃ Fq_, Fq_ = (fl_u (fl_u F87_ 344 49 (F2 344 49 + 1)) 378 z42_.toNat (F2 344 49 + 1)) := ⟨_, rfl⟩
        rw [← q94_]
        have g95_ : gi F93_ := by rw [q94_]; exact gi_u (gi_u (g88_) rfl (by omega) (by omega)) rfl (by omega) (by omega)
        have g96_ : fs [(344, 344, 49, 49), (373, 380, 0, 100000)] F F93_ := by rw [q94_]; exact fs_u (fs_u (g90_) rfl) (fs_z (fs_y (by omega)))
        have e97_ : F93_ 344 49 = F2 344 49 + 1 := by rw [q94_]; exact (fl_u_ne (by first | exact nc_ rfl | decide | omega)).trans (fl_u_eq)
        have e98_ : F78_ 344 39 = F 344 39 := by rw [q79_]; exact (fl_u_ne (by first | exact nc_ rfl | decide | omega)).trans (e16_)
        have e99_ : F87_ 344 39 = F 344 39 := (s89_ 344 39 rfl).trans (e98_)
        have e100_ : F93_ 344 39 = F 344 39 := by rw [q94_]; exact (fl_u_ne (by first | exact nc_ rfl | decide | omega)).trans ((fl_u_ne (by first | exact nc_ rfl | decide | omega)).trans (e99_))
        have e101_ : F93_ 378 z42_.toNat = F2 344 49 + 1 := by rw [q94_]; exact fl_u_eq
        exact fl_R_sub (lv' := [(5, .int (Int32.ofInt (s + 1))), (4, .int (Int32.ofInt i)), (3, .int (Int32.ofInt (F 344 49))), (0, .ref 344), (1, .int (Int32.ofInt c)), (2, .int (Int32.ofInt mo))]) rfl rfl (ih12_ _ (by omega) (s + 1) F93_ rfl g95_ (by rw [q94_]; exact fs_u (fs_u ((fs_tr (by rw [q79_]; exact fs_u (hf_F2) (fs_z (fs_y (by omega)))) s89_ rfl)) rfl) (fs_z (fs_y (by omega)))) (⟨by omega, by omega⟩) (gs_add (i := i) (s := s) (k := z42_) hg2 (by omega) (by omega) (fun j hj => ⟨(Eq.trans (a := F93_ 375 j) (b := F87_ 375 j) (show F93_ 375 j = F87_ 375 j from (by rw [q94_]; exact (fl_u_ne (by first | exact nc_ rfl | decide | omega)).trans ((fl_u_ne (by first | exact nc_ rfl | decide | omega))))) (Eq.trans (a := F87_ 375 j) (b := F78_ 375 j) (c83_ j (by omega)).2.1 (show F78_ 375 j = F2 375 j from (by rw [q79_]; exact (fl_u_ne (by first | exact nc_ rfl | decide | omega)))))), (Eq.trans (a := F93_ 376 j) (b := F87_ 376 j) (show F93_ 376 j = F87_ 376 j from (by rw [q94_]; exact (fl_u_ne (by first | exact nc_ rfl | decide | omega)).trans ((fl_u_ne (by first | exact nc_ rfl | decide | omega))))) (Eq.trans (a := F87_ 376 j) (b := F78_ 376 j) (c83_ j (by omega)).2.2.1 (show F78_ 376 j = F2 376 j from (by rw [q79_]; exact (fl_u_ne (by first | exact nc_ rfl | decide | omega)))))), (Eq.trans (a := F93_ 377 j) (b := F87_ 377 j) (show F93_ 377 j = F87_ 377 j from (by rw [q94_]; exact (fl_u_ne (by first | exact nc_ rfl | decide | omega)).trans ((fl_u_ne (by first | exact nc_ rfl | decide | omega))))) (Eq.trans (a := F87_ 377 j) (b := F78_ 377 j) (c83_ j (by omega)).2.2.2 (show F78_ 377 j = F2 377 j from (by rw [q79_]; exact (fl_u_ne (by first | exact nc_ rfl | decide | omega))))))⟩) (Eq.trans (show F93_ 376 (F2 344 49).toNat = F87_ 376 (F2 344 49).toNat from (by rw [q94_]; exact (fl_u_ne (by first | exact nc_ rfl | decide | omega)).trans ((fl_u_ne (by first | exact nc_ rfl | decide | omega))))) c84_) (Eq.trans (show F93_ 377 (F2 344 49).toNat = F87_ 377 (F2 344 49).toNat from (by rw [q94_]; exact (fl_u_ne (by first | exact nc_ rfl | decide | omega)).trans ((fl_u_ne (by first | exact nc_ rfl | decide | omega))))) c85_) (Eq.trans (Eq.trans (show F93_ 375 (F2 344 49).toNat = F87_ 375 (F2 344 49).toNat from (by rw [q94_]; exact (fl_u_ne (by first | exact nc_ rfl | decide | omega)).trans ((fl_u_ne (by first | exact nc_ rfl | decide | omega))))) c86_) (by rw [show F78_ 375 i.toNat = F2 375 i.toNat from (show F78_ 375 i.toNat = F2 375 i.toNat from (by rw [q79_]; exact (fl_u_ne (by first | exact nc_ rfl | decide | omega))))])) ⟨by omega, by omega⟩ (by omega) (by omega) (fun j hj => (Eq.trans (a := F93_ 378 j) (b := F87_ 378 j) (show F93_ 378 j = F87_ 378 j from (by rw [q94_]; exact (fl_u_ne (by first | exact nc_ rfl | decide | omega)).trans ((fl_u_ne (by first | exact nc_ rfl | decide | omega))))) (Eq.trans (a := F87_ 378 j) (b := F78_ 378 j) (show F87_ 378 j = F78_ 378 j from (s89_ 378 j (by first | exact fs_c rfl | exact (fs_n (by omega) rfl)))) (show F78_ 378 j = F2 378 j from (by rw [q79_]; exact (fl_u_ne (by first | exact nc_ rfl | decide | omega))))))) (e101_)) (⟨by omega, by omega⟩) (Or.inr (by omega)))
      refine fl_iconst hm_166 rfl ?_
      refine gr_i (z := 0) hm_166 rfl rfl (ga_nb (by omega)) ?_
      exact Or.inl ⟨F2, rfl, hg_F2, g14_, rfl⟩
    have b102_ : 0 ≤ F1 344 49 ∧ F1 344 49 ≤ 200 := gi_g hg_F1 rfl
    exact L11_ _ (0) F1 rfl hg_F1 fs_refl (⟨by omega, by omega⟩) (hg1) (⟨by omega, by omega⟩) (nwx_i hd1 (by omega))
  exact L3_ _ (0) F rfl hgi fs_refl (⟨by omega, by omega⟩) (hg) (⟨by omega, by omega⟩) (Or.inl ⟨rfl, by omega⟩)

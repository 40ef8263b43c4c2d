/- CheapPlannerModel.isBefore -/
abbrev pq_167y (G : Nat → Nat → Option Nat) (F : fl_N) (X : xi_H) (fm st kn : Int) (V : List wy_T) (b : Int) : Outcome → xi_H → Prop := gqi (fun z A => ∃ F' : fl_N, fl_H sh_T G F' ++ X = A ∧ gi F' ∧ fs [(379, 380, 0, 100000)] F F' ∧ (0 ≤ z ∧ z ≤ 1) ∧ (z = 1 ↔ btr ((vat V fm.toNat) ++ [st]) ((vat V (F 376 kn.toNat).toNat) ++ [F 377 kn.toNat]))) gqn
theorem mc_167y {G : Nat → Nat → Option Nat} (hG : gg G) (F : fl_N) (X : xi_H) (hgi : gi F) (fm st kn : Int) (V : List wy_T) (b : Int) (hf : 0 ≤ fm ∧ fm ≤ 200) (hs : 0 ≤ st ∧ st ≤ 39) (hkn : 0 ≤ kn ∧ kn ≤ 200) (hch : chn (F 375) (F 376) (F 377) V b) (hfv : fm.toNat < V.length) (hkv : (0 ≤ F 376 kn.toNat ∧ (F 376 kn.toNat).toNat < V.length) ∧ F 375 kn.toNat = ((vat V (F 376 kn.toNat).toNat).length : Int) + 1) : fl_M xi_ms 167 1 24 [.ref 344, .int (Int32.ofInt fm), .int (Int32.ofInt st), .int (Int32.ofInt kn)] (fl_H sh_T G F ++ X) (pq_167y G F X fm st kn V b) := by
  intro fr lo hfr hlo
  show fl_R xi_ms 167 fr lo 0 [(0, .ref 344), (1, .int (Int32.ofInt fm)), (2, .int (Int32.ofInt st)), (3, .int (Int32.ofInt kn))] [] _ _
  have hlf_ := (hch.2 fm.toNat hfv).1
  have hX_ : ((vat V fm.toNat) ++ [st]).length = (vat V fm.toNat).length + 1 := by rw [List.length_append, List.length_singleton]
  have hY_ : ((vat V (F 376 kn.toNat).toNat) ++ [F 377 kn.toNat]).length = (vat V (F 376 kn.toNat).toNat).length + 1 := by rw [List.length_append, List.length_singleton]
  have hkl_ := hkv.2
  refine ga_aload_n (v := .ref 344) hm_167 rfl rfl rfl ?_
  refine ga_getr (b := 375) hm_167 rfl sc_344 rfl ?_
  refine ga_iload_n (z := fm) hm_167 rfl rfl ?_
  have b1_ : 0 ≤ F 375 fm.toNat ∧ F 375 fm.toNat ≤ 201 := gi_g hgi rfl
  refine ga_iald (z := fm) (w := F 375 fm.toNat) hm_167 rfl sc_375 (by omega) (by omega) (by omega) (rfl) ?_
  refine fl_iconst hm_167 rfl ?_
  refine ga_iadd (a := F 375 fm.toNat) (b := 1) (c := F 375 fm.toNat + 1) hm_167 rfl (by omega) ?_
  refine ga_istore (lv2 := [(4, .int (Int32.ofInt (F 375 fm.toNat + 1))), (0, .ref 344), (1, .int (Int32.ofInt fm)), (2, .int (Int32.ofInt st)), (3, .int (Int32.ofInt kn))]) hm_167 rfl (Nat.le_of_ble_eq_true rfl) rfl ?_
  refine ga_iload (z := F 375 fm.toNat + 1) hm_167 rfl rfl ?_
  refine ga_aload_n (v := .ref 344) hm_167 rfl rfl rfl ?_
  refine ga_getr (b := 375) hm_167 rfl sc_344 rfl ?_
  refine ga_iload_n (z := kn) hm_167 rfl rfl ?_
  have b2_ : 0 ≤ F 375 kn.toNat ∧ F 375 kn.toNat ≤ 201 := gi_g hgi rfl
  refine ga_iald (z := kn) (w := F 375 kn.toNat) hm_167 rfl sc_375 (by omega) (by omega) (by omega) (rfl) ?_
  refine fl_icmp_eq (a := F 375 fm.toNat + 1) (b := F 375 kn.toNat) hm_167 rfl ⟨by omega, by omega⟩ ⟨by omega, by omega⟩ (fun h3_ => ?_) (fun h4_ => ?_)
  ·
    refine ga_iload_n (z := fm) hm_167 rfl rfl ?_
    refine ga_aload_n (v := .ref 344) hm_167 rfl rfl rfl ?_
    refine ga_getr (b := 376) hm_167 rfl sc_344 rfl ?_
    refine ga_iload_n (z := kn) hm_167 rfl rfl ?_
    have b5_ : 0 ≤ F 376 kn.toNat ∧ F 376 kn.toNat ≤ 200 := gi_g hgi rfl
    refine ga_iald (z := kn) (w := F 376 kn.toNat) hm_167 rfl sc_376 (by omega) (by omega) (by omega) (rfl) ?_
    refine fx_icmp_ne (a := fm) (b := F 376 kn.toNat) hm_167 rfl ⟨by omega, by omega⟩ ⟨by omega, by omega⟩ (fun h6_ => ?_) (fun h7_ => ?_)
    ·
      refine ga_aload_n (v := .ref 344) hm_167 rfl rfl rfl ?_
      refine ga_iload_n (z := fm) hm_167 rfl rfl ?_
      refine ga_aload_n (v := .ref 344) hm_167 rfl rfl rfl ?_
      refine ga_getr (b := 379) hm_167 rfl sc_344 rfl ?_
      refine gVv (nY := 5) (F := 0) (L := 0) (As := [.int (Int32.ofInt fm), .ref 379]) (b := 344) (rest := []) hm_167 rfl hm_194 rfl rfl (fl_ob sc_344) rfl rfl rfl rfl rfl (by omega) (by omega) (mc_194y hG F X hgi (379) (201) (fm) (0) (39) (V) (b) ((vat V fm.toNat)) sc_379 (fun _ => rfl) (⟨by omega, by omega⟩) (by omega) (⟨by omega, by omega⟩) (⟨by omega, by omega⟩) (hch) (Or.inl ⟨hfv, rfl⟩) (hlf_)) (fun _ _ h => False.elim h) ?_
      have b9_ : 0 ≤ F 344 39 ∧ F 344 39 ≤ 40 := gi_g hgi rfl
      rintro A1_ ⟨F12_, hA_, g13_, s14_, c10_, c11_⟩
      subst hA_
      have g15_ : fs [(379, 380, 0, 100000)] F F12_ := fs_tr fs_refl s14_ rfl
      refine ga_aload_n (v := .ref 344) hm_167 rfl rfl rfl ?_
      refine ga_aload_n (v := .ref 344) hm_167 rfl rfl rfl ?_
      refine ga_getr (b := 376) hm_167 rfl sc_344 rfl ?_
      refine ga_iload_n (z := kn) hm_167 rfl rfl ?_
      have e16_ : F12_ 376 kn.toNat = F 376 kn.toNat := (s14_ 376 kn.toNat (by first | exact fs_c rfl | exact (fs_n (by omega) rfl))).trans (rfl)
      refine ga_iald (z := kn) (w := F 376 kn.toNat) hm_167 rfl sc_376 (by omega) (by omega) (by omega) (e16_) ?_
      refine ga_aload_n (v := .ref 344) hm_167 rfl rfl rfl ?_
      refine ga_getr (b := 380) hm_167 rfl sc_344 rfl ?_
      refine gVv (nY := 5) (F := 0) (L := 0) (As := [.int (Int32.ofInt (F 376 kn.toNat)), .ref 380]) (b := 344) (rest := []) hm_167 rfl hm_194 rfl rfl (fl_ob sc_344) rfl rfl rfl rfl rfl (by omega) (by omega) (mc_194y hG F12_ X g13_ (380) (201) (F 376 kn.toNat) (0) (39) (V) (b) ((vat V (F 376 kn.toNat).toNat)) sc_380 (fun _ => rfl) (⟨by omega, by omega⟩) (by omega) (⟨by omega, by omega⟩) (⟨by omega, by omega⟩) (chn_cg hch (fun i _ => (show F12_ 375 i = F 375 i from (s14_ 375 i (by first | exact fs_c rfl | exact (fs_n (by omega) rfl))))) (fun i _ => (show F12_ 376 i = F 376 i from (s14_ 376 i (by first | exact fs_c rfl | exact (fs_n (by omega) rfl))))) (fun i _ => (show F12_ 377 i = F 377 i from (s14_ 377 i (by first | exact fs_c rfl | exact (fs_n (by omega) rfl)))))) (Or.inl ⟨hkv.1.2, rfl⟩) (Eq.trans ((show F12_ 375 (F 376 kn.toNat).toNat = F 375 (F 376 kn.toNat).toNat from (s14_ 375 (F 376 kn.toNat).toNat (by first | exact fs_c rfl | exact (fs_n (by omega) rfl))))) (hch.2 _ hkv.1.2).1)) (fun _ _ h => False.elim h) ?_
      have e18_ : F12_ 344 39 = F 344 39 := (s14_ 344 39 rfl).trans (rfl)
      rintro A1_ ⟨F21_, hA_, g22_, s23_, c19_, c20_⟩
      subst hA_
      have g24_ : fs [(379, 380, 0, 100000)] F F21_ := fs_tr g15_ s23_ rfl
      try simp only [e18_] at c19_
      refine fl_iconst hm_167 rfl ?_
      refine ga_istore (lv2 := [(5, .int (Int32.ofInt 0)), (4, .int (Int32.ofInt (F 375 fm.toNat + 1))), (0, .ref 344), (1, .int (Int32.ofInt fm)), (2, .int (Int32.ofInt st)), (3, .int (Int32.ofInt kn))]) hm_167 rfl (Nat.le_of_ble_eq_true rfl) rfl ?_
      have L26_ : ∀ (n25_ : Nat) (k : Int), (201 - k : Int).toNat = n25_ → (0 ≤ k ∧ k ≤ 201) → (∀ j : Nat, (j : Int) < k → (vat V fm.toNat).getD j 0 = (vat V (F 376 kn.toNat).toNat).getD j 0) → fl_R xi_ms 167 fr lo 90 [(5, .int (Int32.ofInt k)), (4, .int (Int32.ofInt (F 375 fm.toNat + 1))), (0, .ref 344), (1, .int (Int32.ofInt fm)), (2, .int (Int32.ofInt st)), (3, .int (Int32.ofInt kn))] [] (fl_H sh_T G F21_ ++ X) (pq_167y G F X fm st kn V b) := by
        intro n25_
        induction n25_ using Nat.strongRecOn with
        | ind n25_ ih27_ =>
        intro k hn28_ hk hab
        refine ga_iload (z := k) hm_167 rfl rfl ?_
        refine ga_iload (z := F 375 fm.toNat + 1) hm_167 rfl rfl ?_
        refine fl_iconst hm_167 rfl ?_
        refine ga_isub (a := F 375 fm.toNat + 1) (b := 1) (c := F 375 fm.toNat) hm_167 rfl (by omega) ?_
        refine fl_icmp_ge (a := k) (b := F 375 fm.toNat) hm_167 rfl ⟨by omega, by omega⟩ ⟨by omega, by omega⟩ (fun h29_ => ?_) (fun h30_ => ?_)
        ·
          refine ga_iload_n (z := st) hm_167 rfl rfl ?_
          refine ga_aload_n (v := .ref 344) hm_167 rfl rfl rfl ?_
          refine ga_getr (b := 377) hm_167 rfl sc_344 rfl ?_
          refine ga_iload_n (z := kn) hm_167 rfl rfl ?_
          have e31_ : F12_ 377 kn.toNat = F 377 kn.toNat := (s14_ 377 kn.toNat (by first | exact fs_c rfl | exact (fs_n (by omega) rfl))).trans (rfl)
          have e32_ : F21_ 377 kn.toNat = F 377 kn.toNat := (s23_ 377 kn.toNat (by first | exact fs_c rfl | exact (fs_n (by omega) rfl))).trans (e31_)
          have b33_ : 0 ≤ F 377 kn.toNat ∧ F 377 kn.toNat ≤ 39 := gi_g hgi rfl
          refine ga_iald (z := kn) (w := F 377 kn.toNat) hm_167 rfl sc_377 (by omega) (by omega) (by omega) (e32_) ?_
          refine fl_icmp_ge (a := st) (b := F 377 kn.toNat) hm_167 rfl ⟨by omega, by omega⟩ ⟨by omega, by omega⟩ (fun h34_ => ?_) (fun h35_ => ?_)
          ·
            refine fl_iconst hm_167 rfl ?_
            refine gr_i (z := 0) hm_167 rfl rfl (ga_nb (by omega)) ?_
            exact ⟨F21_, rfl, g22_, g24_, (⟨by omega, by omega⟩), (by first | (rw [bt_eq (by omega), lx_k k.toNat _ _ (by omega) (fun j hj => hab j (by omega)) (by omega) (by rw [← (c11_ k.toNat (by omega)), ← (c20_ k.toNat (by omega))]; omega), ← (c11_ k.toNat (by omega)), ← (c20_ k.toNat (by omega))]; omega) | (rw [bt_eq (by omega), lx_all _ _ (by omega) (fun j hj => hab j (by omega)), lx_1]; omega))⟩
          refine fl_iconst hm_167 rfl ?_
          refine fl_goto hm_167 rfl ?_
          refine gr_i (z := 1) hm_167 rfl rfl (ga_nb (by omega)) ?_
          exact ⟨F21_, rfl, g22_, g24_, (⟨by omega, by omega⟩), (by first | (rw [bt_eq (by omega), lx_k k.toNat _ _ (by omega) (fun j hj => hab j (by omega)) (by omega) (by rw [← (c11_ k.toNat (by omega)), ← (c20_ k.toNat (by omega))]; omega), ← (c11_ k.toNat (by omega)), ← (c20_ k.toNat (by omega))]; omega) | (rw [bt_eq (by omega), lx_all _ _ (by omega) (fun j hj => hab j (by omega)), lx_1]; omega))⟩
        refine ga_aload_n (v := .ref 344) hm_167 rfl rfl rfl ?_
        refine ga_getr (b := 379) hm_167 rfl sc_344 rfl ?_
        refine ga_iload (z := k) hm_167 rfl rfl ?_
        have e36_ : F21_ 379 k.toNat = F12_ 379 k.toNat := (s23_ 379 k.toNat (by first | exact fs_c rfl | exact (fs_n (by omega) rfl))).trans (rfl)
        have b37_ : 0 ≤ F12_ 379 k.toNat ∧ F12_ 379 k.toNat ≤ 39 := gi_g g13_ rfl
        refine ga_iald (z := k) (w := F12_ 379 k.toNat) hm_167 rfl sc_379 (by omega) (by omega) (by omega) (e36_) ?_
        refine ga_aload_n (v := .ref 344) hm_167 rfl rfl rfl ?_
        refine ga_getr (b := 380) hm_167 rfl sc_344 rfl ?_
        refine ga_iload (z := k) hm_167 rfl rfl ?_
        have b38_ : 0 ≤ F21_ 380 k.toNat ∧ F21_ 380 k.toNat ≤ 39 := gi_g g22_ rfl
        refine ga_iald (z := k) (w := F21_ 380 k.toNat) hm_167 rfl sc_380 (by omega) (by omega) (by omega) (rfl) ?_
        refine fl_icmp_eq (a := F12_ 379 k.toNat) (b := F21_ 380 k.toNat) hm_167 rfl ⟨by omega, by omega⟩ ⟨by omega, by omega⟩ (fun h39_ => ?_) (fun h40_ => ?_)
        ·
          refine ga_inc (a := k) (c := k + 1) (lv2 := [(5, .int (Int32.ofInt (k + 1))), (4, .int (Int32.ofInt (F 375 fm.toNat + 1))), (0, .ref 344), (1, .int (Int32.ofInt fm)), (2, .int (Int32.ofInt st)), (3, .int (Int32.ofInt kn))]) hm_167 rfl rfl (Nat.le_of_ble_eq_true rfl) rfl rfl ?_
          refine fl_goto hm_167 rfl ?_
          exact ih27_ _ (by omega) (k + 1) rfl (⟨by omega, by omega⟩) (fun j hj => by by_cases e_ : (j : Int) < k; exact hab j e_; rw [show j = k.toNat by omega, ← (c11_ k.toNat (by omega)), ← (c20_ k.toNat (by omega))]; omega)
        refine ga_aload_n (v := .ref 344) hm_167 rfl rfl rfl ?_
        refine ga_getr (b := 379) hm_167 rfl sc_344 rfl ?_
        refine ga_iload (z := k) hm_167 rfl rfl ?_
        refine ga_iald (z := k) (w := F12_ 379 k.toNat) hm_167 rfl sc_379 (by omega) (by omega) (by omega) (e36_) ?_
        refine ga_aload_n (v := .ref 344) hm_167 rfl rfl rfl ?_
        refine ga_getr (b := 380) hm_167 rfl sc_344 rfl ?_
        refine ga_iload (z := k) hm_167 rfl rfl ?_
        refine ga_iald (z := k) (w := F21_ 380 k.toNat) hm_167 rfl sc_380 (by omega) (by omega) (by omega) (rfl) ?_
        refine fl_icmp_ge (a := F12_ 379 k.toNat) (b := F21_ 380 k.toNat) hm_167 rfl ⟨by omega, by omega⟩ ⟨by omega, by omega⟩ (fun h41_ => ?_) (fun h42_ => ?_)
        ·
          refine fl_iconst hm_167 rfl ?_
          refine gr_i (z := 0) hm_167 rfl rfl (ga_nb (by omega)) ?_
          exact ⟨F21_, rfl, g22_, g24_, (⟨by omega, by omega⟩), (by first | (rw [bt_eq (by omega), lx_k k.toNat _ _ (by omega) (fun j hj => hab j (by omega)) (by omega) (by rw [← (c11_ k.toNat (by omega)), ← (c20_ k.toNat (by omega))]; omega), ← (c11_ k.toNat (by omega)), ← (c20_ k.toNat (by omega))]; omega) | (rw [bt_eq (by omega), lx_all _ _ (by omega) (fun j hj => hab j (by omega)), lx_1]; omega))⟩
        refine fl_iconst hm_167 rfl ?_
        refine fl_goto hm_167 rfl ?_
        refine gr_i (z := 1) hm_167 rfl rfl (ga_nb (by omega)) ?_
        exact ⟨F21_, rfl, g22_, g24_, (⟨by omega, by omega⟩), (by first | (rw [bt_eq (by omega), lx_k k.toNat _ _ (by omega) (fun j hj => hab j (by omega)) (by omega) (by rw [← (c11_ k.toNat (by omega)), ← (c20_ k.toNat (by omega))]; omega), ← (c11_ k.toNat (by omega)), ← (c20_ k.toNat (by omega))]; omega) | (rw [bt_eq (by omega), lx_all _ _ (by omega) (fun j hj => hab j (by omega)), lx_1]; omega))⟩
      exact L26_ _ (0) rfl (⟨by omega, by omega⟩) (fun j hj => absurd hj (by omega))
    refine ga_iload_n (z := st) hm_167 rfl rfl ?_
    refine ga_aload_n (v := .ref 344) hm_167 rfl rfl rfl ?_
    refine ga_getr (b := 377) hm_167 rfl sc_344 rfl ?_
    refine ga_iload_n (z := kn) hm_167 rfl rfl ?_
    have b43_ : 0 ≤ F 377 kn.toNat ∧ F 377 kn.toNat ≤ 39 := gi_g hgi rfl
    refine ga_iald (z := kn) (w := F 377 kn.toNat) hm_167 rfl sc_377 (by omega) (by omega) (by omega) (rfl) ?_
    refine fl_icmp_ge (a := st) (b := F 377 kn.toNat) hm_167 rfl ⟨by omega, by omega⟩ ⟨by omega, by omega⟩ (fun h44_ => ?_) (fun h45_ => ?_)
    ·
      refine fl_iconst hm_167 rfl ?_
      refine gr_i (z := 0) hm_167 rfl rfl (ga_nb (by omega)) ?_
      exact ⟨F, rfl, hgi, fs_refl, (⟨by omega, by omega⟩), (by first | (rw [← bt_ne (by omega)]; omega) | (rw [bt_eq (by omega), show (F 376 kn.toNat).toNat = fm.toNat by omega, lx_1]; omega))⟩
    refine fl_iconst hm_167 rfl ?_
    refine fl_goto hm_167 rfl ?_
    refine gr_i (z := 1) hm_167 rfl rfl (ga_nb (by omega)) ?_
    exact ⟨F, rfl, hgi, fs_refl, (⟨by omega, by omega⟩), (by first | (rw [← bt_ne (by omega)]; omega) | (rw [bt_eq (by omega), show (F 376 kn.toNat).toNat = fm.toNat by omega, lx_1]; omega))⟩
  refine ga_iload (z := F 375 fm.toNat + 1) hm_167 rfl rfl ?_
  refine ga_aload_n (v := .ref 344) hm_167 rfl rfl rfl ?_
  refine ga_getr (b := 375) hm_167 rfl sc_344 rfl ?_
  refine ga_iload_n (z := kn) hm_167 rfl rfl ?_
  refine ga_iald (z := kn) (w := F 375 kn.toNat) hm_167 rfl sc_375 (by omega) (by omega) (by omega) (rfl) ?_
  refine fl_icmp_ge (a := F 375 fm.toNat + 1) (b := F 375 kn.toNat) hm_167 rfl ⟨by omega, by omega⟩ ⟨by omega, by omega⟩ (fun h46_ => ?_) (fun h47_ => ?_)
  ·
    refine fl_iconst hm_167 rfl ?_
    refine gr_i (z := 0) hm_167 rfl rfl (ga_nb (by omega)) ?_
    exact ⟨F, rfl, hgi, fs_refl, (⟨by omega, by omega⟩), (by first | (rw [← bt_ne (by omega)]; omega) | (rw [bt_eq (by omega), show (F 376 kn.toNat).toNat = fm.toNat by omega, lx_1]; omega))⟩
  refine fl_iconst hm_167 rfl ?_
  refine fl_goto hm_167 rfl ?_
  refine gr_i (z := 1) hm_167 rfl rfl (ga_nb (by omega)) ?_
  exact ⟨F, rfl, hgi, fs_refl, (⟨by omega, by omega⟩), (by first | (rw [← bt_ne (by omega)]; omega) | (rw [bt_eq (by omega), show (F 376 kn.toNat).toNat = fm.toNat by omega, lx_1]; omega))⟩

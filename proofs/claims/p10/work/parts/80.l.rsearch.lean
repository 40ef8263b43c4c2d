/- CheapPlannerModel.walk -/
abbrev pq_194v (G : Nat → Nat → Option Nat) (F : fl_N) (X : xi_H) (p n : Nat) (w lo_ hi_ : Int) (V : List wy_T) (b : Int) (W : wy_T) : Outcome → xi_H → Prop := gqv (fun A => ∃ F' : fl_N, fl_H sh_T G F' ++ X = A ∧ gi F' ∧ fs [(p, p, 0, 100000)] F F' ∧ (wkc F w → ∀ j : Nat, (j : Int) < F 375 w.toNat → F' p j < F 344 39) ∧ (∀ j : Nat, j < W.length → F' p j = W.getD j 0)) gqn
theorem mc_194v {G : Nat → Nat → Option Nat} (hG : gg G) (F : fl_N) (X : xi_H) (hgi : gi F) (p n : Nat) (w lo_ hi_ : Int) (V : List wy_T) (b : Int) (W : wy_T) (h_p : sh_T[p]? = some (0, 0, [n])) (h_g : ∀ k, gb p k = (lo_, hi_)) (h_b : lo_ = 0 ∧ hi_ = 39) (h_n : n = 201) (h_r : 379 ≤ p ∧ p ≤ 381) (hw : 0 ≤ w ∧ w ≤ 200) (hch : chn (F 375) (F 376) (F 377) V b) (hwr : wyR F V w.toNat W) (hwl : F 375 w.toNat = (W.length : Int)) : fl_M xi_ms 194 0 0 [.ref 344, .int (Int32.ofInt w), .ref p] (fl_H sh_T G F ++ X) (pq_194v G F X p n w lo_ hi_ V b W) := by
  intro fr lo hfr hlo
  show fl_R xi_ms 194 fr lo 0 [(0, .ref 344), (1, .int (Int32.ofInt w)), (2, .ref p)] [] _ _
  refine ga_iload_n (z := w) hm_194 rfl rfl ?_
  refine ga_istore_n (lv2 := [(3, .int (Int32.ofInt w)), (0, .ref 344), (1, .int (Int32.ofInt w)), (2, .ref p)]) hm_194 rfl (Nat.le_of_ble_eq_true rfl) rfl ?_
  refine ga_aload_n (v := .ref 344) hm_194 rfl rfl rfl ?_
  refine ga_getr (b := 375) hm_194 rfl sc_344 rfl ?_
  refine ga_iload_n (z := w) hm_194 rfl rfl ?_
  have b1_ : 0 ≤ F 375 w.toNat ∧ F 375 w.toNat ≤ 201 := gi_g hgi rfl
  refine ga_iald (z := w) (w := F 375 w.toNat) hm_194 rfl sc_375 (by omega) (by omega) (by omega) (rfl) ?_
  refine fl_iconst hm_194 rfl ?_
  refine ga_isub (a := F 375 w.toNat) (b := 1) (c := F 375 w.toNat - 1) hm_194 rfl (by omega) ?_
  refine ga_istore (lv2 := [(4, .int (Int32.ofInt (F 375 w.toNat - 1))), (3, .int (Int32.ofInt w)), (0, .ref 344), (1, .int (Int32.ofInt w)), (2, .ref p)]) hm_194 rfl (Nat.le_of_ble_eq_true rfl) rfl ?_
  have b5_ : 0 ≤ F 344 39 ∧ F 344 39 ≤ 40 := gi_g hgi rfl
  have L3_ : ∀ (n2_ : Nat) (k : Int) (d : Int) (F1 : fl_N), (d + 1 : Int).toNat = n2_ → (gi F1) → (fs [(p, p, 0, 100000)] F F1) → (0 ≤ k ∧ k ≤ 200) → (-1 ≤ d ∧ d ≤ 200) → (wkc F w → (wkc F k ∧ F 375 k.toNat = d + 1) ∧ ∀ j : Nat, d < (j : Int) → (j : Int) < F 375 w.toNat → F1 p j < F 344 39) → (wkS F (F1 p) V W k d) → fl_R xi_ms 194 fr lo 12 [(4, .int (Int32.ofInt d)), (3, .int (Int32.ofInt k)), (0, .ref 344), (1, .int (Int32.ofInt w)), (2, .ref p)] [] (fl_H sh_T G F1 ++ X) (pq_194v G F X p n w lo_ hi_ V b W) := by
    intro n2_
    induction n2_ using Nat.strongRecOn with
    | ind n2_ ih4_ =>
    intro k d F1 hn6_ hg_F1 hf_F1 hk hd hq hwk
    have g7_ : fs [(p, p, 0, 100000)] F F1 := fs_tr fs_refl hf_F1 (by simp [fs_le]; try omega)
    refine ga_iload (z := d) hm_194 rfl rfl ?_
    refine fl_if_lt (a := d) hm_194 rfl ⟨by omega, by omega⟩ (fun h8_ => ?_) (fun h9_ => ?_)
    ·
      refine gr_v hm_194 rfl rfl ?_
      exact ⟨F1, rfl, hg_F1, g7_, (fun h9_ j hj => (hq h9_).2 j (by omega) hj), (wk_e hwk (by omega))⟩
    refine ga_aload_n (v := .ref p) hm_194 rfl rfl rfl ?_
    refine ga_iload (z := d) hm_194 rfl rfl ?_
    refine ga_aload_n (v := .ref 344) hm_194 rfl rfl rfl ?_
    refine ga_getr (b := 377) hm_194 rfl sc_344 rfl ?_
    refine ga_iload_n (z := k) hm_194 rfl rfl ?_
    have e10_ : F1 377 k.toNat = F 377 k.toNat := (hf_F1 377 k.toNat (by first | exact fs_c rfl | exact (fs_n (by omega) rfl))).trans (rfl)
    have b11_ : 0 ≤ F 377 k.toNat ∧ F 377 k.toNat ≤ 39 := gi_g hgi rfl
    refine ga_iald (z := k) (w := F 377 k.toNat) hm_194 rfl sc_377 (by omega) (by omega) (by omega) (e10_) ?_
    refine fl_iast (z := d) (v := F 377 k.toNat) hm_194 rfl h_p (by omega) (by omega) (by omega) ?_
    refine ga_aload_n (v := .ref 344) hm_194 rfl rfl rfl ?_
    refine ga_getr (b := 376) hm_194 rfl sc_344 rfl ?_
    refine ga_iload_n (z := k) hm_194 rfl rfl ?_
    have e12_ : F1 376 k.toNat = F 376 k.toNat := (hf_F1 376 k.toNat (by first | exact fs_c rfl | exact (fs_n (by omega) rfl))).trans (rfl)
    have b13_ : 0 ≤ F 376 k.toNat ∧ F 376 k.toNat ≤ 200 := gi_g hgi rfl
    refine ga_iald (z := k) (w := F 376 k.toNat) hm_194 rfl sc_376 (by omega) (by omega) (by omega) ((fl_u_ne (by first | exact nc_ rfl | decide | omega)).trans (e12_)) ?_
    refine ga_istore_n (lv2 := [(3, .int (Int32.ofInt (F 376 k.toNat))), (4, .int (Int32.ofInt d)), (0, .ref 344), (1, .int (Int32.ofInt w)), (2, .ref p)]) hm_194 rfl (Nat.le_of_ble_eq_true rfl) rfl ?_
    refine ga_inc (a := d) (c := d - 1) (lv2 := [(4, .int (Int32.ofInt (d - 1))), (3, .int (Int32.ofInt (F 376 k.toNat))), (0, .ref 344), (1, .int (Int32.ofInt w)), (2, .ref p)]) hm_194 rfl rfl (Nat.le_of_ble_eq_true rfl) (by omega) rfl ?_
    refine fl_goto hm_194 rfl ?_
    obtain ⟨F14_, q15_⟩ : ∃ Fq_, Fq_ = (fl_u F1 p d.toNat (F 377 k.toNat)) := ⟨_, rfl⟩
    rw [← q15_]
    have g16_ : gi F14_ := by rw [q15_]; exact gi_u (hg_F1) (h_g _) (by omega) (by omega)
    have g17_ : fs [(p, p, 0, 100000)] F F14_ := by rw [q15_]; exact fs_u (g7_) (fs_y (by omega))
    exact ih4_ _ (by omega) (F 376 k.toNat) (d - 1) F14_ rfl g16_ (by rw [q15_]; exact fs_u (hf_F1) (fs_y (by omega))) (⟨by omega, by omega⟩) (⟨by omega, by omega⟩) (by rw [q15_]; exact wk_b hq (by omega)) (by rw [q15_]; exact wk_s hch hwk (by omega) (fun j hj => fl_u_ne (by first | exact nc_ rfl | decide | omega)) fl_u_eq)
  exact L3_ _ (w) (F 375 w.toNat - 1) F rfl hgi fs_refl (⟨by omega, by omega⟩) (⟨by omega, by omega⟩) (fun h9_ => ⟨⟨h9_, by omega⟩, fun j h1_ h2_ => absurd h2_ (by omega)⟩) (wk_0 hwr (by omega))
/- CheapPlannerModel.isBefore -/
abbrev pq_167v (G : Nat → Nat → Option Nat) (F : fl_N) (X : xi_H) (fm st kn : Int) (V : List wy_T) (b : Int) : Outcome → xi_H → Prop := gqi (fun z A => ∃ F' : fl_N, fl_H sh_T G F' ++ X = A ∧ gi F' ∧ fs [(379, 380, 0, 100000)] F F' ∧ (0 ≤ z ∧ z ≤ 1) ∧ (z = 1 ↔ btr ((vat V fm.toNat) ++ [st]) ((vat V (F 376 kn.toNat).toNat) ++ [F 377 kn.toNat]))) gqn
theorem mc_167v {G : Nat → Nat → Option Nat} (hG : gg G) (F : fl_N) (X : xi_H) (hgi : gi F) (fm st kn : Int) (V : List wy_T) (b : Int) (hf : 0 ≤ fm ∧ fm ≤ 200) (hs : 0 ≤ st ∧ st ≤ 39) (hkn : 0 ≤ kn ∧ kn ≤ 200) (hch : chn (F 375) (F 376) (F 377) V b) (hfv : fm.toNat < V.length) (hkv : (0 ≤ F 376 kn.toNat ∧ (F 376 kn.toNat).toNat < V.length) ∧ F 375 kn.toNat = ((vat V (F 376 kn.toNat).toNat).length : Int) + 1) : fl_M xi_ms 167 1 24 [.ref 344, .int (Int32.ofInt fm), .int (Int32.ofInt st), .int (Int32.ofInt kn)] (fl_H sh_T G F ++ X) (pq_167v G F X fm st kn V b) := by
  intro fr lo hfr hlo
  show fl_R xi_ms 167 fr lo 0 [(0, .ref 344), (1, .int (Int32.ofInt fm)), (2, .int (Int32.ofInt st)), (3, .int (Int32.ofInt kn))] [] _ _
  have hlf_ := (hch.2 fm.toNat hfv).1
  have hX_ : ((vat V fm.toNat) ++ [st]).length = (vat V fm.toNat).length + 1 := by rw [List.length_append, List.length_singleton]
  have hY_ : ((vat V (F 376 kn.toNat).toNat) ++ [F 377 kn.toNat]).length = (vat V (F 376 kn.toNat).toNat).length + 1 := by rw [List.length_append, List.length_singleton]
  have hkl_ := hkv.2
  refine ga_aload_n (v := .ref 344) hm_167 rfl rfl rfl ?_
  refine ga_getr (b := 375) hm_167 rfl sc_344 rfl ?_
  refine ga_iload_n (z := fm) hm_167 rfl rfl ?_
  have b1_ : 0 ≤ F 375 fm.toNat ∧ F 375 fm.toNat ≤ 201 := gi_g hgi rfl
  refine ga_iald (z := fm) (w := F 375 fm.toNat) hm_167 rfl sc_375 (by omega) (by omega) (by omega) (rfl) ?_
  refine fl_iconst hm_167 rfl ?_
  refine ga_iadd (a := F 375 fm.toNat) (b := 1) (c := F 375 fm.toNat + 1) hm_167 rfl (by omega) ?_
  refine ga_istore (lv2 := [(4, .int (Int32.ofInt (F 375 fm.toNat + 1))), (0, .ref 344), (1, .int (Int32.ofInt fm)), (2, .int (Int32.ofInt st)), (3, .int (Int32.ofInt kn))]) hm_167 rfl (Nat.le_of_ble_eq_true rfl) rfl ?_
  refine ga_iload (z := F 375 fm.toNat + 1) hm_167 rfl rfl ?_
  refine ga_aload_n (v := .ref 344) hm_167 rfl rfl rfl ?_
  refine ga_getr (b := 375) hm_167 rfl sc_344 rfl ?_
  refine ga_iload_n (z := kn) hm_167 rfl rfl ?_
  have b2_ : 0 ≤ F 375 kn.toNat ∧ F 375 kn.toNat ≤ 201 := gi_g hgi rfl
  refine ga_iald (z := kn) (w := F 375 kn.toNat) hm_167 rfl sc_375 (by omega) (by omega) (by omega) (rfl) ?_
  refine fl_icmp_eq (a := F 375 fm.toNat + 1) (b := F 375 kn.toNat) hm_167 rfl ⟨by omega, by omega⟩ ⟨by omega, by omega⟩ (fun h3_ => ?_) (fun h4_ => ?_)
  ·
    refine ga_iload_n (z := fm) hm_167 rfl rfl ?_
    refine ga_aload_n (v := .ref 344) hm_167 rfl rfl rfl ?_
    refine ga_getr (b := 376) hm_167 rfl sc_344 rfl ?_
    refine ga_iload_n (z := kn) hm_167 rfl rfl ?_
    have b5_ : 0 ≤ F 376 kn.toNat ∧ F 376 kn.toNat ≤ 200 := gi_g hgi rfl
    refine ga_iald (z := kn) (w := F 376 kn.toNat) hm_167 rfl sc_376 (by omega) (by omega) (by omega) (rfl) ?_
    refine fx_icmp_ne (a := fm) (b := F 376 kn.toNat) hm_167 rfl ⟨by omega, by omega⟩ ⟨by omega, by omega⟩ (fun h6_ => ?_) (fun h7_ => ?_)
    ·
      refine ga_aload_n (v := .ref 344) hm_167 rfl rfl rfl ?_
      refine ga_iload_n (z := fm) hm_167 rfl rfl ?_
      refine ga_aload_n (v := .ref 344) hm_167 rfl rfl rfl ?_
      refine ga_getr (b := 379) hm_167 rfl sc_344 rfl ?_
      refine gVv (nY := 5) (F := 0) (L := 0) (As := [.int (Int32.ofInt fm), .ref 379]) (b := 344) (rest := []) hm_167 rfl hm_194 rfl rfl (fl_ob sc_344) rfl rfl rfl rfl rfl (by omega) (by omega) (mc_194v hG F X hgi (379) (201) (fm) (0) (39) (V) (b) ((vat V fm.toNat)) sc_379 (fun _ => rfl) (⟨by omega, by omega⟩) (by omega) (⟨by omega, by omega⟩) (⟨by omega, by omega⟩) (hch) (Or.inl ⟨hfv, rfl⟩) (hlf_)) (fun _ _ h => False.elim h) ?_
      have b9_ : 0 ≤ F 344 39 ∧ F 344 39 ≤ 40 := gi_g hgi rfl
      rintro A1_ ⟨F12_, hA_, g13_, s14_, c10_, c11_⟩
      subst hA_
      have g15_ : fs [(379, 380, 0, 100000)] F F12_ := fs_tr fs_refl s14_ rfl
      refine ga_aload_n (v := .ref 344) hm_167 rfl rfl rfl ?_
      refine ga_aload_n (v := .ref 344) hm_167 rfl rfl rfl ?_
      refine ga_getr (b := 376) hm_167 rfl sc_344 rfl ?_
      refine ga_iload_n (z := kn) hm_167 rfl rfl ?_
      have e16_ : F12_ 376 kn.toNat = F 376 kn.toNat := (s14_ 376 kn.toNat (by first | exact fs_c rfl | exact (fs_n (by omega) rfl))).trans (rfl)
      refine ga_iald (z := kn) (w := F 376 kn.toNat) hm_167 rfl sc_376 (by omega) (by omega) (by omega) (e16_) ?_
      refine ga_aload_n (v := .ref 344) hm_167 rfl rfl rfl ?_
      refine ga_getr (b := 380) hm_167 rfl sc_344 rfl ?_
      refine gVv (nY := 5) (F := 0) (L := 0) (As := [.int (Int32.ofInt (F 376 kn.toNat)), .ref 380]) (b := 344) (rest := []) hm_167 rfl hm_194 rfl rfl (fl_ob sc_344) rfl rfl rfl rfl rfl (by omega) (by omega) (mc_194v hG F12_ X g13_ (380) (201) (F 376 kn.toNat) (0) (39) (V) (b) ((vat V (F 376 kn.toNat).toNat)) sc_380 (fun _ => rfl) (⟨by omega, by omega⟩) (by omega) (⟨by omega, by omega⟩) (⟨by omega, by omega⟩) (chn_cg hch (fun i _ => (show F12_ 375 i = F 375 i from (s14_ 375 i (by first | exact fs_c rfl | exact (fs_n (by omega) rfl))))) (fun i _ => (show F12_ 376 i = F 376 i from (s14_ 376 i (by first | exact fs_c rfl | exact (fs_n (by omega) rfl))))) (fun i _ => (show F12_ 377 i = F 377 i from (s14_ 377 i (by first | exact fs_c rfl | exact (fs_n (by omega) rfl)))))) (Or.inl ⟨hkv.1.2, rfl⟩) (Eq.trans ((show F12_ 375 (F 376 kn.toNat).toNat = F 375 (F 376 kn.toNat).toNat from (s14_ 375 (F 376 kn.toNat).toNat (by first | exact fs_c rfl | exact (fs_n (by omega) rfl))))) (hch.2 _ hkv.1.2).1)) (fun _ _ h => False.elim h) ?_
      have e18_ : F12_ 344 39 = F 344 39 := (s14_ 344 39 rfl).trans (rfl)
      rintro A1_ ⟨F21_, hA_, g22_, s23_, c19_, c20_⟩
      subst hA_
      have g24_ : fs [(379, 380, 0, 100000)] F F21_ := fs_tr g15_ s23_ rfl
      try simp only [e18_] at c19_
      refine fl_iconst hm_167 rfl ?_
      refine ga_istore (lv2 := [(5, .int (Int32.ofInt 0)), (4, .int (Int32.ofInt (F 375 fm.toNat + 1))), (0, .ref 344), (1, .int (Int32.ofInt fm)), (2, .int (Int32.ofInt st)), (3, .int (Int32.ofInt kn))]) hm_167 rfl (Nat.le_of_ble_eq_true rfl) rfl ?_
      have L26_ : ∀ (n25_ : Nat) (k : Int), (201 - k : Int).toNat = n25_ → (0 ≤ k ∧ k ≤ 201) → (∀ j : Nat, (j : Int) < k → (vat V fm.toNat).getD j 0 = (vat V (F 376 kn.toNat).toNat).getD j 0) → fl_R xi_ms 167 fr lo 90 [(5, .int (Int32.ofInt k)), (4, .int (Int32.ofInt (F 375 fm.toNat + 1))), (0, .ref 344), (1, .int (Int32.ofInt fm)), (2, .int (Int32.ofInt st)), (3, .int (Int32.ofInt kn))] [] (fl_H sh_T G F21_ ++ X) (pq_167v G F X fm st kn V b) := by
        intro n25_
        induction n25_ using Nat.strongRecOn with
        | ind n25_ ih27_ =>
        intro k hn28_ hk hab
        refine ga_iload (z := k) hm_167 rfl rfl ?_
        refine ga_iload (z := F 375 fm.toNat + 1) hm_167 rfl rfl ?_
        refine fl_iconst hm_167 rfl ?_
        refine ga_isub (a := F 375 fm.toNat + 1) (b := 1) (c := F 375 fm.toNat) hm_167 rfl (by omega) ?_
        refine fl_icmp_ge (a := k) (b := F 375 fm.toNat) hm_167 rfl ⟨by omega, by omega⟩ ⟨by omega, by omega⟩ (fun h29_ => ?_) (fun h30_ => ?_)
        ·
          refine ga_iload_n (z := st) hm_167 rfl rfl ?_
          refine ga_aload_n (v := .ref 344) hm_167 rfl rfl rfl ?_
          refine ga_getr (b := 377) hm_167 rfl sc_344 rfl ?_
          refine ga_iload_n (z := kn) hm_167 rfl rfl ?_
          have e31_ : F12_ 377 kn.toNat = F 377 kn.toNat := (s14_ 377 kn.toNat (by first | exact fs_c rfl | exact (fs_n (by omega) rfl))).trans (rfl)
          have e32_ : F21_ 377 kn.toNat = F 377 kn.toNat := (s23_ 377 kn.toNat (by first | exact fs_c rfl | exact (fs_n (by omega) rfl))).trans (e31_)
          have b33_ : 0 ≤ F 377 kn.toNat ∧ F 377 kn.toNat ≤ 39 := gi_g hgi rfl
          refine ga_iald (z := kn) (w := F 377 kn.toNat) hm_167 rfl sc_377 (by omega) (by omega) (by omega) (e32_) ?_
          refine fl_icmp_ge (a := st) (b := F 377 kn.toNat) hm_167 rfl ⟨by omega, by omega⟩ ⟨by omega, by omega⟩ (fun h34_ => ?_) (fun h35_ => ?_)
          ·
            refine fl_iconst hm_167 rfl ?_
            refine gr_i (z := 0) hm_167 rfl rfl (ga_nb (by omega)) ?_
            exact ⟨F21_, rfl, g22_, g24_, (⟨by omega, by omega⟩), (by first | (rw [bt_eq (by omega), lx_k k.toNat _ _ (by omega) (fun j hj => hab j (by omega)) (by omega) (by rw [← (c11_ k.toNat (by omega)), ← (c20_ k.toNat (by omega))]; omega), ← (c11_ k.toNat (by omega)), ← (c20_ k.toNat (by omega))]; omega) | (rw [bt_eq (by omega), lx_all _ _ (by omega) (fun j hj => hab j (by omega)), lx_1]; omega))⟩
          refine fl_iconst hm_167 rfl ?_
          refine fl_goto hm_167 rfl ?_
          refine gr_i (z := 1) hm_167 rfl rfl (ga_nb (by omega)) ?_
          exact ⟨F21_, rfl, g22_, g24_, (⟨by omega, by omega⟩), (by first | (rw [bt_eq (by omega), lx_k k.toNat _ _ (by omega) (fun j hj => hab j (by omega)) (by omega) (by rw [← (c11_ k.toNat (by omega)), ← (c20_ k.toNat (by omega))]; omega), ← (c11_ k.toNat (by omega)), ← (c20_ k.toNat (by omega))]; omega) | (rw [bt_eq (by omega), lx_all _ _ (by omega) (fun j hj => hab j (by omega)), lx_1]; omega))⟩
        refine ga_aload_n (v := .ref 344) hm_167 rfl rfl rfl ?_
        refine ga_getr (b := 379) hm_167 rfl sc_344 rfl ?_
        refine ga_iload (z := k) hm_167 rfl rfl ?_
        have e36_ : F21_ 379 k.toNat = F12_ 379 k.toNat := (s23_ 379 k.toNat (by first | exact fs_c rfl | exact (fs_n (by omega) rfl))).trans (rfl)
        have b37_ : 0 ≤ F12_ 379 k.toNat ∧ F12_ 379 k.toNat ≤ 39 := gi_g g13_ rfl
        refine ga_iald (z := k) (w := F12_ 379 k.toNat) hm_167 rfl sc_379 (by omega) (by omega) (by omega) (e36_) ?_
        refine ga_aload_n (v := .ref 344) hm_167 rfl rfl rfl ?_
        refine ga_getr (b := 380) hm_167 rfl sc_344 rfl ?_
        refine ga_iload (z := k) hm_167 rfl rfl ?_
        have b38_ : 0 ≤ F21_ 380 k.toNat ∧ F21_ 380 k.toNat ≤ 39 := gi_g g22_ rfl
        refine ga_iald (z := k) (w := F21_ 380 k.toNat) hm_167 rfl sc_380 (by omega) (by omega) (by omega) (rfl) ?_
        refine fl_icmp_eq (a := F12_ 379 k.toNat) (b := F21_ 380 k.toNat) hm_167 rfl ⟨by omega, by omega⟩ ⟨by omega, by omega⟩ (fun h39_ => ?_) (fun h40_ => ?_)
        ·
          refine ga_inc (a := k) (c := k + 1) (lv2 := [(5, .int (Int32.ofInt (k + 1))), (4, .int (Int32.ofInt (F 375 fm.toNat + 1))), (0, .ref 344), (1, .int (Int32.ofInt fm)), (2, .int (Int32.ofInt st)), (3, .int (Int32.ofInt kn))]) hm_167 rfl rfl (Nat.le_of_ble_eq_true rfl) rfl rfl ?_
          refine fl_goto hm_167 rfl ?_
          exact ih27_ _ (by omega) (k + 1) rfl (⟨by omega, by omega⟩) (fun j hj => by by_cases e_ : (j : Int) < k; exact hab j e_; rw [show j = k.toNat by omega, ← (c11_ k.toNat (by omega)), ← (c20_ k.toNat (by omega))]; omega)
        refine ga_aload_n (v := .ref 344) hm_167 rfl rfl rfl ?_
        refine ga_getr (b := 379) hm_167 rfl sc_344 rfl ?_
        refine ga_iload (z := k) hm_167 rfl rfl ?_
        refine ga_iald (z := k) (w := F12_ 379 k.toNat) hm_167 rfl sc_379 (by omega) (by omega) (by omega) (e36_) ?_
        refine ga_aload_n (v := .ref 344) hm_167 rfl rfl rfl ?_
        refine ga_getr (b := 380) hm_167 rfl sc_344 rfl ?_
        refine ga_iload (z := k) hm_167 rfl rfl ?_
        refine ga_iald (z := k) (w := F21_ 380 k.toNat) hm_167 rfl sc_380 (by omega) (by omega) (by omega) (rfl) ?_
        refine fl_icmp_ge (a := F12_ 379 k.toNat) (b := F21_ 380 k.toNat) hm_167 rfl ⟨by omega, by omega⟩ ⟨by omega, by omega⟩ (fun h41_ => ?_) (fun h42_ => ?_)
        ·
          refine fl_iconst hm_167 rfl ?_
          refine gr_i (z := 0) hm_167 rfl rfl (ga_nb (by omega)) ?_
          exact ⟨F21_, rfl, g22_, g24_, (⟨by omega, by omega⟩), (by first | (rw [bt_eq (by omega), lx_k k.toNat _ _ (by omega) (fun j hj => hab j (by omega)) (by omega) (by rw [← (c11_ k.toNat (by omega)), ← (c20_ k.toNat (by omega))]; omega), ← (c11_ k.toNat (by omega)), ← (c20_ k.toNat (by omega))]; omega) | (rw [bt_eq (by omega), lx_all _ _ (by omega) (fun j hj => hab j (by omega)), lx_1]; omega))⟩
        refine fl_iconst hm_167 rfl ?_
        refine fl_goto hm_167 rfl ?_
        refine gr_i (z := 1) hm_167 rfl rfl (ga_nb (by omega)) ?_
        exact ⟨F21_, rfl, g22_, g24_, (⟨by omega, by omega⟩), (by first | (rw [bt_eq (by omega), lx_k k.toNat _ _ (by omega) (fun j hj => hab j (by omega)) (by omega) (by rw [← (c11_ k.toNat (by omega)), ← (c20_ k.toNat (by omega))]; omega), ← (c11_ k.toNat (by omega)), ← (c20_ k.toNat (by omega))]; omega) | (rw [bt_eq (by omega), lx_all _ _ (by omega) (fun j hj => hab j (by omega)), lx_1]; omega))⟩
      exact L26_ _ (0) rfl (⟨by omega, by omega⟩) (fun j hj => absurd hj (by omega))
    refine ga_iload_n (z := st) hm_167 rfl rfl ?_
    refine ga_aload_n (v := .ref 344) hm_167 rfl rfl rfl ?_
    refine ga_getr (b := 377) hm_167 rfl sc_344 rfl ?_
    refine ga_iload_n (z := kn) hm_167 rfl rfl ?_
    have b43_ : 0 ≤ F 377 kn.toNat ∧ F 377 kn.toNat ≤ 39 := gi_g hgi rfl
    refine ga_iald (z := kn) (w := F 377 kn.toNat) hm_167 rfl sc_377 (by omega) (by omega) (by omega) (rfl) ?_
    refine fl_icmp_ge (a := st) (b := F 377 kn.toNat) hm_167 rfl ⟨by omega, by omega⟩ ⟨by omega, by omega⟩ (fun h44_ => ?_) (fun h45_ => ?_)
    ·
      refine fl_iconst hm_167 rfl ?_
      refine gr_i (z := 0) hm_167 rfl rfl (ga_nb (by omega)) ?_
      exact ⟨F, rfl, hgi, fs_refl, (⟨by omega, by omega⟩), (by first | (rw [← bt_ne (by omega)]; omega) | (rw [bt_eq (by omega), show (F 376 kn.toNat).toNat = fm.toNat by omega, lx_1]; omega))⟩
    refine fl_iconst hm_167 rfl ?_
    refine fl_goto hm_167 rfl ?_
    refine gr_i (z := 1) hm_167 rfl rfl (ga_nb (by omega)) ?_
    exact ⟨F, rfl, hgi, fs_refl, (⟨by omega, by omega⟩), (by first | (rw [← bt_ne (by omega)]; omega) | (rw [bt_eq (by omega), show (F 376 kn.toNat).toNat = fm.toNat by omega, lx_1]; omega))⟩
  refine ga_iload (z := F 375 fm.toNat + 1) hm_167 rfl rfl ?_
  refine ga_aload_n (v := .ref 344) hm_167 rfl rfl rfl ?_
  refine ga_getr (b := 375) hm_167 rfl sc_344 rfl ?_
  refine ga_iload_n (z := kn) hm_167 rfl rfl ?_
  refine ga_iald (z := kn) (w := F 375 kn.toNat) hm_167 rfl sc_375 (by omega) (by omega) (by omega) (rfl) ?_
  refine fl_icmp_ge (a := F 375 fm.toNat + 1) (b := F 375 kn.toNat) hm_167 rfl ⟨by omega, by omega⟩ ⟨by omega, by omega⟩ (fun h46_ => ?_) (fun h47_ => ?_)
  ·
    refine fl_iconst hm_167 rfl ?_
    refine gr_i (z := 0) hm_167 rfl rfl (ga_nb (by omega)) ?_
    exact ⟨F, rfl, hgi, fs_refl, (⟨by omega, by omega⟩), (by first | (rw [← bt_ne (by omega)]; omega) | (rw [bt_eq (by omega), show (F 376 kn.toNat).toNat = fm.toNat by omega, lx_1]; omega))⟩
  refine fl_iconst hm_167 rfl ?_
  refine fl_goto hm_167 rfl ?_
  refine gr_i (z := 1) hm_167 rfl rfl (ga_nb (by omega)) ?_
  exact ⟨F, rfl, hgi, fs_refl, (⟨by omega, by omega⟩), (by first | (rw [← bt_ne (by omega)]; omega) | (rw [bt_eq (by omega), show (F 376 kn.toNat).toNat = fm.toNat by omega, lx_1]; omega))⟩
/- CheapPlannerModel.know -/
abbrev pq_170v (G : Nat → Nat → Option Nat) (F : fl_N) (X : xi_H) (w fm st : Int) : Outcome → xi_H → Prop := gqv (fun A => ∃ F' : fl_N, fl_H sh_T G F' ++ X = A ∧ gi F' ∧ fs [(374, 377, 0, 100000)] F F' ∧ (∀ j : Nat, j ≠ w.toNat → F' 374 j = F 374 j ∧ F' 375 j = F 375 j ∧ F' 376 j = F 376 j ∧ F' 377 j = F 377 j) ∧ (F' 376 w.toNat = fm) ∧ (F' 377 w.toNat = st) ∧ (F' 375 w.toNat = F 375 fm.toNat + 1) ∧ (F' 374 w.toNat = F 374 fm.toNat + F 357 (F 367 st.toNat).toNat)) gqn
theorem mc_170v {G : Nat → Nat → Option Nat} (hG : gg G) (F : fl_N) (X : xi_H) (hgi : gi F) (w fm st : Int) (hw : 0 ≤ w ∧ w ≤ 200) (hf : 0 ≤ fm ∧ fm ≤ 199) (hs : 0 ≤ st ∧ st ≤ 39) (hd : F 375 fm.toNat ≤ 200) (hcs : 0 ≤ F 374 fm.toNat ∧ F 374 fm.toNat ≤ 1000000) (hps : 0 ≤ F 357 (F 367 st.toNat).toNat ∧ F 357 (F 367 st.toNat).toNat ≤ 2000) : fl_M xi_ms 170 0 0 [.ref 344, .int (Int32.ofInt w), .int (Int32.ofInt fm), .int (Int32.ofInt st)] (fl_H sh_T G F ++ X) (pq_170v G F X w fm st) := by
  intro fr lo hfr hlo
  show fl_R xi_ms 170 fr lo 0 [(0, .ref 344), (1, .int (Int32.ofInt w)), (2, .int (Int32.ofInt fm)), (3, .int (Int32.ofInt st))] [] _ _
  refine ga_aload_n (v := .ref 344) hm_170 rfl rfl rfl ?_
  refine ga_getr (b := 376) hm_170 rfl sc_344 rfl ?_
  refine ga_iload_n (z := w) hm_170 rfl rfl ?_
  refine ga_iload_n (z := fm) hm_170 rfl rfl ?_
  refine fl_iast (z := w) (v := fm) hm_170 rfl sc_376 (by omega) (by omega) (by omega) ?_
  refine ga_aload_n (v := .ref 344) hm_170 rfl rfl rfl ?_
  refine ga_getr (b := 377) hm_170 rfl sc_344 rfl ?_
  refine ga_iload_n (z := w) hm_170 rfl rfl ?_
  refine ga_iload_n (z := st) hm_170 rfl rfl ?_
  refine fl_iast (z := w) (v := st) hm_170 rfl sc_377 (by omega) (by omega) (by omega) ?_
  refine ga_aload_n (v := .ref 344) hm_170 rfl rfl rfl ?_
  refine ga_getr (b := 375) hm_170 rfl sc_344 rfl ?_
  refine ga_iload_n (z := w) hm_170 rfl rfl ?_
  refine ga_aload_n (v := .ref 344) hm_170 rfl rfl rfl ?_
  refine ga_getr (b := 375) hm_170 rfl sc_344 rfl ?_
  refine ga_iload_n (z := fm) hm_170 rfl rfl ?_
  have b1_ : 0 ≤ F 375 fm.toNat ∧ F 375 fm.toNat ≤ 201 := gi_g hgi rfl
  refine ga_iald (z := fm) (w := F 375 fm.toNat) hm_170 rfl sc_375 (by omega) (by omega) (by omega) ((fl_u_ne (by first | exact nc_ rfl | decide | omega)).trans (fl_u_ne (by first | exact nc_ rfl | decide | omega))) ?_
  refine fl_iconst hm_170 rfl ?_
  refine ga_iadd (a := F 375 fm.toNat) (b := 1) (c := F 375 fm.toNat + 1) hm_170 rfl (by omega) ?_
  refine fl_iast (z := w) (v := F 375 fm.toNat + 1) hm_170 rfl sc_375 (by omega) (by omega) (by omega) ?_
  refine ga_aload_n (v := .ref 344) hm_170 rfl rfl rfl ?_
  refine ga_getr (b := 374) hm_170 rfl sc_344 rfl ?_
  refine ga_iload_n (z := w) hm_170 rfl rfl ?_
  refine ga_aload_n (v := .ref 344) hm_170 rfl rfl rfl ?_
  refine ga_getr (b := 374) hm_170 rfl sc_344 rfl ?_
  refine ga_iload_n (z := fm) hm_170 rfl rfl ?_
  have b2_ : -2147483648 ≤ F 374 fm.toNat ∧ F 374 fm.toNat ≤ 2147483647 := gi_g hgi rfl
  refine ga_iald (z := fm) (w := F 374 fm.toNat) hm_170 rfl sc_374 (by omega) (by omega) (by omega) ((fl_u_ne (by first | exact nc_ rfl | decide | omega)).trans ((fl_u_ne (by first | exact nc_ rfl | decide | omega)).trans (fl_u_ne (by first | exact nc_ rfl | decide | omega)))) ?_
  refine ga_aload_n (v := .ref 344) hm_170 rfl rfl rfl ?_
  refine ga_getr (b := 357) hm_170 rfl sc_344 rfl ?_
  refine ga_aload_n (v := .ref 344) hm_170 rfl rfl rfl ?_
  refine ga_getr (b := 367) hm_170 rfl sc_344 rfl ?_
  refine ga_iload_n (z := st) hm_170 rfl rfl ?_
  have b3_ : 0 ≤ F 367 st.toNat ∧ F 367 st.toNat ≤ 4 := gi_g hgi rfl
  refine ga_iald (z := st) (w := F 367 st.toNat) hm_170 rfl sc_367 (by omega) (by omega) (by omega) ((fl_u_ne (by first | exact nc_ rfl | decide | omega)).trans ((fl_u_ne (by first | exact nc_ rfl | decide | omega)).trans (fl_u_ne (by first | exact nc_ rfl | decide | omega)))) ?_
  have b4_ : -1000 ≤ F 357 (F 367 st.toNat).toNat ∧ F 357 (F 367 st.toNat).toNat ≤ 2000 := gi_g hgi rfl
  refine ga_iald (z := F 367 st.toNat) (w := F 357 (F 367 st.toNat).toNat) hm_170 rfl sc_357 (by omega) (by omega) (by omega) ((fl_u_ne (by first | exact nc_ rfl | decide | omega)).trans ((fl_u_ne (by first | exact nc_ rfl | decide | omega)).trans (fl_u_ne (by first | exact nc_ rfl | decide | omega)))) ?_
  refine ga_iadd (a := F 374 fm.toNat) (b := F 357 (F 367 st.toNat).toNat) (c := F 374 fm.toNat + F 357 (F 367 st.toNat).toNat) hm_170 rfl (by omega) ?_
  refine fl_iast (z := w) (v := F 374 fm.toNat + F 357 (F 367 st.toNat).toNat) hm_170 rfl sc_374 (by omega) (by omega) (by omega) ?_
  obtain ⟨F5_, q6_⟩ : ∃ Fq_, Fq_ = (fl_u (fl_u (fl_u (fl_u F 376 w.toNat fm) 377 w.toNat st) 375 w.toNat (F 375 fm.toNat + 1)) 374 w.toNat (F 374 fm.toNat + F 357 (F 367 st.toNat).toNat)) := ⟨_, rfl⟩
  rw [← q6_]
  have g7_ : gi F5_ := by rw [q6_]; exact gi_u (gi_u (gi_u (gi_u (hgi) rfl (by omega) (by omega)) rfl (by omega) (by omega)) rfl (by omega) (by omega)) rfl (by omega) (by omega)
  have g8_ : fs [(374, 377, 0, 100000)] F F5_ := by rw [q6_]; exact fs_u (fs_u (fs_u (fs_u (fs_refl) (fs_y (by omega))) (fs_y (by omega))) (fs_y (by omega))) (fs_y (by omega))
  refine gr_v hm_170 rfl rfl ?_
  have e9_ : F5_ 376 w.toNat = fm := by rw [q6_]; exact (fl_u_ne (by first | exact nc_ rfl | decide | omega)).trans ((fl_u_ne (by first | exact nc_ rfl | decide | omega)).trans ((fl_u_ne (by first | exact nc_ rfl | decide | omega)).trans (fl_u_eq)))
  have e10_ : F5_ 377 w.toNat = st := by rw [q6_]; exact (fl_u_ne (by first | exact nc_ rfl | decide | omega)).trans ((fl_u_ne (by first | exact nc_ rfl | decide | omega)).trans (fl_u_eq))
  have e11_ : F5_ 375 w.toNat = F 375 fm.toNat + 1 := by rw [q6_]; exact (fl_u_ne (by first | exact nc_ rfl | decide | omega)).trans (fl_u_eq)
  have e12_ : F5_ 374 w.toNat = F 374 fm.toNat + F 357 (F 367 st.toNat).toNat := by rw [q6_]; exact fl_u_eq
  exact ⟨F5_, rfl, g7_, g8_, (fun j hj => ⟨(show F5_ 374 j = F 374 j from (by rw [q6_]; exact (fl_u_ne (by first | exact nc_ rfl | decide | omega)).trans ((fl_u_ne (by first | exact nc_ rfl | decide | omega)).trans ((fl_u_ne (by first | exact nc_ rfl | decide | omega)).trans ((fl_u_ne (by first | exact nc_ rfl | decide | omega))))))), (show F5_ 375 j = F 375 j from (by rw [q6_]; exact (fl_u_ne (by first | exact nc_ rfl | decide | omega)).trans ((fl_u_ne (by first | exact nc_ rfl | decide | omega)).trans ((fl_u_ne (by first | exact nc_ rfl | decide | omega)).trans ((fl_u_ne (by first | exact nc_ rfl | decide | omega))))))), (show F5_ 376 j = F 376 j from (by rw [q6_]; exact (fl_u_ne (by first | exact nc_ rfl | decide | omega)).trans ((fl_u_ne (by first | exact nc_ rfl | decide | omega)).trans ((fl_u_ne (by first | exact nc_ rfl | decide | omega)).trans ((fl_u_ne (by first | exact nc_ rfl | decide | omega))))))), (show F5_ 377 j = F 377 j from (by rw [q6_]; exact (fl_u_ne (by first | exact nc_ rfl | decide | omega)).trans ((fl_u_ne (by first | exact nc_ rfl | decide | omega)).trans ((fl_u_ne (by first | exact nc_ rfl | decide | omega)).trans ((fl_u_ne (by first | exact nc_ rfl | decide | omega)))))))⟩), (e9_), (e10_), (e11_), (e12_)⟩
/- CheapPlannerModel.nextCost -/
abbrev pq_172v (G : Nat → Nat → Option Nat) (F : fl_N) (X : xi_H) (T : tb_T) : Outcome → xi_H → Prop := gqi (fun z A => fl_H sh_T G F ++ X = A ∧ ((z = -1 ∧ ∀ c, ¬ nw (pR F) T c) ∨ nxt (pR F) T z) ∧ (-2147483648 ≤ z ∧ z ≤ 2147483647)) gqn
theorem mc_172v {G : Nat → Nat → Option Nat} (hG : gg G) (F : fl_N) (X : xi_H) (hgi : gi F) (T : tb_T) (hg : gs F (F 344 49)) (hT : tR F T) (hcb : ∀ i : Nat, i < T.length → 0 ≤ ca T i ∧ ca T i ≤ 1000000) (hpp : ∀ s : Nat, (s : Int) < F 344 39 → 0 ≤ F 357 (F 367 s).toNat ∧ F 357 (F 367 s).toNat ≤ 2000) : fl_M xi_ms 172 1 25 [.ref 344] (fl_H sh_T G F ++ X) (pq_172v G F X T) := by
  intro fr lo hfr hlo
  show fl_R xi_ms 172 fr lo 0 [(0, .ref 344)] [] _ _
  have hT1 := hT.1
  have hb39 : 0 ≤ F 344 39 ∧ F 344 39 ≤ 40 := gi_g hgi rfl
  have hb49 : 0 ≤ F 344 49 ∧ F 344 49 ≤ 200 := gi_g hgi rfl
  refine fl_iconst hm_172 rfl ?_
  refine ga_istore_n (lv2 := [(1, .int (Int32.ofInt (-1))), (0, .ref 344)]) hm_172 rfl (Nat.le_of_ble_eq_true rfl) rfl ?_
  refine fl_iconst hm_172 rfl ?_
  refine ga_istore_n (lv2 := [(2, .int (Int32.ofInt 0)), (1, .int (Int32.ofInt (-1))), (0, .ref 344)]) hm_172 rfl (Nat.le_of_ble_eq_true rfl) rfl ?_
  have b4_ : 0 ≤ F 344 49 ∧ F 344 49 ≤ 200 := gi_g hgi rfl
  have L2_ : ∀ (n1_ : Nat) (be : Int) (i : Int), (200 - i : Int).toNat = n1_ → (0 ≤ i ∧ i ≤ 200 ∧ i ≤ F 344 49) → (nxI (pR F) T i.toNat 0 be) → (-2147483648 ≤ be ∧ be ≤ 2147483647) → fl_R xi_ms 172 fr lo 4 [(2, .int (Int32.ofInt i)), (1, .int (Int32.ofInt be)), (0, .ref 344)] [] (fl_H sh_T G F ++ X) (pq_172v G F X T) := by
    intro n1_
    induction n1_ using Nat.strongRecOn with
    | ind n1_ ih3_ =>
    intro be i hn5_ hi hbe hbr
    refine ga_iload_n (z := i) hm_172 rfl rfl ?_
    refine ga_aload_n (v := .ref 344) hm_172 rfl rfl rfl ?_
    refine ga_geti (z := F 344 49) hm_172 rfl sc_344 rfl (rfl) ?_
    refine fl_icmp_ge (a := i) (b := F 344 49) hm_172 rfl ⟨by omega, by omega⟩ ⟨by omega, by omega⟩ (fun h6_ => ?_) (fun h7_ => ?_)
    ·
      refine ga_iload_n (z := be) hm_172 rfl rfl ?_
      refine gr_i (z := be) hm_172 rfl rfl rfl ?_
      exact ⟨rfl, (nxI_e hbe (by omega)), (⟨by omega, by omega⟩)⟩
    refine fl_iconst hm_172 rfl ?_
    refine ga_istore_n (lv2 := [(3, .int (Int32.ofInt 0)), (2, .int (Int32.ofInt i)), (1, .int (Int32.ofInt be)), (0, .ref 344)]) hm_172 rfl (Nat.le_of_ble_eq_true rfl) rfl ?_
    have b11_ : 0 ≤ F 344 39 ∧ F 344 39 ≤ 40 := gi_g hgi rfl
    have L9_ : ∀ (n8_ : Nat) (b2 : Int) (s : Int), (40 - s : Int).toNat = n8_ → (0 ≤ s ∧ s ≤ 40 ∧ s ≤ F 344 39) → (nxI (pR F) T i.toNat s.toNat b2) → (-2147483648 ≤ b2 ∧ b2 ≤ 2147483647) → fl_R xi_ms 172 fr lo 14 [(3, .int (Int32.ofInt s)), (2, .int (Int32.ofInt i)), (1, .int (Int32.ofInt b2)), (0, .ref 344)] [] (fl_H sh_T G F ++ X) (pq_172v G F X T) := by
      intro n8_
      induction n8_ using Nat.strongRecOn with
      | ind n8_ ih10_ =>
      intro b2 s hn12_ hs hb2 hbr2
      have hci_ := hcb i.toNat (by omega)
      have hce_ := hT.2.2 i.toNat (by omega)
      refine ga_iload_n (z := s) hm_172 rfl rfl ?_
      refine ga_aload_n (v := .ref 344) hm_172 rfl rfl rfl ?_
      refine ga_geti (z := F 344 39) hm_172 rfl sc_344 rfl (rfl) ?_
      refine fl_icmp_ge (a := s) (b := F 344 39) hm_172 rfl ⟨by omega, by omega⟩ ⟨by omega, by omega⟩ (fun h13_ => ?_) (fun h14_ => ?_)
      ·
        refine ga_inc (a := i) (c := i + 1) (lv2 := [(2, .int (Int32.ofInt (i + 1))), (3, .int (Int32.ofInt s)), (1, .int (Int32.ofInt b2)), (0, .ref 344)]) hm_172 rfl rfl (Nat.le_of_ble_eq_true rfl) rfl rfl ?_
        refine fl_goto hm_172 rfl ?_
        exact fl_R_sub (lv' := [(2, .int (Int32.ofInt (i + 1))), (1, .int (Int32.ofInt b2)), (0, .ref 344)]) rfl rfl (ih3_ _ (by omega) (b2) (i + 1) rfl (⟨by omega, by omega, by omega⟩) (by rw [show (i + 1).toNat = i.toNat + 1 by omega]; exact nxI_r hb2 (by rw [pR_n]; omega)) (⟨by omega, by omega⟩))
      refine ga_aload_n (v := .ref 344) hm_172 rfl rfl rfl ?_
      refine ga_getr (b := 374) hm_172 rfl sc_344 rfl ?_
      refine ga_iload_n (z := i) hm_172 rfl rfl ?_
      have b15_ : -2147483648 ≤ F 374 i.toNat ∧ F 374 i.toNat ≤ 2147483647 := gi_g hgi rfl
      refine ga_iald (z := i) (w := F 374 i.toNat) hm_172 rfl sc_374 (by omega) (by omega) (by omega) (rfl) ?_
      refine ga_aload_n (v := .ref 344) hm_172 rfl rfl rfl ?_
      refine ga_getr (b := 357) hm_172 rfl sc_344 rfl ?_
      refine ga_aload_n (v := .ref 344) hm_172 rfl rfl rfl ?_
      refine ga_getr (b := 367) hm_172 rfl sc_344 rfl ?_
      refine ga_iload_n (z := s) hm_172 rfl rfl ?_
      have b16_ : 0 ≤ F 367 s.toNat ∧ F 367 s.toNat ≤ 4 := gi_g hgi rfl
      refine ga_iald (z := s) (w := F 367 s.toNat) hm_172 rfl sc_367 (by omega) (by omega) (by omega) (rfl) ?_
      have b17_ : -1000 ≤ F 357 (F 367 s.toNat).toNat ∧ F 357 (F 367 s.toNat).toNat ≤ 2000 := gi_g hgi rfl
      refine ga_iald (z := F 367 s.toNat) (w := F 357 (F 367 s.toNat).toNat) hm_172 rfl sc_357 (by omega) (by omega) (by omega) (rfl) ?_
      have hpp_ := hpp s.toNat (by omega)
      refine ga_iadd (a := F 374 i.toNat) (b := F 357 (F 367 s.toNat).toNat) (c := F 374 i.toNat + F 357 (F 367 s.toNat).toNat) hm_172 rfl (by omega) ?_
      refine ga_istore (lv2 := [(4, .int (Int32.ofInt (F 374 i.toNat + F 357 (F 367 s.toNat).toNat))), (3, .int (Int32.ofInt s)), (2, .int (Int32.ofInt i)), (1, .int (Int32.ofInt b2)), (0, .ref 344)]) hm_172 rfl (Nat.le_of_ble_eq_true rfl) rfl ?_
      refine ga_iload_n (z := b2) hm_172 rfl rfl ?_
      refine fl_iconst hm_172 rfl ?_
      refine fl_icmp_eq (a := b2) (b := -1) hm_172 rfl ⟨by omega, by omega⟩ ⟨by omega, by omega⟩ (fun h18_ => ?_) (fun h19_ => ?_)
      ·
        refine ga_aload_n (v := .ref 344) hm_172 rfl rfl rfl ?_
        refine ga_iload_n (z := s) hm_172 rfl rfl ?_
        refine ga_aload_n (v := .ref 344) hm_172 rfl rfl rfl ?_
        refine ga_getr (b := 373) hm_172 rfl sc_344 rfl ?_
        refine ga_iload_n (z := i) hm_172 rfl rfl ?_
        have b20_ : -9223372036854775808 ≤ F 373 i.toNat ∧ F 373 i.toNat ≤ 9223372036854775807 := gi_g hgi rfl
        refine ga_lald (z := i) (w := F 373 i.toNat) hm_172 rfl sc_373 (by omega) (by omega) (by omega) (rfl) ?_
        refine gVi (nY := 4) (F := 0) (L := 0) (As := [.int (Int32.ofInt s), .long (Int64.ofInt (F 373 i.toNat))]) (b := 344) (rest := []) hm_172 rfl hm_157 rfl rfl (fl_ob sc_344) rfl rfl rfl rfl rfl (by omega) (by omega) (mc_157 hG F X hgi (s) (F 373 i.toNat) (⟨by omega, by omega⟩) (⟨by omega, by omega⟩)) (fun _ _ h => False.elim h) ?_
        rintro z21_ A1_ (⟨hA_, hz_, c22_⟩ | ⟨hA_, hz_, c23_⟩)
        ·
          subst hA_
          subst hz_
          refine fl_if_ne hm_172 rfl ⟨by omega, by omega⟩ (fun h => absurd h (by omega)) (fun _ => ?_)
          refine fl_goto hm_172 rfl ?_
          refine ga_inc (a := s) (c := s + 1) (lv2 := [(3, .int (Int32.ofInt (s + 1))), (4, .int (Int32.ofInt (F 374 i.toNat + F 357 (F 367 s.toNat).toNat))), (2, .int (Int32.ofInt i)), (1, .int (Int32.ofInt b2)), (0, .ref 344)]) hm_172 rfl rfl (Nat.le_of_ble_eq_true rfl) rfl rfl ?_
          refine fl_goto hm_172 rfl ?_
          exact fl_R_sub (lv' := [(3, .int (Int32.ofInt (s + 1))), (2, .int (Int32.ofInt i)), (1, .int (Int32.ofInt b2)), (0, .ref 344)]) rfl rfl (ih10_ _ (by omega) (b2) (s + 1) rfl (⟨by omega, by omega, by omega⟩) (by rw [show (s + 1).toNat = s.toNat + 1 by omega]; exact nxI_s hb2 (Or.inl (fun h9_ => c22_ ((nq_r hT (show i.toNat < T.length by omega) (show ((s.toNat : Nat) : Int) < F 344 39 by omega)).mp h9_).1))) (⟨by omega, by omega⟩))
        subst hA_
        subst hz_
        refine fl_if_ne hm_172 rfl ⟨by omega, by omega⟩ (fun _ => ?_) (fun h => absurd (by omega) h)
        refine ga_aload_n (v := .ref 344) hm_172 rfl rfl rfl ?_
        refine ga_getr (b := 378) hm_172 rfl sc_344 rfl ?_
        refine ga_aload_n (v := .ref 344) hm_172 rfl rfl rfl ?_
        refine ga_aload_n (v := .ref 344) hm_172 rfl rfl rfl ?_
        refine ga_iload_n (z := s) hm_172 rfl rfl ?_
        refine ga_aload_n (v := .ref 344) hm_172 rfl rfl rfl ?_
        refine ga_getr (b := 373) hm_172 rfl sc_344 rfl ?_
        refine ga_iload_n (z := i) hm_172 rfl rfl ?_
        refine ga_lald (z := i) (w := F 373 i.toNat) hm_172 rfl sc_373 (by omega) (by omega) (by omega) (rfl) ?_
        refine gVl (nY := 4) (F := 0) (L := 0) (As := [.int (Int32.ofInt s), .long (Int64.ofInt (F 373 i.toNat))]) (b := 344) (rest := [.ref 344, .ref 378]) hm_172 rfl hm_158 rfl rfl (fl_ob sc_344) rfl rfl rfl rfl rfl (by omega) (by omega) (mc_158 hG F X hgi (s) (F 373 i.toNat) (⟨by omega, by omega⟩) (⟨by omega, by omega⟩)) (fun _ _ h => False.elim h) ?_
        rintro z24_ A1_ ⟨hA_, c25_, c26_⟩
        subst hA_
        refine gVi (nY := 6) (F := 0) (L := 0) (As := [.long (Int64.ofInt z24_)]) (b := 344) (rest := [.ref 378]) hm_172 rfl hm_189 rfl rfl (fl_ob sc_344) rfl rfl rfl rfl rfl (by omega) (by omega) (mc_189 hG F X hgi (z24_) (⟨by omega, by omega⟩) (gs_free hg (by omega))) (fun _ _ h => False.elim h) ?_
        rintro z27_ A1_ ⟨hA_, c28_, c29_⟩
        subst hA_
        have b30_ : 0 ≤ F 378 z27_.toNat ∧ F 378 z27_.toNat ≤ 200 := gi_g hgi rfl
        refine ga_iald (z := z27_) (w := F 378 z27_.toNat) hm_172 rfl sc_378 (by omega) (by omega) (by omega) (rfl) ?_
        refine fx_if_ne (a := F 378 z27_.toNat) hm_172 rfl ⟨by omega, by omega⟩ (fun h31_ => ?_) (fun h32_ => ?_)
        ·
          refine ga_inc (a := s) (c := s + 1) (lv2 := [(3, .int (Int32.ofInt (s + 1))), (4, .int (Int32.ofInt (F 374 i.toNat + F 357 (F 367 s.toNat).toNat))), (2, .int (Int32.ofInt i)), (1, .int (Int32.ofInt b2)), (0, .ref 344)]) hm_172 rfl rfl (Nat.le_of_ble_eq_true rfl) rfl rfl ?_
          refine fl_goto hm_172 rfl ?_
          exact fl_R_sub (lv' := [(3, .int (Int32.ofInt (s + 1))), (2, .int (Int32.ofInt i)), (1, .int (Int32.ofInt b2)), (0, .ref 344)]) rfl rfl (ih10_ _ (by omega) (b2) (s + 1) rfl (⟨by omega, by omega, by omega⟩) (by rw [show (s + 1).toNat = s.toNat + 1 by omega]; exact nxI_s hb2 (Or.inl (fun h9_ => absurd (hsz_new hT.2.1 (slr_z c29_) (by rw [c25_]; exact ((nq_r hT (show i.toNat < T.length by omega) (show ((s.toNat : Nat) : Int) < F 344 39 by omega)).mp h9_).2)) (by omega)))) (⟨by omega, by omega⟩))
        refine ga_iload (z := F 374 i.toNat + F 357 (F 367 s.toNat).toNat) hm_172 rfl rfl ?_
        refine ga_istore_n (lv2 := [(1, .int (Int32.ofInt (F 374 i.toNat + F 357 (F 367 s.toNat).toNat))), (4, .int (Int32.ofInt (F 374 i.toNat + F 357 (F 367 s.toNat).toNat))), (3, .int (Int32.ofInt s)), (2, .int (Int32.ofInt i)), (0, .ref 344)]) hm_172 rfl (Nat.le_of_ble_eq_true rfl) rfl ?_
        refine ga_inc (a := s) (c := s + 1) (lv2 := [(3, .int (Int32.ofInt (s + 1))), (1, .int (Int32.ofInt (F 374 i.toNat + F 357 (F 367 s.toNat).toNat))), (4, .int (Int32.ofInt (F 374 i.toNat + F 357 (F 367 s.toNat).toNat))), (2, .int (Int32.ofInt i)), (0, .ref 344)]) hm_172 rfl rfl (Nat.le_of_ble_eq_true rfl) rfl rfl ?_
        refine fl_goto hm_172 rfl ?_
        exact fl_R_sub (lv' := [(3, .int (Int32.ofInt (s + 1))), (2, .int (Int32.ofInt i)), (1, .int (Int32.ofInt (F 374 i.toNat + F 357 (F 367 s.toNat).toNat))), (0, .ref 344)]) rfl rfl (ih10_ _ (by omega) (F 374 i.toNat + F 357 (F 367 s.toNat).toNat) (s + 1) rfl (⟨by omega, by omega, by omega⟩) (by rw [show (s + 1).toNat = s.toNat + 1 by omega]; have h9_ := nxI_y hb2 ((nq_r hT (show i.toNat < T.length by omega) (show ((s.toNat : Nat) : Int) < F 344 39 by omega)).mpr ⟨c23_, by cases h8_ : has T (dne F ((s.toNat : Nat) : Int) (F 373 i.toNat)) with | false => rfl | true => exact absurd (by omega) (hsz_old hT.2.1 (slr_z c29_) (by rw [c25_]; exact h8_))⟩) (by rw [cq_r hT (show i.toNat < T.length by omega) (show ((s.toNat : Nat) : Int) < F 344 39 by omega)]; omega) (by rw [cq_r hT (show i.toNat < T.length by omega) (show ((s.toNat : Nat) : Int) < F 344 39 by omega)]; omega); rw [cq_r hT (show i.toNat < T.length by omega) (show ((s.toNat : Nat) : Int) < F 344 39 by omega)] at h9_; exact h9_) (⟨by omega, by omega⟩))
      refine ga_iload (z := F 374 i.toNat + F 357 (F 367 s.toNat).toNat) hm_172 rfl rfl ?_
      refine ga_iload_n (z := b2) hm_172 rfl rfl ?_
      refine fl_icmp_ge (a := F 374 i.toNat + F 357 (F 367 s.toNat).toNat) (b := b2) hm_172 rfl ⟨by omega, by omega⟩ ⟨by omega, by omega⟩ (fun h33_ => ?_) (fun h34_ => ?_)
      ·
        refine ga_inc (a := s) (c := s + 1) (lv2 := [(3, .int (Int32.ofInt (s + 1))), (4, .int (Int32.ofInt (F 374 i.toNat + F 357 (F 367 s.toNat).toNat))), (2, .int (Int32.ofInt i)), (1, .int (Int32.ofInt b2)), (0, .ref 344)]) hm_172 rfl rfl (Nat.le_of_ble_eq_true rfl) rfl rfl ?_
        refine fl_goto hm_172 rfl ?_
        exact fl_R_sub (lv' := [(3, .int (Int32.ofInt (s + 1))), (2, .int (Int32.ofInt i)), (1, .int (Int32.ofInt b2)), (0, .ref 344)]) rfl rfl (ih10_ _ (by omega) (b2) (s + 1) rfl (⟨by omega, by omega, by omega⟩) (by rw [show (s + 1).toNat = s.toNat + 1 by omega]; exact nxI_s hb2 (Or.inr ⟨by omega, by rw [cq_r hT (show i.toNat < T.length by omega) (show ((s.toNat : Nat) : Int) < F 344 39 by omega)]; omega⟩)) (⟨by omega, by omega⟩))
      refine ga_aload_n (v := .ref 344) hm_172 rfl rfl rfl ?_
      refine ga_iload_n (z := s) hm_172 rfl rfl ?_
      refine ga_aload_n (v := .ref 344) hm_172 rfl rfl rfl ?_
      refine ga_getr (b := 373) hm_172 rfl sc_344 rfl ?_
      refine ga_iload_n (z := i) hm_172 rfl rfl ?_
      have b35_ : -9223372036854775808 ≤ F 373 i.toNat ∧ F 373 i.toNat ≤ 9223372036854775807 := gi_g hgi rfl
      refine ga_lald (z := i) (w := F 373 i.toNat) hm_172 rfl sc_373 (by omega) (by omega) (by omega) (rfl) ?_
      refine gVi (nY := 4) (F := 0) (L := 0) (As := [.int (Int32.ofInt s), .long (Int64.ofInt (F 373 i.toNat))]) (b := 344) (rest := []) hm_172 rfl hm_157 rfl rfl (fl_ob sc_344) rfl rfl rfl rfl rfl (by omega) (by omega) (mc_157 hG F X hgi (s) (F 373 i.toNat) (⟨by omega, by omega⟩) (⟨by omega, by omega⟩)) (fun _ _ h => False.elim h) ?_
      rintro z36_ A1_ (⟨hA_, hz_, c37_⟩ | ⟨hA_, hz_, c38_⟩)
      ·
        subst hA_
        subst hz_
        refine fl_if_ne hm_172 rfl ⟨by omega, by omega⟩ (fun h => absurd h (by omega)) (fun _ => ?_)
        refine fl_goto hm_172 rfl ?_
        refine ga_inc (a := s) (c := s + 1) (lv2 := [(3, .int (Int32.ofInt (s + 1))), (4, .int (Int32.ofInt (F 374 i.toNat + F 357 (F 367 s.toNat).toNat))), (2, .int (Int32.ofInt i)), (1, .int (Int32.ofInt b2)), (0, .ref 344)]) hm_172 rfl rfl (Nat.le_of_ble_eq_true rfl) rfl rfl ?_
        refine fl_goto hm_172 rfl ?_
        exact fl_R_sub (lv' := [(3, .int (Int32.ofInt (s + 1))), (2, .int (Int32.ofInt i)), (1, .int (Int32.ofInt b2)), (0, .ref 344)]) rfl rfl (ih10_ _ (by omega) (b2) (s + 1) rfl (⟨by omega, by omega, by omega⟩) (by rw [show (s + 1).toNat = s.toNat + 1 by omega]; exact nxI_s hb2 (Or.inl (fun h9_ => c37_ ((nq_r hT (show i.toNat < T.length by omega) (show ((s.toNat : Nat) : Int) < F 344 39 by omega)).mp h9_).1))) (⟨by omega, by omega⟩))
      subst hA_
      subst hz_
      refine fl_if_ne hm_172 rfl ⟨by omega, by omega⟩ (fun _ => ?_) (fun h => absurd (by omega) h)
      refine ga_aload_n (v := .ref 344) hm_172 rfl rfl rfl ?_
      refine ga_getr (b := 378) hm_172 rfl sc_344 rfl ?_
      refine ga_aload_n (v := .ref 344) hm_172 rfl rfl rfl ?_
      refine ga_aload_n (v := .ref 344) hm_172 rfl rfl rfl ?_
      refine ga_iload_n (z := s) hm_172 rfl rfl ?_
      refine ga_aload_n (v := .ref 344) hm_172 rfl rfl rfl ?_
      refine ga_getr (b := 373) hm_172 rfl sc_344 rfl ?_
      refine ga_iload_n (z := i) hm_172 rfl rfl ?_
      refine ga_lald (z := i) (w := F 373 i.toNat) hm_172 rfl sc_373 (by omega) (by omega) (by omega) (rfl) ?_
      refine gVl (nY := 4) (F := 0) (L := 0) (As := [.int (Int32.ofInt s), .long (Int64.ofInt (F 373 i.toNat))]) (b := 344) (rest := [.ref 344, .ref 378]) hm_172 rfl hm_158 rfl rfl (fl_ob sc_344) rfl rfl rfl rfl rfl (by omega) (by omega) (mc_158 hG F X hgi (s) (F 373 i.toNat) (⟨by omega, by omega⟩) (⟨by omega, by omega⟩)) (fun _ _ h => False.elim h) ?_
      rintro z39_ A1_ ⟨hA_, c40_, c41_⟩
      subst hA_
      refine gVi (nY := 6) (F := 0) (L := 0) (As := [.long (Int64.ofInt z39_)]) (b := 344) (rest := [.ref 378]) hm_172 rfl hm_189 rfl rfl (fl_ob sc_344) rfl rfl rfl rfl rfl (by omega) (by omega) (mc_189 hG F X hgi (z39_) (⟨by omega, by omega⟩) (gs_free hg (by omega))) (fun _ _ h => False.elim h) ?_
      rintro z42_ A1_ ⟨hA_, c43_, c44_⟩
      subst hA_
      have b45_ : 0 ≤ F 378 z42_.toNat ∧ F 378 z42_.toNat ≤ 200 := gi_g hgi rfl
      refine ga_iald (z := z42_) (w := F 378 z42_.toNat) hm_172 rfl sc_378 (by omega) (by omega) (by omega) (rfl) ?_
      refine fx_if_ne (a := F 378 z42_.toNat) hm_172 rfl ⟨by omega, by omega⟩ (fun h46_ => ?_) (fun h47_ => ?_)
      ·
        refine ga_inc (a := s) (c := s + 1) (lv2 := [(3, .int (Int32.ofInt (s + 1))), (4, .int (Int32.ofInt (F 374 i.toNat + F 357 (F 367 s.toNat).toNat))), (2, .int (Int32.ofInt i)), (1, .int (Int32.ofInt b2)), (0, .ref 344)]) hm_172 rfl rfl (Nat.le_of_ble_eq_true rfl) rfl rfl ?_
        refine fl_goto hm_172 rfl ?_
        exact fl_R_sub (lv' := [(3, .int (Int32.ofInt (s + 1))), (2, .int (Int32.ofInt i)), (1, .int (Int32.ofInt b2)), (0, .ref 344)]) rfl rfl (ih10_ _ (by omega) (b2) (s + 1) rfl (⟨by omega, by omega, by omega⟩) (by rw [show (s + 1).toNat = s.toNat + 1 by omega]; exact nxI_s hb2 (Or.inl (fun h9_ => absurd (hsz_new hT.2.1 (slr_z c44_) (by rw [c40_]; exact ((nq_r hT (show i.toNat < T.length by omega) (show ((s.toNat : Nat) : Int) < F 344 39 by omega)).mp h9_).2)) (by omega)))) (⟨by omega, by omega⟩))
      refine ga_iload (z := F 374 i.toNat + F 357 (F 367 s.toNat).toNat) hm_172 rfl rfl ?_
      refine ga_istore_n (lv2 := [(1, .int (Int32.ofInt (F 374 i.toNat + F 357 (F 367 s.toNat).toNat))), (4, .int (Int32.ofInt (F 374 i.toNat + F 357 (F 367 s.toNat).toNat))), (3, .int (Int32.ofInt s)), (2, .int (Int32.ofInt i)), (0, .ref 344)]) hm_172 rfl (Nat.le_of_ble_eq_true rfl) rfl ?_
      refine ga_inc (a := s) (c := s + 1) (lv2 := [(3, .int (Int32.ofInt (s + 1))), (1, .int (Int32.ofInt (F 374 i.toNat + F 357 (F 367 s.toNat).toNat))), (4, .int (Int32.ofInt (F 374 i.toNat + F 357 (F 367 s.toNat).toNat))), (2, .int (Int32.ofInt i)), (0, .ref 344)]) hm_172 rfl rfl (Nat.le_of_ble_eq_true rfl) rfl rfl ?_
      refine fl_goto hm_172 rfl ?_
      exact fl_R_sub (lv' := [(3, .int (Int32.ofInt (s + 1))), (2, .int (Int32.ofInt i)), (1, .int (Int32.ofInt (F 374 i.toNat + F 357 (F 367 s.toNat).toNat))), (0, .ref 344)]) rfl rfl (ih10_ _ (by omega) (F 374 i.toNat + F 357 (F 367 s.toNat).toNat) (s + 1) rfl (⟨by omega, by omega, by omega⟩) (by rw [show (s + 1).toNat = s.toNat + 1 by omega]; have h9_ := nxI_y hb2 ((nq_r hT (show i.toNat < T.length by omega) (show ((s.toNat : Nat) : Int) < F 344 39 by omega)).mpr ⟨c38_, by cases h8_ : has T (dne F ((s.toNat : Nat) : Int) (F 373 i.toNat)) with | false => rfl | true => exact absurd (by omega) (hsz_old hT.2.1 (slr_z c44_) (by rw [c40_]; exact h8_))⟩) (by rw [cq_r hT (show i.toNat < T.length by omega) (show ((s.toNat : Nat) : Int) < F 344 39 by omega)]; omega) (by rw [cq_r hT (show i.toNat < T.length by omega) (show ((s.toNat : Nat) : Int) < F 344 39 by omega)]; omega); rw [cq_r hT (show i.toNat < T.length by omega) (show ((s.toNat : Nat) : Int) < F 344 39 by omega)] at h9_; exact h9_) (⟨by omega, by omega⟩))
    exact L9_ _ (be) (0) rfl (⟨by omega, by omega, by omega⟩) (hbe) (⟨by omega, by omega⟩)
  exact L2_ _ (-1) (0) rfl (⟨by omega, by omega, by omega⟩) (nxI_0) (⟨by omega, by omega⟩)
/- CheapPlannerModel.findGoal -/
abbrev pq_163v (G : Nat → Nat → Option Nat) (F : fl_N) (X : xi_H) (c : Int) (T : tb_T) (V : List wy_T) (b : Int) : Outcome → xi_H → Prop := gqv (fun A => ∃ F' : fl_N, fl_H sh_T G F' ++ X = A ∧ gi F' ∧ fs [(344, 344, 66, 66), (374, 377, 0, 100000), (379, 380, 0, 100000)] F F' ∧ (rs F' (F' 344 49)) ∧ (gn F') ∧ (∀ j : Nat, j ≠ 200 → F' 374 j = F 374 j) ∧ (F' 344 66 = 1 ↔ gol (pR F) c T = true) ∧ (tR F' T) ∧ (gH F' V (gov (pR F) c T V)) ∧ (chn (F' 375) (F' 376) (F' 377) V b)) gqn
theorem mc_163v {G : Nat → Nat → Option Nat} (hG : gg G) (F : fl_N) (X : xi_H) (hgi : gi F) (c : Int) (T : tb_T) (V : List wy_T) (b : Int) (hc : -2147483648 ≤ c ∧ c ≤ 2147483647) (hr : rs F (F 344 49)) (h49 : 1 ≤ F 344 49) (hT : tR F T) (hcb : ∀ i : Nat, i < T.length → 0 ≤ ca T i ∧ ca T i ≤ 1000000) (hpp : ∀ s : Nat, (s : Int) < F 344 39 → 0 ≤ F 357 (F 367 s).toNat ∧ F 357 (F 367 s).toNat ≤ 2000) (hcv : chn (F 375) (F 376) (F 377) V b) (hVl : V.length = T.length) : fl_M xi_ms 163 2 49 [.ref 344, .int (Int32.ofInt c)] (fl_H sh_T G F ++ X) (pq_163v G F X c T V b) := by
  intro fr lo hfr hlo
  show fl_R xi_ms 163 fr lo 0 [(0, .ref 344), (1, .int (Int32.ofInt c))] [] _ _
  have hb49 : 0 ≤ F 344 49 ∧ F 344 49 ≤ 200 := gi_g hgi rfl
  have hT1 := hT.1
  have hb39 : 0 ≤ F 344 39 ∧ F 344 39 ≤ 40 := gi_g hgi rfl
  refine ga_aload_n (v := .ref 344) hm_163 rfl rfl rfl ?_
  refine fl_iconst hm_163 rfl ?_
  refine ga_putz (z := 0) hm_163 rfl sc_344 rfl rfl (by omega) ?_
  refine fl_iconst hm_163 rfl ?_
  refine ga_istore_n (lv2 := [(2, .int (Int32.ofInt 0)), (0, .ref 344), (1, .int (Int32.ofInt c))]) hm_163 rfl (Nat.le_of_ble_eq_true rfl) rfl ?_
  obtain ⟨F1_, q2_⟩ : ∃ Fq_, Fq_ = (fl_u F 344 66 0) := ⟨_, rfl⟩
  rw [← q2_]
  have g3_ : gi F1_ := by rw [q2_]; exact gi_u (hgi) rfl (by omega) (by omega)
  have g4_ : fs [(344, 344, 66, 66), (374, 377, 0, 100000), (379, 380, 0, 100000)] F F1_ := by rw [q2_]; exact fs_u (fs_refl) rfl
  have L6_ : ∀ (n5_ : Nat) (i : Int) (F1 : fl_N), (200 - i : Int).toNat = n5_ → (gi F1) → (fs [(344, 344, 66, 66), (374, 377, 0, 100000), (379, 380, 0, 100000)] F1_ F1) → (0 ≤ i ∧ i ≤ 200 ∧ i ≤ F 344 49) → (rs F1 (F1 344 49)) → (gn F1) → (∀ j : Nat, j ≠ 200 → F1 374 j = F 374 j) → (flI (pR F) T c i.toNat 0 (F1 344 66)) → (chn (F1 375) (F1 376) (F1 377) V b) → (gH F1 V (gvW (pR F) c T V i.toNat 0)) → fl_R xi_ms 163 fr lo 7 [(2, .int (Int32.ofInt i)), (0, .ref 344), (1, .int (Int32.ofInt c))] [] (fl_H sh_T G F1 ++ X) (pq_163v G F X c T V b) := by
    intro n5_
    induction n5_ using Nat.strongRecOn with
    | ind n5_ ih7_ =>
    intro i F1 hn8_ hg_F1 hf_F1 hi hr1 hg1 ho1 hf1 hc1 hv1
    have g9_ : fs [(344, 344, 66, 66), (374, 377, 0, 100000), (379, 380, 0, 100000)] F F1 := fs_tr g4_ hf_F1 rfl
    refine ga_iload_n (z := i) hm_163 rfl rfl ?_
    refine ga_aload_n (v := .ref 344) hm_163 rfl rfl rfl ?_
    have e10_ : F1_ 344 49 = F 344 49 := by rw [q2_]; exact fl_u_ne (by first | exact nc_ rfl | decide | omega)
    have e11_ : F1 344 49 = F 344 49 := (hf_F1 344 49 rfl).trans (e10_)
    have b12_ : 0 ≤ F 344 49 ∧ F 344 49 ≤ 200 := gi_g hgi rfl
    refine ga_geti (z := F 344 49) hm_163 rfl sc_344 rfl (e11_) ?_
    refine fl_icmp_ge (a := i) (b := F 344 49) hm_163 rfl ⟨by omega, by omega⟩ ⟨by omega, by omega⟩ (fun h13_ => ?_) (fun h14_ => ?_)
    ·
      refine gr_v hm_163 rfl rfl ?_
      have b15_ : 0 ≤ F1 344 66 ∧ F1 344 66 ≤ 1 := gi_g hg_F1 rfl
      exact ⟨F1, rfl, hg_F1, g9_, (hr1), (hg1), (ho1), (flI_e hf1 (by omega)), (tr_cg hT ((Eq.trans (a := F1 344 49) (b := F1_ 344 49) (hf_F1 344 49 (by first | exact fs_c rfl | exact (fs_n (by omega) (fs_n (by omega) (fs_n (by omega) rfl))))) (show F1_ 344 49 = F 344 49 from (by rw [q2_]; exact (fl_u_ne (by first | exact nc_ rfl | decide | omega)))))) (fun j => (Eq.trans (a := F1 373 j) (b := F1_ 373 j) (hf_F1 373 j (by first | exact fs_c rfl | exact (fs_n (by omega) (fs_n (by omega) (fs_n (by omega) rfl))))) (show F1_ 373 j = F 373 j from (by rw [q2_]; exact (fl_u_ne (by first | exact nc_ rfl | decide | omega)))))) (fun j => (Eq.trans (a := F1 378 j) (b := F1_ 378 j) (hf_F1 378 j (by first | exact fs_c rfl | exact (fs_n (by omega) (fs_n (by omega) (fs_n (by omega) rfl))))) (show F1_ 378 j = F 378 j from (by rw [q2_]; exact (fl_u_ne (by first | exact nc_ rfl | decide | omega)))))) (fun j hj => ho1 j (by omega))), (by rw [← gvW_e (i := i.toNat) (by omega)]; exact hv1), (hc1)⟩
    refine fl_iconst hm_163 rfl ?_
    refine ga_istore_n (lv2 := [(3, .int (Int32.ofInt 0)), (2, .int (Int32.ofInt i)), (0, .ref 344), (1, .int (Int32.ofInt c))]) hm_163 rfl (Nat.le_of_ble_eq_true rfl) rfl ?_
    have L17_ : ∀ (n16_ : Nat) (s : Int) (F2 : fl_N), (40 - s : Int).toNat = n16_ → (gi F2) → (fs [(344, 344, 66, 66), (374, 377, 0, 100000), (379, 380, 0, 100000)] F1 F2) → (0 ≤ s ∧ s ≤ 40 ∧ s ≤ F 344 39) → (rs F2 (F2 344 49)) → (gn F2) → (∀ j : Nat, j ≠ 200 → F2 374 j = F 374 j) → (flI (pR F) T c i.toNat s.toNat (F2 344 66)) → (chn (F2 375) (F2 376) (F2 377) V b) → (gH F2 V (gvW (pR F) c T V i.toNat s.toNat)) → fl_R xi_ms 163 fr lo 17 [(3, .int (Int32.ofInt s)), (2, .int (Int32.ofInt i)), (0, .ref 344), (1, .int (Int32.ofInt c))] [] (fl_H sh_T G F2 ++ X) (pq_163v G F X c T V b) := by
      intro n16_
      induction n16_ using Nat.strongRecOn with
      | ind n16_ ih18_ =>
      intro s F2 hn19_ hg_F2 hf_F2 hs hr2 hg2 ho2 hf2 hc2 hv2
      have g20_ : fs [(344, 344, 66, 66), (374, 377, 0, 100000), (379, 380, 0, 100000)] F F2 := fs_tr g9_ hf_F2 rfl
      refine ga_iload_n (z := s) hm_163 rfl rfl ?_
      refine ga_aload_n (v := .ref 344) hm_163 rfl rfl rfl ?_
      have e21_ : F1_ 344 39 = F 344 39 := by rw [q2_]; exact fl_u_ne (by first | exact nc_ rfl | decide | omega)
      have e22_ : F1 344 39 = F 344 39 := (hf_F1 344 39 rfl).trans (e21_)
      have e23_ : F2 344 39 = F 344 39 := (hf_F2 344 39 rfl).trans (e22_)
      have b24_ : 0 ≤ F 344 39 ∧ F 344 39 ≤ 40 := gi_g hgi rfl
      refine ga_geti (z := F 344 39) hm_163 rfl sc_344 rfl (e23_) ?_
      refine fl_icmp_ge (a := s) (b := F 344 39) hm_163 rfl ⟨by omega, by omega⟩ ⟨by omega, by omega⟩ (fun h25_ => ?_) (fun h26_ => ?_)
      ·
        refine ga_inc (a := i) (c := i + 1) (lv2 := [(2, .int (Int32.ofInt (i + 1))), (3, .int (Int32.ofInt s)), (0, .ref 344), (1, .int (Int32.ofInt c))]) hm_163 rfl rfl (Nat.le_of_ble_eq_true rfl) rfl rfl ?_
        refine fl_goto hm_163 rfl ?_
        have e27_ : F2 344 49 = F 344 49 := (hf_F2 344 49 rfl).trans (e11_)
        have b28_ : 0 ≤ F2 344 66 ∧ F2 344 66 ≤ 1 := gi_g hg_F2 rfl
        have b29_ : 0 ≤ F1 344 66 ∧ F1 344 66 ≤ 1 := gi_g hg_F1 rfl
        exact fl_R_sub (lv' := [(2, .int (Int32.ofInt (i + 1))), (0, .ref 344), (1, .int (Int32.ofInt c))]) rfl rfl (ih7_ _ (by omega) (i + 1) F2 rfl hg_F2 (fs_tr hf_F1 hf_F2 rfl) (⟨by omega, by omega, by omega⟩) (hr2) (hg2) (ho2) (by rw [show (i + 1).toNat = i.toNat + 1 by omega]; exact flI_r hf2 (by rw [pR_n]; omega)) (hc2) (by rw [show (i + 1).toNat = i.toNat + 1 by omega, gvW_r, show (pR F).1 = s.toNat by rw [pR_n]; omega]; exact hv2))
      refine ga_aload_n (v := .ref 344) hm_163 rfl rfl rfl ?_
      refine ga_getr (b := 374) hm_163 rfl sc_344 rfl ?_
      refine ga_iload_n (z := i) hm_163 rfl rfl ?_
      have b30_ : -2147483648 ≤ F2 374 i.toNat ∧ F2 374 i.toNat ≤ 2147483647 := gi_g hg_F2 rfl
      refine ga_iald (z := i) (w := F2 374 i.toNat) hm_163 rfl sc_374 (by omega) (by omega) (by omega) (rfl) ?_
      refine ga_aload_n (v := .ref 344) hm_163 rfl rfl rfl ?_
      refine ga_getr (b := 357) hm_163 rfl sc_344 rfl ?_
      refine ga_aload_n (v := .ref 344) hm_163 rfl rfl rfl ?_
      refine ga_getr (b := 367) hm_163 rfl sc_344 rfl ?_
      refine ga_iload_n (z := s) hm_163 rfl rfl ?_
      have e31_ : F1_ 367 s.toNat = F 367 s.toNat := by rw [q2_]; exact fl_u_ne (by first | exact nc_ rfl | decide | omega)
      have e32_ : F1 367 s.toNat = F 367 s.toNat := (hf_F1 367 s.toNat (by first | exact fs_c rfl | exact (fs_n (by omega) (fs_n (by omega) (fs_n (by omega) rfl))))).trans (e31_)
      have e33_ : F2 367 s.toNat = F 367 s.toNat := (hf_F2 367 s.toNat (by first | exact fs_c rfl | exact (fs_n (by omega) (fs_n (by omega) (fs_n (by omega) rfl))))).trans (e32_)
      have b34_ : 0 ≤ F 367 s.toNat ∧ F 367 s.toNat ≤ 4 := gi_g hgi rfl
      refine ga_iald (z := s) (w := F 367 s.toNat) hm_163 rfl sc_367 (by omega) (by omega) (by omega) (e33_) ?_
      have e35_ : F1_ 357 (F 367 s.toNat).toNat = F 357 (F 367 s.toNat).toNat := by rw [q2_]; exact fl_u_ne (by first | exact nc_ rfl | decide | omega)
      have e36_ : F1 357 (F 367 s.toNat).toNat = F 357 (F 367 s.toNat).toNat := (hf_F1 357 (F 367 s.toNat).toNat (by first | exact fs_c rfl | exact (fs_n (by omega) (fs_n (by omega) (fs_n (by omega) rfl))))).trans (e35_)
      have e37_ : F2 357 (F 367 s.toNat).toNat = F 357 (F 367 s.toNat).toNat := (hf_F2 357 (F 367 s.toNat).toNat (by first | exact fs_c rfl | exact (fs_n (by omega) (fs_n (by omega) (fs_n (by omega) rfl))))).trans (e36_)
      have b38_ : -1000 ≤ F 357 (F 367 s.toNat).toNat ∧ F 357 (F 367 s.toNat).toNat ≤ 2000 := gi_g hgi rfl
      refine ga_iald (z := F 367 s.toNat) (w := F 357 (F 367 s.toNat).toNat) hm_163 rfl sc_357 (by omega) (by omega) (by omega) (e37_) ?_
      have hpp_ := hpp s.toNat (by omega)
      have hci_ := hcb i.toNat (by omega)
      have hce_ : F2 374 i.toNat = ca T i.toNat := (ho2 i.toNat (by omega)).trans (hT.2.2 i.toNat (by omega))
      have hb66 : 0 ≤ F2 344 66 ∧ F2 344 66 ≤ 1 := gi_g hg_F2 rfl
      refine ga_iadd (a := F2 374 i.toNat) (b := F 357 (F 367 s.toNat).toNat) (c := F2 374 i.toNat + F 357 (F 367 s.toNat).toNat) hm_163 rfl (by omega) ?_
      refine ga_iload_n (z := c) hm_163 rfl rfl ?_
      refine fx_icmp_ne (a := F2 374 i.toNat + F 357 (F 367 s.toNat).toNat) (b := c) hm_163 rfl ⟨by omega, by omega⟩ ⟨by omega, by omega⟩ (fun h39_ => ?_) (fun h40_ => ?_)
      ·
        refine ga_inc (a := s) (c := s + 1) (lv2 := [(3, .int (Int32.ofInt (s + 1))), (2, .int (Int32.ofInt i)), (0, .ref 344), (1, .int (Int32.ofInt c))]) hm_163 rfl rfl (Nat.le_of_ble_eq_true rfl) rfl rfl ?_
        refine fl_goto hm_163 rfl ?_
        have e41_ : F2 344 49 = F 344 49 := (hf_F2 344 49 rfl).trans (e11_)
        have b42_ : 0 ≤ F2 344 66 ∧ F2 344 66 ≤ 1 := gi_g hg_F2 rfl
        exact ih18_ _ (by omega) (s + 1) F2 rfl hg_F2 hf_F2 (⟨by omega, by omega, by omega⟩) (hr2) (hg2) (ho2) (by rw [show (s + 1).toNat = s.toNat + 1 by omega]; exact flI_n hf2 (fun h9_ => by have h8_ := ((gqs_x (F := F) (T := T) (i := i.toNat) (s := s.toNat) (c := c) (show i.toNat < T.length by omega) (show ((s.toNat : Nat) : Int) < F 344 39 by omega) (hT.2.1.1 i.toNat (by omega)).symm hce_.symm).mp h9_).1.1; omega)) (hc2) (by rw [show (s + 1).toNat = s.toNat + 1 by omega]; exact gH_n hv2 (fun h9_ => by have h8_ := ((gqs_x (F := F) (T := T) (i := i.toNat) (s := s.toNat) (c := c) (show i.toNat < T.length by omega) (show ((s.toNat : Nat) : Int) < F 344 39 by omega) (hT.2.1.1 i.toNat (by omega)).symm hce_.symm).mp h9_).1.1; omega) (show i.toNat < T.length by omega) (show s.toNat < (pR F).1 by rw [pR_n]; omega))
      refine ga_aload_n (v := .ref 344) hm_163 rfl rfl rfl ?_
      refine ga_iload_n (z := s) hm_163 rfl rfl ?_
      refine ga_aload_n (v := .ref 344) hm_163 rfl rfl rfl ?_
      refine ga_getr (b := 373) hm_163 rfl sc_344 rfl ?_
      refine ga_iload_n (z := i) hm_163 rfl rfl ?_
      have e43_ : F1_ 373 i.toNat = F 373 i.toNat := by rw [q2_]; exact fl_u_ne (by first | exact nc_ rfl | decide | omega)
      have e44_ : F1 373 i.toNat = F 373 i.toNat := (hf_F1 373 i.toNat (by first | exact fs_c rfl | exact (fs_n (by omega) (fs_n (by omega) (fs_n (by omega) rfl))))).trans (e43_)
      have e45_ : F2 373 i.toNat = F 373 i.toNat := (hf_F2 373 i.toNat (by first | exact fs_c rfl | exact (fs_n (by omega) (fs_n (by omega) (fs_n (by omega) rfl))))).trans (e44_)
      have b46_ : -9223372036854775808 ≤ F 373 i.toNat ∧ F 373 i.toNat ≤ 9223372036854775807 := gi_g hgi rfl
      refine ga_lald (z := i) (w := F 373 i.toNat) hm_163 rfl sc_373 (by omega) (by omega) (by omega) (e45_) ?_
      refine gVi (nY := 4) (F := 0) (L := 0) (As := [.int (Int32.ofInt s), .long (Int64.ofInt (F 373 i.toNat))]) (b := 344) (rest := []) hm_163 rfl hm_157 rfl rfl (fl_ob sc_344) rfl rfl rfl rfl rfl (by omega) (by omega) (mc_157 hG F2 X hg_F2 (s) (F 373 i.toNat) (⟨by omega, by omega⟩) (⟨by omega, by omega⟩)) (fun _ _ h => False.elim h) ?_
      rintro z47_ A1_ (⟨hA_, hz_, c48_⟩ | ⟨hA_, hz_, c49_⟩)
      ·
        subst hA_
        subst hz_
        refine fl_if_eq hm_163 rfl ⟨by omega, by omega⟩ (fun _ => ?_) (fun h => absurd (by omega) h)
        refine ga_inc (a := s) (c := s + 1) (lv2 := [(3, .int (Int32.ofInt (s + 1))), (2, .int (Int32.ofInt i)), (0, .ref 344), (1, .int (Int32.ofInt c))]) hm_163 rfl rfl (Nat.le_of_ble_eq_true rfl) rfl rfl ?_
        refine fl_goto hm_163 rfl ?_
        have e50_ : F2 344 49 = F 344 49 := (hf_F2 344 49 rfl).trans (e11_)
        have b51_ : 0 ≤ F2 344 66 ∧ F2 344 66 ≤ 1 := gi_g hg_F2 rfl
        exact ih18_ _ (by omega) (s + 1) F2 rfl hg_F2 hf_F2 (⟨by omega, by omega, by omega⟩) (hr2) (hg2) (ho2) (by rw [show (s + 1).toNat = s.toNat + 1 by omega]; exact flI_n hf2 (fun h9_ => by have h8_ := ((gqs_x (F := F) (T := T) (i := i.toNat) (s := s.toNat) (c := c) (show i.toNat < T.length by omega) (show ((s.toNat : Nat) : Int) < F 344 39 by omega) (hT.2.1.1 i.toNat (by omega)).symm hce_.symm).mp h9_).1.2; rw [← (cb_cg (F := F) (F' := F2) (fun j => (Eq.trans (a := F2 369 j) (b := F1 369 j) (hf_F2 369 j (by first | exact fs_c rfl | exact (fs_n (by omega) (fs_n (by omega) (fs_n (by omega) rfl))))) (Eq.trans (a := F1 369 j) (b := F1_ 369 j) (hf_F1 369 j (by first | exact fs_c rfl | exact (fs_n (by omega) (fs_n (by omega) (fs_n (by omega) rfl))))) (show F1_ 369 j = F 369 j from (by rw [q2_]; exact (fl_u_ne (by first | exact nc_ rfl | decide | omega))))))) (fun j => (Eq.trans (a := F2 370 j) (b := F1 370 j) (hf_F2 370 j (by first | exact fs_c rfl | exact (fs_n (by omega) (fs_n (by omega) (fs_n (by omega) rfl))))) (Eq.trans (a := F1 370 j) (b := F1_ 370 j) (hf_F1 370 j (by first | exact fs_c rfl | exact (fs_n (by omega) (fs_n (by omega) (fs_n (by omega) rfl))))) (show F1_ 370 j = F 370 j from (by rw [q2_]; exact (fl_u_ne (by first | exact nc_ rfl | decide | omega))))))))] at h8_; exact c48_ h8_)) (hc2) (by rw [show (s + 1).toNat = s.toNat + 1 by omega]; exact gH_n hv2 (fun h9_ => by have h8_ := ((gqs_x (F := F) (T := T) (i := i.toNat) (s := s.toNat) (c := c) (show i.toNat < T.length by omega) (show ((s.toNat : Nat) : Int) < F 344 39 by omega) (hT.2.1.1 i.toNat (by omega)).symm hce_.symm).mp h9_).1.2; rw [← (cb_cg (F := F) (F' := F2) (fun j => (Eq.trans (a := F2 369 j) (b := F1 369 j) (hf_F2 369 j (by first | exact fs_c rfl | exact (fs_n (by omega) (fs_n (by omega) (fs_n (by omega) rfl))))) (Eq.trans (a := F1 369 j) (b := F1_ 369 j) (hf_F1 369 j (by first | exact fs_c rfl | exact (fs_n (by omega) (fs_n (by omega) (fs_n (by omega) rfl))))) (show F1_ 369 j = F 369 j from (by rw [q2_]; exact (fl_u_ne (by first | exact nc_ rfl | decide | omega))))))) (fun j => (Eq.trans (a := F2 370 j) (b := F1 370 j) (hf_F2 370 j (by first | exact fs_c rfl | exact (fs_n (by omega) (fs_n (by omega) (fs_n (by omega) rfl))))) (Eq.trans (a := F1 370 j) (b := F1_ 370 j) (hf_F1 370 j (by first | exact fs_c rfl | exact (fs_n (by omega) (fs_n (by omega) (fs_n (by omega) rfl))))) (show F1_ 370 j = F 370 j from (by rw [q2_]; exact (fl_u_ne (by first | exact nc_ rfl | decide | omega))))))))] at h8_; exact c48_ h8_) (show i.toNat < T.length by omega) (show s.toNat < (pR F).1 by rw [pR_n]; omega))
      subst hA_
      subst hz_
      refine fl_if_eq hm_163 rfl ⟨by omega, by omega⟩ (fun h => absurd h (by omega)) (fun _ => ?_)
      refine ga_aload_n (v := .ref 344) hm_163 rfl rfl rfl ?_
      refine ga_aload_n (v := .ref 344) hm_163 rfl rfl rfl ?_
      refine ga_iload_n (z := s) hm_163 rfl rfl ?_
      refine ga_aload_n (v := .ref 344) hm_163 rfl rfl rfl ?_
      refine ga_getr (b := 373) hm_163 rfl sc_344 rfl ?_
      refine ga_iload_n (z := i) hm_163 rfl rfl ?_
      refine ga_lald (z := i) (w := F 373 i.toNat) hm_163 rfl sc_373 (by omega) (by omega) (by omega) (e45_) ?_
      refine gVl (nY := 4) (F := 0) (L := 0) (As := [.int (Int32.ofInt s), .long (Int64.ofInt (F 373 i.toNat))]) (b := 344) (rest := [.ref 344]) hm_163 rfl hm_158 rfl rfl (fl_ob sc_344) rfl rfl rfl rfl rfl (by omega) (by omega) (mc_158 hG F2 X hg_F2 (s) (F 373 i.toNat) (⟨by omega, by omega⟩) (⟨by omega, by omega⟩)) (fun _ _ h => False.elim h) ?_
      rintro z52_ A1_ ⟨hA_, c53_, c54_⟩
      subst hA_
      refine gVi (nY := 3) (F := 0) (L := 0) (As := [.long (Int64.ofInt z52_)]) (b := 344) (rest := []) hm_163 rfl hm_168 rfl rfl (fl_ob sc_344) rfl rfl rfl rfl rfl (by omega) (by omega) (mc_168 hG F2 X hg_F2 (z52_) (⟨by omega, by omega⟩)) (fun _ _ h => False.elim h) ?_
      rintro z55_ A1_ ⟨hA_, c56_, c57_⟩
      subst hA_
      refine fx_if_ne (a := z55_) hm_163 rfl ⟨by omega, by omega⟩ (fun h58_ => ?_) (fun h59_ => ?_)
      ·
        refine ga_aload_n (v := .ref 344) hm_163 rfl rfl rfl ?_
        have b60_ : 0 ≤ F2 344 66 ∧ F2 344 66 ≤ 1 := gi_g hg_F2 rfl
        refine ga_geti (z := F2 344 66) hm_163 rfl sc_344 rfl (rfl) ?_
        refine fl_if_eq (a := F2 344 66) hm_163 rfl ⟨by omega, by omega⟩ (fun h61_ => ?_) (fun h62_ => ?_)
        ·
          refine ga_aload_n (v := .ref 344) hm_163 rfl rfl rfl ?_
          refine fl_sipush hm_163 rfl rfl ?_
          refine ga_iload_n (z := i) hm_163 rfl rfl ?_
          refine ga_iload_n (z := s) hm_163 rfl rfl ?_
          have e63_ : F2 344 49 = F 344 49 := (hf_F2 344 49 rfl).trans (e11_)
          refine gVv (nY := 4) (F := 0) (L := 0) (As := [.int (Int32.ofInt 200), .int (Int32.ofInt i), .int (Int32.ofInt s)]) (b := 344) (rest := []) hm_163 rfl hm_170 rfl rfl (fl_ob sc_344) rfl rfl rfl rfl rfl (by omega) (by omega) (mc_170v hG F2 X hg_F2 (200) (i) (s) (⟨by omega, by omega⟩) (⟨by omega, by omega⟩) (⟨by omega, by omega⟩) (by have h9_ := rs_di hr2 (i := i) (by omega) (by omega); omega) (by omega) (by rw [show F2 367 s.toNat = F 367 s.toNat from (Eq.trans (a := F2 367 s.toNat) (b := F1 367 s.toNat) (hf_F2 367 s.toNat (by first | exact fs_c rfl | exact (fs_n (by omega) (fs_n (by omega) (fs_n (by omega) rfl))))) (Eq.trans (a := F1 367 s.toNat) (b := F1_ 367 s.toNat) (hf_F1 367 s.toNat (by first | exact fs_c rfl | exact (fs_n (by omega) (fs_n (by omega) (fs_n (by omega) rfl))))) (show F1_ 367 s.toNat = F 367 s.toNat from (by rw [q2_]; exact (fl_u_ne (by first | exact nc_ rfl | decide | omega)))))), show F2 357 (F 367 s.toNat).toNat = F 357 (F 367 s.toNat).toNat from (Eq.trans (a := F2 357 (F 367 s.toNat).toNat) (b := F1 357 (F 367 s.toNat).toNat) (hf_F2 357 (F 367 s.toNat).toNat (by first | exact fs_c rfl | exact (fs_n (by omega) (fs_n (by omega) (fs_n (by omega) rfl))))) (Eq.trans (a := F1 357 (F 367 s.toNat).toNat) (b := F1_ 357 (F 367 s.toNat).toNat) (hf_F1 357 (F 367 s.toNat).toNat (by first | exact fs_c rfl | exact (fs_n (by omega) (fs_n (by omega) (fs_n (by omega) rfl))))) (show F1_ 357 (F 367 s.toNat).toNat = F 357 (F 367 s.toNat).toNat from (by rw [q2_]; exact (fl_u_ne (by first | exact nc_ rfl | decide | omega))))))]; exact hpp_)) (fun _ _ h => False.elim h) ?_
          rintro A1_ ⟨F70_, hA_, g71_, s72_, c65_, c66_, c67_, c68_, c69_⟩
          subst hA_
          have g73_ : fs [(344, 344, 66, 66), (374, 377, 0, 100000), (379, 380, 0, 100000)] F F70_ := fs_tr g20_ s72_ rfl
          refine ga_aload_n (v := .ref 344) hm_163 rfl rfl rfl ?_
          refine fl_iconst hm_163 rfl ?_
          refine ga_putz (z := 1) hm_163 rfl sc_344 rfl rfl (by omega) ?_
          refine ga_inc (a := s) (c := s + 1) (lv2 := [(3, .int (Int32.ofInt (s + 1))), (2, .int (Int32.ofInt i)), (0, .ref 344), (1, .int (Int32.ofInt c))]) hm_163 rfl rfl (Nat.le_of_ble_eq_true rfl) rfl rfl ?_
          refine fl_goto hm_163 rfl ?_
          obtain ⟨F74_, q75_⟩ : ∃ Fq_, Fq_ = (fl_u F70_ 344 66 1) := ⟨_, rfl⟩
          rw [← q75_]
          have g76_ : gi F74_ := by rw [q75_]; exact gi_u (g71_) rfl (by omega) (by omega)
          have g77_ : fs [(344, 344, 66, 66), (374, 377, 0, 100000), (379, 380, 0, 100000)] F F74_ := by rw [q75_]; exact fs_u (g73_) rfl
          have e78_ : F70_ 344 49 = F 344 49 := (s72_ 344 49 rfl).trans (e63_)
          have e79_ : F74_ 344 49 = F 344 49 := by rw [q75_]; exact (fl_u_ne (by first | exact nc_ rfl | decide | omega)).trans (e78_)
          have e80_ : F74_ 344 66 = 1 := by rw [q75_]; exact fl_u_eq
          have e81_ : F70_ 344 39 = F 344 39 := (s72_ 344 39 rfl).trans (e23_)
          have e82_ : F74_ 344 39 = F 344 39 := by rw [q75_]; exact (fl_u_ne (by first | exact nc_ rfl | decide | omega)).trans (e81_)
          exact ih18_ _ (by omega) (s + 1) F74_ rfl g76_ (by rw [q75_]; exact fs_u ((fs_tr hf_F2 s72_ rfl)) rfl) (⟨by omega, by omega, by omega⟩) (rs_old (rs_cg (old := F2 344 49) hr2 (Eq.trans (a := F74_ 344 49) (b := F70_ 344 49) (show F74_ 344 49 = F70_ 344 49 from (by rw [q75_]; exact (fl_u_ne (by first | exact nc_ rfl | decide | omega)))) (show F70_ 344 49 = F2 344 49 from (s72_ 344 49 (by first | exact fs_c rfl | exact (fs_n (by omega) rfl))))) (Eq.trans (a := F74_ 344 39) (b := F70_ 344 39) (show F74_ 344 39 = F70_ 344 39 from (by rw [q75_]; exact (fl_u_ne (by first | exact nc_ rfl | decide | omega)))) (show F70_ 344 39 = F2 344 39 from (s72_ 344 39 (by first | exact fs_c rfl | exact (fs_n (by omega) rfl))))) (by omega) (fun j hj => ⟨(Eq.trans (a := F74_ 375 j) (b := F70_ 375 j) (show F74_ 375 j = F70_ 375 j from (by rw [q75_]; exact (fl_u_ne (by first | exact nc_ rfl | decide | omega)))) (c65_ j (by omega)).2.1), (Eq.trans (a := F74_ 376 j) (b := F70_ 376 j) (show F74_ 376 j = F70_ 376 j from (by rw [q75_]; exact (fl_u_ne (by first | exact nc_ rfl | decide | omega)))) (c65_ j (by omega)).2.2.1), (Eq.trans (a := F74_ 377 j) (b := F70_ 377 j) (show F74_ 377 j = F70_ 377 j from (by rw [q75_]; exact (fl_u_ne (by first | exact nc_ rfl | decide | omega)))) (c65_ j (by omega)).2.2.2)⟩)) ((Eq.trans (a := F74_ 344 49) (b := F70_ 344 49) (show F74_ 344 49 = F70_ 344 49 from (by rw [q75_]; exact (fl_u_ne (by first | exact nc_ rfl | decide | omega)))) (show F70_ 344 49 = F2 344 49 from (s72_ 344 49 (by first | exact fs_c rfl | exact (fs_n (by omega) rfl))))))) (gn_k c65_ c66_ c67_ c68_ (fun j => (show F74_ 375 j = F70_ 375 j from (by rw [q75_]; exact (fl_u_ne (by first | exact nc_ rfl | decide | omega))))) (fun j => (show F74_ 376 j = F70_ 376 j from (by rw [q75_]; exact (fl_u_ne (by first | exact nc_ rfl | decide | omega))))) (fun j => (show F74_ 377 j = F70_ 377 j from (by rw [q75_]; exact (fl_u_ne (by first | exact nc_ rfl | decide | omega))))) ⟨by omega, by omega⟩ (by omega) (by omega)) (fun j hj => Eq.trans (Eq.trans (a := F74_ 374 j) (b := F70_ 374 j) (show F74_ 374 j = F70_ 374 j from (by rw [q75_]; exact (fl_u_ne (by first | exact nc_ rfl | decide | omega)))) (c65_ j (by omega)).1) (ho2 j hj)) (by rw [show (s + 1).toNat = s.toNat + 1 by omega]; exact flI_y (by have h5_ := e80_; omega) ((gqs_x (F := F) (T := T) (i := i.toNat) (s := s.toNat) (c := c) (show i.toNat < T.length by omega) (show ((s.toNat : Nat) : Int) < F 344 39 by omega) (hT.2.1.1 i.toNat (by omega)).symm hce_.symm).mpr ⟨⟨by omega, by have h9_ := c49_; rw [(cb_cg (F := F) (F' := F2) (fun j => (Eq.trans (a := F2 369 j) (b := F1 369 j) (hf_F2 369 j (by first | exact fs_c rfl | exact (fs_n (by omega) (fs_n (by omega) (fs_n (by omega) rfl))))) (Eq.trans (a := F1 369 j) (b := F1_ 369 j) (hf_F1 369 j (by first | exact fs_c rfl | exact (fs_n (by omega) (fs_n (by omega) (fs_n (by omega) rfl))))) (show F1_ 369 j = F 369 j from (by rw [q2_]; exact (fl_u_ne (by first | exact nc_ rfl | decide | omega))))))) (fun j => (Eq.trans (a := F2 370 j) (b := F1 370 j) (hf_F2 370 j (by first | exact fs_c rfl | exact (fs_n (by omega) (fs_n (by omega) (fs_n (by omega) rfl))))) (Eq.trans (a := F1 370 j) (b := F1_ 370 j) (hf_F1 370 j (by first | exact fs_c rfl | exact (fs_n (by omega) (fs_n (by omega) (fs_n (by omega) rfl))))) (show F1_ 370 j = F 370 j from (by rw [q2_]; exact (fl_u_ne (by first | exact nc_ rfl | decide | omega))))))))] at h9_; exact h9_⟩, by rcases c57_ with ⟨h6_, h7_⟩ | ⟨h6_, h7_⟩; (rw [(gr_cg (F := F) (F' := F2) ((Eq.trans (a := F2 344 46) (b := F1 344 46) (hf_F2 344 46 (by first | exact fs_c rfl | exact (fs_n (by omega) (fs_n (by omega) (fs_n (by omega) rfl))))) (Eq.trans (a := F1 344 46) (b := F1_ 344 46) (hf_F1 344 46 (by first | exact fs_c rfl | exact (fs_n (by omega) (fs_n (by omega) (fs_n (by omega) rfl))))) (show F1_ 344 46 = F 344 46 from (by rw [q2_]; exact (fl_u_ne (by first | exact nc_ rfl | decide | omega))))))) ((Eq.trans (a := F2 344 47) (b := F1 344 47) (hf_F2 344 47 (by first | exact fs_c rfl | exact (fs_n (by omega) (fs_n (by omega) (fs_n (by omega) rfl))))) (Eq.trans (a := F1 344 47) (b := F1_ 344 47) (hf_F1 344 47 (by first | exact fs_c rfl | exact (fs_n (by omega) (fs_n (by omega) (fs_n (by omega) rfl))))) (show F1_ 344 47 = F 344 47 from (by rw [q2_]; exact (fl_u_ne (by first | exact nc_ rfl | decide | omega))))))) ((Eq.trans (a := F2 344 48) (b := F1 344 48) (hf_F2 344 48 (by first | exact fs_c rfl | exact (fs_n (by omega) (fs_n (by omega) (fs_n (by omega) rfl))))) (Eq.trans (a := F1 344 48) (b := F1_ 344 48) (hf_F1 344 48 (by first | exact fs_c rfl | exact (fs_n (by omega) (fs_n (by omega) (fs_n (by omega) rfl))))) (show F1_ 344 48 = F 344 48 from (by rw [q2_]; exact (fl_u_ne (by first | exact nc_ rfl | decide | omega)))))))), c53_, (dn_cg (F := F) (F' := F2) (fun j => (Eq.trans (a := F2 371 j) (b := F1 371 j) (hf_F2 371 j (by first | exact fs_c rfl | exact (fs_n (by omega) (fs_n (by omega) (fs_n (by omega) rfl))))) (Eq.trans (a := F1 371 j) (b := F1_ 371 j) (hf_F1 371 j (by first | exact fs_c rfl | exact (fs_n (by omega) (fs_n (by omega) (fs_n (by omega) rfl))))) (show F1_ 371 j = F 371 j from (by rw [q2_]; exact (fl_u_ne (by first | exact nc_ rfl | decide | omega))))))) (fun j => (Eq.trans (a := F2 372 j) (b := F1 372 j) (hf_F2 372 j (by first | exact fs_c rfl | exact (fs_n (by omega) (fs_n (by omega) (fs_n (by omega) rfl))))) (Eq.trans (a := F1 372 j) (b := F1_ 372 j) (hf_F1 372 j (by first | exact fs_c rfl | exact (fs_n (by omega) (fs_n (by omega) (fs_n (by omega) rfl))))) (show F1_ 372 j = F 372 j from (by rw [q2_]; exact (fl_u_ne (by first | exact nc_ rfl | decide | omega))))))))] at h7_; exact h7_); (exfalso; omega)⟩)) (chn_cg hc2 (fun j hj => (Eq.trans (a := F74_ 375 j) (b := F70_ 375 j) (show F74_ 375 j = F70_ 375 j from (by rw [q75_]; exact (fl_u_ne (by first | exact nc_ rfl | decide | omega)))) (c65_ j (by omega)).2.1)) (fun j hj => (Eq.trans (a := F74_ 376 j) (b := F70_ 376 j) (show F74_ 376 j = F70_ 376 j from (by rw [q75_]; exact (fl_u_ne (by first | exact nc_ rfl | decide | omega)))) (c65_ j (by omega)).2.2.1)) (fun j hj => (Eq.trans (a := F74_ 377 j) (b := F70_ 377 j) (show F74_ 377 j = F70_ 377 j from (by rw [q75_]; exact (fl_u_ne (by first | exact nc_ rfl | decide | omega)))) (c65_ j (by omega)).2.2.2))) (by rw [show (s + 1).toNat = s.toNat + 1 by omega]; exact gH_y hv2 ((gqs_x (F := F) (T := T) (i := i.toNat) (s := s.toNat) (c := c) (show i.toNat < T.length by omega) (show ((s.toNat : Nat) : Int) < F 344 39 by omega) (hT.2.1.1 i.toNat (by omega)).symm hce_.symm).mpr ⟨⟨by omega, by have h9_ := c49_; rw [(cb_cg (F := F) (F' := F2) (fun j => (Eq.trans (a := F2 369 j) (b := F1 369 j) (hf_F2 369 j (by first | exact fs_c rfl | exact (fs_n (by omega) (fs_n (by omega) (fs_n (by omega) rfl))))) (Eq.trans (a := F1 369 j) (b := F1_ 369 j) (hf_F1 369 j (by first | exact fs_c rfl | exact (fs_n (by omega) (fs_n (by omega) (fs_n (by omega) rfl))))) (show F1_ 369 j = F 369 j from (by rw [q2_]; exact (fl_u_ne (by first | exact nc_ rfl | decide | omega))))))) (fun j => (Eq.trans (a := F2 370 j) (b := F1 370 j) (hf_F2 370 j (by first | exact fs_c rfl | exact (fs_n (by omega) (fs_n (by omega) (fs_n (by omega) rfl))))) (Eq.trans (a := F1 370 j) (b := F1_ 370 j) (hf_F1 370 j (by first | exact fs_c rfl | exact (fs_n (by omega) (fs_n (by omega) (fs_n (by omega) rfl))))) (show F1_ 370 j = F 370 j from (by rw [q2_]; exact (fl_u_ne (by first | exact nc_ rfl | decide | omega))))))))] at h9_; exact h9_⟩, by rcases c57_ with ⟨h6_, h7_⟩ | ⟨h6_, h7_⟩; (rw [(gr_cg (F := F) (F' := F2) ((Eq.trans (a := F2 344 46) (b := F1 344 46) (hf_F2 344 46 (by first | exact fs_c rfl | exact (fs_n (by omega) (fs_n (by omega) (fs_n (by omega) rfl))))) (Eq.trans (a := F1 344 46) (b := F1_ 344 46) (hf_F1 344 46 (by first | exact fs_c rfl | exact (fs_n (by omega) (fs_n (by omega) (fs_n (by omega) rfl))))) (show F1_ 344 46 = F 344 46 from (by rw [q2_]; exact (fl_u_ne (by first | exact nc_ rfl | decide | omega))))))) ((Eq.trans (a := F2 344 47) (b := F1 344 47) (hf_F2 344 47 (by first | exact fs_c rfl | exact (fs_n (by omega) (fs_n (by omega) (fs_n (by omega) rfl))))) (Eq.trans (a := F1 344 47) (b := F1_ 344 47) (hf_F1 344 47 (by first | exact fs_c rfl | exact (fs_n (by omega) (fs_n (by omega) (fs_n (by omega) rfl))))) (show F1_ 344 47 = F 344 47 from (by rw [q2_]; exact (fl_u_ne (by first | exact nc_ rfl | decide | omega))))))) ((Eq.trans (a := F2 344 48) (b := F1 344 48) (hf_F2 344 48 (by first | exact fs_c rfl | exact (fs_n (by omega) (fs_n (by omega) (fs_n (by omega) rfl))))) (Eq.trans (a := F1 344 48) (b := F1_ 344 48) (hf_F1 344 48 (by first | exact fs_c rfl | exact (fs_n (by omega) (fs_n (by omega) (fs_n (by omega) rfl))))) (show F1_ 344 48 = F 344 48 from (by rw [q2_]; exact (fl_u_ne (by first | exact nc_ rfl | decide | omega)))))))), c53_, (dn_cg (F := F) (F' := F2) (fun j => (Eq.trans (a := F2 371 j) (b := F1 371 j) (hf_F2 371 j (by first | exact fs_c rfl | exact (fs_n (by omega) (fs_n (by omega) (fs_n (by omega) rfl))))) (Eq.trans (a := F1 371 j) (b := F1_ 371 j) (hf_F1 371 j (by first | exact fs_c rfl | exact (fs_n (by omega) (fs_n (by omega) (fs_n (by omega) rfl))))) (show F1_ 371 j = F 371 j from (by rw [q2_]; exact (fl_u_ne (by first | exact nc_ rfl | decide | omega))))))) (fun j => (Eq.trans (a := F2 372 j) (b := F1 372 j) (hf_F2 372 j (by first | exact fs_c rfl | exact (fs_n (by omega) (fs_n (by omega) (fs_n (by omega) rfl))))) (Eq.trans (a := F1 372 j) (b := F1_ 372 j) (hf_F1 372 j (by first | exact fs_c rfl | exact (fs_n (by omega) (fs_n (by omega) (fs_n (by omega) rfl))))) (show F1_ 372 j = F 372 j from (by rw [q2_]; exact (fl_u_ne (by first | exact nc_ rfl | decide | omega))))))))] at h7_; exact h7_); (exfalso; omega)⟩) (Or.inl (by omega)) (by omega) (e80_) (Eq.trans (Eq.trans ((show F74_ 376 200 = F70_ 376 200 from (by rw [q75_]; exact (fl_u_ne (by first | exact nc_ rfl | decide | omega))))) (c66_)) (by omega)) (Eq.trans (Eq.trans ((show F74_ 377 200 = F70_ 377 200 from (by rw [q75_]; exact (fl_u_ne (by first | exact nc_ rfl | decide | omega))))) (c67_)) (by omega)) (Eq.trans (Eq.trans ((show F74_ 375 200 = F70_ 375 200 from (by rw [q75_]; exact (fl_u_ne (by first | exact nc_ rfl | decide | omega))))) (c68_)) (by rw [(hc2.2 i.toNat (by omega)).1])))
        refine ga_aload_n (v := .ref 344) hm_163 rfl rfl rfl ?_
        refine ga_iload_n (z := i) hm_163 rfl rfl ?_
        refine ga_iload_n (z := s) hm_163 rfl rfl ?_
        refine fl_sipush hm_163 rfl rfl ?_
        refine gVi (nY := 6) (F := 1) (L := 24) (As := [.int (Int32.ofInt i), .int (Int32.ofInt s), .int (Int32.ofInt 200)]) (b := 344) (rest := []) hm_163 rfl hm_167 rfl rfl (fl_ob sc_344) rfl rfl rfl rfl rfl (by omega) (by omega) (mc_167v hG F2 X hg_F2 (i) (s) (200) (V) (b) (⟨by omega, by omega⟩) (⟨by omega, by omega⟩) (⟨by omega, by omega⟩) (hc2) (by omega) (gH_kn hv2 (by omega))) (fun _ _ h => False.elim h) ?_
        rintro z83_ A1_ ⟨F86_, hA_, g87_, s88_, c84_, c85_⟩
        subst hA_
        have g89_ : fs [(344, 344, 66, 66), (374, 377, 0, 100000), (379, 380, 0, 100000)] F F86_ := fs_tr g20_ s88_ rfl
        refine fx_if_ne (a := z83_) hm_163 rfl ⟨by omega, by omega⟩ (fun h90_ => ?_) (fun h91_ => ?_)
        ·
          refine ga_aload_n (v := .ref 344) hm_163 rfl rfl rfl ?_
          refine fl_sipush hm_163 rfl rfl ?_
          refine ga_iload_n (z := i) hm_163 rfl rfl ?_
          refine ga_iload_n (z := s) hm_163 rfl rfl ?_
          have e92_ : F2 344 49 = F 344 49 := (hf_F2 344 49 rfl).trans (e11_)
          refine gVv (nY := 4) (F := 0) (L := 0) (As := [.int (Int32.ofInt 200), .int (Int32.ofInt i), .int (Int32.ofInt s)]) (b := 344) (rest := []) hm_163 rfl hm_170 rfl rfl (fl_ob sc_344) rfl rfl rfl rfl rfl (by omega) (by omega) (mc_170v hG F86_ X g87_ (200) (i) (s) (⟨by omega, by omega⟩) (⟨by omega, by omega⟩) (⟨by omega, by omega⟩) (by have h9_ := rs_di hr2 (i := i) (by omega) (by omega); rw [show F86_ 375 i.toNat = F2 375 i.toNat from (show F86_ 375 i.toNat = F2 375 i.toNat from (s88_ 375 i.toNat (by first | exact fs_c rfl | exact (fs_n (by omega) rfl))))]; omega) (by rw [show F86_ 374 i.toNat = F2 374 i.toNat from (show F86_ 374 i.toNat = F2 374 i.toNat from (s88_ 374 i.toNat (by first | exact fs_c rfl | exact (fs_n (by omega) rfl))))]; omega) (by rw [show F86_ 367 s.toNat = F 367 s.toNat from (Eq.trans (a := F86_ 367 s.toNat) (b := F2 367 s.toNat) (s88_ 367 s.toNat (by first | exact fs_c rfl | exact (fs_n (by omega) rfl))) (Eq.trans (a := F2 367 s.toNat) (b := F1 367 s.toNat) (hf_F2 367 s.toNat (by first | exact fs_c rfl | exact (fs_n (by omega) (fs_n (by omega) (fs_n (by omega) rfl))))) (Eq.trans (a := F1 367 s.toNat) (b := F1_ 367 s.toNat) (hf_F1 367 s.toNat (by first | exact fs_c rfl | exact (fs_n (by omega) (fs_n (by omega) (fs_n (by omega) rfl))))) (show F1_ 367 s.toNat = F 367 s.toNat from (by rw [q2_]; exact (fl_u_ne (by first | exact nc_ rfl | decide | omega))))))), show F86_ 357 (F 367 s.toNat).toNat = F 357 (F 367 s.toNat).toNat from (Eq.trans (a := F86_ 357 (F 367 s.toNat).toNat) (b := F2 357 (F 367 s.toNat).toNat) (s88_ 357 (F 367 s.toNat).toNat (by first | exact fs_c rfl | exact (fs_n (by omega) rfl))) (Eq.trans (a := F2 357 (F 367 s.toNat).toNat) (b := F1 357 (F 367 s.toNat).toNat) (hf_F2 357 (F 367 s.toNat).toNat (by first | exact fs_c rfl | exact (fs_n (by omega) (fs_n (by omega) (fs_n (by omega) rfl))))) (Eq.trans (a := F1 357 (F 367 s.toNat).toNat) (b := F1_ 357 (F 367 s.toNat).toNat) (hf_F1 357 (F 367 s.toNat).toNat (by first | exact fs_c rfl | exact (fs_n (by omega) (fs_n (by omega) (fs_n (by omega) rfl))))) (show F1_ 357 (F 367 s.toNat).toNat = F 357 (F 367 s.toNat).toNat from (by rw [q2_]; exact (fl_u_ne (by first | exact nc_ rfl | decide | omega)))))))]; exact hpp_)) (fun _ _ h => False.elim h) ?_
          rintro A1_ ⟨F99_, hA_, g100_, s101_, c94_, c95_, c96_, c97_, c98_⟩
          subst hA_
          have g102_ : fs [(344, 344, 66, 66), (374, 377, 0, 100000), (379, 380, 0, 100000)] F F99_ := fs_tr g89_ s101_ rfl
          refine ga_aload_n (v := .ref 344) hm_163 rfl rfl rfl ?_
          refine fl_iconst hm_163 rfl ?_
          refine ga_putz (z := 1) hm_163 rfl sc_344 rfl rfl (by omega) ?_
          refine ga_inc (a := s) (c := s + 1) (lv2 := [(3, .int (Int32.ofInt (s + 1))), (2, .int (Int32.ofInt i)), (0, .ref 344), (1, .int (Int32.ofInt c))]) hm_163 rfl rfl (Nat.le_of_ble_eq_true rfl) rfl rfl ?_
          refine fl_goto hm_163 rfl ?_
          obtain ⟨F103_, q104_⟩ : ∃ Fq_, Fq_ = (fl_u F99_ 344 66 1) := ⟨_, rfl⟩
          rw [← q104_]
          have g105_ : gi F103_ := by rw [q104_]; exact gi_u (g100_) rfl (by omega) (by omega)
          have g106_ : fs [(344, 344, 66, 66), (374, 377, 0, 100000), (379, 380, 0, 100000)] F F103_ := by rw [q104_]; exact fs_u (g102_) rfl
          have e107_ : F86_ 344 49 = F 344 49 := (s88_ 344 49 rfl).trans (e92_)
          have e108_ : F99_ 344 49 = F 344 49 := (s101_ 344 49 rfl).trans (e107_)
          have e109_ : F103_ 344 49 = F 344 49 := by rw [q104_]; exact (fl_u_ne (by first | exact nc_ rfl | decide | omega)).trans (e108_)
          have e110_ : F103_ 344 66 = 1 := by rw [q104_]; exact fl_u_eq
          have e111_ : F86_ 344 39 = F 344 39 := (s88_ 344 39 rfl).trans (e23_)
          have e112_ : F99_ 344 39 = F 344 39 := (s101_ 344 39 rfl).trans (e111_)
          have e113_ : F103_ 344 39 = F 344 39 := by rw [q104_]; exact (fl_u_ne (by first | exact nc_ rfl | decide | omega)).trans (e112_)
          exact ih18_ _ (by omega) (s + 1) F103_ rfl g105_ (by rw [q104_]; exact fs_u ((fs_tr (fs_tr hf_F2 s88_ rfl) s101_ rfl)) rfl) (⟨by omega, by omega, by omega⟩) (rs_old (rs_cg (old := F2 344 49) hr2 (Eq.trans (a := F103_ 344 49) (b := F99_ 344 49) (show F103_ 344 49 = F99_ 344 49 from (by rw [q104_]; exact (fl_u_ne (by first | exact nc_ rfl | decide | omega)))) (Eq.trans (a := F99_ 344 49) (b := F86_ 344 49) (show F99_ 344 49 = F86_ 344 49 from (s101_ 344 49 (by first | exact fs_c rfl | exact (fs_n (by omega) rfl)))) (show F86_ 344 49 = F2 344 49 from (s88_ 344 49 (by first | exact fs_c rfl | exact (fs_n (by omega) rfl)))))) (Eq.trans (a := F103_ 344 39) (b := F99_ 344 39) (show F103_ 344 39 = F99_ 344 39 from (by rw [q104_]; exact (fl_u_ne (by first | exact nc_ rfl | decide | omega)))) (Eq.trans (a := F99_ 344 39) (b := F86_ 344 39) (show F99_ 344 39 = F86_ 344 39 from (s101_ 344 39 (by first | exact fs_c rfl | exact (fs_n (by omega) rfl)))) (show F86_ 344 39 = F2 344 39 from (s88_ 344 39 (by first | exact fs_c rfl | exact (fs_n (by omega) rfl)))))) (by omega) (fun j hj => ⟨(Eq.trans (a := F103_ 375 j) (b := F99_ 375 j) (show F103_ 375 j = F99_ 375 j from (by rw [q104_]; exact (fl_u_ne (by first | exact nc_ rfl | decide | omega)))) (Eq.trans (a := F99_ 375 j) (b := F86_ 375 j) (c94_ j (by omega)).2.1 (show F86_ 375 j = F2 375 j from (s88_ 375 j (by first | exact fs_c rfl | exact (fs_n (by omega) rfl)))))), (Eq.trans (a := F103_ 376 j) (b := F99_ 376 j) (show F103_ 376 j = F99_ 376 j from (by rw [q104_]; exact (fl_u_ne (by first | exact nc_ rfl | decide | omega)))) (Eq.trans (a := F99_ 376 j) (b := F86_ 376 j) (c94_ j (by omega)).2.2.1 (show F86_ 376 j = F2 376 j from (s88_ 376 j (by first | exact fs_c rfl | exact (fs_n (by omega) rfl)))))), (Eq.trans (a := F103_ 377 j) (b := F99_ 377 j) (show F103_ 377 j = F99_ 377 j from (by rw [q104_]; exact (fl_u_ne (by first | exact nc_ rfl | decide | omega)))) (Eq.trans (a := F99_ 377 j) (b := F86_ 377 j) (c94_ j (by omega)).2.2.2 (show F86_ 377 j = F2 377 j from (s88_ 377 j (by first | exact fs_c rfl | exact (fs_n (by omega) rfl))))))⟩)) ((Eq.trans (a := F103_ 344 49) (b := F99_ 344 49) (show F103_ 344 49 = F99_ 344 49 from (by rw [q104_]; exact (fl_u_ne (by first | exact nc_ rfl | decide | omega)))) (Eq.trans (a := F99_ 344 49) (b := F86_ 344 49) (show F99_ 344 49 = F86_ 344 49 from (s101_ 344 49 (by first | exact fs_c rfl | exact (fs_n (by omega) rfl)))) (show F86_ 344 49 = F2 344 49 from (s88_ 344 49 (by first | exact fs_c rfl | exact (fs_n (by omega) rfl)))))))) (gn_k c94_ c95_ c96_ c97_ (fun j => (show F103_ 375 j = F99_ 375 j from (by rw [q104_]; exact (fl_u_ne (by first | exact nc_ rfl | decide | omega))))) (fun j => (show F103_ 376 j = F99_ 376 j from (by rw [q104_]; exact (fl_u_ne (by first | exact nc_ rfl | decide | omega))))) (fun j => (show F103_ 377 j = F99_ 377 j from (by rw [q104_]; exact (fl_u_ne (by first | exact nc_ rfl | decide | omega))))) ⟨by omega, by omega⟩ (by omega) (by omega)) (fun j hj => Eq.trans (Eq.trans (a := F103_ 374 j) (b := F99_ 374 j) (show F103_ 374 j = F99_ 374 j from (by rw [q104_]; exact (fl_u_ne (by first | exact nc_ rfl | decide | omega)))) (Eq.trans (a := F99_ 374 j) (b := F86_ 374 j) (c94_ j (by omega)).1 (show F86_ 374 j = F2 374 j from (s88_ 374 j (by first | exact fs_c rfl | exact (fs_n (by omega) rfl)))))) (ho2 j hj)) (by rw [show (s + 1).toNat = s.toNat + 1 by omega]; exact flI_y (by have h5_ := e110_; omega) ((gqs_x (F := F) (T := T) (i := i.toNat) (s := s.toNat) (c := c) (show i.toNat < T.length by omega) (show ((s.toNat : Nat) : Int) < F 344 39 by omega) (hT.2.1.1 i.toNat (by omega)).symm hce_.symm).mpr ⟨⟨by omega, by have h9_ := c49_; rw [(cb_cg (F := F) (F' := F2) (fun j => (Eq.trans (a := F2 369 j) (b := F1 369 j) (hf_F2 369 j (by first | exact fs_c rfl | exact (fs_n (by omega) (fs_n (by omega) (fs_n (by omega) rfl))))) (Eq.trans (a := F1 369 j) (b := F1_ 369 j) (hf_F1 369 j (by first | exact fs_c rfl | exact (fs_n (by omega) (fs_n (by omega) (fs_n (by omega) rfl))))) (show F1_ 369 j = F 369 j from (by rw [q2_]; exact (fl_u_ne (by first | exact nc_ rfl | decide | omega))))))) (fun j => (Eq.trans (a := F2 370 j) (b := F1 370 j) (hf_F2 370 j (by first | exact fs_c rfl | exact (fs_n (by omega) (fs_n (by omega) (fs_n (by omega) rfl))))) (Eq.trans (a := F1 370 j) (b := F1_ 370 j) (hf_F1 370 j (by first | exact fs_c rfl | exact (fs_n (by omega) (fs_n (by omega) (fs_n (by omega) rfl))))) (show F1_ 370 j = F 370 j from (by rw [q2_]; exact (fl_u_ne (by first | exact nc_ rfl | decide | omega))))))))] at h9_; exact h9_⟩, by rcases c57_ with ⟨h6_, h7_⟩ | ⟨h6_, h7_⟩; (rw [(gr_cg (F := F) (F' := F2) ((Eq.trans (a := F2 344 46) (b := F1 344 46) (hf_F2 344 46 (by first | exact fs_c rfl | exact (fs_n (by omega) (fs_n (by omega) (fs_n (by omega) rfl))))) (Eq.trans (a := F1 344 46) (b := F1_ 344 46) (hf_F1 344 46 (by first | exact fs_c rfl | exact (fs_n (by omega) (fs_n (by omega) (fs_n (by omega) rfl))))) (show F1_ 344 46 = F 344 46 from (by rw [q2_]; exact (fl_u_ne (by first | exact nc_ rfl | decide | omega))))))) ((Eq.trans (a := F2 344 47) (b := F1 344 47) (hf_F2 344 47 (by first | exact fs_c rfl | exact (fs_n (by omega) (fs_n (by omega) (fs_n (by omega) rfl))))) (Eq.trans (a := F1 344 47) (b := F1_ 344 47) (hf_F1 344 47 (by first | exact fs_c rfl | exact (fs_n (by omega) (fs_n (by omega) (fs_n (by omega) rfl))))) (show F1_ 344 47 = F 344 47 from (by rw [q2_]; exact (fl_u_ne (by first | exact nc_ rfl | decide | omega))))))) ((Eq.trans (a := F2 344 48) (b := F1 344 48) (hf_F2 344 48 (by first | exact fs_c rfl | exact (fs_n (by omega) (fs_n (by omega) (fs_n (by omega) rfl))))) (Eq.trans (a := F1 344 48) (b := F1_ 344 48) (hf_F1 344 48 (by first | exact fs_c rfl | exact (fs_n (by omega) (fs_n (by omega) (fs_n (by omega) rfl))))) (show F1_ 344 48 = F 344 48 from (by rw [q2_]; exact (fl_u_ne (by first | exact nc_ rfl | decide | omega)))))))), c53_, (dn_cg (F := F) (F' := F2) (fun j => (Eq.trans (a := F2 371 j) (b := F1 371 j) (hf_F2 371 j (by first | exact fs_c rfl | exact (fs_n (by omega) (fs_n (by omega) (fs_n (by omega) rfl))))) (Eq.trans (a := F1 371 j) (b := F1_ 371 j) (hf_F1 371 j (by first | exact fs_c rfl | exact (fs_n (by omega) (fs_n (by omega) (fs_n (by omega) rfl))))) (show F1_ 371 j = F 371 j from (by rw [q2_]; exact (fl_u_ne (by first | exact nc_ rfl | decide | omega))))))) (fun j => (Eq.trans (a := F2 372 j) (b := F1 372 j) (hf_F2 372 j (by first | exact fs_c rfl | exact (fs_n (by omega) (fs_n (by omega) (fs_n (by omega) rfl))))) (Eq.trans (a := F1 372 j) (b := F1_ 372 j) (hf_F1 372 j (by first | exact fs_c rfl | exact (fs_n (by omega) (fs_n (by omega) (fs_n (by omega) rfl))))) (show F1_ 372 j = F 372 j from (by rw [q2_]; exact (fl_u_ne (by first | exact nc_ rfl | decide | omega))))))))] at h7_; exact h7_); (exfalso; omega)⟩)) (chn_cg hc2 (fun j hj => (Eq.trans (a := F103_ 375 j) (b := F99_ 375 j) (show F103_ 375 j = F99_ 375 j from (by rw [q104_]; exact (fl_u_ne (by first | exact nc_ rfl | decide | omega)))) (Eq.trans (a := F99_ 375 j) (b := F86_ 375 j) (c94_ j (by omega)).2.1 (show F86_ 375 j = F2 375 j from (s88_ 375 j (by first | exact fs_c rfl | exact (fs_n (by omega) rfl))))))) (fun j hj => (Eq.trans (a := F103_ 376 j) (b := F99_ 376 j) (show F103_ 376 j = F99_ 376 j from (by rw [q104_]; exact (fl_u_ne (by first | exact nc_ rfl | decide | omega)))) (Eq.trans (a := F99_ 376 j) (b := F86_ 376 j) (c94_ j (by omega)).2.2.1 (show F86_ 376 j = F2 376 j from (s88_ 376 j (by first | exact fs_c rfl | exact (fs_n (by omega) rfl))))))) (fun j hj => (Eq.trans (a := F103_ 377 j) (b := F99_ 377 j) (show F103_ 377 j = F99_ 377 j from (by rw [q104_]; exact (fl_u_ne (by first | exact nc_ rfl | decide | omega)))) (Eq.trans (a := F99_ 377 j) (b := F86_ 377 j) (c94_ j (by omega)).2.2.2 (show F86_ 377 j = F2 377 j from (s88_ 377 j (by first | exact fs_c rfl | exact (fs_n (by omega) rfl)))))))) (by rw [show (s + 1).toNat = s.toNat + 1 by omega]; exact gH_y hv2 ((gqs_x (F := F) (T := T) (i := i.toNat) (s := s.toNat) (c := c) (show i.toNat < T.length by omega) (show ((s.toNat : Nat) : Int) < F 344 39 by omega) (hT.2.1.1 i.toNat (by omega)).symm hce_.symm).mpr ⟨⟨by omega, by have h9_ := c49_; rw [(cb_cg (F := F) (F' := F2) (fun j => (Eq.trans (a := F2 369 j) (b := F1 369 j) (hf_F2 369 j (by first | exact fs_c rfl | exact (fs_n (by omega) (fs_n (by omega) (fs_n (by omega) rfl))))) (Eq.trans (a := F1 369 j) (b := F1_ 369 j) (hf_F1 369 j (by first | exact fs_c rfl | exact (fs_n (by omega) (fs_n (by omega) (fs_n (by omega) rfl))))) (show F1_ 369 j = F 369 j from (by rw [q2_]; exact (fl_u_ne (by first | exact nc_ rfl | decide | omega))))))) (fun j => (Eq.trans (a := F2 370 j) (b := F1 370 j) (hf_F2 370 j (by first | exact fs_c rfl | exact (fs_n (by omega) (fs_n (by omega) (fs_n (by omega) rfl))))) (Eq.trans (a := F1 370 j) (b := F1_ 370 j) (hf_F1 370 j (by first | exact fs_c rfl | exact (fs_n (by omega) (fs_n (by omega) (fs_n (by omega) rfl))))) (show F1_ 370 j = F 370 j from (by rw [q2_]; exact (fl_u_ne (by first | exact nc_ rfl | decide | omega))))))))] at h9_; exact h9_⟩, by rcases c57_ with ⟨h6_, h7_⟩ | ⟨h6_, h7_⟩; (rw [(gr_cg (F := F) (F' := F2) ((Eq.trans (a := F2 344 46) (b := F1 344 46) (hf_F2 344 46 (by first | exact fs_c rfl | exact (fs_n (by omega) (fs_n (by omega) (fs_n (by omega) rfl))))) (Eq.trans (a := F1 344 46) (b := F1_ 344 46) (hf_F1 344 46 (by first | exact fs_c rfl | exact (fs_n (by omega) (fs_n (by omega) (fs_n (by omega) rfl))))) (show F1_ 344 46 = F 344 46 from (by rw [q2_]; exact (fl_u_ne (by first | exact nc_ rfl | decide | omega))))))) ((Eq.trans (a := F2 344 47) (b := F1 344 47) (hf_F2 344 47 (by first | exact fs_c rfl | exact (fs_n (by omega) (fs_n (by omega) (fs_n (by omega) rfl))))) (Eq.trans (a := F1 344 47) (b := F1_ 344 47) (hf_F1 344 47 (by first | exact fs_c rfl | exact (fs_n (by omega) (fs_n (by omega) (fs_n (by omega) rfl))))) (show F1_ 344 47 = F 344 47 from (by rw [q2_]; exact (fl_u_ne (by first | exact nc_ rfl | decide | omega))))))) ((Eq.trans (a := F2 344 48) (b := F1 344 48) (hf_F2 344 48 (by first | exact fs_c rfl | exact (fs_n (by omega) (fs_n (by omega) (fs_n (by omega) rfl))))) (Eq.trans (a := F1 344 48) (b := F1_ 344 48) (hf_F1 344 48 (by first | exact fs_c rfl | exact (fs_n (by omega) (fs_n (by omega) (fs_n (by omega) rfl))))) (show F1_ 344 48 = F 344 48 from (by rw [q2_]; exact (fl_u_ne (by first | exact nc_ rfl | decide | omega)))))))), c53_, (dn_cg (F := F) (F' := F2) (fun j => (Eq.trans (a := F2 371 j) (b := F1 371 j) (hf_F2 371 j (by first | exact fs_c rfl | exact (fs_n (by omega) (fs_n (by omega) (fs_n (by omega) rfl))))) (Eq.trans (a := F1 371 j) (b := F1_ 371 j) (hf_F1 371 j (by first | exact fs_c rfl | exact (fs_n (by omega) (fs_n (by omega) (fs_n (by omega) rfl))))) (show F1_ 371 j = F 371 j from (by rw [q2_]; exact (fl_u_ne (by first | exact nc_ rfl | decide | omega))))))) (fun j => (Eq.trans (a := F2 372 j) (b := F1 372 j) (hf_F2 372 j (by first | exact fs_c rfl | exact (fs_n (by omega) (fs_n (by omega) (fs_n (by omega) rfl))))) (Eq.trans (a := F1 372 j) (b := F1_ 372 j) (hf_F1 372 j (by first | exact fs_c rfl | exact (fs_n (by omega) (fs_n (by omega) (fs_n (by omega) rfl))))) (show F1_ 372 j = F 372 j from (by rw [q2_]; exact (fl_u_ne (by first | exact nc_ rfl | decide | omega))))))))] at h7_; exact h7_); (exfalso; omega)⟩) (Or.inr (by rw [show ((s.toNat : Nat) : Int) = s by omega]; exact c85_.mp (by omega))) (by omega) (e110_) (Eq.trans (Eq.trans ((show F103_ 376 200 = F99_ 376 200 from (by rw [q104_]; exact (fl_u_ne (by first | exact nc_ rfl | decide | omega))))) (c95_)) (by omega)) (Eq.trans (Eq.trans ((show F103_ 377 200 = F99_ 377 200 from (by rw [q104_]; exact (fl_u_ne (by first | exact nc_ rfl | decide | omega))))) (c96_)) (by omega)) (Eq.trans (Eq.trans ((show F103_ 375 200 = F99_ 375 200 from (by rw [q104_]; exact (fl_u_ne (by first | exact nc_ rfl | decide | omega))))) (c97_)) (by rw [show F86_ 375 i.toNat = F2 375 i.toNat from (show F86_ 375 i.toNat = F2 375 i.toNat from (s88_ 375 i.toNat (by first | exact fs_c rfl | exact (fs_n (by omega) rfl)))), (hc2.2 i.toNat (by omega)).1])))
        refine fl_goto hm_163 rfl ?_
        refine ga_inc (a := s) (c := s + 1) (lv2 := [(3, .int (Int32.ofInt (s + 1))), (2, .int (Int32.ofInt i)), (0, .ref 344), (1, .int (Int32.ofInt c))]) hm_163 rfl rfl (Nat.le_of_ble_eq_true rfl) rfl rfl ?_
        refine fl_goto hm_163 rfl ?_
        have e114_ : F2 344 49 = F 344 49 := (hf_F2 344 49 rfl).trans (e11_)
        have e115_ : F86_ 344 49 = F 344 49 := (s88_ 344 49 rfl).trans (e114_)
        have e116_ : F86_ 344 66 = F2 344 66 := (s88_ 344 66 rfl).trans (rfl)
        exact ih18_ _ (by omega) (s + 1) F86_ rfl g87_ (fs_tr hf_F2 s88_ rfl) (⟨by omega, by omega, by omega⟩) (rs_old (rs_cg (old := F2 344 49) hr2 (show F86_ 344 49 = F2 344 49 from (s88_ 344 49 (by first | exact fs_c rfl | exact (fs_n (by omega) rfl)))) (show F86_ 344 39 = F2 344 39 from (s88_ 344 39 (by first | exact fs_c rfl | exact (fs_n (by omega) rfl)))) (by omega) (fun j hj => ⟨(show F86_ 375 j = F2 375 j from (s88_ 375 j (by first | exact fs_c rfl | exact (fs_n (by omega) rfl)))), (show F86_ 376 j = F2 376 j from (s88_ 376 j (by first | exact fs_c rfl | exact (fs_n (by omega) rfl)))), (show F86_ 377 j = F2 377 j from (s88_ 377 j (by first | exact fs_c rfl | exact (fs_n (by omega) rfl))))⟩)) ((show F86_ 344 49 = F2 344 49 from (s88_ 344 49 (by first | exact fs_c rfl | exact (fs_n (by omega) rfl)))))) (gn_cg hg2 (show F86_ 344 66 = F2 344 66 from (s88_ 344 66 (by first | exact fs_c rfl | exact (fs_n (by omega) rfl)))) (show F86_ 344 49 = F2 344 49 from (s88_ 344 49 (by first | exact fs_c rfl | exact (fs_n (by omega) rfl)))) (show F86_ 344 39 = F2 344 39 from (s88_ 344 39 (by first | exact fs_c rfl | exact (fs_n (by omega) rfl)))) (fun j => (show F86_ 375 j = F2 375 j from (s88_ 375 j (by first | exact fs_c rfl | exact (fs_n (by omega) rfl))))) (fun j => (show F86_ 376 j = F2 376 j from (s88_ 376 j (by first | exact fs_c rfl | exact (fs_n (by omega) rfl))))) (fun j => (show F86_ 377 j = F2 377 j from (s88_ 377 j (by first | exact fs_c rfl | exact (fs_n (by omega) rfl)))))) (fun j hj => Eq.trans (show F86_ 374 j = F2 374 j from (s88_ 374 j (by first | exact fs_c rfl | exact (fs_n (by omega) rfl)))) (ho2 j hj)) (by rw [show (s + 1).toNat = s.toNat + 1 by omega]; exact flI_y (by have h5_ := e116_; omega) ((gqs_x (F := F) (T := T) (i := i.toNat) (s := s.toNat) (c := c) (show i.toNat < T.length by omega) (show ((s.toNat : Nat) : Int) < F 344 39 by omega) (hT.2.1.1 i.toNat (by omega)).symm hce_.symm).mpr ⟨⟨by omega, by have h9_ := c49_; rw [(cb_cg (F := F) (F' := F2) (fun j => (Eq.trans (a := F2 369 j) (b := F1 369 j) (hf_F2 369 j (by first | exact fs_c rfl | exact (fs_n (by omega) (fs_n (by omega) (fs_n (by omega) rfl))))) (Eq.trans (a := F1 369 j) (b := F1_ 369 j) (hf_F1 369 j (by first | exact fs_c rfl | exact (fs_n (by omega) (fs_n (by omega) (fs_n (by omega) rfl))))) (show F1_ 369 j = F 369 j from (by rw [q2_]; exact (fl_u_ne (by first | exact nc_ rfl | decide | omega))))))) (fun j => (Eq.trans (a := F2 370 j) (b := F1 370 j) (hf_F2 370 j (by first | exact fs_c rfl | exact (fs_n (by omega) (fs_n (by omega) (fs_n (by omega) rfl))))) (Eq.trans (a := F1 370 j) (b := F1_ 370 j) (hf_F1 370 j (by first | exact fs_c rfl | exact (fs_n (by omega) (fs_n (by omega) (fs_n (by omega) rfl))))) (show F1_ 370 j = F 370 j from (by rw [q2_]; exact (fl_u_ne (by first | exact nc_ rfl | decide | omega))))))))] at h9_; exact h9_⟩, by rcases c57_ with ⟨h6_, h7_⟩ | ⟨h6_, h7_⟩; (rw [(gr_cg (F := F) (F' := F2) ((Eq.trans (a := F2 344 46) (b := F1 344 46) (hf_F2 344 46 (by first | exact fs_c rfl | exact (fs_n (by omega) (fs_n (by omega) (fs_n (by omega) rfl))))) (Eq.trans (a := F1 344 46) (b := F1_ 344 46) (hf_F1 344 46 (by first | exact fs_c rfl | exact (fs_n (by omega) (fs_n (by omega) (fs_n (by omega) rfl))))) (show F1_ 344 46 = F 344 46 from (by rw [q2_]; exact (fl_u_ne (by first | exact nc_ rfl | decide | omega))))))) ((Eq.trans (a := F2 344 47) (b := F1 344 47) (hf_F2 344 47 (by first | exact fs_c rfl | exact (fs_n (by omega) (fs_n (by omega) (fs_n (by omega) rfl))))) (Eq.trans (a := F1 344 47) (b := F1_ 344 47) (hf_F1 344 47 (by first | exact fs_c rfl | exact (fs_n (by omega) (fs_n (by omega) (fs_n (by omega) rfl))))) (show F1_ 344 47 = F 344 47 from (by rw [q2_]; exact (fl_u_ne (by first | exact nc_ rfl | decide | omega))))))) ((Eq.trans (a := F2 344 48) (b := F1 344 48) (hf_F2 344 48 (by first | exact fs_c rfl | exact (fs_n (by omega) (fs_n (by omega) (fs_n (by omega) rfl))))) (Eq.trans (a := F1 344 48) (b := F1_ 344 48) (hf_F1 344 48 (by first | exact fs_c rfl | exact (fs_n (by omega) (fs_n (by omega) (fs_n (by omega) rfl))))) (show F1_ 344 48 = F 344 48 from (by rw [q2_]; exact (fl_u_ne (by first | exact nc_ rfl | decide | omega)))))))), c53_, (dn_cg (F := F) (F' := F2) (fun j => (Eq.trans (a := F2 371 j) (b := F1 371 j) (hf_F2 371 j (by first | exact fs_c rfl | exact (fs_n (by omega) (fs_n (by omega) (fs_n (by omega) rfl))))) (Eq.trans (a := F1 371 j) (b := F1_ 371 j) (hf_F1 371 j (by first | exact fs_c rfl | exact (fs_n (by omega) (fs_n (by omega) (fs_n (by omega) rfl))))) (show F1_ 371 j = F 371 j from (by rw [q2_]; exact (fl_u_ne (by first | exact nc_ rfl | decide | omega))))))) (fun j => (Eq.trans (a := F2 372 j) (b := F1 372 j) (hf_F2 372 j (by first | exact fs_c rfl | exact (fs_n (by omega) (fs_n (by omega) (fs_n (by omega) rfl))))) (Eq.trans (a := F1 372 j) (b := F1_ 372 j) (hf_F1 372 j (by first | exact fs_c rfl | exact (fs_n (by omega) (fs_n (by omega) (fs_n (by omega) rfl))))) (show F1_ 372 j = F 372 j from (by rw [q2_]; exact (fl_u_ne (by first | exact nc_ rfl | decide | omega))))))))] at h7_; exact h7_); (exfalso; omega)⟩)) (chn_cg hc2 (fun j hj => (show F86_ 375 j = F2 375 j from (s88_ 375 j (by first | exact fs_c rfl | exact (fs_n (by omega) rfl))))) (fun j hj => (show F86_ 376 j = F2 376 j from (s88_ 376 j (by first | exact fs_c rfl | exact (fs_n (by omega) rfl))))) (fun j hj => (show F86_ 377 j = F2 377 j from (s88_ 377 j (by first | exact fs_c rfl | exact (fs_n (by omega) rfl)))))) (by rw [show (s + 1).toNat = s.toNat + 1 by omega]; exact gH_cg (gH_no hv2 ((gqs_x (F := F) (T := T) (i := i.toNat) (s := s.toNat) (c := c) (show i.toNat < T.length by omega) (show ((s.toNat : Nat) : Int) < F 344 39 by omega) (hT.2.1.1 i.toNat (by omega)).symm hce_.symm).mpr ⟨⟨by omega, by have h9_ := c49_; rw [(cb_cg (F := F) (F' := F2) (fun j => (Eq.trans (a := F2 369 j) (b := F1 369 j) (hf_F2 369 j (by first | exact fs_c rfl | exact (fs_n (by omega) (fs_n (by omega) (fs_n (by omega) rfl))))) (Eq.trans (a := F1 369 j) (b := F1_ 369 j) (hf_F1 369 j (by first | exact fs_c rfl | exact (fs_n (by omega) (fs_n (by omega) (fs_n (by omega) rfl))))) (show F1_ 369 j = F 369 j from (by rw [q2_]; exact (fl_u_ne (by first | exact nc_ rfl | decide | omega))))))) (fun j => (Eq.trans (a := F2 370 j) (b := F1 370 j) (hf_F2 370 j (by first | exact fs_c rfl | exact (fs_n (by omega) (fs_n (by omega) (fs_n (by omega) rfl))))) (Eq.trans (a := F1 370 j) (b := F1_ 370 j) (hf_F1 370 j (by first | exact fs_c rfl | exact (fs_n (by omega) (fs_n (by omega) (fs_n (by omega) rfl))))) (show F1_ 370 j = F 370 j from (by rw [q2_]; exact (fl_u_ne (by first | exact nc_ rfl | decide | omega))))))))] at h9_; exact h9_⟩, by rcases c57_ with ⟨h6_, h7_⟩ | ⟨h6_, h7_⟩; (rw [(gr_cg (F := F) (F' := F2) ((Eq.trans (a := F2 344 46) (b := F1 344 46) (hf_F2 344 46 (by first | exact fs_c rfl | exact (fs_n (by omega) (fs_n (by omega) (fs_n (by omega) rfl))))) (Eq.trans (a := F1 344 46) (b := F1_ 344 46) (hf_F1 344 46 (by first | exact fs_c rfl | exact (fs_n (by omega) (fs_n (by omega) (fs_n (by omega) rfl))))) (show F1_ 344 46 = F 344 46 from (by rw [q2_]; exact (fl_u_ne (by first | exact nc_ rfl | decide | omega))))))) ((Eq.trans (a := F2 344 47) (b := F1 344 47) (hf_F2 344 47 (by first | exact fs_c rfl | exact (fs_n (by omega) (fs_n (by omega) (fs_n (by omega) rfl))))) (Eq.trans (a := F1 344 47) (b := F1_ 344 47) (hf_F1 344 47 (by first | exact fs_c rfl | exact (fs_n (by omega) (fs_n (by omega) (fs_n (by omega) rfl))))) (show F1_ 344 47 = F 344 47 from (by rw [q2_]; exact (fl_u_ne (by first | exact nc_ rfl | decide | omega))))))) ((Eq.trans (a := F2 344 48) (b := F1 344 48) (hf_F2 344 48 (by first | exact fs_c rfl | exact (fs_n (by omega) (fs_n (by omega) (fs_n (by omega) rfl))))) (Eq.trans (a := F1 344 48) (b := F1_ 344 48) (hf_F1 344 48 (by first | exact fs_c rfl | exact (fs_n (by omega) (fs_n (by omega) (fs_n (by omega) rfl))))) (show F1_ 344 48 = F 344 48 from (by rw [q2_]; exact (fl_u_ne (by first | exact nc_ rfl | decide | omega)))))))), c53_, (dn_cg (F := F) (F' := F2) (fun j => (Eq.trans (a := F2 371 j) (b := F1 371 j) (hf_F2 371 j (by first | exact fs_c rfl | exact (fs_n (by omega) (fs_n (by omega) (fs_n (by omega) rfl))))) (Eq.trans (a := F1 371 j) (b := F1_ 371 j) (hf_F1 371 j (by first | exact fs_c rfl | exact (fs_n (by omega) (fs_n (by omega) (fs_n (by omega) rfl))))) (show F1_ 371 j = F 371 j from (by rw [q2_]; exact (fl_u_ne (by first | exact nc_ rfl | decide | omega))))))) (fun j => (Eq.trans (a := F2 372 j) (b := F1 372 j) (hf_F2 372 j (by first | exact fs_c rfl | exact (fs_n (by omega) (fs_n (by omega) (fs_n (by omega) rfl))))) (Eq.trans (a := F1 372 j) (b := F1_ 372 j) (hf_F1 372 j (by first | exact fs_c rfl | exact (fs_n (by omega) (fs_n (by omega) (fs_n (by omega) rfl))))) (show F1_ 372 j = F 372 j from (by rw [q2_]; exact (fl_u_ne (by first | exact nc_ rfl | decide | omega))))))))] at h7_; exact h7_); (exfalso; omega)⟩) (by omega) (by rw [show ((s.toNat : Nat) : Int) = s by omega]; intro h9_; have h8_ := c85_.mpr h9_; omega)) ((show F86_ 344 66 = F2 344 66 from (s88_ 344 66 (by first | exact fs_c rfl | exact (fs_n (by omega) rfl))))) ((show F86_ 375 200 = F2 375 200 from (s88_ 375 200 (by first | exact fs_c rfl | exact (fs_n (by omega) rfl))))) ((show F86_ 376 200 = F2 376 200 from (s88_ 376 200 (by first | exact fs_c rfl | exact (fs_n (by omega) rfl))))) ((show F86_ 377 200 = F2 377 200 from (s88_ 377 200 (by first | exact fs_c rfl | exact (fs_n (by omega) rfl))))))
      refine fl_goto hm_163 rfl ?_
      refine ga_inc (a := s) (c := s + 1) (lv2 := [(3, .int (Int32.ofInt (s + 1))), (2, .int (Int32.ofInt i)), (0, .ref 344), (1, .int (Int32.ofInt c))]) hm_163 rfl rfl (Nat.le_of_ble_eq_true rfl) rfl rfl ?_
      refine fl_goto hm_163 rfl ?_
      have e117_ : F2 344 49 = F 344 49 := (hf_F2 344 49 rfl).trans (e11_)
      have b118_ : 0 ≤ F2 344 66 ∧ F2 344 66 ≤ 1 := gi_g hg_F2 rfl
      exact ih18_ _ (by omega) (s + 1) F2 rfl hg_F2 hf_F2 (⟨by omega, by omega, by omega⟩) (hr2) (hg2) (ho2) (by rw [show (s + 1).toNat = s.toNat + 1 by omega]; exact flI_n hf2 (fun h9_ => by have h8_ := ((gqs_x (F := F) (T := T) (i := i.toNat) (s := s.toNat) (c := c) (show i.toNat < T.length by omega) (show ((s.toNat : Nat) : Int) < F 344 39 by omega) (hT.2.1.1 i.toNat (by omega)).symm hce_.symm).mp h9_).2; rcases c57_ with ⟨h6_, h7_⟩ | ⟨h6_, h7_⟩; (exfalso; omega); rw [(gr_cg (F := F) (F' := F2) ((Eq.trans (a := F2 344 46) (b := F1 344 46) (hf_F2 344 46 (by first | exact fs_c rfl | exact (fs_n (by omega) (fs_n (by omega) (fs_n (by omega) rfl))))) (Eq.trans (a := F1 344 46) (b := F1_ 344 46) (hf_F1 344 46 (by first | exact fs_c rfl | exact (fs_n (by omega) (fs_n (by omega) (fs_n (by omega) rfl))))) (show F1_ 344 46 = F 344 46 from (by rw [q2_]; exact (fl_u_ne (by first | exact nc_ rfl | decide | omega))))))) ((Eq.trans (a := F2 344 47) (b := F1 344 47) (hf_F2 344 47 (by first | exact fs_c rfl | exact (fs_n (by omega) (fs_n (by omega) (fs_n (by omega) rfl))))) (Eq.trans (a := F1 344 47) (b := F1_ 344 47) (hf_F1 344 47 (by first | exact fs_c rfl | exact (fs_n (by omega) (fs_n (by omega) (fs_n (by omega) rfl))))) (show F1_ 344 47 = F 344 47 from (by rw [q2_]; exact (fl_u_ne (by first | exact nc_ rfl | decide | omega))))))) ((Eq.trans (a := F2 344 48) (b := F1 344 48) (hf_F2 344 48 (by first | exact fs_c rfl | exact (fs_n (by omega) (fs_n (by omega) (fs_n (by omega) rfl))))) (Eq.trans (a := F1 344 48) (b := F1_ 344 48) (hf_F1 344 48 (by first | exact fs_c rfl | exact (fs_n (by omega) (fs_n (by omega) (fs_n (by omega) rfl))))) (show F1_ 344 48 = F 344 48 from (by rw [q2_]; exact (fl_u_ne (by first | exact nc_ rfl | decide | omega)))))))), c53_, (dn_cg (F := F) (F' := F2) (fun j => (Eq.trans (a := F2 371 j) (b := F1 371 j) (hf_F2 371 j (by first | exact fs_c rfl | exact (fs_n (by omega) (fs_n (by omega) (fs_n (by omega) rfl))))) (Eq.trans (a := F1 371 j) (b := F1_ 371 j) (hf_F1 371 j (by first | exact fs_c rfl | exact (fs_n (by omega) (fs_n (by omega) (fs_n (by omega) rfl))))) (show F1_ 371 j = F 371 j from (by rw [q2_]; exact (fl_u_ne (by first | exact nc_ rfl | decide | omega))))))) (fun j => (Eq.trans (a := F2 372 j) (b := F1 372 j) (hf_F2 372 j (by first | exact fs_c rfl | exact (fs_n (by omega) (fs_n (by omega) (fs_n (by omega) rfl))))) (Eq.trans (a := F1 372 j) (b := F1_ 372 j) (hf_F1 372 j (by first | exact fs_c rfl | exact (fs_n (by omega) (fs_n (by omega) (fs_n (by omega) rfl))))) (show F1_ 372 j = F 372 j from (by rw [q2_]; exact (fl_u_ne (by first | exact nc_ rfl | decide | omega))))))))] at h7_; exact h7_ h8_)) (hc2) (by rw [show (s + 1).toNat = s.toNat + 1 by omega]; exact gH_n hv2 (fun h9_ => by have h8_ := ((gqs_x (F := F) (T := T) (i := i.toNat) (s := s.toNat) (c := c) (show i.toNat < T.length by omega) (show ((s.toNat : Nat) : Int) < F 344 39 by omega) (hT.2.1.1 i.toNat (by omega)).symm hce_.symm).mp h9_).2; rcases c57_ with ⟨h6_, h7_⟩ | ⟨h6_, h7_⟩; (exfalso; omega); rw [(gr_cg (F := F) (F' := F2) ((Eq.trans (a := F2 344 46) (b := F1 344 46) (hf_F2 344 46 (by first | exact fs_c rfl | exact (fs_n (by omega) (fs_n (by omega) (fs_n (by omega) rfl))))) (Eq.trans (a := F1 344 46) (b := F1_ 344 46) (hf_F1 344 46 (by first | exact fs_c rfl | exact (fs_n (by omega) (fs_n (by omega) (fs_n (by omega) rfl))))) (show F1_ 344 46 = F 344 46 from (by rw [q2_]; exact (fl_u_ne (by first | exact nc_ rfl | decide | omega))))))) ((Eq.trans (a := F2 344 47) (b := F1 344 47) (hf_F2 344 47 (by first | exact fs_c rfl | exact (fs_n (by omega) (fs_n (by omega) (fs_n (by omega) rfl))))) (Eq.trans (a := F1 344 47) (b := F1_ 344 47) (hf_F1 344 47 (by first | exact fs_c rfl | exact (fs_n (by omega) (fs_n (by omega) (fs_n (by omega) rfl))))) (show F1_ 344 47 = F 344 47 from (by rw [q2_]; exact (fl_u_ne (by first | exact nc_ rfl | decide | omega))))))) ((Eq.trans (a := F2 344 48) (b := F1 344 48) (hf_F2 344 48 (by first | exact fs_c rfl | exact (fs_n (by omega) (fs_n (by omega) (fs_n (by omega) rfl))))) (Eq.trans (a := F1 344 48) (b := F1_ 344 48) (hf_F1 344 48 (by first | exact fs_c rfl | exact (fs_n (by omega) (fs_n (by omega) (fs_n (by omega) rfl))))) (show F1_ 344 48 = F 344 48 from (by rw [q2_]; exact (fl_u_ne (by first | exact nc_ rfl | decide | omega)))))))), c53_, (dn_cg (F := F) (F' := F2) (fun j => (Eq.trans (a := F2 371 j) (b := F1 371 j) (hf_F2 371 j (by first | exact fs_c rfl | exact (fs_n (by omega) (fs_n (by omega) (fs_n (by omega) rfl))))) (Eq.trans (a := F1 371 j) (b := F1_ 371 j) (hf_F1 371 j (by first | exact fs_c rfl | exact (fs_n (by omega) (fs_n (by omega) (fs_n (by omega) rfl))))) (show F1_ 371 j = F 371 j from (by rw [q2_]; exact (fl_u_ne (by first | exact nc_ rfl | decide | omega))))))) (fun j => (Eq.trans (a := F2 372 j) (b := F1 372 j) (hf_F2 372 j (by first | exact fs_c rfl | exact (fs_n (by omega) (fs_n (by omega) (fs_n (by omega) rfl))))) (Eq.trans (a := F1 372 j) (b := F1_ 372 j) (hf_F1 372 j (by first | exact fs_c rfl | exact (fs_n (by omega) (fs_n (by omega) (fs_n (by omega) rfl))))) (show F1_ 372 j = F 372 j from (by rw [q2_]; exact (fl_u_ne (by first | exact nc_ rfl | decide | omega))))))))] at h7_; exact h7_ h8_) (show i.toNat < T.length by omega) (show s.toNat < (pR F).1 by rw [pR_n]; omega))
    have b119_ : 0 ≤ F 344 39 ∧ F 344 39 ≤ 40 := gi_g hgi rfl
    have b120_ : 0 ≤ F1 344 66 ∧ F1 344 66 ≤ 1 := gi_g hg_F1 rfl
    exact L17_ _ (0) F1 rfl hg_F1 fs_refl (⟨by omega, by omega, by omega⟩) (hr1) (hg1) (ho1) (hf1) (hc1) (hv1)
  have b121_ : 0 ≤ F 344 49 ∧ F 344 49 ≤ 200 := gi_g hgi rfl
  have e122_ : F1_ 344 49 = F 344 49 := by rw [q2_]; exact fl_u_ne (by first | exact nc_ rfl | decide | omega)
  have e123_ : F1_ 344 66 = 0 := by rw [q2_]; exact fl_u_eq
  exact L6_ _ (0) F1_ rfl g3_ fs_refl (⟨by omega, by omega, by omega⟩) (rs_old (rs_cg (old := F 344 49) hr (show F1_ 344 49 = F 344 49 from (by rw [q2_]; exact (fl_u_ne (by first | exact nc_ rfl | decide | omega)))) (show F1_ 344 39 = F 344 39 from (by rw [q2_]; exact (fl_u_ne (by first | exact nc_ rfl | decide | omega)))) (by omega) (fun j hj => ⟨(show F1_ 375 j = F 375 j from (by rw [q2_]; exact (fl_u_ne (by first | exact nc_ rfl | decide | omega)))), (show F1_ 376 j = F 376 j from (by rw [q2_]; exact (fl_u_ne (by first | exact nc_ rfl | decide | omega)))), (show F1_ 377 j = F 377 j from (by rw [q2_]; exact (fl_u_ne (by first | exact nc_ rfl | decide | omega))))⟩)) ((show F1_ 344 49 = F 344 49 from (by rw [q2_]; exact (fl_u_ne (by first | exact nc_ rfl | decide | omega)))))) (fun h9_ => absurd h9_ (by omega)) (fun j _ => (show F1_ 374 j = F 374 j from (by rw [q2_]; exact (fl_u_ne (by first | exact nc_ rfl | decide | omega))))) (flI_0 (e123_)) (chn_cg hcv (fun j hj => (show F1_ 375 j = F 375 j from (by rw [q2_]; exact (fl_u_ne (by first | exact nc_ rfl | decide | omega))))) (fun j hj => (show F1_ 376 j = F 376 j from (by rw [q2_]; exact (fl_u_ne (by first | exact nc_ rfl | decide | omega))))) (fun j hj => (show F1_ 377 j = F 377 j from (by rw [q2_]; exact (fl_u_ne (by first | exact nc_ rfl | decide | omega)))))) (Or.inl ⟨e123_, rfl⟩)

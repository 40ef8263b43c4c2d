/- CheapPlannerModel.walk -/
abbrev pq_194y (G : Nat → Nat → Option Nat) (F : fl_N) (X : xi_H) (p n : Nat) (w lo_ hi_ : Int) (V : List wy_T) (b : Int) (W : wy_T) : Outcome → xi_H → Prop := gqv (fun A => ∃ F' : fl_N, fl_H sh_T G F' ++ X = A ∧ gi F' ∧ fs [(p, p, 0, 100000)] F F' ∧ (wkc F w → ∀ j : Nat, (j : Int) < F 375 w.toNat → F' p j < F 344 39) ∧ (∀ j : Nat, j < W.length → F' p j = W.getD j 0)) gqn
theorem mc_194y {G : Nat → Nat → Option Nat} (hG : gg G) (F : fl_N) (X : xi_H) (hgi : gi F) (p n : Nat) (w lo_ hi_ : Int) (V : List wy_T) (b : Int) (W : wy_T) (h_p : sh_T[p]? = some (0, 0, [n])) (h_g : ∀ k, gb p k = (lo_, hi_)) (h_b : lo_ = 0 ∧ hi_ = 39) (h_n : n = 201) (h_r : 379 ≤ p ∧ p ≤ 381) (hw : 0 ≤ w ∧ w ≤ 200) (hch : chn (F 375) (F 376) (F 377) V b) (hwr : wyR F V w.toNat W) (hwl : F 375 w.toNat = (W.length : Int)) : fl_M xi_ms 194 0 0 [.ref 344, .int (Int32.ofInt w), .ref p] (fl_H sh_T G F ++ X) (pq_194y G F X p n w lo_ hi_ V b W) := by
  intro fr lo hfr hlo
  show fl_R xi_ms 194 fr lo 0 [(0, .ref 344), (1, .int (Int32.ofInt w)), (2, .ref p)] [] _ _
  refine ga_iload_n (z := w) hm_194 rfl rfl ?_
  refine ga_istore_n (lv2 := [(3, .int (Int32.ofInt w)), (0, .ref 344), (1, .int (Int32.ofInt w)), (2, .ref p)]) hm_194 rfl (Nat.le_of_ble_eq_true rfl) rfl ?_
  refine ga_aload_n (v := .ref 344) hm_194 rfl rfl rfl ?_
  refine ga_getr (b := 375) hm_194 rfl sc_344 rfl ?_
  refine ga_iload_n (z := w) hm_194 rfl rfl ?_
  have b1_ : 0 ≤ F 375 w.toNat ∧ F 375 w.toNat ≤ 201 := gi_g hgi rfl
  refine ga_iald (z := w) (w := F 375 w.toNat) hm_194 rfl sc_375 (by omega) (by omega) (by omega) (rfl) ?_
  refine fl_iconst hm_194 rfl ?_
  refine ga_isub (a := F 375 w.toNat) (b := 1) (c := F 375 w.toNat - 1) hm_194 rfl (by omega) ?_
  refine ga_istore (lv2 := [(4, .int (Int32.ofInt (F 375 w.toNat - 1))), (3, .int (Int32.ofInt w)), (0, .ref 344), (1, .int (Int32.ofInt w)), (2, .ref p)]) hm_194 rfl (Nat.le_of_ble_eq_true rfl) rfl ?_
  have b5_ : 0 ≤ F 344 39 ∧ F 344 39 ≤ 40 := gi_g hgi rfl
  have L3_ : ∀ (n2_ : Nat) (k : Int) (d : Int) (F1 : fl_N), (d + 1 : Int).toNat = n2_ → (gi F1) → (fs [(p, p, 0, 100000)] F F1) → (0 ≤ k ∧ k ≤ 200) → (-1 ≤ d ∧ d ≤ 200) → (wkc F w → (wkc F k ∧ F 375 k.toNat = d + 1) ∧ ∀ j : Nat, d < (j : Int) → (j : Int) < F 375 w.toNat → F1 p j < F 344 39) → (wkS F (F1 p) V W k d) → fl_R xi_ms 194 fr lo 12 [(4, .int (Int32.ofInt d)), (3, .int (Int32.ofInt k)), (0, .ref 344), (1, .int (Int32.ofInt w)), (2, .ref p)] [] (fl_H sh_T G F1 ++ X) (pq_194y G F X p n w lo_ hi_ V b W) := by
    intro n2_
    induction n2_ using Nat.strongRecOn with
    | ind n2_ ih4_ =>
    intro k d F1 hn6_ hg_F1 hf_F1 hk hd hq hwk
    have g7_ : fs [(p, p, 0, 100000)] F F1 := fs_tr fs_refl hf_F1 (by simp [fs_le]; try omega)
    refine ga_iload (z := d) hm_194 rfl rfl ?_
    refine fl_if_lt (a := d) hm_194 rfl ⟨by omega, by omega⟩ (fun h8_ => ?_) (fun h9_ => ?_)
    ·
      refine gr_v hm_194 rfl rfl ?_
      exact ⟨F1, rfl, hg_F1, g7_, (fun h9_ j hj => (hq h9_).2 j (by omega) hj), (wk_e hwk (by omega))⟩
    refine ga_aload_n (v := .ref p) hm_194 rfl rfl rfl ?_
    refine ga_iload (z := d) hm_194 rfl rfl ?_
    refine ga_aload_n (v := .ref 344) hm_194 rfl rfl rfl ?_
    refine ga_getr (b := 377) hm_194 rfl sc_344 rfl ?_
    refine ga_iload_n (z := k) hm_194 rfl rfl ?_
    have e10_ : F1 377 k.toNat = F 377 k.toNat := (hf_F1 377 k.toNat (by first | exact fs_c rfl | exact (fs_n (by omega) rfl))).trans (rfl)
    have b11_ : 0 ≤ F 377 k.toNat ∧ F 377 k.toNat ≤ 39 := gi_g hgi rfl
    refine ga_iald (z := k) (w := F 377 k.toNat) hm_194 rfl sc_377 (by omega) (by omega) (by omega) (e10_) ?_
    refine fl_iast (z := d) (v := F 377 k.toNat) hm_194 rfl h_p (by omega) (by omega) (by omega) ?_
    refine ga_aload_n (v := .ref 344) hm_194 rfl rfl rfl ?_
    refine ga_getr (b := 376) hm_194 rfl sc_344 rfl ?_
    refine ga_iload_n (z := k) hm_194 rfl rfl ?_
    have e12_ : F1 376 k.toNat = F 376 k.toNat := (hf_F1 376 k.toNat (by first | exact fs_c rfl | exact (fs_n (by omega) rfl))).trans (rfl)
    have b13_ : 0 ≤ F 376 k.toNat ∧ F 376 k.toNat ≤ 200 := gi_g hgi rfl
    refine ga_iald (z := k) (w := F 376 k.toNat) hm_194 rfl sc_376 (by omega) (by omega) (by omega) ((fl_u_ne (by first | exact nc_ rfl | decide | omega)).trans (e12_)) ?_
    refine ga_istore_n (lv2 := [(3, .int (Int32.ofInt (F 376 k.toNat))), (4, .int (Int32.ofInt d)), (0, .ref 344), (1, .int (Int32.ofInt w)), (2, .ref p)]) hm_194 rfl (Nat.le_of_ble_eq_true rfl) rfl ?_
    refine ga_inc (a := d) (c := d - 1) (lv2 := [(4, .int (Int32.ofInt (d - 1))), (3, .int (Int32.ofInt (F 376 k.toNat))), (0, .ref 344), (1, .int (Int32.ofInt w)), (2, .ref p)]) hm_194 rfl rfl (Nat.le_of_ble_eq_true rfl) (by omega) rfl ?_
    refine fl_goto hm_194 rfl ?_
    obtain ⟨F14_, q15_⟩ : ∃ Fq_, Fq_ = (fl_u F1 p d.toNat (F 377 k.toNat)) := ⟨_, rfl⟩
    rw [← q15_]
    have g16_ : gi F14_ := by rw [q15_]; exact gi_u (hg_F1) (h_g _) (by omega) (by omega)
    have g17_ : fs [(p, p, 0, 100000)] F F14_ := by rw [q15_]; exact fs_u (g7_) (fs_y (by omega))
    exact ih4_ _ (by omega) (F 376 k.toNat) (d - 1) F14_ rfl g16_ (by rw [q15_]; exact fs_u (hf_F1) (fs_y (by omega))) (⟨by omega, by omega⟩) (⟨by omega, by omega⟩) (by rw [q15_]; exact wk_b hq (by omega)) (by rw [q15_]; exact wk_s hch hwk (by omega) (fun j hj => fl_u_ne (by first | exact nc_ rfl | decide | omega)) fl_u_eq)
  exact L3_ _ (w) (F 375 w.toNat - 1) F rfl hgi fs_refl (⟨by omega, by omega⟩) (⟨by omega, by omega⟩) (fun h9_ => ⟨⟨h9_, by omega⟩, fun j h1_ h2_ => absurd h2_ (by omega)⟩) (wk_0 hwr (by omega))

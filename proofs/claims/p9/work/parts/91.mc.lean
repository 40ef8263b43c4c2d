/- CheapPlanner$Search.traceSteps -/
abbrev pq_143y (G : Nat → Nat → Option Nat) (F : fl_N) (X : xi_H) (V : List wy_T) (b : Int) (W : wy_T) : Outcome → xi_H → Prop := gqv (fun A => ∃ F' : fl_N, fl_H sh_T G F' ++ X = A ∧ gi F' ∧ fs [(339, 339, 0, 100000)] F F' ∧ (∀ j : Nat, j < W.length → F' 339 j = W.getD j 0)) gqn
theorem mc_143y {G : Nat → Nat → Option Nat} (hG : gg G) (F : fl_N) (X : xi_H) (hgi : gi F) (V : List wy_T) (b : Int) (W : wy_T) (hl : 0 ≤ F 335 200 ∧ F 335 200 ≤ 200) (hch : chn (F 335) (F 336) (F 337) V b) (hwr : wyC F V 200 W) (hwl : F 335 200 = (W.length : Int)) : fl_M xi_ms 143 0 0 [.ref 331] (fl_H sh_T G F ++ X) (pq_143y G F X V b W) := by
  intro fr lo hfr hlo
  show fl_R xi_ms 143 fr lo 0 [(0, .ref 331)] [] _ _
  refine fl_sipush hm_143 rfl rfl ?_
  refine ga_istore_n (lv2 := [(1, .int (Int32.ofInt 200)), (0, .ref 331)]) hm_143 rfl (Nat.le_of_ble_eq_true rfl) rfl ?_
  refine ga_aload_n (v := .ref 331) hm_143 rfl rfl rfl ?_
  refine ga_getr (b := 335) hm_143 rfl sc_331 rfl ?_
  refine fl_sipush hm_143 rfl rfl ?_
  have b1_ : -2147483648 ≤ F 335 200 ∧ F 335 200 ≤ 2147483647 := gi_g hgi rfl
  refine ga_iald (z := 200) (w := F 335 200) hm_143 rfl sc_335 (by omega) (by omega) (by omega) (rfl) ?_
  refine fl_iconst hm_143 rfl ?_
  refine ga_isub (a := F 335 200) (b := 1) (c := F 335 200 - 1) hm_143 rfl (by omega) ?_
  refine ga_istore_n (lv2 := [(2, .int (Int32.ofInt (F 335 200 - 1))), (1, .int (Int32.ofInt 200)), (0, .ref 331)]) hm_143 rfl (Nat.le_of_ble_eq_true rfl) rfl ?_
  have L3_ : ∀ (n2_ : Nat) (k : Int) (w : Int) (F1 : fl_N), (k + 1 : Int).toNat = n2_ → (gi F1) → (fs [(339, 339, 0, 100000)] F F1) → (-1 ≤ k ∧ k ≤ 199) → (0 ≤ w ∧ w ≤ 200) → (wkC F (F1 339) V W w k) → fl_R xi_ms 143 fr lo 15 [(2, .int (Int32.ofInt k)), (1, .int (Int32.ofInt w)), (0, .ref 331)] [] (fl_H sh_T G F1 ++ X) (pq_143y G F X V b W) := by
    intro n2_
    induction n2_ using Nat.strongRecOn with
    | ind n2_ ih4_ =>
    intro k w F1 hn5_ hg_F1 hf_F1 hk hw hwk
    have g6_ : fs [(339, 339, 0, 100000)] F F1 := fs_tr fs_refl hf_F1 rfl
    refine ga_iload_n (z := k) hm_143 rfl rfl ?_
    refine fl_if_lt (a := k) hm_143 rfl ⟨by omega, by omega⟩ (fun h7_ => ?_) (fun h8_ => ?_)
    ·
      refine gr_v hm_143 rfl rfl ?_
      exact ⟨F1, rfl, hg_F1, g6_, (wc_e hwk (by omega))⟩
    refine ga_aload_n (v := .ref 331) hm_143 rfl rfl rfl ?_
    refine ga_getr (b := 339) hm_143 rfl sc_331 rfl ?_
    refine ga_iload_n (z := k) hm_143 rfl rfl ?_
    refine ga_aload_n (v := .ref 331) hm_143 rfl rfl rfl ?_
    refine ga_getr (b := 337) hm_143 rfl sc_331 rfl ?_
    refine ga_iload_n (z := w) hm_143 rfl rfl ?_
    have e9_ : F1 337 w.toNat = F 337 w.toNat := (hf_F1 337 w.toNat (by first | exact fs_c rfl | exact (fs_n (by omega) rfl))).trans (rfl)
    have b10_ : 0 ≤ F 337 w.toNat ∧ F 337 w.toNat ≤ 40 := gi_g hgi rfl
    refine ga_iald (z := w) (w := F 337 w.toNat) hm_143 rfl sc_337 (by omega) (by omega) (by omega) (e9_) ?_
    refine fl_iast (z := k) (v := F 337 w.toNat) hm_143 rfl sc_339 (by omega) (by omega) (by omega) ?_
    refine ga_aload_n (v := .ref 331) hm_143 rfl rfl rfl ?_
    refine ga_getr (b := 336) hm_143 rfl sc_331 rfl ?_
    refine ga_iload_n (z := w) hm_143 rfl rfl ?_
    have e11_ : F1 336 w.toNat = F 336 w.toNat := (hf_F1 336 w.toNat (by first | exact fs_c rfl | exact (fs_n (by omega) rfl))).trans (rfl)
    have b12_ : 0 ≤ F 336 w.toNat ∧ F 336 w.toNat ≤ 199 := gi_g hgi rfl
    refine ga_iald (z := w) (w := F 336 w.toNat) hm_143 rfl sc_336 (by omega) (by omega) (by omega) ((fl_u_ne (by first | exact nc_ rfl | decide | omega)).trans (e11_)) ?_
    refine ga_istore_n (lv2 := [(1, .int (Int32.ofInt (F 336 w.toNat))), (2, .int (Int32.ofInt k)), (0, .ref 331)]) hm_143 rfl (Nat.le_of_ble_eq_true rfl) rfl ?_
    refine ga_inc (a := k) (c := k - 1) (lv2 := [(2, .int (Int32.ofInt (k - 1))), (1, .int (Int32.ofInt (F 336 w.toNat))), (0, .ref 331)]) hm_143 rfl rfl (Nat.le_of_ble_eq_true rfl) (by omega) rfl ?_
    refine fl_goto hm_143 rfl ?_
    obtain ⟨F13_, q14_⟩ : ∃ Fq_, Fq_ = (fl_u F1 339 k.toNat (F 337 w.toNat)) := ⟨_, rfl⟩
    rw [← q14_]
    have g15_ : gi F13_ := by rw [q14_]; exact gi_u (hg_F1) rfl (by omega) (by omega)
    have g16_ : fs [(339, 339, 0, 100000)] F F13_ := by rw [q14_]; exact fs_u (g6_) (fs_y (by omega))
    exact ih4_ _ (by omega) (k - 1) (F 336 w.toNat) F13_ rfl g15_ (by rw [q14_]; exact fs_u (hf_F1) (fs_y (by omega))) (⟨by omega, by omega⟩) (⟨by omega, by omega⟩) (by rw [q14_]; exact wc_s hch hwk (by omega) (fun j hj => fl_u_ne (by first | exact nc_ rfl | decide | omega)) fl_u_eq)
  exact L3_ _ (F 335 200 - 1) (200) F rfl hgi fs_refl (⟨by omega, by omega⟩) (⟨by omega, by omega⟩) (wc_0 hwr (by omega))

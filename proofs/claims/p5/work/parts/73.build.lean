/-! the ground: all of it -/
theorem nm_ap {j : Nat} (hj : j < 5) : nm (39 + 13 * j) 3 := by
  match j, hj with
  | 0, _ => exact nm_39
  | 1, _ => exact nm_52
  | 2, _ => exact nm_65
  | 3, _ => exact nm_78
  | 4, _ => exact nm_91
  | n + 5, h => exact absurd h (by omega)
def c68 (F : fl_N) : Prop := cw F 108 6
def c63 (F : fl_N) : Prop := cw F 113 6

/- CheapPlanner$Ground.makeStepsOf -/
abbrev pq_104 (G : Nat → Nat → Option Nat) (F : fl_N) (X : xi_H) (p n : Nat) (ac : Int) : Outcome → xi_H → Prop := gqi (fun z A => ∃ F' : fl_N, fl_H sh_T G F' ++ X = A ∧ gi F' ∧ fs [(120, 120, 3, 3), (126, 330, 0, 100000)] F F' ∧ (0 ≤ z ∧ z ≤ 1) ∧ (z = 1 → F' 120 3 ≤ 40)) gqn
theorem mc_104 {G : Nat → Nat → Option Nat} (hG : gg G) (F : fl_N) (X : xi_H) (hgi : gi F) (p n : Nat) (ac : Int) (h_p : nm p 3) (hpp : p = 39 + 13 * ac.toNat) (hac : 0 ≤ ac ∧ ac ≤ 4) (hdi : di F n) (hn : ac.toNat < n ∧ n ≤ 5) (h40 : F 120 3 ≤ 40) : fl_M xi_ms 104 4 94 [.ref 120, .int (Int32.ofInt ac), .ref 7, .ref 105] (fl_H sh_T G F ++ X) (pq_104 G F X p n ac) := by
  intro fr lo hfr hlo
  show fl_R xi_ms 104 fr lo 0 [(0, .ref 120), (1, .int (Int32.ofInt ac)), (2, .ref 7), (3, .ref 105)] [] _ _
  have hr_p := h_p.2.2
  refine ga_aload_n (v := .ref 7) hm_104 rfl rfl rfl ?_
  refine ga_getr (b := 18) hm_104 rfl sc_7 rfl ?_
  refine ga_iload_n (z := ac) hm_104 rfl rfl ?_
  obtain ⟨a1_, r2_, n3_, q4_⟩ := ra_18 (ac).toNat (by omega)
  refine fl_aald (z := ac) (q := a1_) hm_104 rfl sc_18 (hG _ _ _ sc_18) rfl (by omega) (by simp only [List.length_cons, List.length_nil]; omega) (by simp only [List.length_cons, List.length_nil]; omega) r2_ ?_
  have x5_ : p = a1_ := by omega
  subst x5_
  refine ga_astore (lv2 := [(4, .ref p), (0, .ref 120), (1, .int (Int32.ofInt ac)), (2, .ref 7), (3, .ref 105)]) hm_104 rfl (Nat.le_of_ble_eq_true rfl) rfl ?_
  refine fl_iconst hm_104 rfl ?_
  refine ga_istore (lv2 := [(5, .int (Int32.ofInt 1)), (4, .ref p), (0, .ref 120), (1, .int (Int32.ofInt ac)), (2, .ref 7), (3, .ref 105)]) hm_104 rfl (Nat.le_of_ble_eq_true rfl) rfl ?_
  refine fl_iconst hm_104 rfl ?_
  refine ga_istore (lv2 := [(6, .int (Int32.ofInt 0)), (5, .int (Int32.ofInt 1)), (4, .ref p), (0, .ref 120), (1, .int (Int32.ofInt ac)), (2, .ref 7), (3, .ref 105)]) hm_104 rfl (Nat.le_of_ble_eq_true rfl) rfl ?_
  have L7_ : ∀ (n6_ : Nat) (k : Int) (wy : Int), (F p 2 - k : Int).toNat = n6_ → (0 ≤ k ∧ k ≤ 3) → (-2147483648 ≤ wy ∧ wy ≤ 2147483647) → fl_R xi_ms 104 fr lo 14 [(6, .int (Int32.ofInt k)), (5, .int (Int32.ofInt wy)), (4, .ref p), (0, .ref 120), (1, .int (Int32.ofInt ac)), (2, .ref 7), (3, .ref 105)] [] (fl_H sh_T G F ++ X) (pq_104 G F X p n ac) := by
    intro n6_
    induction n6_ using Nat.strongRecOn with
    | ind n6_ ih8_ =>
    intro k wy hn9_ hk hwy
    refine ga_iload (z := k) hm_104 rfl rfl ?_
    refine ga_aload (v := .ref p) hm_104 rfl rfl rfl ?_
    have b10_ : 0 ≤ F p 2 ∧ F p 2 ≤ (3 : Int) := gi_g hgi h_p.2.1.1
    refine ga_geti (z := F p 2) hm_104 rfl h_p.1.1 rfl (rfl) ?_
    refine fl_icmp_ge (a := k) (b := F p 2) hm_104 rfl ⟨by omega, by omega⟩ ⟨by omega, by omega⟩ (fun h11_ => ?_) (fun h12_ => ?_)
    ·
      refine fl_iconst hm_104 rfl ?_
      refine ga_istore (lv2 := [(6, .int (Int32.ofInt 0)), (5, .int (Int32.ofInt wy)), (4, .ref p), (0, .ref 120), (1, .int (Int32.ofInt ac)), (2, .ref 7), (3, .ref 105)]) hm_104 rfl (Nat.le_of_ble_eq_true rfl) rfl ?_
      have L14_ : ∀ (n13_ : Nat) (w2 : Int) (F1 : fl_N), (wy - w2 : Int).toNat = n13_ → (gi F1) → (fs [(120, 120, 3, 3), (126, 330, 0, 100000)] F F1) → (0 ≤ w2 ∧ w2 ≤ 2147483647) → (F1 120 3 ≤ 40) → fl_R xi_ms 104 fr lo 42 [(6, .int (Int32.ofInt w2)), (5, .int (Int32.ofInt wy)), (4, .ref p), (0, .ref 120), (1, .int (Int32.ofInt ac)), (2, .ref 7), (3, .ref 105)] [] (fl_H sh_T G F1 ++ X) (pq_104 G F X p n ac) := by
        intro n13_
        induction n13_ using Nat.strongRecOn with
        | ind n13_ ih15_ =>
        intro w2 F1 hn16_ hg_F1 hf_F1 hw2 h41
        have g17_ : fs [(120, 120, 3, 3), (126, 330, 0, 100000)] F F1 := fs_tr fs_refl hf_F1 rfl
        refine ga_iload (z := w2) hm_104 rfl rfl ?_
        refine ga_iload (z := wy) hm_104 rfl rfl ?_
        refine fl_icmp_ge (a := w2) (b := wy) hm_104 rfl ⟨by omega, by omega⟩ ⟨by omega, by omega⟩ (fun h18_ => ?_) (fun h19_ => ?_)
        ·
          refine fl_iconst hm_104 rfl ?_
          refine gr_i (z := 1) hm_104 rfl rfl (ga_nb (by omega)) ?_
          have b20_ : 0 ≤ F1 120 3 ∧ F1 120 3 ≤ 41 := gi_g hg_F1 rfl
          exact ⟨F1, rfl, hg_F1, g17_, (⟨by omega, by omega⟩), (by omega)⟩
        refine ga_aload_n (v := .ref 120) hm_104 rfl rfl rfl ?_
        refine ga_getr (b := 122) hm_104 rfl sc_120 rfl ?_
        refine ga_aload_n (v := .ref 120) hm_104 rfl rfl rfl ?_
        have b21_ : 0 ≤ F1 120 3 ∧ F1 120 3 ≤ 41 := gi_g hg_F1 rfl
        refine ga_geti (z := F1 120 3) hm_104 rfl sc_120 rfl (rfl) ?_
        obtain ⟨a22_, r23_, n24_, q25_⟩ := ra_122 (F1 120 3).toNat (by omega)
        refine fl_aald (z := F1 120 3) (q := a22_) hm_104 rfl sc_122 (hG _ _ _ sc_122) rfl (by omega) (by simp only [List.length_cons, List.length_nil]; omega) (by simp only [List.length_cons, List.length_nil]; omega) r23_ ?_
        refine ga_astore (lv2 := [(7, .ref a22_), (6, .int (Int32.ofInt w2)), (5, .int (Int32.ofInt wy)), (4, .ref p), (0, .ref 120), (1, .int (Int32.ofInt ac)), (2, .ref 7), (3, .ref 105)]) hm_104 rfl (Nat.le_of_ble_eq_true rfl) rfl ?_
        refine ga_aload (v := .ref a22_) hm_104 rfl rfl rfl ?_
        refine ga_iload_n (z := ac) hm_104 rfl rfl ?_
        refine ga_iload (z := w2) hm_104 rfl rfl ?_
        refine ga_aload (v := .ref p) hm_104 rfl rfl rfl ?_
        have e26_ : F1 p 2 = F p 2 := (hf_F1 p 2 (by first | exact fs_c rfl | exact (fs_n (by omega) (fs_n (by omega) rfl)))).trans (rfl)
        refine ga_geti (z := F p 2) hm_104 rfl h_p.1.1 rfl (e26_) ?_
        refine ga_aload_n (v := .ref 105) hm_104 rfl rfl rfl ?_
        have e27_ : F1 105 2 = F 105 2 := (hf_F1 105 2 rfl).trans (rfl)
        have b28_ : 0 ≤ F 105 2 ∧ F 105 2 ≤ 6 := gi_g hgi rfl
        refine ga_geti (z := F 105 2) hm_104 rfl sc_105 rfl (e27_) ?_
        refine gVv (nY := 8) (F := 1) (L := 23) (As := [.int (Int32.ofInt ac), .int (Int32.ofInt w2), .int (Int32.ofInt (F p 2)), .int (Int32.ofInt (F 105 2))]) (b := a22_) (rest := []) hm_104 rfl hm_145 rfl rfl (fl_ob n24_.1.1) rfl rfl rfl rfl rfl (by omega) (by omega) (mc_145 hG F1 X hg_F1 (a22_) (ac) (w2) (F p 2) (F 105 2) n24_ (⟨by omega, by omega⟩) (⟨by omega, by omega⟩) (⟨by omega, by omega⟩) (⟨by omega, by omega⟩)) (fun _ _ h => False.elim h) ?_
        rintro A1_ ⟨F32_, hA_, g33_, s34_, c30_, c31_⟩
        subst hA_
        have g35_ : fs [(120, 120, 3, 3), (126, 330, 0, 100000)] F F32_ := fs_tr g17_ s34_ (by simp [fs_le]; try omega)
        refine ga_aload (v := .ref a22_) hm_104 rfl rfl rfl ?_
        refine ga_aload (v := .ref p) hm_104 rfl rfl rfl ?_
        refine ga_aload_n (v := .ref 105) hm_104 rfl rfl rfl ?_
        have e36_ : F32_ p 2 = F p 2 := (s34_ p 2 (by first | exact fs_c rfl | exact (fs_n (by omega) (fs_n (by omega) rfl)))).trans (e26_)
        refine gVi (nY := 4) (F := 1) (L := 22) (As := [.ref p, .ref 105]) (b := a22_) (rest := []) hm_104 rfl hm_146 rfl rfl (fl_ob n24_.1.1) rfl rfl rfl rfl rfl (by omega) (by omega) (mc_146 hG F32_ X g33_ (a22_) (p) n24_ h_p (fun j hj => c31_ j (by omega))) (fun _ _ h => False.elim h) ?_
        rintro z37_ A1_ ⟨hA_, c38_⟩
        subst hA_
        refine fl_if_eq (a := z37_) hm_104 rfl ⟨by omega, by omega⟩ (fun h39_ => ?_) (fun h40_ => ?_)
        ·
          refine ga_aload_n (v := .ref 120) hm_104 rfl rfl rfl ?_
          have e41_ : F32_ 120 3 = F1 120 3 := (s34_ 120 3 (by first | exact fs_c rfl | exact (fs_n (by omega) (fs_n (by omega) rfl)))).trans (rfl)
          refine ga_geti (z := F1 120 3) hm_104 rfl sc_120 rfl (e41_) ?_
          refine fl_bipush hm_104 rfl rfl ?_
          refine fl_icmp_le (a := F1 120 3) (b := 40) hm_104 rfl ⟨by omega, by omega⟩ ⟨by omega, by omega⟩ (fun h42_ => ?_) (fun h43_ => ?_)
          ·
            refine ga_inc (a := w2) (c := w2 + 1) (lv2 := [(6, .int (Int32.ofInt (w2 + 1))), (7, .ref a22_), (5, .int (Int32.ofInt wy)), (4, .ref p), (0, .ref 120), (1, .int (Int32.ofInt ac)), (2, .ref 7), (3, .ref 105)]) hm_104 rfl rfl (Nat.le_of_ble_eq_true rfl) rfl rfl ?_
            refine fl_goto hm_104 rfl ?_
            exact fl_R_sub (lv' := [(6, .int (Int32.ofInt (w2 + 1))), (5, .int (Int32.ofInt wy)), (4, .ref p), (0, .ref 120), (1, .int (Int32.ofInt ac)), (2, .ref 7), (3, .ref 105)]) rfl rfl (ih15_ _ (by omega) (w2 + 1) F32_ rfl g33_ (fs_tr hf_F1 s34_ (by simp [fs_le]; try omega)) (⟨by omega, by omega⟩) (by omega))
          refine fl_iconst hm_104 rfl ?_
          refine gr_i (z := 0) hm_104 rfl rfl (ga_nb (by omega)) ?_
          exact ⟨F32_, rfl, g33_, g35_, (⟨by omega, by omega⟩), (by omega)⟩
        refine ga_aload_n (v := .ref 120) hm_104 rfl rfl rfl ?_
        refine ga_aload (v := .ref a22_) hm_104 rfl rfl rfl ?_
        refine ga_aload_n (v := .ref 7) hm_104 rfl rfl rfl ?_
        refine gVi (nY := 3) (F := 3) (L := 72) (As := [.ref a22_, .ref 7]) (b := 120) (rest := []) hm_104 rfl hm_100 rfl rfl (fl_ob sc_120) rfl rfl rfl rfl rfl (by omega) (by omega) (mc_100 hG F32_ X g33_ (a22_) (n) n24_ ((di_fs (di_fs hdi hf_F1 (by first | exact fs_rg rfl | exact fun r j hj => (fs_n (by omega) (fs_n (by omega) rfl)))) s34_ (by first | exact fs_rg rfl | exact fun r j hj => (fs_n (by omega) (fs_n (by omega) rfl))))) (⟨by omega, by omega⟩) (fun j hj => c31_ j (by rw [show 39 + 13 * (F32_ a22_ 0).toNat = p by omega] at hj; omega))) (fun _ _ h => False.elim h) ?_
        rintro z44_ A1_ ⟨F46_, hA_, g47_, s48_, c45_⟩
        subst hA_
        have g49_ : fs [(120, 120, 3, 3), (126, 330, 0, 100000)] F F46_ := fs_tr g35_ s48_ (by simp [fs_le]; try omega)
        refine fl_if_eq (a := z44_) hm_104 rfl ⟨by omega, by omega⟩ (fun h50_ => ?_) (fun h51_ => ?_)
        ·
          refine ga_aload_n (v := .ref 120) hm_104 rfl rfl rfl ?_
          have e52_ : F32_ 120 3 = F1 120 3 := (s34_ 120 3 (by first | exact fs_c rfl | exact (fs_n (by omega) (fs_n (by omega) rfl)))).trans (rfl)
          have e53_ : F46_ 120 3 = F1 120 3 := (s48_ 120 3 (by first | exact fs_c rfl | exact (fs_n (by omega) (fs_n (by omega) (fs_n (by omega) (fs_n (by omega) (fs_n (by omega) rfl))))))).trans (e52_)
          refine ga_geti (z := F1 120 3) hm_104 rfl sc_120 rfl (e53_) ?_
          refine fl_bipush hm_104 rfl rfl ?_
          refine fl_icmp_le (a := F1 120 3) (b := 40) hm_104 rfl ⟨by omega, by omega⟩ ⟨by omega, by omega⟩ (fun h54_ => ?_) (fun h55_ => ?_)
          ·
            refine ga_inc (a := w2) (c := w2 + 1) (lv2 := [(6, .int (Int32.ofInt (w2 + 1))), (7, .ref a22_), (5, .int (Int32.ofInt wy)), (4, .ref p), (0, .ref 120), (1, .int (Int32.ofInt ac)), (2, .ref 7), (3, .ref 105)]) hm_104 rfl rfl (Nat.le_of_ble_eq_true rfl) rfl rfl ?_
            refine fl_goto hm_104 rfl ?_
            exact fl_R_sub (lv' := [(6, .int (Int32.ofInt (w2 + 1))), (5, .int (Int32.ofInt wy)), (4, .ref p), (0, .ref 120), (1, .int (Int32.ofInt ac)), (2, .ref 7), (3, .ref 105)]) rfl rfl (ih15_ _ (by omega) (w2 + 1) F46_ rfl g47_ (fs_tr (fs_tr hf_F1 s34_ (by simp [fs_le]; try omega)) s48_ (by simp [fs_le]; try omega)) (⟨by omega, by omega⟩) (by omega))
          refine fl_iconst hm_104 rfl ?_
          refine gr_i (z := 0) hm_104 rfl rfl (ga_nb (by omega)) ?_
          exact ⟨F46_, rfl, g47_, g49_, (⟨by omega, by omega⟩), (by omega)⟩
        refine ga_aload_n (v := .ref 120) hm_104 rfl rfl rfl ?_
        refine ga_dup hm_104 rfl rfl ?_
        have e56_ : F32_ 120 3 = F1 120 3 := (s34_ 120 3 (by first | exact fs_c rfl | exact (fs_n (by omega) (fs_n (by omega) rfl)))).trans (rfl)
        have e57_ : F46_ 120 3 = F1 120 3 := (s48_ 120 3 (by first | exact fs_c rfl | exact (fs_n (by omega) (fs_n (by omega) (fs_n (by omega) (fs_n (by omega) (fs_n (by omega) rfl))))))).trans (e56_)
        refine ga_geti (z := F1 120 3) hm_104 rfl sc_120 rfl (e57_) ?_
        refine fl_iconst hm_104 rfl ?_
        refine ga_iadd (a := F1 120 3) (b := 1) (c := F1 120 3 + 1) hm_104 rfl (by omega) ?_
        refine ga_puti (z := F1 120 3 + 1) hm_104 rfl sc_120 rfl rfl ?_
        refine ga_aload_n (v := .ref 120) hm_104 rfl rfl rfl ?_
        refine ga_geti (z := F1 120 3 + 1) hm_104 rfl sc_120 rfl (fl_u_eq) ?_
        refine fl_bipush hm_104 rfl rfl ?_
        refine fl_icmp_le (a := F1 120 3 + 1) (b := 40) hm_104 rfl ⟨by omega, by omega⟩ ⟨by omega, by omega⟩ (fun h58_ => ?_) (fun h59_ => ?_)
        ·
          refine ga_inc (a := w2) (c := w2 + 1) (lv2 := [(6, .int (Int32.ofInt (w2 + 1))), (7, .ref a22_), (5, .int (Int32.ofInt wy)), (4, .ref p), (0, .ref 120), (1, .int (Int32.ofInt ac)), (2, .ref 7), (3, .ref 105)]) hm_104 rfl rfl (Nat.le_of_ble_eq_true rfl) rfl rfl ?_
          refine fl_goto hm_104 rfl ?_
          obtain ⟨F60_, q61_⟩ : ∃ Fq_, Fq_ = (fl_u F46_ 120 3 (F1 120 3 + 1)) := ⟨_, rfl⟩
          rw [← q61_]
          have g62_ : gi F60_ := by rw [q61_]; exact gi_u (g47_) rfl (by omega) (by omega)
          have g63_ : fs [(120, 120, 3, 3), (126, 330, 0, 100000)] F F60_ := by rw [q61_]; exact fs_u (g49_) rfl
          have e64_ : F60_ 120 3 = F1 120 3 + 1 := by rw [q61_]; exact fl_u_eq
          exact fl_R_sub (lv' := [(6, .int (Int32.ofInt (w2 + 1))), (5, .int (Int32.ofInt wy)), (4, .ref p), (0, .ref 120), (1, .int (Int32.ofInt ac)), (2, .ref 7), (3, .ref 105)]) rfl rfl (ih15_ _ (by omega) (w2 + 1) F60_ rfl g62_ (by rw [q61_]; exact fs_u ((fs_tr (fs_tr hf_F1 s34_ (by simp [fs_le]; try omega)) s48_ (by simp [fs_le]; try omega))) rfl) (⟨by omega, by omega⟩) (by omega))
        refine fl_iconst hm_104 rfl ?_
        obtain ⟨F65_, q66_⟩ : ∃ Fq_, Fq_ = (fl_u F46_ 120 3 (F1 120 3 + 1)) := ⟨_, rfl⟩
        rw [← q66_]
        have g67_ : gi F65_ := by rw [q66_]; exact gi_u (g47_) rfl (by omega) (by omega)
        have g68_ : fs [(120, 120, 3, 3), (126, 330, 0, 100000)] F F65_ := by rw [q66_]; exact fs_u (g49_) rfl
        refine gr_i (z := 0) hm_104 rfl rfl (ga_nb (by omega)) ?_
        have e69_ : F65_ 120 3 = F1 120 3 + 1 := by rw [q66_]; exact fl_u_eq
        exact ⟨F65_, rfl, g67_, g68_, (⟨by omega, by omega⟩), (by omega)⟩
      have b70_ : 0 ≤ F 120 3 ∧ F 120 3 ≤ 41 := gi_g hgi rfl
      exact L14_ _ (0) F rfl hgi fs_refl (⟨by omega, by omega⟩) (by omega)
    refine ga_iload (z := wy) hm_104 rfl rfl ?_
    refine ga_aload_n (v := .ref 105) hm_104 rfl rfl rfl ?_
    have b71_ : 0 ≤ F 105 2 ∧ F 105 2 ≤ 6 := gi_g hgi rfl
    refine ga_geti (z := F 105 2) hm_104 rfl sc_105 rfl (rfl) ?_
    refine ga_iany hm_104 rfl rfl rfl (fun z72_ ⟨h73_, h74_⟩ => ?_)
    refine ga_istore (lv2 := [(5, .int (Int32.ofInt z72_)), (6, .int (Int32.ofInt k)), (4, .ref p), (0, .ref 120), (1, .int (Int32.ofInt ac)), (2, .ref 7), (3, .ref 105)]) hm_104 rfl (Nat.le_of_ble_eq_true rfl) rfl ?_
    refine ga_inc (a := k) (c := k + 1) (lv2 := [(6, .int (Int32.ofInt (k + 1))), (5, .int (Int32.ofInt z72_)), (4, .ref p), (0, .ref 120), (1, .int (Int32.ofInt ac)), (2, .ref 7), (3, .ref 105)]) hm_104 rfl rfl (Nat.le_of_ble_eq_true rfl) rfl rfl ?_
    refine fl_goto hm_104 rfl ?_
    exact ih8_ _ (by omega) (k + 1) (z72_) rfl (⟨by omega, by omega⟩) (⟨by omega, by omega⟩)
  have b75_ : 0 ≤ F p 2 ∧ F p 2 ≤ (3 : Int) := gi_g hgi h_p.2.1.1
  exact L7_ _ (0) (1) rfl (⟨by omega, by omega⟩) (⟨by omega, by omega⟩)
/- CheapPlanner$Ground.makeSteps -/
abbrev pq_103 (G : Nat → Nat → Option Nat) (F : fl_N) (X : xi_H)  : Outcome → xi_H → Prop := gqi (fun z A => ∃ F' : fl_N, fl_H sh_T G F' ++ X = A ∧ gi F' ∧ fs [(120, 120, 3, 3), (126, 330, 0, 100000)] F F' ∧ (0 ≤ z ∧ z ≤ 1)) gqn
theorem mc_103 {G : Nat → Nat → Option Nat} (hG : gg G) (F : fl_N) (X : xi_H) (hgi : gi F)  (hdi : di F (F 15 2).toNat) : fl_M xi_ms 103 5 121 [.ref 120, .ref 7, .ref 105] (fl_H sh_T G F ++ X) (pq_103 G F X) := by
  intro fr lo hfr hlo
  show fl_R xi_ms 103 fr lo 0 [(0, .ref 120), (1, .ref 7), (2, .ref 105)] [] _ _
  have hb15 : 0 ≤ F 15 2 ∧ F 15 2 ≤ 5 := gi_g hgi rfl
  refine ga_aload_n (v := .ref 120) hm_103 rfl rfl rfl ?_
  refine fl_iconst hm_103 rfl ?_
  refine ga_puti (z := 0) hm_103 rfl sc_120 rfl rfl ?_
  refine fl_iconst hm_103 rfl ?_
  refine ga_istore_n (lv2 := [(3, .int (Int32.ofInt 0)), (0, .ref 120), (1, .ref 7), (2, .ref 105)]) hm_103 rfl (Nat.le_of_ble_eq_true rfl) rfl ?_
  obtain ⟨F1_, q2_⟩ : ∃ Fq_, Fq_ = (fl_u F 120 3 0) := ⟨_, rfl⟩
  rw [← q2_]
  have g3_ : gi F1_ := by rw [q2_]; exact gi_u (hgi) rfl (by omega) (by omega)
  have g4_ : fs [(120, 120, 3, 3), (126, 330, 0, 100000)] F F1_ := by rw [q2_]; exact fs_u (fs_refl) rfl
  have L6_ : ∀ (n5_ : Nat) (k : Int) (F1 : fl_N), (F 15 2 - k : Int).toNat = n5_ → (gi F1) → (fs [(120, 120, 3, 3), (126, 330, 0, 100000)] F1_ F1) → (0 ≤ k ∧ k ≤ 5) → (F1 120 3 ≤ 40) → fl_R xi_ms 103 fr lo 7 [(3, .int (Int32.ofInt k)), (0, .ref 120), (1, .ref 7), (2, .ref 105)] [] (fl_H sh_T G F1 ++ X) (pq_103 G F X) := by
    intro n5_
    induction n5_ using Nat.strongRecOn with
    | ind n5_ ih7_ =>
    intro k F1 hn8_ hg_F1 hf_F1 hk h41
    have g9_ : fs [(120, 120, 3, 3), (126, 330, 0, 100000)] F F1 := fs_tr g4_ hf_F1 rfl
    refine ga_iload_n (z := k) hm_103 rfl rfl ?_
    refine ga_aload_n (v := .ref 7) hm_103 rfl rfl rfl ?_
    refine ga_getr (b := 15) hm_103 rfl sc_7 rfl ?_
    have e10_ : F1_ 15 2 = F 15 2 := by rw [q2_]; exact fl_u_ne (by first | exact nc_ rfl | decide | omega)
    have e11_ : F1 15 2 = F 15 2 := (hf_F1 15 2 rfl).trans (e10_)
    have b12_ : 0 ≤ F 15 2 ∧ F 15 2 ≤ 5 := gi_g hgi rfl
    refine ga_geti (z := F 15 2) hm_103 rfl sc_15 rfl (e11_) ?_
    refine fl_icmp_ge (a := k) (b := F 15 2) hm_103 rfl ⟨by omega, by omega⟩ ⟨by omega, by omega⟩ (fun h13_ => ?_) (fun h14_ => ?_)
    ·
      refine fl_iconst hm_103 rfl ?_
      refine gr_i (z := 1) hm_103 rfl rfl (ga_nb (by omega)) ?_
      exact ⟨F1, rfl, hg_F1, g9_, (⟨by omega, by omega⟩)⟩
    refine ga_aload_n (v := .ref 120) hm_103 rfl rfl rfl ?_
    refine ga_iload_n (z := k) hm_103 rfl rfl ?_
    refine ga_aload_n (v := .ref 7) hm_103 rfl rfl rfl ?_
    refine ga_aload_n (v := .ref 105) hm_103 rfl rfl rfl ?_
    have b15_ : 0 ≤ F1 120 3 ∧ F1 120 3 ≤ 41 := gi_g hg_F1 rfl
    refine gVi (nY := 8) (F := 4) (L := 94) (As := [.int (Int32.ofInt k), .ref 7, .ref 105]) (b := 120) (rest := []) hm_103 rfl hm_104 rfl rfl (fl_ob sc_120) rfl rfl rfl rfl rfl (by omega) (by omega) (mc_104 hG F1 X hg_F1 ((39 + 13 * k.toNat)) ((F 15 2).toNat) (k) (nm_ap (by omega)) (rfl) (⟨by omega, by omega⟩) ((di_fs (by rw [q2_]; exact (di_u hdi (by omega))) hf_F1 (by first | exact fs_rg rfl | exact fun r j hj => (fs_n (by omega) (fs_n (by omega) rfl))))) (⟨by omega, by omega⟩) (by omega)) (fun _ _ h => False.elim h) ?_
    rintro z16_ A1_ ⟨F19_, hA_, g20_, s21_, c17_, c18_⟩
    subst hA_
    have g22_ : fs [(120, 120, 3, 3), (126, 330, 0, 100000)] F F19_ := fs_tr g9_ s21_ rfl
    refine fx_if_ne (a := z16_) hm_103 rfl ⟨by omega, by omega⟩ (fun h23_ => ?_) (fun h24_ => ?_)
    ·
      refine ga_inc (a := k) (c := k + 1) (lv2 := [(3, .int (Int32.ofInt (k + 1))), (0, .ref 120), (1, .ref 7), (2, .ref 105)]) hm_103 rfl rfl (Nat.le_of_ble_eq_true rfl) rfl rfl ?_
      refine fl_goto hm_103 rfl ?_
      have b25_ : 0 ≤ F19_ 120 3 ∧ F19_ 120 3 ≤ 41 := gi_g g20_ rfl
      exact ih7_ _ (by omega) (k + 1) F19_ rfl g20_ (fs_tr hf_F1 s21_ rfl) (⟨by omega, by omega⟩) (by omega)
    refine fl_iconst hm_103 rfl ?_
    refine gr_i (z := 0) hm_103 rfl rfl (ga_nb (by omega)) ?_
    exact ⟨F19_, rfl, g20_, g22_, (⟨by omega, by omega⟩)⟩
  have e26_ : F1_ 120 3 = 0 := by rw [q2_]; exact fl_u_eq
  have b27_ : 0 ≤ F 15 2 ∧ F 15 2 ≤ 5 := gi_g hgi rfl
  exact L6_ _ (0) F1_ rfl g3_ fs_refl (⟨by omega, by omega⟩) (by omega)
/- CheapPlanner$Ground.numberFactsOf -/
abbrev pq_106 (G : Nat → Nat → Option Nat) (F : fl_N) (X : xi_H) (b : Nat) (pr : Int) : Outcome → xi_H → Prop := gqi (fun z A => ∃ F' : fl_N, fl_H sh_T G F' ++ X = A ∧ gi F' ∧ fs [(120, 120, 1, 1), (121, 121, 0, 100000)] F F' ∧ (0 ≤ z ∧ z ≤ 1)) gqn
theorem mc_106 {G : Nat → Nat → Option Nat} (hG : gg G) (F : fl_N) (X : xi_H) (hgi : gi F) (b : Nat) (pr : Int) (h_b : nm b 2) (hpr : 0 ≤ pr ∧ pr ≤ 5) : fl_M xi_ms 106 1 22 [.ref 120, .int (Int32.ofInt pr), .ref b, .ref 105] (fl_H sh_T G F ++ X) (pq_106 G F X b pr) := by
  intro fr lo hfr hlo
  show fl_R xi_ms 106 fr lo 0 [(0, .ref 120), (1, .int (Int32.ofInt pr)), (2, .ref b), (3, .ref 105)] [] _ _
  have hr_b := h_b.2.2
  refine ga_aload_n (v := .ref b) hm_106 rfl rfl rfl ?_
  have b1_ : 0 ≤ F b 2 ∧ F b 2 ≤ (2 : Int) := gi_g hgi h_b.2.1.1
  refine ga_geti (z := F b 2) hm_106 rfl h_b.1.1 rfl (rfl) ?_
  refine fl_if_le (a := F b 2) hm_106 rfl ⟨by omega, by omega⟩ (fun h2_ => ?_) (fun h3_ => ?_)
  ·
    refine fl_iconst hm_106 rfl ?_
    refine ga_istore (lv2 := [(4, .int (Int32.ofInt 1)), (0, .ref 120), (1, .int (Int32.ofInt pr)), (2, .ref b), (3, .ref 105)]) hm_106 rfl (Nat.le_of_ble_eq_true rfl) rfl ?_
    refine ga_aload_n (v := .ref b) hm_106 rfl rfl rfl ?_
    refine ga_geti (z := F b 2) hm_106 rfl h_b.1.1 rfl (rfl) ?_
    refine fl_iconst hm_106 rfl ?_
    refine fl_icmp_le (a := F b 2) (b := 1) hm_106 rfl ⟨by omega, by omega⟩ ⟨by omega, by omega⟩ (fun h4_ => ?_) (fun h5_ => ?_)
    ·
      refine fl_iconst hm_106 rfl ?_
      refine ga_istore (lv2 := [(5, .int (Int32.ofInt 1)), (4, .int (Int32.ofInt 1)), (0, .ref 120), (1, .int (Int32.ofInt pr)), (2, .ref b), (3, .ref 105)]) hm_106 rfl (Nat.le_of_ble_eq_true rfl) rfl ?_
      refine fl_iconst hm_106 rfl ?_
      refine ga_istore (lv2 := [(6, .int (Int32.ofInt 0)), (5, .int (Int32.ofInt 1)), (4, .int (Int32.ofInt 1)), (0, .ref 120), (1, .int (Int32.ofInt pr)), (2, .ref b), (3, .ref 105)]) hm_106 rfl (Nat.le_of_ble_eq_true rfl) rfl ?_
      have L7_ : ∀ (n6_ : Nat) (f1 : Int) (F1 : fl_N), (6 - f1 : Int).toNat = n6_ → (gi F1) → (fs [(120, 120, 1, 1), (121, 121, 0, 100000)] F F1) → (0 ≤ f1 ∧ f1 ≤ 6) → fl_R xi_ms 106 fr lo 38 [(6, .int (Int32.ofInt f1)), (5, .int (Int32.ofInt 1)), (4, .int (Int32.ofInt 1)), (0, .ref 120), (1, .int (Int32.ofInt pr)), (2, .ref b), (3, .ref 105)] [] (fl_H sh_T G F1 ++ X) (pq_106 G F X b pr) := by
        intro n6_
        induction n6_ using Nat.strongRecOn with
        | ind n6_ ih8_ =>
        intro f1 F1 hn9_ hg_F1 hf_F1 hf1
        have g10_ : fs [(120, 120, 1, 1), (121, 121, 0, 100000)] F F1 := fs_tr fs_refl hf_F1 rfl
        refine ga_iload (z := f1) hm_106 rfl rfl ?_
        refine ga_iload (z := 1) hm_106 rfl rfl ?_
        refine fl_icmp_ge (a := f1) (b := 1) hm_106 rfl ⟨by omega, by omega⟩ ⟨by omega, by omega⟩ (fun h11_ => ?_) (fun h12_ => ?_)
        ·
          refine fl_iconst hm_106 rfl ?_
          refine gr_i (z := 1) hm_106 rfl rfl (ga_nb (by omega)) ?_
          exact ⟨F1, rfl, hg_F1, g10_, (⟨by omega, by omega⟩)⟩
        refine fl_iconst hm_106 rfl ?_
        refine ga_istore (lv2 := [(7, .int (Int32.ofInt 0)), (6, .int (Int32.ofInt f1)), (5, .int (Int32.ofInt 1)), (4, .int (Int32.ofInt 1)), (0, .ref 120), (1, .int (Int32.ofInt pr)), (2, .ref b), (3, .ref 105)]) hm_106 rfl (Nat.le_of_ble_eq_true rfl) rfl ?_
        have L14_ : ∀ (n13_ : Nat) (f2 : Int) (F2 : fl_N), (6 - f2 : Int).toNat = n13_ → (gi F2) → (fs [(120, 120, 1, 1), (121, 121, 0, 100000)] F1 F2) → (0 ≤ f2 ∧ f2 ≤ 6) → fl_R xi_ms 106 fr lo 48 [(7, .int (Int32.ofInt f2)), (6, .int (Int32.ofInt f1)), (5, .int (Int32.ofInt 1)), (4, .int (Int32.ofInt 1)), (0, .ref 120), (1, .int (Int32.ofInt pr)), (2, .ref b), (3, .ref 105)] [] (fl_H sh_T G F2 ++ X) (pq_106 G F X b pr) := by
          intro n13_
          induction n13_ using Nat.strongRecOn with
          | ind n13_ ih15_ =>
          intro f2 F2 hn16_ hg_F2 hf_F2 hf2
          have g17_ : fs [(120, 120, 1, 1), (121, 121, 0, 100000)] F F2 := fs_tr g10_ hf_F2 rfl
          refine ga_iload (z := f2) hm_106 rfl rfl ?_
          refine ga_iload (z := 1) hm_106 rfl rfl ?_
          refine fl_icmp_ge (a := f2) (b := 1) hm_106 rfl ⟨by omega, by omega⟩ ⟨by omega, by omega⟩ (fun h18_ => ?_) (fun h19_ => ?_)
          ·
            refine ga_inc (a := f1) (c := f1 + 1) (lv2 := [(6, .int (Int32.ofInt (f1 + 1))), (7, .int (Int32.ofInt f2)), (5, .int (Int32.ofInt 1)), (4, .int (Int32.ofInt 1)), (0, .ref 120), (1, .int (Int32.ofInt pr)), (2, .ref b), (3, .ref 105)]) hm_106 rfl rfl (Nat.le_of_ble_eq_true rfl) rfl rfl ?_
            refine fl_goto hm_106 rfl ?_
            exact fl_R_sub (lv' := [(6, .int (Int32.ofInt (f1 + 1))), (5, .int (Int32.ofInt 1)), (4, .int (Int32.ofInt 1)), (0, .ref 120), (1, .int (Int32.ofInt pr)), (2, .ref b), (3, .ref 105)]) rfl rfl (ih8_ _ (by omega) (f1 + 1) F2 rfl hg_F2 (fs_tr hf_F1 hf_F2 rfl) (⟨by omega, by omega⟩))
          refine ga_aload_n (v := .ref b) hm_106 rfl rfl rfl ?_
          have e20_ : F1 b 2 = F b 2 := (hf_F1 b 2 (by first | exact fs_c rfl | exact (fs_n (by omega) (fs_n (by omega) rfl)))).trans (rfl)
          have e21_ : F2 b 2 = F b 2 := (hf_F2 b 2 (by first | exact fs_c rfl | exact (fs_n (by omega) (fs_n (by omega) rfl)))).trans (e20_)
          refine ga_geti (z := F b 2) hm_106 rfl h_b.1.1 rfl (e21_) ?_
          refine fl_iconst hm_106 rfl ?_
          refine fl_icmp_lt (a := F b 2) (b := 1) hm_106 rfl ⟨by omega, by omega⟩ ⟨by omega, by omega⟩ (fun h22_ => ?_) (fun h23_ => ?_)
          ·
            refine ga_aload_n (v := .ref b) hm_106 rfl rfl rfl ?_
            refine ga_geti (z := F b 2) hm_106 rfl h_b.1.1 rfl (e21_) ?_
            refine fl_iconst hm_106 rfl ?_
            refine fl_icmp_lt (a := F b 2) (b := 2) hm_106 rfl ⟨by omega, by omega⟩ ⟨by omega, by omega⟩ (fun h24_ => ?_) (fun h25_ => ?_)
            ·
              refine fl_iconst hm_106 rfl ?_
              refine fl_goto hm_106 rfl ?_
              refine ga_istore (lv2 := [(8, .int (Int32.ofInt 1)), (7, .int (Int32.ofInt f2)), (6, .int (Int32.ofInt f1)), (5, .int (Int32.ofInt 1)), (4, .int (Int32.ofInt 1)), (0, .ref 120), (1, .int (Int32.ofInt pr)), (2, .ref b), (3, .ref 105)]) hm_106 rfl (Nat.le_of_ble_eq_true rfl) rfl ?_
              refine ga_iload (z := 1) hm_106 rfl rfl ?_
              refine fl_if_eq hm_106 rfl ⟨by omega, by omega⟩ (fun h => absurd h (by omega)) (fun _ => ?_)
              refine ga_aload_n (v := .ref 120) hm_106 rfl rfl rfl ?_
              have b26_ : 0 ≤ F2 120 1 ∧ F2 120 1 ≤ 40 := gi_g hg_F2 rfl
              refine ga_geti (z := F2 120 1) hm_106 rfl sc_120 rfl (rfl) ?_
              refine fl_bipush hm_106 rfl rfl ?_
              refine fl_icmp_lt (a := F2 120 1) (b := 40) hm_106 rfl ⟨by omega, by omega⟩ ⟨by omega, by omega⟩ (fun h27_ => ?_) (fun h28_ => ?_)
              ·
                refine ga_iload (z := 1) hm_106 rfl rfl ?_
                refine fl_if_eq hm_106 rfl ⟨by omega, by omega⟩ (fun h => absurd h (by omega)) (fun _ => ?_)
                refine ga_aload_n (v := .ref 120) hm_106 rfl rfl rfl ?_
                refine ga_getr (b := 121) hm_106 rfl sc_120 rfl ?_
                refine ga_iload_n (z := pr) hm_106 rfl rfl ?_
                refine ga_iload (z := f1) hm_106 rfl rfl ?_
                refine ga_iload (z := f2) hm_106 rfl rfl ?_
                refine gJi (nY := 3) (F := 0) (L := 0) (As := [.int (Int32.ofInt pr), .int (Int32.ofInt f1), .int (Int32.ofInt f2)]) (rest := [.ref 121]) hm_106 rfl hm_107 rfl rfl (fl_pos sc_0) rfl rfl rfl rfl (by omega) (by omega) ?_
                intro f29_ l30_ h31_ h32_
                show fl_R xi_ms 107 f29_ l30_ 0 [(0, .int (Int32.ofInt pr)), (1, .int (Int32.ofInt f1)), (2, .int (Int32.ofInt f2))] [] _ _
                refine ga_iload_n (z := pr) hm_107 rfl rfl ?_
                refine fl_bipush hm_107 rfl rfl ?_
                refine ga_imul (a := pr) (b := 6) (c := 6 * pr) hm_107 rfl (by omega) ?_
                refine ga_iload_n (z := f1) hm_107 rfl rfl ?_
                refine ga_iadd (a := 6 * pr) (b := f1) (c := 6 * pr + f1) hm_107 rfl (by omega) ?_
                refine fl_bipush hm_107 rfl rfl ?_
                refine ga_imul (a := 6 * pr + f1) (b := 6) (c := 36 * pr + 6 * f1) hm_107 rfl (by omega) ?_
                refine ga_iload_n (z := f2) hm_107 rfl rfl ?_
                refine ga_iadd (a := 36 * pr + 6 * f1) (b := f2) (c := 36 * pr + 6 * f1 + f2) hm_107 rfl (by omega) ?_
                refine gr_i hm_107 rfl rfl rfl ?_
                clear h31_ h32_ f29_ l30_
                refine ga_aload_n (v := .ref 120) hm_106 rfl rfl rfl ?_
                refine ga_geti (z := F2 120 1) hm_106 rfl sc_120 rfl (rfl) ?_
                refine fl_iast (z := 36 * pr + 6 * f1 + f2) (v := F2 120 1) hm_106 rfl sc_121 (by omega) (by omega) (by omega) ?_
                refine ga_aload_n (v := .ref 120) hm_106 rfl rfl rfl ?_
                refine ga_dup hm_106 rfl rfl ?_
                refine ga_geti (z := F2 120 1) hm_106 rfl sc_120 rfl (fl_u_ne (by first | exact nc_ rfl | decide | omega)) ?_
                refine fl_iconst hm_106 rfl ?_
                refine ga_iadd (a := F2 120 1) (b := 1) (c := F2 120 1 + 1) hm_106 rfl (by omega) ?_
                refine ga_puti (z := F2 120 1 + 1) hm_106 rfl sc_120 rfl rfl ?_
                refine ga_inc (a := f2) (c := f2 + 1) (lv2 := [(7, .int (Int32.ofInt (f2 + 1))), (8, .int (Int32.ofInt 1)), (6, .int (Int32.ofInt f1)), (5, .int (Int32.ofInt 1)), (4, .int (Int32.ofInt 1)), (0, .ref 120), (1, .int (Int32.ofInt pr)), (2, .ref b), (3, .ref 105)]) hm_106 rfl rfl (Nat.le_of_ble_eq_true rfl) rfl rfl ?_
                refine fl_goto hm_106 rfl ?_
                obtain ⟨F33_, q34_⟩ : ∃ Fq_, Fq_ = (fl_u (fl_u F2 121 (36 * pr + 6 * f1 + f2).toNat (F2 120 1)) 120 1 (F2 120 1 + 1)) := ⟨_, rfl⟩
                rw [← q34_]
                have g35_ : gi F33_ := by rw [q34_]; exact gi_u (gi_u (hg_F2) rfl (by omega) (by omega)) rfl (by omega) (by omega)
                have g36_ : fs [(120, 120, 1, 1), (121, 121, 0, 100000)] F F33_ := by rw [q34_]; exact fs_u (fs_u (g17_) (fs_z (fs_y (by omega)))) rfl
                exact fl_R_sub (lv' := [(7, .int (Int32.ofInt (f2 + 1))), (6, .int (Int32.ofInt f1)), (5, .int (Int32.ofInt 1)), (4, .int (Int32.ofInt 1)), (0, .ref 120), (1, .int (Int32.ofInt pr)), (2, .ref b), (3, .ref 105)]) rfl rfl (ih15_ _ (by omega) (f2 + 1) F33_ rfl g35_ (by rw [q34_]; exact fs_u (fs_u (hf_F2) (fs_z (fs_y (by omega)))) rfl) (⟨by omega, by omega⟩))
              refine fl_iconst hm_106 rfl ?_
              refine gr_i (z := 0) hm_106 rfl rfl (ga_nb (by omega)) ?_
              exact ⟨F2, rfl, hg_F2, g17_, (⟨by omega, by omega⟩)⟩
            exfalso; omega
          exfalso; omega
        exact L14_ _ (0) F1 rfl hg_F1 fs_refl (⟨by omega, by omega⟩)
      exact L7_ _ (0) F rfl hgi fs_refl (⟨by omega, by omega⟩)
    exfalso; omega
  refine ga_aload_n (v := .ref 105) hm_106 rfl rfl rfl ?_
  have b37_ : 0 ≤ F 105 2 ∧ F 105 2 ≤ 6 := gi_g hgi rfl
  refine ga_geti (z := F 105 2) hm_106 rfl sc_105 rfl (rfl) ?_
  refine fl_goto hm_106 rfl ?_
  refine ga_istore (lv2 := [(4, .int (Int32.ofInt (F 105 2))), (0, .ref 120), (1, .int (Int32.ofInt pr)), (2, .ref b), (3, .ref 105)]) hm_106 rfl (Nat.le_of_ble_eq_true rfl) rfl ?_
  refine ga_aload_n (v := .ref b) hm_106 rfl rfl rfl ?_
  refine ga_geti (z := F b 2) hm_106 rfl h_b.1.1 rfl (rfl) ?_
  refine fl_iconst hm_106 rfl ?_
  refine fl_icmp_le (a := F b 2) (b := 1) hm_106 rfl ⟨by omega, by omega⟩ ⟨by omega, by omega⟩ (fun h38_ => ?_) (fun h39_ => ?_)
  ·
    refine fl_iconst hm_106 rfl ?_
    refine ga_istore (lv2 := [(5, .int (Int32.ofInt 1)), (4, .int (Int32.ofInt (F 105 2))), (0, .ref 120), (1, .int (Int32.ofInt pr)), (2, .ref b), (3, .ref 105)]) hm_106 rfl (Nat.le_of_ble_eq_true rfl) rfl ?_
    refine fl_iconst hm_106 rfl ?_
    refine ga_istore (lv2 := [(6, .int (Int32.ofInt 0)), (5, .int (Int32.ofInt 1)), (4, .int (Int32.ofInt (F 105 2))), (0, .ref 120), (1, .int (Int32.ofInt pr)), (2, .ref b), (3, .ref 105)]) hm_106 rfl (Nat.le_of_ble_eq_true rfl) rfl ?_
    have L41_ : ∀ (n40_ : Nat) (f1 : Int) (F1 : fl_N), (6 - f1 : Int).toNat = n40_ → (gi F1) → (fs [(120, 120, 1, 1), (121, 121, 0, 100000)] F F1) → (0 ≤ f1 ∧ f1 ≤ 6) → fl_R xi_ms 106 fr lo 38 [(6, .int (Int32.ofInt f1)), (5, .int (Int32.ofInt 1)), (4, .int (Int32.ofInt (F 105 2))), (0, .ref 120), (1, .int (Int32.ofInt pr)), (2, .ref b), (3, .ref 105)] [] (fl_H sh_T G F1 ++ X) (pq_106 G F X b pr) := by
      intro n40_
      induction n40_ using Nat.strongRecOn with
      | ind n40_ ih42_ =>
      intro f1 F1 hn43_ hg_F1 hf_F1 hf1
      have g44_ : fs [(120, 120, 1, 1), (121, 121, 0, 100000)] F F1 := fs_tr fs_refl hf_F1 rfl
      refine ga_iload (z := f1) hm_106 rfl rfl ?_
      refine ga_iload (z := F 105 2) hm_106 rfl rfl ?_
      refine fl_icmp_ge (a := f1) (b := F 105 2) hm_106 rfl ⟨by omega, by omega⟩ ⟨by omega, by omega⟩ (fun h45_ => ?_) (fun h46_ => ?_)
      ·
        refine fl_iconst hm_106 rfl ?_
        refine gr_i (z := 1) hm_106 rfl rfl (ga_nb (by omega)) ?_
        exact ⟨F1, rfl, hg_F1, g44_, (⟨by omega, by omega⟩)⟩
      refine fl_iconst hm_106 rfl ?_
      refine ga_istore (lv2 := [(7, .int (Int32.ofInt 0)), (6, .int (Int32.ofInt f1)), (5, .int (Int32.ofInt 1)), (4, .int (Int32.ofInt (F 105 2))), (0, .ref 120), (1, .int (Int32.ofInt pr)), (2, .ref b), (3, .ref 105)]) hm_106 rfl (Nat.le_of_ble_eq_true rfl) rfl ?_
      have L48_ : ∀ (n47_ : Nat) (f2 : Int) (F2 : fl_N), (6 - f2 : Int).toNat = n47_ → (gi F2) → (fs [(120, 120, 1, 1), (121, 121, 0, 100000)] F1 F2) → (0 ≤ f2 ∧ f2 ≤ 6) → fl_R xi_ms 106 fr lo 48 [(7, .int (Int32.ofInt f2)), (6, .int (Int32.ofInt f1)), (5, .int (Int32.ofInt 1)), (4, .int (Int32.ofInt (F 105 2))), (0, .ref 120), (1, .int (Int32.ofInt pr)), (2, .ref b), (3, .ref 105)] [] (fl_H sh_T G F2 ++ X) (pq_106 G F X b pr) := by
        intro n47_
        induction n47_ using Nat.strongRecOn with
        | ind n47_ ih49_ =>
        intro f2 F2 hn50_ hg_F2 hf_F2 hf2
        have g51_ : fs [(120, 120, 1, 1), (121, 121, 0, 100000)] F F2 := fs_tr g44_ hf_F2 rfl
        refine ga_iload (z := f2) hm_106 rfl rfl ?_
        refine ga_iload (z := 1) hm_106 rfl rfl ?_
        refine fl_icmp_ge (a := f2) (b := 1) hm_106 rfl ⟨by omega, by omega⟩ ⟨by omega, by omega⟩ (fun h52_ => ?_) (fun h53_ => ?_)
        ·
          refine ga_inc (a := f1) (c := f1 + 1) (lv2 := [(6, .int (Int32.ofInt (f1 + 1))), (7, .int (Int32.ofInt f2)), (5, .int (Int32.ofInt 1)), (4, .int (Int32.ofInt (F 105 2))), (0, .ref 120), (1, .int (Int32.ofInt pr)), (2, .ref b), (3, .ref 105)]) hm_106 rfl rfl (Nat.le_of_ble_eq_true rfl) rfl rfl ?_
          refine fl_goto hm_106 rfl ?_
          exact fl_R_sub (lv' := [(6, .int (Int32.ofInt (f1 + 1))), (5, .int (Int32.ofInt 1)), (4, .int (Int32.ofInt (F 105 2))), (0, .ref 120), (1, .int (Int32.ofInt pr)), (2, .ref b), (3, .ref 105)]) rfl rfl (ih42_ _ (by omega) (f1 + 1) F2 rfl hg_F2 (fs_tr hf_F1 hf_F2 rfl) (⟨by omega, by omega⟩))
        refine ga_aload_n (v := .ref b) hm_106 rfl rfl rfl ?_
        have e54_ : F1 b 2 = F b 2 := (hf_F1 b 2 (by first | exact fs_c rfl | exact (fs_n (by omega) (fs_n (by omega) rfl)))).trans (rfl)
        have e55_ : F2 b 2 = F b 2 := (hf_F2 b 2 (by first | exact fs_c rfl | exact (fs_n (by omega) (fs_n (by omega) rfl)))).trans (e54_)
        refine ga_geti (z := F b 2) hm_106 rfl h_b.1.1 rfl (e55_) ?_
        refine fl_iconst hm_106 rfl ?_
        refine fl_icmp_lt (a := F b 2) (b := 1) hm_106 rfl ⟨by omega, by omega⟩ ⟨by omega, by omega⟩ (fun h56_ => ?_) (fun h57_ => ?_)
        · exfalso; omega
        refine ga_aload_n (v := .ref 105) hm_106 rfl rfl rfl ?_
        refine ga_iload (z := f1) hm_106 rfl rfl ?_
        refine ga_aload_n (v := .ref b) hm_106 rfl rfl rfl ?_
        refine ga_getr (b := b + 2) hm_106 rfl h_b.1.1 rfl ?_
        refine fl_iconst hm_106 rfl ?_
        have e58_ : F1 (b + 2) 0 = F (b + 2) 0 := (hf_F1 (b + 2) 0 (by first | exact fs_c rfl | exact (fs_n (by omega) (fs_n (by omega) rfl)))).trans (rfl)
        have e59_ : F2 (b + 2) 0 = F (b + 2) 0 := (hf_F2 (b + 2) 0 (by first | exact fs_c rfl | exact (fs_n (by omega) (fs_n (by omega) rfl)))).trans (e58_)
        have b60_ : -1 ≤ F (b + 2) 0 ∧ F (b + 2) 0 ≤ 3 := gi_g hgi (gb_a h_b.2.1.2.1)
        refine ga_iald (z := 0) (w := F (b + 2) 0) hm_106 rfl h_b.1.2.2 (by omega) (by omega) (by omega) (e59_) ?_
        refine gIi (nY := 3) (F := 0) (L := 0) (As := [.int (Int32.ofInt f1), .int (Int32.ofInt (F (b + 2) 0))]) (b := 105) (rest := []) hm_106 rfl hm_110 rfl rfl (fl_ob sc_105) rfl rfl rfl rfl rfl (by omega) (by omega) ?_
        intro f61_ l62_ h63_ h64_
        show fl_R xi_ms 110 f61_ l62_ 0 [(0, .ref 105), (1, .int (Int32.ofInt f1)), (2, .int (Int32.ofInt (F (b + 2) 0)))] [] _ _
        refine ga_iload_n (z := F (b + 2) 0) hm_110 rfl rfl ?_
        refine fl_iconst hm_110 rfl ?_
        refine fl_icmp_eq (a := F (b + 2) 0) (b := -1) hm_110 rfl ⟨by omega, by omega⟩ ⟨by omega, by omega⟩ (fun h65_ => ?_) (fun h66_ => ?_)
        ·
          refine fl_iconst hm_110 rfl ?_
          refine fl_goto hm_110 rfl ?_
          refine gr_i hm_110 rfl rfl (ga_nb (by omega)) ?_
          clear h63_ h64_ f61_ l62_
          refine fl_if_eq hm_106 rfl ⟨by omega, by omega⟩ (fun h => absurd h (by omega)) (fun _ => ?_)
          refine ga_aload_n (v := .ref b) hm_106 rfl rfl rfl ?_
          refine ga_geti (z := F b 2) hm_106 rfl h_b.1.1 rfl (e55_) ?_
          refine fl_iconst hm_106 rfl ?_
          refine fl_icmp_lt (a := F b 2) (b := 2) hm_106 rfl ⟨by omega, by omega⟩ ⟨by omega, by omega⟩ (fun h67_ => ?_) (fun h68_ => ?_)
          ·
            refine fl_iconst hm_106 rfl ?_
            refine fl_goto hm_106 rfl ?_
            refine ga_istore (lv2 := [(8, .int (Int32.ofInt 1)), (7, .int (Int32.ofInt f2)), (6, .int (Int32.ofInt f1)), (5, .int (Int32.ofInt 1)), (4, .int (Int32.ofInt (F 105 2))), (0, .ref 120), (1, .int (Int32.ofInt pr)), (2, .ref b), (3, .ref 105)]) hm_106 rfl (Nat.le_of_ble_eq_true rfl) rfl ?_
            refine ga_iload (z := 1) hm_106 rfl rfl ?_
            refine fl_if_eq hm_106 rfl ⟨by omega, by omega⟩ (fun h => absurd h (by omega)) (fun _ => ?_)
            refine ga_aload_n (v := .ref 120) hm_106 rfl rfl rfl ?_
            have b69_ : 0 ≤ F2 120 1 ∧ F2 120 1 ≤ 40 := gi_g hg_F2 rfl
            refine ga_geti (z := F2 120 1) hm_106 rfl sc_120 rfl (rfl) ?_
            refine fl_bipush hm_106 rfl rfl ?_
            refine fl_icmp_lt (a := F2 120 1) (b := 40) hm_106 rfl ⟨by omega, by omega⟩ ⟨by omega, by omega⟩ (fun h70_ => ?_) (fun h71_ => ?_)
            ·
              refine ga_iload (z := 1) hm_106 rfl rfl ?_
              refine fl_if_eq hm_106 rfl ⟨by omega, by omega⟩ (fun h => absurd h (by omega)) (fun _ => ?_)
              refine ga_aload_n (v := .ref 120) hm_106 rfl rfl rfl ?_
              refine ga_getr (b := 121) hm_106 rfl sc_120 rfl ?_
              refine ga_iload_n (z := pr) hm_106 rfl rfl ?_
              refine ga_iload (z := f1) hm_106 rfl rfl ?_
              refine ga_iload (z := f2) hm_106 rfl rfl ?_
              refine gJi (nY := 3) (F := 0) (L := 0) (As := [.int (Int32.ofInt pr), .int (Int32.ofInt f1), .int (Int32.ofInt f2)]) (rest := [.ref 121]) hm_106 rfl hm_107 rfl rfl (fl_pos sc_0) rfl rfl rfl rfl (by omega) (by omega) ?_
              intro f72_ l73_ h74_ h75_
              show fl_R xi_ms 107 f72_ l73_ 0 [(0, .int (Int32.ofInt pr)), (1, .int (Int32.ofInt f1)), (2, .int (Int32.ofInt f2))] [] _ _
              refine ga_iload_n (z := pr) hm_107 rfl rfl ?_
              refine fl_bipush hm_107 rfl rfl ?_
              refine ga_imul (a := pr) (b := 6) (c := 6 * pr) hm_107 rfl (by omega) ?_
              refine ga_iload_n (z := f1) hm_107 rfl rfl ?_
              refine ga_iadd (a := 6 * pr) (b := f1) (c := 6 * pr + f1) hm_107 rfl (by omega) ?_
              refine fl_bipush hm_107 rfl rfl ?_
              refine ga_imul (a := 6 * pr + f1) (b := 6) (c := 36 * pr + 6 * f1) hm_107 rfl (by omega) ?_
              refine ga_iload_n (z := f2) hm_107 rfl rfl ?_
              refine ga_iadd (a := 36 * pr + 6 * f1) (b := f2) (c := 36 * pr + 6 * f1 + f2) hm_107 rfl (by omega) ?_
              refine gr_i hm_107 rfl rfl rfl ?_
              clear h74_ h75_ f72_ l73_
              refine ga_aload_n (v := .ref 120) hm_106 rfl rfl rfl ?_
              refine ga_geti (z := F2 120 1) hm_106 rfl sc_120 rfl (rfl) ?_
              refine fl_iast (z := 36 * pr + 6 * f1 + f2) (v := F2 120 1) hm_106 rfl sc_121 (by omega) (by omega) (by omega) ?_
              refine ga_aload_n (v := .ref 120) hm_106 rfl rfl rfl ?_
              refine ga_dup hm_106 rfl rfl ?_
              refine ga_geti (z := F2 120 1) hm_106 rfl sc_120 rfl (fl_u_ne (by first | exact nc_ rfl | decide | omega)) ?_
              refine fl_iconst hm_106 rfl ?_
              refine ga_iadd (a := F2 120 1) (b := 1) (c := F2 120 1 + 1) hm_106 rfl (by omega) ?_
              refine ga_puti (z := F2 120 1 + 1) hm_106 rfl sc_120 rfl rfl ?_
              refine ga_inc (a := f2) (c := f2 + 1) (lv2 := [(7, .int (Int32.ofInt (f2 + 1))), (8, .int (Int32.ofInt 1)), (6, .int (Int32.ofInt f1)), (5, .int (Int32.ofInt 1)), (4, .int (Int32.ofInt (F 105 2))), (0, .ref 120), (1, .int (Int32.ofInt pr)), (2, .ref b), (3, .ref 105)]) hm_106 rfl rfl (Nat.le_of_ble_eq_true rfl) rfl rfl ?_
              refine fl_goto hm_106 rfl ?_
              obtain ⟨F76_, q77_⟩ : ∃ Fq_, Fq_ = (fl_u (fl_u F2 121 (36 * pr + 6 * f1 + f2).toNat (F2 120 1)) 120 1 (F2 120 1 + 1)) := ⟨_, rfl⟩
              rw [← q77_]
              have g78_ : gi F76_ := by rw [q77_]; exact gi_u (gi_u (hg_F2) rfl (by omega) (by omega)) rfl (by omega) (by omega)
              have g79_ : fs [(120, 120, 1, 1), (121, 121, 0, 100000)] F F76_ := by rw [q77_]; exact fs_u (fs_u (g51_) (fs_z (fs_y (by omega)))) rfl
              exact fl_R_sub (lv' := [(7, .int (Int32.ofInt (f2 + 1))), (6, .int (Int32.ofInt f1)), (5, .int (Int32.ofInt 1)), (4, .int (Int32.ofInt (F 105 2))), (0, .ref 120), (1, .int (Int32.ofInt pr)), (2, .ref b), (3, .ref 105)]) rfl rfl (ih49_ _ (by omega) (f2 + 1) F76_ rfl g78_ (by rw [q77_]; exact fs_u (fs_u (hf_F2) (fs_z (fs_y (by omega)))) rfl) (⟨by omega, by omega⟩))
            refine fl_iconst hm_106 rfl ?_
            refine gr_i (z := 0) hm_106 rfl rfl (ga_nb (by omega)) ?_
            exact ⟨F2, rfl, hg_F2, g51_, (⟨by omega, by omega⟩)⟩
          exfalso; omega
        refine ga_aload_n (v := .ref 105) hm_110 rfl rfl rfl ?_
        refine ga_getr (b := 107) hm_110 rfl sc_105 rfl ?_
        refine ga_iload_n (z := f1) hm_110 rfl rfl ?_
        have e80_ : F1 107 f1.toNat = F 107 f1.toNat := (hf_F1 107 f1.toNat (by first | exact fs_c rfl | exact (fs_n (by omega) (fs_n (by omega) rfl)))).trans (rfl)
        have e81_ : F2 107 f1.toNat = F 107 f1.toNat := (hf_F2 107 f1.toNat (by first | exact fs_c rfl | exact (fs_n (by omega) (fs_n (by omega) rfl)))).trans (e80_)
        have b82_ : -1 ≤ F 107 f1.toNat ∧ F 107 f1.toNat ≤ 3 := gi_g hgi rfl
        refine ga_iald (z := f1) (w := F 107 f1.toNat) hm_110 rfl sc_107 (by omega) (by omega) (by omega) (e81_) ?_
        refine ga_iload_n (z := F (b + 2) 0) hm_110 rfl rfl ?_
        refine fx_icmp_ne (a := F 107 f1.toNat) (b := F (b + 2) 0) hm_110 rfl ⟨by omega, by omega⟩ ⟨by omega, by omega⟩ (fun h83_ => ?_) (fun h84_ => ?_)
        ·
          refine fl_iconst hm_110 rfl ?_
          refine gr_i hm_110 rfl rfl (ga_nb (by omega)) ?_
          clear h63_ h64_ f61_ l62_
          refine fl_if_eq hm_106 rfl ⟨by omega, by omega⟩ (fun _ => ?_) (fun h => absurd (by omega) h)
          refine fl_iconst hm_106 rfl ?_
          refine ga_istore (lv2 := [(8, .int (Int32.ofInt 0)), (7, .int (Int32.ofInt f2)), (6, .int (Int32.ofInt f1)), (5, .int (Int32.ofInt 1)), (4, .int (Int32.ofInt (F 105 2))), (0, .ref 120), (1, .int (Int32.ofInt pr)), (2, .ref b), (3, .ref 105)]) hm_106 rfl (Nat.le_of_ble_eq_true rfl) rfl ?_
          refine ga_iload (z := 0) hm_106 rfl rfl ?_
          refine fl_if_eq hm_106 rfl ⟨by omega, by omega⟩ (fun _ => ?_) (fun h => absurd (by omega) h)
          refine ga_iload (z := 0) hm_106 rfl rfl ?_
          refine fl_if_eq hm_106 rfl ⟨by omega, by omega⟩ (fun _ => ?_) (fun h => absurd (by omega) h)
          refine ga_inc (a := f2) (c := f2 + 1) (lv2 := [(7, .int (Int32.ofInt (f2 + 1))), (8, .int (Int32.ofInt 0)), (6, .int (Int32.ofInt f1)), (5, .int (Int32.ofInt 1)), (4, .int (Int32.ofInt (F 105 2))), (0, .ref 120), (1, .int (Int32.ofInt pr)), (2, .ref b), (3, .ref 105)]) hm_106 rfl rfl (Nat.le_of_ble_eq_true rfl) rfl rfl ?_
          refine fl_goto hm_106 rfl ?_
          exact fl_R_sub (lv' := [(7, .int (Int32.ofInt (f2 + 1))), (6, .int (Int32.ofInt f1)), (5, .int (Int32.ofInt 1)), (4, .int (Int32.ofInt (F 105 2))), (0, .ref 120), (1, .int (Int32.ofInt pr)), (2, .ref b), (3, .ref 105)]) rfl rfl (ih49_ _ (by omega) (f2 + 1) F2 rfl hg_F2 hf_F2 (⟨by omega, by omega⟩))
        refine fl_iconst hm_110 rfl ?_
        refine fl_goto hm_110 rfl ?_
        refine gr_i hm_110 rfl rfl (ga_nb (by omega)) ?_
        clear h63_ h64_ f61_ l62_
        refine fl_if_eq hm_106 rfl ⟨by omega, by omega⟩ (fun h => absurd h (by omega)) (fun _ => ?_)
        refine ga_aload_n (v := .ref b) hm_106 rfl rfl rfl ?_
        refine ga_geti (z := F b 2) hm_106 rfl h_b.1.1 rfl (e55_) ?_
        refine fl_iconst hm_106 rfl ?_
        refine fl_icmp_lt (a := F b 2) (b := 2) hm_106 rfl ⟨by omega, by omega⟩ ⟨by omega, by omega⟩ (fun h85_ => ?_) (fun h86_ => ?_)
        ·
          refine fl_iconst hm_106 rfl ?_
          refine fl_goto hm_106 rfl ?_
          refine ga_istore (lv2 := [(8, .int (Int32.ofInt 1)), (7, .int (Int32.ofInt f2)), (6, .int (Int32.ofInt f1)), (5, .int (Int32.ofInt 1)), (4, .int (Int32.ofInt (F 105 2))), (0, .ref 120), (1, .int (Int32.ofInt pr)), (2, .ref b), (3, .ref 105)]) hm_106 rfl (Nat.le_of_ble_eq_true rfl) rfl ?_
          refine ga_iload (z := 1) hm_106 rfl rfl ?_
          refine fl_if_eq hm_106 rfl ⟨by omega, by omega⟩ (fun h => absurd h (by omega)) (fun _ => ?_)
          refine ga_aload_n (v := .ref 120) hm_106 rfl rfl rfl ?_
          have b87_ : 0 ≤ F2 120 1 ∧ F2 120 1 ≤ 40 := gi_g hg_F2 rfl
          refine ga_geti (z := F2 120 1) hm_106 rfl sc_120 rfl (rfl) ?_
          refine fl_bipush hm_106 rfl rfl ?_
          refine fl_icmp_lt (a := F2 120 1) (b := 40) hm_106 rfl ⟨by omega, by omega⟩ ⟨by omega, by omega⟩ (fun h88_ => ?_) (fun h89_ => ?_)
          ·
            refine ga_iload (z := 1) hm_106 rfl rfl ?_
            refine fl_if_eq hm_106 rfl ⟨by omega, by omega⟩ (fun h => absurd h (by omega)) (fun _ => ?_)
            refine ga_aload_n (v := .ref 120) hm_106 rfl rfl rfl ?_
            refine ga_getr (b := 121) hm_106 rfl sc_120 rfl ?_
            refine ga_iload_n (z := pr) hm_106 rfl rfl ?_
            refine ga_iload (z := f1) hm_106 rfl rfl ?_
            refine ga_iload (z := f2) hm_106 rfl rfl ?_
            refine gJi (nY := 3) (F := 0) (L := 0) (As := [.int (Int32.ofInt pr), .int (Int32.ofInt f1), .int (Int32.ofInt f2)]) (rest := [.ref 121]) hm_106 rfl hm_107 rfl rfl (fl_pos sc_0) rfl rfl rfl rfl (by omega) (by omega) ?_
            intro f90_ l91_ h92_ h93_
            show fl_R xi_ms 107 f90_ l91_ 0 [(0, .int (Int32.ofInt pr)), (1, .int (Int32.ofInt f1)), (2, .int (Int32.ofInt f2))] [] _ _
            refine ga_iload_n (z := pr) hm_107 rfl rfl ?_
            refine fl_bipush hm_107 rfl rfl ?_
            refine ga_imul (a := pr) (b := 6) (c := 6 * pr) hm_107 rfl (by omega) ?_
            refine ga_iload_n (z := f1) hm_107 rfl rfl ?_
            refine ga_iadd (a := 6 * pr) (b := f1) (c := 6 * pr + f1) hm_107 rfl (by omega) ?_
            refine fl_bipush hm_107 rfl rfl ?_
            refine ga_imul (a := 6 * pr + f1) (b := 6) (c := 36 * pr + 6 * f1) hm_107 rfl (by omega) ?_
            refine ga_iload_n (z := f2) hm_107 rfl rfl ?_
            refine ga_iadd (a := 36 * pr + 6 * f1) (b := f2) (c := 36 * pr + 6 * f1 + f2) hm_107 rfl (by omega) ?_
            refine gr_i hm_107 rfl rfl rfl ?_
            clear h92_ h93_ f90_ l91_
            refine ga_aload_n (v := .ref 120) hm_106 rfl rfl rfl ?_
            refine ga_geti (z := F2 120 1) hm_106 rfl sc_120 rfl (rfl) ?_
            refine fl_iast (z := 36 * pr + 6 * f1 + f2) (v := F2 120 1) hm_106 rfl sc_121 (by omega) (by omega) (by omega) ?_
            refine ga_aload_n (v := .ref 120) hm_106 rfl rfl rfl ?_
            refine ga_dup hm_106 rfl rfl ?_
            refine ga_geti (z := F2 120 1) hm_106 rfl sc_120 rfl (fl_u_ne (by first | exact nc_ rfl | decide | omega)) ?_
            refine fl_iconst hm_106 rfl ?_
            refine ga_iadd (a := F2 120 1) (b := 1) (c := F2 120 1 + 1) hm_106 rfl (by omega) ?_
            refine ga_puti (z := F2 120 1 + 1) hm_106 rfl sc_120 rfl rfl ?_
            refine ga_inc (a := f2) (c := f2 + 1) (lv2 := [(7, .int (Int32.ofInt (f2 + 1))), (8, .int (Int32.ofInt 1)), (6, .int (Int32.ofInt f1)), (5, .int (Int32.ofInt 1)), (4, .int (Int32.ofInt (F 105 2))), (0, .ref 120), (1, .int (Int32.ofInt pr)), (2, .ref b), (3, .ref 105)]) hm_106 rfl rfl (Nat.le_of_ble_eq_true rfl) rfl rfl ?_
            refine fl_goto hm_106 rfl ?_
            obtain ⟨F94_, q95_⟩ : ∃ Fq_, Fq_ = (fl_u (fl_u F2 121 (36 * pr + 6 * f1 + f2).toNat (F2 120 1)) 120 1 (F2 120 1 + 1)) := ⟨_, rfl⟩
            rw [← q95_]
            have g96_ : gi F94_ := by rw [q95_]; exact gi_u (gi_u (hg_F2) rfl (by omega) (by omega)) rfl (by omega) (by omega)
            have g97_ : fs [(120, 120, 1, 1), (121, 121, 0, 100000)] F F94_ := by rw [q95_]; exact fs_u (fs_u (g51_) (fs_z (fs_y (by omega)))) rfl
            exact fl_R_sub (lv' := [(7, .int (Int32.ofInt (f2 + 1))), (6, .int (Int32.ofInt f1)), (5, .int (Int32.ofInt 1)), (4, .int (Int32.ofInt (F 105 2))), (0, .ref 120), (1, .int (Int32.ofInt pr)), (2, .ref b), (3, .ref 105)]) rfl rfl (ih49_ _ (by omega) (f2 + 1) F94_ rfl g96_ (by rw [q95_]; exact fs_u (fs_u (hf_F2) (fs_z (fs_y (by omega)))) rfl) (⟨by omega, by omega⟩))
          refine fl_iconst hm_106 rfl ?_
          refine gr_i (z := 0) hm_106 rfl rfl (ga_nb (by omega)) ?_
          exact ⟨F2, rfl, hg_F2, g51_, (⟨by omega, by omega⟩)⟩
        exfalso; omega
      exact L48_ _ (0) F1 rfl hg_F1 fs_refl (⟨by omega, by omega⟩)
    exact L41_ _ (0) F rfl hgi fs_refl (⟨by omega, by omega⟩)
  refine ga_aload_n (v := .ref 105) hm_106 rfl rfl rfl ?_
  refine ga_geti (z := F 105 2) hm_106 rfl sc_105 rfl (rfl) ?_
  refine fl_goto hm_106 rfl ?_
  refine ga_istore (lv2 := [(5, .int (Int32.ofInt (F 105 2))), (4, .int (Int32.ofInt (F 105 2))), (0, .ref 120), (1, .int (Int32.ofInt pr)), (2, .ref b), (3, .ref 105)]) hm_106 rfl (Nat.le_of_ble_eq_true rfl) rfl ?_
  refine fl_iconst hm_106 rfl ?_
  refine ga_istore (lv2 := [(6, .int (Int32.ofInt 0)), (5, .int (Int32.ofInt (F 105 2))), (4, .int (Int32.ofInt (F 105 2))), (0, .ref 120), (1, .int (Int32.ofInt pr)), (2, .ref b), (3, .ref 105)]) hm_106 rfl (Nat.le_of_ble_eq_true rfl) rfl ?_
  have L99_ : ∀ (n98_ : Nat) (f1 : Int) (F1 : fl_N), (6 - f1 : Int).toNat = n98_ → (gi F1) → (fs [(120, 120, 1, 1), (121, 121, 0, 100000)] F F1) → (0 ≤ f1 ∧ f1 ≤ 6) → fl_R xi_ms 106 fr lo 38 [(6, .int (Int32.ofInt f1)), (5, .int (Int32.ofInt (F 105 2))), (4, .int (Int32.ofInt (F 105 2))), (0, .ref 120), (1, .int (Int32.ofInt pr)), (2, .ref b), (3, .ref 105)] [] (fl_H sh_T G F1 ++ X) (pq_106 G F X b pr) := by
    intro n98_
    induction n98_ using Nat.strongRecOn with
    | ind n98_ ih100_ =>
    intro f1 F1 hn101_ hg_F1 hf_F1 hf1
    have g102_ : fs [(120, 120, 1, 1), (121, 121, 0, 100000)] F F1 := fs_tr fs_refl hf_F1 rfl
    refine ga_iload (z := f1) hm_106 rfl rfl ?_
    refine ga_iload (z := F 105 2) hm_106 rfl rfl ?_
    refine fl_icmp_ge (a := f1) (b := F 105 2) hm_106 rfl ⟨by omega, by omega⟩ ⟨by omega, by omega⟩ (fun h103_ => ?_) (fun h104_ => ?_)
    ·
      refine fl_iconst hm_106 rfl ?_
      refine gr_i (z := 1) hm_106 rfl rfl (ga_nb (by omega)) ?_
      exact ⟨F1, rfl, hg_F1, g102_, (⟨by omega, by omega⟩)⟩
    refine fl_iconst hm_106 rfl ?_
    refine ga_istore (lv2 := [(7, .int (Int32.ofInt 0)), (6, .int (Int32.ofInt f1)), (5, .int (Int32.ofInt (F 105 2))), (4, .int (Int32.ofInt (F 105 2))), (0, .ref 120), (1, .int (Int32.ofInt pr)), (2, .ref b), (3, .ref 105)]) hm_106 rfl (Nat.le_of_ble_eq_true rfl) rfl ?_
    have L106_ : ∀ (n105_ : Nat) (f2 : Int) (F2 : fl_N), (6 - f2 : Int).toNat = n105_ → (gi F2) → (fs [(120, 120, 1, 1), (121, 121, 0, 100000)] F1 F2) → (0 ≤ f2 ∧ f2 ≤ 6) → fl_R xi_ms 106 fr lo 48 [(7, .int (Int32.ofInt f2)), (6, .int (Int32.ofInt f1)), (5, .int (Int32.ofInt (F 105 2))), (4, .int (Int32.ofInt (F 105 2))), (0, .ref 120), (1, .int (Int32.ofInt pr)), (2, .ref b), (3, .ref 105)] [] (fl_H sh_T G F2 ++ X) (pq_106 G F X b pr) := by
      intro n105_
      induction n105_ using Nat.strongRecOn with
      | ind n105_ ih107_ =>
      intro f2 F2 hn108_ hg_F2 hf_F2 hf2
      have g109_ : fs [(120, 120, 1, 1), (121, 121, 0, 100000)] F F2 := fs_tr g102_ hf_F2 rfl
      refine ga_iload (z := f2) hm_106 rfl rfl ?_
      refine ga_iload (z := F 105 2) hm_106 rfl rfl ?_
      refine fl_icmp_ge (a := f2) (b := F 105 2) hm_106 rfl ⟨by omega, by omega⟩ ⟨by omega, by omega⟩ (fun h110_ => ?_) (fun h111_ => ?_)
      ·
        refine ga_inc (a := f1) (c := f1 + 1) (lv2 := [(6, .int (Int32.ofInt (f1 + 1))), (7, .int (Int32.ofInt f2)), (5, .int (Int32.ofInt (F 105 2))), (4, .int (Int32.ofInt (F 105 2))), (0, .ref 120), (1, .int (Int32.ofInt pr)), (2, .ref b), (3, .ref 105)]) hm_106 rfl rfl (Nat.le_of_ble_eq_true rfl) rfl rfl ?_
        refine fl_goto hm_106 rfl ?_
        exact fl_R_sub (lv' := [(6, .int (Int32.ofInt (f1 + 1))), (5, .int (Int32.ofInt (F 105 2))), (4, .int (Int32.ofInt (F 105 2))), (0, .ref 120), (1, .int (Int32.ofInt pr)), (2, .ref b), (3, .ref 105)]) rfl rfl (ih100_ _ (by omega) (f1 + 1) F2 rfl hg_F2 (fs_tr hf_F1 hf_F2 rfl) (⟨by omega, by omega⟩))
      refine ga_aload_n (v := .ref b) hm_106 rfl rfl rfl ?_
      have e112_ : F1 b 2 = F b 2 := (hf_F1 b 2 (by first | exact fs_c rfl | exact (fs_n (by omega) (fs_n (by omega) rfl)))).trans (rfl)
      have e113_ : F2 b 2 = F b 2 := (hf_F2 b 2 (by first | exact fs_c rfl | exact (fs_n (by omega) (fs_n (by omega) rfl)))).trans (e112_)
      refine ga_geti (z := F b 2) hm_106 rfl h_b.1.1 rfl (e113_) ?_
      refine fl_iconst hm_106 rfl ?_
      refine fl_icmp_lt (a := F b 2) (b := 1) hm_106 rfl ⟨by omega, by omega⟩ ⟨by omega, by omega⟩ (fun h114_ => ?_) (fun h115_ => ?_)
      · exfalso; omega
      refine ga_aload_n (v := .ref 105) hm_106 rfl rfl rfl ?_
      refine ga_iload (z := f1) hm_106 rfl rfl ?_
      refine ga_aload_n (v := .ref b) hm_106 rfl rfl rfl ?_
      refine ga_getr (b := b + 2) hm_106 rfl h_b.1.1 rfl ?_
      refine fl_iconst hm_106 rfl ?_
      have e116_ : F1 (b + 2) 0 = F (b + 2) 0 := (hf_F1 (b + 2) 0 (by first | exact fs_c rfl | exact (fs_n (by omega) (fs_n (by omega) rfl)))).trans (rfl)
      have e117_ : F2 (b + 2) 0 = F (b + 2) 0 := (hf_F2 (b + 2) 0 (by first | exact fs_c rfl | exact (fs_n (by omega) (fs_n (by omega) rfl)))).trans (e116_)
      have b118_ : -1 ≤ F (b + 2) 0 ∧ F (b + 2) 0 ≤ 3 := gi_g hgi (gb_a h_b.2.1.2.1)
      refine ga_iald (z := 0) (w := F (b + 2) 0) hm_106 rfl h_b.1.2.2 (by omega) (by omega) (by omega) (e117_) ?_
      refine gIi (nY := 3) (F := 0) (L := 0) (As := [.int (Int32.ofInt f1), .int (Int32.ofInt (F (b + 2) 0))]) (b := 105) (rest := []) hm_106 rfl hm_110 rfl rfl (fl_ob sc_105) rfl rfl rfl rfl rfl (by omega) (by omega) ?_
      intro f119_ l120_ h121_ h122_
      show fl_R xi_ms 110 f119_ l120_ 0 [(0, .ref 105), (1, .int (Int32.ofInt f1)), (2, .int (Int32.ofInt (F (b + 2) 0)))] [] _ _
      refine ga_iload_n (z := F (b + 2) 0) hm_110 rfl rfl ?_
      refine fl_iconst hm_110 rfl ?_
      refine fl_icmp_eq (a := F (b + 2) 0) (b := -1) hm_110 rfl ⟨by omega, by omega⟩ ⟨by omega, by omega⟩ (fun h123_ => ?_) (fun h124_ => ?_)
      ·
        refine fl_iconst hm_110 rfl ?_
        refine fl_goto hm_110 rfl ?_
        refine gr_i hm_110 rfl rfl (ga_nb (by omega)) ?_
        clear h121_ h122_ f119_ l120_
        refine fl_if_eq hm_106 rfl ⟨by omega, by omega⟩ (fun h => absurd h (by omega)) (fun _ => ?_)
        refine ga_aload_n (v := .ref b) hm_106 rfl rfl rfl ?_
        refine ga_geti (z := F b 2) hm_106 rfl h_b.1.1 rfl (e113_) ?_
        refine fl_iconst hm_106 rfl ?_
        refine fl_icmp_lt (a := F b 2) (b := 2) hm_106 rfl ⟨by omega, by omega⟩ ⟨by omega, by omega⟩ (fun h125_ => ?_) (fun h126_ => ?_)
        · exfalso; omega
        refine ga_aload_n (v := .ref 105) hm_106 rfl rfl rfl ?_
        refine ga_iload (z := f2) hm_106 rfl rfl ?_
        refine ga_aload_n (v := .ref b) hm_106 rfl rfl rfl ?_
        refine ga_getr (b := b + 2) hm_106 rfl h_b.1.1 rfl ?_
        refine fl_iconst hm_106 rfl ?_
        have e127_ : F1 (b + 2) 1 = F (b + 2) 1 := (hf_F1 (b + 2) 1 (by first | exact fs_c rfl | exact (fs_n (by omega) (fs_n (by omega) rfl)))).trans (rfl)
        have e128_ : F2 (b + 2) 1 = F (b + 2) 1 := (hf_F2 (b + 2) 1 (by first | exact fs_c rfl | exact (fs_n (by omega) (fs_n (by omega) rfl)))).trans (e127_)
        have b129_ : -1 ≤ F (b + 2) 1 ∧ F (b + 2) 1 ≤ 3 := gi_g hgi (gb_a h_b.2.1.2.1)
        refine ga_iald (z := 1) (w := F (b + 2) 1) hm_106 rfl h_b.1.2.2 (by omega) (by omega) (by omega) (e128_) ?_
        refine gIi (nY := 3) (F := 0) (L := 0) (As := [.int (Int32.ofInt f2), .int (Int32.ofInt (F (b + 2) 1))]) (b := 105) (rest := []) hm_106 rfl hm_110 rfl rfl (fl_ob sc_105) rfl rfl rfl rfl rfl (by omega) (by omega) ?_
        intro f130_ l131_ h132_ h133_
        show fl_R xi_ms 110 f130_ l131_ 0 [(0, .ref 105), (1, .int (Int32.ofInt f2)), (2, .int (Int32.ofInt (F (b + 2) 1)))] [] _ _
        refine ga_iload_n (z := F (b + 2) 1) hm_110 rfl rfl ?_
        refine fl_iconst hm_110 rfl ?_
        refine fl_icmp_eq (a := F (b + 2) 1) (b := -1) hm_110 rfl ⟨by omega, by omega⟩ ⟨by omega, by omega⟩ (fun h134_ => ?_) (fun h135_ => ?_)
        ·
          refine fl_iconst hm_110 rfl ?_
          refine fl_goto hm_110 rfl ?_
          refine gr_i hm_110 rfl rfl (ga_nb (by omega)) ?_
          clear h132_ h133_ f130_ l131_
          refine fl_if_eq hm_106 rfl ⟨by omega, by omega⟩ (fun h => absurd h (by omega)) (fun _ => ?_)
          refine fl_iconst hm_106 rfl ?_
          refine fl_goto hm_106 rfl ?_
          refine ga_istore (lv2 := [(8, .int (Int32.ofInt 1)), (7, .int (Int32.ofInt f2)), (6, .int (Int32.ofInt f1)), (5, .int (Int32.ofInt (F 105 2))), (4, .int (Int32.ofInt (F 105 2))), (0, .ref 120), (1, .int (Int32.ofInt pr)), (2, .ref b), (3, .ref 105)]) hm_106 rfl (Nat.le_of_ble_eq_true rfl) rfl ?_
          refine ga_iload (z := 1) hm_106 rfl rfl ?_
          refine fl_if_eq hm_106 rfl ⟨by omega, by omega⟩ (fun h => absurd h (by omega)) (fun _ => ?_)
          refine ga_aload_n (v := .ref 120) hm_106 rfl rfl rfl ?_
          have b136_ : 0 ≤ F2 120 1 ∧ F2 120 1 ≤ 40 := gi_g hg_F2 rfl
          refine ga_geti (z := F2 120 1) hm_106 rfl sc_120 rfl (rfl) ?_
          refine fl_bipush hm_106 rfl rfl ?_
          refine fl_icmp_lt (a := F2 120 1) (b := 40) hm_106 rfl ⟨by omega, by omega⟩ ⟨by omega, by omega⟩ (fun h137_ => ?_) (fun h138_ => ?_)
          ·
            refine ga_iload (z := 1) hm_106 rfl rfl ?_
            refine fl_if_eq hm_106 rfl ⟨by omega, by omega⟩ (fun h => absurd h (by omega)) (fun _ => ?_)
            refine ga_aload_n (v := .ref 120) hm_106 rfl rfl rfl ?_
            refine ga_getr (b := 121) hm_106 rfl sc_120 rfl ?_
            refine ga_iload_n (z := pr) hm_106 rfl rfl ?_
            refine ga_iload (z := f1) hm_106 rfl rfl ?_
            refine ga_iload (z := f2) hm_106 rfl rfl ?_
            refine gJi (nY := 3) (F := 0) (L := 0) (As := [.int (Int32.ofInt pr), .int (Int32.ofInt f1), .int (Int32.ofInt f2)]) (rest := [.ref 121]) hm_106 rfl hm_107 rfl rfl (fl_pos sc_0) rfl rfl rfl rfl (by omega) (by omega) ?_
            intro f139_ l140_ h141_ h142_
            show fl_R xi_ms 107 f139_ l140_ 0 [(0, .int (Int32.ofInt pr)), (1, .int (Int32.ofInt f1)), (2, .int (Int32.ofInt f2))] [] _ _
            refine ga_iload_n (z := pr) hm_107 rfl rfl ?_
            refine fl_bipush hm_107 rfl rfl ?_
            refine ga_imul (a := pr) (b := 6) (c := 6 * pr) hm_107 rfl (by omega) ?_
            refine ga_iload_n (z := f1) hm_107 rfl rfl ?_
            refine ga_iadd (a := 6 * pr) (b := f1) (c := 6 * pr + f1) hm_107 rfl (by omega) ?_
            refine fl_bipush hm_107 rfl rfl ?_
            refine ga_imul (a := 6 * pr + f1) (b := 6) (c := 36 * pr + 6 * f1) hm_107 rfl (by omega) ?_
            refine ga_iload_n (z := f2) hm_107 rfl rfl ?_
            refine ga_iadd (a := 36 * pr + 6 * f1) (b := f2) (c := 36 * pr + 6 * f1 + f2) hm_107 rfl (by omega) ?_
            refine gr_i hm_107 rfl rfl rfl ?_
            clear h141_ h142_ f139_ l140_
            refine ga_aload_n (v := .ref 120) hm_106 rfl rfl rfl ?_
            refine ga_geti (z := F2 120 1) hm_106 rfl sc_120 rfl (rfl) ?_
            refine fl_iast (z := 36 * pr + 6 * f1 + f2) (v := F2 120 1) hm_106 rfl sc_121 (by omega) (by omega) (by omega) ?_
            refine ga_aload_n (v := .ref 120) hm_106 rfl rfl rfl ?_
            refine ga_dup hm_106 rfl rfl ?_
            refine ga_geti (z := F2 120 1) hm_106 rfl sc_120 rfl (fl_u_ne (by first | exact nc_ rfl | decide | omega)) ?_
            refine fl_iconst hm_106 rfl ?_
            refine ga_iadd (a := F2 120 1) (b := 1) (c := F2 120 1 + 1) hm_106 rfl (by omega) ?_
            refine ga_puti (z := F2 120 1 + 1) hm_106 rfl sc_120 rfl rfl ?_
            refine ga_inc (a := f2) (c := f2 + 1) (lv2 := [(7, .int (Int32.ofInt (f2 + 1))), (8, .int (Int32.ofInt 1)), (6, .int (Int32.ofInt f1)), (5, .int (Int32.ofInt (F 105 2))), (4, .int (Int32.ofInt (F 105 2))), (0, .ref 120), (1, .int (Int32.ofInt pr)), (2, .ref b), (3, .ref 105)]) hm_106 rfl rfl (Nat.le_of_ble_eq_true rfl) rfl rfl ?_
            refine fl_goto hm_106 rfl ?_
            obtain ⟨F143_, q144_⟩ : ∃ Fq_, Fq_ = (fl_u (fl_u F2 121 (36 * pr + 6 * f1 + f2).toNat (F2 120 1)) 120 1 (F2 120 1 + 1)) := ⟨_, rfl⟩
            rw [← q144_]
            have g145_ : gi F143_ := by rw [q144_]; exact gi_u (gi_u (hg_F2) rfl (by omega) (by omega)) rfl (by omega) (by omega)
            have g146_ : fs [(120, 120, 1, 1), (121, 121, 0, 100000)] F F143_ := by rw [q144_]; exact fs_u (fs_u (g109_) (fs_z (fs_y (by omega)))) rfl
            exact fl_R_sub (lv' := [(7, .int (Int32.ofInt (f2 + 1))), (6, .int (Int32.ofInt f1)), (5, .int (Int32.ofInt (F 105 2))), (4, .int (Int32.ofInt (F 105 2))), (0, .ref 120), (1, .int (Int32.ofInt pr)), (2, .ref b), (3, .ref 105)]) rfl rfl (ih107_ _ (by omega) (f2 + 1) F143_ rfl g145_ (by rw [q144_]; exact fs_u (fs_u (hf_F2) (fs_z (fs_y (by omega)))) rfl) (⟨by omega, by omega⟩))
          refine fl_iconst hm_106 rfl ?_
          refine gr_i (z := 0) hm_106 rfl rfl (ga_nb (by omega)) ?_
          exact ⟨F2, rfl, hg_F2, g109_, (⟨by omega, by omega⟩)⟩
        refine ga_aload_n (v := .ref 105) hm_110 rfl rfl rfl ?_
        refine ga_getr (b := 107) hm_110 rfl sc_105 rfl ?_
        refine ga_iload_n (z := f2) hm_110 rfl rfl ?_
        have e147_ : F1 107 f2.toNat = F 107 f2.toNat := (hf_F1 107 f2.toNat (by first | exact fs_c rfl | exact (fs_n (by omega) (fs_n (by omega) rfl)))).trans (rfl)
        have e148_ : F2 107 f2.toNat = F 107 f2.toNat := (hf_F2 107 f2.toNat (by first | exact fs_c rfl | exact (fs_n (by omega) (fs_n (by omega) rfl)))).trans (e147_)
        have b149_ : -1 ≤ F 107 f2.toNat ∧ F 107 f2.toNat ≤ 3 := gi_g hgi rfl
        refine ga_iald (z := f2) (w := F 107 f2.toNat) hm_110 rfl sc_107 (by omega) (by omega) (by omega) (e148_) ?_
        refine ga_iload_n (z := F (b + 2) 1) hm_110 rfl rfl ?_
        refine fx_icmp_ne (a := F 107 f2.toNat) (b := F (b + 2) 1) hm_110 rfl ⟨by omega, by omega⟩ ⟨by omega, by omega⟩ (fun h150_ => ?_) (fun h151_ => ?_)
        ·
          refine fl_iconst hm_110 rfl ?_
          refine gr_i hm_110 rfl rfl (ga_nb (by omega)) ?_
          clear h132_ h133_ f130_ l131_
          refine fl_if_eq hm_106 rfl ⟨by omega, by omega⟩ (fun _ => ?_) (fun h => absurd (by omega) h)
          refine fl_iconst hm_106 rfl ?_
          refine ga_istore (lv2 := [(8, .int (Int32.ofInt 0)), (7, .int (Int32.ofInt f2)), (6, .int (Int32.ofInt f1)), (5, .int (Int32.ofInt (F 105 2))), (4, .int (Int32.ofInt (F 105 2))), (0, .ref 120), (1, .int (Int32.ofInt pr)), (2, .ref b), (3, .ref 105)]) hm_106 rfl (Nat.le_of_ble_eq_true rfl) rfl ?_
          refine ga_iload (z := 0) hm_106 rfl rfl ?_
          refine fl_if_eq hm_106 rfl ⟨by omega, by omega⟩ (fun _ => ?_) (fun h => absurd (by omega) h)
          refine ga_iload (z := 0) hm_106 rfl rfl ?_
          refine fl_if_eq hm_106 rfl ⟨by omega, by omega⟩ (fun _ => ?_) (fun h => absurd (by omega) h)
          refine ga_inc (a := f2) (c := f2 + 1) (lv2 := [(7, .int (Int32.ofInt (f2 + 1))), (8, .int (Int32.ofInt 0)), (6, .int (Int32.ofInt f1)), (5, .int (Int32.ofInt (F 105 2))), (4, .int (Int32.ofInt (F 105 2))), (0, .ref 120), (1, .int (Int32.ofInt pr)), (2, .ref b), (3, .ref 105)]) hm_106 rfl rfl (Nat.le_of_ble_eq_true rfl) rfl rfl ?_
          refine fl_goto hm_106 rfl ?_
          exact fl_R_sub (lv' := [(7, .int (Int32.ofInt (f2 + 1))), (6, .int (Int32.ofInt f1)), (5, .int (Int32.ofInt (F 105 2))), (4, .int (Int32.ofInt (F 105 2))), (0, .ref 120), (1, .int (Int32.ofInt pr)), (2, .ref b), (3, .ref 105)]) rfl rfl (ih107_ _ (by omega) (f2 + 1) F2 rfl hg_F2 hf_F2 (⟨by omega, by omega⟩))
        refine fl_iconst hm_110 rfl ?_
        refine fl_goto hm_110 rfl ?_
        refine gr_i hm_110 rfl rfl (ga_nb (by omega)) ?_
        clear h132_ h133_ f130_ l131_
        refine fl_if_eq hm_106 rfl ⟨by omega, by omega⟩ (fun h => absurd h (by omega)) (fun _ => ?_)
        refine fl_iconst hm_106 rfl ?_
        refine fl_goto hm_106 rfl ?_
        refine ga_istore (lv2 := [(8, .int (Int32.ofInt 1)), (7, .int (Int32.ofInt f2)), (6, .int (Int32.ofInt f1)), (5, .int (Int32.ofInt (F 105 2))), (4, .int (Int32.ofInt (F 105 2))), (0, .ref 120), (1, .int (Int32.ofInt pr)), (2, .ref b), (3, .ref 105)]) hm_106 rfl (Nat.le_of_ble_eq_true rfl) rfl ?_
        refine ga_iload (z := 1) hm_106 rfl rfl ?_
        refine fl_if_eq hm_106 rfl ⟨by omega, by omega⟩ (fun h => absurd h (by omega)) (fun _ => ?_)
        refine ga_aload_n (v := .ref 120) hm_106 rfl rfl rfl ?_
        have b152_ : 0 ≤ F2 120 1 ∧ F2 120 1 ≤ 40 := gi_g hg_F2 rfl
        refine ga_geti (z := F2 120 1) hm_106 rfl sc_120 rfl (rfl) ?_
        refine fl_bipush hm_106 rfl rfl ?_
        refine fl_icmp_lt (a := F2 120 1) (b := 40) hm_106 rfl ⟨by omega, by omega⟩ ⟨by omega, by omega⟩ (fun h153_ => ?_) (fun h154_ => ?_)
        ·
          refine ga_iload (z := 1) hm_106 rfl rfl ?_
          refine fl_if_eq hm_106 rfl ⟨by omega, by omega⟩ (fun h => absurd h (by omega)) (fun _ => ?_)
          refine ga_aload_n (v := .ref 120) hm_106 rfl rfl rfl ?_
          refine ga_getr (b := 121) hm_106 rfl sc_120 rfl ?_
          refine ga_iload_n (z := pr) hm_106 rfl rfl ?_
          refine ga_iload (z := f1) hm_106 rfl rfl ?_
          refine ga_iload (z := f2) hm_106 rfl rfl ?_
          refine gJi (nY := 3) (F := 0) (L := 0) (As := [.int (Int32.ofInt pr), .int (Int32.ofInt f1), .int (Int32.ofInt f2)]) (rest := [.ref 121]) hm_106 rfl hm_107 rfl rfl (fl_pos sc_0) rfl rfl rfl rfl (by omega) (by omega) ?_
          intro f155_ l156_ h157_ h158_
          show fl_R xi_ms 107 f155_ l156_ 0 [(0, .int (Int32.ofInt pr)), (1, .int (Int32.ofInt f1)), (2, .int (Int32.ofInt f2))] [] _ _
          refine ga_iload_n (z := pr) hm_107 rfl rfl ?_
          refine fl_bipush hm_107 rfl rfl ?_
          refine ga_imul (a := pr) (b := 6) (c := 6 * pr) hm_107 rfl (by omega) ?_
          refine ga_iload_n (z := f1) hm_107 rfl rfl ?_
          refine ga_iadd (a := 6 * pr) (b := f1) (c := 6 * pr + f1) hm_107 rfl (by omega) ?_
          refine fl_bipush hm_107 rfl rfl ?_
          refine ga_imul (a := 6 * pr + f1) (b := 6) (c := 36 * pr + 6 * f1) hm_107 rfl (by omega) ?_
          refine ga_iload_n (z := f2) hm_107 rfl rfl ?_
          refine ga_iadd (a := 36 * pr + 6 * f1) (b := f2) (c := 36 * pr + 6 * f1 + f2) hm_107 rfl (by omega) ?_
          refine gr_i hm_107 rfl rfl rfl ?_
          clear h157_ h158_ f155_ l156_
          refine ga_aload_n (v := .ref 120) hm_106 rfl rfl rfl ?_
          refine ga_geti (z := F2 120 1) hm_106 rfl sc_120 rfl (rfl) ?_
          refine fl_iast (z := 36 * pr + 6 * f1 + f2) (v := F2 120 1) hm_106 rfl sc_121 (by omega) (by omega) (by omega) ?_
          refine ga_aload_n (v := .ref 120) hm_106 rfl rfl rfl ?_
          refine ga_dup hm_106 rfl rfl ?_
          refine ga_geti (z := F2 120 1) hm_106 rfl sc_120 rfl (fl_u_ne (by first | exact nc_ rfl | decide | omega)) ?_
          refine fl_iconst hm_106 rfl ?_
          refine ga_iadd (a := F2 120 1) (b := 1) (c := F2 120 1 + 1) hm_106 rfl (by omega) ?_
          refine ga_puti (z := F2 120 1 + 1) hm_106 rfl sc_120 rfl rfl ?_
          refine ga_inc (a := f2) (c := f2 + 1) (lv2 := [(7, .int (Int32.ofInt (f2 + 1))), (8, .int (Int32.ofInt 1)), (6, .int (Int32.ofInt f1)), (5, .int (Int32.ofInt (F 105 2))), (4, .int (Int32.ofInt (F 105 2))), (0, .ref 120), (1, .int (Int32.ofInt pr)), (2, .ref b), (3, .ref 105)]) hm_106 rfl rfl (Nat.le_of_ble_eq_true rfl) rfl rfl ?_
          refine fl_goto hm_106 rfl ?_
          obtain ⟨F159_, q160_⟩ : ∃ Fq_, Fq_ = (fl_u (fl_u F2 121 (36 * pr + 6 * f1 + f2).toNat (F2 120 1)) 120 1 (F2 120 1 + 1)) := ⟨_, rfl⟩
          rw [← q160_]
          have g161_ : gi F159_ := by rw [q160_]; exact gi_u (gi_u (hg_F2) rfl (by omega) (by omega)) rfl (by omega) (by omega)
          have g162_ : fs [(120, 120, 1, 1), (121, 121, 0, 100000)] F F159_ := by rw [q160_]; exact fs_u (fs_u (g109_) (fs_z (fs_y (by omega)))) rfl
          exact fl_R_sub (lv' := [(7, .int (Int32.ofInt (f2 + 1))), (6, .int (Int32.ofInt f1)), (5, .int (Int32.ofInt (F 105 2))), (4, .int (Int32.ofInt (F 105 2))), (0, .ref 120), (1, .int (Int32.ofInt pr)), (2, .ref b), (3, .ref 105)]) rfl rfl (ih107_ _ (by omega) (f2 + 1) F159_ rfl g161_ (by rw [q160_]; exact fs_u (fs_u (hf_F2) (fs_z (fs_y (by omega)))) rfl) (⟨by omega, by omega⟩))
        refine fl_iconst hm_106 rfl ?_
        refine gr_i (z := 0) hm_106 rfl rfl (ga_nb (by omega)) ?_
        exact ⟨F2, rfl, hg_F2, g109_, (⟨by omega, by omega⟩)⟩
      refine ga_aload_n (v := .ref 105) hm_110 rfl rfl rfl ?_
      refine ga_getr (b := 107) hm_110 rfl sc_105 rfl ?_
      refine ga_iload_n (z := f1) hm_110 rfl rfl ?_
      have e163_ : F1 107 f1.toNat = F 107 f1.toNat := (hf_F1 107 f1.toNat (by first | exact fs_c rfl | exact (fs_n (by omega) (fs_n (by omega) rfl)))).trans (rfl)
      have e164_ : F2 107 f1.toNat = F 107 f1.toNat := (hf_F2 107 f1.toNat (by first | exact fs_c rfl | exact (fs_n (by omega) (fs_n (by omega) rfl)))).trans (e163_)
      have b165_ : -1 ≤ F 107 f1.toNat ∧ F 107 f1.toNat ≤ 3 := gi_g hgi rfl
      refine ga_iald (z := f1) (w := F 107 f1.toNat) hm_110 rfl sc_107 (by omega) (by omega) (by omega) (e164_) ?_
      refine ga_iload_n (z := F (b + 2) 0) hm_110 rfl rfl ?_
      refine fx_icmp_ne (a := F 107 f1.toNat) (b := F (b + 2) 0) hm_110 rfl ⟨by omega, by omega⟩ ⟨by omega, by omega⟩ (fun h166_ => ?_) (fun h167_ => ?_)
      ·
        refine fl_iconst hm_110 rfl ?_
        refine gr_i hm_110 rfl rfl (ga_nb (by omega)) ?_
        clear h121_ h122_ f119_ l120_
        refine fl_if_eq hm_106 rfl ⟨by omega, by omega⟩ (fun _ => ?_) (fun h => absurd (by omega) h)
        refine fl_iconst hm_106 rfl ?_
        refine ga_istore (lv2 := [(8, .int (Int32.ofInt 0)), (7, .int (Int32.ofInt f2)), (6, .int (Int32.ofInt f1)), (5, .int (Int32.ofInt (F 105 2))), (4, .int (Int32.ofInt (F 105 2))), (0, .ref 120), (1, .int (Int32.ofInt pr)), (2, .ref b), (3, .ref 105)]) hm_106 rfl (Nat.le_of_ble_eq_true rfl) rfl ?_
        refine ga_iload (z := 0) hm_106 rfl rfl ?_
        refine fl_if_eq hm_106 rfl ⟨by omega, by omega⟩ (fun _ => ?_) (fun h => absurd (by omega) h)
        refine ga_iload (z := 0) hm_106 rfl rfl ?_
        refine fl_if_eq hm_106 rfl ⟨by omega, by omega⟩ (fun _ => ?_) (fun h => absurd (by omega) h)
        refine ga_inc (a := f2) (c := f2 + 1) (lv2 := [(7, .int (Int32.ofInt (f2 + 1))), (8, .int (Int32.ofInt 0)), (6, .int (Int32.ofInt f1)), (5, .int (Int32.ofInt (F 105 2))), (4, .int (Int32.ofInt (F 105 2))), (0, .ref 120), (1, .int (Int32.ofInt pr)), (2, .ref b), (3, .ref 105)]) hm_106 rfl rfl (Nat.le_of_ble_eq_true rfl) rfl rfl ?_
        refine fl_goto hm_106 rfl ?_
        exact fl_R_sub (lv' := [(7, .int (Int32.ofInt (f2 + 1))), (6, .int (Int32.ofInt f1)), (5, .int (Int32.ofInt (F 105 2))), (4, .int (Int32.ofInt (F 105 2))), (0, .ref 120), (1, .int (Int32.ofInt pr)), (2, .ref b), (3, .ref 105)]) rfl rfl (ih107_ _ (by omega) (f2 + 1) F2 rfl hg_F2 hf_F2 (⟨by omega, by omega⟩))
      refine fl_iconst hm_110 rfl ?_
      refine fl_goto hm_110 rfl ?_
      refine gr_i hm_110 rfl rfl (ga_nb (by omega)) ?_
      clear h121_ h122_ f119_ l120_
      refine fl_if_eq hm_106 rfl ⟨by omega, by omega⟩ (fun h => absurd h (by omega)) (fun _ => ?_)
      refine ga_aload_n (v := .ref b) hm_106 rfl rfl rfl ?_
      refine ga_geti (z := F b 2) hm_106 rfl h_b.1.1 rfl (e113_) ?_
      refine fl_iconst hm_106 rfl ?_
      refine fl_icmp_lt (a := F b 2) (b := 2) hm_106 rfl ⟨by omega, by omega⟩ ⟨by omega, by omega⟩ (fun h168_ => ?_) (fun h169_ => ?_)
      · exfalso; omega
      refine ga_aload_n (v := .ref 105) hm_106 rfl rfl rfl ?_
      refine ga_iload (z := f2) hm_106 rfl rfl ?_
      refine ga_aload_n (v := .ref b) hm_106 rfl rfl rfl ?_
      refine ga_getr (b := b + 2) hm_106 rfl h_b.1.1 rfl ?_
      refine fl_iconst hm_106 rfl ?_
      have e170_ : F1 (b + 2) 1 = F (b + 2) 1 := (hf_F1 (b + 2) 1 (by first | exact fs_c rfl | exact (fs_n (by omega) (fs_n (by omega) rfl)))).trans (rfl)
      have e171_ : F2 (b + 2) 1 = F (b + 2) 1 := (hf_F2 (b + 2) 1 (by first | exact fs_c rfl | exact (fs_n (by omega) (fs_n (by omega) rfl)))).trans (e170_)
      have b172_ : -1 ≤ F (b + 2) 1 ∧ F (b + 2) 1 ≤ 3 := gi_g hgi (gb_a h_b.2.1.2.1)
      refine ga_iald (z := 1) (w := F (b + 2) 1) hm_106 rfl h_b.1.2.2 (by omega) (by omega) (by omega) (e171_) ?_
      refine gIi (nY := 3) (F := 0) (L := 0) (As := [.int (Int32.ofInt f2), .int (Int32.ofInt (F (b + 2) 1))]) (b := 105) (rest := []) hm_106 rfl hm_110 rfl rfl (fl_ob sc_105) rfl rfl rfl rfl rfl (by omega) (by omega) ?_
      intro f173_ l174_ h175_ h176_
      show fl_R xi_ms 110 f173_ l174_ 0 [(0, .ref 105), (1, .int (Int32.ofInt f2)), (2, .int (Int32.ofInt (F (b + 2) 1)))] [] _ _
      refine ga_iload_n (z := F (b + 2) 1) hm_110 rfl rfl ?_
      refine fl_iconst hm_110 rfl ?_
      refine fl_icmp_eq (a := F (b + 2) 1) (b := -1) hm_110 rfl ⟨by omega, by omega⟩ ⟨by omega, by omega⟩ (fun h177_ => ?_) (fun h178_ => ?_)
      ·
        refine fl_iconst hm_110 rfl ?_
        refine fl_goto hm_110 rfl ?_
        refine gr_i hm_110 rfl rfl (ga_nb (by omega)) ?_
        clear h175_ h176_ f173_ l174_
        refine fl_if_eq hm_106 rfl ⟨by omega, by omega⟩ (fun h => absurd h (by omega)) (fun _ => ?_)
        refine fl_iconst hm_106 rfl ?_
        refine fl_goto hm_106 rfl ?_
        refine ga_istore (lv2 := [(8, .int (Int32.ofInt 1)), (7, .int (Int32.ofInt f2)), (6, .int (Int32.ofInt f1)), (5, .int (Int32.ofInt (F 105 2))), (4, .int (Int32.ofInt (F 105 2))), (0, .ref 120), (1, .int (Int32.ofInt pr)), (2, .ref b), (3, .ref 105)]) hm_106 rfl (Nat.le_of_ble_eq_true rfl) rfl ?_
        refine ga_iload (z := 1) hm_106 rfl rfl ?_
        refine fl_if_eq hm_106 rfl ⟨by omega, by omega⟩ (fun h => absurd h (by omega)) (fun _ => ?_)
        refine ga_aload_n (v := .ref 120) hm_106 rfl rfl rfl ?_
        have b179_ : 0 ≤ F2 120 1 ∧ F2 120 1 ≤ 40 := gi_g hg_F2 rfl
        refine ga_geti (z := F2 120 1) hm_106 rfl sc_120 rfl (rfl) ?_
        refine fl_bipush hm_106 rfl rfl ?_
        refine fl_icmp_lt (a := F2 120 1) (b := 40) hm_106 rfl ⟨by omega, by omega⟩ ⟨by omega, by omega⟩ (fun h180_ => ?_) (fun h181_ => ?_)
        ·
          refine ga_iload (z := 1) hm_106 rfl rfl ?_
          refine fl_if_eq hm_106 rfl ⟨by omega, by omega⟩ (fun h => absurd h (by omega)) (fun _ => ?_)
          refine ga_aload_n (v := .ref 120) hm_106 rfl rfl rfl ?_
          refine ga_getr (b := 121) hm_106 rfl sc_120 rfl ?_
          refine ga_iload_n (z := pr) hm_106 rfl rfl ?_
          refine ga_iload (z := f1) hm_106 rfl rfl ?_
          refine ga_iload (z := f2) hm_106 rfl rfl ?_
          refine gJi (nY := 3) (F := 0) (L := 0) (As := [.int (Int32.ofInt pr), .int (Int32.ofInt f1), .int (Int32.ofInt f2)]) (rest := [.ref 121]) hm_106 rfl hm_107 rfl rfl (fl_pos sc_0) rfl rfl rfl rfl (by omega) (by omega) ?_
          intro f182_ l183_ h184_ h185_
          show fl_R xi_ms 107 f182_ l183_ 0 [(0, .int (Int32.ofInt pr)), (1, .int (Int32.ofInt f1)), (2, .int (Int32.ofInt f2))] [] _ _
          refine ga_iload_n (z := pr) hm_107 rfl rfl ?_
          refine fl_bipush hm_107 rfl rfl ?_
          refine ga_imul (a := pr) (b := 6) (c := 6 * pr) hm_107 rfl (by omega) ?_
          refine ga_iload_n (z := f1) hm_107 rfl rfl ?_
          refine ga_iadd (a := 6 * pr) (b := f1) (c := 6 * pr + f1) hm_107 rfl (by omega) ?_
          refine fl_bipush hm_107 rfl rfl ?_
          refine ga_imul (a := 6 * pr + f1) (b := 6) (c := 36 * pr + 6 * f1) hm_107 rfl (by omega) ?_
          refine ga_iload_n (z := f2) hm_107 rfl rfl ?_
          refine ga_iadd (a := 36 * pr + 6 * f1) (b := f2) (c := 36 * pr + 6 * f1 + f2) hm_107 rfl (by omega) ?_
          refine gr_i hm_107 rfl rfl rfl ?_
          clear h184_ h185_ f182_ l183_
          refine ga_aload_n (v := .ref 120) hm_106 rfl rfl rfl ?_
          refine ga_geti (z := F2 120 1) hm_106 rfl sc_120 rfl (rfl) ?_
          refine fl_iast (z := 36 * pr + 6 * f1 + f2) (v := F2 120 1) hm_106 rfl sc_121 (by omega) (by omega) (by omega) ?_
          refine ga_aload_n (v := .ref 120) hm_106 rfl rfl rfl ?_
          refine ga_dup hm_106 rfl rfl ?_
          refine ga_geti (z := F2 120 1) hm_106 rfl sc_120 rfl (fl_u_ne (by first | exact nc_ rfl | decide | omega)) ?_
          refine fl_iconst hm_106 rfl ?_
          refine ga_iadd (a := F2 120 1) (b := 1) (c := F2 120 1 + 1) hm_106 rfl (by omega) ?_
          refine ga_puti (z := F2 120 1 + 1) hm_106 rfl sc_120 rfl rfl ?_
          refine ga_inc (a := f2) (c := f2 + 1) (lv2 := [(7, .int (Int32.ofInt (f2 + 1))), (8, .int (Int32.ofInt 1)), (6, .int (Int32.ofInt f1)), (5, .int (Int32.ofInt (F 105 2))), (4, .int (Int32.ofInt (F 105 2))), (0, .ref 120), (1, .int (Int32.ofInt pr)), (2, .ref b), (3, .ref 105)]) hm_106 rfl rfl (Nat.le_of_ble_eq_true rfl) rfl rfl ?_
          refine fl_goto hm_106 rfl ?_
          obtain ⟨F186_, q187_⟩ : ∃ Fq_, Fq_ = (fl_u (fl_u F2 121 (36 * pr + 6 * f1 + f2).toNat (F2 120 1)) 120 1 (F2 120 1 + 1)) := ⟨_, rfl⟩
          rw [← q187_]
          have g188_ : gi F186_ := by rw [q187_]; exact gi_u (gi_u (hg_F2) rfl (by omega) (by omega)) rfl (by omega) (by omega)
          have g189_ : fs [(120, 120, 1, 1), (121, 121, 0, 100000)] F F186_ := by rw [q187_]; exact fs_u (fs_u (g109_) (fs_z (fs_y (by omega)))) rfl
          exact fl_R_sub (lv' := [(7, .int (Int32.ofInt (f2 + 1))), (6, .int (Int32.ofInt f1)), (5, .int (Int32.ofInt (F 105 2))), (4, .int (Int32.ofInt (F 105 2))), (0, .ref 120), (1, .int (Int32.ofInt pr)), (2, .ref b), (3, .ref 105)]) rfl rfl (ih107_ _ (by omega) (f2 + 1) F186_ rfl g188_ (by rw [q187_]; exact fs_u (fs_u (hf_F2) (fs_z (fs_y (by omega)))) rfl) (⟨by omega, by omega⟩))
        refine fl_iconst hm_106 rfl ?_
        refine gr_i (z := 0) hm_106 rfl rfl (ga_nb (by omega)) ?_
        exact ⟨F2, rfl, hg_F2, g109_, (⟨by omega, by omega⟩)⟩
      refine ga_aload_n (v := .ref 105) hm_110 rfl rfl rfl ?_
      refine ga_getr (b := 107) hm_110 rfl sc_105 rfl ?_
      refine ga_iload_n (z := f2) hm_110 rfl rfl ?_
      have e190_ : F1 107 f2.toNat = F 107 f2.toNat := (hf_F1 107 f2.toNat (by first | exact fs_c rfl | exact (fs_n (by omega) (fs_n (by omega) rfl)))).trans (rfl)
      have e191_ : F2 107 f2.toNat = F 107 f2.toNat := (hf_F2 107 f2.toNat (by first | exact fs_c rfl | exact (fs_n (by omega) (fs_n (by omega) rfl)))).trans (e190_)
      have b192_ : -1 ≤ F 107 f2.toNat ∧ F 107 f2.toNat ≤ 3 := gi_g hgi rfl
      refine ga_iald (z := f2) (w := F 107 f2.toNat) hm_110 rfl sc_107 (by omega) (by omega) (by omega) (e191_) ?_
      refine ga_iload_n (z := F (b + 2) 1) hm_110 rfl rfl ?_
      refine fx_icmp_ne (a := F 107 f2.toNat) (b := F (b + 2) 1) hm_110 rfl ⟨by omega, by omega⟩ ⟨by omega, by omega⟩ (fun h193_ => ?_) (fun h194_ => ?_)
      ·
        refine fl_iconst hm_110 rfl ?_
        refine gr_i hm_110 rfl rfl (ga_nb (by omega)) ?_
        clear h175_ h176_ f173_ l174_
        refine fl_if_eq hm_106 rfl ⟨by omega, by omega⟩ (fun _ => ?_) (fun h => absurd (by omega) h)
        refine fl_iconst hm_106 rfl ?_
        refine ga_istore (lv2 := [(8, .int (Int32.ofInt 0)), (7, .int (Int32.ofInt f2)), (6, .int (Int32.ofInt f1)), (5, .int (Int32.ofInt (F 105 2))), (4, .int (Int32.ofInt (F 105 2))), (0, .ref 120), (1, .int (Int32.ofInt pr)), (2, .ref b), (3, .ref 105)]) hm_106 rfl (Nat.le_of_ble_eq_true rfl) rfl ?_
        refine ga_iload (z := 0) hm_106 rfl rfl ?_
        refine fl_if_eq hm_106 rfl ⟨by omega, by omega⟩ (fun _ => ?_) (fun h => absurd (by omega) h)
        refine ga_iload (z := 0) hm_106 rfl rfl ?_
        refine fl_if_eq hm_106 rfl ⟨by omega, by omega⟩ (fun _ => ?_) (fun h => absurd (by omega) h)
        refine ga_inc (a := f2) (c := f2 + 1) (lv2 := [(7, .int (Int32.ofInt (f2 + 1))), (8, .int (Int32.ofInt 0)), (6, .int (Int32.ofInt f1)), (5, .int (Int32.ofInt (F 105 2))), (4, .int (Int32.ofInt (F 105 2))), (0, .ref 120), (1, .int (Int32.ofInt pr)), (2, .ref b), (3, .ref 105)]) hm_106 rfl rfl (Nat.le_of_ble_eq_true rfl) rfl rfl ?_
        refine fl_goto hm_106 rfl ?_
        exact fl_R_sub (lv' := [(7, .int (Int32.ofInt (f2 + 1))), (6, .int (Int32.ofInt f1)), (5, .int (Int32.ofInt (F 105 2))), (4, .int (Int32.ofInt (F 105 2))), (0, .ref 120), (1, .int (Int32.ofInt pr)), (2, .ref b), (3, .ref 105)]) rfl rfl (ih107_ _ (by omega) (f2 + 1) F2 rfl hg_F2 hf_F2 (⟨by omega, by omega⟩))
      refine fl_iconst hm_110 rfl ?_
      refine fl_goto hm_110 rfl ?_
      refine gr_i hm_110 rfl rfl (ga_nb (by omega)) ?_
      clear h175_ h176_ f173_ l174_
      refine fl_if_eq hm_106 rfl ⟨by omega, by omega⟩ (fun h => absurd h (by omega)) (fun _ => ?_)
      refine fl_iconst hm_106 rfl ?_
      refine fl_goto hm_106 rfl ?_
      refine ga_istore (lv2 := [(8, .int (Int32.ofInt 1)), (7, .int (Int32.ofInt f2)), (6, .int (Int32.ofInt f1)), (5, .int (Int32.ofInt (F 105 2))), (4, .int (Int32.ofInt (F 105 2))), (0, .ref 120), (1, .int (Int32.ofInt pr)), (2, .ref b), (3, .ref 105)]) hm_106 rfl (Nat.le_of_ble_eq_true rfl) rfl ?_
      refine ga_iload (z := 1) hm_106 rfl rfl ?_
      refine fl_if_eq hm_106 rfl ⟨by omega, by omega⟩ (fun h => absurd h (by omega)) (fun _ => ?_)
      refine ga_aload_n (v := .ref 120) hm_106 rfl rfl rfl ?_
      have b195_ : 0 ≤ F2 120 1 ∧ F2 120 1 ≤ 40 := gi_g hg_F2 rfl
      refine ga_geti (z := F2 120 1) hm_106 rfl sc_120 rfl (rfl) ?_
      refine fl_bipush hm_106 rfl rfl ?_
      refine fl_icmp_lt (a := F2 120 1) (b := 40) hm_106 rfl ⟨by omega, by omega⟩ ⟨by omega, by omega⟩ (fun h196_ => ?_) (fun h197_ => ?_)
      ·
        refine ga_iload (z := 1) hm_106 rfl rfl ?_
        refine fl_if_eq hm_106 rfl ⟨by omega, by omega⟩ (fun h => absurd h (by omega)) (fun _ => ?_)
        refine ga_aload_n (v := .ref 120) hm_106 rfl rfl rfl ?_
        refine ga_getr (b := 121) hm_106 rfl sc_120 rfl ?_
        refine ga_iload_n (z := pr) hm_106 rfl rfl ?_
        refine ga_iload (z := f1) hm_106 rfl rfl ?_
        refine ga_iload (z := f2) hm_106 rfl rfl ?_
        refine gJi (nY := 3) (F := 0) (L := 0) (As := [.int (Int32.ofInt pr), .int (Int32.ofInt f1), .int (Int32.ofInt f2)]) (rest := [.ref 121]) hm_106 rfl hm_107 rfl rfl (fl_pos sc_0) rfl rfl rfl rfl (by omega) (by omega) ?_
        intro f198_ l199_ h200_ h201_
        show fl_R xi_ms 107 f198_ l199_ 0 [(0, .int (Int32.ofInt pr)), (1, .int (Int32.ofInt f1)), (2, .int (Int32.ofInt f2))] [] _ _
        refine ga_iload_n (z := pr) hm_107 rfl rfl ?_
        refine fl_bipush hm_107 rfl rfl ?_
        refine ga_imul (a := pr) (b := 6) (c := 6 * pr) hm_107 rfl (by omega) ?_
        refine ga_iload_n (z := f1) hm_107 rfl rfl ?_
        refine ga_iadd (a := 6 * pr) (b := f1) (c := 6 * pr + f1) hm_107 rfl (by omega) ?_
        refine fl_bipush hm_107 rfl rfl ?_
        refine ga_imul (a := 6 * pr + f1) (b := 6) (c := 36 * pr + 6 * f1) hm_107 rfl (by omega) ?_
        refine ga_iload_n (z := f2) hm_107 rfl rfl ?_
        refine ga_iadd (a := 36 * pr + 6 * f1) (b := f2) (c := 36 * pr + 6 * f1 + f2) hm_107 rfl (by omega) ?_
        refine gr_i hm_107 rfl rfl rfl ?_
        clear h200_ h201_ f198_ l199_
        refine ga_aload_n (v := .ref 120) hm_106 rfl rfl rfl ?_
        refine ga_geti (z := F2 120 1) hm_106 rfl sc_120 rfl (rfl) ?_
        refine fl_iast (z := 36 * pr + 6 * f1 + f2) (v := F2 120 1) hm_106 rfl sc_121 (by omega) (by omega) (by omega) ?_
        refine ga_aload_n (v := .ref 120) hm_106 rfl rfl rfl ?_
        refine ga_dup hm_106 rfl rfl ?_
        refine ga_geti (z := F2 120 1) hm_106 rfl sc_120 rfl (fl_u_ne (by first | exact nc_ rfl | decide | omega)) ?_
        refine fl_iconst hm_106 rfl ?_
        refine ga_iadd (a := F2 120 1) (b := 1) (c := F2 120 1 + 1) hm_106 rfl (by omega) ?_
        refine ga_puti (z := F2 120 1 + 1) hm_106 rfl sc_120 rfl rfl ?_
        refine ga_inc (a := f2) (c := f2 + 1) (lv2 := [(7, .int (Int32.ofInt (f2 + 1))), (8, .int (Int32.ofInt 1)), (6, .int (Int32.ofInt f1)), (5, .int (Int32.ofInt (F 105 2))), (4, .int (Int32.ofInt (F 105 2))), (0, .ref 120), (1, .int (Int32.ofInt pr)), (2, .ref b), (3, .ref 105)]) hm_106 rfl rfl (Nat.le_of_ble_eq_true rfl) rfl rfl ?_
        refine fl_goto hm_106 rfl ?_
        obtain ⟨F202_, q203_⟩ : ∃ Fq_, Fq_ = (fl_u (fl_u F2 121 (36 * pr + 6 * f1 + f2).toNat (F2 120 1)) 120 1 (F2 120 1 + 1)) := ⟨_, rfl⟩
        rw [← q203_]
        have g204_ : gi F202_ := by rw [q203_]; exact gi_u (gi_u (hg_F2) rfl (by omega) (by omega)) rfl (by omega) (by omega)
        have g205_ : fs [(120, 120, 1, 1), (121, 121, 0, 100000)] F F202_ := by rw [q203_]; exact fs_u (fs_u (g109_) (fs_z (fs_y (by omega)))) rfl
        exact fl_R_sub (lv' := [(7, .int (Int32.ofInt (f2 + 1))), (6, .int (Int32.ofInt f1)), (5, .int (Int32.ofInt (F 105 2))), (4, .int (Int32.ofInt (F 105 2))), (0, .ref 120), (1, .int (Int32.ofInt pr)), (2, .ref b), (3, .ref 105)]) rfl rfl (ih107_ _ (by omega) (f2 + 1) F202_ rfl g204_ (by rw [q203_]; exact fs_u (fs_u (hf_F2) (fs_z (fs_y (by omega)))) rfl) (⟨by omega, by omega⟩))
      refine fl_iconst hm_106 rfl ?_
      refine gr_i (z := 0) hm_106 rfl rfl (ga_nb (by omega)) ?_
      exact ⟨F2, rfl, hg_F2, g109_, (⟨by omega, by omega⟩)⟩
    exact L106_ _ (0) F1 rfl hg_F1 fs_refl (⟨by omega, by omega⟩)
  exact L99_ _ (0) F rfl hgi fs_refl (⟨by omega, by omega⟩)
/- CheapPlanner$Ground.numberFacts -/
abbrev pq_105 (G : Nat → Nat → Option Nat) (F : fl_N) (X : xi_H)  : Outcome → xi_H → Prop := gqi (fun z A => ∃ F' : fl_N, fl_H sh_T G F' ++ X = A ∧ gi F' ∧ fs [(120, 120, 1, 1), (121, 121, 0, 100000)] F F' ∧ (0 ≤ z ∧ z ≤ 1)) gqn
theorem mc_105 {G : Nat → Nat → Option Nat} (hG : gg G) (F : fl_N) (X : xi_H) (hgi : gi F)  : fl_M xi_ms 105 2 50 [.ref 120, .ref 7, .ref 105] (fl_H sh_T G F ++ X) (pq_105 G F X) := by
  intro fr lo hfr hlo
  show fl_R xi_ms 105 fr lo 0 [(0, .ref 120), (1, .ref 7), (2, .ref 105)] [] _ _
  refine ga_aload_n (v := .ref 120) hm_105 rfl rfl rfl ?_
  refine fl_iconst hm_105 rfl ?_
  refine ga_puti (z := 0) hm_105 rfl sc_120 rfl rfl ?_
  refine fl_iconst hm_105 rfl ?_
  refine ga_istore_n (lv2 := [(3, .int (Int32.ofInt 0)), (0, .ref 120), (1, .ref 7), (2, .ref 105)]) hm_105 rfl (Nat.le_of_ble_eq_true rfl) rfl ?_
  obtain ⟨F1_, q2_⟩ : ∃ Fq_, Fq_ = (fl_u F 120 1 0) := ⟨_, rfl⟩
  rw [← q2_]
  have g3_ : gi F1_ := by rw [q2_]; exact gi_u (hgi) rfl (by omega) (by omega)
  have g4_ : fs [(120, 120, 1, 1), (121, 121, 0, 100000)] F F1_ := by rw [q2_]; exact fs_u (fs_refl) rfl
  have L6_ : ∀ (n5_ : Nat) (k : Int) (F1 : fl_N), (6 - k : Int).toNat = n5_ → (gi F1) → (fs [(120, 120, 1, 1), (121, 121, 0, 100000)] F1_ F1) → (0 ≤ k ∧ k ≤ 6) → fl_R xi_ms 105 fr lo 7 [(3, .int (Int32.ofInt k)), (0, .ref 120), (1, .ref 7), (2, .ref 105)] [] (fl_H sh_T G F1 ++ X) (pq_105 G F X) := by
    intro n5_
    induction n5_ using Nat.strongRecOn with
    | ind n5_ ih7_ =>
    intro k F1 hn8_ hg_F1 hf_F1 hk
    have g9_ : fs [(120, 120, 1, 1), (121, 121, 0, 100000)] F F1 := fs_tr g4_ hf_F1 rfl
    refine ga_iload_n (z := k) hm_105 rfl rfl ?_
    refine ga_aload_n (v := .ref 7) hm_105 rfl rfl rfl ?_
    refine ga_getr (b := 11) hm_105 rfl sc_7 rfl ?_
    have e10_ : F1_ 11 2 = F 11 2 := by rw [q2_]; exact fl_u_ne (by first | exact nc_ rfl | decide | omega)
    have e11_ : F1 11 2 = F 11 2 := (hf_F1 11 2 rfl).trans (e10_)
    have b12_ : 0 ≤ F 11 2 ∧ F 11 2 ≤ 6 := gi_g hgi rfl
    refine ga_geti (z := F 11 2) hm_105 rfl sc_11 rfl (e11_) ?_
    refine fl_icmp_ge (a := k) (b := F 11 2) hm_105 rfl ⟨by omega, by omega⟩ ⟨by omega, by omega⟩ (fun h13_ => ?_) (fun h14_ => ?_)
    ·
      refine fl_iconst hm_105 rfl ?_
      refine gr_i (z := 1) hm_105 rfl rfl (ga_nb (by omega)) ?_
      exact ⟨F1, rfl, hg_F1, g9_, (⟨by omega, by omega⟩)⟩
    refine ga_aload_n (v := .ref 120) hm_105 rfl rfl rfl ?_
    refine ga_iload_n (z := k) hm_105 rfl rfl ?_
    refine ga_aload_n (v := .ref 7) hm_105 rfl rfl rfl ?_
    refine ga_getr (b := 14) hm_105 rfl sc_7 rfl ?_
    refine ga_iload_n (z := k) hm_105 rfl rfl ?_
    obtain ⟨a15_, r16_, n17_, q18_⟩ := ra_14 (k).toNat (by omega)
    refine fl_aald (z := k) (q := a15_) hm_105 rfl sc_14 (hG _ _ _ sc_14) rfl (by omega) (by simp only [List.length_cons, List.length_nil]; omega) (by simp only [List.length_cons, List.length_nil]; omega) r16_ ?_
    refine ga_aload_n (v := .ref 105) hm_105 rfl rfl rfl ?_
    refine gVi (nY := 9) (F := 1) (L := 22) (As := [.int (Int32.ofInt k), .ref a15_, .ref 105]) (b := 120) (rest := []) hm_105 rfl hm_106 rfl rfl (fl_ob sc_120) rfl rfl rfl rfl rfl (by omega) (by omega) (mc_106 hG F1 X hg_F1 (a15_) (k) n17_ (⟨by omega, by omega⟩)) (fun _ _ h => False.elim h) ?_
    rintro z19_ A1_ ⟨F21_, hA_, g22_, s23_, c20_⟩
    subst hA_
    have g24_ : fs [(120, 120, 1, 1), (121, 121, 0, 100000)] F F21_ := fs_tr g9_ s23_ rfl
    refine fx_if_ne (a := z19_) hm_105 rfl ⟨by omega, by omega⟩ (fun h25_ => ?_) (fun h26_ => ?_)
    ·
      refine ga_inc (a := k) (c := k + 1) (lv2 := [(3, .int (Int32.ofInt (k + 1))), (0, .ref 120), (1, .ref 7), (2, .ref 105)]) hm_105 rfl rfl (Nat.le_of_ble_eq_true rfl) rfl rfl ?_
      refine fl_goto hm_105 rfl ?_
      exact ih7_ _ (by omega) (k + 1) F21_ rfl g22_ (fs_tr hf_F1 s23_ rfl) (⟨by omega, by omega⟩)
    refine fl_iconst hm_105 rfl ?_
    refine gr_i (z := 0) hm_105 rfl rfl (ga_nb (by omega)) ?_
    exact ⟨F21_, rfl, g22_, g24_, (⟨by omega, by omega⟩)⟩
  exact L6_ _ (0) F1_ rfl g3_ fs_refl (⟨by omega, by omega⟩)
/- CheapPlanner$Ground.build -/
abbrev pq_101 (G : Nat → Nat → Option Nat) (F : fl_N) (X : xi_H)  : Outcome → xi_H → Prop := gqi (fun z A => ∃ F' : fl_N, fl_H sh_T G F' ++ X = A ∧ gi F' ∧ fs [(120, 120, 1, 1), (120, 120, 3, 4), (121, 121, 0, 100000), (123, 123, 0, 4), (124, 124, 0, 100000), (126, 330, 0, 100000)] F F' ∧ (0 ≤ z ∧ z ≤ 1)) gqn
theorem mc_101 {G : Nat → Nat → Option Nat} (hG : gg G) (F : fl_N) (X : xi_H) (hgi : gi F)  (hdi : di F (F 15 2).toNat) (hw8 : c68 F) (hw3 : c63 F) : fl_M xi_ms 101 6 144 [.ref 120, .ref 7, .ref 104] (fl_H sh_T G F ++ X) (pq_101 G F X) := by
  intro fr lo hfr hlo
  show fl_R xi_ms 101 fr lo 0 [(0, .ref 120), (1, .ref 7), (2, .ref 104)] [] _ _
  have hb15 : 0 ≤ F 15 2 ∧ F 15 2 ≤ 5 := gi_g hgi rfl
  refine ga_aload_n (v := .ref 120) hm_101 rfl rfl rfl ?_
  refine ga_aload_n (v := .ref 7) hm_101 rfl rfl rfl ?_
  refine ga_aload_n (v := .ref 104) hm_101 rfl rfl rfl ?_
  refine ga_getr (b := 105) hm_101 rfl sc_104 rfl ?_
  refine gVi (nY := 4) (F := 2) (L := 50) (As := [.ref 7, .ref 105]) (b := 120) (rest := []) hm_101 rfl hm_105 rfl rfl (fl_ob sc_120) rfl rfl rfl rfl rfl (by omega) (by omega) (mc_105 hG F X hgi) (fun _ _ h => False.elim h) ?_
  rintro z1_ A1_ ⟨F3_, hA_, g4_, s5_, c2_⟩
  subst hA_
  have g6_ : fs [(120, 120, 1, 1), (120, 120, 3, 4), (121, 121, 0, 100000), (123, 123, 0, 4), (124, 124, 0, 100000), (126, 330, 0, 100000)] F F3_ := fs_tr fs_refl s5_ rfl
  refine fl_if_eq (a := z1_) hm_101 rfl ⟨by omega, by omega⟩ (fun h7_ => ?_) (fun h8_ => ?_)
  ·
    refine fl_iconst hm_101 rfl ?_
    refine gr_i (z := 0) hm_101 rfl rfl (ga_nb (by omega)) ?_
    exact ⟨F3_, rfl, g4_, g6_, (⟨by omega, by omega⟩)⟩
  refine ga_aload_n (v := .ref 120) hm_101 rfl rfl rfl ?_
  refine ga_aload_n (v := .ref 7) hm_101 rfl rfl rfl ?_
  refine ga_aload_n (v := .ref 104) hm_101 rfl rfl rfl ?_
  refine ga_getr (b := 105) hm_101 rfl sc_104 rfl ?_
  have e9_ : F3_ 15 2 = F 15 2 := (s5_ 15 2 rfl).trans (rfl)
  refine gVi (nY := 4) (F := 5) (L := 121) (As := [.ref 7, .ref 105]) (b := 120) (rest := []) hm_101 rfl hm_103 rfl rfl (fl_ob sc_120) rfl rfl rfl rfl rfl (by omega) (by omega) (mc_103 hG F3_ X g4_ (by rw [e9_]; exact (di_fs hdi s5_ (by first | exact fs_rg rfl | exact fun r j hj => (fs_n (by omega) (fs_n (by omega) rfl)))))) (fun _ _ h => False.elim h) ?_
  rintro z10_ A1_ ⟨F12_, hA_, g13_, s14_, c11_⟩
  subst hA_
  have g15_ : fs [(120, 120, 1, 1), (120, 120, 3, 4), (121, 121, 0, 100000), (123, 123, 0, 4), (124, 124, 0, 100000), (126, 330, 0, 100000)] F F12_ := fs_tr g6_ s14_ rfl
  refine fx_if_ne (a := z10_) hm_101 rfl ⟨by omega, by omega⟩ (fun h16_ => ?_) (fun h17_ => ?_)
  ·
    refine ga_aload_n (v := .ref 120) hm_101 rfl rfl rfl ?_
    refine ga_lconst (z := 0) hm_101 rfl rfl ?_
    refine ga_putl hm_101 rfl sc_120 rfl rfl ?_
    refine fl_iconst hm_101 rfl ?_
    refine ga_istore_n (lv2 := [(3, .int (Int32.ofInt 0)), (0, .ref 120), (1, .ref 7), (2, .ref 104)]) hm_101 rfl (Nat.le_of_ble_eq_true rfl) rfl ?_
    obtain ⟨F18_, q19_⟩ : ∃ Fq_, Fq_ = (fl_u F12_ 120 4 0) := ⟨_, rfl⟩
    rw [← q19_]
    have g20_ : gi F18_ := by rw [q19_]; exact gi_u (g13_) rfl (by omega) (by omega)
    have g21_ : fs [(120, 120, 1, 1), (120, 120, 3, 4), (121, 121, 0, 100000), (123, 123, 0, 4), (124, 124, 0, 100000), (126, 330, 0, 100000)] F F18_ := by rw [q19_]; exact fs_u (g15_) rfl
    have L23_ : ∀ (n22_ : Nat) (k : Int) (F1 : fl_N), (12 - k : Int).toNat = n22_ → (gi F1) → (fs [(120, 120, 4, 4)] F18_ F1) → (0 ≤ k ∧ k ≤ 12) → fl_R xi_ms 101 fr lo 33 [(3, .int (Int32.ofInt k)), (0, .ref 120), (1, .ref 7), (2, .ref 104)] [] (fl_H sh_T G F1 ++ X) (pq_101 G F X) := by
      intro n22_
      induction n22_ using Nat.strongRecOn with
      | ind n22_ ih24_ =>
      intro k F1 hn25_ hg_F1 hf_F1 hk
      have g26_ : fs [(120, 120, 1, 1), (120, 120, 3, 4), (121, 121, 0, 100000), (123, 123, 0, 4), (124, 124, 0, 100000), (126, 330, 0, 100000)] F F1 := fs_tr g21_ hf_F1 rfl
      refine ga_iload_n (z := k) hm_101 rfl rfl ?_
      refine ga_aload_n (v := .ref 104) hm_101 rfl rfl rfl ?_
      refine ga_getr (b := 108) hm_101 rfl sc_104 rfl ?_
      have e27_ : F3_ 108 4 = F 108 4 := (s5_ 108 4 rfl).trans (rfl)
      have e28_ : F12_ 108 4 = F 108 4 := (s14_ 108 4 rfl).trans (e27_)
      have e29_ : F18_ 108 4 = F 108 4 := by rw [q19_]; exact (fl_u_ne (by first | exact nc_ rfl | decide | omega)).trans (e28_)
      have e30_ : F1 108 4 = F 108 4 := (hf_F1 108 4 rfl).trans (e29_)
      have b31_ : 0 ≤ F 108 4 ∧ F 108 4 ≤ 12 := gi_g hgi rfl
      refine ga_geti (z := F 108 4) hm_101 rfl sc_108 rfl (e30_) ?_
      refine fl_icmp_ge (a := k) (b := F 108 4) hm_101 rfl ⟨by omega, by omega⟩ ⟨by omega, by omega⟩ (fun h32_ => ?_) (fun h33_ => ?_)
      ·
        refine ga_aload_n (v := .ref 120) hm_101 rfl rfl rfl ?_
        refine ga_getr (b := 123) hm_101 rfl sc_120 rfl ?_
        refine ga_aload_n (v := .ref 104) hm_101 rfl rfl rfl ?_
        refine ga_getr (b := 113) hm_101 rfl sc_104 rfl ?_
        refine ga_aload_n (v := .ref 120) hm_101 rfl rfl rfl ?_
        refine ga_getr (b := 125) hm_101 rfl sc_120 rfl ?_
        refine ga_aload_n (v := .ref 120) hm_101 rfl rfl rfl ?_
        refine gVv (nY := 6) (F := 2) (L := 47) (As := [.ref 113, .ref 125, .ref 120]) (b := 123) (rest := []) hm_101 rfl hm_112 rfl rfl (fl_ob sc_123) rfl rfl rfl rfl rfl (by omega) (by omega) (mc_112 hG F1 X hg_F1 (123) (113) (125) (6) (-1) (5) (6) nd_123 cl_113 sc_125 (by omega) (Or.inr ⟨rfl, rfl⟩) ((cw_fs (by rw [q19_]; exact (cw_u (cw_fs (cw_fs hw3 s5_ (by first | exact fs_rg rfl | exact fun r j hj => (fs_n (by omega) (fs_n (by omega) rfl)))) s14_ (by first | exact fs_rg rfl | exact fun r j hj => (fs_n (by omega) (fs_n (by omega) rfl)))) (by omega))) hf_F1 (by first | exact fs_rg rfl | exact fun r j hj => (fs_n (by omega) rfl)))) (⟨by omega, by omega⟩) (fun j _ => gi_g (r := 125) (k := j) hg_F1 rfl)) (fun _ _ h => False.elim h) ?_
        rintro A1_ ⟨F35_, hA_, g36_, s37_⟩
        subst hA_
        have g38_ : fs [(120, 120, 1, 1), (120, 120, 3, 4), (121, 121, 0, 100000), (123, 123, 0, 4), (124, 124, 0, 100000), (126, 330, 0, 100000)] F F35_ := fs_tr g26_ s37_ rfl
        refine fl_iconst hm_101 rfl ?_
        refine gr_i (z := 1) hm_101 rfl rfl (ga_nb (by omega)) ?_
        exact ⟨F35_, rfl, g36_, g38_, (⟨by omega, by omega⟩)⟩
      refine ga_aload_n (v := .ref 120) hm_101 rfl rfl rfl ?_
      refine ga_dup hm_101 rfl rfl ?_
      have b39_ : -9223372036854775808 ≤ F1 120 4 ∧ F1 120 4 ≤ 9223372036854775807 := gi_g hg_F1 rfl
      refine ga_getl (z := F1 120 4) hm_101 rfl sc_120 rfl (rfl) ?_
      refine ga_lconst (z := 1) hm_101 rfl rfl ?_
      refine ga_aload_n (v := .ref 120) hm_101 rfl rfl rfl ?_
      refine ga_aload_n (v := .ref 104) hm_101 rfl rfl rfl ?_
      refine ga_getr (b := 108) hm_101 rfl sc_104 rfl ?_
      refine ga_iload_n (z := k) hm_101 rfl rfl ?_
      refine ga_aload_n (v := .ref 120) hm_101 rfl rfl rfl ?_
      refine ga_getr (b := 125) hm_101 rfl sc_120 rfl ?_
      refine gVi (nY := 6) (F := 1) (L := 22) (As := [.ref 108, .int (Int32.ofInt k), .ref 125]) (b := 120) (rest := [.long (Int64.ofInt 1), .long (Int64.ofInt (F1 120 4)), .ref 120]) hm_101 rfl hm_102 rfl rfl (fl_ob sc_120) rfl rfl rfl rfl rfl (by omega) (by omega) (mc_102 hG F1 X hg_F1 (108) (12) (125) (6) (5) (0) (k) (6) cl_108 sc_125 (by omega) ((cw_fs (by rw [q19_]; exact (cw_u (cw_fs (cw_fs hw8 s5_ (by first | exact fs_rg rfl | exact fun r j hj => (fs_n (by omega) (fs_n (by omega) rfl)))) s14_ (by first | exact fs_rg rfl | exact fun r j hj => (fs_n (by omega) (fs_n (by omega) rfl)))) (by omega))) hf_F1 (by first | exact fs_rg rfl | exact fun r j hj => (fs_n (by omega) rfl)))) (⟨by omega, by omega⟩) (fun j _ => gi_g (r := 125) (k := j) hg_F1 rfl) (⟨by omega, by omega⟩) ((gi_g (r := 109) (k := k.toNat) hg_F1 rfl).1)) (fun _ _ h => False.elim h) ?_
      rintro z40_ A1_ ⟨hA_, c41_⟩
      subst hA_
      refine ga_lany hm_101 rfl rfl rfl (fun z42_ ⟨h43_, h44_⟩ => ?_)
      refine ga_lany hm_101 rfl rfl rfl (fun z45_ ⟨h46_, h47_⟩ => ?_)
      refine ga_putl hm_101 rfl sc_120 rfl rfl ?_
      refine ga_inc (a := k) (c := k + 1) (lv2 := [(3, .int (Int32.ofInt (k + 1))), (0, .ref 120), (1, .ref 7), (2, .ref 104)]) hm_101 rfl rfl (Nat.le_of_ble_eq_true rfl) rfl rfl ?_
      refine fl_goto hm_101 rfl ?_
      obtain ⟨F48_, q49_⟩ : ∃ Fq_, Fq_ = (fl_u F1 120 4 z45_) := ⟨_, rfl⟩
      rw [← q49_]
      have g50_ : gi F48_ := by rw [q49_]; exact gi_u (hg_F1) rfl (by omega) (by omega)
      have g51_ : fs [(120, 120, 1, 1), (120, 120, 3, 4), (121, 121, 0, 100000), (123, 123, 0, 4), (124, 124, 0, 100000), (126, 330, 0, 100000)] F F48_ := by rw [q49_]; exact fs_u (g26_) rfl
      exact ih24_ _ (by omega) (k + 1) F48_ rfl g50_ (by rw [q49_]; exact fs_u (hf_F1) rfl) (⟨by omega, by omega⟩)
    exact L23_ _ (0) F18_ rfl g20_ fs_refl (⟨by omega, by omega⟩)
  refine fl_iconst hm_101 rfl ?_
  refine gr_i (z := 0) hm_101 rfl rfl (ga_nb (by omega)) ?_
  exact ⟨F12_, rfl, g13_, g15_, (⟨by omega, by omega⟩)⟩

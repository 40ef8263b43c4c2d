/- CheapPlanner$ClauseReader.readIncrease -/
abbrev pq_92 (G : Nat → Nat → Option Nat) (F : fl_N) (X : xi_H) (K : fl_N) (b nb : Nat) (t q : Int) : Outcome → xi_H → Prop := gqv (fun A => ∃ F' : fl_N, fl_H sh_T G F' ++ X = A ∧ gi F' ∧ fs [(1, 1, 7, 8), (b, b, 5, 5)] F F' ∧ (sp_inc K (F b 5) (F 1 7) = .inr (F' 1 7, F' b 5)) ∧ (0 ≤ F' 1 7 ∧ F' 1 7 ≤ K 1 6 - 1)) (fun j A => ∃ F' : fl_N, (387 + X.length = j ∧ fl_H sh_T G F' ++ (X ++ [gx 14]) = A) ∧ gi F' ∧ fs [(1, 1, 7, 8), (b, b, 5, 5)] F F' ∧ (∃ e, sp_inc K (F b 5) (F 1 7) = .inl e ∧ F' 1 8 = e.1 + 10 * e.2))
theorem mc_92 {G : Nat → Nat → Option Nat} (hG : gg G) (F : fl_N) (X : xi_H) (hgi : gi F) (K : fl_N) (b nb : Nat) (t q : Int) (hgK : gi K) (hK : tkh K F) (hko : tko K) (hp : 0 ≤ F 1 7 ∧ F 1 7 ≤ K 1 6 - 1) (h_b : cl b nb t q) : fl_M xi_ms 92 8 144 [.ref 119, .ref b] (fl_H sh_T G F ++ X) (pq_92 G F X K b nb t q) := by
  intro fr lo hfr hlo
  show fl_R xi_ms 92 fr lo 0 [(0, .ref 119), (1, .ref b)] [] _ _
  have hr_b := h_b.2.2
  refine ga_aload_n (v := .ref b) hm_92 rfl rfl rfl ?_
  have b1_ : 0 ≤ F b 5 ∧ F b 5 ≤ 999 := gi_g hgi h_b.2.1.2.1
  refine ga_geti (z := F b 5) hm_92 rfl h_b.1.1 rfl (rfl) ?_
  refine fl_if_eq (a := F b 5) hm_92 rfl ⟨by omega, by omega⟩ (fun h2_ => ?_) (fun h3_ => ?_)
  ·
    refine ga_aload_n (v := .ref 119) hm_92 rfl rfl rfl ?_
    refine ga_getr (b := 1) hm_92 rfl sc_119 rfl ?_
    have b4_ : 0 ≤ F 1 7 ∧ F 1 7 ≤ 600 := gi_g hgi rfl
    refine gVv (nY := 1) (F := 0) (L := 0) (As := []) (b := 1) (rest := []) hm_92 rfl hm_154 rfl rfl (fl_ob sc_1) rfl rfl rfl rfl rfl (by omega) (by omega) (mc_154 hG F X hgi (K) hgK hK hko (by omega)) (fun _ _ h => False.elim h) ?_
    rintro A1_ ⟨F8_, hA_, g9_, s10_, c6_, c7_⟩
    subst hA_
    have g11_ : fs [(1, 1, 7, 8), (b, b, 5, 5)] F F8_ := fs_tr fs_refl s10_ (by simp [fs_le]; try omega)
    have tk12_ : tkh K F8_ := tkh_fs hK s10_ (fun r k h => (fs_n (by omega) rfl)) (fs_n (by omega) rfl)
    refine ga_aload_n (v := .ref 119) hm_92 rfl rfl rfl ?_
    refine ga_getr (b := 1) hm_92 rfl sc_119 rfl ?_
    refine fl_iconst hm_92 rfl ?_
    have b13_ : 0 ≤ F8_ 1 7 ∧ F8_ 1 7 ≤ 600 := gi_g g9_ rfl
    refine gVv (nY := 2) (F := 7) (L := 121) (As := [.int (Int32.ofInt 0)]) (b := 1) (rest := []) hm_92 rfl hm_24 rfl rfl (fl_ob sc_1) rfl rfl rfl rfl rfl (by omega) (by omega) (mc_24 hG F8_ X g9_ (K) (0) hgK tk12_ hko (by omega) (by omega)) ?_ ?_
    ·
      rintro j_ A1_ ⟨F15_, ⟨hJ_, hA_⟩, g16_, s17_, c14_⟩
      subst hA_
      subst hJ_
      refine ⟨rfl, ?_⟩
      refine gw_v ?_
      have g18_ : fs [(1, 1, 7, 8), (b, b, 5, 5)] F F15_ := fs_tr g11_ s17_ (by simp [fs_le]; try omega)
      have b19_ : 0 ≤ F15_ 1 8 ∧ F15_ 1 8 ≤ 100000 := gi_g g16_ rfl
      exact ⟨F15_, ⟨rfl, rfl⟩, g16_, g18_, (by obtain ⟨e, c1, c2⟩ := c14_; exact ⟨e, (by rw [sp_inc, if_pos (by omega), c6_]; rw [c1]; try rfl), c2⟩)⟩
    rintro A1_ ⟨F23_, hA_, g24_, s25_, c21_, c22_⟩
    subst hA_
    have g26_ : fs [(1, 1, 7, 8), (b, b, 5, 5)] F F23_ := fs_tr g11_ s25_ (by simp [fs_le]; try omega)
    have tk27_ : tkh K F23_ := tkh_fs tk12_ s25_ (fun r k h => (fs_n (by omega) rfl)) (fs_n (by omega) rfl)
    refine ga_aload_n (v := .ref 119) hm_92 rfl rfl rfl ?_
    refine ga_getr (b := 1) hm_92 rfl sc_119 rfl ?_
    refine ga_ldcs hm_92 rfl ?_
    have b28_ : 0 ≤ F23_ 1 7 ∧ F23_ 1 7 ≤ 600 := gi_g g24_ rfl
    refine gVv (nY := 2) (F := 7) (L := 123) (As := [.retAddr 11]) (b := 1) (rest := []) hm_92 rfl hm_155 rfl rfl (fl_ob sc_1) rfl rfl rfl rfl rfl (by omega) (by omega) (mc_155 hG F23_ X g24_ (K) (11) ([116, 111, 116, 97, 108, 45, 99, 111, 115, 116]) hgK tk27_ hko (by omega) (rfl) (by decide)) ?_ ?_
    ·
      rintro j_ A1_ ⟨F30_, ⟨hJ_, hA_⟩, g31_, s32_, c29_⟩
      subst hA_
      subst hJ_
      refine ⟨rfl, ?_⟩
      refine gw_v ?_
      have g33_ : fs [(1, 1, 7, 8), (b, b, 5, 5)] F F30_ := fs_tr g26_ s32_ (by simp [fs_le]; try omega)
      have b34_ : 0 ≤ F30_ 1 8 ∧ F30_ 1 8 ≤ 100000 := gi_g g31_ rfl
      exact ⟨F30_, ⟨rfl, rfl⟩, g31_, g33_, (by obtain ⟨e, c1, c2⟩ := c29_; exact ⟨e, (by rw [sp_inc, if_pos (by omega), c6_]; rw [c21_]; simp only [pb]; rw [c1]; try rfl), c2⟩)⟩
    rintro A1_ ⟨F38_, hA_, g39_, s40_, c36_, c37_⟩
    subst hA_
    have g41_ : fs [(1, 1, 7, 8), (b, b, 5, 5)] F F38_ := fs_tr g26_ s40_ (by simp [fs_le]; try omega)
    have tk42_ : tkh K F38_ := tkh_fs tk27_ s40_ (fun r k h => (fs_n (by omega) rfl)) (fs_n (by omega) rfl)
    refine ga_aload_n (v := .ref 119) hm_92 rfl rfl rfl ?_
    refine ga_getr (b := 1) hm_92 rfl sc_119 rfl ?_
    refine fl_iconst hm_92 rfl ?_
    have b43_ : 0 ≤ F38_ 1 7 ∧ F38_ 1 7 ≤ 600 := gi_g g39_ rfl
    refine gVv (nY := 2) (F := 7) (L := 121) (As := [.int (Int32.ofInt 1)]) (b := 1) (rest := []) hm_92 rfl hm_24 rfl rfl (fl_ob sc_1) rfl rfl rfl rfl rfl (by omega) (by omega) (mc_24 hG F38_ X g39_ (K) (1) hgK tk42_ hko (by omega) (by omega)) ?_ ?_
    ·
      rintro j_ A1_ ⟨F45_, ⟨hJ_, hA_⟩, g46_, s47_, c44_⟩
      subst hA_
      subst hJ_
      refine ⟨rfl, ?_⟩
      refine gw_v ?_
      have g48_ : fs [(1, 1, 7, 8), (b, b, 5, 5)] F F45_ := fs_tr g41_ s47_ (by simp [fs_le]; try omega)
      have b49_ : 0 ≤ F45_ 1 8 ∧ F45_ 1 8 ≤ 100000 := gi_g g46_ rfl
      exact ⟨F45_, ⟨rfl, rfl⟩, g46_, g48_, (by obtain ⟨e, c1, c2⟩ := c44_; exact ⟨e, (by rw [sp_inc, if_pos (by omega), c6_]; rw [c21_]; simp only [pb]; rw [c36_]; simp only [pb]; rw [c1]; try rfl), c2⟩)⟩
    rintro A1_ ⟨F53_, hA_, g54_, s55_, c51_, c52_⟩
    subst hA_
    have g56_ : fs [(1, 1, 7, 8), (b, b, 5, 5)] F F53_ := fs_tr g41_ s55_ (by simp [fs_le]; try omega)
    have tk57_ : tkh K F53_ := tkh_fs tk42_ s55_ (fun r k h => (fs_n (by omega) rfl)) (fs_n (by omega) rfl)
    refine ga_aload_n (v := .ref b) hm_92 rfl rfl rfl ?_
    refine ga_aload_n (v := .ref 119) hm_92 rfl rfl rfl ?_
    refine ga_getr (b := 1) hm_92 rfl sc_119 rfl ?_
    have b58_ : 0 ≤ F53_ 1 7 ∧ F53_ 1 7 ≤ 600 := gi_g g54_ rfl
    refine gVi (nY := 4) (F := 0) (L := 0) (As := []) (b := 1) (rest := [.ref b]) hm_92 rfl hm_151 rfl rfl (fl_ob sc_1) rfl rfl rfl rfl rfl (by omega) (by omega) (mc_151 hG F53_ X g54_ (K) hgK tk57_ hko (by omega)) (fun _ _ h => False.elim h) ?_
    rintro z59_ A1_ ⟨hA_, c60_, c61_⟩
    subst hA_
    refine ga_puti (z := z59_) hm_92 rfl h_b.1.1 rfl rfl ?_
    refine ga_aload_n (v := .ref b) hm_92 rfl rfl rfl ?_
    refine ga_geti (z := z59_) hm_92 rfl h_b.1.1 rfl (fl_u_eq) ?_
    refine fx_if_ne (a := z59_) hm_92 rfl ⟨by omega, by omega⟩ (fun h62_ => ?_) (fun h63_ => ?_)
    ·
      refine ga_aload_n (v := .ref 119) hm_92 rfl rfl rfl ?_
      refine ga_getr (b := 1) hm_92 rfl sc_119 rfl ?_
      obtain ⟨F64_, q65_⟩ : ∃ F9_, F9_ = (fl_u F53_ b 5 z59_) := ⟨_, rfl⟩
      rw [← q65_]
      have g66_ : gi F64_ := by rw [q65_]; exact gi_u (g54_) h_b.2.1.2.1 (by omega) (by omega)
      have g67_ : fs [(1, 1, 7, 8), (b, b, 5, 5)] F F64_ := by rw [q65_]; exact fs_u (g56_) (fs_z (fs_y (by omega)))
      have tk68_ : tkh K F64_ := by rw [q65_]; exact tkh_u (tk57_) (by omega) (by omega)
      have e69_ : F64_ 1 7 = F53_ 1 7 := by rw [q65_]; exact fl_u_ne (by omega)
      refine gVv (nY := 1) (F := 0) (L := 0) (As := []) (b := 1) (rest := []) hm_92 rfl hm_154 rfl rfl (fl_ob sc_1) rfl rfl rfl rfl rfl (by omega) (by omega) (mc_154 hG F64_ X g66_ (K) hgK tk68_ hko (by omega)) (fun _ _ h => False.elim h) ?_
      rintro A1_ ⟨F73_, hA_, g74_, s75_, c71_, c72_⟩
      subst hA_
      have g76_ : fs [(1, 1, 7, 8), (b, b, 5, 5)] F F73_ := fs_tr g67_ s75_ (by simp [fs_le]; try omega)
      have tk77_ : tkh K F73_ := tkh_fs tk68_ s75_ (fun r k h => (fs_n (by omega) rfl)) (fs_n (by omega) rfl)
      try rw [e69_] at c71_
      refine ga_aload_n (v := .ref 119) hm_92 rfl rfl rfl ?_
      refine ga_getr (b := 1) hm_92 rfl sc_119 rfl ?_
      refine fl_iconst hm_92 rfl ?_
      have b78_ : 0 ≤ F73_ 1 7 ∧ F73_ 1 7 ≤ 600 := gi_g g74_ rfl
      refine gVv (nY := 2) (F := 7) (L := 121) (As := [.int (Int32.ofInt 1)]) (b := 1) (rest := []) hm_92 rfl hm_24 rfl rfl (fl_ob sc_1) rfl rfl rfl rfl rfl (by omega) (by omega) (mc_24 hG F73_ X g74_ (K) (1) hgK tk77_ hko (by omega) (by omega)) ?_ ?_
      ·
        rintro j_ A1_ ⟨F80_, ⟨hJ_, hA_⟩, g81_, s82_, c79_⟩
        subst hA_
        subst hJ_
        refine ⟨rfl, ?_⟩
        refine gw_v ?_
        have g83_ : fs [(1, 1, 7, 8), (b, b, 5, 5)] F F80_ := fs_tr g76_ s82_ (by simp [fs_le]; try omega)
        have b84_ : 0 ≤ F80_ 1 8 ∧ F80_ 1 8 ≤ 100000 := gi_g g81_ rfl
        exact ⟨F80_, ⟨rfl, rfl⟩, g81_, g83_, (by obtain ⟨e, c1, c2⟩ := c79_; exact ⟨e, (by rw [sp_inc, if_pos (by omega), c6_]; rw [c21_]; simp only [pb]; rw [c36_]; simp only [pb]; rw [c51_]; simp only [pb]; rw [if_neg (by omega), c71_]; rw [c1]; try rfl), c2⟩)⟩
      rintro A1_ ⟨F88_, hA_, g89_, s90_, c86_, c87_⟩
      subst hA_
      have g91_ : fs [(1, 1, 7, 8), (b, b, 5, 5)] F F88_ := fs_tr g76_ s90_ (by simp [fs_le]; try omega)
      have tk92_ : tkh K F88_ := tkh_fs tk77_ s90_ (fun r k h => (fs_n (by omega) rfl)) (fs_n (by omega) rfl)
      refine gr_v hm_92 rfl rfl ?_
      have b93_ : 0 ≤ F88_ 1 7 ∧ F88_ 1 7 ≤ 600 := gi_g g89_ rfl
      have e94_ : F64_ b 5 = z59_ := by rw [q65_]; exact fl_u_eq
      have e95_ : F73_ b 5 = z59_ := (s75_ b 5 (fs_n (by omega) rfl)).trans (e94_)
      have e96_ : F88_ b 5 = z59_ := (s90_ b 5 (fs_n (by omega) rfl)).trans (e95_)
      exact ⟨F88_, rfl, g89_, g91_, (by rw [sp_inc, if_pos (by omega), c6_]; rw [c21_]; simp only [pb]; rw [c36_]; simp only [pb]; rw [c51_]; simp only [pb]; rw [if_neg (by omega), c71_]; rw [c86_]; simp only [pb]; rw [e96_, c60_]), (by omega)⟩
    refine ga_aload_n (v := .ref 119) hm_92 rfl rfl rfl ?_
    refine ga_getr (b := 1) hm_92 rfl sc_119 rfl ?_
    refine fl_iconst hm_92 rfl ?_
    refine gIv (nY := 2) (F := 6) (L := 100) (As := [.int (Int32.ofInt 1)]) (b := 1) (rest := []) hm_92 rfl hm_25 rfl rfl (fl_ob sc_1) rfl rfl rfl rfl rfl (by omega) (by omega) ?_
    intro f97_ l98_ h99_ h100_
    show fl_R xi_ms 25 f97_ l98_ 0 [(0, .ref 1), (1, .int (Int32.ofInt 1))] [] _ _
    refine ga_aload_n (v := .ref 1) hm_25 rfl rfl rfl ?_
    refine ga_iload_n (z := 1) hm_25 rfl rfl ?_
    refine fl_bipush hm_25 rfl rfl ?_
    refine ga_aload_n (v := .ref 1) hm_25 rfl rfl rfl ?_
    refine ga_getr (b := 4) hm_25 rfl sc_1 rfl ?_
    refine ga_aload_n (v := .ref 1) hm_25 rfl rfl rfl ?_
    refine ga_geti (z := F53_ 1 7) hm_25 rfl sc_1 rfl (fl_u_ne (by omega)) ?_
    have e101_ : F53_ 4 (F53_ 1 7).toNat = K 4 (F53_ 1 7).toNat := tk57_.1 4 (F53_ 1 7).toNat (by omega)
    have b102_ : 0 ≤ K 4 (F53_ 1 7).toNat ∧ K 4 (F53_ 1 7).toNat ≤ 600 := gi_g hgK rfl
    refine ga_iald (z := F53_ 1 7) (w := K 4 (F53_ 1 7).toNat) hm_25 rfl sc_4 (by omega) (by omega) (by omega) ((fl_u_ne (by omega)).trans (e101_)) ?_
    refine ga_imul (a := 10) (b := K 4 (F53_ 1 7).toNat) (c := 10 * (K 4 (F53_ 1 7).toNat)) hm_25 rfl (by omega) ?_
    refine ga_iadd (a := 1) (b := 10 * (K 4 (F53_ 1 7).toNat)) (c := 10 * (K 4 (F53_ 1 7).toNat) + 1) hm_25 rfl (by omega) ?_
    refine ga_puti (z := 10 * (K 4 (F53_ 1 7).toNat) + 1) hm_25 rfl sc_1 rfl rfl ?_
    obtain ⟨F103_, q104_⟩ : ∃ F9_, F9_ = (fl_u (fl_u F53_ b 5 z59_) 1 8 (10 * (K 4 (F53_ 1 7).toNat) + 1)) := ⟨_, rfl⟩
    rw [← q104_]
    have g105_ : gi F103_ := by rw [q104_]; exact gi_u (gi_u (g54_) h_b.2.1.2.1 (by omega) (by omega)) rfl (by omega) (by omega)
    have g106_ : fs [(1, 1, 7, 8), (b, b, 5, 5)] F F103_ := by rw [q104_]; exact fs_u (fs_u (g56_) (fs_z (fs_y (by omega)))) (fs_y (by omega))
    have tk107_ : tkh K F103_ := by rw [q104_]; exact tkh_u (tkh_u (tk57_) (by omega) (by omega)) (by omega) (by omega)
    refine fl_thr hm_25 rfl rfl (by omega) (by omega) (Nat.le_of_ble_eq_true rfl) (fl_pos sc_0) ?_
    refine gw_v ⟨rfl, ?_⟩
    refine gw_v ?_
    have e108_ : F103_ 1 8 = 10 * (K 4 (F53_ 1 7).toNat) + 1 := by rw [q104_]; exact fl_u_eq
    exact ⟨F103_, ⟨ga_len.symm, (List.append_assoc _ _ _).symm⟩, g105_, g106_, (⟨(1, K 4 (F53_ 1 7).toNat), by rw [sp_inc, if_pos (by omega), c6_]; rw [c21_]; simp only [pb]; rw [c36_]; simp only [pb]; rw [c51_]; simp only [pb]; rw [if_pos (by omega)]; rfl, by show _ = (1 : Int) + 10 * K 4 (F53_ 1 7).toNat; omega⟩)⟩
  refine ga_aload_n (v := .ref 119) hm_92 rfl rfl rfl ?_
  refine ga_getr (b := 1) hm_92 rfl sc_119 rfl ?_
  refine fl_iconst hm_92 rfl ?_
  refine gIv (nY := 2) (F := 6) (L := 100) (As := [.int (Int32.ofInt 5)]) (b := 1) (rest := []) hm_92 rfl hm_25 rfl rfl (fl_ob sc_1) rfl rfl rfl rfl rfl (by omega) (by omega) ?_
  intro f109_ l110_ h111_ h112_
  show fl_R xi_ms 25 f109_ l110_ 0 [(0, .ref 1), (1, .int (Int32.ofInt 5))] [] _ _
  refine ga_aload_n (v := .ref 1) hm_25 rfl rfl rfl ?_
  refine ga_iload_n (z := 5) hm_25 rfl rfl ?_
  refine fl_bipush hm_25 rfl rfl ?_
  refine ga_aload_n (v := .ref 1) hm_25 rfl rfl rfl ?_
  refine ga_getr (b := 4) hm_25 rfl sc_1 rfl ?_
  refine ga_aload_n (v := .ref 1) hm_25 rfl rfl rfl ?_
  have b113_ : 0 ≤ F 1 7 ∧ F 1 7 ≤ 600 := gi_g hgi rfl
  refine ga_geti (z := F 1 7) hm_25 rfl sc_1 rfl (rfl) ?_
  have e114_ : F 4 (F 1 7).toNat = K 4 (F 1 7).toNat := hK.1 4 (F 1 7).toNat (by omega)
  have b115_ : 0 ≤ K 4 (F 1 7).toNat ∧ K 4 (F 1 7).toNat ≤ 600 := gi_g hgK rfl
  refine ga_iald (z := F 1 7) (w := K 4 (F 1 7).toNat) hm_25 rfl sc_4 (by omega) (by omega) (by omega) (e114_) ?_
  refine ga_imul (a := 10) (b := K 4 (F 1 7).toNat) (c := 10 * (K 4 (F 1 7).toNat)) hm_25 rfl (by omega) ?_
  refine ga_iadd (a := 5) (b := 10 * (K 4 (F 1 7).toNat)) (c := 10 * (K 4 (F 1 7).toNat) + 5) hm_25 rfl (by omega) ?_
  refine ga_puti (z := 10 * (K 4 (F 1 7).toNat) + 5) hm_25 rfl sc_1 rfl rfl ?_
  obtain ⟨F116_, q117_⟩ : ∃ F9_, F9_ = (fl_u F 1 8 (10 * (K 4 (F 1 7).toNat) + 5)) := ⟨_, rfl⟩
  rw [← q117_]
  have g118_ : gi F116_ := by rw [q117_]; exact gi_u (hgi) rfl (by omega) (by omega)
  have g119_ : fs [(1, 1, 7, 8), (b, b, 5, 5)] F F116_ := by rw [q117_]; exact fs_u (fs_refl) (fs_y (by omega))
  have tk120_ : tkh K F116_ := by rw [q117_]; exact tkh_u (hK) (by omega) (by omega)
  refine fl_thr hm_25 rfl rfl (by omega) (by omega) (Nat.le_of_ble_eq_true rfl) (fl_pos sc_0) ?_
  refine gw_v ⟨rfl, ?_⟩
  refine gw_v ?_
  have e121_ : F116_ 1 8 = 10 * (K 4 (F 1 7).toNat) + 5 := by rw [q117_]; exact fl_u_eq
  exact ⟨F116_, ⟨ga_len.symm, (List.append_assoc _ _ _).symm⟩, g118_, g119_, (⟨(5, K 4 (F 1 7).toNat), by rw [sp_inc, if_neg (by omega)]; rfl, by show _ = (5 : Int) + 10 * K 4 (F 1 7).toNat; omega⟩)⟩

theorem spm_step {K : fl_N} {e : Bool} {k : Int} {l tl pl : List Int} {ps : List (List Int)} {i c p : Int} (h : i < 4) (hk : i = 0 ∨ K 3 p.toNat = 0) : sp_mems K e k l tl pl ps (4 - i).toNat (decide (i = 0)) c p = pb (sp_kind K 0 p) fun p => pb (sp_mem K e k l tl pl ps c p) fun q => sp_mems K e k l tl pl ps (4 - (i + 1)).toNat false q.2 q.1 := by
  rw [show (4 - i).toNat = (4 - (i + 1)).toNat + 1 by omega]
  conv => lhs; unfold sp_mems
  rw [if_neg]
  rintro ⟨h1, h2⟩
  rcases hk with hk | hk
  · simp [hk] at h1
  · exact h2 hk
theorem spm_z {K : fl_N} {e b : Bool} {k : Int} {l tl pl : List Int} {ps : List (List Int)} {i c p : Int} (h : 4 ≤ i) : sp_mems K e k l tl pl ps (4 - i).toNat b c p = .inr (p, c) := by
  rw [show (4 - i).toNat = 0 by omega]
  rfl
theorem spm_e {K : fl_N} {e : Bool} {k : Int} {l tl pl : List Int} {ps : List (List Int)} {m : Nat} {i c p : Int} (h : ¬ i = 0) (hk : ¬ K 3 p.toNat = 0) : sp_mems K e k l tl pl ps m (decide (i = 0)) c p = .inr (p, c) := by
  cases m with
  | zero => rfl
  | succ m =>
    unfold sp_mems
    rw [if_pos ⟨decide_eq_false h, hk⟩]

/- CheapPlanner$ClauseReader.readIncrease -/
abbrev pq_92 (G : Nat → Nat → Option Nat) (F : fl_N) (X : xi_H) (K : fl_N) (b nb : Nat) (t q : Int) : Outcome → xi_H → Prop := gqv (fun A => ∃ F' : fl_N, fl_H sh_T G F' ++ X = A ∧ gi F' ∧ fs [(1, 1, 7, 7), (b, b, 5, 5)] F F' ∧ (sp_inc K (F b 5) (F 1 7) = .inr (F' 1 7, F' b 5)) ∧ (0 ≤ F' 1 7 ∧ F' 1 7 ≤ K 1 6 - 1)) (fun j A => ∃ F' : fl_N, (387 + X.length = j ∧ fl_H sh_T G F' ++ (X ++ [gx 14]) = A) ∧ gi F' ∧ fs [(1, 1, 7, 8), (b, b, 5, 5)] F F' ∧ (∃ e, sp_inc K (F b 5) (F 1 7) = .inl e ∧ F' 1 8 = e.1 + 10 * e.2))
theorem mc_92 {G : Nat → Nat → Option Nat} (hG : gg G) (F : fl_N) (X : xi_H) (hgi : gi F) (K : fl_N) (b nb : Nat) (t q : Int) (hgK : gi K) (hK : tkh K F) (hko : tko K) (hp : 0 ≤ F 1 7 ∧ F 1 7 ≤ K 1 6 - 1) (h_b : cl b nb t q) : fl_M xi_ms 92 8 144 [.ref 119, .ref b] (fl_H sh_T G F ++ X) (pq_92 G F X K b nb t q) := by
  intro fr lo hfr hlo
  show fl_R xi_ms 92 fr lo 0 [(0, .ref 119), (1, .ref b)] [] _ _
  have hr_b := h_b.2.2
  refine ga_aload_n (v := .ref b) hm_92 rfl rfl rfl ?_
  have b1_ : 0 ≤ F b 5 ∧ F b 5 ≤ 999 := gi_g hgi h_b.2.1.2.1
  refine ga_geti (z := F b 5) hm_92 rfl h_b.1.1 rfl (rfl) ?_
  refine fl_if_eq (a := F b 5) hm_92 rfl ⟨by omega, by omega⟩ (fun h2_ => ?_) (fun h3_ => ?_)
  ·
    refine ga_aload_n (v := .ref 119) hm_92 rfl rfl rfl ?_
    refine ga_getr (b := 1) hm_92 rfl sc_119 rfl ?_
    have b4_ : 0 ≤ F 1 7 ∧ F 1 7 ≤ 600 := gi_g hgi rfl
    refine gVv (nY := 1) (F := 0) (L := 0) (As := []) (b := 1) (rest := []) hm_92 rfl hm_154 rfl rfl (fl_ob sc_1) rfl rfl rfl rfl rfl (by omega) (by omega) (mc_154 hG F X hgi (K) hgK hK hko (by omega)) (fun _ _ h => False.elim h) ?_
    rintro A1_ ⟨F8_, hA_, g9_, s10_, c6_, c7_⟩
    subst hA_
    have g11_ : fs [(1, 1, 7, 7), (b, b, 5, 5)] F F8_ := fs_tr fs_refl s10_ (by simp [fs_le]; try omega)
    have tk12_ : tkh K F8_ := tkh_fs hK s10_ (fun r k h => (fs_n (by omega) rfl)) (fs_n (by omega) rfl)
    refine ga_aload_n (v := .ref 119) hm_92 rfl rfl rfl ?_
    refine ga_getr (b := 1) hm_92 rfl sc_119 rfl ?_
    refine fl_iconst hm_92 rfl ?_
    have b13_ : 0 ≤ F8_ 1 7 ∧ F8_ 1 7 ≤ 600 := gi_g g9_ rfl
    refine gVv (nY := 2) (F := 7) (L := 121) (As := [.int (Int32.ofInt 0)]) (b := 1) (rest := []) hm_92 rfl hm_24 rfl rfl (fl_ob sc_1) rfl rfl rfl rfl rfl (by omega) (by omega) (mc_24 hG F8_ X g9_ (K) (0) hgK tk12_ hko (by omega) (by omega)) ?_ ?_
    ·
      rintro j_ A1_ ⟨F15_, ⟨hJ_, hA_⟩, g16_, s17_, c14_⟩
      subst hA_
      subst hJ_
      refine ⟨rfl, ?_⟩
      refine gw_v ?_
      have g18_ : fs [(1, 1, 7, 8), (b, b, 5, 5)] F F15_ := fs_tr (fs_tr fs_refl g11_ (by simp [fs_le]; try omega)) s17_ (by simp [fs_le]; try omega)
      have b19_ : 0 ≤ F15_ 1 8 ∧ F15_ 1 8 ≤ 100000 := gi_g g16_ rfl
      exact ⟨F15_, ⟨rfl, rfl⟩, g16_, g18_, (by obtain ⟨e, c1, c2⟩ := c14_; exact ⟨e, (by rw [sp_inc, if_pos (by omega), c6_]; rw [c1]; try rfl), c2⟩)⟩
    rintro A1_ ⟨F23_, hA_, g24_, s25_, c21_, c22_⟩
    subst hA_
    have g26_ : fs [(1, 1, 7, 7), (b, b, 5, 5)] F F23_ := fs_tr g11_ s25_ (by simp [fs_le]; try omega)
    have tk27_ : tkh K F23_ := tkh_fs tk12_ s25_ (fun r k h => (fs_n (by omega) rfl)) (fs_n (by omega) rfl)
    refine ga_aload_n (v := .ref 119) hm_92 rfl rfl rfl ?_
    refine ga_getr (b := 1) hm_92 rfl sc_119 rfl ?_
    refine ga_ldcs hm_92 rfl ?_
    have b28_ : 0 ≤ F23_ 1 7 ∧ F23_ 1 7 ≤ 600 := gi_g g24_ rfl
    refine gVv (nY := 2) (F := 7) (L := 123) (As := [.retAddr 11]) (b := 1) (rest := []) hm_92 rfl hm_155 rfl rfl (fl_ob sc_1) rfl rfl rfl rfl rfl (by omega) (by omega) (mc_155 hG F23_ X g24_ (K) (11) ([116, 111, 116, 97, 108, 45, 99, 111, 115, 116]) hgK tk27_ hko (by omega) (rfl) (by decide)) ?_ ?_
    ·
      rintro j_ A1_ ⟨F30_, ⟨hJ_, hA_⟩, g31_, s32_, c29_⟩
      subst hA_
      subst hJ_
      refine ⟨rfl, ?_⟩
      refine gw_v ?_
      have g33_ : fs [(1, 1, 7, 8), (b, b, 5, 5)] F F30_ := fs_tr (fs_tr fs_refl g26_ (by simp [fs_le]; try omega)) s32_ (by simp [fs_le]; try omega)
      have b34_ : 0 ≤ F30_ 1 8 ∧ F30_ 1 8 ≤ 100000 := gi_g g31_ rfl
      exact ⟨F30_, ⟨rfl, rfl⟩, g31_, g33_, (by obtain ⟨e, c1, c2⟩ := c29_; exact ⟨e, (by rw [sp_inc, if_pos (by omega), c6_]; rw [c21_]; simp only [pb]; rw [c1]; try rfl), c2⟩)⟩
    rintro A1_ ⟨F38_, hA_, g39_, s40_, c36_, c37_⟩
    subst hA_
    have g41_ : fs [(1, 1, 7, 7), (b, b, 5, 5)] F F38_ := fs_tr g26_ s40_ (by simp [fs_le]; try omega)
    have tk42_ : tkh K F38_ := tkh_fs tk27_ s40_ (fun r k h => (fs_n (by omega) rfl)) (fs_n (by omega) rfl)
    refine ga_aload_n (v := .ref 119) hm_92 rfl rfl rfl ?_
    refine ga_getr (b := 1) hm_92 rfl sc_119 rfl ?_
    refine fl_iconst hm_92 rfl ?_
    have b43_ : 0 ≤ F38_ 1 7 ∧ F38_ 1 7 ≤ 600 := gi_g g39_ rfl
    refine gVv (nY := 2) (F := 7) (L := 121) (As := [.int (Int32.ofInt 1)]) (b := 1) (rest := []) hm_92 rfl hm_24 rfl rfl (fl_ob sc_1) rfl rfl rfl rfl rfl (by omega) (by omega) (mc_24 hG F38_ X g39_ (K) (1) hgK tk42_ hko (by omega) (by omega)) ?_ ?_
    ·
      rintro j_ A1_ ⟨F45_, ⟨hJ_, hA_⟩, g46_, s47_, c44_⟩
      subst hA_
      subst hJ_
      refine ⟨rfl, ?_⟩
      refine gw_v ?_
      have g48_ : fs [(1, 1, 7, 8), (b, b, 5, 5)] F F45_ := fs_tr (fs_tr fs_refl g41_ (by simp [fs_le]; try omega)) s47_ (by simp [fs_le]; try omega)
      have b49_ : 0 ≤ F45_ 1 8 ∧ F45_ 1 8 ≤ 100000 := gi_g g46_ rfl
      exact ⟨F45_, ⟨rfl, rfl⟩, g46_, g48_, (by obtain ⟨e, c1, c2⟩ := c44_; exact ⟨e, (by rw [sp_inc, if_pos (by omega), c6_]; rw [c21_]; simp only [pb]; rw [c36_]; simp only [pb]; rw [c1]; try rfl), c2⟩)⟩
    rintro A1_ ⟨F53_, hA_, g54_, s55_, c51_, c52_⟩
    subst hA_
    have g56_ : fs [(1, 1, 7, 7), (b, b, 5, 5)] F F53_ := fs_tr g41_ s55_ (by simp [fs_le]; try omega)
    have tk57_ : tkh K F53_ := tkh_fs tk42_ s55_ (fun r k h => (fs_n (by omega) rfl)) (fs_n (by omega) rfl)
    refine ga_aload_n (v := .ref b) hm_92 rfl rfl rfl ?_
    refine ga_aload_n (v := .ref 119) hm_92 rfl rfl rfl ?_
    refine ga_getr (b := 1) hm_92 rfl sc_119 rfl ?_
    have b58_ : 0 ≤ F53_ 1 7 ∧ F53_ 1 7 ≤ 600 := gi_g g54_ rfl
    refine gVi (nY := 4) (F := 0) (L := 0) (As := []) (b := 1) (rest := [.ref b]) hm_92 rfl hm_151 rfl rfl (fl_ob sc_1) rfl rfl rfl rfl rfl (by omega) (by omega) (mc_151 hG F53_ X g54_ (K) hgK tk57_ hko (by omega)) (fun _ _ h => False.elim h) ?_
    rintro z59_ A1_ ⟨hA_, c60_, c61_⟩
    subst hA_
    refine ga_puti (z := z59_) hm_92 rfl h_b.1.1 rfl rfl ?_
    refine ga_aload_n (v := .ref b) hm_92 rfl rfl rfl ?_
    refine ga_geti (z := z59_) hm_92 rfl h_b.1.1 rfl (fl_u_eq) ?_
    refine fx_if_ne (a := z59_) hm_92 rfl ⟨by omega, by omega⟩ (fun h62_ => ?_) (fun h63_ => ?_)
    ·
      refine ga_aload_n (v := .ref 119) hm_92 rfl rfl rfl ?_
      refine ga_getr (b := 1) hm_92 rfl sc_119 rfl ?_
      obtain ⟨F64_, q65_⟩ : ∃ F9_, F9_ = (fl_u F53_ b 5 z59_) := ⟨_, rfl⟩
      rw [← q65_]
      have g66_ : gi F64_ := by rw [q65_]; exact gi_u (g54_) h_b.2.1.2.1 (by omega) (by omega)
      have g67_ : fs [(1, 1, 7, 7), (b, b, 5, 5)] F F64_ := by rw [q65_]; exact fs_u (g56_) (fs_z (fs_y (by omega)))
      have tk68_ : tkh K F64_ := by rw [q65_]; exact tkh_u (tk57_) (by omega) (by omega)
      have e69_ : F64_ 1 7 = F53_ 1 7 := by rw [q65_]; exact fl_u_ne (by omega)
      refine gVv (nY := 1) (F := 0) (L := 0) (As := []) (b := 1) (rest := []) hm_92 rfl hm_154 rfl rfl (fl_ob sc_1) rfl rfl rfl rfl rfl (by omega) (by omega) (mc_154 hG F64_ X g66_ (K) hgK tk68_ hko (by omega)) (fun _ _ h => False.elim h) ?_
      rintro A1_ ⟨F73_, hA_, g74_, s75_, c71_, c72_⟩
      subst hA_
      have g76_ : fs [(1, 1, 7, 7), (b, b, 5, 5)] F F73_ := fs_tr g67_ s75_ (by simp [fs_le]; try omega)
      have tk77_ : tkh K F73_ := tkh_fs tk68_ s75_ (fun r k h => (fs_n (by omega) rfl)) (fs_n (by omega) rfl)
      try simp only [e69_] at c71_
      refine ga_aload_n (v := .ref 119) hm_92 rfl rfl rfl ?_
      refine ga_getr (b := 1) hm_92 rfl sc_119 rfl ?_
      refine fl_iconst hm_92 rfl ?_
      have b78_ : 0 ≤ F73_ 1 7 ∧ F73_ 1 7 ≤ 600 := gi_g g74_ rfl
      refine gVv (nY := 2) (F := 7) (L := 121) (As := [.int (Int32.ofInt 1)]) (b := 1) (rest := []) hm_92 rfl hm_24 rfl rfl (fl_ob sc_1) rfl rfl rfl rfl rfl (by omega) (by omega) (mc_24 hG F73_ X g74_ (K) (1) hgK tk77_ hko (by omega) (by omega)) ?_ ?_
      ·
        rintro j_ A1_ ⟨F80_, ⟨hJ_, hA_⟩, g81_, s82_, c79_⟩
        subst hA_
        subst hJ_
        refine ⟨rfl, ?_⟩
        refine gw_v ?_
        have g83_ : fs [(1, 1, 7, 8), (b, b, 5, 5)] F F80_ := fs_tr (fs_tr fs_refl g76_ (by simp [fs_le]; try omega)) s82_ (by simp [fs_le]; try omega)
        have b84_ : 0 ≤ F80_ 1 8 ∧ F80_ 1 8 ≤ 100000 := gi_g g81_ rfl
        exact ⟨F80_, ⟨rfl, rfl⟩, g81_, g83_, (by obtain ⟨e, c1, c2⟩ := c79_; exact ⟨e, (by rw [sp_inc, if_pos (by omega), c6_]; rw [c21_]; simp only [pb]; rw [c36_]; simp only [pb]; rw [c51_]; simp only [pb]; rw [if_neg (by omega), c71_]; rw [c1]; try rfl), c2⟩)⟩
      rintro A1_ ⟨F88_, hA_, g89_, s90_, c86_, c87_⟩
      subst hA_
      have g91_ : fs [(1, 1, 7, 7), (b, b, 5, 5)] F F88_ := fs_tr g76_ s90_ (by simp [fs_le]; try omega)
      have tk92_ : tkh K F88_ := tkh_fs tk77_ s90_ (fun r k h => (fs_n (by omega) rfl)) (fs_n (by omega) rfl)
      refine gr_v hm_92 rfl rfl ?_
      have b93_ : 0 ≤ F88_ 1 7 ∧ F88_ 1 7 ≤ 600 := gi_g g89_ rfl
      have e94_ : F64_ b 5 = z59_ := by rw [q65_]; exact fl_u_eq
      have e95_ : F73_ b 5 = z59_ := (s75_ b 5 (fs_n (by omega) rfl)).trans (e94_)
      have e96_ : F88_ b 5 = z59_ := (s90_ b 5 (fs_n (by omega) rfl)).trans (e95_)
      exact ⟨F88_, rfl, g89_, g91_, (by rw [sp_inc, if_pos (by omega), c6_]; rw [c21_]; simp only [pb]; rw [c36_]; simp only [pb]; rw [c51_]; simp only [pb]; rw [if_neg (by omega), c71_]; rw [c86_]; simp only [pb]; rw [e96_, c60_]), (by omega)⟩
    refine ga_aload_n (v := .ref 119) hm_92 rfl rfl rfl ?_
    refine ga_getr (b := 1) hm_92 rfl sc_119 rfl ?_
    refine fl_iconst hm_92 rfl ?_
    refine gIv (nY := 2) (F := 6) (L := 100) (As := [.int (Int32.ofInt 1)]) (b := 1) (rest := []) hm_92 rfl hm_25 rfl rfl (fl_ob sc_1) rfl rfl rfl rfl rfl (by omega) (by omega) ?_
    intro f97_ l98_ h99_ h100_
    show fl_R xi_ms 25 f97_ l98_ 0 [(0, .ref 1), (1, .int (Int32.ofInt 1))] [] _ _
    refine ga_aload_n (v := .ref 1) hm_25 rfl rfl rfl ?_
    refine ga_iload_n (z := 1) hm_25 rfl rfl ?_
    refine fl_bipush hm_25 rfl rfl ?_
    refine ga_aload_n (v := .ref 1) hm_25 rfl rfl rfl ?_
    refine ga_getr (b := 4) hm_25 rfl sc_1 rfl ?_
    refine ga_aload_n (v := .ref 1) hm_25 rfl rfl rfl ?_
    refine ga_geti (z := F53_ 1 7) hm_25 rfl sc_1 rfl (fl_u_ne (by omega)) ?_
    have e101_ : F53_ 4 (F53_ 1 7).toNat = K 4 (F53_ 1 7).toNat := tk57_.1 4 (F53_ 1 7).toNat (by omega)
    have b102_ : 0 ≤ K 4 (F53_ 1 7).toNat ∧ K 4 (F53_ 1 7).toNat ≤ 600 := gi_g hgK rfl
    refine ga_iald (z := F53_ 1 7) (w := K 4 (F53_ 1 7).toNat) hm_25 rfl sc_4 (by omega) (by omega) (by omega) ((fl_u_ne (by omega)).trans (e101_)) ?_
    refine ga_imul (a := 10) (b := K 4 (F53_ 1 7).toNat) (c := 10 * (K 4 (F53_ 1 7).toNat)) hm_25 rfl (by omega) ?_
    refine ga_iadd (a := 1) (b := 10 * (K 4 (F53_ 1 7).toNat)) (c := 10 * (K 4 (F53_ 1 7).toNat) + 1) hm_25 rfl (by omega) ?_
    refine ga_puti (z := 10 * (K 4 (F53_ 1 7).toNat) + 1) hm_25 rfl sc_1 rfl rfl ?_
    obtain ⟨F103_, q104_⟩ : ∃ F9_, F9_ = (fl_u (fl_u F53_ b 5 z59_) 1 8 (10 * (K 4 (F53_ 1 7).toNat) + 1)) := ⟨_, rfl⟩
    rw [← q104_]
    have g105_ : gi F103_ := by rw [q104_]; exact gi_u (gi_u (g54_) h_b.2.1.2.1 (by omega) (by omega)) rfl (by omega) (by omega)
    have g106_ : fs [(1, 1, 7, 8), (b, b, 5, 5)] F F103_ := by rw [q104_]; exact fs_u (fs_u ((fs_tr fs_refl g56_ (by simp [fs_le]; try omega))) (fs_z (fs_y (by omega)))) (fs_y (by omega))
    have tk107_ : tkh K F103_ := by rw [q104_]; exact tkh_u (tkh_u (tk57_) (by omega) (by omega)) (by omega) (by omega)
    refine fl_thr hm_25 rfl rfl (by omega) (by omega) (Nat.le_of_ble_eq_true rfl) (fl_pos sc_0) ?_
    refine gw_v ⟨rfl, ?_⟩
    refine gw_v ?_
    have e108_ : F103_ 1 8 = 10 * (K 4 (F53_ 1 7).toNat) + 1 := by rw [q104_]; exact fl_u_eq
    exact ⟨F103_, ⟨ga_len.symm, (List.append_assoc _ _ _).symm⟩, g105_, g106_, (⟨(1, K 4 (F53_ 1 7).toNat), by rw [sp_inc, if_pos (by omega), c6_]; rw [c21_]; simp only [pb]; rw [c36_]; simp only [pb]; rw [c51_]; simp only [pb]; rw [if_pos (by omega)]; rfl, by show _ = (1 : Int) + 10 * K 4 (F53_ 1 7).toNat; omega⟩)⟩
  refine ga_aload_n (v := .ref 119) hm_92 rfl rfl rfl ?_
  refine ga_getr (b := 1) hm_92 rfl sc_119 rfl ?_
  refine fl_iconst hm_92 rfl ?_
  refine gIv (nY := 2) (F := 6) (L := 100) (As := [.int (Int32.ofInt 5)]) (b := 1) (rest := []) hm_92 rfl hm_25 rfl rfl (fl_ob sc_1) rfl rfl rfl rfl rfl (by omega) (by omega) ?_
  intro f109_ l110_ h111_ h112_
  show fl_R xi_ms 25 f109_ l110_ 0 [(0, .ref 1), (1, .int (Int32.ofInt 5))] [] _ _
  refine ga_aload_n (v := .ref 1) hm_25 rfl rfl rfl ?_
  refine ga_iload_n (z := 5) hm_25 rfl rfl ?_
  refine fl_bipush hm_25 rfl rfl ?_
  refine ga_aload_n (v := .ref 1) hm_25 rfl rfl rfl ?_
  refine ga_getr (b := 4) hm_25 rfl sc_1 rfl ?_
  refine ga_aload_n (v := .ref 1) hm_25 rfl rfl rfl ?_
  have b113_ : 0 ≤ F 1 7 ∧ F 1 7 ≤ 600 := gi_g hgi rfl
  refine ga_geti (z := F 1 7) hm_25 rfl sc_1 rfl (rfl) ?_
  have e114_ : F 4 (F 1 7).toNat = K 4 (F 1 7).toNat := hK.1 4 (F 1 7).toNat (by omega)
  have b115_ : 0 ≤ K 4 (F 1 7).toNat ∧ K 4 (F 1 7).toNat ≤ 600 := gi_g hgK rfl
  refine ga_iald (z := F 1 7) (w := K 4 (F 1 7).toNat) hm_25 rfl sc_4 (by omega) (by omega) (by omega) (e114_) ?_
  refine ga_imul (a := 10) (b := K 4 (F 1 7).toNat) (c := 10 * (K 4 (F 1 7).toNat)) hm_25 rfl (by omega) ?_
  refine ga_iadd (a := 5) (b := 10 * (K 4 (F 1 7).toNat)) (c := 10 * (K 4 (F 1 7).toNat) + 5) hm_25 rfl (by omega) ?_
  refine ga_puti (z := 10 * (K 4 (F 1 7).toNat) + 5) hm_25 rfl sc_1 rfl rfl ?_
  obtain ⟨F116_, q117_⟩ : ∃ F9_, F9_ = (fl_u F 1 8 (10 * (K 4 (F 1 7).toNat) + 5)) := ⟨_, rfl⟩
  rw [← q117_]
  have g118_ : gi F116_ := by rw [q117_]; exact gi_u (hgi) rfl (by omega) (by omega)
  have g119_ : fs [(1, 1, 7, 8), (b, b, 5, 5)] F F116_ := by rw [q117_]; exact fs_u (fs_refl) (fs_y (by omega))
  have tk120_ : tkh K F116_ := by rw [q117_]; exact tkh_u (hK) (by omega) (by omega)
  refine fl_thr hm_25 rfl rfl (by omega) (by omega) (Nat.le_of_ble_eq_true rfl) (fl_pos sc_0) ?_
  refine gw_v ⟨rfl, ?_⟩
  refine gw_v ?_
  have e121_ : F116_ 1 8 = 10 * (K 4 (F 1 7).toNat) + 5 := by rw [q117_]; exact fl_u_eq
  exact ⟨F116_, ⟨ga_len.symm, (List.append_assoc _ _ _).symm⟩, g118_, g119_, (⟨(5, K 4 (F 1 7).toNat), by rw [sp_inc, if_neg (by omega)]; rfl, by show _ = (5 : Int) + 10 * K 4 (F 1 7).toNat; omega⟩)⟩
/- CheapPlanner$ClauseReader.readMember -/
abbrev pq_93 (G : Nat → Nat → Option Nat) (F : fl_N) (X : xi_H) (K : fl_N) (a n b nb : Nat) (t q k : Int) (l tl pl : List Int) (ps : List (List Int)) (ee : Bool) (ef : Int) (L : List lt_T) : Outcome → xi_H → Prop := gqv (fun A => ∃ F' : fl_N, fl_H sh_T G F' ++ X = A ∧ gi F' ∧ fs [(1, 1, 7, 7), (b, b, 4, 5), (b + 1, b + 4, 0, 100000)] F F' ∧ (sp_mem K ee k l tl pl ps (F b 5) (F 1 7) = .inr (F' 1 7, F' b 5)) ∧ (0 ≤ F' 1 7 ∧ F' 1 7 ≤ K 1 6 - 1) ∧ (cw F' b (l.length : Int)) ∧ (clr F' b (L ++ mem_d K ee l pl ps (F 1 7)))) (fun j A => ∃ F' : fl_N, (387 + X.length = j ∧ fl_H sh_T G F' ++ (X ++ [gx 14]) = A) ∧ gi F' ∧ fs [(1, 1, 7, 8), (b, b, 4, 5), (b + 1, b + 4, 0, 100000)] F F' ∧ (∃ e, sp_mem K ee k l tl pl ps (F b 5) (F 1 7) = .inl e ∧ F' 1 8 = e.1 + 10 * e.2))
theorem mc_93 {G : Nat → Nat → Option Nat} (hG : gg G) (F : fl_N) (X : xi_H) (hgi : gi F) (K : fl_N) (a n b nb : Nat) (t q k : Int) (l tl pl : List Int) (ps : List (List Int)) (ee : Bool) (ef : Int) (L : List lt_T) (hgK : gi K) (hK : tkh K F) (hko : tko K) (hp : 0 ≤ F 1 7 ∧ F 1 7 ≤ K 1 6 - 1) (h_a : nm a n) (hta : F 119 2 = (a : Int)) (htk2 : F 119 3 = k) (hl : rep (F (a + 1)) (F a 2) l) (htl : rep (F (a + 2)) (F a 2) tl) (hk : 2 ≤ k ∧ k ≤ 3) (h_b : cl b nb t q) (hab : a + 2 < b) (hnt2 : (n : Int) ≤ t + 1) (hcw : cw F b (l.length : Int)) (hpl : rep (F 12) (F 11 2) pl) (hps : prd F ps) (hpn : pl.length = ps.length) (he : ef = if ee = true then 1 else 0) (hqe : ef = 0 → q = -1) (hcr : clr F b L) (hrm : (L.length : Int) < (nb : Int)) : fl_M xi_ms 93 9 169 [.ref 119, .ref b, .int (Int32.ofInt ef)] (fl_H sh_T G F ++ X) (pq_93 G F X K a n b nb t q k l tl pl ps ee ef L) := by
  intro fr lo hfr hlo
  show fl_R xi_ms 93 fr lo 0 [(0, .ref 119), (1, .ref b), (2, .int (Int32.ofInt ef))] [] _ _
  have hpl1 := hpl.1
  have hb11 : 0 ≤ F 11 2 ∧ F 11 2 ≤ 6 := gi_g hgi rfl
  have hr_a := h_a.2.2
  have hr_b := h_b.2.2
  refine ga_iload_n (z := ef) hm_93 rfl rfl ?_
  refine fl_if_eq (a := ef) hm_93 rfl ⟨by omega, by omega⟩ (fun h1_ => ?_) (fun h2_ => ?_)
  ·
    have hE : ee = false := by cases ee <;> simp_all
    refine ga_aload_n (v := .ref 119) hm_93 rfl rfl rfl ?_
    refine ga_getr (b := 1) hm_93 rfl sc_119 rfl ?_
    refine ga_ldcs hm_93 rfl ?_
    have b3_ : 0 ≤ F 1 7 ∧ F 1 7 ≤ 600 := gi_g hgi rfl
    refine gVi (nY := 4) (F := 6) (L := 100) (As := [.retAddr 12]) (b := 1) (rest := []) hm_93 rfl hm_152 rfl rfl (fl_ob sc_1) rfl rfl rfl rfl rfl (by omega) (by omega) (mc_152 hG F X hgi (K) (12) ([110, 111, 116]) hgK hK hko (by omega) (rfl) (by decide)) (fun _ _ h => False.elim h) ?_
    rintro z4_ A1_ (⟨hA_, hz_, c5_⟩ | ⟨hA_, hz_, c6_⟩)
    ·
      subst hA_
      subst hz_
      refine ga_istore_n (lv2 := [(3, .int (Int32.ofInt 0)), (0, .ref 119), (1, .ref b), (2, .int (Int32.ofInt ef))]) hm_93 rfl (Nat.le_of_ble_eq_true rfl) rfl ?_
      refine ga_iload_n (z := 0) hm_93 rfl rfl ?_
      refine fl_if_eq hm_93 rfl ⟨by omega, by omega⟩ (fun _ => ?_) (fun h => absurd (by omega) h)
      refine ga_iload_n (z := ef) hm_93 rfl rfl ?_
      refine fx_if_ne (a := ef) hm_93 rfl ⟨by omega, by omega⟩ (fun h7_ => ?_) (fun h8_ => ?_)
      · exfalso; omega
      refine ga_aload_n (v := .ref 119) hm_93 rfl rfl rfl ?_
      refine ga_getr (b := 1) hm_93 rfl sc_119 rfl ?_
      refine ga_ldcs hm_93 rfl ?_
      refine gVi (nY := 4) (F := 6) (L := 100) (As := [.retAddr 13]) (b := 1) (rest := []) hm_93 rfl hm_152 rfl rfl (fl_ob sc_1) rfl rfl rfl rfl rfl (by omega) (by omega) (mc_152 hG F X hgi (K) (13) ([61]) hgK hK hko (by omega) (rfl) (by decide)) (fun _ _ h => False.elim h) ?_
      rintro z9_ A1_ (⟨hA_, hz_, c10_⟩ | ⟨hA_, hz_, c11_⟩)
      ·
        subst hA_
        subst hz_
        refine fl_if_eq hm_93 rfl ⟨by omega, by omega⟩ (fun _ => ?_) (fun h => absurd (by omega) h)
        refine ga_aload_n (v := .ref 119) hm_93 rfl rfl rfl ?_
        refine ga_aload_n (v := .ref b) hm_93 rfl rfl rfl ?_
        refine ga_iload_n (z := 0) hm_93 rfl rfl ?_
        have b12_ : 8 ≤ F 119 2 ∧ F 119 2 ≤ 105 := gi_g hgi rfl
        have b13_ : 2 ≤ F 119 3 ∧ F 119 3 ≤ 3 := gi_g hgi rfl
        refine gVv (nY := 7) (F := 8) (L := 143) (As := [.ref b, .int (Int32.ofInt 0)]) (b := 119) (rest := []) hm_93 rfl hm_88 rfl rfl (fl_ob sc_119) rfl rfl rfl rfl rfl (by omega) (by omega) (mc_88 hG F X hgi (K) (a) (n) (b) (nb) (t) (q) (k) (l) (tl) (pl) (ps) (0) (L) hgK hK hko (by omega) (h_a) (by omega) (by omega) (hl) (htl) (by omega) h_b (by omega) (by omega) (hcw) (hpl) (hps) (hpn) (by omega) (hcr) (hrm)) ?_ ?_
        ·
          rintro j_ A1_ ⟨F15_, ⟨hJ_, hA_⟩, g16_, s17_, c14_⟩
          subst hA_
          subst hJ_
          refine ⟨rfl, ?_⟩
          refine gw_v ?_
          have g18_ : fs [(1, 1, 7, 8), (b, b, 4, 5), (b + 1, b + 4, 0, 100000)] F F15_ := fs_tr fs_refl s17_ (by simp [fs_le]; try omega)
          have b19_ : 0 ≤ F15_ 1 8 ∧ F15_ 1 8 ≤ 100000 := gi_g g16_ rfl
          have b20_ : 0 ≤ F b 5 ∧ F b 5 ≤ 999 := gi_g hgi h_b.2.1.2.1
          exact ⟨F15_, ⟨rfl, rfl⟩, g16_, g18_, (by obtain ⟨e, c1, c2⟩ := c14_; exact ⟨e, (by simp [sp_mem, hE, c1, pf, pb, h1_, c5_, h8_, c10_]; try first | omega | ((repeat' split) <;> first | rfl | (exfalso; omega) | omega)), c2⟩)⟩
        rintro A1_ ⟨F26_, hA_, g27_, s28_, c22_, c23_, c24_, c25_⟩
        subst hA_
        have g29_ : fs [(1, 1, 7, 7), (b, b, 4, 5), (b + 1, b + 4, 0, 100000)] F F26_ := fs_tr fs_refl s28_ (by simp [fs_le]; try omega)
        have tk30_ : tkh K F26_ := tkh_fs hK s28_ (fun r k h => (fs_n (by omega) (fs_n (by omega) (fs_n (by omega) rfl)))) (fs_n (by omega) (fs_n (by omega) (fs_n (by omega) rfl)))
        refine ga_iload_n (z := 0) hm_93 rfl rfl ?_
        refine fl_if_eq hm_93 rfl ⟨by omega, by omega⟩ (fun _ => ?_) (fun h => absurd (by omega) h)
        refine gr_v hm_93 rfl rfl ?_
        have b31_ : 0 ≤ F26_ 1 7 ∧ F26_ 1 7 ≤ 600 := gi_g g27_ rfl
        have e32_ : F26_ b 5 = F b 5 := (s28_ b 5 (fs_n (by omega) (fs_n (by omega) (fs_n (by omega) rfl)))).trans (rfl)
        have b33_ : 0 ≤ F b 5 ∧ F b 5 ≤ 999 := gi_g hgi h_b.2.1.2.1
        exact ⟨F26_, rfl, g27_, g29_, (by simp [sp_mem, hE, pf, pb, h1_, c5_, h8_, c10_, c22_, c23_, c24_, c25_, e32_]; try first | omega | ((repeat' split) <;> first | rfl | (exfalso; omega) | omega)), (by omega), (c24_), (clr_eq c25_ (by rw [mm_o (Or.inl hE) c5_, mb_a (Or.inr c10_)]))⟩
      subst hA_
      subst hz_
      refine fl_if_eq hm_93 rfl ⟨by omega, by omega⟩ (fun h => absurd h (by omega)) (fun _ => ?_)
      refine ga_aload_n (v := .ref 119) hm_93 rfl rfl rfl ?_
      refine ga_aload_n (v := .ref b) hm_93 rfl rfl rfl ?_
      refine ga_iload_n (z := 0) hm_93 rfl rfl ?_
      have b34_ : 8 ≤ F 119 2 ∧ F 119 2 ≤ 105 := gi_g hgi rfl
      have b35_ : 2 ≤ F 119 3 ∧ F 119 3 ≤ 3 := gi_g hgi rfl
      refine gVv (nY := 5) (F := 8) (L := 143) (As := [.ref b, .int (Int32.ofInt 0)]) (b := 119) (rest := []) hm_93 rfl hm_91 rfl rfl (fl_ob sc_119) rfl rfl rfl rfl rfl (by omega) (by omega) (mc_91 hG F X hgi (K) (a) (n) (b) (nb) (t) (q) (k) (l) (tl) (0) (L) hgK hK hko (by omega) (h_a) (by omega) (by omega) (hl) (htl) (by omega) h_b (by omega) (by omega) (hcw) (by omega) (by omega) (hcr) (hrm)) ?_ ?_
      ·
        rintro j_ A1_ ⟨F37_, ⟨hJ_, hA_⟩, g38_, s39_, c36_⟩
        subst hA_
        subst hJ_
        refine ⟨rfl, ?_⟩
        refine gw_v ?_
        have g40_ : fs [(1, 1, 7, 8), (b, b, 4, 5), (b + 1, b + 4, 0, 100000)] F F37_ := fs_tr fs_refl s39_ (by simp [fs_le]; try omega)
        have b41_ : 0 ≤ F37_ 1 8 ∧ F37_ 1 8 ≤ 100000 := gi_g g38_ rfl
        have b42_ : 0 ≤ F b 5 ∧ F b 5 ≤ 999 := gi_g hgi h_b.2.1.2.1
        exact ⟨F37_, ⟨rfl, rfl⟩, g38_, g40_, (by obtain ⟨e, c1, c2⟩ := c36_; exact ⟨e, (by simp [sp_mem, hE, c1, pf, pb, h1_, c5_, h8_, c11_]; try first | omega | ((repeat' split) <;> first | rfl | (exfalso; omega) | omega)), c2⟩)⟩
      rintro A1_ ⟨F48_, hA_, g49_, s50_, c44_, c45_, c46_, c47_⟩
      subst hA_
      have g51_ : fs [(1, 1, 7, 7), (b, b, 4, 5), (b + 1, b + 4, 0, 100000)] F F48_ := fs_tr fs_refl s50_ (by simp [fs_le]; try omega)
      have tk52_ : tkh K F48_ := tkh_fs hK s50_ (fun r k h => (fs_n (by omega) (fs_n (by omega) (fs_n (by omega) rfl)))) (fs_n (by omega) (fs_n (by omega) (fs_n (by omega) rfl)))
      refine fl_goto hm_93 rfl ?_
      refine ga_iload_n (z := 0) hm_93 rfl rfl ?_
      refine fl_if_eq hm_93 rfl ⟨by omega, by omega⟩ (fun _ => ?_) (fun h => absurd (by omega) h)
      refine gr_v hm_93 rfl rfl ?_
      have b53_ : 0 ≤ F48_ 1 7 ∧ F48_ 1 7 ≤ 600 := gi_g g49_ rfl
      have e54_ : F48_ b 5 = F b 5 := (s50_ b 5 (fs_n (by omega) (fs_n (by omega) (fs_n (by omega) rfl)))).trans (rfl)
      have b55_ : 0 ≤ F b 5 ∧ F b 5 ≤ 999 := gi_g hgi h_b.2.1.2.1
      exact ⟨F48_, rfl, g49_, g51_, (by simp [sp_mem, hE, pf, pb, h1_, c5_, h8_, c11_, c44_, c45_, c46_, c47_, e54_]; try first | omega | ((repeat' split) <;> first | rfl | (exfalso; omega) | omega)), (by omega), (c46_), (clr_eq c47_ (by rw [mm_o (Or.inl hE) c5_, mb_q hE c11_]))⟩
    subst hA_
    subst hz_
    refine ga_istore_n (lv2 := [(3, .int (Int32.ofInt 1)), (0, .ref 119), (1, .ref b), (2, .int (Int32.ofInt ef))]) hm_93 rfl (Nat.le_of_ble_eq_true rfl) rfl ?_
    refine ga_iload_n (z := 1) hm_93 rfl rfl ?_
    refine fl_if_eq hm_93 rfl ⟨by omega, by omega⟩ (fun h => absurd h (by omega)) (fun _ => ?_)
    refine ga_aload_n (v := .ref 119) hm_93 rfl rfl rfl ?_
    refine ga_getr (b := 1) hm_93 rfl sc_119 rfl ?_
    refine gVv (nY := 1) (F := 0) (L := 0) (As := []) (b := 1) (rest := []) hm_93 rfl hm_154 rfl rfl (fl_ob sc_1) rfl rfl rfl rfl rfl (by omega) (by omega) (mc_154 hG F X hgi (K) hgK hK hko (by omega)) (fun _ _ h => False.elim h) ?_
    rintro A1_ ⟨F59_, hA_, g60_, s61_, c57_, c58_⟩
    subst hA_
    have g62_ : fs [(1, 1, 7, 7), (b, b, 4, 5), (b + 1, b + 4, 0, 100000)] F F59_ := fs_tr fs_refl s61_ (by simp [fs_le]; try omega)
    have tk63_ : tkh K F59_ := tkh_fs hK s61_ (fun r k h => (fs_n (by omega) rfl)) (fs_n (by omega) rfl)
    refine ga_aload_n (v := .ref 119) hm_93 rfl rfl rfl ?_
    refine ga_getr (b := 1) hm_93 rfl sc_119 rfl ?_
    refine fl_iconst hm_93 rfl ?_
    have b64_ : 0 ≤ F59_ 1 7 ∧ F59_ 1 7 ≤ 600 := gi_g g60_ rfl
    refine gVv (nY := 2) (F := 7) (L := 121) (As := [.int (Int32.ofInt 0)]) (b := 1) (rest := []) hm_93 rfl hm_24 rfl rfl (fl_ob sc_1) rfl rfl rfl rfl rfl (by omega) (by omega) (mc_24 hG F59_ X g60_ (K) (0) hgK tk63_ hko (by omega) (by omega)) ?_ ?_
    ·
      rintro j_ A1_ ⟨F66_, ⟨hJ_, hA_⟩, g67_, s68_, c65_⟩
      subst hA_
      subst hJ_
      refine ⟨rfl, ?_⟩
      refine gw_v ?_
      have g69_ : fs [(1, 1, 7, 8), (b, b, 4, 5), (b + 1, b + 4, 0, 100000)] F F66_ := fs_tr (fs_tr fs_refl g62_ (by simp [fs_le]; try omega)) s68_ (by simp [fs_le]; try omega)
      have b70_ : 0 ≤ F66_ 1 8 ∧ F66_ 1 8 ≤ 100000 := gi_g g67_ rfl
      have b71_ : 0 ≤ F b 5 ∧ F b 5 ≤ 999 := gi_g hgi h_b.2.1.2.1
      exact ⟨F66_, ⟨rfl, rfl⟩, g67_, g69_, (by obtain ⟨e, c1, c2⟩ := c65_; exact ⟨e, (by simp [sp_mem, hE, c1, pf, pb, h1_, c6_, c57_, c58_]; try first | omega | ((repeat' split) <;> first | rfl | (exfalso; omega) | omega)), c2⟩)⟩
    rintro A1_ ⟨F75_, hA_, g76_, s77_, c73_, c74_⟩
    subst hA_
    have g78_ : fs [(1, 1, 7, 7), (b, b, 4, 5), (b + 1, b + 4, 0, 100000)] F F75_ := fs_tr g62_ s77_ (by simp [fs_le]; try omega)
    have tk79_ : tkh K F75_ := tkh_fs tk63_ s77_ (fun r k h => (fs_n (by omega) rfl)) (fs_n (by omega) rfl)
    refine ga_iload_n (z := ef) hm_93 rfl rfl ?_
    refine fx_if_ne (a := ef) hm_93 rfl ⟨by omega, by omega⟩ (fun h80_ => ?_) (fun h81_ => ?_)
    · exfalso; omega
    refine ga_aload_n (v := .ref 119) hm_93 rfl rfl rfl ?_
    refine ga_getr (b := 1) hm_93 rfl sc_119 rfl ?_
    refine ga_ldcs hm_93 rfl ?_
    have b82_ : 0 ≤ F75_ 1 7 ∧ F75_ 1 7 ≤ 600 := gi_g g76_ rfl
    refine gVi (nY := 4) (F := 6) (L := 100) (As := [.retAddr 13]) (b := 1) (rest := []) hm_93 rfl hm_152 rfl rfl (fl_ob sc_1) rfl rfl rfl rfl rfl (by omega) (by omega) (mc_152 hG F75_ X g76_ (K) (13) ([61]) hgK tk79_ hko (by omega) (rfl) (by decide)) (fun _ _ h => False.elim h) ?_
    rintro z83_ A1_ (⟨hA_, hz_, c84_⟩ | ⟨hA_, hz_, c85_⟩)
    ·
      subst hA_
      subst hz_
      refine fl_if_eq hm_93 rfl ⟨by omega, by omega⟩ (fun _ => ?_) (fun h => absurd (by omega) h)
      refine ga_aload_n (v := .ref 119) hm_93 rfl rfl rfl ?_
      refine ga_aload_n (v := .ref b) hm_93 rfl rfl rfl ?_
      refine ga_iload_n (z := 1) hm_93 rfl rfl ?_
      have e86_ : F59_ 119 2 = F 119 2 := (s61_ 119 2 rfl).trans (rfl)
      have e87_ : F75_ 119 2 = F 119 2 := (s77_ 119 2 rfl).trans (e86_)
      have b88_ : 8 ≤ F 119 2 ∧ F 119 2 ≤ 105 := gi_g hgi rfl
      have e89_ : F59_ 119 3 = F 119 3 := (s61_ 119 3 rfl).trans (rfl)
      have e90_ : F75_ 119 3 = F 119 3 := (s77_ 119 3 rfl).trans (e89_)
      have b91_ : 2 ≤ F 119 3 ∧ F 119 3 ≤ 3 := gi_g hgi rfl
      refine gVv (nY := 7) (F := 8) (L := 143) (As := [.ref b, .int (Int32.ofInt 1)]) (b := 119) (rest := []) hm_93 rfl hm_88 rfl rfl (fl_ob sc_119) rfl rfl rfl rfl rfl (by omega) (by omega) (mc_88 hG F75_ X g76_ (K) (a) (n) (b) (nb) (t) (q) (k) (l) (tl) (pl) (ps) (1) (L) hgK tk79_ hko (by omega) (h_a) (by omega) (by omega) ((rep_fs (rep_fs hl s61_ (fun _ => (fs_n (by omega) rfl)) (fs_n (by omega) rfl)) s77_ (fun _ => (fs_n (by omega) rfl)) (fs_n (by omega) rfl))) ((rep_fs (rep_fs htl s61_ (fun _ => (fs_n (by omega) rfl)) (fs_n (by omega) rfl)) s77_ (fun _ => (fs_n (by omega) rfl)) (fs_n (by omega) rfl))) (by omega) h_b (by omega) (by omega) ((cw_fs (cw_fs hcw s61_ (fun r j hj => (fs_n (by omega) rfl))) s77_ (fun r j hj => (fs_n (by omega) rfl)))) ((rep_fs (rep_fs hpl s61_ (fun _ => (fs_n (by omega) rfl)) (fs_n (by omega) rfl)) s77_ (fun _ => (fs_n (by omega) rfl)) (fs_n (by omega) rfl))) ((prd_fs (prd_fs hps s61_ (fun _ _ _ => (fs_n (by omega) rfl))) s77_ (fun _ _ _ => (fs_n (by omega) rfl)))) (hpn) (by omega) ((clr_fs (clr_fs hcr s61_ (fun r j hj => (fs_n (by omega) rfl))) s77_ (fun r j hj => (fs_n (by omega) rfl)))) (hrm)) ?_ ?_
      ·
        rintro j_ A1_ ⟨F93_, ⟨hJ_, hA_⟩, g94_, s95_, c92_⟩
        subst hA_
        subst hJ_
        refine ⟨rfl, ?_⟩
        refine gw_v ?_
        have g96_ : fs [(1, 1, 7, 8), (b, b, 4, 5), (b + 1, b + 4, 0, 100000)] F F93_ := fs_tr (fs_tr fs_refl g78_ (by simp [fs_le]; try omega)) s95_ (by simp [fs_le]; try omega)
        have b97_ : 0 ≤ F93_ 1 8 ∧ F93_ 1 8 ≤ 100000 := gi_g g94_ rfl
        have b98_ : 0 ≤ F b 5 ∧ F b 5 ≤ 999 := gi_g hgi h_b.2.1.2.1
        exact ⟨F93_, ⟨rfl, rfl⟩, g94_, g96_, (by obtain ⟨e, c1, c2⟩ := c92_; exact ⟨e, (by simp [sp_mem, hE, c1, pf, pb, h1_, c6_, c57_, c58_, c73_, c74_, h81_, c84_, e86_, e87_, e89_, e90_]; try first | omega | ((repeat' split) <;> first | rfl | (exfalso; omega) | omega)), c2⟩)⟩
      rintro A1_ ⟨F104_, hA_, g105_, s106_, c100_, c101_, c102_, c103_⟩
      subst hA_
      have g107_ : fs [(1, 1, 7, 7), (b, b, 4, 5), (b + 1, b + 4, 0, 100000)] F F104_ := fs_tr g78_ s106_ (by simp [fs_le]; try omega)
      have tk108_ : tkh K F104_ := tkh_fs tk79_ s106_ (fun r k h => (fs_n (by omega) (fs_n (by omega) (fs_n (by omega) rfl)))) (fs_n (by omega) (fs_n (by omega) (fs_n (by omega) rfl)))
      refine ga_iload_n (z := 1) hm_93 rfl rfl ?_
      refine fl_if_eq hm_93 rfl ⟨by omega, by omega⟩ (fun h => absurd h (by omega)) (fun _ => ?_)
      refine ga_aload_n (v := .ref 119) hm_93 rfl rfl rfl ?_
      refine ga_getr (b := 1) hm_93 rfl sc_119 rfl ?_
      refine fl_iconst hm_93 rfl ?_
      have b109_ : 0 ≤ F104_ 1 7 ∧ F104_ 1 7 ≤ 600 := gi_g g105_ rfl
      refine gVv (nY := 2) (F := 7) (L := 121) (As := [.int (Int32.ofInt 1)]) (b := 1) (rest := []) hm_93 rfl hm_24 rfl rfl (fl_ob sc_1) rfl rfl rfl rfl rfl (by omega) (by omega) (mc_24 hG F104_ X g105_ (K) (1) hgK tk108_ hko (by omega) (by omega)) ?_ ?_
      ·
        rintro j_ A1_ ⟨F111_, ⟨hJ_, hA_⟩, g112_, s113_, c110_⟩
        subst hA_
        subst hJ_
        refine ⟨rfl, ?_⟩
        refine gw_v ?_
        have g114_ : fs [(1, 1, 7, 8), (b, b, 4, 5), (b + 1, b + 4, 0, 100000)] F F111_ := fs_tr (fs_tr fs_refl g107_ (by simp [fs_le]; try omega)) s113_ (by simp [fs_le]; try omega)
        have b115_ : 0 ≤ F111_ 1 8 ∧ F111_ 1 8 ≤ 100000 := gi_g g112_ rfl
        have b116_ : 0 ≤ F b 5 ∧ F b 5 ≤ 999 := gi_g hgi h_b.2.1.2.1
        exact ⟨F111_, ⟨rfl, rfl⟩, g112_, g114_, (by obtain ⟨e, c1, c2⟩ := c110_; exact ⟨e, (by simp [sp_mem, hE, c1, pf, pb, h1_, c6_, c57_, c58_, c73_, c74_, h81_, c84_, e86_, e87_, e89_, e90_, c100_, c101_, c102_, c103_]; try first | omega | ((repeat' split) <;> first | rfl | (exfalso; omega) | omega)), c2⟩)⟩
      rintro A1_ ⟨F120_, hA_, g121_, s122_, c118_, c119_⟩
      subst hA_
      have g123_ : fs [(1, 1, 7, 7), (b, b, 4, 5), (b + 1, b + 4, 0, 100000)] F F120_ := fs_tr g107_ s122_ (by simp [fs_le]; try omega)
      have tk124_ : tkh K F120_ := tkh_fs tk108_ s122_ (fun r k h => (fs_n (by omega) rfl)) (fs_n (by omega) rfl)
      refine gr_v hm_93 rfl rfl ?_
      have b125_ : 0 ≤ F120_ 1 7 ∧ F120_ 1 7 ≤ 600 := gi_g g121_ rfl
      have e126_ : F59_ b 5 = F b 5 := (s61_ b 5 (fs_n (by omega) rfl)).trans (rfl)
      have e127_ : F75_ b 5 = F b 5 := (s77_ b 5 (fs_n (by omega) rfl)).trans (e126_)
      have e128_ : F104_ b 5 = F b 5 := (s106_ b 5 (fs_n (by omega) (fs_n (by omega) (fs_n (by omega) rfl)))).trans (e127_)
      have e129_ : F120_ b 5 = F b 5 := (s122_ b 5 (fs_n (by omega) rfl)).trans (e128_)
      have b130_ : 0 ≤ F b 5 ∧ F b 5 ≤ 999 := gi_g hgi h_b.2.1.2.1
      exact ⟨F120_, rfl, g121_, g123_, (by simp [sp_mem, hE, pf, pb, h1_, c6_, c57_, c58_, c73_, c74_, h81_, c84_, e86_, e87_, e89_, e90_, c100_, c101_, c102_, c103_, c118_, c119_, e126_, e127_, e128_, e129_]; try first | omega | ((repeat' split) <;> first | rfl | (exfalso; omega) | omega)), (by omega), ((cw_fs c102_ s122_ (fun r j hj => (fs_n (by omega) rfl)))), (clr_eq (clr_fs c103_ s122_ (fun r j hj => (fs_n (by omega) rfl))) (by rw [mm_n (Or.inl hE) c6_ c57_ c73_, mb_a (Or.inr c84_)]))⟩
    subst hA_
    subst hz_
    refine fl_if_eq hm_93 rfl ⟨by omega, by omega⟩ (fun h => absurd h (by omega)) (fun _ => ?_)
    refine ga_aload_n (v := .ref 119) hm_93 rfl rfl rfl ?_
    refine ga_aload_n (v := .ref b) hm_93 rfl rfl rfl ?_
    refine ga_iload_n (z := 1) hm_93 rfl rfl ?_
    have e131_ : F59_ 119 2 = F 119 2 := (s61_ 119 2 rfl).trans (rfl)
    have e132_ : F75_ 119 2 = F 119 2 := (s77_ 119 2 rfl).trans (e131_)
    have b133_ : 8 ≤ F 119 2 ∧ F 119 2 ≤ 105 := gi_g hgi rfl
    have e134_ : F59_ 119 3 = F 119 3 := (s61_ 119 3 rfl).trans (rfl)
    have e135_ : F75_ 119 3 = F 119 3 := (s77_ 119 3 rfl).trans (e134_)
    have b136_ : 2 ≤ F 119 3 ∧ F 119 3 ≤ 3 := gi_g hgi rfl
    refine gVv (nY := 5) (F := 8) (L := 143) (As := [.ref b, .int (Int32.ofInt 1)]) (b := 119) (rest := []) hm_93 rfl hm_91 rfl rfl (fl_ob sc_119) rfl rfl rfl rfl rfl (by omega) (by omega) (mc_91 hG F75_ X g76_ (K) (a) (n) (b) (nb) (t) (q) (k) (l) (tl) (1) (L) hgK tk79_ hko (by omega) (h_a) (by omega) (by omega) ((rep_fs (rep_fs hl s61_ (fun _ => (fs_n (by omega) rfl)) (fs_n (by omega) rfl)) s77_ (fun _ => (fs_n (by omega) rfl)) (fs_n (by omega) rfl))) ((rep_fs (rep_fs htl s61_ (fun _ => (fs_n (by omega) rfl)) (fs_n (by omega) rfl)) s77_ (fun _ => (fs_n (by omega) rfl)) (fs_n (by omega) rfl))) (by omega) h_b (by omega) (by omega) ((cw_fs (cw_fs hcw s61_ (fun r j hj => (fs_n (by omega) rfl))) s77_ (fun r j hj => (fs_n (by omega) rfl)))) (by omega) (by omega) ((clr_fs (clr_fs hcr s61_ (fun r j hj => (fs_n (by omega) rfl))) s77_ (fun r j hj => (fs_n (by omega) rfl)))) (hrm)) ?_ ?_
    ·
      rintro j_ A1_ ⟨F138_, ⟨hJ_, hA_⟩, g139_, s140_, c137_⟩
      subst hA_
      subst hJ_
      refine ⟨rfl, ?_⟩
      refine gw_v ?_
      have g141_ : fs [(1, 1, 7, 8), (b, b, 4, 5), (b + 1, b + 4, 0, 100000)] F F138_ := fs_tr (fs_tr fs_refl g78_ (by simp [fs_le]; try omega)) s140_ (by simp [fs_le]; try omega)
      have b142_ : 0 ≤ F138_ 1 8 ∧ F138_ 1 8 ≤ 100000 := gi_g g139_ rfl
      have b143_ : 0 ≤ F b 5 ∧ F b 5 ≤ 999 := gi_g hgi h_b.2.1.2.1
      exact ⟨F138_, ⟨rfl, rfl⟩, g139_, g141_, (by obtain ⟨e, c1, c2⟩ := c137_; exact ⟨e, (by simp [sp_mem, hE, c1, pf, pb, h1_, c6_, c57_, c58_, c73_, c74_, h81_, c85_, e131_, e132_, e134_, e135_]; try first | omega | ((repeat' split) <;> first | rfl | (exfalso; omega) | omega)), c2⟩)⟩
    rintro A1_ ⟨F149_, hA_, g150_, s151_, c145_, c146_, c147_, c148_⟩
    subst hA_
    have g152_ : fs [(1, 1, 7, 7), (b, b, 4, 5), (b + 1, b + 4, 0, 100000)] F F149_ := fs_tr g78_ s151_ (by simp [fs_le]; try omega)
    have tk153_ : tkh K F149_ := tkh_fs tk79_ s151_ (fun r k h => (fs_n (by omega) (fs_n (by omega) (fs_n (by omega) rfl)))) (fs_n (by omega) (fs_n (by omega) (fs_n (by omega) rfl)))
    refine fl_goto hm_93 rfl ?_
    refine ga_iload_n (z := 1) hm_93 rfl rfl ?_
    refine fl_if_eq hm_93 rfl ⟨by omega, by omega⟩ (fun h => absurd h (by omega)) (fun _ => ?_)
    refine ga_aload_n (v := .ref 119) hm_93 rfl rfl rfl ?_
    refine ga_getr (b := 1) hm_93 rfl sc_119 rfl ?_
    refine fl_iconst hm_93 rfl ?_
    have b154_ : 0 ≤ F149_ 1 7 ∧ F149_ 1 7 ≤ 600 := gi_g g150_ rfl
    refine gVv (nY := 2) (F := 7) (L := 121) (As := [.int (Int32.ofInt 1)]) (b := 1) (rest := []) hm_93 rfl hm_24 rfl rfl (fl_ob sc_1) rfl rfl rfl rfl rfl (by omega) (by omega) (mc_24 hG F149_ X g150_ (K) (1) hgK tk153_ hko (by omega) (by omega)) ?_ ?_
    ·
      rintro j_ A1_ ⟨F156_, ⟨hJ_, hA_⟩, g157_, s158_, c155_⟩
      subst hA_
      subst hJ_
      refine ⟨rfl, ?_⟩
      refine gw_v ?_
      have g159_ : fs [(1, 1, 7, 8), (b, b, 4, 5), (b + 1, b + 4, 0, 100000)] F F156_ := fs_tr (fs_tr fs_refl g152_ (by simp [fs_le]; try omega)) s158_ (by simp [fs_le]; try omega)
      have b160_ : 0 ≤ F156_ 1 8 ∧ F156_ 1 8 ≤ 100000 := gi_g g157_ rfl
      have b161_ : 0 ≤ F b 5 ∧ F b 5 ≤ 999 := gi_g hgi h_b.2.1.2.1
      exact ⟨F156_, ⟨rfl, rfl⟩, g157_, g159_, (by obtain ⟨e, c1, c2⟩ := c155_; exact ⟨e, (by simp [sp_mem, hE, c1, pf, pb, h1_, c6_, c57_, c58_, c73_, c74_, h81_, c85_, e131_, e132_, e134_, e135_, c145_, c146_, c147_, c148_]; try first | omega | ((repeat' split) <;> first | rfl | (exfalso; omega) | omega)), c2⟩)⟩
    rintro A1_ ⟨F165_, hA_, g166_, s167_, c163_, c164_⟩
    subst hA_
    have g168_ : fs [(1, 1, 7, 7), (b, b, 4, 5), (b + 1, b + 4, 0, 100000)] F F165_ := fs_tr g152_ s167_ (by simp [fs_le]; try omega)
    have tk169_ : tkh K F165_ := tkh_fs tk153_ s167_ (fun r k h => (fs_n (by omega) rfl)) (fs_n (by omega) rfl)
    refine gr_v hm_93 rfl rfl ?_
    have b170_ : 0 ≤ F165_ 1 7 ∧ F165_ 1 7 ≤ 600 := gi_g g166_ rfl
    have e171_ : F59_ b 5 = F b 5 := (s61_ b 5 (fs_n (by omega) rfl)).trans (rfl)
    have e172_ : F75_ b 5 = F b 5 := (s77_ b 5 (fs_n (by omega) rfl)).trans (e171_)
    have e173_ : F149_ b 5 = F b 5 := (s151_ b 5 (fs_n (by omega) (fs_n (by omega) (fs_n (by omega) rfl)))).trans (e172_)
    have e174_ : F165_ b 5 = F b 5 := (s167_ b 5 (fs_n (by omega) rfl)).trans (e173_)
    have b175_ : 0 ≤ F b 5 ∧ F b 5 ≤ 999 := gi_g hgi h_b.2.1.2.1
    exact ⟨F165_, rfl, g166_, g168_, (by simp [sp_mem, hE, pf, pb, h1_, c6_, c57_, c58_, c73_, c74_, h81_, c85_, e131_, e132_, e134_, e135_, c145_, c146_, c147_, c148_, c163_, c164_, e171_, e172_, e173_, e174_]; try first | omega | ((repeat' split) <;> first | rfl | (exfalso; omega) | omega)), (by omega), ((cw_fs c147_ s167_ (fun r j hj => (fs_n (by omega) rfl)))), (clr_eq (clr_fs c148_ s167_ (fun r j hj => (fs_n (by omega) rfl))) (by rw [mm_n (Or.inl hE) c6_ c57_ c73_, mb_q hE c85_]))⟩
  have hE : ee = true := by cases ee <;> simp_all
  refine ga_aload_n (v := .ref 119) hm_93 rfl rfl rfl ?_
  refine ga_getr (b := 1) hm_93 rfl sc_119 rfl ?_
  refine ga_ldcs hm_93 rfl ?_
  have b176_ : 0 ≤ F 1 7 ∧ F 1 7 ≤ 600 := gi_g hgi rfl
  refine gVi (nY := 4) (F := 6) (L := 100) (As := [.retAddr 10]) (b := 1) (rest := []) hm_93 rfl hm_152 rfl rfl (fl_ob sc_1) rfl rfl rfl rfl rfl (by omega) (by omega) (mc_152 hG F X hgi (K) (10) ([105, 110, 99, 114, 101, 97, 115, 101]) hgK hK hko (by omega) (rfl) (by decide)) (fun _ _ h => False.elim h) ?_
  rintro z177_ A1_ (⟨hA_, hz_, c178_⟩ | ⟨hA_, hz_, c179_⟩)
  ·
    subst hA_
    subst hz_
    refine fl_if_eq hm_93 rfl ⟨by omega, by omega⟩ (fun _ => ?_) (fun h => absurd (by omega) h)
    
    refine ga_aload_n (v := .ref 119) hm_93 rfl rfl rfl ?_
    refine ga_getr (b := 1) hm_93 rfl sc_119 rfl ?_
    refine ga_ldcs hm_93 rfl ?_
    refine gVi (nY := 4) (F := 6) (L := 100) (As := [.retAddr 12]) (b := 1) (rest := []) hm_93 rfl hm_152 rfl rfl (fl_ob sc_1) rfl rfl rfl rfl rfl (by omega) (by omega) (mc_152 hG F X hgi (K) (12) ([110, 111, 116]) hgK hK hko (by omega) (rfl) (by decide)) (fun _ _ h => False.elim h) ?_
    rintro z180_ A1_ (⟨hA_, hz_, c181_⟩ | ⟨hA_, hz_, c182_⟩)
    ·
      subst hA_
      subst hz_
      refine ga_istore_n (lv2 := [(3, .int (Int32.ofInt 0)), (0, .ref 119), (1, .ref b), (2, .int (Int32.ofInt ef))]) hm_93 rfl (Nat.le_of_ble_eq_true rfl) rfl ?_
      refine ga_iload_n (z := 0) hm_93 rfl rfl ?_
      refine fl_if_eq hm_93 rfl ⟨by omega, by omega⟩ (fun _ => ?_) (fun h => absurd (by omega) h)
      refine ga_iload_n (z := ef) hm_93 rfl rfl ?_
      refine fx_if_ne (a := ef) hm_93 rfl ⟨by omega, by omega⟩ (fun h183_ => ?_) (fun h184_ => ?_)
      ·
        refine ga_aload_n (v := .ref 119) hm_93 rfl rfl rfl ?_
        refine ga_aload_n (v := .ref b) hm_93 rfl rfl rfl ?_
        refine ga_iload_n (z := 0) hm_93 rfl rfl ?_
        have b185_ : 8 ≤ F 119 2 ∧ F 119 2 ≤ 105 := gi_g hgi rfl
        have b186_ : 2 ≤ F 119 3 ∧ F 119 3 ≤ 3 := gi_g hgi rfl
        refine gVv (nY := 7) (F := 8) (L := 143) (As := [.ref b, .int (Int32.ofInt 0)]) (b := 119) (rest := []) hm_93 rfl hm_88 rfl rfl (fl_ob sc_119) rfl rfl rfl rfl rfl (by omega) (by omega) (mc_88 hG F X hgi (K) (a) (n) (b) (nb) (t) (q) (k) (l) (tl) (pl) (ps) (0) (L) hgK hK hko (by omega) (h_a) (by omega) (by omega) (hl) (htl) (by omega) h_b (by omega) (by omega) (hcw) (hpl) (hps) (hpn) (by omega) (hcr) (hrm)) ?_ ?_
        ·
          rintro j_ A1_ ⟨F188_, ⟨hJ_, hA_⟩, g189_, s190_, c187_⟩
          subst hA_
          subst hJ_
          refine ⟨rfl, ?_⟩
          refine gw_v ?_
          have g191_ : fs [(1, 1, 7, 8), (b, b, 4, 5), (b + 1, b + 4, 0, 100000)] F F188_ := fs_tr fs_refl s190_ (by simp [fs_le]; try omega)
          have b192_ : 0 ≤ F188_ 1 8 ∧ F188_ 1 8 ≤ 100000 := gi_g g189_ rfl
          have b193_ : 0 ≤ F b 5 ∧ F b 5 ≤ 999 := gi_g hgi h_b.2.1.2.1
          exact ⟨F188_, ⟨rfl, rfl⟩, g189_, g191_, (by obtain ⟨e, c1, c2⟩ := c187_; exact ⟨e, (by simp [sp_mem, hE, c1, pf, pb, h2_, c178_, c181_, h183_]; try first | omega | ((repeat' split) <;> first | rfl | (exfalso; omega) | omega)), c2⟩)⟩
        rintro A1_ ⟨F199_, hA_, g200_, s201_, c195_, c196_, c197_, c198_⟩
        subst hA_
        have g202_ : fs [(1, 1, 7, 7), (b, b, 4, 5), (b + 1, b + 4, 0, 100000)] F F199_ := fs_tr fs_refl s201_ (by simp [fs_le]; try omega)
        have tk203_ : tkh K F199_ := tkh_fs hK s201_ (fun r k h => (fs_n (by omega) (fs_n (by omega) (fs_n (by omega) rfl)))) (fs_n (by omega) (fs_n (by omega) (fs_n (by omega) rfl)))
        refine ga_iload_n (z := 0) hm_93 rfl rfl ?_
        refine fl_if_eq hm_93 rfl ⟨by omega, by omega⟩ (fun _ => ?_) (fun h => absurd (by omega) h)
        refine gr_v hm_93 rfl rfl ?_
        have b204_ : 0 ≤ F199_ 1 7 ∧ F199_ 1 7 ≤ 600 := gi_g g200_ rfl
        have e205_ : F199_ b 5 = F b 5 := (s201_ b 5 (fs_n (by omega) (fs_n (by omega) (fs_n (by omega) rfl)))).trans (rfl)
        have b206_ : 0 ≤ F b 5 ∧ F b 5 ≤ 999 := gi_g hgi h_b.2.1.2.1
        exact ⟨F199_, rfl, g200_, g202_, (by simp [sp_mem, hE, pf, pb, h2_, c178_, c181_, h183_, c195_, c196_, c197_, c198_, e205_]; try first | omega | ((repeat' split) <;> first | rfl | (exfalso; omega) | omega)), (by omega), (c197_), (clr_eq c198_ (by rw [mm_o (Or.inr c178_) c181_, mb_a (Or.inl hE)]))⟩
      exfalso; omega
    subst hA_
    subst hz_
    refine ga_istore_n (lv2 := [(3, .int (Int32.ofInt 1)), (0, .ref 119), (1, .ref b), (2, .int (Int32.ofInt ef))]) hm_93 rfl (Nat.le_of_ble_eq_true rfl) rfl ?_
    refine ga_iload_n (z := 1) hm_93 rfl rfl ?_
    refine fl_if_eq hm_93 rfl ⟨by omega, by omega⟩ (fun h => absurd h (by omega)) (fun _ => ?_)
    refine ga_aload_n (v := .ref 119) hm_93 rfl rfl rfl ?_
    refine ga_getr (b := 1) hm_93 rfl sc_119 rfl ?_
    refine gVv (nY := 1) (F := 0) (L := 0) (As := []) (b := 1) (rest := []) hm_93 rfl hm_154 rfl rfl (fl_ob sc_1) rfl rfl rfl rfl rfl (by omega) (by omega) (mc_154 hG F X hgi (K) hgK hK hko (by omega)) (fun _ _ h => False.elim h) ?_
    rintro A1_ ⟨F210_, hA_, g211_, s212_, c208_, c209_⟩
    subst hA_
    have g213_ : fs [(1, 1, 7, 7), (b, b, 4, 5), (b + 1, b + 4, 0, 100000)] F F210_ := fs_tr fs_refl s212_ (by simp [fs_le]; try omega)
    have tk214_ : tkh K F210_ := tkh_fs hK s212_ (fun r k h => (fs_n (by omega) rfl)) (fs_n (by omega) rfl)
    refine ga_aload_n (v := .ref 119) hm_93 rfl rfl rfl ?_
    refine ga_getr (b := 1) hm_93 rfl sc_119 rfl ?_
    refine fl_iconst hm_93 rfl ?_
    have b215_ : 0 ≤ F210_ 1 7 ∧ F210_ 1 7 ≤ 600 := gi_g g211_ rfl
    refine gVv (nY := 2) (F := 7) (L := 121) (As := [.int (Int32.ofInt 0)]) (b := 1) (rest := []) hm_93 rfl hm_24 rfl rfl (fl_ob sc_1) rfl rfl rfl rfl rfl (by omega) (by omega) (mc_24 hG F210_ X g211_ (K) (0) hgK tk214_ hko (by omega) (by omega)) ?_ ?_
    ·
      rintro j_ A1_ ⟨F217_, ⟨hJ_, hA_⟩, g218_, s219_, c216_⟩
      subst hA_
      subst hJ_
      refine ⟨rfl, ?_⟩
      refine gw_v ?_
      have g220_ : fs [(1, 1, 7, 8), (b, b, 4, 5), (b + 1, b + 4, 0, 100000)] F F217_ := fs_tr (fs_tr fs_refl g213_ (by simp [fs_le]; try omega)) s219_ (by simp [fs_le]; try omega)
      have b221_ : 0 ≤ F217_ 1 8 ∧ F217_ 1 8 ≤ 100000 := gi_g g218_ rfl
      have b222_ : 0 ≤ F b 5 ∧ F b 5 ≤ 999 := gi_g hgi h_b.2.1.2.1
      exact ⟨F217_, ⟨rfl, rfl⟩, g218_, g220_, (by obtain ⟨e, c1, c2⟩ := c216_; exact ⟨e, (by simp [sp_mem, hE, c1, pf, pb, h2_, c178_, c182_, c208_, c209_]; try first | omega | ((repeat' split) <;> first | rfl | (exfalso; omega) | omega)), c2⟩)⟩
    rintro A1_ ⟨F226_, hA_, g227_, s228_, c224_, c225_⟩
    subst hA_
    have g229_ : fs [(1, 1, 7, 7), (b, b, 4, 5), (b + 1, b + 4, 0, 100000)] F F226_ := fs_tr g213_ s228_ (by simp [fs_le]; try omega)
    have tk230_ : tkh K F226_ := tkh_fs tk214_ s228_ (fun r k h => (fs_n (by omega) rfl)) (fs_n (by omega) rfl)
    refine ga_iload_n (z := ef) hm_93 rfl rfl ?_
    refine fx_if_ne (a := ef) hm_93 rfl ⟨by omega, by omega⟩ (fun h231_ => ?_) (fun h232_ => ?_)
    ·
      refine ga_aload_n (v := .ref 119) hm_93 rfl rfl rfl ?_
      refine ga_aload_n (v := .ref b) hm_93 rfl rfl rfl ?_
      refine ga_iload_n (z := 1) hm_93 rfl rfl ?_
      have b233_ : 0 ≤ F226_ 1 7 ∧ F226_ 1 7 ≤ 600 := gi_g g227_ rfl
      have e234_ : F210_ 119 2 = F 119 2 := (s212_ 119 2 rfl).trans (rfl)
      have e235_ : F226_ 119 2 = F 119 2 := (s228_ 119 2 rfl).trans (e234_)
      have b236_ : 8 ≤ F 119 2 ∧ F 119 2 ≤ 105 := gi_g hgi rfl
      have e237_ : F210_ 119 3 = F 119 3 := (s212_ 119 3 rfl).trans (rfl)
      have e238_ : F226_ 119 3 = F 119 3 := (s228_ 119 3 rfl).trans (e237_)
      have b239_ : 2 ≤ F 119 3 ∧ F 119 3 ≤ 3 := gi_g hgi rfl
      refine gVv (nY := 7) (F := 8) (L := 143) (As := [.ref b, .int (Int32.ofInt 1)]) (b := 119) (rest := []) hm_93 rfl hm_88 rfl rfl (fl_ob sc_119) rfl rfl rfl rfl rfl (by omega) (by omega) (mc_88 hG F226_ X g227_ (K) (a) (n) (b) (nb) (t) (q) (k) (l) (tl) (pl) (ps) (1) (L) hgK tk230_ hko (by omega) (h_a) (by omega) (by omega) ((rep_fs (rep_fs hl s212_ (fun _ => (fs_n (by omega) rfl)) (fs_n (by omega) rfl)) s228_ (fun _ => (fs_n (by omega) rfl)) (fs_n (by omega) rfl))) ((rep_fs (rep_fs htl s212_ (fun _ => (fs_n (by omega) rfl)) (fs_n (by omega) rfl)) s228_ (fun _ => (fs_n (by omega) rfl)) (fs_n (by omega) rfl))) (by omega) h_b (by omega) (by omega) ((cw_fs (cw_fs hcw s212_ (fun r j hj => (fs_n (by omega) rfl))) s228_ (fun r j hj => (fs_n (by omega) rfl)))) ((rep_fs (rep_fs hpl s212_ (fun _ => (fs_n (by omega) rfl)) (fs_n (by omega) rfl)) s228_ (fun _ => (fs_n (by omega) rfl)) (fs_n (by omega) rfl))) ((prd_fs (prd_fs hps s212_ (fun _ _ _ => (fs_n (by omega) rfl))) s228_ (fun _ _ _ => (fs_n (by omega) rfl)))) (hpn) (by omega) ((clr_fs (clr_fs hcr s212_ (fun r j hj => (fs_n (by omega) rfl))) s228_ (fun r j hj => (fs_n (by omega) rfl)))) (hrm)) ?_ ?_
      ·
        rintro j_ A1_ ⟨F241_, ⟨hJ_, hA_⟩, g242_, s243_, c240_⟩
        subst hA_
        subst hJ_
        refine ⟨rfl, ?_⟩
        refine gw_v ?_
        have g244_ : fs [(1, 1, 7, 8), (b, b, 4, 5), (b + 1, b + 4, 0, 100000)] F F241_ := fs_tr (fs_tr fs_refl g229_ (by simp [fs_le]; try omega)) s243_ (by simp [fs_le]; try omega)
        have b245_ : 0 ≤ F241_ 1 8 ∧ F241_ 1 8 ≤ 100000 := gi_g g242_ rfl
        have b246_ : 0 ≤ F b 5 ∧ F b 5 ≤ 999 := gi_g hgi h_b.2.1.2.1
        exact ⟨F241_, ⟨rfl, rfl⟩, g242_, g244_, (by obtain ⟨e, c1, c2⟩ := c240_; exact ⟨e, (by simp [sp_mem, hE, c1, pf, pb, h2_, c178_, c182_, c208_, c209_, c224_, c225_, h231_, e234_, e235_, e237_, e238_]; try first | omega | ((repeat' split) <;> first | rfl | (exfalso; omega) | omega)), c2⟩)⟩
      rintro A1_ ⟨F252_, hA_, g253_, s254_, c248_, c249_, c250_, c251_⟩
      subst hA_
      have g255_ : fs [(1, 1, 7, 7), (b, b, 4, 5), (b + 1, b + 4, 0, 100000)] F F252_ := fs_tr g229_ s254_ (by simp [fs_le]; try omega)
      have tk256_ : tkh K F252_ := tkh_fs tk230_ s254_ (fun r k h => (fs_n (by omega) (fs_n (by omega) (fs_n (by omega) rfl)))) (fs_n (by omega) (fs_n (by omega) (fs_n (by omega) rfl)))
      refine ga_iload_n (z := 1) hm_93 rfl rfl ?_
      refine fl_if_eq hm_93 rfl ⟨by omega, by omega⟩ (fun h => absurd h (by omega)) (fun _ => ?_)
      refine ga_aload_n (v := .ref 119) hm_93 rfl rfl rfl ?_
      refine ga_getr (b := 1) hm_93 rfl sc_119 rfl ?_
      refine fl_iconst hm_93 rfl ?_
      have b257_ : 0 ≤ F252_ 1 7 ∧ F252_ 1 7 ≤ 600 := gi_g g253_ rfl
      refine gVv (nY := 2) (F := 7) (L := 121) (As := [.int (Int32.ofInt 1)]) (b := 1) (rest := []) hm_93 rfl hm_24 rfl rfl (fl_ob sc_1) rfl rfl rfl rfl rfl (by omega) (by omega) (mc_24 hG F252_ X g253_ (K) (1) hgK tk256_ hko (by omega) (by omega)) ?_ ?_
      ·
        rintro j_ A1_ ⟨F259_, ⟨hJ_, hA_⟩, g260_, s261_, c258_⟩
        subst hA_
        subst hJ_
        refine ⟨rfl, ?_⟩
        refine gw_v ?_
        have g262_ : fs [(1, 1, 7, 8), (b, b, 4, 5), (b + 1, b + 4, 0, 100000)] F F259_ := fs_tr (fs_tr fs_refl g255_ (by simp [fs_le]; try omega)) s261_ (by simp [fs_le]; try omega)
        have b263_ : 0 ≤ F259_ 1 8 ∧ F259_ 1 8 ≤ 100000 := gi_g g260_ rfl
        have b264_ : 0 ≤ F b 5 ∧ F b 5 ≤ 999 := gi_g hgi h_b.2.1.2.1
        exact ⟨F259_, ⟨rfl, rfl⟩, g260_, g262_, (by obtain ⟨e, c1, c2⟩ := c258_; exact ⟨e, (by simp [sp_mem, hE, c1, pf, pb, h2_, c178_, c182_, c208_, c209_, c224_, c225_, h231_, e234_, e235_, e237_, e238_, c248_, c249_, c250_, c251_]; try first | omega | ((repeat' split) <;> first | rfl | (exfalso; omega) | omega)), c2⟩)⟩
      rintro A1_ ⟨F268_, hA_, g269_, s270_, c266_, c267_⟩
      subst hA_
      have g271_ : fs [(1, 1, 7, 7), (b, b, 4, 5), (b + 1, b + 4, 0, 100000)] F F268_ := fs_tr g255_ s270_ (by simp [fs_le]; try omega)
      have tk272_ : tkh K F268_ := tkh_fs tk256_ s270_ (fun r k h => (fs_n (by omega) rfl)) (fs_n (by omega) rfl)
      refine gr_v hm_93 rfl rfl ?_
      have b273_ : 0 ≤ F268_ 1 7 ∧ F268_ 1 7 ≤ 600 := gi_g g269_ rfl
      have e274_ : F210_ b 5 = F b 5 := (s212_ b 5 (fs_n (by omega) rfl)).trans (rfl)
      have e275_ : F226_ b 5 = F b 5 := (s228_ b 5 (fs_n (by omega) rfl)).trans (e274_)
      have e276_ : F252_ b 5 = F b 5 := (s254_ b 5 (fs_n (by omega) (fs_n (by omega) (fs_n (by omega) rfl)))).trans (e275_)
      have e277_ : F268_ b 5 = F b 5 := (s270_ b 5 (fs_n (by omega) rfl)).trans (e276_)
      have b278_ : 0 ≤ F b 5 ∧ F b 5 ≤ 999 := gi_g hgi h_b.2.1.2.1
      exact ⟨F268_, rfl, g269_, g271_, (by simp [sp_mem, hE, pf, pb, h2_, c178_, c182_, c208_, c209_, c224_, c225_, h231_, e234_, e235_, e237_, e238_, c248_, c249_, c250_, c251_, c266_, c267_, e274_, e275_, e276_, e277_]; try first | omega | ((repeat' split) <;> first | rfl | (exfalso; omega) | omega)), (by omega), ((cw_fs c250_ s270_ (fun r j hj => (fs_n (by omega) rfl)))), (clr_eq (clr_fs c251_ s270_ (fun r j hj => (fs_n (by omega) rfl))) (by rw [mm_n (Or.inr c178_) c182_ c208_ c224_, mb_a (Or.inl hE)]))⟩
    exfalso; omega
  subst hA_
  subst hz_
  refine fl_if_eq hm_93 rfl ⟨by omega, by omega⟩ (fun h => absurd h (by omega)) (fun _ => ?_)
  refine ga_aload_n (v := .ref 119) hm_93 rfl rfl rfl ?_
  refine ga_aload_n (v := .ref b) hm_93 rfl rfl rfl ?_
  refine gVv (nY := 2) (F := 8) (L := 144) (As := [.ref b]) (b := 119) (rest := []) hm_93 rfl hm_92 rfl rfl (fl_ob sc_119) rfl rfl rfl rfl rfl (by omega) (by omega) (mc_92 hG F X hgi (K) (b) (nb) (t) (q) hgK hK hko (by omega) h_b) ?_ ?_
  ·
    have b283_ : 0 ≤ F b 5 ∧ F b 5 ≤ 999 := gi_g hgi h_b.2.1.2.1
    rintro j_ A1_ ⟨F280_, ⟨hJ_, hA_⟩, g281_, s282_, c279_⟩
    subst hA_
    subst hJ_
    refine ⟨rfl, ?_⟩
    refine gw_v ?_
    have g284_ : fs [(1, 1, 7, 8), (b, b, 4, 5), (b + 1, b + 4, 0, 100000)] F F280_ := fs_tr fs_refl s282_ (by simp [fs_le]; try omega)
    have b285_ : 0 ≤ F280_ 1 8 ∧ F280_ 1 8 ≤ 100000 := gi_g g281_ rfl
    exact ⟨F280_, ⟨rfl, rfl⟩, g281_, g284_, (by obtain ⟨e, c1, c2⟩ := c279_; exact ⟨e, (by simp [sp_mem, hE, c1, pf, pb, h2_, c179_]; try first | omega | ((repeat' split) <;> first | rfl | (exfalso; omega) | omega)), c2⟩)⟩
  have b287_ : 0 ≤ F b 5 ∧ F b 5 ≤ 999 := gi_g hgi h_b.2.1.2.1
  rintro A1_ ⟨F290_, hA_, g291_, s292_, c288_, c289_⟩
  subst hA_
  have g293_ : fs [(1, 1, 7, 7), (b, b, 4, 5), (b + 1, b + 4, 0, 100000)] F F290_ := fs_tr fs_refl s292_ (by simp [fs_le]; try omega)
  have tk294_ : tkh K F290_ := tkh_fs hK s292_ (fun r k h => (fs_n (by omega) (fs_n (by omega) rfl))) (fs_n (by omega) (fs_n (by omega) rfl))
  refine gr_v hm_93 rfl rfl ?_
  have b295_ : 0 ≤ F290_ 1 7 ∧ F290_ 1 7 ≤ 600 := gi_g g291_ rfl
  have b296_ : 0 ≤ F290_ b 5 ∧ F290_ b 5 ≤ 999 := gi_g g291_ h_b.2.1.2.1
  exact ⟨F290_, rfl, g291_, g293_, (by simp [sp_mem, hE, pf, pb, h2_, c179_, c288_, c289_]; try first | omega | ((repeat' split) <;> first | rfl | (exfalso; omega) | omega)), (by omega), ((cw_fs hcw s292_ (fun r j hj => (fs_n (by omega) (fs_n (by omega) rfl))))), (clr_eq (clr_fs hcr s292_ (fun r j hj => (fs_n (by omega) (fs_n (by omega) rfl)))) (by rw [mm_i hE c179_, List.append_nil]))⟩
/- CheapPlanner$ClauseReader.readClause -/
abbrev pq_90 (G : Nat → Nat → Option Nat) (F : fl_N) (X : xi_H) (K : fl_N) (a n b nb : Nat) (t q k : Int) (l tl pl : List Int) (ps : List (List Int)) (ee : Bool) (ef : Int) : Outcome → xi_H → Prop := gqv (fun A => ∃ F' : fl_N, fl_H sh_T G F' ++ X = A ∧ gi F' ∧ fs [(1, 1, 7, 7), (b, b, 4, 5), (b + 1, b + 4, 0, 100000)] F F' ∧ (sp_clause K ee k l tl pl ps (F 1 7) = .inr (F' 1 7, F' b 5)) ∧ (0 ≤ F' 1 7 ∧ F' 1 7 ≤ K 1 6 - 1) ∧ (cw F' b (l.length : Int)) ∧ (clr F' b (clause_d K ee k l tl pl ps (F 1 7)))) (fun j A => ∃ F' : fl_N, (387 + X.length = j ∧ fl_H sh_T G F' ++ (X ++ [gx 14]) = A) ∧ gi F' ∧ fs [(1, 1, 7, 8), (b, b, 4, 5), (b + 1, b + 4, 0, 100000)] F F' ∧ (∃ e, sp_clause K ee k l tl pl ps (F 1 7) = .inl e ∧ F' 1 8 = e.1 + 10 * e.2))
theorem mc_90 {G : Nat → Nat → Option Nat} (hG : gg G) (F : fl_N) (X : xi_H) (hgi : gi F) (K : fl_N) (a n b nb : Nat) (t q k : Int) (l tl pl : List Int) (ps : List (List Int)) (ee : Bool) (ef : Int) (hgK : gi K) (hK : tkh K F) (hko : tko K) (hp : 0 ≤ F 1 7 ∧ F 1 7 ≤ K 1 6 - 1) (h_a : nm a n) (hta : F 119 2 = (a : Int)) (htk2 : F 119 3 = k) (hl : rep (F (a + 1)) (F a 2) l) (htl : rep (F (a + 2)) (F a 2) tl) (hk : 2 ≤ k ∧ k ≤ 3) (h_b : cl b nb t q) (hab : a + 2 < b) (hnt2 : (n : Int) ≤ t + 1) (hpl : rep (F 12) (F 11 2) pl) (hps : prd F ps) (hpn : pl.length = ps.length) (he : ef = if ee = true then 1 else 0) (hqe : ef = 0 → q = -1) (hnb : 4 ≤ nb) : fl_M xi_ms 90 10 192 [.ref 119, .ref b, .int (Int32.ofInt ef)] (fl_H sh_T G F ++ X) (pq_90 G F X K a n b nb t q k l tl pl ps ee ef) := by
  intro fr lo hfr hlo
  show fl_R xi_ms 90 fr lo 0 [(0, .ref 119), (1, .ref b), (2, .int (Int32.ofInt ef))] [] _ _
  have hpl1 := hpl.1
  have hb11 : 0 ≤ F 11 2 ∧ F 11 2 ≤ 6 := gi_g hgi rfl
  have hr_a := h_a.2.2
  have hr_b := h_b.2.2
  refine ga_aload_n (v := .ref b) hm_90 rfl rfl rfl ?_
  refine gIv (nY := 1) (F := 0) (L := 0) (As := []) (b := b) (rest := []) hm_90 rfl hm_87 rfl rfl (fl_ob h_b.1.1) rfl rfl rfl rfl rfl (by omega) (by omega) ?_
  intro f1_ l2_ h3_ h4_
  show fl_R xi_ms 87 f1_ l2_ 0 [(0, .ref b)] [] _ _
  refine ga_aload_n (v := .ref b) hm_87 rfl rfl rfl ?_
  refine fl_iconst hm_87 rfl ?_
  refine ga_puti (z := 0) hm_87 rfl h_b.1.1 rfl rfl ?_
  refine ga_aload_n (v := .ref b) hm_87 rfl rfl rfl ?_
  refine fl_iconst hm_87 rfl ?_
  refine ga_puti (z := 0) hm_87 rfl h_b.1.1 rfl rfl ?_
  refine gr_v hm_87 rfl rfl ?_
  clear h3_ h4_ f1_ l2_
  refine ga_aload_n (v := .ref 119) hm_90 rfl rfl rfl ?_
  refine ga_getr (b := 1) hm_90 rfl sc_119 rfl ?_
  refine fl_iconst hm_90 rfl ?_
  obtain ⟨F5_, q6_⟩ : ∃ F9_, F9_ = (fl_u (fl_u F b 4 0) b 5 0) := ⟨_, rfl⟩
  rw [← q6_]
  have g7_ : gi F5_ := by rw [q6_]; exact gi_u (gi_u (hgi) h_b.2.1.1 (by omega) (by omega)) h_b.2.1.2.1 (by omega) (by omega)
  have g8_ : fs [(1, 1, 7, 7), (b, b, 4, 5), (b + 1, b + 4, 0, 100000)] F F5_ := by rw [q6_]; exact fs_u (fs_u (fs_refl) (fs_z (fs_y (by omega)))) (fs_z (fs_y (by omega)))
  have tk9_ : tkh K F5_ := by rw [q6_]; exact tkh_u (tkh_u (hK) (by omega) (by omega)) (by omega) (by omega)
  have e10_ : F5_ 1 7 = F 1 7 := by rw [q6_]; exact (fl_u_ne (by omega)).trans (fl_u_ne (by omega))
  have b11_ : 0 ≤ F 1 7 ∧ F 1 7 ≤ 600 := gi_g hgi rfl
  refine gVv (nY := 2) (F := 7) (L := 121) (As := [.int (Int32.ofInt 0)]) (b := 1) (rest := []) hm_90 rfl hm_24 rfl rfl (fl_ob sc_1) rfl rfl rfl rfl rfl (by omega) (by omega) (mc_24 hG F5_ X g7_ (K) (0) hgK tk9_ hko (by omega) (by omega)) ?_ ?_
  ·
    rintro j_ A1_ ⟨F13_, ⟨hJ_, hA_⟩, g14_, s15_, c12_⟩
    subst hA_
    subst hJ_
    try simp only [e10_] at c12_
    refine ⟨rfl, ?_⟩
    refine gw_v ?_
    have g16_ : fs [(1, 1, 7, 8), (b, b, 4, 5), (b + 1, b + 4, 0, 100000)] F F13_ := fs_tr (fs_tr fs_refl g8_ (by simp [fs_le]; try omega)) s15_ (by simp [fs_le]; try omega)
    have b17_ : 0 ≤ F13_ 1 8 ∧ F13_ 1 8 ≤ 100000 := gi_g g14_ rfl
    exact ⟨F13_, ⟨rfl, rfl⟩, g14_, g16_, (by obtain ⟨e, c1, c2⟩ := c12_; exact ⟨e, (by simp [sp_clause, c1, pf, pb, e10_]; try first | omega | ((repeat' split) <;> first | rfl | (exfalso; omega) | omega)), c2⟩)⟩
  rintro A1_ ⟨F21_, hA_, g22_, s23_, c19_, c20_⟩
  subst hA_
  have g24_ : fs [(1, 1, 7, 7), (b, b, 4, 5), (b + 1, b + 4, 0, 100000)] F F21_ := fs_tr g8_ s23_ (by simp [fs_le]; try omega)
  have tk25_ : tkh K F21_ := tkh_fs tk9_ s23_ (fun r k h => (fs_n (by omega) rfl)) (fs_n (by omega) rfl)
  try simp only [e10_] at c19_
  have hk0 := c19_
  refine ga_aload_n (v := .ref 119) hm_90 rfl rfl rfl ?_
  refine ga_getr (b := 1) hm_90 rfl sc_119 rfl ?_
  refine ga_ldcs hm_90 rfl ?_
  have b26_ : 0 ≤ F21_ 1 7 ∧ F21_ 1 7 ≤ 600 := gi_g g22_ rfl
  refine gVi (nY := 4) (F := 6) (L := 100) (As := [.retAddr 9]) (b := 1) (rest := []) hm_90 rfl hm_152 rfl rfl (fl_ob sc_1) rfl rfl rfl rfl rfl (by omega) (by omega) (mc_152 hG F21_ X g22_ (K) (9) ([97, 110, 100]) hgK tk25_ hko (by omega) (rfl) (by decide)) (fun _ _ h => False.elim h) ?_
  rintro z27_ A1_ (⟨hA_, hz_, c28_⟩ | ⟨hA_, hz_, c29_⟩)
  ·
    subst hA_
    subst hz_
    refine fl_if_ne hm_90 rfl ⟨by omega, by omega⟩ (fun h => absurd h (by omega)) (fun _ => ?_)
    refine ga_aload_n (v := .ref 119) hm_90 rfl rfl rfl ?_
    refine ga_aload_n (v := .ref b) hm_90 rfl rfl rfl ?_
    refine ga_iload_n (z := ef) hm_90 rfl rfl ?_
    have e30_ : F5_ 119 2 = F 119 2 := by rw [q6_]; exact (fl_u_ne (by omega)).trans (fl_u_ne (by omega))
    have e31_ : F21_ 119 2 = F 119 2 := (s23_ 119 2 rfl).trans (e30_)
    have b32_ : 8 ≤ F 119 2 ∧ F 119 2 ≤ 105 := gi_g hgi rfl
    have e33_ : F5_ 119 3 = F 119 3 := by rw [q6_]; exact (fl_u_ne (by omega)).trans (fl_u_ne (by omega))
    have e34_ : F21_ 119 3 = F 119 3 := (s23_ 119 3 rfl).trans (e33_)
    have b35_ : 2 ≤ F 119 3 ∧ F 119 3 ≤ 3 := gi_g hgi rfl
    have e36_ : F5_ b 4 = 0 := by rw [q6_]; exact (fl_u_ne (by omega)).trans (fl_u_eq)
    have e37_ : F21_ b 4 = 0 := (s23_ b 4 (fs_n (by omega) rfl)).trans (e36_)
    refine gVv (nY := 4) (F := 9) (L := 169) (As := [.ref b, .int (Int32.ofInt ef)]) (b := 119) (rest := []) hm_90 rfl hm_93 rfl rfl (fl_ob sc_119) rfl rfl rfl rfl rfl (by omega) (by omega) (mc_93 hG F21_ X g22_ (K) (a) (n) (b) (nb) (t) (q) (k) (l) (tl) (pl) (ps) (ee) (ef) ([]) hgK tk25_ hko (by omega) (h_a) (by omega) (by omega) ((rep_fs (by rw [q6_]; exact (rep_u (rep_u hl (by omega) (by omega)) (by omega) (by omega))) s23_ (fun _ => (fs_n (by omega) rfl)) (fs_n (by omega) rfl))) ((rep_fs (by rw [q6_]; exact (rep_u (rep_u htl (by omega) (by omega)) (by omega) (by omega))) s23_ (fun _ => (fs_n (by omega) rfl)) (fs_n (by omega) rfl))) (by omega) h_b (by omega) (by omega) (cw_nil e37_) ((rep_fs (by rw [q6_]; exact (rep_u (rep_u hpl (by omega) (by omega)) (by omega) (by omega))) s23_ (fun _ => (fs_n (by omega) rfl)) (fs_n (by omega) rfl))) ((prd_fs (by rw [q6_]; exact (prd_u (prd_u hps (by omega)) (by omega))) s23_ (fun _ _ _ => (fs_n (by omega) rfl)))) (hpn) (he) (by omega) (clr_nil e37_) (by simp; omega)) ?_ ?_
    ·
      have e42_ : F5_ b 5 = 0 := by rw [q6_]; exact fl_u_eq
      have e43_ : F21_ b 5 = 0 := (s23_ b 5 (fs_n (by omega) rfl)).trans (e42_)
      rintro j_ A1_ ⟨F39_, ⟨hJ_, hA_⟩, g40_, s41_, c38_⟩
      subst hA_
      subst hJ_
      try simp only [e43_] at c38_
      refine ⟨rfl, ?_⟩
      refine gw_v ?_
      have g44_ : fs [(1, 1, 7, 8), (b, b, 4, 5), (b + 1, b + 4, 0, 100000)] F F39_ := fs_tr (fs_tr fs_refl g24_ (by simp [fs_le]; try omega)) s41_ (by simp [fs_le]; try omega)
      have b45_ : 0 ≤ F39_ 1 8 ∧ F39_ 1 8 ≤ 100000 := gi_g g40_ rfl
      exact ⟨F39_, ⟨rfl, rfl⟩, g40_, g44_, (by obtain ⟨e, c1, c2⟩ := c38_; exact ⟨e, (by simp [sp_clause, c1, pf, pb, e10_, c19_, c20_, c28_, e30_, e31_, e33_, e34_, e36_, e37_, e42_, e43_]; try first | omega | ((repeat' split) <;> first | rfl | (exfalso; omega) | omega)), c2⟩)⟩
    have e47_ : F5_ b 5 = 0 := by rw [q6_]; exact fl_u_eq
    have e48_ : F21_ b 5 = 0 := (s23_ b 5 (fs_n (by omega) rfl)).trans (e47_)
    rintro A1_ ⟨F53_, hA_, g54_, s55_, c49_, c50_, c51_, c52_⟩
    subst hA_
    have g56_ : fs [(1, 1, 7, 7), (b, b, 4, 5), (b + 1, b + 4, 0, 100000)] F F53_ := fs_tr g24_ s55_ (by simp [fs_le]; try omega)
    have tk57_ : tkh K F53_ := tkh_fs tk25_ s55_ (fun r k h => (fs_n (by omega) (fs_n (by omega) (fs_n (by omega) rfl)))) (fs_n (by omega) (fs_n (by omega) (fs_n (by omega) rfl)))
    try simp only [e48_] at c49_
    refine gr_v hm_90 rfl rfl ?_
    have b58_ : 0 ≤ F53_ 1 7 ∧ F53_ 1 7 ≤ 600 := gi_g g54_ rfl
    have b59_ : 0 ≤ F53_ b 5 ∧ F53_ b 5 ≤ 999 := gi_g g54_ h_b.2.1.2.1
    exact ⟨F53_, rfl, g54_, g56_, (by simp [sp_clause, pf, pb, e10_, c19_, c20_, c28_, e30_, e31_, e33_, e34_, e36_, e37_, e47_, e48_, c49_, c50_, c51_, c52_]; try first | omega | ((repeat' split) <;> first | rfl | (exfalso; omega) | omega)), (by omega), (c51_), (clr_eq c52_ (by rw [clause_d, ks_ok c19_, if_neg (by rw [c28_]; decide), List.nil_append]))⟩
  subst hA_
  subst hz_
  refine fl_if_ne hm_90 rfl ⟨by omega, by omega⟩ (fun _ => ?_) (fun h => absurd (by omega) h)
  have hand := c29_
  refine ga_aload_n (v := .ref 119) hm_90 rfl rfl rfl ?_
  refine ga_getr (b := 1) hm_90 rfl sc_119 rfl ?_
  refine gVv (nY := 1) (F := 0) (L := 0) (As := []) (b := 1) (rest := []) hm_90 rfl hm_154 rfl rfl (fl_ob sc_1) rfl rfl rfl rfl rfl (by omega) (by omega) (mc_154 hG F21_ X g22_ (K) hgK tk25_ hko (by omega)) (fun _ _ h => False.elim h) ?_
  rintro A1_ ⟨F63_, hA_, g64_, s65_, c61_, c62_⟩
  subst hA_
  have g66_ : fs [(1, 1, 7, 7), (b, b, 4, 5), (b + 1, b + 4, 0, 100000)] F F63_ := fs_tr g24_ s65_ (by simp [fs_le]; try omega)
  have tk67_ : tkh K F63_ := tkh_fs tk25_ s65_ (fun r k h => (fs_n (by omega) rfl)) (fs_n (by omega) rfl)
  have hsk := c61_
  refine fl_iconst hm_90 rfl ?_
  refine ga_istore_n (lv2 := [(3, .int (Int32.ofInt 0)), (0, .ref 119), (1, .ref b), (2, .int (Int32.ofInt ef))]) hm_90 rfl (Nat.le_of_ble_eq_true rfl) rfl ?_
  have b71_ : 0 ≤ F63_ 1 7 ∧ F63_ 1 7 ≤ 600 := gi_g g64_ rfl
  have L69_ : ∀ (n68_ : Nat) (i : Int) (L : List lt_T) (F1 : fl_N), (4 - i : Int).toNat = n68_ → (gi F1) → (fs [(1, 1, 7, 7), (b, b, 4, 5), (b + 1, b + 4, 0, 100000)] F63_ F1) → (0 ≤ i ∧ i ≤ 4) → (cw F1 b (l.length : Int)) → (0 ≤ F1 1 7 ∧ F1 1 7 ≤ K 1 6 - 1) → (sp_mems K ee k l tl pl ps 4 true 0 (F63_ 1 7) = sp_mems K ee k l tl pl ps (4 - i).toNat (decide (i = 0)) (F1 b 5) (F1 1 7)) → (clr F1 b L) → ((L.length : Int) ≤ i) → (mems_d K ee k l tl pl ps 4 true 0 (F63_ 1 7) = L ++ mems_d K ee k l tl pl ps (4 - i).toNat (decide (i = 0)) (F1 b 5) (F1 1 7)) → fl_R xi_ms 90 fr lo 40 [(3, .int (Int32.ofInt i)), (0, .ref 119), (1, .ref b), (2, .int (Int32.ofInt ef))] [] (fl_H sh_T G F1 ++ X) (pq_90 G F X K a n b nb t q k l tl pl ps ee ef) := by
    intro n68_
    induction n68_ using Nat.strongRecOn with
    | ind n68_ ih70_ =>
    intro i L F1 hn72_ hg_F1 hf_F1 hi hcw hp1 hsp hcr hLi hcd
    have g73_ : fs [(1, 1, 7, 7), (b, b, 4, 5), (b + 1, b + 4, 0, 100000)] F F1 := fs_tr g66_ hf_F1 (by simp [fs_le]; try omega)
    have tk74_ : tkh K F1 := tkh_fs tk67_ hf_F1 (fun r k h => (fs_n (by omega) (fs_n (by omega) (fs_n (by omega) rfl)))) (fs_n (by omega) (fs_n (by omega) (fs_n (by omega) rfl)))
    refine ga_iload_n (z := i) hm_90 rfl rfl ?_
    refine fl_iconst hm_90 rfl ?_
    refine fl_icmp_ge (a := i) (b := 4) hm_90 rfl ⟨by omega, by omega⟩ ⟨by omega, by omega⟩ (fun h75_ => ?_) (fun h76_ => ?_)
    ·
      refine ga_aload_n (v := .ref 119) hm_90 rfl rfl rfl ?_
      refine ga_getr (b := 1) hm_90 rfl sc_119 rfl ?_
      refine fl_iconst hm_90 rfl ?_
      have b77_ : 0 ≤ F1 1 7 ∧ F1 1 7 ≤ 600 := gi_g hg_F1 rfl
      refine gVv (nY := 2) (F := 7) (L := 121) (As := [.int (Int32.ofInt 1)]) (b := 1) (rest := []) hm_90 rfl hm_24 rfl rfl (fl_ob sc_1) rfl rfl rfl rfl rfl (by omega) (by omega) (mc_24 hG F1 X hg_F1 (K) (1) hgK tk74_ hko (by omega) (by omega)) ?_ ?_
      ·
        rintro j_ A1_ ⟨F79_, ⟨hJ_, hA_⟩, g80_, s81_, c78_⟩
        subst hA_
        subst hJ_
        refine ⟨rfl, ?_⟩
        refine gw_v ?_
        have g82_ : fs [(1, 1, 7, 8), (b, b, 4, 5), (b + 1, b + 4, 0, 100000)] F F79_ := fs_tr (fs_tr fs_refl g73_ (by simp [fs_le]; try omega)) s81_ (by simp [fs_le]; try omega)
        have b83_ : 0 ≤ F79_ 1 8 ∧ F79_ 1 8 ≤ 100000 := gi_g g80_ rfl
        exact ⟨F79_, ⟨rfl, rfl⟩, g80_, g82_, (by obtain ⟨e, c1, c2⟩ := c78_; exact ⟨e, (by rw [sp_clause, hk0]; simp only [pb]; rw [if_pos hand, hsk, hsp, spm_z (by omega)]; simp only; rw [c1]), c2⟩)⟩
      rintro A1_ ⟨F87_, hA_, g88_, s89_, c85_, c86_⟩
      subst hA_
      have g90_ : fs [(1, 1, 7, 7), (b, b, 4, 5), (b + 1, b + 4, 0, 100000)] F F87_ := fs_tr g73_ s89_ (by simp [fs_le]; try omega)
      have tk91_ : tkh K F87_ := tkh_fs tk74_ s89_ (fun r k h => (fs_n (by omega) rfl)) (fs_n (by omega) rfl)
      refine gr_v hm_90 rfl rfl ?_
      have b92_ : 0 ≤ F87_ 1 7 ∧ F87_ 1 7 ≤ 600 := gi_g g88_ rfl
      have e93_ : F87_ b 5 = F1 b 5 := (s89_ b 5 (fs_n (by omega) rfl)).trans (rfl)
      have b94_ : 0 ≤ F1 b 5 ∧ F1 b 5 ≤ 999 := gi_g hg_F1 h_b.2.1.2.1
      exact ⟨F87_, rfl, g88_, g90_, (by rw [sp_clause, hk0]; simp only [pb]; rw [if_pos hand, hsk, hsp, spm_z (by omega)]; simp only; rw [c85_]; simp only; rw [e93_]), (by omega), ((cw_fs hcw s89_ (fun r j hj => (fs_n (by omega) rfl)))), (clr_eq (clr_fs hcr s89_ (fun r j hj => (fs_n (by omega) rfl))) (by rw [clause_d, ks_ok hk0, if_pos hand, hsk, hcd, md_z (by omega), List.append_nil]))⟩
    refine ga_iload_n (z := i) hm_90 rfl rfl ?_
    refine fl_if_eq (a := i) hm_90 rfl ⟨by omega, by omega⟩ (fun h95_ => ?_) (fun h96_ => ?_)
    ·
      refine ga_aload_n (v := .ref 119) hm_90 rfl rfl rfl ?_
      refine ga_getr (b := 1) hm_90 rfl sc_119 rfl ?_
      refine fl_iconst hm_90 rfl ?_
      have b97_ : 0 ≤ F1 1 7 ∧ F1 1 7 ≤ 600 := gi_g hg_F1 rfl
      refine gVv (nY := 2) (F := 7) (L := 121) (As := [.int (Int32.ofInt 0)]) (b := 1) (rest := []) hm_90 rfl hm_24 rfl rfl (fl_ob sc_1) rfl rfl rfl rfl rfl (by omega) (by omega) (mc_24 hG F1 X hg_F1 (K) (0) hgK tk74_ hko (by omega) (by omega)) ?_ ?_
      ·
        rintro j_ A1_ ⟨F99_, ⟨hJ_, hA_⟩, g100_, s101_, c98_⟩
        subst hA_
        subst hJ_
        refine ⟨rfl, ?_⟩
        refine gw_v ?_
        have g102_ : fs [(1, 1, 7, 8), (b, b, 4, 5), (b + 1, b + 4, 0, 100000)] F F99_ := fs_tr (fs_tr fs_refl g73_ (by simp [fs_le]; try omega)) s101_ (by simp [fs_le]; try omega)
        have b103_ : 0 ≤ F99_ 1 8 ∧ F99_ 1 8 ≤ 100000 := gi_g g100_ rfl
        exact ⟨F99_, ⟨rfl, rfl⟩, g100_, g102_, (by obtain ⟨e, c1, c2⟩ := c98_; exact ⟨e, (by rw [sp_clause, hk0]; simp only [pb]; rw [if_pos hand, hsk, hsp, spm_step (by omega) (by omega), c1]; try rfl), c2⟩)⟩
      rintro A1_ ⟨F107_, hA_, g108_, s109_, c105_, c106_⟩
      subst hA_
      have g110_ : fs [(1, 1, 7, 7), (b, b, 4, 5), (b + 1, b + 4, 0, 100000)] F F107_ := fs_tr g73_ s109_ (by simp [fs_le]; try omega)
      have tk111_ : tkh K F107_ := tkh_fs tk74_ s109_ (fun r k h => (fs_n (by omega) rfl)) (fs_n (by omega) rfl)
      refine ga_aload_n (v := .ref 119) hm_90 rfl rfl rfl ?_
      refine ga_aload_n (v := .ref b) hm_90 rfl rfl rfl ?_
      refine ga_iload_n (z := ef) hm_90 rfl rfl ?_
      have b112_ : 0 ≤ F107_ 1 7 ∧ F107_ 1 7 ≤ 600 := gi_g g108_ rfl
      have e113_ : F5_ 119 2 = F 119 2 := by rw [q6_]; exact (fl_u_ne (by omega)).trans (fl_u_ne (by omega))
      have e114_ : F21_ 119 2 = F 119 2 := (s23_ 119 2 rfl).trans (e113_)
      have e115_ : F63_ 119 2 = F 119 2 := (s65_ 119 2 rfl).trans (e114_)
      have e116_ : F1 119 2 = F 119 2 := (hf_F1 119 2 (fs_n (by omega) (fs_n (by omega) (fs_n (by omega) rfl)))).trans (e115_)
      have e117_ : F107_ 119 2 = F 119 2 := (s109_ 119 2 rfl).trans (e116_)
      have b118_ : 8 ≤ F 119 2 ∧ F 119 2 ≤ 105 := gi_g hgi rfl
      have e119_ : F5_ 119 3 = F 119 3 := by rw [q6_]; exact (fl_u_ne (by omega)).trans (fl_u_ne (by omega))
      have e120_ : F21_ 119 3 = F 119 3 := (s23_ 119 3 rfl).trans (e119_)
      have e121_ : F63_ 119 3 = F 119 3 := (s65_ 119 3 rfl).trans (e120_)
      have e122_ : F1 119 3 = F 119 3 := (hf_F1 119 3 (fs_n (by omega) (fs_n (by omega) (fs_n (by omega) rfl)))).trans (e121_)
      have e123_ : F107_ 119 3 = F 119 3 := (s109_ 119 3 rfl).trans (e122_)
      have b124_ : 2 ≤ F 119 3 ∧ F 119 3 ≤ 3 := gi_g hgi rfl
      refine gVv (nY := 4) (F := 9) (L := 169) (As := [.ref b, .int (Int32.ofInt ef)]) (b := 119) (rest := []) hm_90 rfl hm_93 rfl rfl (fl_ob sc_119) rfl rfl rfl rfl rfl (by omega) (by omega) (mc_93 hG F107_ X g108_ (K) (a) (n) (b) (nb) (t) (q) (k) (l) (tl) (pl) (ps) (ee) (ef) (L) hgK tk111_ hko (by omega) (h_a) (by omega) (by omega) ((rep_fs (rep_fs (rep_fs (rep_fs (by rw [q6_]; exact (rep_u (rep_u hl (by omega) (by omega)) (by omega) (by omega))) s23_ (fun _ => (fs_n (by omega) rfl)) (fs_n (by omega) rfl)) s65_ (fun _ => (fs_n (by omega) rfl)) (fs_n (by omega) rfl)) hf_F1 (fun _ => (fs_n (by omega) (fs_n (by omega) (fs_n (by omega) rfl)))) (fs_n (by omega) (fs_n (by omega) (fs_n (by omega) rfl)))) s109_ (fun _ => (fs_n (by omega) rfl)) (fs_n (by omega) rfl))) ((rep_fs (rep_fs (rep_fs (rep_fs (by rw [q6_]; exact (rep_u (rep_u htl (by omega) (by omega)) (by omega) (by omega))) s23_ (fun _ => (fs_n (by omega) rfl)) (fs_n (by omega) rfl)) s65_ (fun _ => (fs_n (by omega) rfl)) (fs_n (by omega) rfl)) hf_F1 (fun _ => (fs_n (by omega) (fs_n (by omega) (fs_n (by omega) rfl)))) (fs_n (by omega) (fs_n (by omega) (fs_n (by omega) rfl)))) s109_ (fun _ => (fs_n (by omega) rfl)) (fs_n (by omega) rfl))) (by omega) h_b (by omega) (by omega) ((cw_fs hcw s109_ (fun r j hj => (fs_n (by omega) rfl)))) ((rep_fs (rep_fs (rep_fs (rep_fs (by rw [q6_]; exact (rep_u (rep_u hpl (by omega) (by omega)) (by omega) (by omega))) s23_ (fun _ => (fs_n (by omega) rfl)) (fs_n (by omega) rfl)) s65_ (fun _ => (fs_n (by omega) rfl)) (fs_n (by omega) rfl)) hf_F1 (fun _ => (fs_n (by omega) (fs_n (by omega) (fs_n (by omega) rfl)))) (fs_n (by omega) (fs_n (by omega) (fs_n (by omega) rfl)))) s109_ (fun _ => (fs_n (by omega) rfl)) (fs_n (by omega) rfl))) ((prd_fs (prd_fs (prd_fs (prd_fs (by rw [q6_]; exact (prd_u (prd_u hps (by omega)) (by omega))) s23_ (fun _ _ _ => (fs_n (by omega) rfl))) s65_ (fun _ _ _ => (fs_n (by omega) rfl))) hf_F1 (fun _ _ _ => (fs_n (by omega) (fs_n (by omega) (fs_n (by omega) rfl))))) s109_ (fun _ _ _ => (fs_n (by omega) rfl)))) (hpn) (he) (by omega) ((clr_fs hcr s109_ (fun r j hj => (fs_n (by omega) rfl)))) (by omega)) ?_ ?_
      ·
        have e129_ : F107_ b 5 = F1 b 5 := (s109_ b 5 (fs_n (by omega) rfl)).trans (rfl)
        have b130_ : 0 ≤ F1 b 5 ∧ F1 b 5 ≤ 999 := gi_g hg_F1 h_b.2.1.2.1
        rintro j_ A1_ ⟨F126_, ⟨hJ_, hA_⟩, g127_, s128_, c125_⟩
        subst hA_
        subst hJ_
        try simp only [e129_] at c125_
        refine ⟨rfl, ?_⟩
        refine gw_v ?_
        have g131_ : fs [(1, 1, 7, 8), (b, b, 4, 5), (b + 1, b + 4, 0, 100000)] F F126_ := fs_tr (fs_tr fs_refl g110_ (by simp [fs_le]; try omega)) s128_ (by simp [fs_le]; try omega)
        have b132_ : 0 ≤ F126_ 1 8 ∧ F126_ 1 8 ≤ 100000 := gi_g g127_ rfl
        exact ⟨F126_, ⟨rfl, rfl⟩, g127_, g131_, (by obtain ⟨e, c1, c2⟩ := c125_; exact ⟨e, (by rw [sp_clause, hk0]; simp only [pb]; rw [if_pos hand, hsk, hsp, spm_step (by omega) (by omega), c105_]; simp only [pb]; rw [c1]; try rfl), c2⟩)⟩
      have e134_ : F107_ b 5 = F1 b 5 := (s109_ b 5 (fs_n (by omega) rfl)).trans (rfl)
      have b135_ : 0 ≤ F1 b 5 ∧ F1 b 5 ≤ 999 := gi_g hg_F1 h_b.2.1.2.1
      rintro A1_ ⟨F140_, hA_, g141_, s142_, c136_, c137_, c138_, c139_⟩
      subst hA_
      have g143_ : fs [(1, 1, 7, 7), (b, b, 4, 5), (b + 1, b + 4, 0, 100000)] F F140_ := fs_tr g110_ s142_ (by simp [fs_le]; try omega)
      have tk144_ : tkh K F140_ := tkh_fs tk111_ s142_ (fun r k h => (fs_n (by omega) (fs_n (by omega) (fs_n (by omega) rfl)))) (fs_n (by omega) (fs_n (by omega) (fs_n (by omega) rfl)))
      try simp only [e134_] at c136_
      refine ga_inc (a := i) (c := i + 1) (lv2 := [(3, .int (Int32.ofInt (i + 1))), (0, .ref 119), (1, .ref b), (2, .int (Int32.ofInt ef))]) hm_90 rfl rfl (Nat.le_of_ble_eq_true rfl) rfl rfl ?_
      refine fl_goto hm_90 rfl ?_
      have b145_ : 0 ≤ F140_ 1 7 ∧ F140_ 1 7 ≤ 600 := gi_g g141_ rfl
      have b146_ : 0 ≤ K 1 6 ∧ K 1 6 ≤ 601 := gi_g hgK rfl
      have b147_ : 0 ≤ F140_ b 5 ∧ F140_ b 5 ≤ 999 := gi_g g141_ h_b.2.1.2.1
      exact ih70_ _ (by omega) (i + 1) (_) F140_ rfl g141_ (fs_tr (fs_tr hf_F1 s109_ (by simp [fs_le]; try omega)) s142_ (by simp [fs_le]; try omega)) (by omega) (c138_) (by omega) (by rw [hsp, spm_step (by omega) (by omega), c105_]; simp only [pb]; rw [c136_]; simp only; rw [decide_eq_false (show ¬ i + 1 = 0 by omega)]) (c139_) (by rw [List.length_append]; have h9_ := @mem_dl K ee l pl ps (F107_ 1 7); omega) (by rw [hcd, md_step (by omega) c105_ c136_, List.append_assoc])
    refine ga_aload_n (v := .ref 119) hm_90 rfl rfl rfl ?_
    refine ga_getr (b := 1) hm_90 rfl sc_119 rfl ?_
    refine fl_iconst hm_90 rfl ?_
    refine gIi (nY := 2) (F := 0) (L := 0) (As := [.int (Int32.ofInt 0)]) (b := 1) (rest := []) hm_90 rfl hm_153 rfl rfl (fl_ob sc_1) rfl rfl rfl rfl rfl (by omega) (by omega) ?_
    intro f148_ l149_ h150_ h151_
    show fl_R xi_ms 153 f148_ l149_ 0 [(0, .ref 1), (1, .int (Int32.ofInt 0))] [] _ _
    refine ga_aload_n (v := .ref 1) hm_153 rfl rfl rfl ?_
    refine ga_getr (b := 3) hm_153 rfl sc_1 rfl ?_
    refine ga_aload_n (v := .ref 1) hm_153 rfl rfl rfl ?_
    have b152_ : 0 ≤ F1 1 7 ∧ F1 1 7 ≤ 600 := gi_g hg_F1 rfl
    refine ga_geti (z := F1 1 7) hm_153 rfl sc_1 rfl (rfl) ?_
    have e153_ : F1 3 (F1 1 7).toNat = K 3 (F1 1 7).toNat := tk74_.1 3 (F1 1 7).toNat (by omega)
    have b154_ : 0 ≤ K 3 (F1 1 7).toNat ∧ K 3 (F1 1 7).toNat ≤ 5 := gi_g hgK rfl
    refine ga_iald (z := F1 1 7) (w := K 3 (F1 1 7).toNat) hm_153 rfl sc_3 (by omega) (by omega) (by omega) (e153_) ?_
    refine ga_iload_n (z := 0) hm_153 rfl rfl ?_
    refine fx_icmp_ne (a := K 3 (F1 1 7).toNat) (b := 0) hm_153 rfl ⟨by omega, by omega⟩ ⟨by omega, by omega⟩ (fun h155_ => ?_) (fun h156_ => ?_)
    ·
      refine fl_iconst hm_153 rfl ?_
      refine gr_i hm_153 rfl rfl (ga_nb (by omega)) ?_
      clear h150_ h151_ f148_ l149_
      refine fl_if_eq hm_90 rfl ⟨by omega, by omega⟩ (fun _ => ?_) (fun h => absurd (by omega) h)
      refine ga_aload_n (v := .ref 119) hm_90 rfl rfl rfl ?_
      refine ga_getr (b := 1) hm_90 rfl sc_119 rfl ?_
      refine fl_iconst hm_90 rfl ?_
      refine gVv (nY := 2) (F := 7) (L := 121) (As := [.int (Int32.ofInt 1)]) (b := 1) (rest := []) hm_90 rfl hm_24 rfl rfl (fl_ob sc_1) rfl rfl rfl rfl rfl (by omega) (by omega) (mc_24 hG F1 X hg_F1 (K) (1) hgK tk74_ hko (by omega) (by omega)) ?_ ?_
      ·
        rintro j_ A1_ ⟨F158_, ⟨hJ_, hA_⟩, g159_, s160_, c157_⟩
        subst hA_
        subst hJ_
        refine ⟨rfl, ?_⟩
        refine gw_v ?_
        have g161_ : fs [(1, 1, 7, 8), (b, b, 4, 5), (b + 1, b + 4, 0, 100000)] F F158_ := fs_tr (fs_tr fs_refl g73_ (by simp [fs_le]; try omega)) s160_ (by simp [fs_le]; try omega)
        have b162_ : 0 ≤ F158_ 1 8 ∧ F158_ 1 8 ≤ 100000 := gi_g g159_ rfl
        exact ⟨F158_, ⟨rfl, rfl⟩, g159_, g161_, (by obtain ⟨e, c1, c2⟩ := c157_; exact ⟨e, (by rw [sp_clause, hk0]; simp only [pb]; rw [if_pos hand, hsk, hsp, spm_e (by omega) (by omega)]; simp only; rw [c1]), c2⟩)⟩
      rintro A1_ ⟨F166_, hA_, g167_, s168_, c164_, c165_⟩
      subst hA_
      have g169_ : fs [(1, 1, 7, 7), (b, b, 4, 5), (b + 1, b + 4, 0, 100000)] F F166_ := fs_tr g73_ s168_ (by simp [fs_le]; try omega)
      have tk170_ : tkh K F166_ := tkh_fs tk74_ s168_ (fun r k h => (fs_n (by omega) rfl)) (fs_n (by omega) rfl)
      refine gr_v hm_90 rfl rfl ?_
      have b171_ : 0 ≤ F166_ 1 7 ∧ F166_ 1 7 ≤ 600 := gi_g g167_ rfl
      have e172_ : F166_ b 5 = F1 b 5 := (s168_ b 5 (fs_n (by omega) rfl)).trans (rfl)
      have b173_ : 0 ≤ F1 b 5 ∧ F1 b 5 ≤ 999 := gi_g hg_F1 h_b.2.1.2.1
      exact ⟨F166_, rfl, g167_, g169_, (by rw [sp_clause, hk0]; simp only [pb]; rw [if_pos hand, hsk, hsp, spm_e (by omega) (by omega)]; simp only; rw [c164_]; simp only; rw [e172_]), (by omega), ((cw_fs hcw s168_ (fun r j hj => (fs_n (by omega) rfl)))), (clr_eq (clr_fs hcr s168_ (fun r j hj => (fs_n (by omega) rfl))) (by rw [clause_d, ks_ok hk0, if_pos hand, hsk, hcd, md_e (by omega) (by omega), List.append_nil]))⟩
    refine fl_iconst hm_153 rfl ?_
    refine fl_goto hm_153 rfl ?_
    refine gr_i hm_153 rfl rfl (ga_nb (by omega)) ?_
    clear h150_ h151_ f148_ l149_
    refine fl_if_eq hm_90 rfl ⟨by omega, by omega⟩ (fun h => absurd h (by omega)) (fun _ => ?_)
    refine ga_aload_n (v := .ref 119) hm_90 rfl rfl rfl ?_
    refine ga_getr (b := 1) hm_90 rfl sc_119 rfl ?_
    refine fl_iconst hm_90 rfl ?_
    refine gVv (nY := 2) (F := 7) (L := 121) (As := [.int (Int32.ofInt 0)]) (b := 1) (rest := []) hm_90 rfl hm_24 rfl rfl (fl_ob sc_1) rfl rfl rfl rfl rfl (by omega) (by omega) (mc_24 hG F1 X hg_F1 (K) (0) hgK tk74_ hko (by omega) (by omega)) ?_ ?_
    ·
      rintro j_ A1_ ⟨F175_, ⟨hJ_, hA_⟩, g176_, s177_, c174_⟩
      subst hA_
      subst hJ_
      refine ⟨rfl, ?_⟩
      refine gw_v ?_
      have g178_ : fs [(1, 1, 7, 8), (b, b, 4, 5), (b + 1, b + 4, 0, 100000)] F F175_ := fs_tr (fs_tr fs_refl g73_ (by simp [fs_le]; try omega)) s177_ (by simp [fs_le]; try omega)
      have b179_ : 0 ≤ F175_ 1 8 ∧ F175_ 1 8 ≤ 100000 := gi_g g176_ rfl
      exact ⟨F175_, ⟨rfl, rfl⟩, g176_, g178_, (by obtain ⟨e, c1, c2⟩ := c174_; exact ⟨e, (by rw [sp_clause, hk0]; simp only [pb]; rw [if_pos hand, hsk, hsp, spm_step (by omega) (by omega), c1]; try rfl), c2⟩)⟩
    rintro A1_ ⟨F183_, hA_, g184_, s185_, c181_, c182_⟩
    subst hA_
    have g186_ : fs [(1, 1, 7, 7), (b, b, 4, 5), (b + 1, b + 4, 0, 100000)] F F183_ := fs_tr g73_ s185_ (by simp [fs_le]; try omega)
    have tk187_ : tkh K F183_ := tkh_fs tk74_ s185_ (fun r k h => (fs_n (by omega) rfl)) (fs_n (by omega) rfl)
    refine ga_aload_n (v := .ref 119) hm_90 rfl rfl rfl ?_
    refine ga_aload_n (v := .ref b) hm_90 rfl rfl rfl ?_
    refine ga_iload_n (z := ef) hm_90 rfl rfl ?_
    have b188_ : 0 ≤ F183_ 1 7 ∧ F183_ 1 7 ≤ 600 := gi_g g184_ rfl
    have e189_ : F5_ 119 2 = F 119 2 := by rw [q6_]; exact (fl_u_ne (by omega)).trans (fl_u_ne (by omega))
    have e190_ : F21_ 119 2 = F 119 2 := (s23_ 119 2 rfl).trans (e189_)
    have e191_ : F63_ 119 2 = F 119 2 := (s65_ 119 2 rfl).trans (e190_)
    have e192_ : F1 119 2 = F 119 2 := (hf_F1 119 2 (fs_n (by omega) (fs_n (by omega) (fs_n (by omega) rfl)))).trans (e191_)
    have e193_ : F183_ 119 2 = F 119 2 := (s185_ 119 2 rfl).trans (e192_)
    have b194_ : 8 ≤ F 119 2 ∧ F 119 2 ≤ 105 := gi_g hgi rfl
    have e195_ : F5_ 119 3 = F 119 3 := by rw [q6_]; exact (fl_u_ne (by omega)).trans (fl_u_ne (by omega))
    have e196_ : F21_ 119 3 = F 119 3 := (s23_ 119 3 rfl).trans (e195_)
    have e197_ : F63_ 119 3 = F 119 3 := (s65_ 119 3 rfl).trans (e196_)
    have e198_ : F1 119 3 = F 119 3 := (hf_F1 119 3 (fs_n (by omega) (fs_n (by omega) (fs_n (by omega) rfl)))).trans (e197_)
    have e199_ : F183_ 119 3 = F 119 3 := (s185_ 119 3 rfl).trans (e198_)
    have b200_ : 2 ≤ F 119 3 ∧ F 119 3 ≤ 3 := gi_g hgi rfl
    refine gVv (nY := 4) (F := 9) (L := 169) (As := [.ref b, .int (Int32.ofInt ef)]) (b := 119) (rest := []) hm_90 rfl hm_93 rfl rfl (fl_ob sc_119) rfl rfl rfl rfl rfl (by omega) (by omega) (mc_93 hG F183_ X g184_ (K) (a) (n) (b) (nb) (t) (q) (k) (l) (tl) (pl) (ps) (ee) (ef) (L) hgK tk187_ hko (by omega) (h_a) (by omega) (by omega) ((rep_fs (rep_fs (rep_fs (rep_fs (by rw [q6_]; exact (rep_u (rep_u hl (by omega) (by omega)) (by omega) (by omega))) s23_ (fun _ => (fs_n (by omega) rfl)) (fs_n (by omega) rfl)) s65_ (fun _ => (fs_n (by omega) rfl)) (fs_n (by omega) rfl)) hf_F1 (fun _ => (fs_n (by omega) (fs_n (by omega) (fs_n (by omega) rfl)))) (fs_n (by omega) (fs_n (by omega) (fs_n (by omega) rfl)))) s185_ (fun _ => (fs_n (by omega) rfl)) (fs_n (by omega) rfl))) ((rep_fs (rep_fs (rep_fs (rep_fs (by rw [q6_]; exact (rep_u (rep_u htl (by omega) (by omega)) (by omega) (by omega))) s23_ (fun _ => (fs_n (by omega) rfl)) (fs_n (by omega) rfl)) s65_ (fun _ => (fs_n (by omega) rfl)) (fs_n (by omega) rfl)) hf_F1 (fun _ => (fs_n (by omega) (fs_n (by omega) (fs_n (by omega) rfl)))) (fs_n (by omega) (fs_n (by omega) (fs_n (by omega) rfl)))) s185_ (fun _ => (fs_n (by omega) rfl)) (fs_n (by omega) rfl))) (by omega) h_b (by omega) (by omega) ((cw_fs hcw s185_ (fun r j hj => (fs_n (by omega) rfl)))) ((rep_fs (rep_fs (rep_fs (rep_fs (by rw [q6_]; exact (rep_u (rep_u hpl (by omega) (by omega)) (by omega) (by omega))) s23_ (fun _ => (fs_n (by omega) rfl)) (fs_n (by omega) rfl)) s65_ (fun _ => (fs_n (by omega) rfl)) (fs_n (by omega) rfl)) hf_F1 (fun _ => (fs_n (by omega) (fs_n (by omega) (fs_n (by omega) rfl)))) (fs_n (by omega) (fs_n (by omega) (fs_n (by omega) rfl)))) s185_ (fun _ => (fs_n (by omega) rfl)) (fs_n (by omega) rfl))) ((prd_fs (prd_fs (prd_fs (prd_fs (by rw [q6_]; exact (prd_u (prd_u hps (by omega)) (by omega))) s23_ (fun _ _ _ => (fs_n (by omega) rfl))) s65_ (fun _ _ _ => (fs_n (by omega) rfl))) hf_F1 (fun _ _ _ => (fs_n (by omega) (fs_n (by omega) (fs_n (by omega) rfl))))) s185_ (fun _ _ _ => (fs_n (by omega) rfl)))) (hpn) (he) (by omega) ((clr_fs hcr s185_ (fun r j hj => (fs_n (by omega) rfl)))) (by omega)) ?_ ?_
    ·
      have e205_ : F183_ b 5 = F1 b 5 := (s185_ b 5 (fs_n (by omega) rfl)).trans (rfl)
      have b206_ : 0 ≤ F1 b 5 ∧ F1 b 5 ≤ 999 := gi_g hg_F1 h_b.2.1.2.1
      rintro j_ A1_ ⟨F202_, ⟨hJ_, hA_⟩, g203_, s204_, c201_⟩
      subst hA_
      subst hJ_
      try simp only [e205_] at c201_
      refine ⟨rfl, ?_⟩
      refine gw_v ?_
      have g207_ : fs [(1, 1, 7, 8), (b, b, 4, 5), (b + 1, b + 4, 0, 100000)] F F202_ := fs_tr (fs_tr fs_refl g186_ (by simp [fs_le]; try omega)) s204_ (by simp [fs_le]; try omega)
      have b208_ : 0 ≤ F202_ 1 8 ∧ F202_ 1 8 ≤ 100000 := gi_g g203_ rfl
      exact ⟨F202_, ⟨rfl, rfl⟩, g203_, g207_, (by obtain ⟨e, c1, c2⟩ := c201_; exact ⟨e, (by rw [sp_clause, hk0]; simp only [pb]; rw [if_pos hand, hsk, hsp, spm_step (by omega) (by omega), c181_]; simp only [pb]; rw [c1]; try rfl), c2⟩)⟩
    have e210_ : F183_ b 5 = F1 b 5 := (s185_ b 5 (fs_n (by omega) rfl)).trans (rfl)
    have b211_ : 0 ≤ F1 b 5 ∧ F1 b 5 ≤ 999 := gi_g hg_F1 h_b.2.1.2.1
    rintro A1_ ⟨F216_, hA_, g217_, s218_, c212_, c213_, c214_, c215_⟩
    subst hA_
    have g219_ : fs [(1, 1, 7, 7), (b, b, 4, 5), (b + 1, b + 4, 0, 100000)] F F216_ := fs_tr g186_ s218_ (by simp [fs_le]; try omega)
    have tk220_ : tkh K F216_ := tkh_fs tk187_ s218_ (fun r k h => (fs_n (by omega) (fs_n (by omega) (fs_n (by omega) rfl)))) (fs_n (by omega) (fs_n (by omega) (fs_n (by omega) rfl)))
    try simp only [e210_] at c212_
    refine ga_inc (a := i) (c := i + 1) (lv2 := [(3, .int (Int32.ofInt (i + 1))), (0, .ref 119), (1, .ref b), (2, .int (Int32.ofInt ef))]) hm_90 rfl rfl (Nat.le_of_ble_eq_true rfl) rfl rfl ?_
    refine fl_goto hm_90 rfl ?_
    have b221_ : 0 ≤ F216_ 1 7 ∧ F216_ 1 7 ≤ 600 := gi_g g217_ rfl
    have b222_ : 0 ≤ K 1 6 ∧ K 1 6 ≤ 601 := gi_g hgK rfl
    have b223_ : 0 ≤ F216_ b 5 ∧ F216_ b 5 ≤ 999 := gi_g g217_ h_b.2.1.2.1
    exact ih70_ _ (by omega) (i + 1) (_) F216_ rfl g217_ (fs_tr (fs_tr hf_F1 s185_ (by simp [fs_le]; try omega)) s218_ (by simp [fs_le]; try omega)) (by omega) (c214_) (by omega) (by rw [hsp, spm_step (by omega) (by omega), c181_]; simp only [pb]; rw [c212_]; simp only; rw [decide_eq_false (show ¬ i + 1 = 0 by omega)]) (c215_) (by rw [List.length_append]; have h9_ := @mem_dl K ee l pl ps (F183_ 1 7); omega) (by rw [hcd, md_step (by omega) c181_ c212_, List.append_assoc])
  have b224_ : 0 ≤ K 1 6 ∧ K 1 6 ≤ 601 := gi_g hgK rfl
  have e225_ : F5_ b 5 = 0 := by rw [q6_]; exact fl_u_eq
  have e226_ : F21_ b 5 = 0 := (s23_ b 5 (fs_n (by omega) rfl)).trans (e225_)
  have e227_ : F63_ b 5 = 0 := (s65_ b 5 (fs_n (by omega) rfl)).trans (e226_)
  have e228_ : F5_ b 4 = 0 := by rw [q6_]; exact (fl_u_ne (by omega)).trans (fl_u_eq)
  have e229_ : F21_ b 4 = 0 := (s23_ b 4 (fs_n (by omega) rfl)).trans (e228_)
  have e230_ : F63_ b 4 = 0 := (s65_ b 4 (fs_n (by omega) rfl)).trans (e229_)
  exact L69_ _ (0) ([]) F63_ rfl g64_ fs_refl (by omega) (cw_nil e230_) (by omega) (by rw [e227_]; rfl) (clr_nil e230_) (by simp) (by rw [e227_]; rfl)

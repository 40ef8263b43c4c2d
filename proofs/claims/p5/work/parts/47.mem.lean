theorem spm_step {K : fl_N} {e : Bool} {k : Int} {l tl pl : List Int} {ps : List (List Int)} {i c p : Int} (h : i < 4) (hk : i = 0 ∨ K 3 p.toNat = 0) : sp_mems K e k l tl pl ps (4 - i).toNat (decide (i = 0)) c p = pb (sp_kind K 0 p) fun p => pb (sp_mem K e k l tl pl ps c p) fun q => sp_mems K e k l tl pl ps (4 - (i + 1)).toNat false q.2 q.1 := by
  rw [show (4 - i).toNat = (4 - (i + 1)).toNat + 1 by omega]
  conv => lhs; unfold sp_mems
  rw [if_neg]
  rintro ⟨h1, h2⟩
  rcases hk with hk | hk
  · simp [hk] at h1
  · exact h2 hk
theorem spm_z {K : fl_N} {e b : Bool} {k : Int} {l tl pl : List Int} {ps : List (List Int)} {i c p : Int} (h : 4 ≤ i) : sp_mems K e k l tl pl ps (4 - i).toNat b c p = .inr (p, c) := by
  rw [show (4 - i).toNat = 0 by omega]
  rfl
theorem spm_e {K : fl_N} {e : Bool} {k : Int} {l tl pl : List Int} {ps : List (List Int)} {m : Nat} {i c p : Int} (h : ¬ i = 0) (hk : ¬ K 3 p.toNat = 0) : sp_mems K e k l tl pl ps m (decide (i = 0)) c p = .inr (p, c) := by
  cases m with
  | zero => rfl
  | succ m =>
    unfold sp_mems
    rw [if_pos ⟨decide_eq_false h, hk⟩]

/- CheapPlanner$ClauseReader.readIncrease -/
abbrev pq_92 (G : Nat → Nat → Option Nat) (F : fl_N) (X : xi_H) (K : fl_N) (b nb : Nat) (t q : Int) : Outcome → xi_H → Prop := gqv (fun A => ∃ F' : fl_N, fl_H sh_T G F' ++ X = A ∧ gi F' ∧ fs [(1, 1, 7, 7), (b, b, 5, 5)] F F' ∧ (sp_inc K (F b 5) (F 1 7) = .inr (F' 1 7, F' b 5)) ∧ (0 ≤ F' 1 7 ∧ F' 1 7 ≤ K 1 6 - 1)) (fun j A => ∃ F' : fl_N, (387 + X.length = j ∧ fl_H sh_T G F' ++ (X ++ [gx 14]) = A) ∧ gi F' ∧ fs [(1, 1, 7, 8), (b, b, 5, 5)] F F' ∧ (∃ e, sp_inc K (F b 5) (F 1 7) = .inl e ∧ F' 1 8 = e.1 + 10 * e.2))
theorem mc_92 {G : Nat → Nat → Option Nat} (hG : gg G) (F : fl_N) (X : xi_H) (hgi : gi F) (K : fl_N) (b nb : Nat) (t q : Int) (hgK : gi K) (hK : tkh K F) (hko : tko K) (hp : 0 ≤ F 1 7 ∧ F 1 7 ≤ K 1 6 - 1) (h_b : cl b nb t q) : fl_M xi_ms 92 8 144 [.ref 119, .ref b] (fl_H sh_T G F ++ X) (pq_92 G F X K b nb t q) := by
  intro fr lo hfr hlo
  show fl_R xi_ms 92 fr lo 0 [(0, .ref 119), (1, .ref b)] [] _ _
  have hr_b := h_b.2.2
  refine ga_aload_n (v := .ref b) hm_92 rfl rfl rfl ?_
  have b1_ : 0 ≤ F b 5 ∧ F b 5 ≤ 999 := gi_g hgi h_b.2.1.2.1
  refine ga_geti (z := F b 5) hm_92 rfl h_b.1.1 rfl (rfl) ?_
  refine fl_if_eq (a := F b 5) hm_92 rfl ⟨by omega, by omega⟩ (fun h2_ => ?_) (fun h3_ => ?_)
  ·
    refine ga_aload_n (v := .ref 119) hm_92 rfl rfl rfl ?_
    refine ga_getr (b := 1) hm_92 rfl sc_119 rfl ?_
    have b4_ : 0 ≤ F 1 7 ∧ F 1 7 ≤ 600 := gi_g hgi rfl
    refine gVv (nY := 1) (F := 0) (L := 0) (As := []) (b := 1) (rest := []) hm_92 rfl hm_154 rfl rfl (fl_ob sc_1) rfl rfl rfl rfl rfl (by omega) (by omega) (mc_154 hG F X hgi (K) hgK hK hko (by omega)) (fun _ _ h => False.elim h) ?_
    rintro A1_ ⟨F8_, hA_, g9_, s10_, c6_, c7_⟩
    subst hA_
    have g11_ : fs [(1, 1, 7, 7), (b, b, 5, 5)] F F8_ := fs_tr fs_refl s10_ (by simp [fs_le]; try omega)
    have tk12_ : tkh K F8_ := tkh_fs hK s10_ (fun r k h => (fs_n (by omega) rfl)) (fs_n (by omega) rfl)
    refine ga_aload_n (v := .ref 119) hm_92 rfl rfl rfl ?_
    refine ga_getr (b := 1) hm_92 rfl sc_119 rfl ?_
    refine fl_iconst hm_92 rfl ?_
    have b13_ : 0 ≤ F8_ 1 7 ∧ F8_ 1 7 ≤ 600 := gi_g g9_ rfl
    refine gVv (nY := 2) (F := 7) (L := 121) (As := [.int (Int32.ofInt 0)]) (b := 1) (rest := []) hm_92 rfl hm_24 rfl rfl (fl_ob sc_1) rfl rfl rfl rfl rfl (by omega) (by omega) (mc_24 hG F8_ X g9_ (K) (0) hgK tk12_ hko (by omega) (by omega)) ?_ ?_
    ·
      rintro j_ A1_ ⟨F15_, ⟨hJ_, hA_⟩, g16_, s17_, c14_⟩
      subst hA_
      subst hJ_
      refine ⟨rfl, ?_⟩
      refine gw_v ?_
      have g18_ : fs [(1, 1, 7, 8), (b, b, 5, 5)] F F15_ := fs_tr (fs_tr fs_refl g11_ (by simp [fs_le]; try omega)) s17_ (by simp [fs_le]; try omega)
      have b19_ : 0 ≤ F15_ 1 8 ∧ F15_ 1 8 ≤ 100000 := gi_g g16_ rfl
      exact ⟨F15_, ⟨rfl, rfl⟩, g16_, g18_, (by obtain ⟨e, c1, c2⟩ := c14_; exact ⟨e, (by rw [sp_inc, if_pos (by omega), c6_]; rw [c1]; try rfl), c2⟩)⟩
    rintro A1_ ⟨F23_, hA_, g24_, s25_, c21_, c22_⟩
    subst hA_
    have g26_ : fs [(1, 1, 7, 7), (b, b, 5, 5)] F F23_ := fs_tr g11_ s25_ (by simp [fs_le]; try omega)
    have tk27_ : tkh K F23_ := tkh_fs tk12_ s25_ (fun r k h => (fs_n (by omega) rfl)) (fs_n (by omega) rfl)
    refine ga_aload_n (v := .ref 119) hm_92 rfl rfl rfl ?_
    refine ga_getr (b := 1) hm_92 rfl sc_119 rfl ?_
    refine ga_ldcs hm_92 rfl ?_
    have b28_ : 0 ≤ F23_ 1 7 ∧ F23_ 1 7 ≤ 600 := gi_g g24_ rfl
    refine gVv (nY := 2) (F := 7) (L := 123) (As := [.retAddr 11]) (b := 1) (rest := []) hm_92 rfl hm_155 rfl rfl (fl_ob sc_1) rfl rfl rfl rfl rfl (by omega) (by omega) (mc_155 hG F23_ X g24_ (K) (11) ([116, 111, 116, 97, 108, 45, 99, 111, 115, 116]) hgK tk27_ hko (by omega) (rfl) (by decide)) ?_ ?_
    ·
      rintro j_ A1_ ⟨F30_, ⟨hJ_, hA_⟩, g31_, s32_, c29_⟩
      subst hA_
      subst hJ_
      refine ⟨rfl, ?_⟩
      refine gw_v ?_
      have g33_ : fs [(1, 1, 7, 8), (b, b, 5, 5)] F F30_ := fs_tr (fs_tr fs_refl g26_ (by simp [fs_le]; try omega)) s32_ (by simp [fs_le]; try omega)
      have b34_ : 0 ≤ F30_ 1 8 ∧ F30_ 1 8 ≤ 100000 := gi_g g31_ rfl
      exact ⟨F30_, ⟨rfl, rfl⟩, g31_, g33_, (by obtain ⟨e, c1, c2⟩ := c29_; exact ⟨e, (by rw [sp_inc, if_pos (by omega), c6_]; rw [c21_]; simp only [pb]; rw [c1]; try rfl), c2⟩)⟩
    rintro A1_ ⟨F38_, hA_, g39_, s40_, c36_, c37_⟩
    subst hA_
    have g41_ : fs [(1, 1, 7, 7), (b, b, 5, 5)] F F38_ := fs_tr g26_ s40_ (by simp [fs_le]; try omega)
    have tk42_ : tkh K F38_ := tkh_fs tk27_ s40_ (fun r k h => (fs_n (by omega) rfl)) (fs_n (by omega) rfl)
    refine ga_aload_n (v := .ref 119) hm_92 rfl rfl rfl ?_
    refine ga_getr (b := 1) hm_92 rfl sc_119 rfl ?_
    refine fl_iconst hm_92 rfl ?_
    have b43_ : 0 ≤ F38_ 1 7 ∧ F38_ 1 7 ≤ 600 := gi_g g39_ rfl
    refine gVv (nY := 2) (F := 7) (L := 121) (As := [.int (Int32.ofInt 1)]) (b := 1) (rest := []) hm_92 rfl hm_24 rfl rfl (fl_ob sc_1) rfl rfl rfl rfl rfl (by omega) (by omega) (mc_24 hG F38_ X g39_ (K) (1) hgK tk42_ hko (by omega) (by omega)) ?_ ?_
    ·
      rintro j_ A1_ ⟨F45_, ⟨hJ_, hA_⟩, g46_, s47_, c44_⟩
      subst hA_
      subst hJ_
      refine ⟨rfl, ?_⟩
      refine gw_v ?_
      have g48_ : fs [(1, 1, 7, 8), (b, b, 5, 5)] F F45_ := fs_tr (fs_tr fs_refl g41_ (by simp [fs_le]; try omega)) s47_ (by simp [fs_le]; try omega)
      have b49_ : 0 ≤ F45_ 1 8 ∧ F45_ 1 8 ≤ 100000 := gi_g g46_ rfl
      exact ⟨F45_, ⟨rfl, rfl⟩, g46_, g48_, (by obtain ⟨e, c1, c2⟩ := c44_; exact ⟨e, (by rw [sp_inc, if_pos (by omega), c6_]; rw [c21_]; simp only [pb]; rw [c36_]; simp only [pb]; rw [c1]; try rfl), c2⟩)⟩
    rintro A1_ ⟨F53_, hA_, g54_, s55_, c51_, c52_⟩
    subst hA_
    have g56_ : fs [(1, 1, 7, 7), (b, b, 5, 5)] F F53_ := fs_tr g41_ s55_ (by simp [fs_le]; try omega)
    have tk57_ : tkh K F53_ := tkh_fs tk42_ s55_ (fun r k h => (fs_n (by omega) rfl)) (fs_n (by omega) rfl)
    refine ga_aload_n (v := .ref b) hm_92 rfl rfl rfl ?_
    refine ga_aload_n (v := .ref 119) hm_92 rfl rfl rfl ?_
    refine ga_getr (b := 1) hm_92 rfl sc_119 rfl ?_
    have b58_ : 0 ≤ F53_ 1 7 ∧ F53_ 1 7 ≤ 600 := gi_g g54_ rfl
    refine gVi (nY := 4) (F := 0) (L := 0) (As := []) (b := 1) (rest := [.ref b]) hm_92 rfl hm_151 rfl rfl (fl_ob sc_1) rfl rfl rfl rfl rfl (by omega) (by omega) (mc_151 hG F53_ X g54_ (K) hgK tk57_ hko (by omega)) (fun _ _ h => False.elim h) ?_
    rintro z59_ A1_ ⟨hA_, c60_, c61_⟩
    subst hA_
    refine ga_puti (z := z59_) hm_92 rfl h_b.1.1 rfl rfl ?_
    refine ga_aload_n (v := .ref b) hm_92 rfl rfl rfl ?_
    refine ga_geti (z := z59_) hm_92 rfl h_b.1.1 rfl (fl_u_eq) ?_
    refine fx_if_ne (a := z59_) hm_92 rfl ⟨by omega, by omega⟩ (fun h62_ => ?_) (fun h63_ => ?_)
    ·
      refine ga_aload_n (v := .ref 119) hm_92 rfl rfl rfl ?_
      refine ga_getr (b := 1) hm_92 rfl sc_119 rfl ?_
      obtain ⟨F64_, q65_⟩ : ∃ F9_, F9_ = (fl_u F53_ b 5 z59_) := ⟨_, rfl⟩
      rw [← q65_]
      have g66_ : gi F64_ := by rw [q65_]; exact gi_u (g54_) h_b.2.1.2.1 (by omega) (by omega)
      have g67_ : fs [(1, 1, 7, 7), (b, b, 5, 5)] F F64_ := by rw [q65_]; exact fs_u (g56_) (fs_z (fs_y (by omega)))
      have tk68_ : tkh K F64_ := by rw [q65_]; exact tkh_u (tk57_) (by omega) (by omega)
      have e69_ : F64_ 1 7 = F53_ 1 7 := by rw [q65_]; exact fl_u_ne (by omega)
      refine gVv (nY := 1) (F := 0) (L := 0) (As := []) (b := 1) (rest := []) hm_92 rfl hm_154 rfl rfl (fl_ob sc_1) rfl rfl rfl rfl rfl (by omega) (by omega) (mc_154 hG F64_ X g66_ (K) hgK tk68_ hko (by omega)) (fun _ _ h => False.elim h) ?_
      rintro A1_ ⟨F73_, hA_, g74_, s75_, c71_, c72_⟩
      subst hA_
      have g76_ : fs [(1, 1, 7, 7), (b, b, 5, 5)] F F73_ := fs_tr g67_ s75_ (by simp [fs_le]; try omega)
      have tk77_ : tkh K F73_ := tkh_fs tk68_ s75_ (fun r k h => (fs_n (by omega) rfl)) (fs_n (by omega) rfl)
      try simp only [e69_] at c71_
      refine ga_aload_n (v := .ref 119) hm_92 rfl rfl rfl ?_
      refine ga_getr (b := 1) hm_92 rfl sc_119 rfl ?_
      refine fl_iconst hm_92 rfl ?_
      have b78_ : 0 ≤ F73_ 1 7 ∧ F73_ 1 7 ≤ 600 := gi_g g74_ rfl
      refine gVv (nY := 2) (F := 7) (L := 121) (As := [.int (Int32.ofInt 1)]) (b := 1) (rest := []) hm_92 rfl hm_24 rfl rfl (fl_ob sc_1) rfl rfl rfl rfl rfl (by omega) (by omega) (mc_24 hG F73_ X g74_ (K) (1) hgK tk77_ hko (by omega) (by omega)) ?_ ?_
      ·
        rintro j_ A1_ ⟨F80_, ⟨hJ_, hA_⟩, g81_, s82_, c79_⟩
        subst hA_
        subst hJ_
        refine ⟨rfl, ?_⟩
        refine gw_v ?_
        have g83_ : fs [(1, 1, 7, 8), (b, b, 5, 5)] F F80_ := fs_tr (fs_tr fs_refl g76_ (by simp [fs_le]; try omega)) s82_ (by simp [fs_le]; try omega)
        have b84_ : 0 ≤ F80_ 1 8 ∧ F80_ 1 8 ≤ 100000 := gi_g g81_ rfl
        exact ⟨F80_, ⟨rfl, rfl⟩, g81_, g83_, (by obtain ⟨e, c1, c2⟩ := c79_; exact ⟨e, (by rw [sp_inc, if_pos (by omega), c6_]; rw [c21_]; simp only [pb]; rw [c36_]; simp only [pb]; rw [c51_]; simp only [pb]; rw [if_neg (by omega), c71_]; rw [c1]; try rfl), c2⟩)⟩
      rintro A1_ ⟨F88_, hA_, g89_, s90_, c86_, c87_⟩
      subst hA_
      have g91_ : fs [(1, 1, 7, 7), (b, b, 5, 5)] F F88_ := fs_tr g76_ s90_ (by simp [fs_le]; try omega)
      have tk92_ : tkh K F88_ := tkh_fs tk77_ s90_ (fun r k h => (fs_n (by omega) rfl)) (fs_n (by omega) rfl)
      refine gr_v hm_92 rfl rfl ?_
      have b93_ : 0 ≤ F88_ 1 7 ∧ F88_ 1 7 ≤ 600 := gi_g g89_ rfl
      have e94_ : F64_ b 5 = z59_ := by rw [q65_]; exact fl_u_eq
      have e95_ : F73_ b 5 = z59_ := (s75_ b 5 (fs_n (by omega) rfl)).trans (e94_)
      have e96_ : F88_ b 5 = z59_ := (s90_ b 5 (fs_n (by omega) rfl)).trans (e95_)
      exact ⟨F88_, rfl, g89_, g91_, (by rw [sp_inc, if_pos (by omega), c6_]; rw [c21_]; simp only [pb]; rw [c36_]; simp only [pb]; rw [c51_]; simp only [pb]; rw [if_neg (by omega), c71_]; rw [c86_]; simp only [pb]; rw [e96_, c60_]), (by omega)⟩
    refine ga_aload_n (v := .ref 119) hm_92 rfl rfl rfl ?_
    refine ga_getr (b := 1) hm_92 rfl sc_119 rfl ?_
    refine fl_iconst hm_92 rfl ?_
    refine gIv (nY := 2) (F := 6) (L := 100) (As := [.int (Int32.ofInt 1)]) (b := 1) (rest := []) hm_92 rfl hm_25 rfl rfl (fl_ob sc_1) rfl rfl rfl rfl rfl (by omega) (by omega) ?_
    intro f97_ l98_ h99_ h100_
    show fl_R xi_ms 25 f97_ l98_ 0 [(0, .ref 1), (1, .int (Int32.ofInt 1))] [] _ _
    refine ga_aload_n (v := .ref 1) hm_25 rfl rfl rfl ?_
    refine ga_iload_n (z := 1) hm_25 rfl rfl ?_
    refine fl_bipush hm_25 rfl rfl ?_
    refine ga_aload_n (v := .ref 1) hm_25 rfl rfl rfl ?_
    refine ga_getr (b := 4) hm_25 rfl sc_1 rfl ?_
    refine ga_aload_n (v := .ref 1) hm_25 rfl rfl rfl ?_
    refine ga_geti (z := F53_ 1 7) hm_25 rfl sc_1 rfl (fl_u_ne (by omega)) ?_
    have e101_ : F53_ 4 (F53_ 1 7).toNat = K 4 (F53_ 1 7).toNat := tk57_.1 4 (F53_ 1 7).toNat (by omega)
    have b102_ : 0 ≤ K 4 (F53_ 1 7).toNat ∧ K 4 (F53_ 1 7).toNat ≤ 600 := gi_g hgK rfl
    refine ga_iald (z := F53_ 1 7) (w := K 4 (F53_ 1 7).toNat) hm_25 rfl sc_4 (by omega) (by omega) (by omega) ((fl_u_ne (by omega)).trans (e101_)) ?_
    refine ga_imul (a := 10) (b := K 4 (F53_ 1 7).toNat) (c := 10 * (K 4 (F53_ 1 7).toNat)) hm_25 rfl (by omega) ?_
    refine ga_iadd (a := 1) (b := 10 * (K 4 (F53_ 1 7).toNat)) (c := 10 * (K 4 (F53_ 1 7).toNat) + 1) hm_25 rfl (by omega) ?_
    refine ga_puti (z := 10 * (K 4 (F53_ 1 7).toNat) + 1) hm_25 rfl sc_1 rfl rfl ?_
    obtain ⟨F103_, q104_⟩ : ∃ F9_, F9_ = (fl_u (fl_u F53_ b 5 z59_) 1 8 (10 * (K 4 (F53_ 1 7).toNat) + 1)) := ⟨_, rfl⟩
    rw [← q104_]
    have g105_ : gi F103_ := by rw [q104_]; exact gi_u (gi_u (g54_) h_b.2.1.2.1 (by omega) (by omega)) rfl (by omega) (by omega)
    have g106_ : fs [(1, 1, 7, 8), (b, b, 5, 5)] F F103_ := by rw [q104_]; exact fs_u (fs_u ((fs_tr fs_refl g56_ (by simp [fs_le]; try omega))) (fs_z (fs_y (by omega)))) (fs_y (by omega))
    have tk107_ : tkh K F103_ := by rw [q104_]; exact tkh_u (tkh_u (tk57_) (by omega) (by omega)) (by omega) (by omega)
    refine fl_thr hm_25 rfl rfl (by omega) (by omega) (Nat.le_of_ble_eq_true rfl) (fl_pos sc_0) ?_
    refine gw_v ⟨rfl, ?_⟩
    refine gw_v ?_
    have e108_ : F103_ 1 8 = 10 * (K 4 (F53_ 1 7).toNat) + 1 := by rw [q104_]; exact fl_u_eq
    exact ⟨F103_, ⟨ga_len.symm, (List.append_assoc _ _ _).symm⟩, g105_, g106_, (⟨(1, K 4 (F53_ 1 7).toNat), by rw [sp_inc, if_pos (by omega), c6_]; rw [c21_]; simp only [pb]; rw [c36_]; simp only [pb]; rw [c51_]; simp only [pb]; rw [if_pos (by omega)]; rfl, by show _ = (1 : Int) + 10 * K 4 (F53_ 1 7).toNat; omega⟩)⟩
  refine ga_aload_n (v := .ref 119) hm_92 rfl rfl rfl ?_
  refine ga_getr (b := 1) hm_92 rfl sc_119 rfl ?_
  refine fl_iconst hm_92 rfl ?_
  refine gIv (nY := 2) (F := 6) (L := 100) (As := [.int (Int32.ofInt 5)]) (b := 1) (rest := []) hm_92 rfl hm_25 rfl rfl (fl_ob sc_1) rfl rfl rfl rfl rfl (by omega) (by omega) ?_
  intro f109_ l110_ h111_ h112_
  show fl_R xi_ms 25 f109_ l110_ 0 [(0, .ref 1), (1, .int (Int32.ofInt 5))] [] _ _
  refine ga_aload_n (v := .ref 1) hm_25 rfl rfl rfl ?_
  refine ga_iload_n (z := 5) hm_25 rfl rfl ?_
  refine fl_bipush hm_25 rfl rfl ?_
  refine ga_aload_n (v := .ref 1) hm_25 rfl rfl rfl ?_
  refine ga_getr (b := 4) hm_25 rfl sc_1 rfl ?_
  refine ga_aload_n (v := .ref 1) hm_25 rfl rfl rfl ?_
  have b113_ : 0 ≤ F 1 7 ∧ F 1 7 ≤ 600 := gi_g hgi rfl
  refine ga_geti (z := F 1 7) hm_25 rfl sc_1 rfl (rfl) ?_
  have e114_ : F 4 (F 1 7).toNat = K 4 (F 1 7).toNat := hK.1 4 (F 1 7).toNat (by omega)
  have b115_ : 0 ≤ K 4 (F 1 7).toNat ∧ K 4 (F 1 7).toNat ≤ 600 := gi_g hgK rfl
  refine ga_iald (z := F 1 7) (w := K 4 (F 1 7).toNat) hm_25 rfl sc_4 (by omega) (by omega) (by omega) (e114_) ?_
  refine ga_imul (a := 10) (b := K 4 (F 1 7).toNat) (c := 10 * (K 4 (F 1 7).toNat)) hm_25 rfl (by omega) ?_
  refine ga_iadd (a := 5) (b := 10 * (K 4 (F 1 7).toNat)) (c := 10 * (K 4 (F 1 7).toNat) + 5) hm_25 rfl (by omega) ?_
  refine ga_puti (z := 10 * (K 4 (F 1 7).toNat) + 5) hm_25 rfl sc_1 rfl rfl ?_
  obtain ⟨F116_, q117_⟩ : ∃ F9_, F9_ = (fl_u F 1 8 (10 * (K 4 (F 1 7).toNat) + 5)) := ⟨_, rfl⟩
  rw [← q117_]
  have g118_ : gi F116_ := by rw [q117_]; exact gi_u (hgi) rfl (by omega) (by omega)
  have g119_ : fs [(1, 1, 7, 8), (b, b, 5, 5)] F F116_ := by rw [q117_]; exact fs_u (fs_refl) (fs_y (by omega))
  have tk120_ : tkh K F116_ := by rw [q117_]; exact tkh_u (hK) (by omega) (by omega)
  refine fl_thr hm_25 rfl rfl (by omega) (by omega) (Nat.le_of_ble_eq_true rfl) (fl_pos sc_0) ?_
  refine gw_v ⟨rfl, ?_⟩
  refine gw_v ?_
  have e121_ : F116_ 1 8 = 10 * (K 4 (F 1 7).toNat) + 5 := by rw [q117_]; exact fl_u_eq
  exact ⟨F116_, ⟨ga_len.symm, (List.append_assoc _ _ _).symm⟩, g118_, g119_, (⟨(5, K 4 (F 1 7).toNat), by rw [sp_inc, if_neg (by omega)]; rfl, by show _ = (5 : Int) + 10 * K 4 (F 1 7).toNat; omega⟩)⟩
/- CheapPlanner$ClauseReader.readMember -/
abbrev pq_93 (G : Nat → Nat → Option Nat) (F : fl_N) (X : xi_H) (K : fl_N) (a n b nb : Nat) (t q k : Int) (l tl pl : List Int) (ps : List (List Int)) (ee : Bool) (ef : Int) : Outcome → xi_H → Prop := gqv (fun A => ∃ F' : fl_N, fl_H sh_T G F' ++ X = A ∧ gi F' ∧ fs [(1, 1, 7, 7), (b, b, 4, 5), (b + 1, b + 4, 0, 100000)] F F' ∧ (sp_mem K ee k l tl pl ps (F b 5) (F 1 7) = .inr (F' 1 7, F' b 5)) ∧ (0 ≤ F' 1 7 ∧ F' 1 7 ≤ K 1 6 - 1) ∧ (cw F' b (l.length : Int))) (fun j A => ∃ F' : fl_N, (387 + X.length = j ∧ fl_H sh_T G F' ++ (X ++ [gx 14]) = A) ∧ gi F' ∧ fs [(1, 1, 7, 8), (b, b, 4, 5), (b + 1, b + 4, 0, 100000)] F F' ∧ (∃ e, sp_mem K ee k l tl pl ps (F b 5) (F 1 7) = .inl e ∧ F' 1 8 = e.1 + 10 * e.2))
theorem mc_93 {G : Nat → Nat → Option Nat} (hG : gg G) (F : fl_N) (X : xi_H) (hgi : gi F) (K : fl_N) (a n b nb : Nat) (t q k : Int) (l tl pl : List Int) (ps : List (List Int)) (ee : Bool) (ef : Int) (hgK : gi K) (hK : tkh K F) (hko : tko K) (hp : 0 ≤ F 1 7 ∧ F 1 7 ≤ K 1 6 - 1) (h_a : nm a n) (hta : F 119 2 = (a : Int)) (htk2 : F 119 3 = k) (hl : rep (F (a + 1)) (F a 2) l) (htl : rep (F (a + 2)) (F a 2) tl) (hk : 2 ≤ k ∧ k ≤ 3) (h_b : cl b nb t q) (hab : a + 2 < b) (hnt2 : (n : Int) ≤ t + 1) (hcw : cw F b (l.length : Int)) (hpl : rep (F 12) (F 11 2) pl) (hps : prd F ps) (hpn : pl.length = ps.length) (he : ef = if ee = true then 1 else 0) (hqe : ef = 0 → q = -1) : fl_M xi_ms 93 9 169 [.ref 119, .ref b, .int (Int32.ofInt ef)] (fl_H sh_T G F ++ X) (pq_93 G F X K a n b nb t q k l tl pl ps ee ef) := by
  intro fr lo hfr hlo
  show fl_R xi_ms 93 fr lo 0 [(0, .ref 119), (1, .ref b), (2, .int (Int32.ofInt ef))] [] _ _
  have hpl1 := hpl.1
  have hb11 : 0 ≤ F 11 2 ∧ F 11 2 ≤ 6 := gi_g hgi rfl
  have hr_a := h_a.2.2
  have hr_b := h_b.2.2
  refine ga_iload_n (z := ef) hm_93 rfl rfl ?_
  refine fl_if_eq (a := ef) hm_93 rfl ⟨by omega, by omega⟩ (fun h1_ => ?_) (fun h2_ => ?_)
  ·
    have hE : ee = false := by cases ee <;> simp_all
    refine ga_aload_n (v := .ref 119) hm_93 rfl rfl rfl ?_
    refine ga_getr (b := 1) hm_93 rfl sc_119 rfl ?_
    refine ga_ldcs hm_93 rfl ?_
    have b3_ : 0 ≤ F 1 7 ∧ F 1 7 ≤ 600 := gi_g hgi rfl
    refine gVi (nY := 4) (F := 6) (L := 100) (As := [.retAddr 12]) (b := 1) (rest := []) hm_93 rfl hm_152 rfl rfl (fl_ob sc_1) rfl rfl rfl rfl rfl (by omega) (by omega) (mc_152 hG F X hgi (K) (12) ([110, 111, 116]) hgK hK hko (by omega) (rfl) (by decide)) (fun _ _ h => False.elim h) ?_
    rintro z4_ A1_ (⟨hA_, hz_, c5_⟩ | ⟨hA_, hz_, c6_⟩)
    ·
      subst hA_
      subst hz_
      refine ga_istore_n (lv2 := [(3, .int (Int32.ofInt 0)), (0, .ref 119), (1, .ref b), (2, .int (Int32.ofInt ef))]) hm_93 rfl (Nat.le_of_ble_eq_true rfl) rfl ?_
      refine ga_iload_n (z := 0) hm_93 rfl rfl ?_
      refine fl_if_eq hm_93 rfl ⟨by omega, by omega⟩ (fun _ => ?_) (fun h => absurd (by omega) h)
      refine ga_iload_n (z := ef) hm_93 rfl rfl ?_
      refine fx_if_ne (a := ef) hm_93 rfl ⟨by omega, by omega⟩ (fun h7_ => ?_) (fun h8_ => ?_)
      · exfalso; omega
      refine ga_aload_n (v := .ref 119) hm_93 rfl rfl rfl ?_
      refine ga_getr (b := 1) hm_93 rfl sc_119 rfl ?_
      refine ga_ldcs hm_93 rfl ?_
      refine gVi (nY := 4) (F := 6) (L := 100) (As := [.retAddr 13]) (b := 1) (rest := []) hm_93 rfl hm_152 rfl rfl (fl_ob sc_1) rfl rfl rfl rfl rfl (by omega) (by omega) (mc_152 hG F X hgi (K) (13) ([61]) hgK hK hko (by omega) (rfl) (by decide)) (fun _ _ h => False.elim h) ?_
      rintro z9_ A1_ (⟨hA_, hz_, c10_⟩ | ⟨hA_, hz_, c11_⟩)
      ·
        subst hA_
        subst hz_
        refine fl_if_eq hm_93 rfl ⟨by omega, by omega⟩ (fun _ => ?_) (fun h => absurd (by omega) h)
        refine ga_aload_n (v := .ref 119) hm_93 rfl rfl rfl ?_
        refine ga_aload_n (v := .ref b) hm_93 rfl rfl rfl ?_
        refine ga_iload_n (z := 0) hm_93 rfl rfl ?_
        have b12_ : 8 ≤ F 119 2 ∧ F 119 2 ≤ 105 := gi_g hgi rfl
        have b13_ : 2 ≤ F 119 3 ∧ F 119 3 ≤ 3 := gi_g hgi rfl
        refine gVv (nY := 7) (F := 8) (L := 143) (As := [.ref b, .int (Int32.ofInt 0)]) (b := 119) (rest := []) hm_93 rfl hm_88 rfl rfl (fl_ob sc_119) rfl rfl rfl rfl rfl (by omega) (by omega) (mc_88 hG F X hgi (K) (a) (n) (b) (nb) (t) (q) (k) (l) (tl) (pl) (ps) (0) hgK hK hko (by omega) (h_a) (by omega) (by omega) (hl) (htl) (by omega) h_b (by omega) (by omega) (hcw) (hpl) (hps) (hpn) (by omega)) ?_ ?_
        ·
          rintro j_ A1_ ⟨F15_, ⟨hJ_, hA_⟩, g16_, s17_, c14_⟩
          subst hA_
          subst hJ_
          refine ⟨rfl, ?_⟩
          refine gw_v ?_
          have g18_ : fs [(1, 1, 7, 8), (b, b, 4, 5), (b + 1, b + 4, 0, 100000)] F F15_ := fs_tr fs_refl s17_ (by simp [fs_le]; try omega)
          have b19_ : 0 ≤ F15_ 1 8 ∧ F15_ 1 8 ≤ 100000 := gi_g g16_ rfl
          have b20_ : 0 ≤ F b 5 ∧ F b 5 ≤ 999 := gi_g hgi h_b.2.1.2.1
          exact ⟨F15_, ⟨rfl, rfl⟩, g16_, g18_, (by obtain ⟨e, c1, c2⟩ := c14_; exact ⟨e, (by simp [sp_mem, hE, c1, pf, pb, h1_, c5_, h8_, c10_]; try first | omega | ((repeat' split) <;> first | rfl | (exfalso; omega) | omega)), c2⟩)⟩
        rintro A1_ ⟨F25_, hA_, g26_, s27_, c22_, c23_, c24_⟩
        subst hA_
        have g28_ : fs [(1, 1, 7, 7), (b, b, 4, 5), (b + 1, b + 4, 0, 100000)] F F25_ := fs_tr fs_refl s27_ (by simp [fs_le]; try omega)
        have tk29_ : tkh K F25_ := tkh_fs hK s27_ (fun r k h => (fs_n (by omega) (fs_n (by omega) (fs_n (by omega) rfl)))) (fs_n (by omega) (fs_n (by omega) (fs_n (by omega) rfl)))
        refine ga_iload_n (z := 0) hm_93 rfl rfl ?_
        refine fl_if_eq hm_93 rfl ⟨by omega, by omega⟩ (fun _ => ?_) (fun h => absurd (by omega) h)
        refine gr_v hm_93 rfl rfl ?_
        have b30_ : 0 ≤ F25_ 1 7 ∧ F25_ 1 7 ≤ 600 := gi_g g26_ rfl
        have e31_ : F25_ b 5 = F b 5 := (s27_ b 5 (fs_n (by omega) (fs_n (by omega) (fs_n (by omega) rfl)))).trans (rfl)
        have b32_ : 0 ≤ F b 5 ∧ F b 5 ≤ 999 := gi_g hgi h_b.2.1.2.1
        exact ⟨F25_, rfl, g26_, g28_, (by simp [sp_mem, hE, pf, pb, h1_, c5_, h8_, c10_, c22_, c23_, c24_, e31_]; try first | omega | ((repeat' split) <;> first | rfl | (exfalso; omega) | omega)), (by omega), (c24_)⟩
      subst hA_
      subst hz_
      refine fl_if_eq hm_93 rfl ⟨by omega, by omega⟩ (fun h => absurd h (by omega)) (fun _ => ?_)
      refine ga_aload_n (v := .ref 119) hm_93 rfl rfl rfl ?_
      refine ga_aload_n (v := .ref b) hm_93 rfl rfl rfl ?_
      refine ga_iload_n (z := 0) hm_93 rfl rfl ?_
      have b33_ : 8 ≤ F 119 2 ∧ F 119 2 ≤ 105 := gi_g hgi rfl
      have b34_ : 2 ≤ F 119 3 ∧ F 119 3 ≤ 3 := gi_g hgi rfl
      refine gVv (nY := 5) (F := 8) (L := 143) (As := [.ref b, .int (Int32.ofInt 0)]) (b := 119) (rest := []) hm_93 rfl hm_91 rfl rfl (fl_ob sc_119) rfl rfl rfl rfl rfl (by omega) (by omega) (mc_91 hG F X hgi (K) (a) (n) (b) (nb) (t) (q) (k) (l) (tl) (0) hgK hK hko (by omega) (h_a) (by omega) (by omega) (hl) (htl) (by omega) h_b (by omega) (by omega) (hcw) (by omega) (by omega)) ?_ ?_
      ·
        rintro j_ A1_ ⟨F36_, ⟨hJ_, hA_⟩, g37_, s38_, c35_⟩
        subst hA_
        subst hJ_
        refine ⟨rfl, ?_⟩
        refine gw_v ?_
        have g39_ : fs [(1, 1, 7, 8), (b, b, 4, 5), (b + 1, b + 4, 0, 100000)] F F36_ := fs_tr fs_refl s38_ (by simp [fs_le]; try omega)
        have b40_ : 0 ≤ F36_ 1 8 ∧ F36_ 1 8 ≤ 100000 := gi_g g37_ rfl
        have b41_ : 0 ≤ F b 5 ∧ F b 5 ≤ 999 := gi_g hgi h_b.2.1.2.1
        exact ⟨F36_, ⟨rfl, rfl⟩, g37_, g39_, (by obtain ⟨e, c1, c2⟩ := c35_; exact ⟨e, (by simp [sp_mem, hE, c1, pf, pb, h1_, c5_, h8_, c11_]; try first | omega | ((repeat' split) <;> first | rfl | (exfalso; omega) | omega)), c2⟩)⟩
      rintro A1_ ⟨F46_, hA_, g47_, s48_, c43_, c44_, c45_⟩
      subst hA_
      have g49_ : fs [(1, 1, 7, 7), (b, b, 4, 5), (b + 1, b + 4, 0, 100000)] F F46_ := fs_tr fs_refl s48_ (by simp [fs_le]; try omega)
      have tk50_ : tkh K F46_ := tkh_fs hK s48_ (fun r k h => (fs_n (by omega) (fs_n (by omega) (fs_n (by omega) rfl)))) (fs_n (by omega) (fs_n (by omega) (fs_n (by omega) rfl)))
      refine fl_goto hm_93 rfl ?_
      refine ga_iload_n (z := 0) hm_93 rfl rfl ?_
      refine fl_if_eq hm_93 rfl ⟨by omega, by omega⟩ (fun _ => ?_) (fun h => absurd (by omega) h)
      refine gr_v hm_93 rfl rfl ?_
      have b51_ : 0 ≤ F46_ 1 7 ∧ F46_ 1 7 ≤ 600 := gi_g g47_ rfl
      have e52_ : F46_ b 5 = F b 5 := (s48_ b 5 (fs_n (by omega) (fs_n (by omega) (fs_n (by omega) rfl)))).trans (rfl)
      have b53_ : 0 ≤ F b 5 ∧ F b 5 ≤ 999 := gi_g hgi h_b.2.1.2.1
      exact ⟨F46_, rfl, g47_, g49_, (by simp [sp_mem, hE, pf, pb, h1_, c5_, h8_, c11_, c43_, c44_, c45_, e52_]; try first | omega | ((repeat' split) <;> first | rfl | (exfalso; omega) | omega)), (by omega), (c45_)⟩
    subst hA_
    subst hz_
    refine ga_istore_n (lv2 := [(3, .int (Int32.ofInt 1)), (0, .ref 119), (1, .ref b), (2, .int (Int32.ofInt ef))]) hm_93 rfl (Nat.le_of_ble_eq_true rfl) rfl ?_
    refine ga_iload_n (z := 1) hm_93 rfl rfl ?_
    refine fl_if_eq hm_93 rfl ⟨by omega, by omega⟩ (fun h => absurd h (by omega)) (fun _ => ?_)
    refine ga_aload_n (v := .ref 119) hm_93 rfl rfl rfl ?_
    refine ga_getr (b := 1) hm_93 rfl sc_119 rfl ?_
    refine gVv (nY := 1) (F := 0) (L := 0) (As := []) (b := 1) (rest := []) hm_93 rfl hm_154 rfl rfl (fl_ob sc_1) rfl rfl rfl rfl rfl (by omega) (by omega) (mc_154 hG F X hgi (K) hgK hK hko (by omega)) (fun _ _ h => False.elim h) ?_
    rintro A1_ ⟨F57_, hA_, g58_, s59_, c55_, c56_⟩
    subst hA_
    have g60_ : fs [(1, 1, 7, 7), (b, b, 4, 5), (b + 1, b + 4, 0, 100000)] F F57_ := fs_tr fs_refl s59_ (by simp [fs_le]; try omega)
    have tk61_ : tkh K F57_ := tkh_fs hK s59_ (fun r k h => (fs_n (by omega) rfl)) (fs_n (by omega) rfl)
    refine ga_aload_n (v := .ref 119) hm_93 rfl rfl rfl ?_
    refine ga_getr (b := 1) hm_93 rfl sc_119 rfl ?_
    refine fl_iconst hm_93 rfl ?_
    have b62_ : 0 ≤ F57_ 1 7 ∧ F57_ 1 7 ≤ 600 := gi_g g58_ rfl
    refine gVv (nY := 2) (F := 7) (L := 121) (As := [.int (Int32.ofInt 0)]) (b := 1) (rest := []) hm_93 rfl hm_24 rfl rfl (fl_ob sc_1) rfl rfl rfl rfl rfl (by omega) (by omega) (mc_24 hG F57_ X g58_ (K) (0) hgK tk61_ hko (by omega) (by omega)) ?_ ?_
    ·
      rintro j_ A1_ ⟨F64_, ⟨hJ_, hA_⟩, g65_, s66_, c63_⟩
      subst hA_
      subst hJ_
      refine ⟨rfl, ?_⟩
      refine gw_v ?_
      have g67_ : fs [(1, 1, 7, 8), (b, b, 4, 5), (b + 1, b + 4, 0, 100000)] F F64_ := fs_tr (fs_tr fs_refl g60_ (by simp [fs_le]; try omega)) s66_ (by simp [fs_le]; try omega)
      have b68_ : 0 ≤ F64_ 1 8 ∧ F64_ 1 8 ≤ 100000 := gi_g g65_ rfl
      have b69_ : 0 ≤ F b 5 ∧ F b 5 ≤ 999 := gi_g hgi h_b.2.1.2.1
      exact ⟨F64_, ⟨rfl, rfl⟩, g65_, g67_, (by obtain ⟨e, c1, c2⟩ := c63_; exact ⟨e, (by simp [sp_mem, hE, c1, pf, pb, h1_, c6_, c55_, c56_]; try first | omega | ((repeat' split) <;> first | rfl | (exfalso; omega) | omega)), c2⟩)⟩
    rintro A1_ ⟨F73_, hA_, g74_, s75_, c71_, c72_⟩
    subst hA_
    have g76_ : fs [(1, 1, 7, 7), (b, b, 4, 5), (b + 1, b + 4, 0, 100000)] F F73_ := fs_tr g60_ s75_ (by simp [fs_le]; try omega)
    have tk77_ : tkh K F73_ := tkh_fs tk61_ s75_ (fun r k h => (fs_n (by omega) rfl)) (fs_n (by omega) rfl)
    refine ga_iload_n (z := ef) hm_93 rfl rfl ?_
    refine fx_if_ne (a := ef) hm_93 rfl ⟨by omega, by omega⟩ (fun h78_ => ?_) (fun h79_ => ?_)
    · exfalso; omega
    refine ga_aload_n (v := .ref 119) hm_93 rfl rfl rfl ?_
    refine ga_getr (b := 1) hm_93 rfl sc_119 rfl ?_
    refine ga_ldcs hm_93 rfl ?_
    have b80_ : 0 ≤ F73_ 1 7 ∧ F73_ 1 7 ≤ 600 := gi_g g74_ rfl
    refine gVi (nY := 4) (F := 6) (L := 100) (As := [.retAddr 13]) (b := 1) (rest := []) hm_93 rfl hm_152 rfl rfl (fl_ob sc_1) rfl rfl rfl rfl rfl (by omega) (by omega) (mc_152 hG F73_ X g74_ (K) (13) ([61]) hgK tk77_ hko (by omega) (rfl) (by decide)) (fun _ _ h => False.elim h) ?_
    rintro z81_ A1_ (⟨hA_, hz_, c82_⟩ | ⟨hA_, hz_, c83_⟩)
    ·
      subst hA_
      subst hz_
      refine fl_if_eq hm_93 rfl ⟨by omega, by omega⟩ (fun _ => ?_) (fun h => absurd (by omega) h)
      refine ga_aload_n (v := .ref 119) hm_93 rfl rfl rfl ?_
      refine ga_aload_n (v := .ref b) hm_93 rfl rfl rfl ?_
      refine ga_iload_n (z := 1) hm_93 rfl rfl ?_
      have e84_ : F57_ 119 2 = F 119 2 := (s59_ 119 2 rfl).trans (rfl)
      have e85_ : F73_ 119 2 = F 119 2 := (s75_ 119 2 rfl).trans (e84_)
      have b86_ : 8 ≤ F 119 2 ∧ F 119 2 ≤ 105 := gi_g hgi rfl
      have e87_ : F57_ 119 3 = F 119 3 := (s59_ 119 3 rfl).trans (rfl)
      have e88_ : F73_ 119 3 = F 119 3 := (s75_ 119 3 rfl).trans (e87_)
      have b89_ : 2 ≤ F 119 3 ∧ F 119 3 ≤ 3 := gi_g hgi rfl
      refine gVv (nY := 7) (F := 8) (L := 143) (As := [.ref b, .int (Int32.ofInt 1)]) (b := 119) (rest := []) hm_93 rfl hm_88 rfl rfl (fl_ob sc_119) rfl rfl rfl rfl rfl (by omega) (by omega) (mc_88 hG F73_ X g74_ (K) (a) (n) (b) (nb) (t) (q) (k) (l) (tl) (pl) (ps) (1) hgK tk77_ hko (by omega) (h_a) (by omega) (by omega) ((rep_fs (rep_fs hl s59_ (fun _ => (fs_n (by omega) rfl)) (fs_n (by omega) rfl)) s75_ (fun _ => (fs_n (by omega) rfl)) (fs_n (by omega) rfl))) ((rep_fs (rep_fs htl s59_ (fun _ => (fs_n (by omega) rfl)) (fs_n (by omega) rfl)) s75_ (fun _ => (fs_n (by omega) rfl)) (fs_n (by omega) rfl))) (by omega) h_b (by omega) (by omega) ((cw_fs (cw_fs hcw s59_ (fun r j hj => (fs_n (by omega) rfl))) s75_ (fun r j hj => (fs_n (by omega) rfl)))) ((rep_fs (rep_fs hpl s59_ (fun _ => (fs_n (by omega) rfl)) (fs_n (by omega) rfl)) s75_ (fun _ => (fs_n (by omega) rfl)) (fs_n (by omega) rfl))) ((prd_fs (prd_fs hps s59_ (fun _ _ _ => (fs_n (by omega) rfl))) s75_ (fun _ _ _ => (fs_n (by omega) rfl)))) (hpn) (by omega)) ?_ ?_
      ·
        rintro j_ A1_ ⟨F91_, ⟨hJ_, hA_⟩, g92_, s93_, c90_⟩
        subst hA_
        subst hJ_
        refine ⟨rfl, ?_⟩
        refine gw_v ?_
        have g94_ : fs [(1, 1, 7, 8), (b, b, 4, 5), (b + 1, b + 4, 0, 100000)] F F91_ := fs_tr (fs_tr fs_refl g76_ (by simp [fs_le]; try omega)) s93_ (by simp [fs_le]; try omega)
        have b95_ : 0 ≤ F91_ 1 8 ∧ F91_ 1 8 ≤ 100000 := gi_g g92_ rfl
        have b96_ : 0 ≤ F b 5 ∧ F b 5 ≤ 999 := gi_g hgi h_b.2.1.2.1
        exact ⟨F91_, ⟨rfl, rfl⟩, g92_, g94_, (by obtain ⟨e, c1, c2⟩ := c90_; exact ⟨e, (by simp [sp_mem, hE, c1, pf, pb, h1_, c6_, c55_, c56_, c71_, c72_, h79_, c82_, e84_, e85_, e87_, e88_]; try first | omega | ((repeat' split) <;> first | rfl | (exfalso; omega) | omega)), c2⟩)⟩
      rintro A1_ ⟨F101_, hA_, g102_, s103_, c98_, c99_, c100_⟩
      subst hA_
      have g104_ : fs [(1, 1, 7, 7), (b, b, 4, 5), (b + 1, b + 4, 0, 100000)] F F101_ := fs_tr g76_ s103_ (by simp [fs_le]; try omega)
      have tk105_ : tkh K F101_ := tkh_fs tk77_ s103_ (fun r k h => (fs_n (by omega) (fs_n (by omega) (fs_n (by omega) rfl)))) (fs_n (by omega) (fs_n (by omega) (fs_n (by omega) rfl)))
      refine ga_iload_n (z := 1) hm_93 rfl rfl ?_
      refine fl_if_eq hm_93 rfl ⟨by omega, by omega⟩ (fun h => absurd h (by omega)) (fun _ => ?_)
      refine ga_aload_n (v := .ref 119) hm_93 rfl rfl rfl ?_
      refine ga_getr (b := 1) hm_93 rfl sc_119 rfl ?_
      refine fl_iconst hm_93 rfl ?_
      have b106_ : 0 ≤ F101_ 1 7 ∧ F101_ 1 7 ≤ 600 := gi_g g102_ rfl
      refine gVv (nY := 2) (F := 7) (L := 121) (As := [.int (Int32.ofInt 1)]) (b := 1) (rest := []) hm_93 rfl hm_24 rfl rfl (fl_ob sc_1) rfl rfl rfl rfl rfl (by omega) (by omega) (mc_24 hG F101_ X g102_ (K) (1) hgK tk105_ hko (by omega) (by omega)) ?_ ?_
      ·
        rintro j_ A1_ ⟨F108_, ⟨hJ_, hA_⟩, g109_, s110_, c107_⟩
        subst hA_
        subst hJ_
        refine ⟨rfl, ?_⟩
        refine gw_v ?_
        have g111_ : fs [(1, 1, 7, 8), (b, b, 4, 5), (b + 1, b + 4, 0, 100000)] F F108_ := fs_tr (fs_tr fs_refl g104_ (by simp [fs_le]; try omega)) s110_ (by simp [fs_le]; try omega)
        have b112_ : 0 ≤ F108_ 1 8 ∧ F108_ 1 8 ≤ 100000 := gi_g g109_ rfl
        have b113_ : 0 ≤ F b 5 ∧ F b 5 ≤ 999 := gi_g hgi h_b.2.1.2.1
        exact ⟨F108_, ⟨rfl, rfl⟩, g109_, g111_, (by obtain ⟨e, c1, c2⟩ := c107_; exact ⟨e, (by simp [sp_mem, hE, c1, pf, pb, h1_, c6_, c55_, c56_, c71_, c72_, h79_, c82_, e84_, e85_, e87_, e88_, c98_, c99_, c100_]; try first | omega | ((repeat' split) <;> first | rfl | (exfalso; omega) | omega)), c2⟩)⟩
      rintro A1_ ⟨F117_, hA_, g118_, s119_, c115_, c116_⟩
      subst hA_
      have g120_ : fs [(1, 1, 7, 7), (b, b, 4, 5), (b + 1, b + 4, 0, 100000)] F F117_ := fs_tr g104_ s119_ (by simp [fs_le]; try omega)
      have tk121_ : tkh K F117_ := tkh_fs tk105_ s119_ (fun r k h => (fs_n (by omega) rfl)) (fs_n (by omega) rfl)
      refine gr_v hm_93 rfl rfl ?_
      have b122_ : 0 ≤ F117_ 1 7 ∧ F117_ 1 7 ≤ 600 := gi_g g118_ rfl
      have e123_ : F57_ b 5 = F b 5 := (s59_ b 5 (fs_n (by omega) rfl)).trans (rfl)
      have e124_ : F73_ b 5 = F b 5 := (s75_ b 5 (fs_n (by omega) rfl)).trans (e123_)
      have e125_ : F101_ b 5 = F b 5 := (s103_ b 5 (fs_n (by omega) (fs_n (by omega) (fs_n (by omega) rfl)))).trans (e124_)
      have e126_ : F117_ b 5 = F b 5 := (s119_ b 5 (fs_n (by omega) rfl)).trans (e125_)
      have b127_ : 0 ≤ F b 5 ∧ F b 5 ≤ 999 := gi_g hgi h_b.2.1.2.1
      exact ⟨F117_, rfl, g118_, g120_, (by simp [sp_mem, hE, pf, pb, h1_, c6_, c55_, c56_, c71_, c72_, h79_, c82_, e84_, e85_, e87_, e88_, c98_, c99_, c100_, c115_, c116_, e123_, e124_, e125_, e126_]; try first | omega | ((repeat' split) <;> first | rfl | (exfalso; omega) | omega)), (by omega), ((cw_fs c100_ s119_ (fun r j hj => (fs_n (by omega) rfl))))⟩
    subst hA_
    subst hz_
    refine fl_if_eq hm_93 rfl ⟨by omega, by omega⟩ (fun h => absurd h (by omega)) (fun _ => ?_)
    refine ga_aload_n (v := .ref 119) hm_93 rfl rfl rfl ?_
    refine ga_aload_n (v := .ref b) hm_93 rfl rfl rfl ?_
    refine ga_iload_n (z := 1) hm_93 rfl rfl ?_
    have e128_ : F57_ 119 2 = F 119 2 := (s59_ 119 2 rfl).trans (rfl)
    have e129_ : F73_ 119 2 = F 119 2 := (s75_ 119 2 rfl).trans (e128_)
    have b130_ : 8 ≤ F 119 2 ∧ F 119 2 ≤ 105 := gi_g hgi rfl
    have e131_ : F57_ 119 3 = F 119 3 := (s59_ 119 3 rfl).trans (rfl)
    have e132_ : F73_ 119 3 = F 119 3 := (s75_ 119 3 rfl).trans (e131_)
    have b133_ : 2 ≤ F 119 3 ∧ F 119 3 ≤ 3 := gi_g hgi rfl
    refine gVv (nY := 5) (F := 8) (L := 143) (As := [.ref b, .int (Int32.ofInt 1)]) (b := 119) (rest := []) hm_93 rfl hm_91 rfl rfl (fl_ob sc_119) rfl rfl rfl rfl rfl (by omega) (by omega) (mc_91 hG F73_ X g74_ (K) (a) (n) (b) (nb) (t) (q) (k) (l) (tl) (1) hgK tk77_ hko (by omega) (h_a) (by omega) (by omega) ((rep_fs (rep_fs hl s59_ (fun _ => (fs_n (by omega) rfl)) (fs_n (by omega) rfl)) s75_ (fun _ => (fs_n (by omega) rfl)) (fs_n (by omega) rfl))) ((rep_fs (rep_fs htl s59_ (fun _ => (fs_n (by omega) rfl)) (fs_n (by omega) rfl)) s75_ (fun _ => (fs_n (by omega) rfl)) (fs_n (by omega) rfl))) (by omega) h_b (by omega) (by omega) ((cw_fs (cw_fs hcw s59_ (fun r j hj => (fs_n (by omega) rfl))) s75_ (fun r j hj => (fs_n (by omega) rfl)))) (by omega) (by omega)) ?_ ?_
    ·
      rintro j_ A1_ ⟨F135_, ⟨hJ_, hA_⟩, g136_, s137_, c134_⟩
      subst hA_
      subst hJ_
      refine ⟨rfl, ?_⟩
      refine gw_v ?_
      have g138_ : fs [(1, 1, 7, 8), (b, b, 4, 5), (b + 1, b + 4, 0, 100000)] F F135_ := fs_tr (fs_tr fs_refl g76_ (by simp [fs_le]; try omega)) s137_ (by simp [fs_le]; try omega)
      have b139_ : 0 ≤ F135_ 1 8 ∧ F135_ 1 8 ≤ 100000 := gi_g g136_ rfl
      have b140_ : 0 ≤ F b 5 ∧ F b 5 ≤ 999 := gi_g hgi h_b.2.1.2.1
      exact ⟨F135_, ⟨rfl, rfl⟩, g136_, g138_, (by obtain ⟨e, c1, c2⟩ := c134_; exact ⟨e, (by simp [sp_mem, hE, c1, pf, pb, h1_, c6_, c55_, c56_, c71_, c72_, h79_, c83_, e128_, e129_, e131_, e132_]; try first | omega | ((repeat' split) <;> first | rfl | (exfalso; omega) | omega)), c2⟩)⟩
    rintro A1_ ⟨F145_, hA_, g146_, s147_, c142_, c143_, c144_⟩
    subst hA_
    have g148_ : fs [(1, 1, 7, 7), (b, b, 4, 5), (b + 1, b + 4, 0, 100000)] F F145_ := fs_tr g76_ s147_ (by simp [fs_le]; try omega)
    have tk149_ : tkh K F145_ := tkh_fs tk77_ s147_ (fun r k h => (fs_n (by omega) (fs_n (by omega) (fs_n (by omega) rfl)))) (fs_n (by omega) (fs_n (by omega) (fs_n (by omega) rfl)))
    refine fl_goto hm_93 rfl ?_
    refine ga_iload_n (z := 1) hm_93 rfl rfl ?_
    refine fl_if_eq hm_93 rfl ⟨by omega, by omega⟩ (fun h => absurd h (by omega)) (fun _ => ?_)
    refine ga_aload_n (v := .ref 119) hm_93 rfl rfl rfl ?_
    refine ga_getr (b := 1) hm_93 rfl sc_119 rfl ?_
    refine fl_iconst hm_93 rfl ?_
    have b150_ : 0 ≤ F145_ 1 7 ∧ F145_ 1 7 ≤ 600 := gi_g g146_ rfl
    refine gVv (nY := 2) (F := 7) (L := 121) (As := [.int (Int32.ofInt 1)]) (b := 1) (rest := []) hm_93 rfl hm_24 rfl rfl (fl_ob sc_1) rfl rfl rfl rfl rfl (by omega) (by omega) (mc_24 hG F145_ X g146_ (K) (1) hgK tk149_ hko (by omega) (by omega)) ?_ ?_
    ·
      rintro j_ A1_ ⟨F152_, ⟨hJ_, hA_⟩, g153_, s154_, c151_⟩
      subst hA_
      subst hJ_
      refine ⟨rfl, ?_⟩
      refine gw_v ?_
      have g155_ : fs [(1, 1, 7, 8), (b, b, 4, 5), (b + 1, b + 4, 0, 100000)] F F152_ := fs_tr (fs_tr fs_refl g148_ (by simp [fs_le]; try omega)) s154_ (by simp [fs_le]; try omega)
      have b156_ : 0 ≤ F152_ 1 8 ∧ F152_ 1 8 ≤ 100000 := gi_g g153_ rfl
      have b157_ : 0 ≤ F b 5 ∧ F b 5 ≤ 999 := gi_g hgi h_b.2.1.2.1
      exact ⟨F152_, ⟨rfl, rfl⟩, g153_, g155_, (by obtain ⟨e, c1, c2⟩ := c151_; exact ⟨e, (by simp [sp_mem, hE, c1, pf, pb, h1_, c6_, c55_, c56_, c71_, c72_, h79_, c83_, e128_, e129_, e131_, e132_, c142_, c143_, c144_]; try first | omega | ((repeat' split) <;> first | rfl | (exfalso; omega) | omega)), c2⟩)⟩
    rintro A1_ ⟨F161_, hA_, g162_, s163_, c159_, c160_⟩
    subst hA_
    have g164_ : fs [(1, 1, 7, 7), (b, b, 4, 5), (b + 1, b + 4, 0, 100000)] F F161_ := fs_tr g148_ s163_ (by simp [fs_le]; try omega)
    have tk165_ : tkh K F161_ := tkh_fs tk149_ s163_ (fun r k h => (fs_n (by omega) rfl)) (fs_n (by omega) rfl)
    refine gr_v hm_93 rfl rfl ?_
    have b166_ : 0 ≤ F161_ 1 7 ∧ F161_ 1 7 ≤ 600 := gi_g g162_ rfl
    have e167_ : F57_ b 5 = F b 5 := (s59_ b 5 (fs_n (by omega) rfl)).trans (rfl)
    have e168_ : F73_ b 5 = F b 5 := (s75_ b 5 (fs_n (by omega) rfl)).trans (e167_)
    have e169_ : F145_ b 5 = F b 5 := (s147_ b 5 (fs_n (by omega) (fs_n (by omega) (fs_n (by omega) rfl)))).trans (e168_)
    have e170_ : F161_ b 5 = F b 5 := (s163_ b 5 (fs_n (by omega) rfl)).trans (e169_)
    have b171_ : 0 ≤ F b 5 ∧ F b 5 ≤ 999 := gi_g hgi h_b.2.1.2.1
    exact ⟨F161_, rfl, g162_, g164_, (by simp [sp_mem, hE, pf, pb, h1_, c6_, c55_, c56_, c71_, c72_, h79_, c83_, e128_, e129_, e131_, e132_, c142_, c143_, c144_, c159_, c160_, e167_, e168_, e169_, e170_]; try first | omega | ((repeat' split) <;> first | rfl | (exfalso; omega) | omega)), (by omega), ((cw_fs c144_ s163_ (fun r j hj => (fs_n (by omega) rfl))))⟩
  have hE : ee = true := by cases ee <;> simp_all
  refine ga_aload_n (v := .ref 119) hm_93 rfl rfl rfl ?_
  refine ga_getr (b := 1) hm_93 rfl sc_119 rfl ?_
  refine ga_ldcs hm_93 rfl ?_
  have b172_ : 0 ≤ F 1 7 ∧ F 1 7 ≤ 600 := gi_g hgi rfl
  refine gVi (nY := 4) (F := 6) (L := 100) (As := [.retAddr 10]) (b := 1) (rest := []) hm_93 rfl hm_152 rfl rfl (fl_ob sc_1) rfl rfl rfl rfl rfl (by omega) (by omega) (mc_152 hG F X hgi (K) (10) ([105, 110, 99, 114, 101, 97, 115, 101]) hgK hK hko (by omega) (rfl) (by decide)) (fun _ _ h => False.elim h) ?_
  rintro z173_ A1_ (⟨hA_, hz_, c174_⟩ | ⟨hA_, hz_, c175_⟩)
  ·
    subst hA_
    subst hz_
    refine fl_if_eq hm_93 rfl ⟨by omega, by omega⟩ (fun _ => ?_) (fun h => absurd (by omega) h)
    
    refine ga_aload_n (v := .ref 119) hm_93 rfl rfl rfl ?_
    refine ga_getr (b := 1) hm_93 rfl sc_119 rfl ?_
    refine ga_ldcs hm_93 rfl ?_
    refine gVi (nY := 4) (F := 6) (L := 100) (As := [.retAddr 12]) (b := 1) (rest := []) hm_93 rfl hm_152 rfl rfl (fl_ob sc_1) rfl rfl rfl rfl rfl (by omega) (by omega) (mc_152 hG F X hgi (K) (12) ([110, 111, 116]) hgK hK hko (by omega) (rfl) (by decide)) (fun _ _ h => False.elim h) ?_
    rintro z176_ A1_ (⟨hA_, hz_, c177_⟩ | ⟨hA_, hz_, c178_⟩)
    ·
      subst hA_
      subst hz_
      refine ga_istore_n (lv2 := [(3, .int (Int32.ofInt 0)), (0, .ref 119), (1, .ref b), (2, .int (Int32.ofInt ef))]) hm_93 rfl (Nat.le_of_ble_eq_true rfl) rfl ?_
      refine ga_iload_n (z := 0) hm_93 rfl rfl ?_
      refine fl_if_eq hm_93 rfl ⟨by omega, by omega⟩ (fun _ => ?_) (fun h => absurd (by omega) h)
      refine ga_iload_n (z := ef) hm_93 rfl rfl ?_
      refine fx_if_ne (a := ef) hm_93 rfl ⟨by omega, by omega⟩ (fun h179_ => ?_) (fun h180_ => ?_)
      ·
        refine ga_aload_n (v := .ref 119) hm_93 rfl rfl rfl ?_
        refine ga_aload_n (v := .ref b) hm_93 rfl rfl rfl ?_
        refine ga_iload_n (z := 0) hm_93 rfl rfl ?_
        have b181_ : 8 ≤ F 119 2 ∧ F 119 2 ≤ 105 := gi_g hgi rfl
        have b182_ : 2 ≤ F 119 3 ∧ F 119 3 ≤ 3 := gi_g hgi rfl
        refine gVv (nY := 7) (F := 8) (L := 143) (As := [.ref b, .int (Int32.ofInt 0)]) (b := 119) (rest := []) hm_93 rfl hm_88 rfl rfl (fl_ob sc_119) rfl rfl rfl rfl rfl (by omega) (by omega) (mc_88 hG F X hgi (K) (a) (n) (b) (nb) (t) (q) (k) (l) (tl) (pl) (ps) (0) hgK hK hko (by omega) (h_a) (by omega) (by omega) (hl) (htl) (by omega) h_b (by omega) (by omega) (hcw) (hpl) (hps) (hpn) (by omega)) ?_ ?_
        ·
          rintro j_ A1_ ⟨F184_, ⟨hJ_, hA_⟩, g185_, s186_, c183_⟩
          subst hA_
          subst hJ_
          refine ⟨rfl, ?_⟩
          refine gw_v ?_
          have g187_ : fs [(1, 1, 7, 8), (b, b, 4, 5), (b + 1, b + 4, 0, 100000)] F F184_ := fs_tr fs_refl s186_ (by simp [fs_le]; try omega)
          have b188_ : 0 ≤ F184_ 1 8 ∧ F184_ 1 8 ≤ 100000 := gi_g g185_ rfl
          have b189_ : 0 ≤ F b 5 ∧ F b 5 ≤ 999 := gi_g hgi h_b.2.1.2.1
          exact ⟨F184_, ⟨rfl, rfl⟩, g185_, g187_, (by obtain ⟨e, c1, c2⟩ := c183_; exact ⟨e, (by simp [sp_mem, hE, c1, pf, pb, h2_, c174_, c177_, h179_]; try first | omega | ((repeat' split) <;> first | rfl | (exfalso; omega) | omega)), c2⟩)⟩
        rintro A1_ ⟨F194_, hA_, g195_, s196_, c191_, c192_, c193_⟩
        subst hA_
        have g197_ : fs [(1, 1, 7, 7), (b, b, 4, 5), (b + 1, b + 4, 0, 100000)] F F194_ := fs_tr fs_refl s196_ (by simp [fs_le]; try omega)
        have tk198_ : tkh K F194_ := tkh_fs hK s196_ (fun r k h => (fs_n (by omega) (fs_n (by omega) (fs_n (by omega) rfl)))) (fs_n (by omega) (fs_n (by omega) (fs_n (by omega) rfl)))
        refine ga_iload_n (z := 0) hm_93 rfl rfl ?_
        refine fl_if_eq hm_93 rfl ⟨by omega, by omega⟩ (fun _ => ?_) (fun h => absurd (by omega) h)
        refine gr_v hm_93 rfl rfl ?_
        have b199_ : 0 ≤ F194_ 1 7 ∧ F194_ 1 7 ≤ 600 := gi_g g195_ rfl
        have e200_ : F194_ b 5 = F b 5 := (s196_ b 5 (fs_n (by omega) (fs_n (by omega) (fs_n (by omega) rfl)))).trans (rfl)
        have b201_ : 0 ≤ F b 5 ∧ F b 5 ≤ 999 := gi_g hgi h_b.2.1.2.1
        exact ⟨F194_, rfl, g195_, g197_, (by simp [sp_mem, hE, pf, pb, h2_, c174_, c177_, h179_, c191_, c192_, c193_, e200_]; try first | omega | ((repeat' split) <;> first | rfl | (exfalso; omega) | omega)), (by omega), (c193_)⟩
      exfalso; omega
    subst hA_
    subst hz_
    refine ga_istore_n (lv2 := [(3, .int (Int32.ofInt 1)), (0, .ref 119), (1, .ref b), (2, .int (Int32.ofInt ef))]) hm_93 rfl (Nat.le_of_ble_eq_true rfl) rfl ?_
    refine ga_iload_n (z := 1) hm_93 rfl rfl ?_
    refine fl_if_eq hm_93 rfl ⟨by omega, by omega⟩ (fun h => absurd h (by omega)) (fun _ => ?_)
    refine ga_aload_n (v := .ref 119) hm_93 rfl rfl rfl ?_
    refine ga_getr (b := 1) hm_93 rfl sc_119 rfl ?_
    refine gVv (nY := 1) (F := 0) (L := 0) (As := []) (b := 1) (rest := []) hm_93 rfl hm_154 rfl rfl (fl_ob sc_1) rfl rfl rfl rfl rfl (by omega) (by omega) (mc_154 hG F X hgi (K) hgK hK hko (by omega)) (fun _ _ h => False.elim h) ?_
    rintro A1_ ⟨F205_, hA_, g206_, s207_, c203_, c204_⟩
    subst hA_
    have g208_ : fs [(1, 1, 7, 7), (b, b, 4, 5), (b + 1, b + 4, 0, 100000)] F F205_ := fs_tr fs_refl s207_ (by simp [fs_le]; try omega)
    have tk209_ : tkh K F205_ := tkh_fs hK s207_ (fun r k h => (fs_n (by omega) rfl)) (fs_n (by omega) rfl)
    refine ga_aload_n (v := .ref 119) hm_93 rfl rfl rfl ?_
    refine ga_getr (b := 1) hm_93 rfl sc_119 rfl ?_
    refine fl_iconst hm_93 rfl ?_
    have b210_ : 0 ≤ F205_ 1 7 ∧ F205_ 1 7 ≤ 600 := gi_g g206_ rfl
    refine gVv (nY := 2) (F := 7) (L := 121) (As := [.int (Int32.ofInt 0)]) (b := 1) (rest := []) hm_93 rfl hm_24 rfl rfl (fl_ob sc_1) rfl rfl rfl rfl rfl (by omega) (by omega) (mc_24 hG F205_ X g206_ (K) (0) hgK tk209_ hko (by omega) (by omega)) ?_ ?_
    ·
      rintro j_ A1_ ⟨F212_, ⟨hJ_, hA_⟩, g213_, s214_, c211_⟩
      subst hA_
      subst hJ_
      refine ⟨rfl, ?_⟩
      refine gw_v ?_
      have g215_ : fs [(1, 1, 7, 8), (b, b, 4, 5), (b + 1, b + 4, 0, 100000)] F F212_ := fs_tr (fs_tr fs_refl g208_ (by simp [fs_le]; try omega)) s214_ (by simp [fs_le]; try omega)
      have b216_ : 0 ≤ F212_ 1 8 ∧ F212_ 1 8 ≤ 100000 := gi_g g213_ rfl
      have b217_ : 0 ≤ F b 5 ∧ F b 5 ≤ 999 := gi_g hgi h_b.2.1.2.1
      exact ⟨F212_, ⟨rfl, rfl⟩, g213_, g215_, (by obtain ⟨e, c1, c2⟩ := c211_; exact ⟨e, (by simp [sp_mem, hE, c1, pf, pb, h2_, c174_, c178_, c203_, c204_]; try first | omega | ((repeat' split) <;> first | rfl | (exfalso; omega) | omega)), c2⟩)⟩
    rintro A1_ ⟨F221_, hA_, g222_, s223_, c219_, c220_⟩
    subst hA_
    have g224_ : fs [(1, 1, 7, 7), (b, b, 4, 5), (b + 1, b + 4, 0, 100000)] F F221_ := fs_tr g208_ s223_ (by simp [fs_le]; try omega)
    have tk225_ : tkh K F221_ := tkh_fs tk209_ s223_ (fun r k h => (fs_n (by omega) rfl)) (fs_n (by omega) rfl)
    refine ga_iload_n (z := ef) hm_93 rfl rfl ?_
    refine fx_if_ne (a := ef) hm_93 rfl ⟨by omega, by omega⟩ (fun h226_ => ?_) (fun h227_ => ?_)
    ·
      refine ga_aload_n (v := .ref 119) hm_93 rfl rfl rfl ?_
      refine ga_aload_n (v := .ref b) hm_93 rfl rfl rfl ?_
      refine ga_iload_n (z := 1) hm_93 rfl rfl ?_
      have b228_ : 0 ≤ F221_ 1 7 ∧ F221_ 1 7 ≤ 600 := gi_g g222_ rfl
      have e229_ : F205_ 119 2 = F 119 2 := (s207_ 119 2 rfl).trans (rfl)
      have e230_ : F221_ 119 2 = F 119 2 := (s223_ 119 2 rfl).trans (e229_)
      have b231_ : 8 ≤ F 119 2 ∧ F 119 2 ≤ 105 := gi_g hgi rfl
      have e232_ : F205_ 119 3 = F 119 3 := (s207_ 119 3 rfl).trans (rfl)
      have e233_ : F221_ 119 3 = F 119 3 := (s223_ 119 3 rfl).trans (e232_)
      have b234_ : 2 ≤ F 119 3 ∧ F 119 3 ≤ 3 := gi_g hgi rfl
      refine gVv (nY := 7) (F := 8) (L := 143) (As := [.ref b, .int (Int32.ofInt 1)]) (b := 119) (rest := []) hm_93 rfl hm_88 rfl rfl (fl_ob sc_119) rfl rfl rfl rfl rfl (by omega) (by omega) (mc_88 hG F221_ X g222_ (K) (a) (n) (b) (nb) (t) (q) (k) (l) (tl) (pl) (ps) (1) hgK tk225_ hko (by omega) (h_a) (by omega) (by omega) ((rep_fs (rep_fs hl s207_ (fun _ => (fs_n (by omega) rfl)) (fs_n (by omega) rfl)) s223_ (fun _ => (fs_n (by omega) rfl)) (fs_n (by omega) rfl))) ((rep_fs (rep_fs htl s207_ (fun _ => (fs_n (by omega) rfl)) (fs_n (by omega) rfl)) s223_ (fun _ => (fs_n (by omega) rfl)) (fs_n (by omega) rfl))) (by omega) h_b (by omega) (by omega) ((cw_fs (cw_fs hcw s207_ (fun r j hj => (fs_n (by omega) rfl))) s223_ (fun r j hj => (fs_n (by omega) rfl)))) ((rep_fs (rep_fs hpl s207_ (fun _ => (fs_n (by omega) rfl)) (fs_n (by omega) rfl)) s223_ (fun _ => (fs_n (by omega) rfl)) (fs_n (by omega) rfl))) ((prd_fs (prd_fs hps s207_ (fun _ _ _ => (fs_n (by omega) rfl))) s223_ (fun _ _ _ => (fs_n (by omega) rfl)))) (hpn) (by omega)) ?_ ?_
      ·
        rintro j_ A1_ ⟨F236_, ⟨hJ_, hA_⟩, g237_, s238_, c235_⟩
        subst hA_
        subst hJ_
        refine ⟨rfl, ?_⟩
        refine gw_v ?_
        have g239_ : fs [(1, 1, 7, 8), (b, b, 4, 5), (b + 1, b + 4, 0, 100000)] F F236_ := fs_tr (fs_tr fs_refl g224_ (by simp [fs_le]; try omega)) s238_ (by simp [fs_le]; try omega)
        have b240_ : 0 ≤ F236_ 1 8 ∧ F236_ 1 8 ≤ 100000 := gi_g g237_ rfl
        have b241_ : 0 ≤ F b 5 ∧ F b 5 ≤ 999 := gi_g hgi h_b.2.1.2.1
        exact ⟨F236_, ⟨rfl, rfl⟩, g237_, g239_, (by obtain ⟨e, c1, c2⟩ := c235_; exact ⟨e, (by simp [sp_mem, hE, c1, pf, pb, h2_, c174_, c178_, c203_, c204_, c219_, c220_, h226_, e229_, e230_, e232_, e233_]; try first | omega | ((repeat' split) <;> first | rfl | (exfalso; omega) | omega)), c2⟩)⟩
      rintro A1_ ⟨F246_, hA_, g247_, s248_, c243_, c244_, c245_⟩
      subst hA_
      have g249_ : fs [(1, 1, 7, 7), (b, b, 4, 5), (b + 1, b + 4, 0, 100000)] F F246_ := fs_tr g224_ s248_ (by simp [fs_le]; try omega)
      have tk250_ : tkh K F246_ := tkh_fs tk225_ s248_ (fun r k h => (fs_n (by omega) (fs_n (by omega) (fs_n (by omega) rfl)))) (fs_n (by omega) (fs_n (by omega) (fs_n (by omega) rfl)))
      refine ga_iload_n (z := 1) hm_93 rfl rfl ?_
      refine fl_if_eq hm_93 rfl ⟨by omega, by omega⟩ (fun h => absurd h (by omega)) (fun _ => ?_)
      refine ga_aload_n (v := .ref 119) hm_93 rfl rfl rfl ?_
      refine ga_getr (b := 1) hm_93 rfl sc_119 rfl ?_
      refine fl_iconst hm_93 rfl ?_
      have b251_ : 0 ≤ F246_ 1 7 ∧ F246_ 1 7 ≤ 600 := gi_g g247_ rfl
      refine gVv (nY := 2) (F := 7) (L := 121) (As := [.int (Int32.ofInt 1)]) (b := 1) (rest := []) hm_93 rfl hm_24 rfl rfl (fl_ob sc_1) rfl rfl rfl rfl rfl (by omega) (by omega) (mc_24 hG F246_ X g247_ (K) (1) hgK tk250_ hko (by omega) (by omega)) ?_ ?_
      ·
        rintro j_ A1_ ⟨F253_, ⟨hJ_, hA_⟩, g254_, s255_, c252_⟩
        subst hA_
        subst hJ_
        refine ⟨rfl, ?_⟩
        refine gw_v ?_
        have g256_ : fs [(1, 1, 7, 8), (b, b, 4, 5), (b + 1, b + 4, 0, 100000)] F F253_ := fs_tr (fs_tr fs_refl g249_ (by simp [fs_le]; try omega)) s255_ (by simp [fs_le]; try omega)
        have b257_ : 0 ≤ F253_ 1 8 ∧ F253_ 1 8 ≤ 100000 := gi_g g254_ rfl
        have b258_ : 0 ≤ F b 5 ∧ F b 5 ≤ 999 := gi_g hgi h_b.2.1.2.1
        exact ⟨F253_, ⟨rfl, rfl⟩, g254_, g256_, (by obtain ⟨e, c1, c2⟩ := c252_; exact ⟨e, (by simp [sp_mem, hE, c1, pf, pb, h2_, c174_, c178_, c203_, c204_, c219_, c220_, h226_, e229_, e230_, e232_, e233_, c243_, c244_, c245_]; try first | omega | ((repeat' split) <;> first | rfl | (exfalso; omega) | omega)), c2⟩)⟩
      rintro A1_ ⟨F262_, hA_, g263_, s264_, c260_, c261_⟩
      subst hA_
      have g265_ : fs [(1, 1, 7, 7), (b, b, 4, 5), (b + 1, b + 4, 0, 100000)] F F262_ := fs_tr g249_ s264_ (by simp [fs_le]; try omega)
      have tk266_ : tkh K F262_ := tkh_fs tk250_ s264_ (fun r k h => (fs_n (by omega) rfl)) (fs_n (by omega) rfl)
      refine gr_v hm_93 rfl rfl ?_
      have b267_ : 0 ≤ F262_ 1 7 ∧ F262_ 1 7 ≤ 600 := gi_g g263_ rfl
      have e268_ : F205_ b 5 = F b 5 := (s207_ b 5 (fs_n (by omega) rfl)).trans (rfl)
      have e269_ : F221_ b 5 = F b 5 := (s223_ b 5 (fs_n (by omega) rfl)).trans (e268_)
      have e270_ : F246_ b 5 = F b 5 := (s248_ b 5 (fs_n (by omega) (fs_n (by omega) (fs_n (by omega) rfl)))).trans (e269_)
      have e271_ : F262_ b 5 = F b 5 := (s264_ b 5 (fs_n (by omega) rfl)).trans (e270_)
      have b272_ : 0 ≤ F b 5 ∧ F b 5 ≤ 999 := gi_g hgi h_b.2.1.2.1
      exact ⟨F262_, rfl, g263_, g265_, (by simp [sp_mem, hE, pf, pb, h2_, c174_, c178_, c203_, c204_, c219_, c220_, h226_, e229_, e230_, e232_, e233_, c243_, c244_, c245_, c260_, c261_, e268_, e269_, e270_, e271_]; try first | omega | ((repeat' split) <;> first | rfl | (exfalso; omega) | omega)), (by omega), ((cw_fs c245_ s264_ (fun r j hj => (fs_n (by omega) rfl))))⟩
    exfalso; omega
  subst hA_
  subst hz_
  refine fl_if_eq hm_93 rfl ⟨by omega, by omega⟩ (fun h => absurd h (by omega)) (fun _ => ?_)
  refine ga_aload_n (v := .ref 119) hm_93 rfl rfl rfl ?_
  refine ga_aload_n (v := .ref b) hm_93 rfl rfl rfl ?_
  refine gVv (nY := 2) (F := 8) (L := 144) (As := [.ref b]) (b := 119) (rest := []) hm_93 rfl hm_92 rfl rfl (fl_ob sc_119) rfl rfl rfl rfl rfl (by omega) (by omega) (mc_92 hG F X hgi (K) (b) (nb) (t) (q) hgK hK hko (by omega) h_b) ?_ ?_
  ·
    have b277_ : 0 ≤ F b 5 ∧ F b 5 ≤ 999 := gi_g hgi h_b.2.1.2.1
    rintro j_ A1_ ⟨F274_, ⟨hJ_, hA_⟩, g275_, s276_, c273_⟩
    subst hA_
    subst hJ_
    refine ⟨rfl, ?_⟩
    refine gw_v ?_
    have g278_ : fs [(1, 1, 7, 8), (b, b, 4, 5), (b + 1, b + 4, 0, 100000)] F F274_ := fs_tr fs_refl s276_ (by simp [fs_le]; try omega)
    have b279_ : 0 ≤ F274_ 1 8 ∧ F274_ 1 8 ≤ 100000 := gi_g g275_ rfl
    exact ⟨F274_, ⟨rfl, rfl⟩, g275_, g278_, (by obtain ⟨e, c1, c2⟩ := c273_; exact ⟨e, (by simp [sp_mem, hE, c1, pf, pb, h2_, c175_]; try first | omega | ((repeat' split) <;> first | rfl | (exfalso; omega) | omega)), c2⟩)⟩
  have b281_ : 0 ≤ F b 5 ∧ F b 5 ≤ 999 := gi_g hgi h_b.2.1.2.1
  rintro A1_ ⟨F284_, hA_, g285_, s286_, c282_, c283_⟩
  subst hA_
  have g287_ : fs [(1, 1, 7, 7), (b, b, 4, 5), (b + 1, b + 4, 0, 100000)] F F284_ := fs_tr fs_refl s286_ (by simp [fs_le]; try omega)
  have tk288_ : tkh K F284_ := tkh_fs hK s286_ (fun r k h => (fs_n (by omega) (fs_n (by omega) rfl))) (fs_n (by omega) (fs_n (by omega) rfl))
  refine gr_v hm_93 rfl rfl ?_
  have b289_ : 0 ≤ F284_ 1 7 ∧ F284_ 1 7 ≤ 600 := gi_g g285_ rfl
  have b290_ : 0 ≤ F284_ b 5 ∧ F284_ b 5 ≤ 999 := gi_g g285_ h_b.2.1.2.1
  exact ⟨F284_, rfl, g285_, g287_, (by simp [sp_mem, hE, pf, pb, h2_, c175_, c282_, c283_]; try first | omega | ((repeat' split) <;> first | rfl | (exfalso; omega) | omega)), (by omega), ((cw_fs hcw s286_ (fun r j hj => (fs_n (by omega) (fs_n (by omega) rfl)))))⟩
/- CheapPlanner$ClauseReader.readClause -/
abbrev pq_90 (G : Nat → Nat → Option Nat) (F : fl_N) (X : xi_H) (K : fl_N) (a n b nb : Nat) (t q k : Int) (l tl pl : List Int) (ps : List (List Int)) (ee : Bool) (ef : Int) : Outcome → xi_H → Prop := gqv (fun A => ∃ F' : fl_N, fl_H sh_T G F' ++ X = A ∧ gi F' ∧ fs [(1, 1, 7, 7), (b, b, 4, 5), (b + 1, b + 4, 0, 100000)] F F' ∧ (sp_clause K ee k l tl pl ps (F 1 7) = .inr (F' 1 7, F' b 5)) ∧ (0 ≤ F' 1 7 ∧ F' 1 7 ≤ K 1 6 - 1) ∧ (cw F' b (l.length : Int))) (fun j A => ∃ F' : fl_N, (387 + X.length = j ∧ fl_H sh_T G F' ++ (X ++ [gx 14]) = A) ∧ gi F' ∧ fs [(1, 1, 7, 8), (b, b, 4, 5), (b + 1, b + 4, 0, 100000)] F F' ∧ (∃ e, sp_clause K ee k l tl pl ps (F 1 7) = .inl e ∧ F' 1 8 = e.1 + 10 * e.2))
theorem mc_90 {G : Nat → Nat → Option Nat} (hG : gg G) (F : fl_N) (X : xi_H) (hgi : gi F) (K : fl_N) (a n b nb : Nat) (t q k : Int) (l tl pl : List Int) (ps : List (List Int)) (ee : Bool) (ef : Int) (hgK : gi K) (hK : tkh K F) (hko : tko K) (hp : 0 ≤ F 1 7 ∧ F 1 7 ≤ K 1 6 - 1) (h_a : nm a n) (hta : F 119 2 = (a : Int)) (htk2 : F 119 3 = k) (hl : rep (F (a + 1)) (F a 2) l) (htl : rep (F (a + 2)) (F a 2) tl) (hk : 2 ≤ k ∧ k ≤ 3) (h_b : cl b nb t q) (hab : a + 2 < b) (hnt2 : (n : Int) ≤ t + 1) (hpl : rep (F 12) (F 11 2) pl) (hps : prd F ps) (hpn : pl.length = ps.length) (he : ef = if ee = true then 1 else 0) (hqe : ef = 0 → q = -1) : fl_M xi_ms 90 10 192 [.ref 119, .ref b, .int (Int32.ofInt ef)] (fl_H sh_T G F ++ X) (pq_90 G F X K a n b nb t q k l tl pl ps ee ef) := by
  intro fr lo hfr hlo
  show fl_R xi_ms 90 fr lo 0 [(0, .ref 119), (1, .ref b), (2, .int (Int32.ofInt ef))] [] _ _
  have hpl1 := hpl.1
  have hb11 : 0 ≤ F 11 2 ∧ F 11 2 ≤ 6 := gi_g hgi rfl
  have hr_a := h_a.2.2
  have hr_b := h_b.2.2
  refine ga_aload_n (v := .ref b) hm_90 rfl rfl rfl ?_
  refine gIv (nY := 1) (F := 0) (L := 0) (As := []) (b := b) (rest := []) hm_90 rfl hm_87 rfl rfl (fl_ob h_b.1.1) rfl rfl rfl rfl rfl (by omega) (by omega) ?_
  intro f1_ l2_ h3_ h4_
  show fl_R xi_ms 87 f1_ l2_ 0 [(0, .ref b)] [] _ _
  refine ga_aload_n (v := .ref b) hm_87 rfl rfl rfl ?_
  refine fl_iconst hm_87 rfl ?_
  refine ga_puti (z := 0) hm_87 rfl h_b.1.1 rfl rfl ?_
  refine ga_aload_n (v := .ref b) hm_87 rfl rfl rfl ?_
  refine fl_iconst hm_87 rfl ?_
  refine ga_puti (z := 0) hm_87 rfl h_b.1.1 rfl rfl ?_
  refine gr_v hm_87 rfl rfl ?_
  clear h3_ h4_ f1_ l2_
  refine ga_aload_n (v := .ref 119) hm_90 rfl rfl rfl ?_
  refine ga_getr (b := 1) hm_90 rfl sc_119 rfl ?_
  refine fl_iconst hm_90 rfl ?_
  obtain ⟨F5_, q6_⟩ : ∃ F9_, F9_ = (fl_u (fl_u F b 4 0) b 5 0) := ⟨_, rfl⟩
  rw [← q6_]
  have g7_ : gi F5_ := by rw [q6_]; exact gi_u (gi_u (hgi) h_b.2.1.1 (by omega) (by omega)) h_b.2.1.2.1 (by omega) (by omega)
  have g8_ : fs [(1, 1, 7, 7), (b, b, 4, 5), (b + 1, b + 4, 0, 100000)] F F5_ := by rw [q6_]; exact fs_u (fs_u (fs_refl) (fs_z (fs_y (by omega)))) (fs_z (fs_y (by omega)))
  have tk9_ : tkh K F5_ := by rw [q6_]; exact tkh_u (tkh_u (hK) (by omega) (by omega)) (by omega) (by omega)
  have e10_ : F5_ 1 7 = F 1 7 := by rw [q6_]; exact (fl_u_ne (by omega)).trans (fl_u_ne (by omega))
  have b11_ : 0 ≤ F 1 7 ∧ F 1 7 ≤ 600 := gi_g hgi rfl
  refine gVv (nY := 2) (F := 7) (L := 121) (As := [.int (Int32.ofInt 0)]) (b := 1) (rest := []) hm_90 rfl hm_24 rfl rfl (fl_ob sc_1) rfl rfl rfl rfl rfl (by omega) (by omega) (mc_24 hG F5_ X g7_ (K) (0) hgK tk9_ hko (by omega) (by omega)) ?_ ?_
  ·
    rintro j_ A1_ ⟨F13_, ⟨hJ_, hA_⟩, g14_, s15_, c12_⟩
    subst hA_
    subst hJ_
    try simp only [e10_] at c12_
    refine ⟨rfl, ?_⟩
    refine gw_v ?_
    have g16_ : fs [(1, 1, 7, 8), (b, b, 4, 5), (b + 1, b + 4, 0, 100000)] F F13_ := fs_tr (fs_tr fs_refl g8_ (by simp [fs_le]; try omega)) s15_ (by simp [fs_le]; try omega)
    have b17_ : 0 ≤ F13_ 1 8 ∧ F13_ 1 8 ≤ 100000 := gi_g g14_ rfl
    exact ⟨F13_, ⟨rfl, rfl⟩, g14_, g16_, (by obtain ⟨e, c1, c2⟩ := c12_; exact ⟨e, (by simp [sp_clause, c1, pf, pb, e10_]; try first | omega | ((repeat' split) <;> first | rfl | (exfalso; omega) | omega)), c2⟩)⟩
  rintro A1_ ⟨F21_, hA_, g22_, s23_, c19_, c20_⟩
  subst hA_
  have g24_ : fs [(1, 1, 7, 7), (b, b, 4, 5), (b + 1, b + 4, 0, 100000)] F F21_ := fs_tr g8_ s23_ (by simp [fs_le]; try omega)
  have tk25_ : tkh K F21_ := tkh_fs tk9_ s23_ (fun r k h => (fs_n (by omega) rfl)) (fs_n (by omega) rfl)
  try simp only [e10_] at c19_
  have hk0 := c19_
  refine ga_aload_n (v := .ref 119) hm_90 rfl rfl rfl ?_
  refine ga_getr (b := 1) hm_90 rfl sc_119 rfl ?_
  refine ga_ldcs hm_90 rfl ?_
  have b26_ : 0 ≤ F21_ 1 7 ∧ F21_ 1 7 ≤ 600 := gi_g g22_ rfl
  refine gVi (nY := 4) (F := 6) (L := 100) (As := [.retAddr 9]) (b := 1) (rest := []) hm_90 rfl hm_152 rfl rfl (fl_ob sc_1) rfl rfl rfl rfl rfl (by omega) (by omega) (mc_152 hG F21_ X g22_ (K) (9) ([97, 110, 100]) hgK tk25_ hko (by omega) (rfl) (by decide)) (fun _ _ h => False.elim h) ?_
  rintro z27_ A1_ (⟨hA_, hz_, c28_⟩ | ⟨hA_, hz_, c29_⟩)
  ·
    subst hA_
    subst hz_
    refine fl_if_ne hm_90 rfl ⟨by omega, by omega⟩ (fun h => absurd h (by omega)) (fun _ => ?_)
    refine ga_aload_n (v := .ref 119) hm_90 rfl rfl rfl ?_
    refine ga_aload_n (v := .ref b) hm_90 rfl rfl rfl ?_
    refine ga_iload_n (z := ef) hm_90 rfl rfl ?_
    have e30_ : F5_ 119 2 = F 119 2 := by rw [q6_]; exact (fl_u_ne (by omega)).trans (fl_u_ne (by omega))
    have e31_ : F21_ 119 2 = F 119 2 := (s23_ 119 2 rfl).trans (e30_)
    have b32_ : 8 ≤ F 119 2 ∧ F 119 2 ≤ 105 := gi_g hgi rfl
    have e33_ : F5_ 119 3 = F 119 3 := by rw [q6_]; exact (fl_u_ne (by omega)).trans (fl_u_ne (by omega))
    have e34_ : F21_ 119 3 = F 119 3 := (s23_ 119 3 rfl).trans (e33_)
    have b35_ : 2 ≤ F 119 3 ∧ F 119 3 ≤ 3 := gi_g hgi rfl
    have e36_ : F5_ b 4 = 0 := by rw [q6_]; exact (fl_u_ne (by omega)).trans (fl_u_eq)
    have e37_ : F21_ b 4 = 0 := (s23_ b 4 (fs_n (by omega) rfl)).trans (e36_)
    refine gVv (nY := 4) (F := 9) (L := 169) (As := [.ref b, .int (Int32.ofInt ef)]) (b := 119) (rest := []) hm_90 rfl hm_93 rfl rfl (fl_ob sc_119) rfl rfl rfl rfl rfl (by omega) (by omega) (mc_93 hG F21_ X g22_ (K) (a) (n) (b) (nb) (t) (q) (k) (l) (tl) (pl) (ps) (ee) (ef) hgK tk25_ hko (by omega) (h_a) (by omega) (by omega) ((rep_fs (by rw [q6_]; exact (rep_u (rep_u hl (by omega) (by omega)) (by omega) (by omega))) s23_ (fun _ => (fs_n (by omega) rfl)) (fs_n (by omega) rfl))) ((rep_fs (by rw [q6_]; exact (rep_u (rep_u htl (by omega) (by omega)) (by omega) (by omega))) s23_ (fun _ => (fs_n (by omega) rfl)) (fs_n (by omega) rfl))) (by omega) h_b (by omega) (by omega) (cw_nil e37_) ((rep_fs (by rw [q6_]; exact (rep_u (rep_u hpl (by omega) (by omega)) (by omega) (by omega))) s23_ (fun _ => (fs_n (by omega) rfl)) (fs_n (by omega) rfl))) ((prd_fs (by rw [q6_]; exact (prd_u (prd_u hps (by omega)) (by omega))) s23_ (fun _ _ _ => (fs_n (by omega) rfl)))) (hpn) (he) (by omega)) ?_ ?_
    ·
      have e42_ : F5_ b 5 = 0 := by rw [q6_]; exact fl_u_eq
      have e43_ : F21_ b 5 = 0 := (s23_ b 5 (fs_n (by omega) rfl)).trans (e42_)
      rintro j_ A1_ ⟨F39_, ⟨hJ_, hA_⟩, g40_, s41_, c38_⟩
      subst hA_
      subst hJ_
      try simp only [e43_] at c38_
      refine ⟨rfl, ?_⟩
      refine gw_v ?_
      have g44_ : fs [(1, 1, 7, 8), (b, b, 4, 5), (b + 1, b + 4, 0, 100000)] F F39_ := fs_tr (fs_tr fs_refl g24_ (by simp [fs_le]; try omega)) s41_ (by simp [fs_le]; try omega)
      have b45_ : 0 ≤ F39_ 1 8 ∧ F39_ 1 8 ≤ 100000 := gi_g g40_ rfl
      exact ⟨F39_, ⟨rfl, rfl⟩, g40_, g44_, (by obtain ⟨e, c1, c2⟩ := c38_; exact ⟨e, (by simp [sp_clause, c1, pf, pb, e10_, c19_, c20_, c28_, e30_, e31_, e33_, e34_, e36_, e37_, e42_, e43_]; try first | omega | ((repeat' split) <;> first | rfl | (exfalso; omega) | omega)), c2⟩)⟩
    have e47_ : F5_ b 5 = 0 := by rw [q6_]; exact fl_u_eq
    have e48_ : F21_ b 5 = 0 := (s23_ b 5 (fs_n (by omega) rfl)).trans (e47_)
    rintro A1_ ⟨F52_, hA_, g53_, s54_, c49_, c50_, c51_⟩
    subst hA_
    have g55_ : fs [(1, 1, 7, 7), (b, b, 4, 5), (b + 1, b + 4, 0, 100000)] F F52_ := fs_tr g24_ s54_ (by simp [fs_le]; try omega)
    have tk56_ : tkh K F52_ := tkh_fs tk25_ s54_ (fun r k h => (fs_n (by omega) (fs_n (by omega) (fs_n (by omega) rfl)))) (fs_n (by omega) (fs_n (by omega) (fs_n (by omega) rfl)))
    try simp only [e48_] at c49_
    refine gr_v hm_90 rfl rfl ?_
    have b57_ : 0 ≤ F52_ 1 7 ∧ F52_ 1 7 ≤ 600 := gi_g g53_ rfl
    have b58_ : 0 ≤ F52_ b 5 ∧ F52_ b 5 ≤ 999 := gi_g g53_ h_b.2.1.2.1
    exact ⟨F52_, rfl, g53_, g55_, (by simp [sp_clause, pf, pb, e10_, c19_, c20_, c28_, e30_, e31_, e33_, e34_, e36_, e37_, e47_, e48_, c49_, c50_, c51_]; try first | omega | ((repeat' split) <;> first | rfl | (exfalso; omega) | omega)), (by omega), (c51_)⟩
  subst hA_
  subst hz_
  refine fl_if_ne hm_90 rfl ⟨by omega, by omega⟩ (fun _ => ?_) (fun h => absurd (by omega) h)
  have hand := c29_
  refine ga_aload_n (v := .ref 119) hm_90 rfl rfl rfl ?_
  refine ga_getr (b := 1) hm_90 rfl sc_119 rfl ?_
  refine gVv (nY := 1) (F := 0) (L := 0) (As := []) (b := 1) (rest := []) hm_90 rfl hm_154 rfl rfl (fl_ob sc_1) rfl rfl rfl rfl rfl (by omega) (by omega) (mc_154 hG F21_ X g22_ (K) hgK tk25_ hko (by omega)) (fun _ _ h => False.elim h) ?_
  rintro A1_ ⟨F62_, hA_, g63_, s64_, c60_, c61_⟩
  subst hA_
  have g65_ : fs [(1, 1, 7, 7), (b, b, 4, 5), (b + 1, b + 4, 0, 100000)] F F62_ := fs_tr g24_ s64_ (by simp [fs_le]; try omega)
  have tk66_ : tkh K F62_ := tkh_fs tk25_ s64_ (fun r k h => (fs_n (by omega) rfl)) (fs_n (by omega) rfl)
  have hsk := c60_
  refine fl_iconst hm_90 rfl ?_
  refine ga_istore_n (lv2 := [(3, .int (Int32.ofInt 0)), (0, .ref 119), (1, .ref b), (2, .int (Int32.ofInt ef))]) hm_90 rfl (Nat.le_of_ble_eq_true rfl) rfl ?_
  have b70_ : 0 ≤ F62_ 1 7 ∧ F62_ 1 7 ≤ 600 := gi_g g63_ rfl
  have L68_ : ∀ (n67_ : Nat) (i : Int) (F1 : fl_N), (4 - i : Int).toNat = n67_ → (gi F1) → (fs [(1, 1, 7, 7), (b, b, 4, 5), (b + 1, b + 4, 0, 100000)] F62_ F1) → (0 ≤ i ∧ i ≤ 4) → (cw F1 b (l.length : Int)) → (0 ≤ F1 1 7 ∧ F1 1 7 ≤ K 1 6 - 1) → (sp_mems K ee k l tl pl ps 4 true 0 (F62_ 1 7) = sp_mems K ee k l tl pl ps (4 - i).toNat (decide (i = 0)) (F1 b 5) (F1 1 7)) → fl_R xi_ms 90 fr lo 40 [(3, .int (Int32.ofInt i)), (0, .ref 119), (1, .ref b), (2, .int (Int32.ofInt ef))] [] (fl_H sh_T G F1 ++ X) (pq_90 G F X K a n b nb t q k l tl pl ps ee ef) := by
    intro n67_
    induction n67_ using Nat.strongRecOn with
    | ind n67_ ih69_ =>
    intro i F1 hn71_ hg_F1 hf_F1 hi hcw hp1 hsp
    have g72_ : fs [(1, 1, 7, 7), (b, b, 4, 5), (b + 1, b + 4, 0, 100000)] F F1 := fs_tr g65_ hf_F1 (by simp [fs_le]; try omega)
    have tk73_ : tkh K F1 := tkh_fs tk66_ hf_F1 (fun r k h => (fs_n (by omega) (fs_n (by omega) (fs_n (by omega) rfl)))) (fs_n (by omega) (fs_n (by omega) (fs_n (by omega) rfl)))
    refine ga_iload_n (z := i) hm_90 rfl rfl ?_
    refine fl_iconst hm_90 rfl ?_
    refine fl_icmp_ge (a := i) (b := 4) hm_90 rfl ⟨by omega, by omega⟩ ⟨by omega, by omega⟩ (fun h74_ => ?_) (fun h75_ => ?_)
    ·
      refine ga_aload_n (v := .ref 119) hm_90 rfl rfl rfl ?_
      refine ga_getr (b := 1) hm_90 rfl sc_119 rfl ?_
      refine fl_iconst hm_90 rfl ?_
      have b76_ : 0 ≤ F1 1 7 ∧ F1 1 7 ≤ 600 := gi_g hg_F1 rfl
      refine gVv (nY := 2) (F := 7) (L := 121) (As := [.int (Int32.ofInt 1)]) (b := 1) (rest := []) hm_90 rfl hm_24 rfl rfl (fl_ob sc_1) rfl rfl rfl rfl rfl (by omega) (by omega) (mc_24 hG F1 X hg_F1 (K) (1) hgK tk73_ hko (by omega) (by omega)) ?_ ?_
      ·
        rintro j_ A1_ ⟨F78_, ⟨hJ_, hA_⟩, g79_, s80_, c77_⟩
        subst hA_
        subst hJ_
        refine ⟨rfl, ?_⟩
        refine gw_v ?_
        have g81_ : fs [(1, 1, 7, 8), (b, b, 4, 5), (b + 1, b + 4, 0, 100000)] F F78_ := fs_tr (fs_tr fs_refl g72_ (by simp [fs_le]; try omega)) s80_ (by simp [fs_le]; try omega)
        have b82_ : 0 ≤ F78_ 1 8 ∧ F78_ 1 8 ≤ 100000 := gi_g g79_ rfl
        exact ⟨F78_, ⟨rfl, rfl⟩, g79_, g81_, (by obtain ⟨e, c1, c2⟩ := c77_; exact ⟨e, (by rw [sp_clause, hk0]; simp only [pb]; rw [if_pos hand, hsk, hsp, spm_z (by omega)]; simp only; rw [c1]), c2⟩)⟩
      rintro A1_ ⟨F86_, hA_, g87_, s88_, c84_, c85_⟩
      subst hA_
      have g89_ : fs [(1, 1, 7, 7), (b, b, 4, 5), (b + 1, b + 4, 0, 100000)] F F86_ := fs_tr g72_ s88_ (by simp [fs_le]; try omega)
      have tk90_ : tkh K F86_ := tkh_fs tk73_ s88_ (fun r k h => (fs_n (by omega) rfl)) (fs_n (by omega) rfl)
      refine gr_v hm_90 rfl rfl ?_
      have b91_ : 0 ≤ F86_ 1 7 ∧ F86_ 1 7 ≤ 600 := gi_g g87_ rfl
      have e92_ : F86_ b 5 = F1 b 5 := (s88_ b 5 (fs_n (by omega) rfl)).trans (rfl)
      have b93_ : 0 ≤ F1 b 5 ∧ F1 b 5 ≤ 999 := gi_g hg_F1 h_b.2.1.2.1
      exact ⟨F86_, rfl, g87_, g89_, (by rw [sp_clause, hk0]; simp only [pb]; rw [if_pos hand, hsk, hsp, spm_z (by omega)]; simp only; rw [c84_]; simp only; rw [e92_]), (by omega), ((cw_fs hcw s88_ (fun r j hj => (fs_n (by omega) rfl))))⟩
    refine ga_iload_n (z := i) hm_90 rfl rfl ?_
    refine fl_if_eq (a := i) hm_90 rfl ⟨by omega, by omega⟩ (fun h94_ => ?_) (fun h95_ => ?_)
    ·
      refine ga_aload_n (v := .ref 119) hm_90 rfl rfl rfl ?_
      refine ga_getr (b := 1) hm_90 rfl sc_119 rfl ?_
      refine fl_iconst hm_90 rfl ?_
      have b96_ : 0 ≤ F1 1 7 ∧ F1 1 7 ≤ 600 := gi_g hg_F1 rfl
      refine gVv (nY := 2) (F := 7) (L := 121) (As := [.int (Int32.ofInt 0)]) (b := 1) (rest := []) hm_90 rfl hm_24 rfl rfl (fl_ob sc_1) rfl rfl rfl rfl rfl (by omega) (by omega) (mc_24 hG F1 X hg_F1 (K) (0) hgK tk73_ hko (by omega) (by omega)) ?_ ?_
      ·
        rintro j_ A1_ ⟨F98_, ⟨hJ_, hA_⟩, g99_, s100_, c97_⟩
        subst hA_
        subst hJ_
        refine ⟨rfl, ?_⟩
        refine gw_v ?_
        have g101_ : fs [(1, 1, 7, 8), (b, b, 4, 5), (b + 1, b + 4, 0, 100000)] F F98_ := fs_tr (fs_tr fs_refl g72_ (by simp [fs_le]; try omega)) s100_ (by simp [fs_le]; try omega)
        have b102_ : 0 ≤ F98_ 1 8 ∧ F98_ 1 8 ≤ 100000 := gi_g g99_ rfl
        exact ⟨F98_, ⟨rfl, rfl⟩, g99_, g101_, (by obtain ⟨e, c1, c2⟩ := c97_; exact ⟨e, (by rw [sp_clause, hk0]; simp only [pb]; rw [if_pos hand, hsk, hsp, spm_step (by omega) (by omega), c1]; try rfl), c2⟩)⟩
      rintro A1_ ⟨F106_, hA_, g107_, s108_, c104_, c105_⟩
      subst hA_
      have g109_ : fs [(1, 1, 7, 7), (b, b, 4, 5), (b + 1, b + 4, 0, 100000)] F F106_ := fs_tr g72_ s108_ (by simp [fs_le]; try omega)
      have tk110_ : tkh K F106_ := tkh_fs tk73_ s108_ (fun r k h => (fs_n (by omega) rfl)) (fs_n (by omega) rfl)
      refine ga_aload_n (v := .ref 119) hm_90 rfl rfl rfl ?_
      refine ga_aload_n (v := .ref b) hm_90 rfl rfl rfl ?_
      refine ga_iload_n (z := ef) hm_90 rfl rfl ?_
      have b111_ : 0 ≤ F106_ 1 7 ∧ F106_ 1 7 ≤ 600 := gi_g g107_ rfl
      have e112_ : F5_ 119 2 = F 119 2 := by rw [q6_]; exact (fl_u_ne (by omega)).trans (fl_u_ne (by omega))
      have e113_ : F21_ 119 2 = F 119 2 := (s23_ 119 2 rfl).trans (e112_)
      have e114_ : F62_ 119 2 = F 119 2 := (s64_ 119 2 rfl).trans (e113_)
      have e115_ : F1 119 2 = F 119 2 := (hf_F1 119 2 (fs_n (by omega) (fs_n (by omega) (fs_n (by omega) rfl)))).trans (e114_)
      have e116_ : F106_ 119 2 = F 119 2 := (s108_ 119 2 rfl).trans (e115_)
      have b117_ : 8 ≤ F 119 2 ∧ F 119 2 ≤ 105 := gi_g hgi rfl
      have e118_ : F5_ 119 3 = F 119 3 := by rw [q6_]; exact (fl_u_ne (by omega)).trans (fl_u_ne (by omega))
      have e119_ : F21_ 119 3 = F 119 3 := (s23_ 119 3 rfl).trans (e118_)
      have e120_ : F62_ 119 3 = F 119 3 := (s64_ 119 3 rfl).trans (e119_)
      have e121_ : F1 119 3 = F 119 3 := (hf_F1 119 3 (fs_n (by omega) (fs_n (by omega) (fs_n (by omega) rfl)))).trans (e120_)
      have e122_ : F106_ 119 3 = F 119 3 := (s108_ 119 3 rfl).trans (e121_)
      have b123_ : 2 ≤ F 119 3 ∧ F 119 3 ≤ 3 := gi_g hgi rfl
      refine gVv (nY := 4) (F := 9) (L := 169) (As := [.ref b, .int (Int32.ofInt ef)]) (b := 119) (rest := []) hm_90 rfl hm_93 rfl rfl (fl_ob sc_119) rfl rfl rfl rfl rfl (by omega) (by omega) (mc_93 hG F106_ X g107_ (K) (a) (n) (b) (nb) (t) (q) (k) (l) (tl) (pl) (ps) (ee) (ef) hgK tk110_ hko (by omega) (h_a) (by omega) (by omega) ((rep_fs (rep_fs (rep_fs (rep_fs (by rw [q6_]; exact (rep_u (rep_u hl (by omega) (by omega)) (by omega) (by omega))) s23_ (fun _ => (fs_n (by omega) rfl)) (fs_n (by omega) rfl)) s64_ (fun _ => (fs_n (by omega) rfl)) (fs_n (by omega) rfl)) hf_F1 (fun _ => (fs_n (by omega) (fs_n (by omega) (fs_n (by omega) rfl)))) (fs_n (by omega) (fs_n (by omega) (fs_n (by omega) rfl)))) s108_ (fun _ => (fs_n (by omega) rfl)) (fs_n (by omega) rfl))) ((rep_fs (rep_fs (rep_fs (rep_fs (by rw [q6_]; exact (rep_u (rep_u htl (by omega) (by omega)) (by omega) (by omega))) s23_ (fun _ => (fs_n (by omega) rfl)) (fs_n (by omega) rfl)) s64_ (fun _ => (fs_n (by omega) rfl)) (fs_n (by omega) rfl)) hf_F1 (fun _ => (fs_n (by omega) (fs_n (by omega) (fs_n (by omega) rfl)))) (fs_n (by omega) (fs_n (by omega) (fs_n (by omega) rfl)))) s108_ (fun _ => (fs_n (by omega) rfl)) (fs_n (by omega) rfl))) (by omega) h_b (by omega) (by omega) ((cw_fs hcw s108_ (fun r j hj => (fs_n (by omega) rfl)))) ((rep_fs (rep_fs (rep_fs (rep_fs (by rw [q6_]; exact (rep_u (rep_u hpl (by omega) (by omega)) (by omega) (by omega))) s23_ (fun _ => (fs_n (by omega) rfl)) (fs_n (by omega) rfl)) s64_ (fun _ => (fs_n (by omega) rfl)) (fs_n (by omega) rfl)) hf_F1 (fun _ => (fs_n (by omega) (fs_n (by omega) (fs_n (by omega) rfl)))) (fs_n (by omega) (fs_n (by omega) (fs_n (by omega) rfl)))) s108_ (fun _ => (fs_n (by omega) rfl)) (fs_n (by omega) rfl))) ((prd_fs (prd_fs (prd_fs (prd_fs (by rw [q6_]; exact (prd_u (prd_u hps (by omega)) (by omega))) s23_ (fun _ _ _ => (fs_n (by omega) rfl))) s64_ (fun _ _ _ => (fs_n (by omega) rfl))) hf_F1 (fun _ _ _ => (fs_n (by omega) (fs_n (by omega) (fs_n (by omega) rfl))))) s108_ (fun _ _ _ => (fs_n (by omega) rfl)))) (hpn) (he) (by omega)) ?_ ?_
      ·
        have e128_ : F106_ b 5 = F1 b 5 := (s108_ b 5 (fs_n (by omega) rfl)).trans (rfl)
        have b129_ : 0 ≤ F1 b 5 ∧ F1 b 5 ≤ 999 := gi_g hg_F1 h_b.2.1.2.1
        rintro j_ A1_ ⟨F125_, ⟨hJ_, hA_⟩, g126_, s127_, c124_⟩
        subst hA_
        subst hJ_
        try simp only [e128_] at c124_
        refine ⟨rfl, ?_⟩
        refine gw_v ?_
        have g130_ : fs [(1, 1, 7, 8), (b, b, 4, 5), (b + 1, b + 4, 0, 100000)] F F125_ := fs_tr (fs_tr fs_refl g109_ (by simp [fs_le]; try omega)) s127_ (by simp [fs_le]; try omega)
        have b131_ : 0 ≤ F125_ 1 8 ∧ F125_ 1 8 ≤ 100000 := gi_g g126_ rfl
        exact ⟨F125_, ⟨rfl, rfl⟩, g126_, g130_, (by obtain ⟨e, c1, c2⟩ := c124_; exact ⟨e, (by rw [sp_clause, hk0]; simp only [pb]; rw [if_pos hand, hsk, hsp, spm_step (by omega) (by omega), c104_]; simp only [pb]; rw [c1]; try rfl), c2⟩)⟩
      have e133_ : F106_ b 5 = F1 b 5 := (s108_ b 5 (fs_n (by omega) rfl)).trans (rfl)
      have b134_ : 0 ≤ F1 b 5 ∧ F1 b 5 ≤ 999 := gi_g hg_F1 h_b.2.1.2.1
      rintro A1_ ⟨F138_, hA_, g139_, s140_, c135_, c136_, c137_⟩
      subst hA_
      have g141_ : fs [(1, 1, 7, 7), (b, b, 4, 5), (b + 1, b + 4, 0, 100000)] F F138_ := fs_tr g109_ s140_ (by simp [fs_le]; try omega)
      have tk142_ : tkh K F138_ := tkh_fs tk110_ s140_ (fun r k h => (fs_n (by omega) (fs_n (by omega) (fs_n (by omega) rfl)))) (fs_n (by omega) (fs_n (by omega) (fs_n (by omega) rfl)))
      try simp only [e133_] at c135_
      refine ga_inc (a := i) (c := i + 1) (lv2 := [(3, .int (Int32.ofInt (i + 1))), (0, .ref 119), (1, .ref b), (2, .int (Int32.ofInt ef))]) hm_90 rfl rfl (Nat.le_of_ble_eq_true rfl) rfl rfl ?_
      refine fl_goto hm_90 rfl ?_
      have b143_ : 0 ≤ F138_ 1 7 ∧ F138_ 1 7 ≤ 600 := gi_g g139_ rfl
      have b144_ : 0 ≤ K 1 6 ∧ K 1 6 ≤ 601 := gi_g hgK rfl
      have b145_ : 0 ≤ F138_ b 5 ∧ F138_ b 5 ≤ 999 := gi_g g139_ h_b.2.1.2.1
      exact ih69_ _ (by omega) (i + 1) F138_ rfl g139_ (fs_tr (fs_tr hf_F1 s108_ (by simp [fs_le]; try omega)) s140_ (by simp [fs_le]; try omega)) (by omega) (c137_) (by omega) (by rw [hsp, spm_step (by omega) (by omega), c104_]; simp only [pb]; rw [c135_]; simp only; rw [decide_eq_false (show ¬ i + 1 = 0 by omega)])
    refine ga_aload_n (v := .ref 119) hm_90 rfl rfl rfl ?_
    refine ga_getr (b := 1) hm_90 rfl sc_119 rfl ?_
    refine fl_iconst hm_90 rfl ?_
    refine gIi (nY := 2) (F := 0) (L := 0) (As := [.int (Int32.ofInt 0)]) (b := 1) (rest := []) hm_90 rfl hm_153 rfl rfl (fl_ob sc_1) rfl rfl rfl rfl rfl (by omega) (by omega) ?_
    intro f146_ l147_ h148_ h149_
    show fl_R xi_ms 153 f146_ l147_ 0 [(0, .ref 1), (1, .int (Int32.ofInt 0))] [] _ _
    refine ga_aload_n (v := .ref 1) hm_153 rfl rfl rfl ?_
    refine ga_getr (b := 3) hm_153 rfl sc_1 rfl ?_
    refine ga_aload_n (v := .ref 1) hm_153 rfl rfl rfl ?_
    have b150_ : 0 ≤ F1 1 7 ∧ F1 1 7 ≤ 600 := gi_g hg_F1 rfl
    refine ga_geti (z := F1 1 7) hm_153 rfl sc_1 rfl (rfl) ?_
    have e151_ : F1 3 (F1 1 7).toNat = K 3 (F1 1 7).toNat := tk73_.1 3 (F1 1 7).toNat (by omega)
    have b152_ : 0 ≤ K 3 (F1 1 7).toNat ∧ K 3 (F1 1 7).toNat ≤ 5 := gi_g hgK rfl
    refine ga_iald (z := F1 1 7) (w := K 3 (F1 1 7).toNat) hm_153 rfl sc_3 (by omega) (by omega) (by omega) (e151_) ?_
    refine ga_iload_n (z := 0) hm_153 rfl rfl ?_
    refine fx_icmp_ne (a := K 3 (F1 1 7).toNat) (b := 0) hm_153 rfl ⟨by omega, by omega⟩ ⟨by omega, by omega⟩ (fun h153_ => ?_) (fun h154_ => ?_)
    ·
      refine fl_iconst hm_153 rfl ?_
      refine gr_i hm_153 rfl rfl (ga_nb (by omega)) ?_
      clear h148_ h149_ f146_ l147_
      refine fl_if_eq hm_90 rfl ⟨by omega, by omega⟩ (fun _ => ?_) (fun h => absurd (by omega) h)
      refine ga_aload_n (v := .ref 119) hm_90 rfl rfl rfl ?_
      refine ga_getr (b := 1) hm_90 rfl sc_119 rfl ?_
      refine fl_iconst hm_90 rfl ?_
      refine gVv (nY := 2) (F := 7) (L := 121) (As := [.int (Int32.ofInt 1)]) (b := 1) (rest := []) hm_90 rfl hm_24 rfl rfl (fl_ob sc_1) rfl rfl rfl rfl rfl (by omega) (by omega) (mc_24 hG F1 X hg_F1 (K) (1) hgK tk73_ hko (by omega) (by omega)) ?_ ?_
      ·
        rintro j_ A1_ ⟨F156_, ⟨hJ_, hA_⟩, g157_, s158_, c155_⟩
        subst hA_
        subst hJ_
        refine ⟨rfl, ?_⟩
        refine gw_v ?_
        have g159_ : fs [(1, 1, 7, 8), (b, b, 4, 5), (b + 1, b + 4, 0, 100000)] F F156_ := fs_tr (fs_tr fs_refl g72_ (by simp [fs_le]; try omega)) s158_ (by simp [fs_le]; try omega)
        have b160_ : 0 ≤ F156_ 1 8 ∧ F156_ 1 8 ≤ 100000 := gi_g g157_ rfl
        exact ⟨F156_, ⟨rfl, rfl⟩, g157_, g159_, (by obtain ⟨e, c1, c2⟩ := c155_; exact ⟨e, (by rw [sp_clause, hk0]; simp only [pb]; rw [if_pos hand, hsk, hsp, spm_e (by omega) (by omega)]; simp only; rw [c1]), c2⟩)⟩
      rintro A1_ ⟨F164_, hA_, g165_, s166_, c162_, c163_⟩
      subst hA_
      have g167_ : fs [(1, 1, 7, 7), (b, b, 4, 5), (b + 1, b + 4, 0, 100000)] F F164_ := fs_tr g72_ s166_ (by simp [fs_le]; try omega)
      have tk168_ : tkh K F164_ := tkh_fs tk73_ s166_ (fun r k h => (fs_n (by omega) rfl)) (fs_n (by omega) rfl)
      refine gr_v hm_90 rfl rfl ?_
      have b169_ : 0 ≤ F164_ 1 7 ∧ F164_ 1 7 ≤ 600 := gi_g g165_ rfl
      have e170_ : F164_ b 5 = F1 b 5 := (s166_ b 5 (fs_n (by omega) rfl)).trans (rfl)
      have b171_ : 0 ≤ F1 b 5 ∧ F1 b 5 ≤ 999 := gi_g hg_F1 h_b.2.1.2.1
      exact ⟨F164_, rfl, g165_, g167_, (by rw [sp_clause, hk0]; simp only [pb]; rw [if_pos hand, hsk, hsp, spm_e (by omega) (by omega)]; simp only; rw [c162_]; simp only; rw [e170_]), (by omega), ((cw_fs hcw s166_ (fun r j hj => (fs_n (by omega) rfl))))⟩
    refine fl_iconst hm_153 rfl ?_
    refine fl_goto hm_153 rfl ?_
    refine gr_i hm_153 rfl rfl (ga_nb (by omega)) ?_
    clear h148_ h149_ f146_ l147_
    refine fl_if_eq hm_90 rfl ⟨by omega, by omega⟩ (fun h => absurd h (by omega)) (fun _ => ?_)
    refine ga_aload_n (v := .ref 119) hm_90 rfl rfl rfl ?_
    refine ga_getr (b := 1) hm_90 rfl sc_119 rfl ?_
    refine fl_iconst hm_90 rfl ?_
    refine gVv (nY := 2) (F := 7) (L := 121) (As := [.int (Int32.ofInt 0)]) (b := 1) (rest := []) hm_90 rfl hm_24 rfl rfl (fl_ob sc_1) rfl rfl rfl rfl rfl (by omega) (by omega) (mc_24 hG F1 X hg_F1 (K) (0) hgK tk73_ hko (by omega) (by omega)) ?_ ?_
    ·
      rintro j_ A1_ ⟨F173_, ⟨hJ_, hA_⟩, g174_, s175_, c172_⟩
      subst hA_
      subst hJ_
      refine ⟨rfl, ?_⟩
      refine gw_v ?_
      have g176_ : fs [(1, 1, 7, 8), (b, b, 4, 5), (b + 1, b + 4, 0, 100000)] F F173_ := fs_tr (fs_tr fs_refl g72_ (by simp [fs_le]; try omega)) s175_ (by simp [fs_le]; try omega)
      have b177_ : 0 ≤ F173_ 1 8 ∧ F173_ 1 8 ≤ 100000 := gi_g g174_ rfl
      exact ⟨F173_, ⟨rfl, rfl⟩, g174_, g176_, (by obtain ⟨e, c1, c2⟩ := c172_; exact ⟨e, (by rw [sp_clause, hk0]; simp only [pb]; rw [if_pos hand, hsk, hsp, spm_step (by omega) (by omega), c1]; try rfl), c2⟩)⟩
    rintro A1_ ⟨F181_, hA_, g182_, s183_, c179_, c180_⟩
    subst hA_
    have g184_ : fs [(1, 1, 7, 7), (b, b, 4, 5), (b + 1, b + 4, 0, 100000)] F F181_ := fs_tr g72_ s183_ (by simp [fs_le]; try omega)
    have tk185_ : tkh K F181_ := tkh_fs tk73_ s183_ (fun r k h => (fs_n (by omega) rfl)) (fs_n (by omega) rfl)
    refine ga_aload_n (v := .ref 119) hm_90 rfl rfl rfl ?_
    refine ga_aload_n (v := .ref b) hm_90 rfl rfl rfl ?_
    refine ga_iload_n (z := ef) hm_90 rfl rfl ?_
    have b186_ : 0 ≤ F181_ 1 7 ∧ F181_ 1 7 ≤ 600 := gi_g g182_ rfl
    have e187_ : F5_ 119 2 = F 119 2 := by rw [q6_]; exact (fl_u_ne (by omega)).trans (fl_u_ne (by omega))
    have e188_ : F21_ 119 2 = F 119 2 := (s23_ 119 2 rfl).trans (e187_)
    have e189_ : F62_ 119 2 = F 119 2 := (s64_ 119 2 rfl).trans (e188_)
    have e190_ : F1 119 2 = F 119 2 := (hf_F1 119 2 (fs_n (by omega) (fs_n (by omega) (fs_n (by omega) rfl)))).trans (e189_)
    have e191_ : F181_ 119 2 = F 119 2 := (s183_ 119 2 rfl).trans (e190_)
    have b192_ : 8 ≤ F 119 2 ∧ F 119 2 ≤ 105 := gi_g hgi rfl
    have e193_ : F5_ 119 3 = F 119 3 := by rw [q6_]; exact (fl_u_ne (by omega)).trans (fl_u_ne (by omega))
    have e194_ : F21_ 119 3 = F 119 3 := (s23_ 119 3 rfl).trans (e193_)
    have e195_ : F62_ 119 3 = F 119 3 := (s64_ 119 3 rfl).trans (e194_)
    have e196_ : F1 119 3 = F 119 3 := (hf_F1 119 3 (fs_n (by omega) (fs_n (by omega) (fs_n (by omega) rfl)))).trans (e195_)
    have e197_ : F181_ 119 3 = F 119 3 := (s183_ 119 3 rfl).trans (e196_)
    have b198_ : 2 ≤ F 119 3 ∧ F 119 3 ≤ 3 := gi_g hgi rfl
    refine gVv (nY := 4) (F := 9) (L := 169) (As := [.ref b, .int (Int32.ofInt ef)]) (b := 119) (rest := []) hm_90 rfl hm_93 rfl rfl (fl_ob sc_119) rfl rfl rfl rfl rfl (by omega) (by omega) (mc_93 hG F181_ X g182_ (K) (a) (n) (b) (nb) (t) (q) (k) (l) (tl) (pl) (ps) (ee) (ef) hgK tk185_ hko (by omega) (h_a) (by omega) (by omega) ((rep_fs (rep_fs (rep_fs (rep_fs (by rw [q6_]; exact (rep_u (rep_u hl (by omega) (by omega)) (by omega) (by omega))) s23_ (fun _ => (fs_n (by omega) rfl)) (fs_n (by omega) rfl)) s64_ (fun _ => (fs_n (by omega) rfl)) (fs_n (by omega) rfl)) hf_F1 (fun _ => (fs_n (by omega) (fs_n (by omega) (fs_n (by omega) rfl)))) (fs_n (by omega) (fs_n (by omega) (fs_n (by omega) rfl)))) s183_ (fun _ => (fs_n (by omega) rfl)) (fs_n (by omega) rfl))) ((rep_fs (rep_fs (rep_fs (rep_fs (by rw [q6_]; exact (rep_u (rep_u htl (by omega) (by omega)) (by omega) (by omega))) s23_ (fun _ => (fs_n (by omega) rfl)) (fs_n (by omega) rfl)) s64_ (fun _ => (fs_n (by omega) rfl)) (fs_n (by omega) rfl)) hf_F1 (fun _ => (fs_n (by omega) (fs_n (by omega) (fs_n (by omega) rfl)))) (fs_n (by omega) (fs_n (by omega) (fs_n (by omega) rfl)))) s183_ (fun _ => (fs_n (by omega) rfl)) (fs_n (by omega) rfl))) (by omega) h_b (by omega) (by omega) ((cw_fs hcw s183_ (fun r j hj => (fs_n (by omega) rfl)))) ((rep_fs (rep_fs (rep_fs (rep_fs (by rw [q6_]; exact (rep_u (rep_u hpl (by omega) (by omega)) (by omega) (by omega))) s23_ (fun _ => (fs_n (by omega) rfl)) (fs_n (by omega) rfl)) s64_ (fun _ => (fs_n (by omega) rfl)) (fs_n (by omega) rfl)) hf_F1 (fun _ => (fs_n (by omega) (fs_n (by omega) (fs_n (by omega) rfl)))) (fs_n (by omega) (fs_n (by omega) (fs_n (by omega) rfl)))) s183_ (fun _ => (fs_n (by omega) rfl)) (fs_n (by omega) rfl))) ((prd_fs (prd_fs (prd_fs (prd_fs (by rw [q6_]; exact (prd_u (prd_u hps (by omega)) (by omega))) s23_ (fun _ _ _ => (fs_n (by omega) rfl))) s64_ (fun _ _ _ => (fs_n (by omega) rfl))) hf_F1 (fun _ _ _ => (fs_n (by omega) (fs_n (by omega) (fs_n (by omega) rfl))))) s183_ (fun _ _ _ => (fs_n (by omega) rfl)))) (hpn) (he) (by omega)) ?_ ?_
    ·
      have e203_ : F181_ b 5 = F1 b 5 := (s183_ b 5 (fs_n (by omega) rfl)).trans (rfl)
      have b204_ : 0 ≤ F1 b 5 ∧ F1 b 5 ≤ 999 := gi_g hg_F1 h_b.2.1.2.1
      rintro j_ A1_ ⟨F200_, ⟨hJ_, hA_⟩, g201_, s202_, c199_⟩
      subst hA_
      subst hJ_
      try simp only [e203_] at c199_
      refine ⟨rfl, ?_⟩
      refine gw_v ?_
      have g205_ : fs [(1, 1, 7, 8), (b, b, 4, 5), (b + 1, b + 4, 0, 100000)] F F200_ := fs_tr (fs_tr fs_refl g184_ (by simp [fs_le]; try omega)) s202_ (by simp [fs_le]; try omega)
      have b206_ : 0 ≤ F200_ 1 8 ∧ F200_ 1 8 ≤ 100000 := gi_g g201_ rfl
      exact ⟨F200_, ⟨rfl, rfl⟩, g201_, g205_, (by obtain ⟨e, c1, c2⟩ := c199_; exact ⟨e, (by rw [sp_clause, hk0]; simp only [pb]; rw [if_pos hand, hsk, hsp, spm_step (by omega) (by omega), c179_]; simp only [pb]; rw [c1]; try rfl), c2⟩)⟩
    have e208_ : F181_ b 5 = F1 b 5 := (s183_ b 5 (fs_n (by omega) rfl)).trans (rfl)
    have b209_ : 0 ≤ F1 b 5 ∧ F1 b 5 ≤ 999 := gi_g hg_F1 h_b.2.1.2.1
    rintro A1_ ⟨F213_, hA_, g214_, s215_, c210_, c211_, c212_⟩
    subst hA_
    have g216_ : fs [(1, 1, 7, 7), (b, b, 4, 5), (b + 1, b + 4, 0, 100000)] F F213_ := fs_tr g184_ s215_ (by simp [fs_le]; try omega)
    have tk217_ : tkh K F213_ := tkh_fs tk185_ s215_ (fun r k h => (fs_n (by omega) (fs_n (by omega) (fs_n (by omega) rfl)))) (fs_n (by omega) (fs_n (by omega) (fs_n (by omega) rfl)))
    try simp only [e208_] at c210_
    refine ga_inc (a := i) (c := i + 1) (lv2 := [(3, .int (Int32.ofInt (i + 1))), (0, .ref 119), (1, .ref b), (2, .int (Int32.ofInt ef))]) hm_90 rfl rfl (Nat.le_of_ble_eq_true rfl) rfl rfl ?_
    refine fl_goto hm_90 rfl ?_
    have b218_ : 0 ≤ F213_ 1 7 ∧ F213_ 1 7 ≤ 600 := gi_g g214_ rfl
    have b219_ : 0 ≤ K 1 6 ∧ K 1 6 ≤ 601 := gi_g hgK rfl
    have b220_ : 0 ≤ F213_ b 5 ∧ F213_ b 5 ≤ 999 := gi_g g214_ h_b.2.1.2.1
    exact ih69_ _ (by omega) (i + 1) F213_ rfl g214_ (fs_tr (fs_tr hf_F1 s183_ (by simp [fs_le]; try omega)) s215_ (by simp [fs_le]; try omega)) (by omega) (c212_) (by omega) (by rw [hsp, spm_step (by omega) (by omega), c179_]; simp only [pb]; rw [c210_]; simp only; rw [decide_eq_false (show ¬ i + 1 = 0 by omega)])
  have b221_ : 0 ≤ K 1 6 ∧ K 1 6 ≤ 601 := gi_g hgK rfl
  have e222_ : F5_ b 5 = 0 := by rw [q6_]; exact fl_u_eq
  have e223_ : F21_ b 5 = 0 := (s23_ b 5 (fs_n (by omega) rfl)).trans (e222_)
  have e224_ : F62_ b 5 = 0 := (s64_ b 5 (fs_n (by omega) rfl)).trans (e223_)
  have e225_ : F5_ b 4 = 0 := by rw [q6_]; exact (fl_u_ne (by omega)).trans (fl_u_eq)
  have e226_ : F21_ b 4 = 0 := (s23_ b 4 (fs_n (by omega) rfl)).trans (e225_)
  have e227_ : F62_ b 4 = 0 := (s64_ b 4 (fs_n (by omega) rfl)).trans (e226_)
  exact L68_ _ (0) F62_ rfl g63_ fs_refl (by omega) (cw_nil e227_) (by omega) (by rw [e224_]; rfl)

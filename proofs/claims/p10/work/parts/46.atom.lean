theorem spa_go {K : fl_N} {k p z : Int} {l tl pl t : List Int} {ps : List (List Int)} (hk : K 3 p.toNat = 2) (hz : idx pl (K 6 p.toNat) = z) (h0 : 0 ≤ z) (ht : ps.getD z.toNat [] = t) : sp_atom K k l tl pl ps p = pb (if 0 < t.length then sp_term K k l tl (t.getD 0 0) (sk K p) else .inr (sk K p)) fun p => pb (if 1 < t.length then sp_term K k l tl (t.getD 1 0) p else .inr p) fun p => sp_kind K 1 p := by
  unfold sp_atom
  rw [if_pos hk, hz, if_neg (by omega), ht]
theorem pw_10 : ∀ k : Nat, k < 4 → (10 : Int) ^ k ≤ 1000 := by decide
theorem dg_m {v i s : Int} (h0 : 0 ≤ v) (h : v < 10 ^ (i - s).toNat) (hi : i - s ≤ 3) : 0 ≤ v ∧ v ≤ 999 := by
  have h1 := pw_10 (i - s).toNat (by omega)
  omega
theorem dg_b {v c i s : Int} (h0 : 0 ≤ v) (h : v < 10 ^ (i - s).toNat) (hs : s ≤ i) (hc : 48 ≤ c) (hc2 : c ≤ 57) : 0 ≤ 10 * v + c - 48 ∧ 10 * v + c - 48 < 10 ^ (i + 1 - s).toNat := by
  rw [show (i + 1 - s).toNat = (i - s).toNat + 1 by omega, Int.pow_succ]
  omega
theorem dg_step {f : Nat → Int} {i e v : Int} (h0 : 0 ≤ i) (h : i < e) (hc : 48 ≤ f i.toNat ∧ f i.toNat ≤ 57) : dgo f i.toNat (e - i).toNat v = dgo f (i + 1).toNat (e - (i + 1)).toNat (v * 10 + (f i.toNat - 48)) := by
  rw [show (e - i).toNat = (e - (i + 1)).toNat + 1 by omega, show (i + 1).toNat = i.toNat + 1 by omega]
  conv => lhs; unfold dgo
  rw [if_pos hc]
theorem dg_bad {f : Nat → Int} {i e v : Int} (h : i < e) (hc : ¬ (48 ≤ f i.toNat ∧ f i.toNat ≤ 57)) : dgo f i.toNat (e - i).toNat v = 0 := by
  rw [show (e - i).toNat = (e - (i + 1)).toNat + 1 by omega]
  unfold dgo
  rw [if_neg hc]
theorem dg_end {f : Nat → Int} {i e v : Int} (h : e ≤ i) : dgo f i.toNat (e - i).toNat v = v := by
  rw [show (e - i).toNat = 0 by omega]
  rfl

/- CheapPlanner$ClauseReader.readAtom -/
abbrev pq_88 (G : Nat → Nat → Option Nat) (F : fl_N) (X : xi_H) (K : fl_N) (a n b nb : Nat) (t q k : Int) (l tl pl : List Int) (ps : List (List Int)) (nt : Int) (L : List lt_T) : Outcome → xi_H → Prop := gqv (fun A => ∃ F' : fl_N, fl_H sh_T G F' ++ X = A ∧ gi F' ∧ fs [(1, 1, 7, 7), (b, b, 4, 4), (b + 1, b + 4, 0, 100000)] F F' ∧ (sp_atom K k l tl pl ps (F 1 7) = .inr (F' 1 7)) ∧ (0 ≤ F' 1 7 ∧ F' 1 7 ≤ K 1 6 - 1) ∧ (cw F' b (l.length : Int)) ∧ (clr F' b (L ++ [at_d K l pl ps nt (F 1 7)]))) (fun j A => ∃ F' : fl_N, (387 + X.length = j ∧ fl_H sh_T G F' ++ (X ++ [gx 14]) = A) ∧ gi F' ∧ fs [(1, 1, 7, 8), (b, b, 4, 4), (b + 1, b + 4, 0, 100000)] F F' ∧ (∃ e, sp_atom K k l tl pl ps (F 1 7) = .inl e ∧ F' 1 8 = e.1 + 10 * e.2))
theorem mc_88 {G : Nat → Nat → Option Nat} (hG : gg G) (F : fl_N) (X : xi_H) (hgi : gi F) (K : fl_N) (a n b nb : Nat) (t q k : Int) (l tl pl : List Int) (ps : List (List Int)) (nt : Int) (L : List lt_T) (hgK : gi K) (hK : tkh K F) (hko : tko K) (hp : 0 ≤ F 1 7 ∧ F 1 7 ≤ K 1 6 - 1) (h_a : nm a n) (hta : F 119 2 = (a : Int)) (htk2 : F 119 3 = k) (hl : rep (F (a + 1)) (F a 2) l) (htl : rep (F (a + 2)) (F a 2) tl) (hk : 2 ≤ k ∧ k ≤ 3) (h_b : cl b nb t q) (hab : a + 2 < b) (hnt2 : (n : Int) ≤ t + 1) (hcw : cw F b (l.length : Int)) (hpl : rep (F 12) (F 11 2) pl) (hps : prd F ps) (hpn : pl.length = ps.length) (hnt : nt = 0 ∨ nt = 1) (hcr : clr F b L) (hrm : (L.length : Int) < (nb : Int)) : fl_M xi_ms 88 8 143 [.ref 119, .ref b, .int (Int32.ofInt nt)] (fl_H sh_T G F ++ X) (pq_88 G F X K a n b nb t q k l tl pl ps nt L) := by
  intro fr lo hfr hlo
  show fl_R xi_ms 88 fr lo 0 [(0, .ref 119), (1, .ref b), (2, .int (Int32.ofInt nt))] [] _ _
  have hl1 := hl.1
  have htl1 := htl.1
  have hpl1 := hpl.1
  have hr_a := h_a.2.2
  have hr_b := h_b.2.2
  refine ga_aload_n (v := .ref 119) hm_88 rfl rfl rfl ?_
  refine ga_getr (b := 1) hm_88 rfl sc_119 rfl ?_
  refine fl_iconst hm_88 rfl ?_
  refine gIi (nY := 2) (F := 0) (L := 0) (As := [.int (Int32.ofInt 2)]) (b := 1) (rest := []) hm_88 rfl hm_153 rfl rfl (fl_ob sc_1) rfl rfl rfl rfl rfl (by omega) (by omega) ?_
  intro f1_ l2_ h3_ h4_
  show fl_R xi_ms 153 f1_ l2_ 0 [(0, .ref 1), (1, .int (Int32.ofInt 2))] [] _ _
  refine ga_aload_n (v := .ref 1) hm_153 rfl rfl rfl ?_
  refine ga_getr (b := 3) hm_153 rfl sc_1 rfl ?_
  refine ga_aload_n (v := .ref 1) hm_153 rfl rfl rfl ?_
  have b5_ : 0 ≤ F 1 7 ∧ F 1 7 ≤ 600 := gi_g hgi rfl
  refine ga_geti (z := F 1 7) hm_153 rfl sc_1 rfl (rfl) ?_
  have e6_ : F 3 (F 1 7).toNat = K 3 (F 1 7).toNat := hK.1 3 (F 1 7).toNat (by omega)
  have b7_ : 0 ≤ K 3 (F 1 7).toNat ∧ K 3 (F 1 7).toNat ≤ 5 := gi_g hgK rfl
  refine ga_iald (z := F 1 7) (w := K 3 (F 1 7).toNat) hm_153 rfl sc_3 (by omega) (by omega) (by omega) (e6_) ?_
  refine ga_iload_n (z := 2) hm_153 rfl rfl ?_
  refine fx_icmp_ne (a := K 3 (F 1 7).toNat) (b := 2) hm_153 rfl ⟨by omega, by omega⟩ ⟨by omega, by omega⟩ (fun h8_ => ?_) (fun h9_ => ?_)
  ·
    refine fl_iconst hm_153 rfl ?_
    refine gr_i hm_153 rfl rfl (ga_nb (by omega)) ?_
    clear h3_ h4_ f1_ l2_
    refine fl_if_ne hm_88 rfl ⟨by omega, by omega⟩ (fun h => absurd h (by omega)) (fun _ => ?_)
    refine ga_aload_n (v := .ref 119) hm_88 rfl rfl rfl ?_
    refine ga_getr (b := 1) hm_88 rfl sc_119 rfl ?_
    refine fl_iconst hm_88 rfl ?_
    refine gIv (nY := 2) (F := 6) (L := 100) (As := [.int (Int32.ofInt 1)]) (b := 1) (rest := []) hm_88 rfl hm_25 rfl rfl (fl_ob sc_1) rfl rfl rfl rfl rfl (by omega) (by omega) ?_
    intro f10_ l11_ h12_ h13_
    show fl_R xi_ms 25 f10_ l11_ 0 [(0, .ref 1), (1, .int (Int32.ofInt 1))] [] _ _
    refine ga_aload_n (v := .ref 1) hm_25 rfl rfl rfl ?_
    refine ga_iload_n (z := 1) hm_25 rfl rfl ?_
    refine fl_bipush hm_25 rfl rfl ?_
    refine ga_aload_n (v := .ref 1) hm_25 rfl rfl rfl ?_
    refine ga_getr (b := 4) hm_25 rfl sc_1 rfl ?_
    refine ga_aload_n (v := .ref 1) hm_25 rfl rfl rfl ?_
    refine ga_geti (z := F 1 7) hm_25 rfl sc_1 rfl (rfl) ?_
    have e14_ : F 4 (F 1 7).toNat = K 4 (F 1 7).toNat := hK.1 4 (F 1 7).toNat (by omega)
    have b15_ : 0 ≤ K 4 (F 1 7).toNat ∧ K 4 (F 1 7).toNat ≤ 600 := gi_g hgK rfl
    refine ga_iald (z := F 1 7) (w := K 4 (F 1 7).toNat) hm_25 rfl sc_4 (by omega) (by omega) (by omega) (e14_) ?_
    refine ga_imul (a := 10) (b := K 4 (F 1 7).toNat) (c := 10 * (K 4 (F 1 7).toNat)) hm_25 rfl (by omega) ?_
    refine ga_iadd (a := 1) (b := 10 * (K 4 (F 1 7).toNat)) (c := 10 * (K 4 (F 1 7).toNat) + 1) hm_25 rfl (by omega) ?_
    refine ga_puti (z := 10 * (K 4 (F 1 7).toNat) + 1) hm_25 rfl sc_1 rfl rfl ?_
    obtain ⟨F16_, q17_⟩ : ∃ F9_, F9_ = (fl_u F 1 8 (10 * (K 4 (F 1 7).toNat) + 1)) := ⟨_, rfl⟩
    rw [← q17_]
    have g18_ : gi F16_ := by rw [q17_]; exact gi_u (hgi) rfl (by omega) (by omega)
    have g19_ : fs [(1, 1, 7, 8), (b, b, 4, 4), (b + 1, b + 4, 0, 100000)] F F16_ := by rw [q17_]; exact fs_u (fs_refl) (fs_y (by omega))
    have tk20_ : tkh K F16_ := by rw [q17_]; exact tkh_u (hK) (by omega) (by omega)
    refine fl_thr hm_25 rfl rfl (by omega) (by omega) (Nat.le_of_ble_eq_true rfl) (fl_pos sc_0) ?_
    refine gw_v ⟨rfl, ?_⟩
    refine gw_v ?_
    have e21_ : F16_ 1 8 = 10 * (K 4 (F 1 7).toNat) + 1 := by rw [q17_]; exact fl_u_eq
    exact ⟨F16_, ⟨ga_len.symm, (List.append_assoc _ _ _).symm⟩, g18_, g19_, (⟨(1, K 4 (F 1 7).toNat), by simp [sp_atom, pf, pb, h8_, e21_]; try first | omega | ((repeat' split) <;> first | rfl | (exfalso; omega) | omega), by show _ = (1 : Int) + 10 * K 4 (F 1 7).toNat; omega⟩)⟩
  refine fl_iconst hm_153 rfl ?_
  refine fl_goto hm_153 rfl ?_
  refine gr_i hm_153 rfl rfl (ga_nb (by omega)) ?_
  clear h3_ h4_ f1_ l2_
  refine fl_if_ne hm_88 rfl ⟨by omega, by omega⟩ (fun _ => ?_) (fun h => absurd (by omega) h)
  refine ga_aload_n (v := .ref 119) hm_88 rfl rfl rfl ?_
  refine ga_getr (b := 7) hm_88 rfl sc_119 rfl ?_
  refine ga_getr (b := 11) hm_88 rfl sc_7 rfl ?_
  refine ga_aload_n (v := .ref 119) hm_88 rfl rfl rfl ?_
  refine ga_getr (b := 1) hm_88 rfl sc_119 rfl ?_
  refine gIl (nY := 1) (F := 0) (L := 0) (As := []) (b := 1) (rest := [.ref 11]) hm_88 rfl hm_149 rfl rfl (fl_ob sc_1) rfl rfl rfl rfl rfl (by omega) (by omega) ?_
  intro f22_ l23_ h24_ h25_
  show fl_R xi_ms 149 f22_ l23_ 0 [(0, .ref 1)] [] _ _
  refine ga_aload_n (v := .ref 1) hm_149 rfl rfl rfl ?_
  refine ga_getr (b := 6) hm_149 rfl sc_1 rfl ?_
  refine ga_aload_n (v := .ref 1) hm_149 rfl rfl rfl ?_
  refine ga_geti (z := F 1 7) hm_149 rfl sc_1 rfl (rfl) ?_
  have e26_ : F 6 (F 1 7).toNat = K 6 (F 1 7).toNat := hK.1 6 (F 1 7).toNat (by omega)
  have b27_ : -9223372036854775808 ≤ K 6 (F 1 7).toNat ∧ K 6 (F 1 7).toNat ≤ 9223372036854775807 := gi_g hgK rfl
  refine ga_lald (z := F 1 7) (w := K 6 (F 1 7).toNat) hm_149 rfl sc_6 (by omega) (by omega) (by omega) (e26_) ?_
  refine gr_l hm_149 rfl rfl ?_
  clear h24_ h25_ f22_ l23_
  refine gVi (nY := 4) (F := 0) (L := 0) (As := [.long (Int64.ofInt (K 6 (F 1 7).toNat))]) (b := 11) (rest := []) hm_88 rfl hm_109 rfl rfl (fl_ob sc_11) rfl rfl rfl rfl rfl (by omega) (by omega) (mc_109 hG F X hgi (11) (6) (K 6 (F 1 7).toNat) (pl) nm_11 (by omega) (hpl)) (fun _ _ h => False.elim h) ?_
  rintro z28_ A1_ ⟨hA_, c29_, c30_⟩
  subst hA_
  refine ga_istore_n (lv2 := [(3, .int (Int32.ofInt z28_)), (0, .ref 119), (1, .ref b), (2, .int (Int32.ofInt nt))]) hm_88 rfl (Nat.le_of_ble_eq_true rfl) rfl ?_
  refine ga_iload_n (z := z28_) hm_88 rfl rfl ?_
  refine fl_if_ge (a := z28_) hm_88 rfl ⟨by omega, by omega⟩ (fun h31_ => ?_) (fun h32_ => ?_)
  ·
    refine ga_aload_n (v := .ref 119) hm_88 rfl rfl rfl ?_
    refine ga_getr (b := 1) hm_88 rfl sc_119 rfl ?_
    refine gVv (nY := 1) (F := 0) (L := 0) (As := []) (b := 1) (rest := []) hm_88 rfl hm_154 rfl rfl (fl_ob sc_1) rfl rfl rfl rfl rfl (by omega) (by omega) (mc_154 hG F X hgi (K) hgK hK hko (by omega)) (fun _ _ h => False.elim h) ?_
    rintro A1_ ⟨F36_, hA_, g37_, s38_, c34_, c35_⟩
    subst hA_
    have g39_ : fs [(1, 1, 7, 7), (b, b, 4, 4), (b + 1, b + 4, 0, 100000)] F F36_ := fs_tr fs_refl s38_ (by simp [fs_le]; try omega)
    have tk40_ : tkh K F36_ := tkh_fs hK s38_ (fun r k h => (fs_n (by omega) rfl)) (fs_n (by omega) rfl)
    refine ga_aload_n (v := .ref 119) hm_88 rfl rfl rfl ?_
    refine ga_getr (b := 7) hm_88 rfl sc_119 rfl ?_
    refine ga_getr (b := 14) hm_88 rfl sc_7 rfl ?_
    refine ga_iload_n (z := z28_) hm_88 rfl rfl ?_
    obtain ⟨a41_, r42_, n43_, q44_⟩ := ra_14 (z28_).toNat (by omega)
    refine fl_aald (z := z28_) (q := a41_) hm_88 rfl sc_14 (hG _ _ _ sc_14) rfl (by omega) (by simp only [List.length_cons, List.length_nil]; omega) (by simp only [List.length_cons, List.length_nil]; omega) r42_ ?_
    have hpz := hps (z28_).toNat (by omega)
    rw [← q44_] at hpz
    have hpz1 := hpz.1
    have hg0 : 0 < F a41_ 2 → (ps.getD (z28_).toNat []).getD 0 0 = F (a41_ + 2) 0 := fun h => (rep_get hpz (j := 0) (by omega)).symm
    have hg1 : 1 < F a41_ 2 → (ps.getD (z28_).toNat []).getD 1 0 = F (a41_ + 2) 1 := fun h => (rep_get hpz (j := 1) (by omega)).symm
    refine ga_astore (lv2 := [(4, .ref a41_), (3, .int (Int32.ofInt z28_)), (0, .ref 119), (1, .ref b), (2, .int (Int32.ofInt nt))]) hm_88 rfl (Nat.le_of_ble_eq_true rfl) rfl ?_
    refine ga_aload (v := .ref a41_) hm_88 rfl rfl rfl ?_
    have e45_ : F36_ a41_ 2 = F a41_ 2 := (s38_ a41_ 2 (fs_n (by omega) rfl)).trans (rfl)
    have b46_ : 0 ≤ F a41_ 2 ∧ F a41_ 2 ≤ (2 : Int) := gi_g hgi n43_.2.1.1
    refine ga_geti (z := F a41_ 2) hm_88 rfl n43_.1.1 rfl (e45_) ?_
    refine fl_if_le (a := F a41_ 2) hm_88 rfl ⟨by omega, by omega⟩ (fun h47_ => ?_) (fun h48_ => ?_)
    ·
      refine fl_iconst hm_88 rfl ?_
      refine ga_istore (lv2 := [(5, .int (Int32.ofInt (-1))), (4, .ref a41_), (3, .int (Int32.ofInt z28_)), (0, .ref 119), (1, .ref b), (2, .int (Int32.ofInt nt))]) hm_88 rfl (Nat.le_of_ble_eq_true rfl) rfl ?_
      refine ga_aload (v := .ref a41_) hm_88 rfl rfl rfl ?_
      refine ga_geti (z := F a41_ 2) hm_88 rfl n43_.1.1 rfl (e45_) ?_
      refine fl_iconst hm_88 rfl ?_
      refine fl_icmp_le (a := F a41_ 2) (b := 1) hm_88 rfl ⟨by omega, by omega⟩ ⟨by omega, by omega⟩ (fun h49_ => ?_) (fun h50_ => ?_)
      ·
        refine fl_iconst hm_88 rfl ?_
        refine ga_istore (lv2 := [(6, .int (Int32.ofInt (-1))), (5, .int (Int32.ofInt (-1))), (4, .ref a41_), (3, .int (Int32.ofInt z28_)), (0, .ref 119), (1, .ref b), (2, .int (Int32.ofInt nt))]) hm_88 rfl (Nat.le_of_ble_eq_true rfl) rfl ?_
        refine ga_aload_n (v := .ref 119) hm_88 rfl rfl rfl ?_
        refine ga_getr (b := 1) hm_88 rfl sc_119 rfl ?_
        refine fl_iconst hm_88 rfl ?_
        have b51_ : 0 ≤ F36_ 1 7 ∧ F36_ 1 7 ≤ 600 := gi_g g37_ rfl
        refine gVv (nY := 2) (F := 7) (L := 121) (As := [.int (Int32.ofInt 1)]) (b := 1) (rest := []) hm_88 rfl hm_24 rfl rfl (fl_ob sc_1) rfl rfl rfl rfl rfl (by omega) (by omega) (mc_24 hG F36_ X g37_ (K) (1) hgK tk40_ hko (by omega) (by omega)) ?_ ?_
        ·
          rintro j_ A1_ ⟨F53_, ⟨hJ_, hA_⟩, g54_, s55_, c52_⟩
          subst hA_
          subst hJ_
          refine ⟨rfl, ?_⟩
          refine gw_v ?_
          have g56_ : fs [(1, 1, 7, 8), (b, b, 4, 4), (b + 1, b + 4, 0, 100000)] F F53_ := fs_tr (fs_tr fs_refl g39_ (by simp [fs_le]; try omega)) s55_ (by simp [fs_le]; try omega)
          have b57_ : 0 ≤ F53_ 1 8 ∧ F53_ 1 8 ≤ 100000 := gi_g g54_ rfl
          exact ⟨F53_, ⟨rfl, rfl⟩, g54_, g56_, (by obtain ⟨e, c1, c2⟩ := c52_; exact ⟨e, (by rw [spa_go (by assumption) c29_ (by omega) rfl, c34_]; rw [if_neg (by omega)]; simp only [pb]; rw [if_neg (by omega)]; simp only [pb]; rw [c1]), c2⟩)⟩
        rintro A1_ ⟨F61_, hA_, g62_, s63_, c59_, c60_⟩
        subst hA_
        have g64_ : fs [(1, 1, 7, 7), (b, b, 4, 4), (b + 1, b + 4, 0, 100000)] F F61_ := fs_tr g39_ s63_ (by simp [fs_le]; try omega)
        have tk65_ : tkh K F61_ := tkh_fs tk40_ s63_ (fun r k h => (fs_n (by omega) rfl)) (fs_n (by omega) rfl)
        refine ga_aload_n (v := .ref b) hm_88 rfl rfl rfl ?_
        refine ga_iload_n (z := z28_) hm_88 rfl rfl ?_
        refine ga_iload_n (z := nt) hm_88 rfl rfl ?_
        refine ga_iload (z := -1) hm_88 rfl rfl ?_
        refine ga_iload (z := -1) hm_88 rfl rfl ?_
        refine gVv (nY := 5) (F := 0) (L := 0) (As := [.int (Int32.ofInt z28_), .int (Int32.ofInt nt), .int (Int32.ofInt (-1)), .int (Int32.ofInt (-1))]) (b := b) (rest := []) hm_88 rfl hm_86 rfl rfl (fl_ob h_b.1.1) rfl rfl rfl rfl rfl (by omega) (by omega) (mc_86 hG F61_ X g62_ (b) (nb) (t) (q) (z28_) (nt) (-1) (-1) ((l.length : Int)) (L) h_b (by omega) (by omega) (by omega) (by omega) (fun h => absurd h (by omega)) ((cw_fs (cw_fs hcw s38_ (fun r j hj => (fs_n (by omega) rfl))) s63_ (fun r j hj => (fs_n (by omega) rfl)))) ((clr_fs (clr_fs hcr s38_ (fun r j hj => (fs_n (by omega) rfl))) s63_ (fun r j hj => (fs_n (by omega) rfl)))) (hrm)) (fun _ _ h => False.elim h) ?_
        rintro A1_ ⟨F69_, hA_, g70_, s71_, c67_, c68_⟩
        subst hA_
        have g72_ : fs [(1, 1, 7, 7), (b, b, 4, 4), (b + 1, b + 4, 0, 100000)] F F69_ := fs_tr g64_ s71_ (by simp [fs_le]; try omega)
        have tk73_ : tkh K F69_ := tkh_fs tk65_ s71_ (fun r k h => (fs_n (by omega) (fs_n (by omega) rfl))) (fs_n (by omega) (fs_n (by omega) rfl))
        refine gr_v hm_88 rfl rfl ?_
        have e74_ : F69_ 1 7 = F61_ 1 7 := (s71_ 1 7 (fs_n (by omega) (fs_n (by omega) rfl))).trans (rfl)
        have b75_ : 0 ≤ F61_ 1 7 ∧ F61_ 1 7 ≤ 600 := gi_g g62_ rfl
        exact ⟨F69_, rfl, g70_, g72_, (by rw [spa_go (by assumption) c29_ (by omega) rfl, c34_]; rw [if_neg (by omega)]; simp only [pb]; rw [if_neg (by omega)]; simp only [pb]; rw [c59_]; rw [e74_]), (by omega), (c67_), (clr_eq c68_ (by rw [at_dd (p2 := 0) c29_ rfl c34_ (Or.inr ⟨by omega, rfl⟩) (Or.inr ⟨by omega, rfl⟩)]))⟩
      exfalso; omega
    refine ga_aload_n (v := .ref 119) hm_88 rfl rfl rfl ?_
    refine ga_aload (v := .ref a41_) hm_88 rfl rfl rfl ?_
    refine ga_getr (b := a41_ + 2) hm_88 rfl n43_.1.1 rfl ?_
    refine fl_iconst hm_88 rfl ?_
    have e76_ : F36_ (a41_ + 2) 0 = F (a41_ + 2) 0 := (s38_ (a41_ + 2) 0 (fs_n (by omega) rfl)).trans (rfl)
    have b77_ : -1 ≤ F (a41_ + 2) 0 ∧ F (a41_ + 2) 0 ≤ 3 := gi_g hgi (gb_a n43_.2.1.2.1)
    refine ga_iald (z := 0) (w := F (a41_ + 2) 0) hm_88 rfl n43_.1.2.2 (by omega) (by omega) (by omega) (e76_) ?_
    have b78_ : 0 ≤ F36_ 1 7 ∧ F36_ 1 7 ≤ 600 := gi_g g37_ rfl
    have e79_ : F36_ 119 2 = F 119 2 := (s38_ 119 2 rfl).trans (rfl)
    have b80_ : 8 ≤ F 119 2 ∧ F 119 2 ≤ 105 := gi_g hgi rfl
    have e81_ : F36_ 119 3 = F 119 3 := (s38_ 119 3 rfl).trans (rfl)
    have b82_ : 2 ≤ F 119 3 ∧ F 119 3 ≤ 3 := gi_g hgi rfl
    refine gVi (nY := 3) (F := 7) (L := 121) (As := [.int (Int32.ofInt (F (a41_ + 2) 0))]) (b := 119) (rest := []) hm_88 rfl hm_94 rfl rfl (fl_ob sc_119) rfl rfl rfl rfl rfl (by omega) (by omega) (mc_94 hG F36_ X g37_ (K) (a) (n) (k) (F (a41_ + 2) 0) (l) (tl) hgK tk40_ hko (by omega) (h_a) (by omega) (by omega) ((rep_fs hl s38_ (fun _ => (fs_n (by omega) rfl)) (fs_n (by omega) rfl))) ((rep_fs htl s38_ (fun _ => (fs_n (by omega) rfl)) (fs_n (by omega) rfl))) (by omega) (hk)) ?_ ?_
    ·
      rintro j_ A1_ ⟨F84_, ⟨hJ_, hA_⟩, g85_, s86_, c83_⟩
      subst hA_
      subst hJ_
      refine ⟨rfl, ?_⟩
      refine gw_v ?_
      have g87_ : fs [(1, 1, 7, 8), (b, b, 4, 4), (b + 1, b + 4, 0, 100000)] F F84_ := fs_tr (fs_tr fs_refl g39_ (by simp [fs_le]; try omega)) s86_ (by simp [fs_le]; try omega)
      have b88_ : 0 ≤ F84_ 1 8 ∧ F84_ 1 8 ≤ 100000 := gi_g g85_ rfl
      exact ⟨F84_, ⟨rfl, rfl⟩, g85_, g87_, (by obtain ⟨e, c1, c2⟩ := c83_; exact ⟨e, (by rw [spa_go (by assumption) c29_ (by omega) rfl, c34_]; rw [if_pos (by omega), hg0 (by omega), c1]; try rfl), c2⟩)⟩
    rintro z89_ A1_ ⟨F95_, hA_, g96_, s97_, c90_, c91_, c92_, c93_, c94_⟩
    subst hA_
    have g98_ : fs [(1, 1, 7, 7), (b, b, 4, 4), (b + 1, b + 4, 0, 100000)] F F95_ := fs_tr g39_ s97_ (by simp [fs_le]; try omega)
    have tk99_ : tkh K F95_ := tkh_fs tk40_ s97_ (fun r k h => (fs_n (by omega) rfl)) (fs_n (by omega) rfl)
    refine fl_goto hm_88 rfl ?_
    refine ga_istore (lv2 := [(5, .int (Int32.ofInt z89_)), (4, .ref a41_), (3, .int (Int32.ofInt z28_)), (0, .ref 119), (1, .ref b), (2, .int (Int32.ofInt nt))]) hm_88 rfl (Nat.le_of_ble_eq_true rfl) rfl ?_
    refine ga_aload (v := .ref a41_) hm_88 rfl rfl rfl ?_
    have e100_ : F95_ a41_ 2 = F a41_ 2 := (s97_ a41_ 2 (fs_n (by omega) rfl)).trans (e45_)
    refine ga_geti (z := F a41_ 2) hm_88 rfl n43_.1.1 rfl (e100_) ?_
    refine fl_iconst hm_88 rfl ?_
    refine fl_icmp_le (a := F a41_ 2) (b := 1) hm_88 rfl ⟨by omega, by omega⟩ ⟨by omega, by omega⟩ (fun h101_ => ?_) (fun h102_ => ?_)
    ·
      refine fl_iconst hm_88 rfl ?_
      refine ga_istore (lv2 := [(6, .int (Int32.ofInt (-1))), (5, .int (Int32.ofInt z89_)), (4, .ref a41_), (3, .int (Int32.ofInt z28_)), (0, .ref 119), (1, .ref b), (2, .int (Int32.ofInt nt))]) hm_88 rfl (Nat.le_of_ble_eq_true rfl) rfl ?_
      refine ga_aload_n (v := .ref 119) hm_88 rfl rfl rfl ?_
      refine ga_getr (b := 1) hm_88 rfl sc_119 rfl ?_
      refine fl_iconst hm_88 rfl ?_
      have b103_ : 0 ≤ F95_ 1 7 ∧ F95_ 1 7 ≤ 600 := gi_g g96_ rfl
      refine gVv (nY := 2) (F := 7) (L := 121) (As := [.int (Int32.ofInt 1)]) (b := 1) (rest := []) hm_88 rfl hm_24 rfl rfl (fl_ob sc_1) rfl rfl rfl rfl rfl (by omega) (by omega) (mc_24 hG F95_ X g96_ (K) (1) hgK tk99_ hko (by omega) (by omega)) ?_ ?_
      ·
        rintro j_ A1_ ⟨F105_, ⟨hJ_, hA_⟩, g106_, s107_, c104_⟩
        subst hA_
        subst hJ_
        refine ⟨rfl, ?_⟩
        refine gw_v ?_
        have g108_ : fs [(1, 1, 7, 8), (b, b, 4, 4), (b + 1, b + 4, 0, 100000)] F F105_ := fs_tr (fs_tr fs_refl g98_ (by simp [fs_le]; try omega)) s107_ (by simp [fs_le]; try omega)
        have b109_ : 0 ≤ F105_ 1 8 ∧ F105_ 1 8 ≤ 100000 := gi_g g106_ rfl
        exact ⟨F105_, ⟨rfl, rfl⟩, g106_, g108_, (by obtain ⟨e, c1, c2⟩ := c104_; exact ⟨e, (by rw [spa_go (by assumption) c29_ (by omega) rfl, c34_]; rw [if_pos (by omega), hg0 (by omega), c90_]; simp only [pb]; rw [if_neg (by omega)]; simp only [pb]; rw [c1]), c2⟩)⟩
      rintro A1_ ⟨F113_, hA_, g114_, s115_, c111_, c112_⟩
      subst hA_
      have g116_ : fs [(1, 1, 7, 7), (b, b, 4, 4), (b + 1, b + 4, 0, 100000)] F F113_ := fs_tr g98_ s115_ (by simp [fs_le]; try omega)
      have tk117_ : tkh K F113_ := tkh_fs tk99_ s115_ (fun r k h => (fs_n (by omega) rfl)) (fs_n (by omega) rfl)
      refine ga_aload_n (v := .ref b) hm_88 rfl rfl rfl ?_
      refine ga_iload_n (z := z28_) hm_88 rfl rfl ?_
      refine ga_iload_n (z := nt) hm_88 rfl rfl ?_
      refine ga_iload (z := z89_) hm_88 rfl rfl ?_
      refine ga_iload (z := -1) hm_88 rfl rfl ?_
      refine gVv (nY := 5) (F := 0) (L := 0) (As := [.int (Int32.ofInt z28_), .int (Int32.ofInt nt), .int (Int32.ofInt z89_), .int (Int32.ofInt (-1))]) (b := b) (rest := []) hm_88 rfl hm_86 rfl rfl (fl_ob h_b.1.1) rfl rfl rfl rfl rfl (by omega) (by omega) (mc_86 hG F113_ X g114_ (b) (nb) (t) (q) (z28_) (nt) (z89_) (-1) ((l.length : Int)) (L) h_b (by omega) (by omega) (by omega) (by omega) (fun h => absurd h (by omega)) ((cw_fs (cw_fs (cw_fs hcw s38_ (fun r j hj => (fs_n (by omega) rfl))) s97_ (fun r j hj => (fs_n (by omega) rfl))) s115_ (fun r j hj => (fs_n (by omega) rfl)))) ((clr_fs (clr_fs (clr_fs hcr s38_ (fun r j hj => (fs_n (by omega) rfl))) s97_ (fun r j hj => (fs_n (by omega) rfl))) s115_ (fun r j hj => (fs_n (by omega) rfl)))) (hrm)) (fun _ _ h => False.elim h) ?_
      rintro A1_ ⟨F121_, hA_, g122_, s123_, c119_, c120_⟩
      subst hA_
      have g124_ : fs [(1, 1, 7, 7), (b, b, 4, 4), (b + 1, b + 4, 0, 100000)] F F121_ := fs_tr g116_ s123_ (by simp [fs_le]; try omega)
      have tk125_ : tkh K F121_ := tkh_fs tk117_ s123_ (fun r k h => (fs_n (by omega) (fs_n (by omega) rfl))) (fs_n (by omega) (fs_n (by omega) rfl))
      refine gr_v hm_88 rfl rfl ?_
      have e126_ : F121_ 1 7 = F113_ 1 7 := (s123_ 1 7 (fs_n (by omega) (fs_n (by omega) rfl))).trans (rfl)
      have b127_ : 0 ≤ F113_ 1 7 ∧ F113_ 1 7 ≤ 600 := gi_g g114_ rfl
      exact ⟨F121_, rfl, g122_, g124_, (by rw [spa_go (by assumption) c29_ (by omega) rfl, c34_]; rw [if_pos (by omega), hg0 (by omega), c90_]; simp only [pb]; rw [if_neg (by omega)]; simp only [pb]; rw [c111_]; rw [e126_]), (by omega), (c119_), (clr_eq c120_ (by rw [at_dd c29_ rfl c34_ (Or.inl ⟨by omega, c93_, c94_⟩) (Or.inr ⟨by omega, rfl⟩)]))⟩
    refine ga_aload_n (v := .ref 119) hm_88 rfl rfl rfl ?_
    refine ga_aload (v := .ref a41_) hm_88 rfl rfl rfl ?_
    refine ga_getr (b := a41_ + 2) hm_88 rfl n43_.1.1 rfl ?_
    refine fl_iconst hm_88 rfl ?_
    have e128_ : F36_ (a41_ + 2) 1 = F (a41_ + 2) 1 := (s38_ (a41_ + 2) 1 (fs_n (by omega) rfl)).trans (rfl)
    have e129_ : F95_ (a41_ + 2) 1 = F (a41_ + 2) 1 := (s97_ (a41_ + 2) 1 (fs_n (by omega) rfl)).trans (e128_)
    have b130_ : -1 ≤ F (a41_ + 2) 1 ∧ F (a41_ + 2) 1 ≤ 3 := gi_g hgi (gb_a n43_.2.1.2.1)
    refine ga_iald (z := 1) (w := F (a41_ + 2) 1) hm_88 rfl n43_.1.2.2 (by omega) (by omega) (by omega) (e129_) ?_
    have b131_ : 0 ≤ F95_ 1 7 ∧ F95_ 1 7 ≤ 600 := gi_g g96_ rfl
    have e132_ : F95_ 119 2 = F 119 2 := (s97_ 119 2 rfl).trans (e79_)
    have e133_ : F95_ 119 3 = F 119 3 := (s97_ 119 3 rfl).trans (e81_)
    refine gVi (nY := 3) (F := 7) (L := 121) (As := [.int (Int32.ofInt (F (a41_ + 2) 1))]) (b := 119) (rest := []) hm_88 rfl hm_94 rfl rfl (fl_ob sc_119) rfl rfl rfl rfl rfl (by omega) (by omega) (mc_94 hG F95_ X g96_ (K) (a) (n) (k) (F (a41_ + 2) 1) (l) (tl) hgK tk99_ hko (by omega) (h_a) (by omega) (by omega) ((rep_fs (rep_fs hl s38_ (fun _ => (fs_n (by omega) rfl)) (fs_n (by omega) rfl)) s97_ (fun _ => (fs_n (by omega) rfl)) (fs_n (by omega) rfl))) ((rep_fs (rep_fs htl s38_ (fun _ => (fs_n (by omega) rfl)) (fs_n (by omega) rfl)) s97_ (fun _ => (fs_n (by omega) rfl)) (fs_n (by omega) rfl))) (by omega) (hk)) ?_ ?_
    ·
      rintro j_ A1_ ⟨F135_, ⟨hJ_, hA_⟩, g136_, s137_, c134_⟩
      subst hA_
      subst hJ_
      refine ⟨rfl, ?_⟩
      refine gw_v ?_
      have g138_ : fs [(1, 1, 7, 8), (b, b, 4, 4), (b + 1, b + 4, 0, 100000)] F F135_ := fs_tr (fs_tr fs_refl g98_ (by simp [fs_le]; try omega)) s137_ (by simp [fs_le]; try omega)
      have b139_ : 0 ≤ F135_ 1 8 ∧ F135_ 1 8 ≤ 100000 := gi_g g136_ rfl
      exact ⟨F135_, ⟨rfl, rfl⟩, g136_, g138_, (by obtain ⟨e, c1, c2⟩ := c134_; exact ⟨e, (by rw [spa_go (by assumption) c29_ (by omega) rfl, c34_]; rw [if_pos (by omega), hg0 (by omega), c90_]; simp only [pb]; rw [if_pos (by omega), hg1 (by omega), c1]; try rfl), c2⟩)⟩
    rintro z140_ A1_ ⟨F146_, hA_, g147_, s148_, c141_, c142_, c143_, c144_, c145_⟩
    subst hA_
    have g149_ : fs [(1, 1, 7, 7), (b, b, 4, 4), (b + 1, b + 4, 0, 100000)] F F146_ := fs_tr g98_ s148_ (by simp [fs_le]; try omega)
    have tk150_ : tkh K F146_ := tkh_fs tk99_ s148_ (fun r k h => (fs_n (by omega) rfl)) (fs_n (by omega) rfl)
    refine fl_goto hm_88 rfl ?_
    refine ga_istore (lv2 := [(6, .int (Int32.ofInt z140_)), (5, .int (Int32.ofInt z89_)), (4, .ref a41_), (3, .int (Int32.ofInt z28_)), (0, .ref 119), (1, .ref b), (2, .int (Int32.ofInt nt))]) hm_88 rfl (Nat.le_of_ble_eq_true rfl) rfl ?_
    refine ga_aload_n (v := .ref 119) hm_88 rfl rfl rfl ?_
    refine ga_getr (b := 1) hm_88 rfl sc_119 rfl ?_
    refine fl_iconst hm_88 rfl ?_
    have b151_ : 0 ≤ F146_ 1 7 ∧ F146_ 1 7 ≤ 600 := gi_g g147_ rfl
    refine gVv (nY := 2) (F := 7) (L := 121) (As := [.int (Int32.ofInt 1)]) (b := 1) (rest := []) hm_88 rfl hm_24 rfl rfl (fl_ob sc_1) rfl rfl rfl rfl rfl (by omega) (by omega) (mc_24 hG F146_ X g147_ (K) (1) hgK tk150_ hko (by omega) (by omega)) ?_ ?_
    ·
      rintro j_ A1_ ⟨F153_, ⟨hJ_, hA_⟩, g154_, s155_, c152_⟩
      subst hA_
      subst hJ_
      refine ⟨rfl, ?_⟩
      refine gw_v ?_
      have g156_ : fs [(1, 1, 7, 8), (b, b, 4, 4), (b + 1, b + 4, 0, 100000)] F F153_ := fs_tr (fs_tr fs_refl g149_ (by simp [fs_le]; try omega)) s155_ (by simp [fs_le]; try omega)
      have b157_ : 0 ≤ F153_ 1 8 ∧ F153_ 1 8 ≤ 100000 := gi_g g154_ rfl
      exact ⟨F153_, ⟨rfl, rfl⟩, g154_, g156_, (by obtain ⟨e, c1, c2⟩ := c152_; exact ⟨e, (by rw [spa_go (by assumption) c29_ (by omega) rfl, c34_]; rw [if_pos (by omega), hg0 (by omega), c90_]; simp only [pb]; rw [if_pos (by omega), hg1 (by omega), c141_]; simp only [pb]; rw [c1]), c2⟩)⟩
    rintro A1_ ⟨F161_, hA_, g162_, s163_, c159_, c160_⟩
    subst hA_
    have g164_ : fs [(1, 1, 7, 7), (b, b, 4, 4), (b + 1, b + 4, 0, 100000)] F F161_ := fs_tr g149_ s163_ (by simp [fs_le]; try omega)
    have tk165_ : tkh K F161_ := tkh_fs tk150_ s163_ (fun r k h => (fs_n (by omega) rfl)) (fs_n (by omega) rfl)
    refine ga_aload_n (v := .ref b) hm_88 rfl rfl rfl ?_
    refine ga_iload_n (z := z28_) hm_88 rfl rfl ?_
    refine ga_iload_n (z := nt) hm_88 rfl rfl ?_
    refine ga_iload (z := z89_) hm_88 rfl rfl ?_
    refine ga_iload (z := z140_) hm_88 rfl rfl ?_
    refine gVv (nY := 5) (F := 0) (L := 0) (As := [.int (Int32.ofInt z28_), .int (Int32.ofInt nt), .int (Int32.ofInt z89_), .int (Int32.ofInt z140_)]) (b := b) (rest := []) hm_88 rfl hm_86 rfl rfl (fl_ob h_b.1.1) rfl rfl rfl rfl rfl (by omega) (by omega) (mc_86 hG F161_ X g162_ (b) (nb) (t) (q) (z28_) (nt) (z89_) (z140_) ((l.length : Int)) (L) h_b (by omega) (by omega) (by omega) (by omega) (fun h => absurd h (by omega)) ((cw_fs (cw_fs (cw_fs (cw_fs hcw s38_ (fun r j hj => (fs_n (by omega) rfl))) s97_ (fun r j hj => (fs_n (by omega) rfl))) s148_ (fun r j hj => (fs_n (by omega) rfl))) s163_ (fun r j hj => (fs_n (by omega) rfl)))) ((clr_fs (clr_fs (clr_fs (clr_fs hcr s38_ (fun r j hj => (fs_n (by omega) rfl))) s97_ (fun r j hj => (fs_n (by omega) rfl))) s148_ (fun r j hj => (fs_n (by omega) rfl))) s163_ (fun r j hj => (fs_n (by omega) rfl)))) (hrm)) (fun _ _ h => False.elim h) ?_
    rintro A1_ ⟨F169_, hA_, g170_, s171_, c167_, c168_⟩
    subst hA_
    have g172_ : fs [(1, 1, 7, 7), (b, b, 4, 4), (b + 1, b + 4, 0, 100000)] F F169_ := fs_tr g164_ s171_ (by simp [fs_le]; try omega)
    have tk173_ : tkh K F169_ := tkh_fs tk165_ s171_ (fun r k h => (fs_n (by omega) (fs_n (by omega) rfl))) (fs_n (by omega) (fs_n (by omega) rfl))
    refine gr_v hm_88 rfl rfl ?_
    have e174_ : F169_ 1 7 = F161_ 1 7 := (s171_ 1 7 (fs_n (by omega) (fs_n (by omega) rfl))).trans (rfl)
    have b175_ : 0 ≤ F161_ 1 7 ∧ F161_ 1 7 ≤ 600 := gi_g g162_ rfl
    exact ⟨F169_, rfl, g170_, g172_, (by rw [spa_go (by assumption) c29_ (by omega) rfl, c34_]; rw [if_pos (by omega), hg0 (by omega), c90_]; simp only [pb]; rw [if_pos (by omega), hg1 (by omega), c141_]; simp only [pb]; rw [c159_]; rw [e174_]), (by omega), (c167_), (clr_eq c168_ (by rw [at_dd c29_ rfl c34_ (Or.inl ⟨by omega, c93_, c94_⟩) (Or.inl ⟨by omega, c144_⟩)]))⟩
  refine ga_aload_n (v := .ref 119) hm_88 rfl rfl rfl ?_
  refine ga_getr (b := 1) hm_88 rfl sc_119 rfl ?_
  refine fl_iconst hm_88 rfl ?_
  refine gIv (nY := 2) (F := 6) (L := 100) (As := [.int (Int32.ofInt 3)]) (b := 1) (rest := []) hm_88 rfl hm_25 rfl rfl (fl_ob sc_1) rfl rfl rfl rfl rfl (by omega) (by omega) ?_
  intro f176_ l177_ h178_ h179_
  show fl_R xi_ms 25 f176_ l177_ 0 [(0, .ref 1), (1, .int (Int32.ofInt 3))] [] _ _
  refine ga_aload_n (v := .ref 1) hm_25 rfl rfl rfl ?_
  refine ga_iload_n (z := 3) hm_25 rfl rfl ?_
  refine fl_bipush hm_25 rfl rfl ?_
  refine ga_aload_n (v := .ref 1) hm_25 rfl rfl rfl ?_
  refine ga_getr (b := 4) hm_25 rfl sc_1 rfl ?_
  refine ga_aload_n (v := .ref 1) hm_25 rfl rfl rfl ?_
  refine ga_geti (z := F 1 7) hm_25 rfl sc_1 rfl (rfl) ?_
  have e180_ : F 4 (F 1 7).toNat = K 4 (F 1 7).toNat := hK.1 4 (F 1 7).toNat (by omega)
  have b181_ : 0 ≤ K 4 (F 1 7).toNat ∧ K 4 (F 1 7).toNat ≤ 600 := gi_g hgK rfl
  refine ga_iald (z := F 1 7) (w := K 4 (F 1 7).toNat) hm_25 rfl sc_4 (by omega) (by omega) (by omega) (e180_) ?_
  refine ga_imul (a := 10) (b := K 4 (F 1 7).toNat) (c := 10 * (K 4 (F 1 7).toNat)) hm_25 rfl (by omega) ?_
  refine ga_iadd (a := 3) (b := 10 * (K 4 (F 1 7).toNat)) (c := 10 * (K 4 (F 1 7).toNat) + 3) hm_25 rfl (by omega) ?_
  refine ga_puti (z := 10 * (K 4 (F 1 7).toNat) + 3) hm_25 rfl sc_1 rfl rfl ?_
  obtain ⟨F182_, q183_⟩ : ∃ F9_, F9_ = (fl_u F 1 8 (10 * (K 4 (F 1 7).toNat) + 3)) := ⟨_, rfl⟩
  rw [← q183_]
  have g184_ : gi F182_ := by rw [q183_]; exact gi_u (hgi) rfl (by omega) (by omega)
  have g185_ : fs [(1, 1, 7, 8), (b, b, 4, 4), (b + 1, b + 4, 0, 100000)] F F182_ := by rw [q183_]; exact fs_u (fs_refl) (fs_y (by omega))
  have tk186_ : tkh K F182_ := by rw [q183_]; exact tkh_u (hK) (by omega) (by omega)
  refine fl_thr hm_25 rfl rfl (by omega) (by omega) (Nat.le_of_ble_eq_true rfl) (fl_pos sc_0) ?_
  refine gw_v ⟨rfl, ?_⟩
  refine gw_v ?_
  have e187_ : F182_ 1 8 = 10 * (K 4 (F 1 7).toNat) + 3 := by rw [q183_]; exact fl_u_eq
  exact ⟨F182_, ⟨ga_len.symm, (List.append_assoc _ _ _).symm⟩, g184_, g185_, (⟨(3, K 4 (F 1 7).toNat), by simp [sp_atom, pf, pb, h9_, c29_, c30_, h32_, e187_]; try first | omega | ((repeat' split) <;> first | rfl | (exfalso; omega) | omega), by show _ = (3 : Int) + 10 * K 4 (F 1 7).toNat; omega⟩)⟩
/- CheapPlanner$ClauseReader.readEquality -/
abbrev pq_91 (G : Nat → Nat → Option Nat) (F : fl_N) (X : xi_H) (K : fl_N) (a n b nb : Nat) (t q k : Int) (l tl : List Int) (nt : Int) (L : List lt_T) : Outcome → xi_H → Prop := gqv (fun A => ∃ F' : fl_N, fl_H sh_T G F' ++ X = A ∧ gi F' ∧ fs [(1, 1, 7, 7), (b, b, 4, 4), (b + 1, b + 4, 0, 100000)] F F' ∧ (sp_eq K k l tl (F 1 7) = .inr (F' 1 7)) ∧ (0 ≤ F' 1 7 ∧ F' 1 7 ≤ K 1 6 - 1) ∧ (cw F' b (l.length : Int)) ∧ (clr F' b (L ++ [eq_d K l nt (F 1 7)]))) (fun j A => ∃ F' : fl_N, (387 + X.length = j ∧ fl_H sh_T G F' ++ (X ++ [gx 14]) = A) ∧ gi F' ∧ fs [(1, 1, 7, 8), (b, b, 4, 4), (b + 1, b + 4, 0, 100000)] F F' ∧ (∃ e, sp_eq K k l tl (F 1 7) = .inl e ∧ F' 1 8 = e.1 + 10 * e.2))
theorem mc_91 {G : Nat → Nat → Option Nat} (hG : gg G) (F : fl_N) (X : xi_H) (hgi : gi F) (K : fl_N) (a n b nb : Nat) (t q k : Int) (l tl : List Int) (nt : Int) (L : List lt_T) (hgK : gi K) (hK : tkh K F) (hko : tko K) (hp : 0 ≤ F 1 7 ∧ F 1 7 ≤ K 1 6 - 1) (h_a : nm a n) (hta : F 119 2 = (a : Int)) (htk2 : F 119 3 = k) (hl : rep (F (a + 1)) (F a 2) l) (htl : rep (F (a + 2)) (F a 2) tl) (hk : 2 ≤ k ∧ k ≤ 3) (h_b : cl b nb t q) (hab : a + 2 < b) (hnt2 : (n : Int) ≤ t + 1) (hcw : cw F b (l.length : Int)) (hnt : nt = 0 ∨ nt = 1) (hq : q = -1) (hcr : clr F b L) (hrm : (L.length : Int) < (nb : Int)) : fl_M xi_ms 91 8 143 [.ref 119, .ref b, .int (Int32.ofInt nt)] (fl_H sh_T G F ++ X) (pq_91 G F X K a n b nb t q k l tl nt L) := by
  intro fr lo hfr hlo
  show fl_R xi_ms 91 fr lo 0 [(0, .ref 119), (1, .ref b), (2, .int (Int32.ofInt nt))] [] _ _
  have hl1 := hl.1
  have htl1 := htl.1
  have hr_a := h_a.2.2
  have hr_b := h_b.2.2
  refine ga_aload_n (v := .ref 119) hm_91 rfl rfl rfl ?_
  refine ga_getr (b := 1) hm_91 rfl sc_119 rfl ?_
  have b1_ : 0 ≤ F 1 7 ∧ F 1 7 ≤ 600 := gi_g hgi rfl
  refine gVv (nY := 1) (F := 0) (L := 0) (As := []) (b := 1) (rest := []) hm_91 rfl hm_154 rfl rfl (fl_ob sc_1) rfl rfl rfl rfl rfl (by omega) (by omega) (mc_154 hG F X hgi (K) hgK hK hko (by omega)) (fun _ _ h => False.elim h) ?_
  rintro A1_ ⟨F5_, hA_, g6_, s7_, c3_, c4_⟩
  subst hA_
  have g8_ : fs [(1, 1, 7, 7), (b, b, 4, 4), (b + 1, b + 4, 0, 100000)] F F5_ := fs_tr fs_refl s7_ (by simp [fs_le]; try omega)
  have tk9_ : tkh K F5_ := tkh_fs hK s7_ (fun r k h => (fs_n (by omega) rfl)) (fs_n (by omega) rfl)
  refine ga_aload_n (v := .ref 119) hm_91 rfl rfl rfl ?_
  refine fl_iconst hm_91 rfl ?_
  have b10_ : 0 ≤ F5_ 1 7 ∧ F5_ 1 7 ≤ 600 := gi_g g6_ rfl
  have e11_ : F5_ 119 2 = F 119 2 := (s7_ 119 2 rfl).trans (rfl)
  have b12_ : 8 ≤ F 119 2 ∧ F 119 2 ≤ 105 := gi_g hgi rfl
  have e13_ : F5_ 119 3 = F 119 3 := (s7_ 119 3 rfl).trans (rfl)
  have b14_ : 2 ≤ F 119 3 ∧ F 119 3 ≤ 3 := gi_g hgi rfl
  refine gVi (nY := 3) (F := 7) (L := 121) (As := [.int (Int32.ofInt (-1))]) (b := 119) (rest := []) hm_91 rfl hm_94 rfl rfl (fl_ob sc_119) rfl rfl rfl rfl rfl (by omega) (by omega) (mc_94 hG F5_ X g6_ (K) (a) (n) (k) (-1) (l) (tl) hgK tk9_ hko (by omega) (h_a) (by omega) (by omega) ((rep_fs hl s7_ (fun _ => (fs_n (by omega) rfl)) (fs_n (by omega) rfl))) ((rep_fs htl s7_ (fun _ => (fs_n (by omega) rfl)) (fs_n (by omega) rfl))) (by omega) (hk)) ?_ ?_
  ·
    rintro j_ A1_ ⟨F16_, ⟨hJ_, hA_⟩, g17_, s18_, c15_⟩
    subst hA_
    subst hJ_
    refine ⟨rfl, ?_⟩
    refine gw_v ?_
    have g19_ : fs [(1, 1, 7, 8), (b, b, 4, 4), (b + 1, b + 4, 0, 100000)] F F16_ := fs_tr (fs_tr fs_refl g8_ (by simp [fs_le]; try omega)) s18_ (by simp [fs_le]; try omega)
    have b20_ : 0 ≤ F16_ 1 8 ∧ F16_ 1 8 ≤ 100000 := gi_g g17_ rfl
    exact ⟨F16_, ⟨rfl, rfl⟩, g17_, g19_, (by obtain ⟨e, c1, c2⟩ := c15_; exact ⟨e, (by rw [sp_eq, c3_]; rw [c1]; try rfl), c2⟩)⟩
  rintro z21_ A1_ ⟨F27_, hA_, g28_, s29_, c22_, c23_, c24_, c25_, c26_⟩
  subst hA_
  have g30_ : fs [(1, 1, 7, 7), (b, b, 4, 4), (b + 1, b + 4, 0, 100000)] F F27_ := fs_tr g8_ s29_ (by simp [fs_le]; try omega)
  have tk31_ : tkh K F27_ := tkh_fs tk9_ s29_ (fun r k h => (fs_n (by omega) rfl)) (fs_n (by omega) rfl)
  refine ga_istore_n (lv2 := [(3, .int (Int32.ofInt z21_)), (0, .ref 119), (1, .ref b), (2, .int (Int32.ofInt nt))]) hm_91 rfl (Nat.le_of_ble_eq_true rfl) rfl ?_
  refine ga_aload_n (v := .ref 119) hm_91 rfl rfl rfl ?_
  refine fl_iconst hm_91 rfl ?_
  have b32_ : 0 ≤ F27_ 1 7 ∧ F27_ 1 7 ≤ 600 := gi_g g28_ rfl
  have e33_ : F27_ 119 2 = F 119 2 := (s29_ 119 2 rfl).trans (e11_)
  have e34_ : F27_ 119 3 = F 119 3 := (s29_ 119 3 rfl).trans (e13_)
  refine gVi (nY := 3) (F := 7) (L := 121) (As := [.int (Int32.ofInt (-1))]) (b := 119) (rest := []) hm_91 rfl hm_94 rfl rfl (fl_ob sc_119) rfl rfl rfl rfl rfl (by omega) (by omega) (mc_94 hG F27_ X g28_ (K) (a) (n) (k) (-1) (l) (tl) hgK tk31_ hko (by omega) (h_a) (by omega) (by omega) ((rep_fs (rep_fs hl s7_ (fun _ => (fs_n (by omega) rfl)) (fs_n (by omega) rfl)) s29_ (fun _ => (fs_n (by omega) rfl)) (fs_n (by omega) rfl))) ((rep_fs (rep_fs htl s7_ (fun _ => (fs_n (by omega) rfl)) (fs_n (by omega) rfl)) s29_ (fun _ => (fs_n (by omega) rfl)) (fs_n (by omega) rfl))) (by omega) (hk)) ?_ ?_
  ·
    rintro j_ A1_ ⟨F36_, ⟨hJ_, hA_⟩, g37_, s38_, c35_⟩
    subst hA_
    subst hJ_
    refine ⟨rfl, ?_⟩
    refine gw_v ?_
    have g39_ : fs [(1, 1, 7, 8), (b, b, 4, 4), (b + 1, b + 4, 0, 100000)] F F36_ := fs_tr (fs_tr fs_refl g30_ (by simp [fs_le]; try omega)) s38_ (by simp [fs_le]; try omega)
    have b40_ : 0 ≤ F36_ 1 8 ∧ F36_ 1 8 ≤ 100000 := gi_g g37_ rfl
    exact ⟨F36_, ⟨rfl, rfl⟩, g37_, g39_, (by obtain ⟨e, c1, c2⟩ := c35_; exact ⟨e, (by rw [sp_eq, c3_]; rw [c22_]; simp only [pb]; rw [c1]; try rfl), c2⟩)⟩
  rintro z41_ A1_ ⟨F47_, hA_, g48_, s49_, c42_, c43_, c44_, c45_, c46_⟩
  subst hA_
  have g50_ : fs [(1, 1, 7, 7), (b, b, 4, 4), (b + 1, b + 4, 0, 100000)] F F47_ := fs_tr g30_ s49_ (by simp [fs_le]; try omega)
  have tk51_ : tkh K F47_ := tkh_fs tk31_ s49_ (fun r k h => (fs_n (by omega) rfl)) (fs_n (by omega) rfl)
  refine ga_istore (lv2 := [(4, .int (Int32.ofInt z41_)), (3, .int (Int32.ofInt z21_)), (0, .ref 119), (1, .ref b), (2, .int (Int32.ofInt nt))]) hm_91 rfl (Nat.le_of_ble_eq_true rfl) rfl ?_
  refine ga_aload_n (v := .ref 119) hm_91 rfl rfl rfl ?_
  refine ga_getr (b := 1) hm_91 rfl sc_119 rfl ?_
  refine fl_iconst hm_91 rfl ?_
  have b52_ : 0 ≤ F47_ 1 7 ∧ F47_ 1 7 ≤ 600 := gi_g g48_ rfl
  refine gVv (nY := 2) (F := 7) (L := 121) (As := [.int (Int32.ofInt 1)]) (b := 1) (rest := []) hm_91 rfl hm_24 rfl rfl (fl_ob sc_1) rfl rfl rfl rfl rfl (by omega) (by omega) (mc_24 hG F47_ X g48_ (K) (1) hgK tk51_ hko (by omega) (by omega)) ?_ ?_
  ·
    rintro j_ A1_ ⟨F54_, ⟨hJ_, hA_⟩, g55_, s56_, c53_⟩
    subst hA_
    subst hJ_
    refine ⟨rfl, ?_⟩
    refine gw_v ?_
    have g57_ : fs [(1, 1, 7, 8), (b, b, 4, 4), (b + 1, b + 4, 0, 100000)] F F54_ := fs_tr (fs_tr fs_refl g50_ (by simp [fs_le]; try omega)) s56_ (by simp [fs_le]; try omega)
    have b58_ : 0 ≤ F54_ 1 8 ∧ F54_ 1 8 ≤ 100000 := gi_g g55_ rfl
    exact ⟨F54_, ⟨rfl, rfl⟩, g55_, g57_, (by obtain ⟨e, c1, c2⟩ := c53_; exact ⟨e, (by rw [sp_eq, c3_]; rw [c22_]; simp only [pb]; rw [c42_]; simp only [pb]; rw [c1]), c2⟩)⟩
  rintro A1_ ⟨F62_, hA_, g63_, s64_, c60_, c61_⟩
  subst hA_
  have g65_ : fs [(1, 1, 7, 7), (b, b, 4, 4), (b + 1, b + 4, 0, 100000)] F F62_ := fs_tr g50_ s64_ (by simp [fs_le]; try omega)
  have tk66_ : tkh K F62_ := tkh_fs tk51_ s64_ (fun r k h => (fs_n (by omega) rfl)) (fs_n (by omega) rfl)
  refine ga_aload_n (v := .ref b) hm_91 rfl rfl rfl ?_
  refine fl_iconst hm_91 rfl ?_
  refine ga_iload_n (z := nt) hm_91 rfl rfl ?_
  refine ga_iload_n (z := z21_) hm_91 rfl rfl ?_
  refine ga_iload (z := z41_) hm_91 rfl rfl ?_
  refine gVv (nY := 5) (F := 0) (L := 0) (As := [.int (Int32.ofInt (-1)), .int (Int32.ofInt nt), .int (Int32.ofInt z21_), .int (Int32.ofInt z41_)]) (b := b) (rest := []) hm_91 rfl hm_86 rfl rfl (fl_ob h_b.1.1) rfl rfl rfl rfl rfl (by omega) (by omega) (mc_86 hG F62_ X g63_ (b) (nb) (t) (q) (-1) (nt) (z21_) (z41_) ((l.length : Int)) (L) h_b (by omega) (by omega) (by omega) (by omega) (by omega) ((cw_fs (cw_fs (cw_fs (cw_fs hcw s7_ (fun r j hj => (fs_n (by omega) rfl))) s29_ (fun r j hj => (fs_n (by omega) rfl))) s49_ (fun r j hj => (fs_n (by omega) rfl))) s64_ (fun r j hj => (fs_n (by omega) rfl)))) ((clr_fs (clr_fs (clr_fs (clr_fs hcr s7_ (fun r j hj => (fs_n (by omega) rfl))) s29_ (fun r j hj => (fs_n (by omega) rfl))) s49_ (fun r j hj => (fs_n (by omega) rfl))) s64_ (fun r j hj => (fs_n (by omega) rfl)))) (hrm)) (fun _ _ h => False.elim h) ?_
  rintro A1_ ⟨F70_, hA_, g71_, s72_, c68_, c69_⟩
  subst hA_
  have g73_ : fs [(1, 1, 7, 7), (b, b, 4, 4), (b + 1, b + 4, 0, 100000)] F F70_ := fs_tr g65_ s72_ (by simp [fs_le]; try omega)
  have tk74_ : tkh K F70_ := tkh_fs tk66_ s72_ (fun r k h => (fs_n (by omega) (fs_n (by omega) rfl))) (fs_n (by omega) (fs_n (by omega) rfl))
  refine gr_v hm_91 rfl rfl ?_
  have e75_ : F70_ 1 7 = F62_ 1 7 := (s72_ 1 7 (fs_n (by omega) (fs_n (by omega) rfl))).trans (rfl)
  have b76_ : 0 ≤ F62_ 1 7 ∧ F62_ 1 7 ≤ 600 := gi_g g63_ rfl
  exact ⟨F70_, rfl, g71_, g73_, (by rw [sp_eq, c3_]; rw [c22_]; simp only [pb]; rw [c42_]; simp only [pb]; rw [c60_]; rw [e75_]), (by omega), (c68_), (clr_eq c69_ (by rw [eq_dd c3_ c25_ c26_ c45_]))⟩
/- CheapPlanner$Tokens.number -/
abbrev pq_151 (G : Nat → Nat → Option Nat) (F : fl_N) (X : xi_H) (K : fl_N) : Outcome → xi_H → Prop := gqi (fun z A => fl_H sh_T G F ++ X = A ∧ (sp_num K (F 1 7) = z) ∧ (0 ≤ z ∧ z ≤ 999)) gqn
theorem mc_151 {G : Nat → Nat → Option Nat} (hG : gg G) (F : fl_N) (X : xi_H) (hgi : gi F) (K : fl_N) (hgK : gi K) (hK : tkh K F) (hko : tko K) (hp : 0 ≤ F 1 7 ∧ F 1 7 ≤ K 1 6 - 1) : fl_M xi_ms 151 0 0 [.ref 1] (fl_H sh_T G F ++ X) (pq_151 G F X K) := by
  intro fr lo hfr hlo
  show fl_R xi_ms 151 fr lo 0 [(0, .ref 1)] [] _ _
  refine fl_iconst hm_151 rfl ?_
  refine ga_istore_n (lv2 := [(1, .int (Int32.ofInt 0)), (0, .ref 1)]) hm_151 rfl (Nat.le_of_ble_eq_true rfl) rfl ?_
  refine ga_aload_n (v := .ref 1) hm_151 rfl rfl rfl ?_
  refine ga_getr (b := 5) hm_151 rfl sc_1 rfl ?_
  refine ga_aload_n (v := .ref 1) hm_151 rfl rfl rfl ?_
  have b1_ : 0 ≤ F 1 7 ∧ F 1 7 ≤ 600 := gi_g hgi rfl
  refine ga_geti (z := F 1 7) hm_151 rfl sc_1 rfl (rfl) ?_
  have e2_ : F 5 (F 1 7).toNat = K 5 (F 1 7).toNat := hK.1 5 (F 1 7).toNat (by omega)
  have b3_ : 0 ≤ K 5 (F 1 7).toNat ∧ K 5 (F 1 7).toNat ≤ 600 := gi_g hgK rfl
  refine ga_iald (z := F 1 7) (w := K 5 (F 1 7).toNat) hm_151 rfl sc_5 (by omega) (by omega) (by omega) (e2_) ?_
  refine ga_aload_n (v := .ref 1) hm_151 rfl rfl rfl ?_
  refine ga_getr (b := 4) hm_151 rfl sc_1 rfl ?_
  refine ga_aload_n (v := .ref 1) hm_151 rfl rfl rfl ?_
  refine ga_geti (z := F 1 7) hm_151 rfl sc_1 rfl (rfl) ?_
  have e4_ : F 4 (F 1 7).toNat = K 4 (F 1 7).toNat := hK.1 4 (F 1 7).toNat (by omega)
  have b5_ : 0 ≤ K 4 (F 1 7).toNat ∧ K 4 (F 1 7).toNat ≤ 600 := gi_g hgK rfl
  refine ga_iald (z := F 1 7) (w := K 4 (F 1 7).toNat) hm_151 rfl sc_4 (by omega) (by omega) (by omega) (e4_) ?_
  refine ga_isub (a := K 5 (F 1 7).toNat) (b := K 4 (F 1 7).toNat) (c := K 5 (F 1 7).toNat - (K 4 (F 1 7).toNat)) hm_151 rfl (by omega) ?_
  refine fl_iconst hm_151 rfl ?_
  refine fl_icmp_le (a := K 5 (F 1 7).toNat - (K 4 (F 1 7).toNat)) (b := 3) hm_151 rfl ⟨by omega, by omega⟩ ⟨by omega, by omega⟩ (fun h6_ => ?_) (fun h7_ => ?_)
  ·
    refine ga_aload_n (v := .ref 1) hm_151 rfl rfl rfl ?_
    refine ga_getr (b := 4) hm_151 rfl sc_1 rfl ?_
    refine ga_aload_n (v := .ref 1) hm_151 rfl rfl rfl ?_
    refine ga_geti (z := F 1 7) hm_151 rfl sc_1 rfl (rfl) ?_
    refine ga_iald (z := F 1 7) (w := K 4 (F 1 7).toNat) hm_151 rfl sc_4 (by omega) (by omega) (by omega) (e4_) ?_
    refine ga_istore_n (lv2 := [(2, .int (Int32.ofInt (K 4 (F 1 7).toNat))), (1, .int (Int32.ofInt 0)), (0, .ref 1)]) hm_151 rfl (Nat.le_of_ble_eq_true rfl) rfl ?_
    have L9_ : ∀ (n8_ : Nat) (i : Int) (v : Int), (K 5 (F 1 7).toNat - i : Int).toNat = n8_ → (K 4 (F 1 7).toNat ≤ i ∧ (i ≤ K 5 (F 1 7).toNat ∨ i = K 4 (F 1 7).toNat) ∧ K 5 (F 1 7).toNat - K 4 (F 1 7).toNat ≤ 3) → (0 ≤ v ∧ v < 10 ^ (i - K 4 (F 1 7).toNat).toNat) → (sp_num K (F 1 7) = dgo (K 2) i.toNat (K 5 (F 1 7).toNat - i).toNat v) → fl_R xi_ms 151 fr lo 37 [(2, .int (Int32.ofInt i)), (1, .int (Int32.ofInt v)), (0, .ref 1)] [] (fl_H sh_T G F ++ X) (pq_151 G F X K) := by
      intro n8_
      induction n8_ using Nat.strongRecOn with
      | ind n8_ ih10_ =>
      intro i v hn11_ hi hv ht
      refine ga_iload_n (z := i) hm_151 rfl rfl ?_
      refine ga_aload_n (v := .ref 1) hm_151 rfl rfl rfl ?_
      refine ga_getr (b := 5) hm_151 rfl sc_1 rfl ?_
      refine ga_aload_n (v := .ref 1) hm_151 rfl rfl rfl ?_
      refine ga_geti (z := F 1 7) hm_151 rfl sc_1 rfl (rfl) ?_
      refine ga_iald (z := F 1 7) (w := K 5 (F 1 7).toNat) hm_151 rfl sc_5 (by omega) (by omega) (by omega) (e2_) ?_
      refine fl_icmp_ge (a := i) (b := K 5 (F 1 7).toNat) hm_151 rfl ⟨by omega, by omega⟩ ⟨by omega, by omega⟩ (fun h12_ => ?_) (fun h13_ => ?_)
      ·
        refine ga_iload_n (z := v) hm_151 rfl rfl ?_
        refine gr_i (z := v) hm_151 rfl rfl rfl ?_
        exact ⟨rfl, (by rw [ht, dg_end (by omega)]), (dg_m hv.1 hv.2 (by omega))⟩
      refine ga_aload_n (v := .ref 1) hm_151 rfl rfl rfl ?_
      refine ga_getr (b := 2) hm_151 rfl sc_1 rfl ?_
      refine ga_iload_n (z := i) hm_151 rfl rfl ?_
      have e14_ : F 2 i.toNat = K 2 i.toNat := hK.1 2 i.toNat (by omega)
      have b15_ : 0 ≤ K 2 i.toNat ∧ K 2 i.toNat ≤ 126 := gi_g hgK rfl
      refine ga_cald (z := i) (w := K 2 i.toNat) hm_151 rfl sc_2 (by omega) (by omega) (by omega) (e14_) ?_
      refine fl_bipush hm_151 rfl rfl ?_
      refine ga_isub (a := K 2 i.toNat) (b := 48) (c := K 2 i.toNat - 48) hm_151 rfl (by omega) ?_
      refine ga_istore_n (lv2 := [(3, .int (Int32.ofInt (K 2 i.toNat - 48))), (2, .int (Int32.ofInt i)), (1, .int (Int32.ofInt v)), (0, .ref 1)]) hm_151 rfl (Nat.le_of_ble_eq_true rfl) rfl ?_
      refine ga_iload_n (z := K 2 i.toNat - 48) hm_151 rfl rfl ?_
      refine fl_if_lt (a := K 2 i.toNat - 48) hm_151 rfl ⟨by omega, by omega⟩ (fun h16_ => ?_) (fun h17_ => ?_)
      ·
        refine fl_iconst hm_151 rfl ?_
        refine gr_i (z := 0) hm_151 rfl rfl rfl ?_
        exact ⟨rfl, (by rw [ht, dg_bad (by omega) (by omega)]), (by omega)⟩
      refine ga_iload_n (z := K 2 i.toNat - 48) hm_151 rfl rfl ?_
      refine fl_bipush hm_151 rfl rfl ?_
      refine fl_icmp_le (a := K 2 i.toNat - 48) (b := 9) hm_151 rfl ⟨by omega, by omega⟩ ⟨by omega, by omega⟩ (fun h18_ => ?_) (fun h19_ => ?_)
      ·
        have hvm := dg_m hv.1 hv.2 (by omega)
        refine ga_iload_n (z := v) hm_151 rfl rfl ?_
        refine fl_bipush hm_151 rfl rfl ?_
        refine ga_imul (a := v) (b := 10) (c := 10 * v) hm_151 rfl (by omega) ?_
        refine ga_iload_n (z := K 2 i.toNat - 48) hm_151 rfl rfl ?_
        refine ga_iadd (a := 10 * v) (b := K 2 i.toNat - 48) (c := 10 * v + K 2 i.toNat - 48) hm_151 rfl (by omega) ?_
        refine ga_istore_n (lv2 := [(1, .int (Int32.ofInt (10 * v + K 2 i.toNat - 48))), (3, .int (Int32.ofInt (K 2 i.toNat - 48))), (2, .int (Int32.ofInt i)), (0, .ref 1)]) hm_151 rfl (Nat.le_of_ble_eq_true rfl) rfl ?_
        refine ga_inc (a := i) (c := i + 1) (lv2 := [(2, .int (Int32.ofInt (i + 1))), (1, .int (Int32.ofInt (10 * v + K 2 i.toNat - 48))), (3, .int (Int32.ofInt (K 2 i.toNat - 48))), (0, .ref 1)]) hm_151 rfl rfl (Nat.le_of_ble_eq_true rfl) rfl rfl ?_
        refine fl_goto hm_151 rfl ?_
        exact fl_R_sub (lv' := [(2, .int (Int32.ofInt (i + 1))), (1, .int (Int32.ofInt (10 * v + K 2 i.toNat - 48))), (0, .ref 1)]) rfl rfl (ih10_ _ (by omega) (i + 1) (10 * v + K 2 i.toNat - 48) rfl (by omega) (dg_b hv.1 hv.2 (by omega) (by omega) (by omega)) (by rw [ht, dg_step (by omega) (by omega) (by omega)]; congr 1; omega))
      refine fl_iconst hm_151 rfl ?_
      refine gr_i (z := 0) hm_151 rfl rfl rfl ?_
      exact ⟨rfl, (by rw [ht, dg_bad (by omega) (by omega)]), (by omega)⟩
    exact L9_ _ (K 4 (F 1 7).toNat) (0) rfl (by omega) (by simp) (by unfold sp_num; rw [if_neg (by omega)])
  refine fl_iconst hm_151 rfl ?_
  refine gr_i (z := 0) hm_151 rfl rfl rfl ?_
  exact ⟨rfl, (by unfold sp_num; rw [if_pos (by omega)]), (by omega)⟩

theorem tkz_wf (f : Nat → Int) : ∀ (k i : Nat) (s : Int), s < (i : Int) → (0 ≤ s → f s.toNat ≠ 32 ∧ f s.toNat ≠ 40 ∧ f s.toNat ≠ 41) → ∀ q ∈ tkz f k i s, (q.1 < q.2 ∧ q.2 ≤ i + k) ∧ ((f q.1 = 40 ∨ f q.1 = 41) → q.2 = q.1 + 1) ∧ f q.1 ≠ 32 := by
  intro k
  induction k with
  | zero =>
    intro i s hs hw q hq
    unfold tkz at hq
    split at hq
    · rename_i h0
      simp only [List.mem_singleton] at hq
      subst hq
      have := hw h0
      exact ⟨⟨by simp only; omega, by simp⟩, fun h => by simp only at h; omega, this.1⟩
    · simp at hq
  | succ k ih =>
    intro i s hs hw q hq
    unfold tkz at hq
    split at hq
    · rename_i hc
      rcases List.mem_append.mp hq with hq | hq
      · split at hq
        · rename_i h0
          simp only [List.mem_singleton] at hq
          subst hq
          have := hw h0
          exact ⟨⟨by simp only; omega, by simp only; omega⟩, fun h => by simp only at h; omega, this.1⟩
        · simp at hq
      · rcases List.mem_append.mp hq with hq | hq
        · split at hq
          · simp at hq
          · rename_i h32
            simp only [List.mem_singleton] at hq
            subst hq
            exact ⟨⟨by simp, by simp only; omega⟩, fun _ => rfl, h32⟩
        · have := ih (i + 1) (-1) (by omega) (by omega) q hq
          exact ⟨⟨this.1.1, by omega⟩, this.2⟩
    · rename_i hc
      by_cases h0 : s < 0
      · rw [if_pos h0] at hq
        have := ih (i + 1) i (by omega) (fun _ => by simp only [Int.toNat_natCast]; omega) q hq
        exact ⟨⟨this.1.1, by omega⟩, this.2⟩
      · rw [if_neg h0] at hq
        have := ih (i + 1) s (by omega) hw q hq
        exact ⟨⟨this.1.1, by omega⟩, this.2⟩
/-- tables of tokens: kinds and codes are those of the letters; a parenthesis stands alone -/
def tkw (K : fl_N) (f : Nat → Int) (n : Int) : Prop := ∀ p : Int, 0 ≤ p → p < K 1 6 - 1 → ((0 ≤ K 4 p.toNat ∧ K 4 p.toNat < K 5 p.toNat ∧ K 5 p.toNat ≤ n) ∧ K 3 p.toNat = tkk f (K 4 p.toNat).toNat (K 5 p.toNat).toNat ∧ K 6 p.toNat = tkc f (K 4 p.toNat).toNat (K 5 p.toNat).toNat) ∧ ((f (K 4 p.toNat).toNat = 40 ∨ f (K 4 p.toNat).toNat = 41) → K 5 p.toNat = K 4 p.toNat + 1)
theorem tkw_of {K : fl_N} {f : Nat → Int} {n : Int} {l : List (Nat × Nat)} (h : tkf K f n l) (hl : l = tkz f n.toNat 0 (-1)) (hn : 0 ≤ n) : tkw K f n := by
  intro p h0 h1
  have h2 : p.toNat < l.length := by have := h.2.1; omega
  have h3 := h.1 p.toNat l[p.toNat] (List.getElem?_eq_getElem h2)
  have h4 := tkz_wf f n.toNat 0 (-1) (by omega) (by omega) l[p.toNat] (by rw [← hl]; exact List.getElem_mem h2)
  obtain ⟨⟨a1, a2⟩, a3, a4⟩ := h3
  rw [a1, a2, a3, a4]
  simp only [Int.toNat_natCast]
  refine ⟨⟨⟨by omega, by omega, by omega⟩, by first | rfl | trivial, by first | rfl | trivial⟩, fun h5 => ?_⟩
  have := h4.2.1 h5
  omega
theorem tkk_le (f : Nat → Int) (s e : Nat) : 0 ≤ tkk f s e ∧ tkk f s e ≤ 4 := by
  unfold tkk
  repeat' split
  all_goals omega
theorem tko_of {K : fl_N} {f : Nat → Int} {n : Int} {l : List (Nat × Nat)} (h : tkf K f n l) (hw : tkw K f n) : tko K := by
  refine ⟨by have := h.2.1; omega, ?_, fun p h0 h1 => ?_⟩
  · rw [show (K 1 6 - 1).toNat = l.length by have := h.2.1; omega]
    exact h.2.2.1
  · have h9 := hw p h0 h1
    have h8 := tkk_le f (K 4 p.toNat).toNat (K 5 p.toNat).toNat
    exact ⟨by omega, by omega⟩
theorem spa_step {K : fl_N} {ts pl : List Int} {ps : List (List Int)} {al : List Int} {i p : Int} (h : i < 5) (hl : (al.length : Int) = i) (hk : i = 0 ∨ K 3 p.toNat = 0) : sp_actions K ts pl ps (5 - i).toNat al p = pb (sp_action K ts pl ps al p) (fun q => sp_actions K ts pl ps (5 - (i + 1)).toNat q.2 q.1) := by
  rw [show (5 - i).toNat = (5 - (i + 1)).toNat + 1 by omega]
  conv => lhs; unfold sp_actions
  rw [if_neg]
  rintro ⟨h1, h2⟩
  rcases hk with hk | hk
  · exact h1 (List.eq_nil_of_length_eq_zero (by omega))
  · exact h2 hk
theorem spa_z {K : fl_N} {ts pl : List Int} {ps : List (List Int)} {al : List Int} {i p : Int} (h : 5 ≤ i) : sp_actions K ts pl ps (5 - i).toNat al p = .inr (p, al) := by
  rw [show (5 - i).toNat = 0 by omega]
  rfl
theorem spa_e {K : fl_N} {ts pl : List Int} {ps : List (List Int)} {al : List Int} {m : Nat} {i p : Int} (hl : (al.length : Int) = i) (h : ¬ i = 0) (hk : ¬ K 3 p.toNat = 0) : sp_actions K ts pl ps m al p = .inr (p, al) := by
  cases m with
  | zero => rfl
  | succ m =>
    unfold sp_actions
    rw [if_pos ⟨fun e => by rw [e] at hl; simp at hl; omega, hk⟩]
theorem rep_0 {F : fl_N} {a b : Nat} (h : F b 2 = 0) : rep (F a) (F b 2) [] := ⟨h, fun j x hx => by simp at hx⟩
theorem ra_18x (j : Nat) (hj : j < 5) : nm (39 + 13 * j) 3 ∧ cl (39 + 13 * j + 3) 4 2 (-1) ∧ cl (39 + 13 * j + 8) 4 2 0 := by
  match j, hj with
  | 0, _ => exact ⟨nm_39, cl_42, cl_47⟩
  | 1, _ => exact ⟨nm_52, cl_55, cl_60⟩
  | 2, _ => exact ⟨nm_65, cl_68, cl_73⟩
  | 3, _ => exact ⟨nm_78, cl_81, cl_86⟩
  | 4, _ => exact ⟨nm_91, cl_94, cl_99⟩
  | n + 5, h => exact absurd h (by omega)

/- CheapPlanner$Reader.readDomain -/
abbrev pq_33 (G : Nat → Nat → Option Nat) (F : fl_N) (X : xi_H)  : Outcome → xi_H → Prop := gqv (fun A => ∃ F' : fl_N, fl_H sh_T G F' ++ X = A ∧ gi F' ∧ fs [(1, 1, 1, 1), (1, 1, 6, 8), (3, 6, 0, 100000), (7, 13, 0, 100000), (15, 17, 0, 100000), (21, 103, 0, 100000), (119, 119, 2, 3)] F F' ∧ (∃ K ts pl ps al, (gi K ∧ (∀ j, K 2 j = F 2 j) ∧ tkw K (F 2) (F 1 1)) ∧ (sp_dom K = .inr (ts, pl, ps, al) ∧ tkf K (F 2) (F 1 1) (tkz (F 2) (F 1 1).toNat 0 (-1))) ∧ (rep (F' 9) (F' 8 2) ts ∧ rep (F' 12) (F' 11 2) pl ∧ prd F' ps ∧ pl.length = ps.length) ∧ rep (F' 16) (F' 15 2) al ∧ di F' al.length) ∧ (F' 1 1 = 0)) (fun j A => ∃ F' : fl_N, (387 + X.length = j ∧ fl_H sh_T G F' ++ (X ++ [gx 14]) = A) ∧ gi F' ∧ fs [(1, 1, 1, 1), (1, 1, 6, 8), (3, 6, 0, 100000), (7, 13, 0, 100000), (15, 17, 0, 100000), (21, 103, 0, 100000), (119, 119, 2, 3)] F F' ∧ (∃ K e, (gi K ∧ (∀ j, K 2 j = F 2 j) ∧ tkw K (F 2) (F 1 1)) ∧ (sp_dom K = .inl e ∧ tkf K (F 2) (F 1 1) (tkz (F 2) (F 1 1).toNat 0 (-1))) ∧ F' 1 8 = e.1 + 10 * e.2) ∧ (F' 1 1 = 0))
theorem mc_33 {G : Nat → Nat → Option Nat} (hG : gg G) (F : fl_N) (X : xi_H) (hgi : gi F)  : fl_M xi_ms 33 12 236 [.ref 118] (fl_H sh_T G F ++ X) (pq_33 G F X) := by
  intro fr lo hfr hlo
  show fl_R xi_ms 33 fr lo 0 [(0, .ref 118)] [] _ _
  refine ga_aload_n (v := .ref 118) hm_33 rfl rfl rfl ?_
  refine ga_getr (b := 1) hm_33 rfl sc_118 rfl ?_
  refine gVv (nY := 5) (F := 2) (L := 53) (As := []) (b := 1) (rest := []) hm_33 rfl hm_22 rfl rfl (fl_ob sc_1) rfl rfl rfl rfl rfl (by omega) (by omega) (mc_22 hG F X hgi) (fun _ _ h => False.elim h) ?_
  have b2_ : 0 ≤ F 1 1 ∧ F 1 1 ≤ 600 := gi_g hgi rfl
  rintro A1_ ⟨F5_, hA_, g6_, s7_, c3_, c4_⟩
  subst hA_
  have g8_ : fs [(1, 1, 1, 1), (1, 1, 6, 8), (3, 6, 0, 100000), (7, 13, 0, 100000), (15, 17, 0, 100000), (21, 103, 0, 100000), (119, 119, 2, 3)] F F5_ := fs_tr fs_refl s7_ rfl
  obtain ⟨lt_, hlt_, htf_, hln_⟩ := c3_
  obtain ⟨K, hKe⟩ : ∃ K, K = F5_ := ⟨_, rfl⟩
  have hgK : gi K := by rw [hKe]; exact g6_
  have hK : tkh K F5_ := by rw [hKe]; exact ⟨fun _ _ _ => rfl, rfl⟩
  have htf : tkf K (F 2) (F 1 1) lt_ := by rw [hKe]; exact htf_
  have hbF : 0 ≤ F 1 1 ∧ F 1 1 ≤ 600 := gi_g hgi rfl
  have htw := tkw_of htf hlt_ hbF.1
  have hko := tko_of htf htw
  have hp0 : F5_ 1 7 = 0 := c4_.2.1
  have hK1 := hko.1
  have hkk : K 1 6 = F5_ 1 6 := by rw [hKe]
  have hcut : (∀ j, K 2 j = F 2 j) ∧ tkw K (F 2) (F 1 1) := ⟨fun j => by rw [hKe]; exact g8_ 2 j (by simp [fs_in]), htw⟩
  refine ga_aload_n (v := .ref 118) hm_33 rfl rfl rfl ?_
  refine ga_getr (b := 7) hm_33 rfl sc_118 rfl ?_
  refine gIv (nY := 1) (F := 1) (L := 20) (As := []) (b := 7) (rest := []) hm_33 rfl hm_30 rfl rfl (fl_ob sc_7) rfl rfl rfl rfl rfl (by omega) (by omega) ?_
  intro f9_ l10_ h11_ h12_
  show fl_R xi_ms 30 f9_ l10_ 0 [(0, .ref 7)] [] _ _
  refine ga_aload_n (v := .ref 7) hm_30 rfl rfl rfl ?_
  refine ga_getr (b := 8) hm_30 rfl sc_7 rfl ?_
  refine gIv (nY := 1) (F := 0) (L := 0) (As := []) (b := 8) (rest := []) hm_30 rfl hm_27 rfl rfl (fl_ob sc_8) rfl rfl rfl rfl rfl (by omega) (by omega) ?_
  intro f13_ l14_ h15_ h16_
  show fl_R xi_ms 27 f13_ l14_ 0 [(0, .ref 8)] [] _ _
  refine ga_aload_n (v := .ref 8) hm_27 rfl rfl rfl ?_
  refine fl_iconst hm_27 rfl ?_
  refine ga_puti (z := 0) hm_27 rfl sc_8 rfl rfl ?_
  refine gr_v hm_27 rfl rfl ?_
  clear h15_ h16_ f13_ l14_
  refine ga_aload_n (v := .ref 7) hm_30 rfl rfl rfl ?_
  refine ga_getr (b := 11) hm_30 rfl sc_7 rfl ?_
  refine gIv (nY := 1) (F := 0) (L := 0) (As := []) (b := 11) (rest := []) hm_30 rfl hm_27 rfl rfl (fl_ob sc_11) rfl rfl rfl rfl rfl (by omega) (by omega) ?_
  intro f17_ l18_ h19_ h20_
  show fl_R xi_ms 27 f17_ l18_ 0 [(0, .ref 11)] [] _ _
  refine ga_aload_n (v := .ref 11) hm_27 rfl rfl rfl ?_
  refine fl_iconst hm_27 rfl ?_
  refine ga_puti (z := 0) hm_27 rfl sc_11 rfl rfl ?_
  refine gr_v hm_27 rfl rfl ?_
  clear h19_ h20_ f17_ l18_
  refine ga_aload_n (v := .ref 7) hm_30 rfl rfl rfl ?_
  refine ga_getr (b := 15) hm_30 rfl sc_7 rfl ?_
  refine gIv (nY := 1) (F := 0) (L := 0) (As := []) (b := 15) (rest := []) hm_30 rfl hm_27 rfl rfl (fl_ob sc_15) rfl rfl rfl rfl rfl (by omega) (by omega) ?_
  intro f21_ l22_ h23_ h24_
  show fl_R xi_ms 27 f21_ l22_ 0 [(0, .ref 15)] [] _ _
  refine ga_aload_n (v := .ref 15) hm_27 rfl rfl rfl ?_
  refine fl_iconst hm_27 rfl ?_
  refine ga_puti (z := 0) hm_27 rfl sc_15 rfl rfl ?_
  refine gr_v hm_27 rfl rfl ?_
  clear h23_ h24_ f21_ l22_
  refine gr_v hm_30 rfl rfl ?_
  clear h11_ h12_ f9_ l10_
  refine ga_aload_n (v := .ref 118) hm_33 rfl rfl rfl ?_
  refine ga_ldcs hm_33 rfl ?_
  refine gIv (nY := 2) (F := 8) (L := 144) (As := [.retAddr 0]) (b := 118) (rest := []) hm_33 rfl hm_34 rfl rfl (fl_ob sc_118) rfl rfl rfl rfl rfl (by omega) (by omega) ?_
  intro f25_ l26_ h27_ h28_
  show fl_R xi_ms 34 f25_ l26_ 0 [(0, .ref 118), (1, .retAddr 0)] [] _ _
  refine ga_aload_n (v := .ref 118) hm_34 rfl rfl rfl ?_
  refine ga_getr (b := 1) hm_34 rfl sc_118 rfl ?_
  refine fl_iconst hm_34 rfl ?_
  obtain ⟨F29_, q30_⟩ : ∃ F9_, F9_ = (fl_u (fl_u (fl_u F5_ 8 2 0) 11 2 0) 15 2 0) := ⟨_, rfl⟩
  rw [← q30_]
  have g31_ : gi F29_ := by rw [q30_]; exact gi_u (gi_u (gi_u (g6_) rfl (by omega) (by omega)) rfl (by omega) (by omega)) rfl (by omega) (by omega)
  have g32_ : fs [(1, 1, 1, 1), (1, 1, 6, 8), (3, 6, 0, 100000), (7, 13, 0, 100000), (15, 17, 0, 100000), (21, 103, 0, 100000), (119, 119, 2, 3)] F F29_ := by rw [q30_]; exact fs_u (fs_u (fs_u (g8_) rfl) rfl) rfl
  have tk33_ : tkh K F29_ := by rw [q30_]; exact tkh_u (tkh_u (tkh_u (hK) (by omega) (by omega)) (by omega) (by omega)) (by omega) (by omega)
  have e34_ : F29_ 1 7 = 0 := by rw [q30_]; exact (fl_u_ne (by omega)).trans ((fl_u_ne (by omega)).trans ((fl_u_ne (by omega)).trans (hp0)))
  refine gVv (nY := 2) (F := 7) (L := 121) (As := [.int (Int32.ofInt 0)]) (b := 1) (rest := []) hm_34 rfl hm_24 rfl rfl (fl_ob sc_1) rfl rfl rfl rfl rfl (by omega) (by omega) (mc_24 hG F29_ X g31_ (K) (0) hgK tk33_ hko (by omega) (by omega)) ?_ ?_
  ·
    rintro j_ A1_ ⟨F36_, ⟨hJ_, hA_⟩, g37_, s38_, c35_⟩
    subst hA_
    subst hJ_
    try simp only [e34_] at c35_
    refine ⟨rfl, ?_⟩
    refine gw_v ⟨rfl, ?_⟩
    refine gw_v ?_
    have g39_ : fs [(1, 1, 1, 1), (1, 1, 6, 8), (3, 6, 0, 100000), (7, 13, 0, 100000), (15, 17, 0, 100000), (21, 103, 0, 100000), (119, 119, 2, 3)] F F36_ := fs_tr g32_ s38_ rfl
    have b40_ : 0 ≤ F36_ 1 8 ∧ F36_ 1 8 ≤ 100000 := gi_g g37_ rfl
    have e41_ : F29_ 1 1 = F5_ 1 1 := by rw [q30_]; exact (fl_u_ne (by omega)).trans ((fl_u_ne (by omega)).trans (fl_u_ne (by omega)))
    have e42_ : F36_ 1 1 = F5_ 1 1 := (s38_ 1 1 rfl).trans (e41_)
    have b43_ : 0 ≤ F5_ 1 1 ∧ F5_ 1 1 ≤ 600 := gi_g g6_ rfl
    exact ⟨F36_, ⟨rfl, rfl⟩, g37_, g39_, (by obtain ⟨e, c1, c2⟩ := c35_; exact ⟨K, e, ⟨hgK, hcut⟩, ⟨(by simp [sp_dom, sp_open, sp_close, pf, pb, c1]), by rw [← hlt_]; exact htf⟩, c2⟩), (by omega)⟩
  rintro A1_ ⟨F47_, hA_, g48_, s49_, c45_, c46_⟩
  subst hA_
  have g50_ : fs [(1, 1, 1, 1), (1, 1, 6, 8), (3, 6, 0, 100000), (7, 13, 0, 100000), (15, 17, 0, 100000), (21, 103, 0, 100000), (119, 119, 2, 3)] F F47_ := fs_tr g32_ s49_ rfl
  have tk51_ : tkh K F47_ := tkh_fs tk33_ s49_ (fun r k h => (fs_n (by omega) rfl)) (fs_n (by omega) rfl)
  try simp only [e34_] at c45_
  refine ga_aload_n (v := .ref 118) hm_34 rfl rfl rfl ?_
  refine ga_getr (b := 1) hm_34 rfl sc_118 rfl ?_
  refine ga_ldcs hm_34 rfl ?_
  have b52_ : 0 ≤ F47_ 1 7 ∧ F47_ 1 7 ≤ 600 := gi_g g48_ rfl
  refine gVv (nY := 2) (F := 7) (L := 123) (As := [.retAddr 2]) (b := 1) (rest := []) hm_34 rfl hm_155 rfl rfl (fl_ob sc_1) rfl rfl rfl rfl rfl (by omega) (by omega) (mc_155 hG F47_ X g48_ (K) (2) ([100, 101, 102, 105, 110, 101]) hgK tk51_ hko (by omega) (rfl) (by decide)) ?_ ?_
  ·
    rintro j_ A1_ ⟨F54_, ⟨hJ_, hA_⟩, g55_, s56_, c53_⟩
    subst hA_
    subst hJ_
    refine ⟨rfl, ?_⟩
    refine gw_v ⟨rfl, ?_⟩
    refine gw_v ?_
    have g57_ : fs [(1, 1, 1, 1), (1, 1, 6, 8), (3, 6, 0, 100000), (7, 13, 0, 100000), (15, 17, 0, 100000), (21, 103, 0, 100000), (119, 119, 2, 3)] F F54_ := fs_tr g50_ s56_ rfl
    have b58_ : 0 ≤ F54_ 1 8 ∧ F54_ 1 8 ≤ 100000 := gi_g g55_ rfl
    have e59_ : F29_ 1 1 = F5_ 1 1 := by rw [q30_]; exact (fl_u_ne (by omega)).trans ((fl_u_ne (by omega)).trans (fl_u_ne (by omega)))
    have e60_ : F47_ 1 1 = F5_ 1 1 := (s49_ 1 1 rfl).trans (e59_)
    have e61_ : F54_ 1 1 = F5_ 1 1 := (s56_ 1 1 rfl).trans (e60_)
    have b62_ : 0 ≤ F5_ 1 1 ∧ F5_ 1 1 ≤ 600 := gi_g g6_ rfl
    exact ⟨F54_, ⟨rfl, rfl⟩, g55_, g57_, (by obtain ⟨e, c1, c2⟩ := c53_; exact ⟨K, e, ⟨hgK, hcut⟩, ⟨(by simp [sp_dom, sp_open, sp_close, pf, pb, c45_, c1]), by rw [← hlt_]; exact htf⟩, c2⟩), (by omega)⟩
  rintro A1_ ⟨F66_, hA_, g67_, s68_, c64_, c65_⟩
  subst hA_
  have g69_ : fs [(1, 1, 1, 1), (1, 1, 6, 8), (3, 6, 0, 100000), (7, 13, 0, 100000), (15, 17, 0, 100000), (21, 103, 0, 100000), (119, 119, 2, 3)] F F66_ := fs_tr g50_ s68_ rfl
  have tk70_ : tkh K F66_ := tkh_fs tk51_ s68_ (fun r k h => (fs_n (by omega) rfl)) (fs_n (by omega) rfl)
  refine ga_aload_n (v := .ref 118) hm_34 rfl rfl rfl ?_
  refine ga_getr (b := 1) hm_34 rfl sc_118 rfl ?_
  refine fl_iconst hm_34 rfl ?_
  have b71_ : 0 ≤ F66_ 1 7 ∧ F66_ 1 7 ≤ 600 := gi_g g67_ rfl
  refine gVv (nY := 2) (F := 7) (L := 121) (As := [.int (Int32.ofInt 0)]) (b := 1) (rest := []) hm_34 rfl hm_24 rfl rfl (fl_ob sc_1) rfl rfl rfl rfl rfl (by omega) (by omega) (mc_24 hG F66_ X g67_ (K) (0) hgK tk70_ hko (by omega) (by omega)) ?_ ?_
  ·
    rintro j_ A1_ ⟨F73_, ⟨hJ_, hA_⟩, g74_, s75_, c72_⟩
    subst hA_
    subst hJ_
    refine ⟨rfl, ?_⟩
    refine gw_v ⟨rfl, ?_⟩
    refine gw_v ?_
    have g76_ : fs [(1, 1, 1, 1), (1, 1, 6, 8), (3, 6, 0, 100000), (7, 13, 0, 100000), (15, 17, 0, 100000), (21, 103, 0, 100000), (119, 119, 2, 3)] F F73_ := fs_tr g69_ s75_ rfl
    have b77_ : 0 ≤ F73_ 1 8 ∧ F73_ 1 8 ≤ 100000 := gi_g g74_ rfl
    have e78_ : F29_ 1 1 = F5_ 1 1 := by rw [q30_]; exact (fl_u_ne (by omega)).trans ((fl_u_ne (by omega)).trans (fl_u_ne (by omega)))
    have e79_ : F47_ 1 1 = F5_ 1 1 := (s49_ 1 1 rfl).trans (e78_)
    have e80_ : F66_ 1 1 = F5_ 1 1 := (s68_ 1 1 rfl).trans (e79_)
    have e81_ : F73_ 1 1 = F5_ 1 1 := (s75_ 1 1 rfl).trans (e80_)
    have b82_ : 0 ≤ F5_ 1 1 ∧ F5_ 1 1 ≤ 600 := gi_g g6_ rfl
    exact ⟨F73_, ⟨rfl, rfl⟩, g74_, g76_, (by obtain ⟨e, c1, c2⟩ := c72_; exact ⟨K, e, ⟨hgK, hcut⟩, ⟨(by simp [sp_dom, sp_open, sp_close, pf, pb, c45_, c64_, c1]), by rw [← hlt_]; exact htf⟩, c2⟩), (by omega)⟩
  rintro A1_ ⟨F86_, hA_, g87_, s88_, c84_, c85_⟩
  subst hA_
  have g89_ : fs [(1, 1, 1, 1), (1, 1, 6, 8), (3, 6, 0, 100000), (7, 13, 0, 100000), (15, 17, 0, 100000), (21, 103, 0, 100000), (119, 119, 2, 3)] F F86_ := fs_tr g69_ s88_ rfl
  have tk90_ : tkh K F86_ := tkh_fs tk70_ s88_ (fun r k h => (fs_n (by omega) rfl)) (fs_n (by omega) rfl)
  refine ga_aload_n (v := .ref 118) hm_34 rfl rfl rfl ?_
  refine ga_getr (b := 1) hm_34 rfl sc_118 rfl ?_
  refine ga_aload_n (v := .retAddr 0) hm_34 rfl rfl rfl ?_
  have b91_ : 0 ≤ F86_ 1 7 ∧ F86_ 1 7 ≤ 600 := gi_g g87_ rfl
  refine gVv (nY := 2) (F := 7) (L := 123) (As := [.retAddr 0]) (b := 1) (rest := []) hm_34 rfl hm_155 rfl rfl (fl_ob sc_1) rfl rfl rfl rfl rfl (by omega) (by omega) (mc_155 hG F86_ X g87_ (K) (0) ([100, 111, 109, 97, 105, 110]) hgK tk90_ hko (by omega) (rfl) (by decide)) ?_ ?_
  ·
    rintro j_ A1_ ⟨F93_, ⟨hJ_, hA_⟩, g94_, s95_, c92_⟩
    subst hA_
    subst hJ_
    refine ⟨rfl, ?_⟩
    refine gw_v ⟨rfl, ?_⟩
    refine gw_v ?_
    have g96_ : fs [(1, 1, 1, 1), (1, 1, 6, 8), (3, 6, 0, 100000), (7, 13, 0, 100000), (15, 17, 0, 100000), (21, 103, 0, 100000), (119, 119, 2, 3)] F F93_ := fs_tr g89_ s95_ rfl
    have b97_ : 0 ≤ F93_ 1 8 ∧ F93_ 1 8 ≤ 100000 := gi_g g94_ rfl
    have e98_ : F29_ 1 1 = F5_ 1 1 := by rw [q30_]; exact (fl_u_ne (by omega)).trans ((fl_u_ne (by omega)).trans (fl_u_ne (by omega)))
    have e99_ : F47_ 1 1 = F5_ 1 1 := (s49_ 1 1 rfl).trans (e98_)
    have e100_ : F66_ 1 1 = F5_ 1 1 := (s68_ 1 1 rfl).trans (e99_)
    have e101_ : F86_ 1 1 = F5_ 1 1 := (s88_ 1 1 rfl).trans (e100_)
    have e102_ : F93_ 1 1 = F5_ 1 1 := (s95_ 1 1 rfl).trans (e101_)
    have b103_ : 0 ≤ F5_ 1 1 ∧ F5_ 1 1 ≤ 600 := gi_g g6_ rfl
    exact ⟨F93_, ⟨rfl, rfl⟩, g94_, g96_, (by obtain ⟨e, c1, c2⟩ := c92_; exact ⟨K, e, ⟨hgK, hcut⟩, ⟨(by simp [sp_dom, sp_open, sp_close, pf, pb, c45_, c64_, c84_, c1]), by rw [← hlt_]; exact htf⟩, c2⟩), (by omega)⟩
  rintro A1_ ⟨F107_, hA_, g108_, s109_, c105_, c106_⟩
  subst hA_
  have g110_ : fs [(1, 1, 1, 1), (1, 1, 6, 8), (3, 6, 0, 100000), (7, 13, 0, 100000), (15, 17, 0, 100000), (21, 103, 0, 100000), (119, 119, 2, 3)] F F107_ := fs_tr g89_ s109_ rfl
  have tk111_ : tkh K F107_ := tkh_fs tk90_ s109_ (fun r k h => (fs_n (by omega) rfl)) (fs_n (by omega) rfl)
  refine gr_v hm_34 rfl rfl ?_
  clear h27_ h28_ f25_ l26_
  refine ga_aload_n (v := .ref 118) hm_33 rfl rfl rfl ?_
  refine ga_getr (b := 7) hm_33 rfl sc_118 rfl ?_
  refine ga_aload_n (v := .ref 118) hm_33 rfl rfl rfl ?_
  refine ga_getr (b := 1) hm_33 rfl sc_118 rfl ?_
  refine gIl (nY := 1) (F := 0) (L := 0) (As := []) (b := 1) (rest := [.ref 7]) hm_33 rfl hm_149 rfl rfl (fl_ob sc_1) rfl rfl rfl rfl rfl (by omega) (by omega) ?_
  intro f112_ l113_ h114_ h115_
  show fl_R xi_ms 149 f112_ l113_ 0 [(0, .ref 1)] [] _ _
  refine ga_aload_n (v := .ref 1) hm_149 rfl rfl rfl ?_
  refine ga_getr (b := 6) hm_149 rfl sc_1 rfl ?_
  refine ga_aload_n (v := .ref 1) hm_149 rfl rfl rfl ?_
  have b116_ : 0 ≤ F107_ 1 7 ∧ F107_ 1 7 ≤ 600 := gi_g g108_ rfl
  refine ga_geti (z := F107_ 1 7) hm_149 rfl sc_1 rfl (rfl) ?_
  have e117_ : F107_ 6 (F107_ 1 7).toNat = K 6 (F107_ 1 7).toNat := tk111_.1 6 (F107_ 1 7).toNat (by omega)
  have b118_ : -9223372036854775808 ≤ K 6 (F107_ 1 7).toNat ∧ K 6 (F107_ 1 7).toNat ≤ 9223372036854775807 := gi_g hgK rfl
  refine ga_lald (z := F107_ 1 7) (w := K 6 (F107_ 1 7).toNat) hm_149 rfl sc_6 (by omega) (by omega) (by omega) (e117_) ?_
  refine gr_l hm_149 rfl rfl ?_
  clear h114_ h115_ f112_ l113_
  refine ga_putl hm_33 rfl sc_7 rfl rfl ?_
  refine ga_aload_n (v := .ref 118) hm_33 rfl rfl rfl ?_
  refine ga_getr (b := 1) hm_33 rfl sc_118 rfl ?_
  refine fl_iconst hm_33 rfl ?_
  obtain ⟨F119_, q120_⟩ : ∃ F9_, F9_ = (fl_u F107_ 7 0 (K 6 (F107_ 1 7).toNat)) := ⟨_, rfl⟩
  rw [← q120_]
  have g121_ : gi F119_ := by rw [q120_]; exact gi_u (g108_) rfl (by omega) (by omega)
  have g122_ : fs [(1, 1, 1, 1), (1, 1, 6, 8), (3, 6, 0, 100000), (7, 13, 0, 100000), (15, 17, 0, 100000), (21, 103, 0, 100000), (119, 119, 2, 3)] F F119_ := by rw [q120_]; exact fs_u (g110_) rfl
  have tk123_ : tkh K F119_ := by rw [q120_]; exact tkh_u (tk111_) (by omega) (by omega)
  have e124_ : F119_ 1 7 = F107_ 1 7 := by rw [q120_]; exact fl_u_ne (by omega)
  refine gVv (nY := 2) (F := 7) (L := 121) (As := [.int (Int32.ofInt 2)]) (b := 1) (rest := []) hm_33 rfl hm_24 rfl rfl (fl_ob sc_1) rfl rfl rfl rfl rfl (by omega) (by omega) (mc_24 hG F119_ X g121_ (K) (2) hgK tk123_ hko (by omega) (by omega)) ?_ ?_
  ·
    rintro j_ A1_ ⟨F126_, ⟨hJ_, hA_⟩, g127_, s128_, c125_⟩
    subst hA_
    subst hJ_
    try simp only [e124_] at c125_
    refine ⟨rfl, ?_⟩
    refine gw_v ?_
    have g129_ : fs [(1, 1, 1, 1), (1, 1, 6, 8), (3, 6, 0, 100000), (7, 13, 0, 100000), (15, 17, 0, 100000), (21, 103, 0, 100000), (119, 119, 2, 3)] F F126_ := fs_tr g122_ s128_ rfl
    have b130_ : 0 ≤ F126_ 1 8 ∧ F126_ 1 8 ≤ 100000 := gi_g g127_ rfl
    have e131_ : F29_ 1 1 = F5_ 1 1 := by rw [q30_]; exact (fl_u_ne (by omega)).trans ((fl_u_ne (by omega)).trans (fl_u_ne (by omega)))
    have e132_ : F47_ 1 1 = F5_ 1 1 := (s49_ 1 1 rfl).trans (e131_)
    have e133_ : F66_ 1 1 = F5_ 1 1 := (s68_ 1 1 rfl).trans (e132_)
    have e134_ : F86_ 1 1 = F5_ 1 1 := (s88_ 1 1 rfl).trans (e133_)
    have e135_ : F107_ 1 1 = F5_ 1 1 := (s109_ 1 1 rfl).trans (e134_)
    have e136_ : F119_ 1 1 = F5_ 1 1 := by rw [q120_]; exact (fl_u_ne (by omega)).trans (e135_)
    have e137_ : F126_ 1 1 = F5_ 1 1 := (s128_ 1 1 rfl).trans (e136_)
    have b138_ : 0 ≤ F5_ 1 1 ∧ F5_ 1 1 ≤ 600 := gi_g g6_ rfl
    exact ⟨F126_, ⟨rfl, rfl⟩, g127_, g129_, (by obtain ⟨e, c1, c2⟩ := c125_; exact ⟨K, e, ⟨hgK, hcut⟩, ⟨(by simp [sp_dom, sp_open, sp_close, pf, pb, c45_, c64_, c84_, c105_, c1]), by rw [← hlt_]; exact htf⟩, c2⟩), (by omega)⟩
  rintro A1_ ⟨F142_, hA_, g143_, s144_, c140_, c141_⟩
  subst hA_
  have g145_ : fs [(1, 1, 1, 1), (1, 1, 6, 8), (3, 6, 0, 100000), (7, 13, 0, 100000), (15, 17, 0, 100000), (21, 103, 0, 100000), (119, 119, 2, 3)] F F142_ := fs_tr g122_ s144_ rfl
  have tk146_ : tkh K F142_ := tkh_fs tk123_ s144_ (fun r k h => (fs_n (by omega) rfl)) (fs_n (by omega) rfl)
  try simp only [e124_] at c140_
  refine ga_aload_n (v := .ref 118) hm_33 rfl rfl rfl ?_
  refine ga_getr (b := 1) hm_33 rfl sc_118 rfl ?_
  refine fl_iconst hm_33 rfl ?_
  have b147_ : 0 ≤ F142_ 1 7 ∧ F142_ 1 7 ≤ 600 := gi_g g143_ rfl
  refine gVv (nY := 2) (F := 7) (L := 121) (As := [.int (Int32.ofInt 1)]) (b := 1) (rest := []) hm_33 rfl hm_24 rfl rfl (fl_ob sc_1) rfl rfl rfl rfl rfl (by omega) (by omega) (mc_24 hG F142_ X g143_ (K) (1) hgK tk146_ hko (by omega) (by omega)) ?_ ?_
  ·
    rintro j_ A1_ ⟨F149_, ⟨hJ_, hA_⟩, g150_, s151_, c148_⟩
    subst hA_
    subst hJ_
    refine ⟨rfl, ?_⟩
    refine gw_v ?_
    have g152_ : fs [(1, 1, 1, 1), (1, 1, 6, 8), (3, 6, 0, 100000), (7, 13, 0, 100000), (15, 17, 0, 100000), (21, 103, 0, 100000), (119, 119, 2, 3)] F F149_ := fs_tr g145_ s151_ rfl
    have b153_ : 0 ≤ F149_ 1 8 ∧ F149_ 1 8 ≤ 100000 := gi_g g150_ rfl
    have e154_ : F29_ 1 1 = F5_ 1 1 := by rw [q30_]; exact (fl_u_ne (by omega)).trans ((fl_u_ne (by omega)).trans (fl_u_ne (by omega)))
    have e155_ : F47_ 1 1 = F5_ 1 1 := (s49_ 1 1 rfl).trans (e154_)
    have e156_ : F66_ 1 1 = F5_ 1 1 := (s68_ 1 1 rfl).trans (e155_)
    have e157_ : F86_ 1 1 = F5_ 1 1 := (s88_ 1 1 rfl).trans (e156_)
    have e158_ : F107_ 1 1 = F5_ 1 1 := (s109_ 1 1 rfl).trans (e157_)
    have e159_ : F119_ 1 1 = F5_ 1 1 := by rw [q120_]; exact (fl_u_ne (by omega)).trans (e158_)
    have e160_ : F142_ 1 1 = F5_ 1 1 := (s144_ 1 1 rfl).trans (e159_)
    have e161_ : F149_ 1 1 = F5_ 1 1 := (s151_ 1 1 rfl).trans (e160_)
    have b162_ : 0 ≤ F5_ 1 1 ∧ F5_ 1 1 ≤ 600 := gi_g g6_ rfl
    exact ⟨F149_, ⟨rfl, rfl⟩, g150_, g152_, (by obtain ⟨e, c1, c2⟩ := c148_; exact ⟨K, e, ⟨hgK, hcut⟩, ⟨(by simp [sp_dom, sp_open, sp_close, pf, pb, c45_, c64_, c84_, c105_, c140_, c1]), by rw [← hlt_]; exact htf⟩, c2⟩), (by omega)⟩
  rintro A1_ ⟨F166_, hA_, g167_, s168_, c164_, c165_⟩
  subst hA_
  have g169_ : fs [(1, 1, 1, 1), (1, 1, 6, 8), (3, 6, 0, 100000), (7, 13, 0, 100000), (15, 17, 0, 100000), (21, 103, 0, 100000), (119, 119, 2, 3)] F F166_ := fs_tr g145_ s168_ rfl
  have tk170_ : tkh K F166_ := tkh_fs tk146_ s168_ (fun r k h => (fs_n (by omega) rfl)) (fs_n (by omega) rfl)
  refine ga_aload_n (v := .ref 118) hm_33 rfl rfl rfl ?_
  refine ga_getr (b := 1) hm_33 rfl sc_118 rfl ?_
  refine fl_iconst hm_33 rfl ?_
  have b171_ : 0 ≤ F166_ 1 7 ∧ F166_ 1 7 ≤ 600 := gi_g g167_ rfl
  refine gVv (nY := 2) (F := 7) (L := 121) (As := [.int (Int32.ofInt 0)]) (b := 1) (rest := []) hm_33 rfl hm_24 rfl rfl (fl_ob sc_1) rfl rfl rfl rfl rfl (by omega) (by omega) (mc_24 hG F166_ X g167_ (K) (0) hgK tk170_ hko (by omega) (by omega)) ?_ ?_
  ·
    rintro j_ A1_ ⟨F173_, ⟨hJ_, hA_⟩, g174_, s175_, c172_⟩
    subst hA_
    subst hJ_
    refine ⟨rfl, ?_⟩
    refine gw_v ?_
    have g176_ : fs [(1, 1, 1, 1), (1, 1, 6, 8), (3, 6, 0, 100000), (7, 13, 0, 100000), (15, 17, 0, 100000), (21, 103, 0, 100000), (119, 119, 2, 3)] F F173_ := fs_tr g169_ s175_ rfl
    have b177_ : 0 ≤ F173_ 1 8 ∧ F173_ 1 8 ≤ 100000 := gi_g g174_ rfl
    have e178_ : F29_ 1 1 = F5_ 1 1 := by rw [q30_]; exact (fl_u_ne (by omega)).trans ((fl_u_ne (by omega)).trans (fl_u_ne (by omega)))
    have e179_ : F47_ 1 1 = F5_ 1 1 := (s49_ 1 1 rfl).trans (e178_)
    have e180_ : F66_ 1 1 = F5_ 1 1 := (s68_ 1 1 rfl).trans (e179_)
    have e181_ : F86_ 1 1 = F5_ 1 1 := (s88_ 1 1 rfl).trans (e180_)
    have e182_ : F107_ 1 1 = F5_ 1 1 := (s109_ 1 1 rfl).trans (e181_)
    have e183_ : F119_ 1 1 = F5_ 1 1 := by rw [q120_]; exact (fl_u_ne (by omega)).trans (e182_)
    have e184_ : F142_ 1 1 = F5_ 1 1 := (s144_ 1 1 rfl).trans (e183_)
    have e185_ : F166_ 1 1 = F5_ 1 1 := (s168_ 1 1 rfl).trans (e184_)
    have e186_ : F173_ 1 1 = F5_ 1 1 := (s175_ 1 1 rfl).trans (e185_)
    have b187_ : 0 ≤ F5_ 1 1 ∧ F5_ 1 1 ≤ 600 := gi_g g6_ rfl
    exact ⟨F173_, ⟨rfl, rfl⟩, g174_, g176_, (by obtain ⟨e, c1, c2⟩ := c172_; exact ⟨K, e, ⟨hgK, hcut⟩, ⟨(by simp [sp_dom, sp_open, sp_close, pf, pb, c45_, c64_, c84_, c105_, c140_, c164_, c1]), by rw [← hlt_]; exact htf⟩, c2⟩), (by omega)⟩
  rintro A1_ ⟨F191_, hA_, g192_, s193_, c189_, c190_⟩
  subst hA_
  have g194_ : fs [(1, 1, 1, 1), (1, 1, 6, 8), (3, 6, 0, 100000), (7, 13, 0, 100000), (15, 17, 0, 100000), (21, 103, 0, 100000), (119, 119, 2, 3)] F F191_ := fs_tr g169_ s193_ rfl
  have tk195_ : tkh K F191_ := tkh_fs tk170_ s193_ (fun r k h => (fs_n (by omega) rfl)) (fs_n (by omega) rfl)
  refine ga_aload_n (v := .ref 118) hm_33 rfl rfl rfl ?_
  refine ga_getr (b := 1) hm_33 rfl sc_118 rfl ?_
  refine ga_ldcs hm_33 rfl ?_
  have b196_ : 0 ≤ F191_ 1 7 ∧ F191_ 1 7 ≤ 600 := gi_g g192_ rfl
  refine gVi (nY := 4) (F := 6) (L := 100) (As := [.retAddr 3]) (b := 1) (rest := []) hm_33 rfl hm_152 rfl rfl (fl_ob sc_1) rfl rfl rfl rfl rfl (by omega) (by omega) (mc_152 hG F191_ X g192_ (K) (3) ([58, 116, 121, 112, 101, 115]) hgK tk195_ hko (by omega) (rfl) (by decide)) (fun _ _ h => False.elim h) ?_
  rintro z197_ A1_ (⟨hA_, hz_, c198_⟩ | ⟨hA_, hz_, c199_⟩)
  ·
    subst hA_
    subst hz_
    refine fl_if_eq hm_33 rfl ⟨by omega, by omega⟩ (fun _ => ?_) (fun h => absurd (by omega) h)
    obtain ⟨ts, hts0⟩ : ∃ ts : List Int, ts = [] := ⟨_, rfl⟩
    refine ga_aload_n (v := .ref 118) hm_33 rfl rfl rfl ?_
    have e200_ : F29_ 8 2 = 0 := by rw [q30_]; exact (fl_u_ne (by omega)).trans ((fl_u_ne (by omega)).trans (fl_u_eq))
    have e201_ : F47_ 8 2 = 0 := (s49_ 8 2 rfl).trans (e200_)
    have e202_ : F66_ 8 2 = 0 := (s68_ 8 2 rfl).trans (e201_)
    have e203_ : F86_ 8 2 = 0 := (s88_ 8 2 rfl).trans (e202_)
    have e204_ : F107_ 8 2 = 0 := (s109_ 8 2 rfl).trans (e203_)
    have e205_ : F119_ 8 2 = 0 := by rw [q120_]; exact (fl_u_ne (by omega)).trans (e204_)
    have e206_ : F142_ 8 2 = 0 := (s144_ 8 2 rfl).trans (e205_)
    have e207_ : F166_ 8 2 = 0 := (s168_ 8 2 rfl).trans (e206_)
    have e208_ : F191_ 8 2 = 0 := (s193_ 8 2 rfl).trans (e207_)
    have e209_ : F29_ 11 2 = 0 := by rw [q30_]; exact (fl_u_ne (by omega)).trans (fl_u_eq)
    have e210_ : F47_ 11 2 = 0 := (s49_ 11 2 rfl).trans (e209_)
    have e211_ : F66_ 11 2 = 0 := (s68_ 11 2 rfl).trans (e210_)
    have e212_ : F86_ 11 2 = 0 := (s88_ 11 2 rfl).trans (e211_)
    have e213_ : F107_ 11 2 = 0 := (s109_ 11 2 rfl).trans (e212_)
    have e214_ : F119_ 11 2 = 0 := by rw [q120_]; exact (fl_u_ne (by omega)).trans (e213_)
    have e215_ : F142_ 11 2 = 0 := (s144_ 11 2 rfl).trans (e214_)
    have e216_ : F166_ 11 2 = 0 := (s168_ 11 2 rfl).trans (e215_)
    have e217_ : F191_ 11 2 = 0 := (s193_ 11 2 rfl).trans (e216_)
    refine gVv (nY := 2) (F := 10) (L := 188) (As := []) (b := 118) (rest := []) hm_33 rfl hm_124 rfl rfl (fl_ob sc_118) rfl rfl rfl rfl rfl (by omega) (by omega) (mc_124 hG F191_ X g192_ (K) (ts) hgK tk195_ hko (by omega) (by rw [hts0]; exact rep_0 (e208_)) (rep_0 (e217_)) (rep_0 (e217_))) ?_ ?_
    ·
      rintro j_ A1_ ⟨F219_, ⟨hJ_, hA_⟩, g220_, s221_, c218_⟩
      subst hA_
      subst hJ_
      refine ⟨rfl, ?_⟩
      refine gw_v ?_
      have g222_ : fs [(1, 1, 1, 1), (1, 1, 6, 8), (3, 6, 0, 100000), (7, 13, 0, 100000), (15, 17, 0, 100000), (21, 103, 0, 100000), (119, 119, 2, 3)] F F219_ := fs_tr g194_ s221_ rfl
      have b223_ : 0 ≤ F219_ 1 8 ∧ F219_ 1 8 ≤ 100000 := gi_g g220_ rfl
      have e224_ : F29_ 1 1 = F5_ 1 1 := by rw [q30_]; exact (fl_u_ne (by omega)).trans ((fl_u_ne (by omega)).trans (fl_u_ne (by omega)))
      have e225_ : F47_ 1 1 = F5_ 1 1 := (s49_ 1 1 rfl).trans (e224_)
      have e226_ : F66_ 1 1 = F5_ 1 1 := (s68_ 1 1 rfl).trans (e225_)
      have e227_ : F86_ 1 1 = F5_ 1 1 := (s88_ 1 1 rfl).trans (e226_)
      have e228_ : F107_ 1 1 = F5_ 1 1 := (s109_ 1 1 rfl).trans (e227_)
      have e229_ : F119_ 1 1 = F5_ 1 1 := by rw [q120_]; exact (fl_u_ne (by omega)).trans (e228_)
      have e230_ : F142_ 1 1 = F5_ 1 1 := (s144_ 1 1 rfl).trans (e229_)
      have e231_ : F166_ 1 1 = F5_ 1 1 := (s168_ 1 1 rfl).trans (e230_)
      have e232_ : F191_ 1 1 = F5_ 1 1 := (s193_ 1 1 rfl).trans (e231_)
      have e233_ : F219_ 1 1 = F5_ 1 1 := (s221_ 1 1 rfl).trans (e232_)
      have b234_ : 0 ≤ F5_ 1 1 ∧ F5_ 1 1 ≤ 600 := gi_g g6_ rfl
      exact ⟨F219_, ⟨rfl, rfl⟩, g220_, g222_, (by obtain ⟨e, c1, c2⟩ := c218_; exact ⟨K, e, ⟨hgK, hcut⟩, ⟨(by subst hts0; simp [sp_dom, sp_open, sp_close, pf, pb, c45_, c64_, c84_, c105_, c140_, c164_, c189_, c198_, c1]), by rw [← hlt_]; exact htf⟩, c2⟩), (by omega)⟩
    rintro A1_ ⟨F238_, hA_, g239_, s240_, c236_, c237_⟩
    subst hA_
    have g241_ : fs [(1, 1, 1, 1), (1, 1, 6, 8), (3, 6, 0, 100000), (7, 13, 0, 100000), (15, 17, 0, 100000), (21, 103, 0, 100000), (119, 119, 2, 3)] F F238_ := fs_tr g194_ s240_ rfl
    have tk242_ : tkh K F238_ := tkh_fs tk195_ s240_ (fun r k h => (fs_n (by omega) (fs_n (by omega) (fs_n (by omega) rfl)))) (fs_n (by omega) (fs_n (by omega) (fs_n (by omega) rfl)))
    have hb11 : 0 ≤ F238_ 11 2 ∧ F238_ 11 2 ≤ 6 := gi_g g239_ rfl
    obtain ⟨pl, ps, ⟨cq1_, cq2_⟩, cq3_, cq4_⟩ := c236_
    have hpl1 := cq3_.1
    refine fl_iconst hm_33 rfl ?_
    refine ga_istore_n (lv2 := [(1, .int (Int32.ofInt 0)), (0, .ref 118)]) hm_33 rfl (Nat.le_of_ble_eq_true rfl) rfl ?_
    have b246_ : 0 ≤ F238_ 1 7 ∧ F238_ 1 7 ≤ 600 := gi_g g239_ rfl
    have L244_ : ∀ (n243_ : Nat) (i : Int) (al : List Int) (alt : List Int) (F1 : fl_N), (5 - i : Int).toNat = n243_ → (gi F1) → (fs [(1, 1, 7, 8), (15, 17, 0, 100000), (39, 103, 0, 100000), (119, 119, 2, 3)] F238_ F1) → (0 ≤ i ∧ i ≤ 5) → (rep (F1 16) (F1 15 2) al) → (rep (F1 17) (F1 15 2) alt) → ((al.length : Int) = i) → (0 ≤ F1 1 7 ∧ F1 1 7 ≤ K 1 6 - 1) → (di F1 i.toNat) → (sp_actions K ts pl ps 5 [] (F238_ 1 7) = sp_actions K ts pl ps (5 - i).toNat al (F1 1 7)) → fl_R xi_ms 33 fr lo 88 [(1, .int (Int32.ofInt i)), (0, .ref 118)] [] (fl_H sh_T G F1 ++ X) (pq_33 G F X) := by
      intro n243_
      induction n243_ using Nat.strongRecOn with
      | ind n243_ ih245_ =>
      intro i al alt F1 hn247_ hg_F1 hf_F1 hi hal hat hai hp1 hdi hsp
      have g248_ : fs [(1, 1, 1, 1), (1, 1, 6, 8), (3, 6, 0, 100000), (7, 13, 0, 100000), (15, 17, 0, 100000), (21, 103, 0, 100000), (119, 119, 2, 3)] F F1 := fs_tr g241_ hf_F1 rfl
      have tk249_ : tkh K F1 := tkh_fs tk242_ hf_F1 (fun r k h => (fs_n (by omega) (fs_n (by omega) (fs_n (by omega) (fs_n (by omega) rfl))))) (fs_n (by omega) (fs_n (by omega) (fs_n (by omega) (fs_n (by omega) rfl))))
      refine ga_iload_n (z := i) hm_33 rfl rfl ?_
      refine fl_iconst hm_33 rfl ?_
      refine fl_icmp_ge (a := i) (b := 5) hm_33 rfl ⟨by omega, by omega⟩ ⟨by omega, by omega⟩ (fun h250_ => ?_) (fun h251_ => ?_)
      ·
        refine ga_aload_n (v := .ref 118) hm_33 rfl rfl rfl ?_
        refine gIv (nY := 1) (F := 8) (L := 142) (As := []) (b := 118) (rest := []) hm_33 rfl hm_117 rfl rfl (fl_ob sc_118) rfl rfl rfl rfl rfl (by omega) (by omega) ?_
        intro f252_ l253_ h254_ h255_
        show fl_R xi_ms 117 f252_ l253_ 0 [(0, .ref 118)] [] _ _
        refine ga_aload_n (v := .ref 118) hm_117 rfl rfl rfl ?_
        refine ga_getr (b := 1) hm_117 rfl sc_118 rfl ?_
        refine fl_iconst hm_117 rfl ?_
        have b256_ : 0 ≤ F1 1 7 ∧ F1 1 7 ≤ 600 := gi_g hg_F1 rfl
        refine gVv (nY := 2) (F := 7) (L := 121) (As := [.int (Int32.ofInt 1)]) (b := 1) (rest := []) hm_117 rfl hm_24 rfl rfl (fl_ob sc_1) rfl rfl rfl rfl rfl (by omega) (by omega) (mc_24 hG F1 X hg_F1 (K) (1) hgK tk249_ hko (by omega) (by omega)) ?_ ?_
        ·
          rintro j_ A1_ ⟨F258_, ⟨hJ_, hA_⟩, g259_, s260_, c257_⟩
          subst hA_
          subst hJ_
          refine ⟨rfl, ?_⟩
          refine gw_v ⟨rfl, ?_⟩
          refine gw_v ?_
          have g261_ : fs [(1, 1, 1, 1), (1, 1, 6, 8), (3, 6, 0, 100000), (7, 13, 0, 100000), (15, 17, 0, 100000), (21, 103, 0, 100000), (119, 119, 2, 3)] F F258_ := fs_tr g248_ s260_ rfl
          have b262_ : 0 ≤ F258_ 1 8 ∧ F258_ 1 8 ≤ 100000 := gi_g g259_ rfl
          have e263_ : F29_ 1 1 = F5_ 1 1 := by rw [q30_]; exact (fl_u_ne (by omega)).trans ((fl_u_ne (by omega)).trans (fl_u_ne (by omega)))
          have e264_ : F47_ 1 1 = F5_ 1 1 := (s49_ 1 1 rfl).trans (e263_)
          have e265_ : F66_ 1 1 = F5_ 1 1 := (s68_ 1 1 rfl).trans (e264_)
          have e266_ : F86_ 1 1 = F5_ 1 1 := (s88_ 1 1 rfl).trans (e265_)
          have e267_ : F107_ 1 1 = F5_ 1 1 := (s109_ 1 1 rfl).trans (e266_)
          have e268_ : F119_ 1 1 = F5_ 1 1 := by rw [q120_]; exact (fl_u_ne (by omega)).trans (e267_)
          have e269_ : F142_ 1 1 = F5_ 1 1 := (s144_ 1 1 rfl).trans (e268_)
          have e270_ : F166_ 1 1 = F5_ 1 1 := (s168_ 1 1 rfl).trans (e269_)
          have e271_ : F191_ 1 1 = F5_ 1 1 := (s193_ 1 1 rfl).trans (e270_)
          have e272_ : F238_ 1 1 = F5_ 1 1 := (s240_ 1 1 rfl).trans (e271_)
          have e273_ : F1 1 1 = F5_ 1 1 := (hf_F1 1 1 rfl).trans (e272_)
          have e274_ : F258_ 1 1 = F5_ 1 1 := (s260_ 1 1 rfl).trans (e273_)
          have b275_ : 0 ≤ F5_ 1 1 ∧ F5_ 1 1 ≤ 600 := gi_g g6_ rfl
          exact ⟨F258_, ⟨rfl, rfl⟩, g259_, g261_, (by obtain ⟨e, c1, c2⟩ := c257_; exact ⟨K, e, ⟨hgK, hcut⟩, ⟨(by have hx := hsp.trans (spa_z (by omega)); subst hts0; simp [sp_dom, sp_open, sp_close, pf, pb, c45_, c64_, c84_, c105_, c140_, c164_, c189_, c198_, cq1_, hx, c1]), by rw [← hlt_]; exact htf⟩, c2⟩), (by omega)⟩
        rintro A1_ ⟨F279_, hA_, g280_, s281_, c277_, c278_⟩
        subst hA_
        have g282_ : fs [(1, 1, 1, 1), (1, 1, 6, 8), (3, 6, 0, 100000), (7, 13, 0, 100000), (15, 17, 0, 100000), (21, 103, 0, 100000), (119, 119, 2, 3)] F F279_ := fs_tr g248_ s281_ rfl
        have tk283_ : tkh K F279_ := tkh_fs tk249_ s281_ (fun r k h => (fs_n (by omega) rfl)) (fs_n (by omega) rfl)
        refine ga_aload_n (v := .ref 118) hm_117 rfl rfl rfl ?_
        refine ga_getr (b := 1) hm_117 rfl sc_118 rfl ?_
        refine fl_iconst hm_117 rfl ?_
        have b284_ : 0 ≤ F279_ 1 7 ∧ F279_ 1 7 ≤ 600 := gi_g g280_ rfl
        refine gVv (nY := 2) (F := 7) (L := 121) (As := [.int (Int32.ofInt 5)]) (b := 1) (rest := []) hm_117 rfl hm_24 rfl rfl (fl_ob sc_1) rfl rfl rfl rfl rfl (by omega) (by omega) (mc_24 hG F279_ X g280_ (K) (5) hgK tk283_ hko (by omega) (by omega)) ?_ ?_
        ·
          rintro j_ A1_ ⟨F286_, ⟨hJ_, hA_⟩, g287_, s288_, c285_⟩
          subst hA_
          subst hJ_
          refine ⟨rfl, ?_⟩
          refine gw_v ⟨rfl, ?_⟩
          refine gw_v ?_
          have g289_ : fs [(1, 1, 1, 1), (1, 1, 6, 8), (3, 6, 0, 100000), (7, 13, 0, 100000), (15, 17, 0, 100000), (21, 103, 0, 100000), (119, 119, 2, 3)] F F286_ := fs_tr g282_ s288_ rfl
          have b290_ : 0 ≤ F286_ 1 8 ∧ F286_ 1 8 ≤ 100000 := gi_g g287_ rfl
          have e291_ : F29_ 1 1 = F5_ 1 1 := by rw [q30_]; exact (fl_u_ne (by omega)).trans ((fl_u_ne (by omega)).trans (fl_u_ne (by omega)))
          have e292_ : F47_ 1 1 = F5_ 1 1 := (s49_ 1 1 rfl).trans (e291_)
          have e293_ : F66_ 1 1 = F5_ 1 1 := (s68_ 1 1 rfl).trans (e292_)
          have e294_ : F86_ 1 1 = F5_ 1 1 := (s88_ 1 1 rfl).trans (e293_)
          have e295_ : F107_ 1 1 = F5_ 1 1 := (s109_ 1 1 rfl).trans (e294_)
          have e296_ : F119_ 1 1 = F5_ 1 1 := by rw [q120_]; exact (fl_u_ne (by omega)).trans (e295_)
          have e297_ : F142_ 1 1 = F5_ 1 1 := (s144_ 1 1 rfl).trans (e296_)
          have e298_ : F166_ 1 1 = F5_ 1 1 := (s168_ 1 1 rfl).trans (e297_)
          have e299_ : F191_ 1 1 = F5_ 1 1 := (s193_ 1 1 rfl).trans (e298_)
          have e300_ : F238_ 1 1 = F5_ 1 1 := (s240_ 1 1 rfl).trans (e299_)
          have e301_ : F1 1 1 = F5_ 1 1 := (hf_F1 1 1 rfl).trans (e300_)
          have e302_ : F279_ 1 1 = F5_ 1 1 := (s281_ 1 1 rfl).trans (e301_)
          have e303_ : F286_ 1 1 = F5_ 1 1 := (s288_ 1 1 rfl).trans (e302_)
          have b304_ : 0 ≤ F5_ 1 1 ∧ F5_ 1 1 ≤ 600 := gi_g g6_ rfl
          exact ⟨F286_, ⟨rfl, rfl⟩, g287_, g289_, (by obtain ⟨e, c1, c2⟩ := c285_; exact ⟨K, e, ⟨hgK, hcut⟩, ⟨(by have hx := hsp.trans (spa_z (by omega)); subst hts0; simp [sp_dom, sp_open, sp_close, pf, pb, c45_, c64_, c84_, c105_, c140_, c164_, c189_, c198_, cq1_, c277_, hx, c1]), by rw [← hlt_]; exact htf⟩, c2⟩), (by omega)⟩
        rintro A1_ ⟨F308_, hA_, g309_, s310_, c306_, c307_⟩
        subst hA_
        have g311_ : fs [(1, 1, 1, 1), (1, 1, 6, 8), (3, 6, 0, 100000), (7, 13, 0, 100000), (15, 17, 0, 100000), (21, 103, 0, 100000), (119, 119, 2, 3)] F F308_ := fs_tr g282_ s310_ rfl
        have tk312_ : tkh K F308_ := tkh_fs tk283_ s310_ (fun r k h => (fs_n (by omega) rfl)) (fs_n (by omega) rfl)
        refine gr_v hm_117 rfl rfl ?_
        clear h254_ h255_ f252_ l253_
        refine gr_v hm_33 rfl rfl ?_
        have e313_ : F1 11 2 = F238_ 11 2 := (hf_F1 11 2 rfl).trans (rfl)
        have e314_ : F279_ 11 2 = F238_ 11 2 := (s281_ 11 2 rfl).trans (e313_)
        have e315_ : F308_ 11 2 = F238_ 11 2 := (s310_ 11 2 rfl).trans (e314_)
        have b316_ : 0 ≤ F238_ 11 2 ∧ F238_ 11 2 ≤ 6 := gi_g g239_ rfl
        have e317_ : F279_ 15 2 = F1 15 2 := (s281_ 15 2 rfl).trans (rfl)
        have e318_ : F308_ 15 2 = F1 15 2 := (s310_ 15 2 rfl).trans (e317_)
        have b319_ : 0 ≤ F1 15 2 ∧ F1 15 2 ≤ 5 := gi_g hg_F1 rfl
        have e320_ : F238_ 8 2 = 0 := (s240_ 8 2 rfl).trans (e208_)
        have e321_ : F1 8 2 = 0 := (hf_F1 8 2 rfl).trans (e320_)
        have e322_ : F279_ 8 2 = 0 := (s281_ 8 2 rfl).trans (e321_)
        have e323_ : F308_ 8 2 = 0 := (s310_ 8 2 rfl).trans (e322_)
        have e324_ : F29_ 1 1 = F5_ 1 1 := by rw [q30_]; exact (fl_u_ne (by omega)).trans ((fl_u_ne (by omega)).trans (fl_u_ne (by omega)))
        have e325_ : F47_ 1 1 = F5_ 1 1 := (s49_ 1 1 rfl).trans (e324_)
        have e326_ : F66_ 1 1 = F5_ 1 1 := (s68_ 1 1 rfl).trans (e325_)
        have e327_ : F86_ 1 1 = F5_ 1 1 := (s88_ 1 1 rfl).trans (e326_)
        have e328_ : F107_ 1 1 = F5_ 1 1 := (s109_ 1 1 rfl).trans (e327_)
        have e329_ : F119_ 1 1 = F5_ 1 1 := by rw [q120_]; exact (fl_u_ne (by omega)).trans (e328_)
        have e330_ : F142_ 1 1 = F5_ 1 1 := (s144_ 1 1 rfl).trans (e329_)
        have e331_ : F166_ 1 1 = F5_ 1 1 := (s168_ 1 1 rfl).trans (e330_)
        have e332_ : F191_ 1 1 = F5_ 1 1 := (s193_ 1 1 rfl).trans (e331_)
        have e333_ : F238_ 1 1 = F5_ 1 1 := (s240_ 1 1 rfl).trans (e332_)
        have e334_ : F1 1 1 = F5_ 1 1 := (hf_F1 1 1 rfl).trans (e333_)
        have e335_ : F279_ 1 1 = F5_ 1 1 := (s281_ 1 1 rfl).trans (e334_)
        have e336_ : F308_ 1 1 = F5_ 1 1 := (s310_ 1 1 rfl).trans (e335_)
        have b337_ : 0 ≤ F5_ 1 1 ∧ F5_ 1 1 ≤ 600 := gi_g g6_ rfl
        exact ⟨F308_, rfl, g309_, g311_, (⟨K, ts, pl, ps, al, ⟨hgK, hcut⟩, ⟨by have hx := hsp.trans (spa_z (by omega)); subst hts0; simp [sp_dom, sp_open, sp_close, pf, pb, c45_, c64_, c84_, c105_, c140_, c164_, c189_, c198_, cq1_, c277_, c306_, hx], by rw [← hlt_]; exact htf⟩, ⟨by rw [hts0]; exact rep_0 (e323_), (rep_fs (rep_fs (rep_fs cq3_ hf_F1 (fun _ => (fs_n (by omega) (fs_n (by omega) (fs_n (by omega) (fs_n (by omega) rfl))))) (fs_n (by omega) (fs_n (by omega) (fs_n (by omega) (fs_n (by omega) rfl))))) s281_ (fun _ => (fs_n (by omega) rfl)) (fs_n (by omega) rfl)) s310_ (fun _ => (fs_n (by omega) rfl)) (fs_n (by omega) rfl)), (prd_fs (prd_fs (prd_fs cq4_ hf_F1 (fun _ _ _ => (fs_n (by omega) (fs_n (by omega) (fs_n (by omega) (fs_n (by omega) rfl)))))) s281_ (fun _ _ _ => (fs_n (by omega) rfl))) s310_ (fun _ _ _ => (fs_n (by omega) rfl))), cq2_⟩, (rep_fs (rep_fs hal s281_ (fun _ => (fs_n (by omega) rfl)) (fs_n (by omega) rfl)) s310_ (fun _ => (fs_n (by omega) rfl)) (fs_n (by omega) rfl)), by rw [show al.length = i.toNat by omega]; exact (di_fs (di_fs hdi s281_ (fun _ _ _ => (fs_n (by omega) rfl))) s310_ (fun _ _ _ => (fs_n (by omega) rfl)))⟩), (by omega)⟩
      refine ga_iload_n (z := i) hm_33 rfl rfl ?_
      refine fl_if_eq (a := i) hm_33 rfl ⟨by omega, by omega⟩ (fun h338_ => ?_) (fun h339_ => ?_)
      ·
        refine ga_aload_n (v := .ref 118) hm_33 rfl rfl rfl ?_
        refine ga_iload_n (z := i) hm_33 rfl rfl ?_
        obtain ⟨Ac, hAc⟩ : ∃ Ac : Nat, Ac = 39 + 13 * i.toNat := ⟨_, rfl⟩
        have b340_ : 0 ≤ F1 1 7 ∧ F1 1 7 ≤ 600 := gi_g hg_F1 rfl
        have e341_ : F238_ 8 2 = 0 := (s240_ 8 2 rfl).trans (e208_)
        have e342_ : F1 8 2 = 0 := (hf_F1 8 2 rfl).trans (e341_)
        refine gVv (nY := 2) (F := 11) (L := 215) (As := [.int (Int32.ofInt i)]) (b := 118) (rest := []) hm_33 rfl hm_119 rfl rfl (fl_ob sc_118) rfl rfl rfl rfl rfl (by omega) (by omega) (mc_119 hG F1 X hg_F1 (K) (Ac) (i) (ts) (pl) (al) (alt) (ps) hgK tk249_ hko (by omega) (hAc) (by omega) (by rw [hAc]; exact (ra_18x _ (by omega)).1) (by rw [hAc]; exact (ra_18x _ (by omega)).2.1) (by rw [hAc]; exact (ra_18x _ (by omega)).2.2) (by rw [hts0]; exact rep_0 (e342_)) ((rep_fs cq3_ hf_F1 (fun _ => (fs_n (by omega) (fs_n (by omega) (fs_n (by omega) (fs_n (by omega) rfl))))) (fs_n (by omega) (fs_n (by omega) (fs_n (by omega) (fs_n (by omega) rfl)))))) ((prd_fs cq4_ hf_F1 (fun _ _ _ => (fs_n (by omega) (fs_n (by omega) (fs_n (by omega) (fs_n (by omega) rfl))))))) (cq2_) (hal) (hat) (by omega) (hdi)) ?_ ?_
        ·
          rintro j_ A1_ ⟨F344_, ⟨hJ_, hA_⟩, g345_, s346_, c343_⟩
          subst hA_
          subst hJ_
          refine ⟨rfl, ?_⟩
          refine gw_v ?_
          have g347_ : fs [(1, 1, 1, 1), (1, 1, 6, 8), (3, 6, 0, 100000), (7, 13, 0, 100000), (15, 17, 0, 100000), (21, 103, 0, 100000), (119, 119, 2, 3)] F F344_ := fs_tr g248_ s346_ (by simp [fs_le]; try omega)
          have b348_ : 0 ≤ F344_ 1 8 ∧ F344_ 1 8 ≤ 100000 := gi_g g345_ rfl
          have e349_ : F29_ 1 1 = F5_ 1 1 := by rw [q30_]; exact (fl_u_ne (by omega)).trans ((fl_u_ne (by omega)).trans (fl_u_ne (by omega)))
          have e350_ : F47_ 1 1 = F5_ 1 1 := (s49_ 1 1 rfl).trans (e349_)
          have e351_ : F66_ 1 1 = F5_ 1 1 := (s68_ 1 1 rfl).trans (e350_)
          have e352_ : F86_ 1 1 = F5_ 1 1 := (s88_ 1 1 rfl).trans (e351_)
          have e353_ : F107_ 1 1 = F5_ 1 1 := (s109_ 1 1 rfl).trans (e352_)
          have e354_ : F119_ 1 1 = F5_ 1 1 := by rw [q120_]; exact (fl_u_ne (by omega)).trans (e353_)
          have e355_ : F142_ 1 1 = F5_ 1 1 := (s144_ 1 1 rfl).trans (e354_)
          have e356_ : F166_ 1 1 = F5_ 1 1 := (s168_ 1 1 rfl).trans (e355_)
          have e357_ : F191_ 1 1 = F5_ 1 1 := (s193_ 1 1 rfl).trans (e356_)
          have e358_ : F238_ 1 1 = F5_ 1 1 := (s240_ 1 1 rfl).trans (e357_)
          have e359_ : F1 1 1 = F5_ 1 1 := (hf_F1 1 1 rfl).trans (e358_)
          have e360_ : F344_ 1 1 = F5_ 1 1 := (s346_ 1 1 (fs_n (by omega) (fs_n (by omega) (fs_n (by omega) (fs_n (by omega) rfl))))).trans (e359_)
          have b361_ : 0 ≤ F5_ 1 1 ∧ F5_ 1 1 ≤ 600 := gi_g g6_ rfl
          exact ⟨F344_, ⟨rfl, rfl⟩, g345_, g347_, (by obtain ⟨e, c1, c2⟩ := c343_; exact ⟨K, e, ⟨hgK, hcut⟩, ⟨(by have hx := hsp; rw [spa_step (by omega) (by omega) (by omega), c1] at hx; simp only [pb] at hx; subst hts0; simp [sp_dom, sp_open, sp_close, pf, pb, c45_, c64_, c84_, c105_, c140_, c164_, c189_, c198_, cq1_, hx]), by rw [← hlt_]; exact htf⟩, c2⟩), (by omega)⟩
        rintro A1_ ⟨F366_, hA_, g367_, s368_, c363_, c364_, c365_⟩
        subst hA_
        have g369_ : fs [(1, 1, 1, 1), (1, 1, 6, 8), (3, 6, 0, 100000), (7, 13, 0, 100000), (15, 17, 0, 100000), (21, 103, 0, 100000), (119, 119, 2, 3)] F F366_ := fs_tr g248_ s368_ (by simp [fs_le]; try omega)
        have tk370_ : tkh K F366_ := tkh_fs tk249_ s368_ (fun r k h => (fs_n (by omega) (fs_n (by omega) (fs_n (by omega) (fs_n (by omega) rfl))))) (fs_n (by omega) (fs_n (by omega) (fs_n (by omega) (fs_n (by omega) rfl))))
        obtain ⟨al2_, alt2_, ⟨ca1_, ca4_⟩, ca2_, ca3_⟩ := c363_
        refine ga_inc (a := i) (c := i + 1) (lv2 := [(1, .int (Int32.ofInt (i + 1))), (0, .ref 118)]) hm_33 rfl rfl (Nat.le_of_ble_eq_true rfl) rfl rfl ?_
        refine fl_goto hm_33 rfl ?_
        have b371_ : 0 ≤ F366_ 15 2 ∧ F366_ 15 2 ≤ 5 := gi_g g367_ rfl
        have b372_ : 0 ≤ F1 15 2 ∧ F1 15 2 ≤ 5 := gi_g hg_F1 rfl
        have b373_ : 0 ≤ F366_ 1 7 ∧ F366_ 1 7 ≤ 600 := gi_g g367_ rfl
        have b374_ : 0 ≤ K 1 6 ∧ K 1 6 ≤ 601 := gi_g hgK rfl
        exact ih245_ _ (by omega) (i + 1) (_) (_) F366_ rfl g367_ (fs_tr hf_F1 s368_ (by simp [fs_le]; try omega)) (by omega) (ca2_) (ca3_) (ca4_) (by omega) (c365_) (by rw [hsp, spa_step (by omega) (by omega) (by omega), ca1_]; rfl)
      refine ga_aload_n (v := .ref 118) hm_33 rfl rfl rfl ?_
      refine ga_getr (b := 1) hm_33 rfl sc_118 rfl ?_
      refine fl_iconst hm_33 rfl ?_
      refine gIi (nY := 2) (F := 0) (L := 0) (As := [.int (Int32.ofInt 0)]) (b := 1) (rest := []) hm_33 rfl hm_153 rfl rfl (fl_ob sc_1) rfl rfl rfl rfl rfl (by omega) (by omega) ?_
      intro f375_ l376_ h377_ h378_
      show fl_R xi_ms 153 f375_ l376_ 0 [(0, .ref 1), (1, .int (Int32.ofInt 0))] [] _ _
      refine ga_aload_n (v := .ref 1) hm_153 rfl rfl rfl ?_
      refine ga_getr (b := 3) hm_153 rfl sc_1 rfl ?_
      refine ga_aload_n (v := .ref 1) hm_153 rfl rfl rfl ?_
      have b379_ : 0 ≤ F1 1 7 ∧ F1 1 7 ≤ 600 := gi_g hg_F1 rfl
      refine ga_geti (z := F1 1 7) hm_153 rfl sc_1 rfl (rfl) ?_
      have e380_ : F1 3 (F1 1 7).toNat = K 3 (F1 1 7).toNat := tk249_.1 3 (F1 1 7).toNat (by omega)
      have b381_ : 0 ≤ K 3 (F1 1 7).toNat ∧ K 3 (F1 1 7).toNat ≤ 5 := gi_g hgK rfl
      refine ga_iald (z := F1 1 7) (w := K 3 (F1 1 7).toNat) hm_153 rfl sc_3 (by omega) (by omega) (by omega) (e380_) ?_
      refine ga_iload_n (z := 0) hm_153 rfl rfl ?_
      refine fx_icmp_ne (a := K 3 (F1 1 7).toNat) (b := 0) hm_153 rfl ⟨by omega, by omega⟩ ⟨by omega, by omega⟩ (fun h382_ => ?_) (fun h383_ => ?_)
      ·
        refine fl_iconst hm_153 rfl ?_
        refine gr_i hm_153 rfl rfl (ga_nb (by omega)) ?_
        clear h377_ h378_ f375_ l376_
        refine fl_if_eq hm_33 rfl ⟨by omega, by omega⟩ (fun _ => ?_) (fun h => absurd (by omega) h)
        refine ga_aload_n (v := .ref 118) hm_33 rfl rfl rfl ?_
        refine gIv (nY := 1) (F := 8) (L := 142) (As := []) (b := 118) (rest := []) hm_33 rfl hm_117 rfl rfl (fl_ob sc_118) rfl rfl rfl rfl rfl (by omega) (by omega) ?_
        intro f384_ l385_ h386_ h387_
        show fl_R xi_ms 117 f384_ l385_ 0 [(0, .ref 118)] [] _ _
        refine ga_aload_n (v := .ref 118) hm_117 rfl rfl rfl ?_
        refine ga_getr (b := 1) hm_117 rfl sc_118 rfl ?_
        refine fl_iconst hm_117 rfl ?_
        refine gVv (nY := 2) (F := 7) (L := 121) (As := [.int (Int32.ofInt 1)]) (b := 1) (rest := []) hm_117 rfl hm_24 rfl rfl (fl_ob sc_1) rfl rfl rfl rfl rfl (by omega) (by omega) (mc_24 hG F1 X hg_F1 (K) (1) hgK tk249_ hko (by omega) (by omega)) ?_ ?_
        ·
          rintro j_ A1_ ⟨F389_, ⟨hJ_, hA_⟩, g390_, s391_, c388_⟩
          subst hA_
          subst hJ_
          refine ⟨rfl, ?_⟩
          refine gw_v ⟨rfl, ?_⟩
          refine gw_v ?_
          have g392_ : fs [(1, 1, 1, 1), (1, 1, 6, 8), (3, 6, 0, 100000), (7, 13, 0, 100000), (15, 17, 0, 100000), (21, 103, 0, 100000), (119, 119, 2, 3)] F F389_ := fs_tr g248_ s391_ rfl
          have b393_ : 0 ≤ F389_ 1 8 ∧ F389_ 1 8 ≤ 100000 := gi_g g390_ rfl
          have e394_ : F29_ 1 1 = F5_ 1 1 := by rw [q30_]; exact (fl_u_ne (by omega)).trans ((fl_u_ne (by omega)).trans (fl_u_ne (by omega)))
          have e395_ : F47_ 1 1 = F5_ 1 1 := (s49_ 1 1 rfl).trans (e394_)
          have e396_ : F66_ 1 1 = F5_ 1 1 := (s68_ 1 1 rfl).trans (e395_)
          have e397_ : F86_ 1 1 = F5_ 1 1 := (s88_ 1 1 rfl).trans (e396_)
          have e398_ : F107_ 1 1 = F5_ 1 1 := (s109_ 1 1 rfl).trans (e397_)
          have e399_ : F119_ 1 1 = F5_ 1 1 := by rw [q120_]; exact (fl_u_ne (by omega)).trans (e398_)
          have e400_ : F142_ 1 1 = F5_ 1 1 := (s144_ 1 1 rfl).trans (e399_)
          have e401_ : F166_ 1 1 = F5_ 1 1 := (s168_ 1 1 rfl).trans (e400_)
          have e402_ : F191_ 1 1 = F5_ 1 1 := (s193_ 1 1 rfl).trans (e401_)
          have e403_ : F238_ 1 1 = F5_ 1 1 := (s240_ 1 1 rfl).trans (e402_)
          have e404_ : F1 1 1 = F5_ 1 1 := (hf_F1 1 1 rfl).trans (e403_)
          have e405_ : F389_ 1 1 = F5_ 1 1 := (s391_ 1 1 rfl).trans (e404_)
          have b406_ : 0 ≤ F5_ 1 1 ∧ F5_ 1 1 ≤ 600 := gi_g g6_ rfl
          exact ⟨F389_, ⟨rfl, rfl⟩, g390_, g392_, (by obtain ⟨e, c1, c2⟩ := c388_; exact ⟨K, e, ⟨hgK, hcut⟩, ⟨(by have hx := hsp.trans (spa_e (by omega) (by omega) (by omega)); subst hts0; simp [sp_dom, sp_open, sp_close, pf, pb, c45_, c64_, c84_, c105_, c140_, c164_, c189_, c198_, cq1_, hx, c1]), by rw [← hlt_]; exact htf⟩, c2⟩), (by omega)⟩
        rintro A1_ ⟨F410_, hA_, g411_, s412_, c408_, c409_⟩
        subst hA_
        have g413_ : fs [(1, 1, 1, 1), (1, 1, 6, 8), (3, 6, 0, 100000), (7, 13, 0, 100000), (15, 17, 0, 100000), (21, 103, 0, 100000), (119, 119, 2, 3)] F F410_ := fs_tr g248_ s412_ rfl
        have tk414_ : tkh K F410_ := tkh_fs tk249_ s412_ (fun r k h => (fs_n (by omega) rfl)) (fs_n (by omega) rfl)
        refine ga_aload_n (v := .ref 118) hm_117 rfl rfl rfl ?_
        refine ga_getr (b := 1) hm_117 rfl sc_118 rfl ?_
        refine fl_iconst hm_117 rfl ?_
        have b415_ : 0 ≤ F410_ 1 7 ∧ F410_ 1 7 ≤ 600 := gi_g g411_ rfl
        refine gVv (nY := 2) (F := 7) (L := 121) (As := [.int (Int32.ofInt 5)]) (b := 1) (rest := []) hm_117 rfl hm_24 rfl rfl (fl_ob sc_1) rfl rfl rfl rfl rfl (by omega) (by omega) (mc_24 hG F410_ X g411_ (K) (5) hgK tk414_ hko (by omega) (by omega)) ?_ ?_
        ·
          rintro j_ A1_ ⟨F417_, ⟨hJ_, hA_⟩, g418_, s419_, c416_⟩
          subst hA_
          subst hJ_
          refine ⟨rfl, ?_⟩
          refine gw_v ⟨rfl, ?_⟩
          refine gw_v ?_
          have g420_ : fs [(1, 1, 1, 1), (1, 1, 6, 8), (3, 6, 0, 100000), (7, 13, 0, 100000), (15, 17, 0, 100000), (21, 103, 0, 100000), (119, 119, 2, 3)] F F417_ := fs_tr g413_ s419_ rfl
          have b421_ : 0 ≤ F417_ 1 8 ∧ F417_ 1 8 ≤ 100000 := gi_g g418_ rfl
          have e422_ : F29_ 1 1 = F5_ 1 1 := by rw [q30_]; exact (fl_u_ne (by omega)).trans ((fl_u_ne (by omega)).trans (fl_u_ne (by omega)))
          have e423_ : F47_ 1 1 = F5_ 1 1 := (s49_ 1 1 rfl).trans (e422_)
          have e424_ : F66_ 1 1 = F5_ 1 1 := (s68_ 1 1 rfl).trans (e423_)
          have e425_ : F86_ 1 1 = F5_ 1 1 := (s88_ 1 1 rfl).trans (e424_)
          have e426_ : F107_ 1 1 = F5_ 1 1 := (s109_ 1 1 rfl).trans (e425_)
          have e427_ : F119_ 1 1 = F5_ 1 1 := by rw [q120_]; exact (fl_u_ne (by omega)).trans (e426_)
          have e428_ : F142_ 1 1 = F5_ 1 1 := (s144_ 1 1 rfl).trans (e427_)
          have e429_ : F166_ 1 1 = F5_ 1 1 := (s168_ 1 1 rfl).trans (e428_)
          have e430_ : F191_ 1 1 = F5_ 1 1 := (s193_ 1 1 rfl).trans (e429_)
          have e431_ : F238_ 1 1 = F5_ 1 1 := (s240_ 1 1 rfl).trans (e430_)
          have e432_ : F1 1 1 = F5_ 1 1 := (hf_F1 1 1 rfl).trans (e431_)
          have e433_ : F410_ 1 1 = F5_ 1 1 := (s412_ 1 1 rfl).trans (e432_)
          have e434_ : F417_ 1 1 = F5_ 1 1 := (s419_ 1 1 rfl).trans (e433_)
          have b435_ : 0 ≤ F5_ 1 1 ∧ F5_ 1 1 ≤ 600 := gi_g g6_ rfl
          exact ⟨F417_, ⟨rfl, rfl⟩, g418_, g420_, (by obtain ⟨e, c1, c2⟩ := c416_; exact ⟨K, e, ⟨hgK, hcut⟩, ⟨(by have hx := hsp.trans (spa_e (by omega) (by omega) (by omega)); subst hts0; simp [sp_dom, sp_open, sp_close, pf, pb, c45_, c64_, c84_, c105_, c140_, c164_, c189_, c198_, cq1_, c408_, hx, c1]), by rw [← hlt_]; exact htf⟩, c2⟩), (by omega)⟩
        rintro A1_ ⟨F439_, hA_, g440_, s441_, c437_, c438_⟩
        subst hA_
        have g442_ : fs [(1, 1, 1, 1), (1, 1, 6, 8), (3, 6, 0, 100000), (7, 13, 0, 100000), (15, 17, 0, 100000), (21, 103, 0, 100000), (119, 119, 2, 3)] F F439_ := fs_tr g413_ s441_ rfl
        have tk443_ : tkh K F439_ := tkh_fs tk414_ s441_ (fun r k h => (fs_n (by omega) rfl)) (fs_n (by omega) rfl)
        refine gr_v hm_117 rfl rfl ?_
        clear h386_ h387_ f384_ l385_
        refine gr_v hm_33 rfl rfl ?_
        have e444_ : F1 11 2 = F238_ 11 2 := (hf_F1 11 2 rfl).trans (rfl)
        have e445_ : F410_ 11 2 = F238_ 11 2 := (s412_ 11 2 rfl).trans (e444_)
        have e446_ : F439_ 11 2 = F238_ 11 2 := (s441_ 11 2 rfl).trans (e445_)
        have b447_ : 0 ≤ F238_ 11 2 ∧ F238_ 11 2 ≤ 6 := gi_g g239_ rfl
        have e448_ : F410_ 15 2 = F1 15 2 := (s412_ 15 2 rfl).trans (rfl)
        have e449_ : F439_ 15 2 = F1 15 2 := (s441_ 15 2 rfl).trans (e448_)
        have b450_ : 0 ≤ F1 15 2 ∧ F1 15 2 ≤ 5 := gi_g hg_F1 rfl
        have e451_ : F238_ 8 2 = 0 := (s240_ 8 2 rfl).trans (e208_)
        have e452_ : F1 8 2 = 0 := (hf_F1 8 2 rfl).trans (e451_)
        have e453_ : F410_ 8 2 = 0 := (s412_ 8 2 rfl).trans (e452_)
        have e454_ : F439_ 8 2 = 0 := (s441_ 8 2 rfl).trans (e453_)
        have e455_ : F29_ 1 1 = F5_ 1 1 := by rw [q30_]; exact (fl_u_ne (by omega)).trans ((fl_u_ne (by omega)).trans (fl_u_ne (by omega)))
        have e456_ : F47_ 1 1 = F5_ 1 1 := (s49_ 1 1 rfl).trans (e455_)
        have e457_ : F66_ 1 1 = F5_ 1 1 := (s68_ 1 1 rfl).trans (e456_)
        have e458_ : F86_ 1 1 = F5_ 1 1 := (s88_ 1 1 rfl).trans (e457_)
        have e459_ : F107_ 1 1 = F5_ 1 1 := (s109_ 1 1 rfl).trans (e458_)
        have e460_ : F119_ 1 1 = F5_ 1 1 := by rw [q120_]; exact (fl_u_ne (by omega)).trans (e459_)
        have e461_ : F142_ 1 1 = F5_ 1 1 := (s144_ 1 1 rfl).trans (e460_)
        have e462_ : F166_ 1 1 = F5_ 1 1 := (s168_ 1 1 rfl).trans (e461_)
        have e463_ : F191_ 1 1 = F5_ 1 1 := (s193_ 1 1 rfl).trans (e462_)
        have e464_ : F238_ 1 1 = F5_ 1 1 := (s240_ 1 1 rfl).trans (e463_)
        have e465_ : F1 1 1 = F5_ 1 1 := (hf_F1 1 1 rfl).trans (e464_)
        have e466_ : F410_ 1 1 = F5_ 1 1 := (s412_ 1 1 rfl).trans (e465_)
        have e467_ : F439_ 1 1 = F5_ 1 1 := (s441_ 1 1 rfl).trans (e466_)
        have b468_ : 0 ≤ F5_ 1 1 ∧ F5_ 1 1 ≤ 600 := gi_g g6_ rfl
        exact ⟨F439_, rfl, g440_, g442_, (⟨K, ts, pl, ps, al, ⟨hgK, hcut⟩, ⟨by have hx := hsp.trans (spa_e (by omega) (by omega) (by omega)); subst hts0; simp [sp_dom, sp_open, sp_close, pf, pb, c45_, c64_, c84_, c105_, c140_, c164_, c189_, c198_, cq1_, c408_, c437_, hx], by rw [← hlt_]; exact htf⟩, ⟨by rw [hts0]; exact rep_0 (e454_), (rep_fs (rep_fs (rep_fs cq3_ hf_F1 (fun _ => (fs_n (by omega) (fs_n (by omega) (fs_n (by omega) (fs_n (by omega) rfl))))) (fs_n (by omega) (fs_n (by omega) (fs_n (by omega) (fs_n (by omega) rfl))))) s412_ (fun _ => (fs_n (by omega) rfl)) (fs_n (by omega) rfl)) s441_ (fun _ => (fs_n (by omega) rfl)) (fs_n (by omega) rfl)), (prd_fs (prd_fs (prd_fs cq4_ hf_F1 (fun _ _ _ => (fs_n (by omega) (fs_n (by omega) (fs_n (by omega) (fs_n (by omega) rfl)))))) s412_ (fun _ _ _ => (fs_n (by omega) rfl))) s441_ (fun _ _ _ => (fs_n (by omega) rfl))), cq2_⟩, (rep_fs (rep_fs hal s412_ (fun _ => (fs_n (by omega) rfl)) (fs_n (by omega) rfl)) s441_ (fun _ => (fs_n (by omega) rfl)) (fs_n (by omega) rfl)), by rw [show al.length = i.toNat by omega]; exact (di_fs (di_fs hdi s412_ (fun _ _ _ => (fs_n (by omega) rfl))) s441_ (fun _ _ _ => (fs_n (by omega) rfl)))⟩), (by omega)⟩
      refine fl_iconst hm_153 rfl ?_
      refine fl_goto hm_153 rfl ?_
      refine gr_i hm_153 rfl rfl (ga_nb (by omega)) ?_
      clear h377_ h378_ f375_ l376_
      refine fl_if_eq hm_33 rfl ⟨by omega, by omega⟩ (fun h => absurd h (by omega)) (fun _ => ?_)
      refine ga_aload_n (v := .ref 118) hm_33 rfl rfl rfl ?_
      refine ga_iload_n (z := i) hm_33 rfl rfl ?_
      obtain ⟨Ac, hAc⟩ : ∃ Ac : Nat, Ac = 39 + 13 * i.toNat := ⟨_, rfl⟩
      have e469_ : F238_ 8 2 = 0 := (s240_ 8 2 rfl).trans (e208_)
      have e470_ : F1 8 2 = 0 := (hf_F1 8 2 rfl).trans (e469_)
      refine gVv (nY := 2) (F := 11) (L := 215) (As := [.int (Int32.ofInt i)]) (b := 118) (rest := []) hm_33 rfl hm_119 rfl rfl (fl_ob sc_118) rfl rfl rfl rfl rfl (by omega) (by omega) (mc_119 hG F1 X hg_F1 (K) (Ac) (i) (ts) (pl) (al) (alt) (ps) hgK tk249_ hko (by omega) (hAc) (by omega) (by rw [hAc]; exact (ra_18x _ (by omega)).1) (by rw [hAc]; exact (ra_18x _ (by omega)).2.1) (by rw [hAc]; exact (ra_18x _ (by omega)).2.2) (by rw [hts0]; exact rep_0 (e470_)) ((rep_fs cq3_ hf_F1 (fun _ => (fs_n (by omega) (fs_n (by omega) (fs_n (by omega) (fs_n (by omega) rfl))))) (fs_n (by omega) (fs_n (by omega) (fs_n (by omega) (fs_n (by omega) rfl)))))) ((prd_fs cq4_ hf_F1 (fun _ _ _ => (fs_n (by omega) (fs_n (by omega) (fs_n (by omega) (fs_n (by omega) rfl))))))) (cq2_) (hal) (hat) (by omega) (hdi)) ?_ ?_
      ·
        rintro j_ A1_ ⟨F472_, ⟨hJ_, hA_⟩, g473_, s474_, c471_⟩
        subst hA_
        subst hJ_
        refine ⟨rfl, ?_⟩
        refine gw_v ?_
        have g475_ : fs [(1, 1, 1, 1), (1, 1, 6, 8), (3, 6, 0, 100000), (7, 13, 0, 100000), (15, 17, 0, 100000), (21, 103, 0, 100000), (119, 119, 2, 3)] F F472_ := fs_tr g248_ s474_ (by simp [fs_le]; try omega)
        have b476_ : 0 ≤ F472_ 1 8 ∧ F472_ 1 8 ≤ 100000 := gi_g g473_ rfl
        have e477_ : F29_ 1 1 = F5_ 1 1 := by rw [q30_]; exact (fl_u_ne (by omega)).trans ((fl_u_ne (by omega)).trans (fl_u_ne (by omega)))
        have e478_ : F47_ 1 1 = F5_ 1 1 := (s49_ 1 1 rfl).trans (e477_)
        have e479_ : F66_ 1 1 = F5_ 1 1 := (s68_ 1 1 rfl).trans (e478_)
        have e480_ : F86_ 1 1 = F5_ 1 1 := (s88_ 1 1 rfl).trans (e479_)
        have e481_ : F107_ 1 1 = F5_ 1 1 := (s109_ 1 1 rfl).trans (e480_)
        have e482_ : F119_ 1 1 = F5_ 1 1 := by rw [q120_]; exact (fl_u_ne (by omega)).trans (e481_)
        have e483_ : F142_ 1 1 = F5_ 1 1 := (s144_ 1 1 rfl).trans (e482_)
        have e484_ : F166_ 1 1 = F5_ 1 1 := (s168_ 1 1 rfl).trans (e483_)
        have e485_ : F191_ 1 1 = F5_ 1 1 := (s193_ 1 1 rfl).trans (e484_)
        have e486_ : F238_ 1 1 = F5_ 1 1 := (s240_ 1 1 rfl).trans (e485_)
        have e487_ : F1 1 1 = F5_ 1 1 := (hf_F1 1 1 rfl).trans (e486_)
        have e488_ : F472_ 1 1 = F5_ 1 1 := (s474_ 1 1 (fs_n (by omega) (fs_n (by omega) (fs_n (by omega) (fs_n (by omega) rfl))))).trans (e487_)
        have b489_ : 0 ≤ F5_ 1 1 ∧ F5_ 1 1 ≤ 600 := gi_g g6_ rfl
        exact ⟨F472_, ⟨rfl, rfl⟩, g473_, g475_, (by obtain ⟨e, c1, c2⟩ := c471_; exact ⟨K, e, ⟨hgK, hcut⟩, ⟨(by have hx := hsp; rw [spa_step (by omega) (by omega) (by omega), c1] at hx; simp only [pb] at hx; subst hts0; simp [sp_dom, sp_open, sp_close, pf, pb, c45_, c64_, c84_, c105_, c140_, c164_, c189_, c198_, cq1_, hx]), by rw [← hlt_]; exact htf⟩, c2⟩), (by omega)⟩
      rintro A1_ ⟨F494_, hA_, g495_, s496_, c491_, c492_, c493_⟩
      subst hA_
      have g497_ : fs [(1, 1, 1, 1), (1, 1, 6, 8), (3, 6, 0, 100000), (7, 13, 0, 100000), (15, 17, 0, 100000), (21, 103, 0, 100000), (119, 119, 2, 3)] F F494_ := fs_tr g248_ s496_ (by simp [fs_le]; try omega)
      have tk498_ : tkh K F494_ := tkh_fs tk249_ s496_ (fun r k h => (fs_n (by omega) (fs_n (by omega) (fs_n (by omega) (fs_n (by omega) rfl))))) (fs_n (by omega) (fs_n (by omega) (fs_n (by omega) (fs_n (by omega) rfl))))
      obtain ⟨al2_, alt2_, ⟨ca1_, ca4_⟩, ca2_, ca3_⟩ := c491_
      refine ga_inc (a := i) (c := i + 1) (lv2 := [(1, .int (Int32.ofInt (i + 1))), (0, .ref 118)]) hm_33 rfl rfl (Nat.le_of_ble_eq_true rfl) rfl rfl ?_
      refine fl_goto hm_33 rfl ?_
      have b499_ : 0 ≤ F494_ 15 2 ∧ F494_ 15 2 ≤ 5 := gi_g g495_ rfl
      have b500_ : 0 ≤ F1 15 2 ∧ F1 15 2 ≤ 5 := gi_g hg_F1 rfl
      have b501_ : 0 ≤ F494_ 1 7 ∧ F494_ 1 7 ≤ 600 := gi_g g495_ rfl
      have b502_ : 0 ≤ K 1 6 ∧ K 1 6 ≤ 601 := gi_g hgK rfl
      exact ih245_ _ (by omega) (i + 1) (_) (_) F494_ rfl g495_ (fs_tr hf_F1 s496_ (by simp [fs_le]; try omega)) (by omega) (ca2_) (ca3_) (ca4_) (by omega) (c493_) (by rw [hsp, spa_step (by omega) (by omega) (by omega), ca1_]; rfl)
    have e503_ : F29_ 15 2 = 0 := by rw [q30_]; exact fl_u_eq
    have e504_ : F47_ 15 2 = 0 := (s49_ 15 2 rfl).trans (e503_)
    have e505_ : F66_ 15 2 = 0 := (s68_ 15 2 rfl).trans (e504_)
    have e506_ : F86_ 15 2 = 0 := (s88_ 15 2 rfl).trans (e505_)
    have e507_ : F107_ 15 2 = 0 := (s109_ 15 2 rfl).trans (e506_)
    have e508_ : F119_ 15 2 = 0 := by rw [q120_]; exact (fl_u_ne (by omega)).trans (e507_)
    have e509_ : F142_ 15 2 = 0 := (s144_ 15 2 rfl).trans (e508_)
    have e510_ : F166_ 15 2 = 0 := (s168_ 15 2 rfl).trans (e509_)
    have e511_ : F191_ 15 2 = 0 := (s193_ 15 2 rfl).trans (e510_)
    have e512_ : F238_ 15 2 = 0 := (s240_ 15 2 rfl).trans (e511_)
    have b513_ : 0 ≤ K 1 6 ∧ K 1 6 ≤ 601 := gi_g hgK rfl
    exact L244_ _ (0) ([]) ([]) F238_ rfl g239_ fs_refl (by omega) (rep_0 (e512_)) (rep_0 (e512_)) (by simp) (by omega) (fun j hj => absurd hj (by simp)) (by simp)
  subst hA_
  subst hz_
  refine fl_if_eq hm_33 rfl ⟨by omega, by omega⟩ (fun h => absurd h (by omega)) (fun _ => ?_)
  refine ga_aload_n (v := .ref 118) hm_33 rfl rfl rfl ?_
  have e514_ : F29_ 8 2 = 0 := by rw [q30_]; exact (fl_u_ne (by omega)).trans ((fl_u_ne (by omega)).trans (fl_u_eq))
  have e515_ : F47_ 8 2 = 0 := (s49_ 8 2 rfl).trans (e514_)
  have e516_ : F66_ 8 2 = 0 := (s68_ 8 2 rfl).trans (e515_)
  have e517_ : F86_ 8 2 = 0 := (s88_ 8 2 rfl).trans (e516_)
  have e518_ : F107_ 8 2 = 0 := (s109_ 8 2 rfl).trans (e517_)
  have e519_ : F119_ 8 2 = 0 := by rw [q120_]; exact (fl_u_ne (by omega)).trans (e518_)
  have e520_ : F142_ 8 2 = 0 := (s144_ 8 2 rfl).trans (e519_)
  have e521_ : F166_ 8 2 = 0 := (s168_ 8 2 rfl).trans (e520_)
  have e522_ : F191_ 8 2 = 0 := (s193_ 8 2 rfl).trans (e521_)
  refine gVv (nY := 2) (F := 8) (L := 144) (As := []) (b := 118) (rest := []) hm_33 rfl hm_128 rfl rfl (fl_ob sc_118) rfl rfl rfl rfl rfl (by omega) (by omega) (mc_128 hG F191_ X g192_ (K) hgK tk195_ hko (by omega) (rep_0 (e522_)) (rep_0 (e522_))) ?_ ?_
  ·
    rintro j_ A1_ ⟨F524_, ⟨hJ_, hA_⟩, g525_, s526_, c523_⟩
    subst hA_
    subst hJ_
    refine ⟨rfl, ?_⟩
    refine gw_v ?_
    have g527_ : fs [(1, 1, 1, 1), (1, 1, 6, 8), (3, 6, 0, 100000), (7, 13, 0, 100000), (15, 17, 0, 100000), (21, 103, 0, 100000), (119, 119, 2, 3)] F F524_ := fs_tr g194_ s526_ rfl
    have b528_ : 0 ≤ F524_ 1 8 ∧ F524_ 1 8 ≤ 100000 := gi_g g525_ rfl
    have e529_ : F29_ 1 1 = F5_ 1 1 := by rw [q30_]; exact (fl_u_ne (by omega)).trans ((fl_u_ne (by omega)).trans (fl_u_ne (by omega)))
    have e530_ : F47_ 1 1 = F5_ 1 1 := (s49_ 1 1 rfl).trans (e529_)
    have e531_ : F66_ 1 1 = F5_ 1 1 := (s68_ 1 1 rfl).trans (e530_)
    have e532_ : F86_ 1 1 = F5_ 1 1 := (s88_ 1 1 rfl).trans (e531_)
    have e533_ : F107_ 1 1 = F5_ 1 1 := (s109_ 1 1 rfl).trans (e532_)
    have e534_ : F119_ 1 1 = F5_ 1 1 := by rw [q120_]; exact (fl_u_ne (by omega)).trans (e533_)
    have e535_ : F142_ 1 1 = F5_ 1 1 := (s144_ 1 1 rfl).trans (e534_)
    have e536_ : F166_ 1 1 = F5_ 1 1 := (s168_ 1 1 rfl).trans (e535_)
    have e537_ : F191_ 1 1 = F5_ 1 1 := (s193_ 1 1 rfl).trans (e536_)
    have e538_ : F524_ 1 1 = F5_ 1 1 := (s526_ 1 1 rfl).trans (e537_)
    have b539_ : 0 ≤ F5_ 1 1 ∧ F5_ 1 1 ≤ 600 := gi_g g6_ rfl
    exact ⟨F524_, ⟨rfl, rfl⟩, g525_, g527_, (by obtain ⟨e, c1, c2⟩ := c523_; exact ⟨K, e, ⟨hgK, hcut⟩, ⟨(by simp [sp_dom, sp_open, sp_close, pf, pb, c45_, c64_, c84_, c105_, c140_, c164_, c189_, c199_, c1]), by rw [← hlt_]; exact htf⟩, c2⟩), (by omega)⟩
  rintro A1_ ⟨F543_, hA_, g544_, s545_, c541_, c542_⟩
  subst hA_
  have g546_ : fs [(1, 1, 1, 1), (1, 1, 6, 8), (3, 6, 0, 100000), (7, 13, 0, 100000), (15, 17, 0, 100000), (21, 103, 0, 100000), (119, 119, 2, 3)] F F543_ := fs_tr g194_ s545_ rfl
  have tk547_ : tkh K F543_ := tkh_fs tk195_ s545_ (fun r k h => (fs_n (by omega) (fs_n (by omega) rfl))) (fs_n (by omega) (fs_n (by omega) rfl))
  obtain ⟨ts, ct1_, ct2_⟩ := c541_
  refine ga_aload_n (v := .ref 118) hm_33 rfl rfl rfl ?_
  refine ga_getr (b := 1) hm_33 rfl sc_118 rfl ?_
  refine fl_iconst hm_33 rfl ?_
  have b548_ : 0 ≤ F543_ 1 7 ∧ F543_ 1 7 ≤ 600 := gi_g g544_ rfl
  refine gVv (nY := 2) (F := 7) (L := 121) (As := [.int (Int32.ofInt 0)]) (b := 1) (rest := []) hm_33 rfl hm_24 rfl rfl (fl_ob sc_1) rfl rfl rfl rfl rfl (by omega) (by omega) (mc_24 hG F543_ X g544_ (K) (0) hgK tk547_ hko (by omega) (by omega)) ?_ ?_
  ·
    rintro j_ A1_ ⟨F550_, ⟨hJ_, hA_⟩, g551_, s552_, c549_⟩
    subst hA_
    subst hJ_
    refine ⟨rfl, ?_⟩
    refine gw_v ?_
    have g553_ : fs [(1, 1, 1, 1), (1, 1, 6, 8), (3, 6, 0, 100000), (7, 13, 0, 100000), (15, 17, 0, 100000), (21, 103, 0, 100000), (119, 119, 2, 3)] F F550_ := fs_tr g546_ s552_ rfl
    have b554_ : 0 ≤ F550_ 1 8 ∧ F550_ 1 8 ≤ 100000 := gi_g g551_ rfl
    have e555_ : F29_ 1 1 = F5_ 1 1 := by rw [q30_]; exact (fl_u_ne (by omega)).trans ((fl_u_ne (by omega)).trans (fl_u_ne (by omega)))
    have e556_ : F47_ 1 1 = F5_ 1 1 := (s49_ 1 1 rfl).trans (e555_)
    have e557_ : F66_ 1 1 = F5_ 1 1 := (s68_ 1 1 rfl).trans (e556_)
    have e558_ : F86_ 1 1 = F5_ 1 1 := (s88_ 1 1 rfl).trans (e557_)
    have e559_ : F107_ 1 1 = F5_ 1 1 := (s109_ 1 1 rfl).trans (e558_)
    have e560_ : F119_ 1 1 = F5_ 1 1 := by rw [q120_]; exact (fl_u_ne (by omega)).trans (e559_)
    have e561_ : F142_ 1 1 = F5_ 1 1 := (s144_ 1 1 rfl).trans (e560_)
    have e562_ : F166_ 1 1 = F5_ 1 1 := (s168_ 1 1 rfl).trans (e561_)
    have e563_ : F191_ 1 1 = F5_ 1 1 := (s193_ 1 1 rfl).trans (e562_)
    have e564_ : F543_ 1 1 = F5_ 1 1 := (s545_ 1 1 rfl).trans (e563_)
    have e565_ : F550_ 1 1 = F5_ 1 1 := (s552_ 1 1 rfl).trans (e564_)
    have b566_ : 0 ≤ F5_ 1 1 ∧ F5_ 1 1 ≤ 600 := gi_g g6_ rfl
    exact ⟨F550_, ⟨rfl, rfl⟩, g551_, g553_, (by obtain ⟨e, c1, c2⟩ := c549_; exact ⟨K, e, ⟨hgK, hcut⟩, ⟨(by simp [sp_dom, sp_open, sp_close, pf, pb, c45_, c64_, c84_, c105_, c140_, c164_, c189_, c199_, ct1_, c1]), by rw [← hlt_]; exact htf⟩, c2⟩), (by omega)⟩
  rintro A1_ ⟨F570_, hA_, g571_, s572_, c568_, c569_⟩
  subst hA_
  have g573_ : fs [(1, 1, 1, 1), (1, 1, 6, 8), (3, 6, 0, 100000), (7, 13, 0, 100000), (15, 17, 0, 100000), (21, 103, 0, 100000), (119, 119, 2, 3)] F F570_ := fs_tr g546_ s572_ rfl
  have tk574_ : tkh K F570_ := tkh_fs tk547_ s572_ (fun r k h => (fs_n (by omega) rfl)) (fs_n (by omega) rfl)
  
  refine ga_aload_n (v := .ref 118) hm_33 rfl rfl rfl ?_
  have b575_ : 0 ≤ F570_ 1 7 ∧ F570_ 1 7 ≤ 600 := gi_g g571_ rfl
  have e576_ : F29_ 11 2 = 0 := by rw [q30_]; exact (fl_u_ne (by omega)).trans (fl_u_eq)
  have e577_ : F47_ 11 2 = 0 := (s49_ 11 2 rfl).trans (e576_)
  have e578_ : F66_ 11 2 = 0 := (s68_ 11 2 rfl).trans (e577_)
  have e579_ : F86_ 11 2 = 0 := (s88_ 11 2 rfl).trans (e578_)
  have e580_ : F107_ 11 2 = 0 := (s109_ 11 2 rfl).trans (e579_)
  have e581_ : F119_ 11 2 = 0 := by rw [q120_]; exact (fl_u_ne (by omega)).trans (e580_)
  have e582_ : F142_ 11 2 = 0 := (s144_ 11 2 rfl).trans (e581_)
  have e583_ : F166_ 11 2 = 0 := (s168_ 11 2 rfl).trans (e582_)
  have e584_ : F191_ 11 2 = 0 := (s193_ 11 2 rfl).trans (e583_)
  have e585_ : F543_ 11 2 = 0 := (s545_ 11 2 rfl).trans (e584_)
  have e586_ : F570_ 11 2 = 0 := (s572_ 11 2 rfl).trans (e585_)
  refine gVv (nY := 2) (F := 10) (L := 188) (As := []) (b := 118) (rest := []) hm_33 rfl hm_124 rfl rfl (fl_ob sc_118) rfl rfl rfl rfl rfl (by omega) (by omega) (mc_124 hG F570_ X g571_ (K) (ts) hgK tk574_ hko (by omega) ((rep_fs ct2_ s572_ (fun _ => (fs_n (by omega) rfl)) (fs_n (by omega) rfl))) (rep_0 (e586_)) (rep_0 (e586_))) ?_ ?_
  ·
    rintro j_ A1_ ⟨F588_, ⟨hJ_, hA_⟩, g589_, s590_, c587_⟩
    subst hA_
    subst hJ_
    refine ⟨rfl, ?_⟩
    refine gw_v ?_
    have g591_ : fs [(1, 1, 1, 1), (1, 1, 6, 8), (3, 6, 0, 100000), (7, 13, 0, 100000), (15, 17, 0, 100000), (21, 103, 0, 100000), (119, 119, 2, 3)] F F588_ := fs_tr g573_ s590_ rfl
    have b592_ : 0 ≤ F588_ 1 8 ∧ F588_ 1 8 ≤ 100000 := gi_g g589_ rfl
    have e593_ : F29_ 1 1 = F5_ 1 1 := by rw [q30_]; exact (fl_u_ne (by omega)).trans ((fl_u_ne (by omega)).trans (fl_u_ne (by omega)))
    have e594_ : F47_ 1 1 = F5_ 1 1 := (s49_ 1 1 rfl).trans (e593_)
    have e595_ : F66_ 1 1 = F5_ 1 1 := (s68_ 1 1 rfl).trans (e594_)
    have e596_ : F86_ 1 1 = F5_ 1 1 := (s88_ 1 1 rfl).trans (e595_)
    have e597_ : F107_ 1 1 = F5_ 1 1 := (s109_ 1 1 rfl).trans (e596_)
    have e598_ : F119_ 1 1 = F5_ 1 1 := by rw [q120_]; exact (fl_u_ne (by omega)).trans (e597_)
    have e599_ : F142_ 1 1 = F5_ 1 1 := (s144_ 1 1 rfl).trans (e598_)
    have e600_ : F166_ 1 1 = F5_ 1 1 := (s168_ 1 1 rfl).trans (e599_)
    have e601_ : F191_ 1 1 = F5_ 1 1 := (s193_ 1 1 rfl).trans (e600_)
    have e602_ : F543_ 1 1 = F5_ 1 1 := (s545_ 1 1 rfl).trans (e601_)
    have e603_ : F570_ 1 1 = F5_ 1 1 := (s572_ 1 1 rfl).trans (e602_)
    have e604_ : F588_ 1 1 = F5_ 1 1 := (s590_ 1 1 rfl).trans (e603_)
    have b605_ : 0 ≤ F5_ 1 1 ∧ F5_ 1 1 ≤ 600 := gi_g g6_ rfl
    exact ⟨F588_, ⟨rfl, rfl⟩, g589_, g591_, (by obtain ⟨e, c1, c2⟩ := c587_; exact ⟨K, e, ⟨hgK, hcut⟩, ⟨(by simp [sp_dom, sp_open, sp_close, pf, pb, c45_, c64_, c84_, c105_, c140_, c164_, c189_, c199_, ct1_, c568_, c1]), by rw [← hlt_]; exact htf⟩, c2⟩), (by omega)⟩
  rintro A1_ ⟨F609_, hA_, g610_, s611_, c607_, c608_⟩
  subst hA_
  have g612_ : fs [(1, 1, 1, 1), (1, 1, 6, 8), (3, 6, 0, 100000), (7, 13, 0, 100000), (15, 17, 0, 100000), (21, 103, 0, 100000), (119, 119, 2, 3)] F F609_ := fs_tr g573_ s611_ rfl
  have tk613_ : tkh K F609_ := tkh_fs tk574_ s611_ (fun r k h => (fs_n (by omega) (fs_n (by omega) (fs_n (by omega) rfl)))) (fs_n (by omega) (fs_n (by omega) (fs_n (by omega) rfl)))
  have hb11 : 0 ≤ F609_ 11 2 ∧ F609_ 11 2 ≤ 6 := gi_g g610_ rfl
  obtain ⟨pl, ps, ⟨cq1_, cq2_⟩, cq3_, cq4_⟩ := c607_
  have hpl1 := cq3_.1
  refine fl_iconst hm_33 rfl ?_
  refine ga_istore_n (lv2 := [(1, .int (Int32.ofInt 0)), (0, .ref 118)]) hm_33 rfl (Nat.le_of_ble_eq_true rfl) rfl ?_
  have b617_ : 0 ≤ F609_ 1 7 ∧ F609_ 1 7 ≤ 600 := gi_g g610_ rfl
  have L615_ : ∀ (n614_ : Nat) (i : Int) (al : List Int) (alt : List Int) (F1 : fl_N), (5 - i : Int).toNat = n614_ → (gi F1) → (fs [(1, 1, 7, 8), (15, 17, 0, 100000), (39, 103, 0, 100000), (119, 119, 2, 3)] F609_ F1) → (0 ≤ i ∧ i ≤ 5) → (rep (F1 16) (F1 15 2) al) → (rep (F1 17) (F1 15 2) alt) → ((al.length : Int) = i) → (0 ≤ F1 1 7 ∧ F1 1 7 ≤ K 1 6 - 1) → (di F1 i.toNat) → (sp_actions K ts pl ps 5 [] (F609_ 1 7) = sp_actions K ts pl ps (5 - i).toNat al (F1 1 7)) → fl_R xi_ms 33 fr lo 88 [(1, .int (Int32.ofInt i)), (0, .ref 118)] [] (fl_H sh_T G F1 ++ X) (pq_33 G F X) := by
    intro n614_
    induction n614_ using Nat.strongRecOn with
    | ind n614_ ih616_ =>
    intro i al alt F1 hn618_ hg_F1 hf_F1 hi hal hat hai hp1 hdi hsp
    have g619_ : fs [(1, 1, 1, 1), (1, 1, 6, 8), (3, 6, 0, 100000), (7, 13, 0, 100000), (15, 17, 0, 100000), (21, 103, 0, 100000), (119, 119, 2, 3)] F F1 := fs_tr g612_ hf_F1 rfl
    have tk620_ : tkh K F1 := tkh_fs tk613_ hf_F1 (fun r k h => (fs_n (by omega) (fs_n (by omega) (fs_n (by omega) (fs_n (by omega) rfl))))) (fs_n (by omega) (fs_n (by omega) (fs_n (by omega) (fs_n (by omega) rfl))))
    refine ga_iload_n (z := i) hm_33 rfl rfl ?_
    refine fl_iconst hm_33 rfl ?_
    refine fl_icmp_ge (a := i) (b := 5) hm_33 rfl ⟨by omega, by omega⟩ ⟨by omega, by omega⟩ (fun h621_ => ?_) (fun h622_ => ?_)
    ·
      refine ga_aload_n (v := .ref 118) hm_33 rfl rfl rfl ?_
      refine gIv (nY := 1) (F := 8) (L := 142) (As := []) (b := 118) (rest := []) hm_33 rfl hm_117 rfl rfl (fl_ob sc_118) rfl rfl rfl rfl rfl (by omega) (by omega) ?_
      intro f623_ l624_ h625_ h626_
      show fl_R xi_ms 117 f623_ l624_ 0 [(0, .ref 118)] [] _ _
      refine ga_aload_n (v := .ref 118) hm_117 rfl rfl rfl ?_
      refine ga_getr (b := 1) hm_117 rfl sc_118 rfl ?_
      refine fl_iconst hm_117 rfl ?_
      have b627_ : 0 ≤ F1 1 7 ∧ F1 1 7 ≤ 600 := gi_g hg_F1 rfl
      refine gVv (nY := 2) (F := 7) (L := 121) (As := [.int (Int32.ofInt 1)]) (b := 1) (rest := []) hm_117 rfl hm_24 rfl rfl (fl_ob sc_1) rfl rfl rfl rfl rfl (by omega) (by omega) (mc_24 hG F1 X hg_F1 (K) (1) hgK tk620_ hko (by omega) (by omega)) ?_ ?_
      ·
        rintro j_ A1_ ⟨F629_, ⟨hJ_, hA_⟩, g630_, s631_, c628_⟩
        subst hA_
        subst hJ_
        refine ⟨rfl, ?_⟩
        refine gw_v ⟨rfl, ?_⟩
        refine gw_v ?_
        have g632_ : fs [(1, 1, 1, 1), (1, 1, 6, 8), (3, 6, 0, 100000), (7, 13, 0, 100000), (15, 17, 0, 100000), (21, 103, 0, 100000), (119, 119, 2, 3)] F F629_ := fs_tr g619_ s631_ rfl
        have b633_ : 0 ≤ F629_ 1 8 ∧ F629_ 1 8 ≤ 100000 := gi_g g630_ rfl
        have e634_ : F29_ 1 1 = F5_ 1 1 := by rw [q30_]; exact (fl_u_ne (by omega)).trans ((fl_u_ne (by omega)).trans (fl_u_ne (by omega)))
        have e635_ : F47_ 1 1 = F5_ 1 1 := (s49_ 1 1 rfl).trans (e634_)
        have e636_ : F66_ 1 1 = F5_ 1 1 := (s68_ 1 1 rfl).trans (e635_)
        have e637_ : F86_ 1 1 = F5_ 1 1 := (s88_ 1 1 rfl).trans (e636_)
        have e638_ : F107_ 1 1 = F5_ 1 1 := (s109_ 1 1 rfl).trans (e637_)
        have e639_ : F119_ 1 1 = F5_ 1 1 := by rw [q120_]; exact (fl_u_ne (by omega)).trans (e638_)
        have e640_ : F142_ 1 1 = F5_ 1 1 := (s144_ 1 1 rfl).trans (e639_)
        have e641_ : F166_ 1 1 = F5_ 1 1 := (s168_ 1 1 rfl).trans (e640_)
        have e642_ : F191_ 1 1 = F5_ 1 1 := (s193_ 1 1 rfl).trans (e641_)
        have e643_ : F543_ 1 1 = F5_ 1 1 := (s545_ 1 1 rfl).trans (e642_)
        have e644_ : F570_ 1 1 = F5_ 1 1 := (s572_ 1 1 rfl).trans (e643_)
        have e645_ : F609_ 1 1 = F5_ 1 1 := (s611_ 1 1 rfl).trans (e644_)
        have e646_ : F1 1 1 = F5_ 1 1 := (hf_F1 1 1 rfl).trans (e645_)
        have e647_ : F629_ 1 1 = F5_ 1 1 := (s631_ 1 1 rfl).trans (e646_)
        have b648_ : 0 ≤ F5_ 1 1 ∧ F5_ 1 1 ≤ 600 := gi_g g6_ rfl
        exact ⟨F629_, ⟨rfl, rfl⟩, g630_, g632_, (by obtain ⟨e, c1, c2⟩ := c628_; exact ⟨K, e, ⟨hgK, hcut⟩, ⟨(by have hx := hsp.trans (spa_z (by omega)); simp [sp_dom, sp_open, sp_close, pf, pb, c45_, c64_, c84_, c105_, c140_, c164_, c189_, c199_, ct1_, c568_, cq1_, hx, c1]), by rw [← hlt_]; exact htf⟩, c2⟩), (by omega)⟩
      rintro A1_ ⟨F652_, hA_, g653_, s654_, c650_, c651_⟩
      subst hA_
      have g655_ : fs [(1, 1, 1, 1), (1, 1, 6, 8), (3, 6, 0, 100000), (7, 13, 0, 100000), (15, 17, 0, 100000), (21, 103, 0, 100000), (119, 119, 2, 3)] F F652_ := fs_tr g619_ s654_ rfl
      have tk656_ : tkh K F652_ := tkh_fs tk620_ s654_ (fun r k h => (fs_n (by omega) rfl)) (fs_n (by omega) rfl)
      refine ga_aload_n (v := .ref 118) hm_117 rfl rfl rfl ?_
      refine ga_getr (b := 1) hm_117 rfl sc_118 rfl ?_
      refine fl_iconst hm_117 rfl ?_
      have b657_ : 0 ≤ F652_ 1 7 ∧ F652_ 1 7 ≤ 600 := gi_g g653_ rfl
      refine gVv (nY := 2) (F := 7) (L := 121) (As := [.int (Int32.ofInt 5)]) (b := 1) (rest := []) hm_117 rfl hm_24 rfl rfl (fl_ob sc_1) rfl rfl rfl rfl rfl (by omega) (by omega) (mc_24 hG F652_ X g653_ (K) (5) hgK tk656_ hko (by omega) (by omega)) ?_ ?_
      ·
        rintro j_ A1_ ⟨F659_, ⟨hJ_, hA_⟩, g660_, s661_, c658_⟩
        subst hA_
        subst hJ_
        refine ⟨rfl, ?_⟩
        refine gw_v ⟨rfl, ?_⟩
        refine gw_v ?_
        have g662_ : fs [(1, 1, 1, 1), (1, 1, 6, 8), (3, 6, 0, 100000), (7, 13, 0, 100000), (15, 17, 0, 100000), (21, 103, 0, 100000), (119, 119, 2, 3)] F F659_ := fs_tr g655_ s661_ rfl
        have b663_ : 0 ≤ F659_ 1 8 ∧ F659_ 1 8 ≤ 100000 := gi_g g660_ rfl
        have e664_ : F29_ 1 1 = F5_ 1 1 := by rw [q30_]; exact (fl_u_ne (by omega)).trans ((fl_u_ne (by omega)).trans (fl_u_ne (by omega)))
        have e665_ : F47_ 1 1 = F5_ 1 1 := (s49_ 1 1 rfl).trans (e664_)
        have e666_ : F66_ 1 1 = F5_ 1 1 := (s68_ 1 1 rfl).trans (e665_)
        have e667_ : F86_ 1 1 = F5_ 1 1 := (s88_ 1 1 rfl).trans (e666_)
        have e668_ : F107_ 1 1 = F5_ 1 1 := (s109_ 1 1 rfl).trans (e667_)
        have e669_ : F119_ 1 1 = F5_ 1 1 := by rw [q120_]; exact (fl_u_ne (by omega)).trans (e668_)
        have e670_ : F142_ 1 1 = F5_ 1 1 := (s144_ 1 1 rfl).trans (e669_)
        have e671_ : F166_ 1 1 = F5_ 1 1 := (s168_ 1 1 rfl).trans (e670_)
        have e672_ : F191_ 1 1 = F5_ 1 1 := (s193_ 1 1 rfl).trans (e671_)
        have e673_ : F543_ 1 1 = F5_ 1 1 := (s545_ 1 1 rfl).trans (e672_)
        have e674_ : F570_ 1 1 = F5_ 1 1 := (s572_ 1 1 rfl).trans (e673_)
        have e675_ : F609_ 1 1 = F5_ 1 1 := (s611_ 1 1 rfl).trans (e674_)
        have e676_ : F1 1 1 = F5_ 1 1 := (hf_F1 1 1 rfl).trans (e675_)
        have e677_ : F652_ 1 1 = F5_ 1 1 := (s654_ 1 1 rfl).trans (e676_)
        have e678_ : F659_ 1 1 = F5_ 1 1 := (s661_ 1 1 rfl).trans (e677_)
        have b679_ : 0 ≤ F5_ 1 1 ∧ F5_ 1 1 ≤ 600 := gi_g g6_ rfl
        exact ⟨F659_, ⟨rfl, rfl⟩, g660_, g662_, (by obtain ⟨e, c1, c2⟩ := c658_; exact ⟨K, e, ⟨hgK, hcut⟩, ⟨(by have hx := hsp.trans (spa_z (by omega)); simp [sp_dom, sp_open, sp_close, pf, pb, c45_, c64_, c84_, c105_, c140_, c164_, c189_, c199_, ct1_, c568_, cq1_, c650_, hx, c1]), by rw [← hlt_]; exact htf⟩, c2⟩), (by omega)⟩
      rintro A1_ ⟨F683_, hA_, g684_, s685_, c681_, c682_⟩
      subst hA_
      have g686_ : fs [(1, 1, 1, 1), (1, 1, 6, 8), (3, 6, 0, 100000), (7, 13, 0, 100000), (15, 17, 0, 100000), (21, 103, 0, 100000), (119, 119, 2, 3)] F F683_ := fs_tr g655_ s685_ rfl
      have tk687_ : tkh K F683_ := tkh_fs tk656_ s685_ (fun r k h => (fs_n (by omega) rfl)) (fs_n (by omega) rfl)
      refine gr_v hm_117 rfl rfl ?_
      clear h625_ h626_ f623_ l624_
      refine gr_v hm_33 rfl rfl ?_
      have e688_ : F1 11 2 = F609_ 11 2 := (hf_F1 11 2 rfl).trans (rfl)
      have e689_ : F652_ 11 2 = F609_ 11 2 := (s654_ 11 2 rfl).trans (e688_)
      have e690_ : F683_ 11 2 = F609_ 11 2 := (s685_ 11 2 rfl).trans (e689_)
      have b691_ : 0 ≤ F609_ 11 2 ∧ F609_ 11 2 ≤ 6 := gi_g g610_ rfl
      have e692_ : F652_ 15 2 = F1 15 2 := (s654_ 15 2 rfl).trans (rfl)
      have e693_ : F683_ 15 2 = F1 15 2 := (s685_ 15 2 rfl).trans (e692_)
      have b694_ : 0 ≤ F1 15 2 ∧ F1 15 2 ≤ 5 := gi_g hg_F1 rfl
      have e695_ : F570_ 8 2 = F543_ 8 2 := (s572_ 8 2 rfl).trans (rfl)
      have e696_ : F609_ 8 2 = F543_ 8 2 := (s611_ 8 2 rfl).trans (e695_)
      have e697_ : F1 8 2 = F543_ 8 2 := (hf_F1 8 2 rfl).trans (e696_)
      have e698_ : F652_ 8 2 = F543_ 8 2 := (s654_ 8 2 rfl).trans (e697_)
      have e699_ : F683_ 8 2 = F543_ 8 2 := (s685_ 8 2 rfl).trans (e698_)
      have b700_ : 0 ≤ F543_ 8 2 ∧ F543_ 8 2 ≤ 4 := gi_g g544_ rfl
      have e701_ : F29_ 1 1 = F5_ 1 1 := by rw [q30_]; exact (fl_u_ne (by omega)).trans ((fl_u_ne (by omega)).trans (fl_u_ne (by omega)))
      have e702_ : F47_ 1 1 = F5_ 1 1 := (s49_ 1 1 rfl).trans (e701_)
      have e703_ : F66_ 1 1 = F5_ 1 1 := (s68_ 1 1 rfl).trans (e702_)
      have e704_ : F86_ 1 1 = F5_ 1 1 := (s88_ 1 1 rfl).trans (e703_)
      have e705_ : F107_ 1 1 = F5_ 1 1 := (s109_ 1 1 rfl).trans (e704_)
      have e706_ : F119_ 1 1 = F5_ 1 1 := by rw [q120_]; exact (fl_u_ne (by omega)).trans (e705_)
      have e707_ : F142_ 1 1 = F5_ 1 1 := (s144_ 1 1 rfl).trans (e706_)
      have e708_ : F166_ 1 1 = F5_ 1 1 := (s168_ 1 1 rfl).trans (e707_)
      have e709_ : F191_ 1 1 = F5_ 1 1 := (s193_ 1 1 rfl).trans (e708_)
      have e710_ : F543_ 1 1 = F5_ 1 1 := (s545_ 1 1 rfl).trans (e709_)
      have e711_ : F570_ 1 1 = F5_ 1 1 := (s572_ 1 1 rfl).trans (e710_)
      have e712_ : F609_ 1 1 = F5_ 1 1 := (s611_ 1 1 rfl).trans (e711_)
      have e713_ : F1 1 1 = F5_ 1 1 := (hf_F1 1 1 rfl).trans (e712_)
      have e714_ : F652_ 1 1 = F5_ 1 1 := (s654_ 1 1 rfl).trans (e713_)
      have e715_ : F683_ 1 1 = F5_ 1 1 := (s685_ 1 1 rfl).trans (e714_)
      have b716_ : 0 ≤ F5_ 1 1 ∧ F5_ 1 1 ≤ 600 := gi_g g6_ rfl
      exact ⟨F683_, rfl, g684_, g686_, (⟨K, ts, pl, ps, al, ⟨hgK, hcut⟩, ⟨by have hx := hsp.trans (spa_z (by omega)); simp [sp_dom, sp_open, sp_close, pf, pb, c45_, c64_, c84_, c105_, c140_, c164_, c189_, c199_, ct1_, c568_, cq1_, c650_, c681_, hx], by rw [← hlt_]; exact htf⟩, ⟨(rep_fs (rep_fs (rep_fs (rep_fs (rep_fs ct2_ s572_ (fun _ => (fs_n (by omega) rfl)) (fs_n (by omega) rfl)) s611_ (fun _ => (fs_n (by omega) (fs_n (by omega) (fs_n (by omega) rfl)))) (fs_n (by omega) (fs_n (by omega) (fs_n (by omega) rfl)))) hf_F1 (fun _ => (fs_n (by omega) (fs_n (by omega) (fs_n (by omega) (fs_n (by omega) rfl))))) (fs_n (by omega) (fs_n (by omega) (fs_n (by omega) (fs_n (by omega) rfl))))) s654_ (fun _ => (fs_n (by omega) rfl)) (fs_n (by omega) rfl)) s685_ (fun _ => (fs_n (by omega) rfl)) (fs_n (by omega) rfl)), (rep_fs (rep_fs (rep_fs cq3_ hf_F1 (fun _ => (fs_n (by omega) (fs_n (by omega) (fs_n (by omega) (fs_n (by omega) rfl))))) (fs_n (by omega) (fs_n (by omega) (fs_n (by omega) (fs_n (by omega) rfl))))) s654_ (fun _ => (fs_n (by omega) rfl)) (fs_n (by omega) rfl)) s685_ (fun _ => (fs_n (by omega) rfl)) (fs_n (by omega) rfl)), (prd_fs (prd_fs (prd_fs cq4_ hf_F1 (fun _ _ _ => (fs_n (by omega) (fs_n (by omega) (fs_n (by omega) (fs_n (by omega) rfl)))))) s654_ (fun _ _ _ => (fs_n (by omega) rfl))) s685_ (fun _ _ _ => (fs_n (by omega) rfl))), cq2_⟩, (rep_fs (rep_fs hal s654_ (fun _ => (fs_n (by omega) rfl)) (fs_n (by omega) rfl)) s685_ (fun _ => (fs_n (by omega) rfl)) (fs_n (by omega) rfl)), by rw [show al.length = i.toNat by omega]; exact (di_fs (di_fs hdi s654_ (fun _ _ _ => (fs_n (by omega) rfl))) s685_ (fun _ _ _ => (fs_n (by omega) rfl)))⟩), (by omega)⟩
    refine ga_iload_n (z := i) hm_33 rfl rfl ?_
    refine fl_if_eq (a := i) hm_33 rfl ⟨by omega, by omega⟩ (fun h717_ => ?_) (fun h718_ => ?_)
    ·
      refine ga_aload_n (v := .ref 118) hm_33 rfl rfl rfl ?_
      refine ga_iload_n (z := i) hm_33 rfl rfl ?_
      obtain ⟨Ac, hAc⟩ : ∃ Ac : Nat, Ac = 39 + 13 * i.toNat := ⟨_, rfl⟩
      have b719_ : 0 ≤ F1 1 7 ∧ F1 1 7 ≤ 600 := gi_g hg_F1 rfl
      refine gVv (nY := 2) (F := 11) (L := 215) (As := [.int (Int32.ofInt i)]) (b := 118) (rest := []) hm_33 rfl hm_119 rfl rfl (fl_ob sc_118) rfl rfl rfl rfl rfl (by omega) (by omega) (mc_119 hG F1 X hg_F1 (K) (Ac) (i) (ts) (pl) (al) (alt) (ps) hgK tk620_ hko (by omega) (hAc) (by omega) (by rw [hAc]; exact (ra_18x _ (by omega)).1) (by rw [hAc]; exact (ra_18x _ (by omega)).2.1) (by rw [hAc]; exact (ra_18x _ (by omega)).2.2) ((rep_fs (rep_fs (rep_fs ct2_ s572_ (fun _ => (fs_n (by omega) rfl)) (fs_n (by omega) rfl)) s611_ (fun _ => (fs_n (by omega) (fs_n (by omega) (fs_n (by omega) rfl)))) (fs_n (by omega) (fs_n (by omega) (fs_n (by omega) rfl)))) hf_F1 (fun _ => (fs_n (by omega) (fs_n (by omega) (fs_n (by omega) (fs_n (by omega) rfl))))) (fs_n (by omega) (fs_n (by omega) (fs_n (by omega) (fs_n (by omega) rfl)))))) ((rep_fs cq3_ hf_F1 (fun _ => (fs_n (by omega) (fs_n (by omega) (fs_n (by omega) (fs_n (by omega) rfl))))) (fs_n (by omega) (fs_n (by omega) (fs_n (by omega) (fs_n (by omega) rfl)))))) ((prd_fs cq4_ hf_F1 (fun _ _ _ => (fs_n (by omega) (fs_n (by omega) (fs_n (by omega) (fs_n (by omega) rfl))))))) (cq2_) (hal) (hat) (by omega) (hdi)) ?_ ?_
      ·
        rintro j_ A1_ ⟨F721_, ⟨hJ_, hA_⟩, g722_, s723_, c720_⟩
        subst hA_
        subst hJ_
        refine ⟨rfl, ?_⟩
        refine gw_v ?_
        have g724_ : fs [(1, 1, 1, 1), (1, 1, 6, 8), (3, 6, 0, 100000), (7, 13, 0, 100000), (15, 17, 0, 100000), (21, 103, 0, 100000), (119, 119, 2, 3)] F F721_ := fs_tr g619_ s723_ (by simp [fs_le]; try omega)
        have b725_ : 0 ≤ F721_ 1 8 ∧ F721_ 1 8 ≤ 100000 := gi_g g722_ rfl
        have e726_ : F29_ 1 1 = F5_ 1 1 := by rw [q30_]; exact (fl_u_ne (by omega)).trans ((fl_u_ne (by omega)).trans (fl_u_ne (by omega)))
        have e727_ : F47_ 1 1 = F5_ 1 1 := (s49_ 1 1 rfl).trans (e726_)
        have e728_ : F66_ 1 1 = F5_ 1 1 := (s68_ 1 1 rfl).trans (e727_)
        have e729_ : F86_ 1 1 = F5_ 1 1 := (s88_ 1 1 rfl).trans (e728_)
        have e730_ : F107_ 1 1 = F5_ 1 1 := (s109_ 1 1 rfl).trans (e729_)
        have e731_ : F119_ 1 1 = F5_ 1 1 := by rw [q120_]; exact (fl_u_ne (by omega)).trans (e730_)
        have e732_ : F142_ 1 1 = F5_ 1 1 := (s144_ 1 1 rfl).trans (e731_)
        have e733_ : F166_ 1 1 = F5_ 1 1 := (s168_ 1 1 rfl).trans (e732_)
        have e734_ : F191_ 1 1 = F5_ 1 1 := (s193_ 1 1 rfl).trans (e733_)
        have e735_ : F543_ 1 1 = F5_ 1 1 := (s545_ 1 1 rfl).trans (e734_)
        have e736_ : F570_ 1 1 = F5_ 1 1 := (s572_ 1 1 rfl).trans (e735_)
        have e737_ : F609_ 1 1 = F5_ 1 1 := (s611_ 1 1 rfl).trans (e736_)
        have e738_ : F1 1 1 = F5_ 1 1 := (hf_F1 1 1 rfl).trans (e737_)
        have e739_ : F721_ 1 1 = F5_ 1 1 := (s723_ 1 1 (fs_n (by omega) (fs_n (by omega) (fs_n (by omega) (fs_n (by omega) rfl))))).trans (e738_)
        have b740_ : 0 ≤ F5_ 1 1 ∧ F5_ 1 1 ≤ 600 := gi_g g6_ rfl
        exact ⟨F721_, ⟨rfl, rfl⟩, g722_, g724_, (by obtain ⟨e, c1, c2⟩ := c720_; exact ⟨K, e, ⟨hgK, hcut⟩, ⟨(by have hx := hsp; rw [spa_step (by omega) (by omega) (by omega), c1] at hx; simp only [pb] at hx; simp [sp_dom, sp_open, sp_close, pf, pb, c45_, c64_, c84_, c105_, c140_, c164_, c189_, c199_, ct1_, c568_, cq1_, hx]), by rw [← hlt_]; exact htf⟩, c2⟩), (by omega)⟩
      rintro A1_ ⟨F745_, hA_, g746_, s747_, c742_, c743_, c744_⟩
      subst hA_
      have g748_ : fs [(1, 1, 1, 1), (1, 1, 6, 8), (3, 6, 0, 100000), (7, 13, 0, 100000), (15, 17, 0, 100000), (21, 103, 0, 100000), (119, 119, 2, 3)] F F745_ := fs_tr g619_ s747_ (by simp [fs_le]; try omega)
      have tk749_ : tkh K F745_ := tkh_fs tk620_ s747_ (fun r k h => (fs_n (by omega) (fs_n (by omega) (fs_n (by omega) (fs_n (by omega) rfl))))) (fs_n (by omega) (fs_n (by omega) (fs_n (by omega) (fs_n (by omega) rfl))))
      obtain ⟨al2_, alt2_, ⟨ca1_, ca4_⟩, ca2_, ca3_⟩ := c742_
      refine ga_inc (a := i) (c := i + 1) (lv2 := [(1, .int (Int32.ofInt (i + 1))), (0, .ref 118)]) hm_33 rfl rfl (Nat.le_of_ble_eq_true rfl) rfl rfl ?_
      refine fl_goto hm_33 rfl ?_
      have b750_ : 0 ≤ F745_ 15 2 ∧ F745_ 15 2 ≤ 5 := gi_g g746_ rfl
      have b751_ : 0 ≤ F1 15 2 ∧ F1 15 2 ≤ 5 := gi_g hg_F1 rfl
      have b752_ : 0 ≤ F745_ 1 7 ∧ F745_ 1 7 ≤ 600 := gi_g g746_ rfl
      have b753_ : 0 ≤ K 1 6 ∧ K 1 6 ≤ 601 := gi_g hgK rfl
      exact ih616_ _ (by omega) (i + 1) (_) (_) F745_ rfl g746_ (fs_tr hf_F1 s747_ (by simp [fs_le]; try omega)) (by omega) (ca2_) (ca3_) (ca4_) (by omega) (c744_) (by rw [hsp, spa_step (by omega) (by omega) (by omega), ca1_]; rfl)
    refine ga_aload_n (v := .ref 118) hm_33 rfl rfl rfl ?_
    refine ga_getr (b := 1) hm_33 rfl sc_118 rfl ?_
    refine fl_iconst hm_33 rfl ?_
    refine gIi (nY := 2) (F := 0) (L := 0) (As := [.int (Int32.ofInt 0)]) (b := 1) (rest := []) hm_33 rfl hm_153 rfl rfl (fl_ob sc_1) rfl rfl rfl rfl rfl (by omega) (by omega) ?_
    intro f754_ l755_ h756_ h757_
    show fl_R xi_ms 153 f754_ l755_ 0 [(0, .ref 1), (1, .int (Int32.ofInt 0))] [] _ _
    refine ga_aload_n (v := .ref 1) hm_153 rfl rfl rfl ?_
    refine ga_getr (b := 3) hm_153 rfl sc_1 rfl ?_
    refine ga_aload_n (v := .ref 1) hm_153 rfl rfl rfl ?_
    have b758_ : 0 ≤ F1 1 7 ∧ F1 1 7 ≤ 600 := gi_g hg_F1 rfl
    refine ga_geti (z := F1 1 7) hm_153 rfl sc_1 rfl (rfl) ?_
    have e759_ : F1 3 (F1 1 7).toNat = K 3 (F1 1 7).toNat := tk620_.1 3 (F1 1 7).toNat (by omega)
    have b760_ : 0 ≤ K 3 (F1 1 7).toNat ∧ K 3 (F1 1 7).toNat ≤ 5 := gi_g hgK rfl
    refine ga_iald (z := F1 1 7) (w := K 3 (F1 1 7).toNat) hm_153 rfl sc_3 (by omega) (by omega) (by omega) (e759_) ?_
    refine ga_iload_n (z := 0) hm_153 rfl rfl ?_
    refine fx_icmp_ne (a := K 3 (F1 1 7).toNat) (b := 0) hm_153 rfl ⟨by omega, by omega⟩ ⟨by omega, by omega⟩ (fun h761_ => ?_) (fun h762_ => ?_)
    ·
      refine fl_iconst hm_153 rfl ?_
      refine gr_i hm_153 rfl rfl (ga_nb (by omega)) ?_
      clear h756_ h757_ f754_ l755_
      refine fl_if_eq hm_33 rfl ⟨by omega, by omega⟩ (fun _ => ?_) (fun h => absurd (by omega) h)
      refine ga_aload_n (v := .ref 118) hm_33 rfl rfl rfl ?_
      refine gIv (nY := 1) (F := 8) (L := 142) (As := []) (b := 118) (rest := []) hm_33 rfl hm_117 rfl rfl (fl_ob sc_118) rfl rfl rfl rfl rfl (by omega) (by omega) ?_
      intro f763_ l764_ h765_ h766_
      show fl_R xi_ms 117 f763_ l764_ 0 [(0, .ref 118)] [] _ _
      refine ga_aload_n (v := .ref 118) hm_117 rfl rfl rfl ?_
      refine ga_getr (b := 1) hm_117 rfl sc_118 rfl ?_
      refine fl_iconst hm_117 rfl ?_
      refine gVv (nY := 2) (F := 7) (L := 121) (As := [.int (Int32.ofInt 1)]) (b := 1) (rest := []) hm_117 rfl hm_24 rfl rfl (fl_ob sc_1) rfl rfl rfl rfl rfl (by omega) (by omega) (mc_24 hG F1 X hg_F1 (K) (1) hgK tk620_ hko (by omega) (by omega)) ?_ ?_
      ·
        rintro j_ A1_ ⟨F768_, ⟨hJ_, hA_⟩, g769_, s770_, c767_⟩
        subst hA_
        subst hJ_
        refine ⟨rfl, ?_⟩
        refine gw_v ⟨rfl, ?_⟩
        refine gw_v ?_
        have g771_ : fs [(1, 1, 1, 1), (1, 1, 6, 8), (3, 6, 0, 100000), (7, 13, 0, 100000), (15, 17, 0, 100000), (21, 103, 0, 100000), (119, 119, 2, 3)] F F768_ := fs_tr g619_ s770_ rfl
        have b772_ : 0 ≤ F768_ 1 8 ∧ F768_ 1 8 ≤ 100000 := gi_g g769_ rfl
        have e773_ : F29_ 1 1 = F5_ 1 1 := by rw [q30_]; exact (fl_u_ne (by omega)).trans ((fl_u_ne (by omega)).trans (fl_u_ne (by omega)))
        have e774_ : F47_ 1 1 = F5_ 1 1 := (s49_ 1 1 rfl).trans (e773_)
        have e775_ : F66_ 1 1 = F5_ 1 1 := (s68_ 1 1 rfl).trans (e774_)
        have e776_ : F86_ 1 1 = F5_ 1 1 := (s88_ 1 1 rfl).trans (e775_)
        have e777_ : F107_ 1 1 = F5_ 1 1 := (s109_ 1 1 rfl).trans (e776_)
        have e778_ : F119_ 1 1 = F5_ 1 1 := by rw [q120_]; exact (fl_u_ne (by omega)).trans (e777_)
        have e779_ : F142_ 1 1 = F5_ 1 1 := (s144_ 1 1 rfl).trans (e778_)
        have e780_ : F166_ 1 1 = F5_ 1 1 := (s168_ 1 1 rfl).trans (e779_)
        have e781_ : F191_ 1 1 = F5_ 1 1 := (s193_ 1 1 rfl).trans (e780_)
        have e782_ : F543_ 1 1 = F5_ 1 1 := (s545_ 1 1 rfl).trans (e781_)
        have e783_ : F570_ 1 1 = F5_ 1 1 := (s572_ 1 1 rfl).trans (e782_)
        have e784_ : F609_ 1 1 = F5_ 1 1 := (s611_ 1 1 rfl).trans (e783_)
        have e785_ : F1 1 1 = F5_ 1 1 := (hf_F1 1 1 rfl).trans (e784_)
        have e786_ : F768_ 1 1 = F5_ 1 1 := (s770_ 1 1 rfl).trans (e785_)
        have b787_ : 0 ≤ F5_ 1 1 ∧ F5_ 1 1 ≤ 600 := gi_g g6_ rfl
        exact ⟨F768_, ⟨rfl, rfl⟩, g769_, g771_, (by obtain ⟨e, c1, c2⟩ := c767_; exact ⟨K, e, ⟨hgK, hcut⟩, ⟨(by have hx := hsp.trans (spa_e (by omega) (by omega) (by omega)); simp [sp_dom, sp_open, sp_close, pf, pb, c45_, c64_, c84_, c105_, c140_, c164_, c189_, c199_, ct1_, c568_, cq1_, hx, c1]), by rw [← hlt_]; exact htf⟩, c2⟩), (by omega)⟩
      rintro A1_ ⟨F791_, hA_, g792_, s793_, c789_, c790_⟩
      subst hA_
      have g794_ : fs [(1, 1, 1, 1), (1, 1, 6, 8), (3, 6, 0, 100000), (7, 13, 0, 100000), (15, 17, 0, 100000), (21, 103, 0, 100000), (119, 119, 2, 3)] F F791_ := fs_tr g619_ s793_ rfl
      have tk795_ : tkh K F791_ := tkh_fs tk620_ s793_ (fun r k h => (fs_n (by omega) rfl)) (fs_n (by omega) rfl)
      refine ga_aload_n (v := .ref 118) hm_117 rfl rfl rfl ?_
      refine ga_getr (b := 1) hm_117 rfl sc_118 rfl ?_
      refine fl_iconst hm_117 rfl ?_
      have b796_ : 0 ≤ F791_ 1 7 ∧ F791_ 1 7 ≤ 600 := gi_g g792_ rfl
      refine gVv (nY := 2) (F := 7) (L := 121) (As := [.int (Int32.ofInt 5)]) (b := 1) (rest := []) hm_117 rfl hm_24 rfl rfl (fl_ob sc_1) rfl rfl rfl rfl rfl (by omega) (by omega) (mc_24 hG F791_ X g792_ (K) (5) hgK tk795_ hko (by omega) (by omega)) ?_ ?_
      ·
        rintro j_ A1_ ⟨F798_, ⟨hJ_, hA_⟩, g799_, s800_, c797_⟩
        subst hA_
        subst hJ_
        refine ⟨rfl, ?_⟩
        refine gw_v ⟨rfl, ?_⟩
        refine gw_v ?_
        have g801_ : fs [(1, 1, 1, 1), (1, 1, 6, 8), (3, 6, 0, 100000), (7, 13, 0, 100000), (15, 17, 0, 100000), (21, 103, 0, 100000), (119, 119, 2, 3)] F F798_ := fs_tr g794_ s800_ rfl
        have b802_ : 0 ≤ F798_ 1 8 ∧ F798_ 1 8 ≤ 100000 := gi_g g799_ rfl
        have e803_ : F29_ 1 1 = F5_ 1 1 := by rw [q30_]; exact (fl_u_ne (by omega)).trans ((fl_u_ne (by omega)).trans (fl_u_ne (by omega)))
        have e804_ : F47_ 1 1 = F5_ 1 1 := (s49_ 1 1 rfl).trans (e803_)
        have e805_ : F66_ 1 1 = F5_ 1 1 := (s68_ 1 1 rfl).trans (e804_)
        have e806_ : F86_ 1 1 = F5_ 1 1 := (s88_ 1 1 rfl).trans (e805_)
        have e807_ : F107_ 1 1 = F5_ 1 1 := (s109_ 1 1 rfl).trans (e806_)
        have e808_ : F119_ 1 1 = F5_ 1 1 := by rw [q120_]; exact (fl_u_ne (by omega)).trans (e807_)
        have e809_ : F142_ 1 1 = F5_ 1 1 := (s144_ 1 1 rfl).trans (e808_)
        have e810_ : F166_ 1 1 = F5_ 1 1 := (s168_ 1 1 rfl).trans (e809_)
        have e811_ : F191_ 1 1 = F5_ 1 1 := (s193_ 1 1 rfl).trans (e810_)
        have e812_ : F543_ 1 1 = F5_ 1 1 := (s545_ 1 1 rfl).trans (e811_)
        have e813_ : F570_ 1 1 = F5_ 1 1 := (s572_ 1 1 rfl).trans (e812_)
        have e814_ : F609_ 1 1 = F5_ 1 1 := (s611_ 1 1 rfl).trans (e813_)
        have e815_ : F1 1 1 = F5_ 1 1 := (hf_F1 1 1 rfl).trans (e814_)
        have e816_ : F791_ 1 1 = F5_ 1 1 := (s793_ 1 1 rfl).trans (e815_)
        have e817_ : F798_ 1 1 = F5_ 1 1 := (s800_ 1 1 rfl).trans (e816_)
        have b818_ : 0 ≤ F5_ 1 1 ∧ F5_ 1 1 ≤ 600 := gi_g g6_ rfl
        exact ⟨F798_, ⟨rfl, rfl⟩, g799_, g801_, (by obtain ⟨e, c1, c2⟩ := c797_; exact ⟨K, e, ⟨hgK, hcut⟩, ⟨(by have hx := hsp.trans (spa_e (by omega) (by omega) (by omega)); simp [sp_dom, sp_open, sp_close, pf, pb, c45_, c64_, c84_, c105_, c140_, c164_, c189_, c199_, ct1_, c568_, cq1_, c789_, hx, c1]), by rw [← hlt_]; exact htf⟩, c2⟩), (by omega)⟩
      rintro A1_ ⟨F822_, hA_, g823_, s824_, c820_, c821_⟩
      subst hA_
      have g825_ : fs [(1, 1, 1, 1), (1, 1, 6, 8), (3, 6, 0, 100000), (7, 13, 0, 100000), (15, 17, 0, 100000), (21, 103, 0, 100000), (119, 119, 2, 3)] F F822_ := fs_tr g794_ s824_ rfl
      have tk826_ : tkh K F822_ := tkh_fs tk795_ s824_ (fun r k h => (fs_n (by omega) rfl)) (fs_n (by omega) rfl)
      refine gr_v hm_117 rfl rfl ?_
      clear h765_ h766_ f763_ l764_
      refine gr_v hm_33 rfl rfl ?_
      have e827_ : F1 11 2 = F609_ 11 2 := (hf_F1 11 2 rfl).trans (rfl)
      have e828_ : F791_ 11 2 = F609_ 11 2 := (s793_ 11 2 rfl).trans (e827_)
      have e829_ : F822_ 11 2 = F609_ 11 2 := (s824_ 11 2 rfl).trans (e828_)
      have b830_ : 0 ≤ F609_ 11 2 ∧ F609_ 11 2 ≤ 6 := gi_g g610_ rfl
      have e831_ : F791_ 15 2 = F1 15 2 := (s793_ 15 2 rfl).trans (rfl)
      have e832_ : F822_ 15 2 = F1 15 2 := (s824_ 15 2 rfl).trans (e831_)
      have b833_ : 0 ≤ F1 15 2 ∧ F1 15 2 ≤ 5 := gi_g hg_F1 rfl
      have e834_ : F570_ 8 2 = F543_ 8 2 := (s572_ 8 2 rfl).trans (rfl)
      have e835_ : F609_ 8 2 = F543_ 8 2 := (s611_ 8 2 rfl).trans (e834_)
      have e836_ : F1 8 2 = F543_ 8 2 := (hf_F1 8 2 rfl).trans (e835_)
      have e837_ : F791_ 8 2 = F543_ 8 2 := (s793_ 8 2 rfl).trans (e836_)
      have e838_ : F822_ 8 2 = F543_ 8 2 := (s824_ 8 2 rfl).trans (e837_)
      have b839_ : 0 ≤ F543_ 8 2 ∧ F543_ 8 2 ≤ 4 := gi_g g544_ rfl
      have e840_ : F29_ 1 1 = F5_ 1 1 := by rw [q30_]; exact (fl_u_ne (by omega)).trans ((fl_u_ne (by omega)).trans (fl_u_ne (by omega)))
      have e841_ : F47_ 1 1 = F5_ 1 1 := (s49_ 1 1 rfl).trans (e840_)
      have e842_ : F66_ 1 1 = F5_ 1 1 := (s68_ 1 1 rfl).trans (e841_)
      have e843_ : F86_ 1 1 = F5_ 1 1 := (s88_ 1 1 rfl).trans (e842_)
      have e844_ : F107_ 1 1 = F5_ 1 1 := (s109_ 1 1 rfl).trans (e843_)
      have e845_ : F119_ 1 1 = F5_ 1 1 := by rw [q120_]; exact (fl_u_ne (by omega)).trans (e844_)
      have e846_ : F142_ 1 1 = F5_ 1 1 := (s144_ 1 1 rfl).trans (e845_)
      have e847_ : F166_ 1 1 = F5_ 1 1 := (s168_ 1 1 rfl).trans (e846_)
      have e848_ : F191_ 1 1 = F5_ 1 1 := (s193_ 1 1 rfl).trans (e847_)
      have e849_ : F543_ 1 1 = F5_ 1 1 := (s545_ 1 1 rfl).trans (e848_)
      have e850_ : F570_ 1 1 = F5_ 1 1 := (s572_ 1 1 rfl).trans (e849_)
      have e851_ : F609_ 1 1 = F5_ 1 1 := (s611_ 1 1 rfl).trans (e850_)
      have e852_ : F1 1 1 = F5_ 1 1 := (hf_F1 1 1 rfl).trans (e851_)
      have e853_ : F791_ 1 1 = F5_ 1 1 := (s793_ 1 1 rfl).trans (e852_)
      have e854_ : F822_ 1 1 = F5_ 1 1 := (s824_ 1 1 rfl).trans (e853_)
      have b855_ : 0 ≤ F5_ 1 1 ∧ F5_ 1 1 ≤ 600 := gi_g g6_ rfl
      exact ⟨F822_, rfl, g823_, g825_, (⟨K, ts, pl, ps, al, ⟨hgK, hcut⟩, ⟨by have hx := hsp.trans (spa_e (by omega) (by omega) (by omega)); simp [sp_dom, sp_open, sp_close, pf, pb, c45_, c64_, c84_, c105_, c140_, c164_, c189_, c199_, ct1_, c568_, cq1_, c789_, c820_, hx], by rw [← hlt_]; exact htf⟩, ⟨(rep_fs (rep_fs (rep_fs (rep_fs (rep_fs ct2_ s572_ (fun _ => (fs_n (by omega) rfl)) (fs_n (by omega) rfl)) s611_ (fun _ => (fs_n (by omega) (fs_n (by omega) (fs_n (by omega) rfl)))) (fs_n (by omega) (fs_n (by omega) (fs_n (by omega) rfl)))) hf_F1 (fun _ => (fs_n (by omega) (fs_n (by omega) (fs_n (by omega) (fs_n (by omega) rfl))))) (fs_n (by omega) (fs_n (by omega) (fs_n (by omega) (fs_n (by omega) rfl))))) s793_ (fun _ => (fs_n (by omega) rfl)) (fs_n (by omega) rfl)) s824_ (fun _ => (fs_n (by omega) rfl)) (fs_n (by omega) rfl)), (rep_fs (rep_fs (rep_fs cq3_ hf_F1 (fun _ => (fs_n (by omega) (fs_n (by omega) (fs_n (by omega) (fs_n (by omega) rfl))))) (fs_n (by omega) (fs_n (by omega) (fs_n (by omega) (fs_n (by omega) rfl))))) s793_ (fun _ => (fs_n (by omega) rfl)) (fs_n (by omega) rfl)) s824_ (fun _ => (fs_n (by omega) rfl)) (fs_n (by omega) rfl)), (prd_fs (prd_fs (prd_fs cq4_ hf_F1 (fun _ _ _ => (fs_n (by omega) (fs_n (by omega) (fs_n (by omega) (fs_n (by omega) rfl)))))) s793_ (fun _ _ _ => (fs_n (by omega) rfl))) s824_ (fun _ _ _ => (fs_n (by omega) rfl))), cq2_⟩, (rep_fs (rep_fs hal s793_ (fun _ => (fs_n (by omega) rfl)) (fs_n (by omega) rfl)) s824_ (fun _ => (fs_n (by omega) rfl)) (fs_n (by omega) rfl)), by rw [show al.length = i.toNat by omega]; exact (di_fs (di_fs hdi s793_ (fun _ _ _ => (fs_n (by omega) rfl))) s824_ (fun _ _ _ => (fs_n (by omega) rfl)))⟩), (by omega)⟩
    refine fl_iconst hm_153 rfl ?_
    refine fl_goto hm_153 rfl ?_
    refine gr_i hm_153 rfl rfl (ga_nb (by omega)) ?_
    clear h756_ h757_ f754_ l755_
    refine fl_if_eq hm_33 rfl ⟨by omega, by omega⟩ (fun h => absurd h (by omega)) (fun _ => ?_)
    refine ga_aload_n (v := .ref 118) hm_33 rfl rfl rfl ?_
    refine ga_iload_n (z := i) hm_33 rfl rfl ?_
    obtain ⟨Ac, hAc⟩ : ∃ Ac : Nat, Ac = 39 + 13 * i.toNat := ⟨_, rfl⟩
    refine gVv (nY := 2) (F := 11) (L := 215) (As := [.int (Int32.ofInt i)]) (b := 118) (rest := []) hm_33 rfl hm_119 rfl rfl (fl_ob sc_118) rfl rfl rfl rfl rfl (by omega) (by omega) (mc_119 hG F1 X hg_F1 (K) (Ac) (i) (ts) (pl) (al) (alt) (ps) hgK tk620_ hko (by omega) (hAc) (by omega) (by rw [hAc]; exact (ra_18x _ (by omega)).1) (by rw [hAc]; exact (ra_18x _ (by omega)).2.1) (by rw [hAc]; exact (ra_18x _ (by omega)).2.2) ((rep_fs (rep_fs (rep_fs ct2_ s572_ (fun _ => (fs_n (by omega) rfl)) (fs_n (by omega) rfl)) s611_ (fun _ => (fs_n (by omega) (fs_n (by omega) (fs_n (by omega) rfl)))) (fs_n (by omega) (fs_n (by omega) (fs_n (by omega) rfl)))) hf_F1 (fun _ => (fs_n (by omega) (fs_n (by omega) (fs_n (by omega) (fs_n (by omega) rfl))))) (fs_n (by omega) (fs_n (by omega) (fs_n (by omega) (fs_n (by omega) rfl)))))) ((rep_fs cq3_ hf_F1 (fun _ => (fs_n (by omega) (fs_n (by omega) (fs_n (by omega) (fs_n (by omega) rfl))))) (fs_n (by omega) (fs_n (by omega) (fs_n (by omega) (fs_n (by omega) rfl)))))) ((prd_fs cq4_ hf_F1 (fun _ _ _ => (fs_n (by omega) (fs_n (by omega) (fs_n (by omega) (fs_n (by omega) rfl))))))) (cq2_) (hal) (hat) (by omega) (hdi)) ?_ ?_
    ·
      rintro j_ A1_ ⟨F857_, ⟨hJ_, hA_⟩, g858_, s859_, c856_⟩
      subst hA_
      subst hJ_
      refine ⟨rfl, ?_⟩
      refine gw_v ?_
      have g860_ : fs [(1, 1, 1, 1), (1, 1, 6, 8), (3, 6, 0, 100000), (7, 13, 0, 100000), (15, 17, 0, 100000), (21, 103, 0, 100000), (119, 119, 2, 3)] F F857_ := fs_tr g619_ s859_ (by simp [fs_le]; try omega)
      have b861_ : 0 ≤ F857_ 1 8 ∧ F857_ 1 8 ≤ 100000 := gi_g g858_ rfl
      have e862_ : F29_ 1 1 = F5_ 1 1 := by rw [q30_]; exact (fl_u_ne (by omega)).trans ((fl_u_ne (by omega)).trans (fl_u_ne (by omega)))
      have e863_ : F47_ 1 1 = F5_ 1 1 := (s49_ 1 1 rfl).trans (e862_)
      have e864_ : F66_ 1 1 = F5_ 1 1 := (s68_ 1 1 rfl).trans (e863_)
      have e865_ : F86_ 1 1 = F5_ 1 1 := (s88_ 1 1 rfl).trans (e864_)
      have e866_ : F107_ 1 1 = F5_ 1 1 := (s109_ 1 1 rfl).trans (e865_)
      have e867_ : F119_ 1 1 = F5_ 1 1 := by rw [q120_]; exact (fl_u_ne (by omega)).trans (e866_)
      have e868_ : F142_ 1 1 = F5_ 1 1 := (s144_ 1 1 rfl).trans (e867_)
      have e869_ : F166_ 1 1 = F5_ 1 1 := (s168_ 1 1 rfl).trans (e868_)
      have e870_ : F191_ 1 1 = F5_ 1 1 := (s193_ 1 1 rfl).trans (e869_)
      have e871_ : F543_ 1 1 = F5_ 1 1 := (s545_ 1 1 rfl).trans (e870_)
      have e872_ : F570_ 1 1 = F5_ 1 1 := (s572_ 1 1 rfl).trans (e871_)
      have e873_ : F609_ 1 1 = F5_ 1 1 := (s611_ 1 1 rfl).trans (e872_)
      have e874_ : F1 1 1 = F5_ 1 1 := (hf_F1 1 1 rfl).trans (e873_)
      have e875_ : F857_ 1 1 = F5_ 1 1 := (s859_ 1 1 (fs_n (by omega) (fs_n (by omega) (fs_n (by omega) (fs_n (by omega) rfl))))).trans (e874_)
      have b876_ : 0 ≤ F5_ 1 1 ∧ F5_ 1 1 ≤ 600 := gi_g g6_ rfl
      exact ⟨F857_, ⟨rfl, rfl⟩, g858_, g860_, (by obtain ⟨e, c1, c2⟩ := c856_; exact ⟨K, e, ⟨hgK, hcut⟩, ⟨(by have hx := hsp; rw [spa_step (by omega) (by omega) (by omega), c1] at hx; simp only [pb] at hx; simp [sp_dom, sp_open, sp_close, pf, pb, c45_, c64_, c84_, c105_, c140_, c164_, c189_, c199_, ct1_, c568_, cq1_, hx]), by rw [← hlt_]; exact htf⟩, c2⟩), (by omega)⟩
    rintro A1_ ⟨F881_, hA_, g882_, s883_, c878_, c879_, c880_⟩
    subst hA_
    have g884_ : fs [(1, 1, 1, 1), (1, 1, 6, 8), (3, 6, 0, 100000), (7, 13, 0, 100000), (15, 17, 0, 100000), (21, 103, 0, 100000), (119, 119, 2, 3)] F F881_ := fs_tr g619_ s883_ (by simp [fs_le]; try omega)
    have tk885_ : tkh K F881_ := tkh_fs tk620_ s883_ (fun r k h => (fs_n (by omega) (fs_n (by omega) (fs_n (by omega) (fs_n (by omega) rfl))))) (fs_n (by omega) (fs_n (by omega) (fs_n (by omega) (fs_n (by omega) rfl))))
    obtain ⟨al2_, alt2_, ⟨ca1_, ca4_⟩, ca2_, ca3_⟩ := c878_
    refine ga_inc (a := i) (c := i + 1) (lv2 := [(1, .int (Int32.ofInt (i + 1))), (0, .ref 118)]) hm_33 rfl rfl (Nat.le_of_ble_eq_true rfl) rfl rfl ?_
    refine fl_goto hm_33 rfl ?_
    have b886_ : 0 ≤ F881_ 15 2 ∧ F881_ 15 2 ≤ 5 := gi_g g882_ rfl
    have b887_ : 0 ≤ F1 15 2 ∧ F1 15 2 ≤ 5 := gi_g hg_F1 rfl
    have b888_ : 0 ≤ F881_ 1 7 ∧ F881_ 1 7 ≤ 600 := gi_g g882_ rfl
    have b889_ : 0 ≤ K 1 6 ∧ K 1 6 ≤ 601 := gi_g hgK rfl
    exact ih616_ _ (by omega) (i + 1) (_) (_) F881_ rfl g882_ (fs_tr hf_F1 s883_ (by simp [fs_le]; try omega)) (by omega) (ca2_) (ca3_) (ca4_) (by omega) (c880_) (by rw [hsp, spa_step (by omega) (by omega) (by omega), ca1_]; rfl)
  have e890_ : F29_ 15 2 = 0 := by rw [q30_]; exact fl_u_eq
  have e891_ : F47_ 15 2 = 0 := (s49_ 15 2 rfl).trans (e890_)
  have e892_ : F66_ 15 2 = 0 := (s68_ 15 2 rfl).trans (e891_)
  have e893_ : F86_ 15 2 = 0 := (s88_ 15 2 rfl).trans (e892_)
  have e894_ : F107_ 15 2 = 0 := (s109_ 15 2 rfl).trans (e893_)
  have e895_ : F119_ 15 2 = 0 := by rw [q120_]; exact (fl_u_ne (by omega)).trans (e894_)
  have e896_ : F142_ 15 2 = 0 := (s144_ 15 2 rfl).trans (e895_)
  have e897_ : F166_ 15 2 = 0 := (s168_ 15 2 rfl).trans (e896_)
  have e898_ : F191_ 15 2 = 0 := (s193_ 15 2 rfl).trans (e897_)
  have e899_ : F543_ 15 2 = 0 := (s545_ 15 2 rfl).trans (e898_)
  have e900_ : F570_ 15 2 = 0 := (s572_ 15 2 rfl).trans (e899_)
  have e901_ : F609_ 15 2 = 0 := (s611_ 15 2 rfl).trans (e900_)
  have b902_ : 0 ≤ K 1 6 ∧ K 1 6 ≤ 601 := gi_g hgK rfl
  exact L615_ _ (0) ([]) ([]) F609_ rfl g610_ fs_refl (by omega) (rep_0 (e901_)) (rep_0 (e901_)) (by simp) (by omega) (fun j hj => absurd hj (by simp)) (by simp)

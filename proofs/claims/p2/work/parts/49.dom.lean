theorem tkz_wf (f : Nat → Int) : ∀ (k i : Nat) (s : Int), s < (i : Int) → (0 ≤ s → f s.toNat ≠ 32 ∧ f s.toNat ≠ 40 ∧ f s.toNat ≠ 41) → ∀ q ∈ tkz f k i s, (q.1 < q.2 ∧ q.2 ≤ i + k) ∧ ((f q.1 = 40 ∨ f q.1 = 41) → q.2 = q.1 + 1) ∧ f q.1 ≠ 32 := by
  intro k
  induction k with
  | zero =>
    intro i s hs hw q hq
    unfold tkz at hq
    split at hq
    · rename_i h0
      simp only [List.mem_singleton] at hq
      subst hq
      have := hw h0
      exact ⟨⟨by simp only; omega, by simp⟩, fun h => by simp only at h; omega, this.1⟩
    · simp at hq
  | succ k ih =>
    intro i s hs hw q hq
    unfold tkz at hq
    split at hq
    · rename_i hc
      rcases List.mem_append.mp hq with hq | hq
      · split at hq
        · rename_i h0
          simp only [List.mem_singleton] at hq
          subst hq
          have := hw h0
          exact ⟨⟨by simp only; omega, by simp only; omega⟩, fun h => by simp only at h; omega, this.1⟩
        · simp at hq
      · rcases List.mem_append.mp hq with hq | hq
        · split at hq
          · simp at hq
          · rename_i h32
            simp only [List.mem_singleton] at hq
            subst hq
            exact ⟨⟨by simp, by simp only; omega⟩, fun _ => rfl, h32⟩
        · have := ih (i + 1) (-1) (by omega) (by omega) q hq
          exact ⟨⟨this.1.1, by omega⟩, this.2⟩
    · rename_i hc
      by_cases h0 : s < 0
      · rw [if_pos h0] at hq
        have := ih (i + 1) i (by omega) (fun _ => by simp only [Int.toNat_natCast]; omega) q hq
        exact ⟨⟨this.1.1, by omega⟩, this.2⟩
      · rw [if_neg h0] at hq
        have := ih (i + 1) s (by omega) hw q hq
        exact ⟨⟨this.1.1, by omega⟩, this.2⟩
/-- tables of tokens: kinds and codes are those of the letters; a parenthesis stands alone -/
def tkw (K : fl_N) (f : Nat → Int) (n : Int) : Prop := ∀ p : Int, 0 ≤ p → p < K 1 6 - 1 → ((0 ≤ K 4 p.toNat ∧ K 4 p.toNat < K 5 p.toNat ∧ K 5 p.toNat ≤ n) ∧ K 3 p.toNat = tkk f (K 4 p.toNat).toNat (K 5 p.toNat).toNat ∧ K 6 p.toNat = tkc f (K 4 p.toNat).toNat (K 5 p.toNat).toNat) ∧ ((f (K 4 p.toNat).toNat = 40 ∨ f (K 4 p.toNat).toNat = 41) → K 5 p.toNat = K 4 p.toNat + 1)
theorem tkw_of {K : fl_N} {f : Nat → Int} {n : Int} {l : List (Nat × Nat)} (h : tkf K f n l) (hl : l = tkz f n.toNat 0 (-1)) (hn : 0 ≤ n) : tkw K f n := by
  intro p h0 h1
  have h2 : p.toNat < l.length := by have := h.2.1; omega
  have h3 := h.1 p.toNat l[p.toNat] (List.getElem?_eq_getElem h2)
  have h4 := tkz_wf f n.toNat 0 (-1) (by omega) (by omega) l[p.toNat] (by rw [← hl]; exact List.getElem_mem h2)
  obtain ⟨⟨a1, a2⟩, a3, a4⟩ := h3
  rw [a1, a2, a3, a4]
  simp only [Int.toNat_natCast]
  refine ⟨⟨⟨by omega, by omega, by omega⟩, by first | rfl | trivial, by first | rfl | trivial⟩, fun h5 => ?_⟩
  have := h4.2.1 h5
  omega
theorem tkk_le (f : Nat → Int) (s e : Nat) : 0 ≤ tkk f s e ∧ tkk f s e ≤ 4 := by
  unfold tkk
  repeat' split
  all_goals omega
theorem tko_of {K : fl_N} {f : Nat → Int} {n : Int} {l : List (Nat × Nat)} (h : tkf K f n l) (hw : tkw K f n) : tko K := by
  refine ⟨by have := h.2.1; omega, ?_, fun p h0 h1 => ?_⟩
  · rw [show (K 1 6 - 1).toNat = l.length by have := h.2.1; omega]
    exact h.2.2.1
  · have h9 := hw p h0 h1
    have h8 := tkk_le f (K 4 p.toNat).toNat (K 5 p.toNat).toNat
    exact ⟨by omega, by omega⟩
theorem spa_step {K : fl_N} {ts pl : List Int} {ps : List (List Int)} {al : List Int} {i p : Int} (h : i < 5) (hl : (al.length : Int) = i) (hk : i = 0 ∨ K 3 p.toNat = 0) : sp_actions K ts pl ps (5 - i).toNat al p = pb (sp_action K ts pl ps al p) (fun q => sp_actions K ts pl ps (5 - (i + 1)).toNat q.2 q.1) := by
  rw [show (5 - i).toNat = (5 - (i + 1)).toNat + 1 by omega]
  conv => lhs; unfold sp_actions
  rw [if_neg]
  rintro ⟨h1, h2⟩
  rcases hk with hk | hk
  · exact h1 (List.eq_nil_of_length_eq_zero (by omega))
  · exact h2 hk
theorem spa_z {K : fl_N} {ts pl : List Int} {ps : List (List Int)} {al : List Int} {i p : Int} (h : 5 ≤ i) : sp_actions K ts pl ps (5 - i).toNat al p = .inr (p, al) := by
  rw [show (5 - i).toNat = 0 by omega]
  rfl
theorem spa_e {K : fl_N} {ts pl : List Int} {ps : List (List Int)} {al : List Int} {m : Nat} {i p : Int} (hl : (al.length : Int) = i) (h : ¬ i = 0) (hk : ¬ K 3 p.toNat = 0) : sp_actions K ts pl ps m al p = .inr (p, al) := by
  cases m with
  | zero => rfl
  | succ m =>
    unfold sp_actions
    rw [if_pos ⟨fun e => by rw [e] at hl; simp at hl; omega, hk⟩]
theorem rep_0 {F : fl_N} {a b : Nat} (h : F b 2 = 0) : rep (F a) (F b 2) [] := ⟨h, fun j x hx => by simp at hx⟩
theorem ra_18x (j : Nat) (hj : j < 5) : nm (39 + 13 * j) 3 ∧ cl (39 + 13 * j + 3) 4 2 (-1) ∧ cl (39 + 13 * j + 8) 4 2 0 := by
  match j, hj with
  | 0, _ => exact ⟨nm_39, cl_42, cl_47⟩
  | 1, _ => exact ⟨nm_52, cl_55, cl_60⟩
  | 2, _ => exact ⟨nm_65, cl_68, cl_73⟩
  | 3, _ => exact ⟨nm_78, cl_81, cl_86⟩
  | 4, _ => exact ⟨nm_91, cl_94, cl_99⟩
  | n + 5, h => exact absurd h (by omega)

/- CheapPlanner$Reader.readDomain -/
abbrev pq_33 (G : Nat → Nat → Option Nat) (F : fl_N) (X : xi_H)  : Outcome → xi_H → Prop := gqv (fun A => ∃ F' : fl_N, fl_H sh_T G F' ++ X = A ∧ gi F' ∧ fs [(1, 1, 1, 1), (1, 1, 6, 8), (3, 6, 0, 100000), (7, 13, 0, 100000), (15, 17, 0, 100000), (21, 103, 0, 100000), (119, 119, 2, 3)] F F' ∧ (∃ K ts pl ps al, (gi K ∧ (∀ j, K 2 j = F 2 j) ∧ tkw K (F 2) (F 1 1)) ∧ (sp_dom K = .inr (ts, pl, ps, al) ∧ tkf K (F 2) (F 1 1) (tkz (F 2) (F 1 1).toNat 0 (-1))) ∧ (rep (F' 9) (F' 8 2) ts ∧ rep (F' 12) (F' 11 2) pl ∧ prd F' ps ∧ pl.length = ps.length) ∧ rep (F' 16) (F' 15 2) al ∧ di F' al.length) ∧ (F' 1 1 = 0)) (fun j A => ∃ F' : fl_N, (387 + X.length = j ∧ fl_H sh_T G F' ++ (X ++ [gx 14]) = A) ∧ gi F' ∧ fs [(1, 1, 1, 1), (1, 1, 6, 8), (3, 6, 0, 100000), (7, 13, 0, 100000), (15, 17, 0, 100000), (21, 103, 0, 100000), (119, 119, 2, 3)] F F' ∧ (∃ K e, (gi K ∧ (∀ j, K 2 j = F 2 j) ∧ tkw K (F 2) (F 1 1)) ∧ (sp_dom K = .inl e ∧ tkf K (F 2) (F 1 1) (tkz (F 2) (F 1 1).toNat 0 (-1))) ∧ F' 1 8 = e.1 + 10 * e.2) ∧ (F' 1 1 = 0))
theorem mc_33 {G : Nat → Nat → Option Nat} (hG : gg G) (F : fl_N) (X : xi_H) (hgi : gi F)  : fl_M xi_ms 33 12 236 [.ref 118] (fl_H sh_T G F ++ X) (pq_33 G F X) := by
  intro fr lo hfr hlo
  show fl_R xi_ms 33 fr lo 0 [(0, .ref 118)] [] _ _
  refine ga_aload_n (v := .ref 118) hm_33 rfl rfl rfl ?_
  refine ga_getr (b := 1) hm_33 rfl sc_118 rfl ?_
  refine gVv (nY := 5) (F := 2) (L := 53) (As := []) (b := 1) (rest := []) hm_33 rfl hm_22 rfl rfl (fl_ob sc_1) rfl rfl rfl rfl rfl (by omega) (by omega) (mc_22 hG F X hgi) (fun _ _ h => False.elim h) ?_
  have b2_ : 0 ≤ F 1 1 ∧ F 1 1 ≤ 600 := gi_g hgi rfl
  rintro A1_ ⟨F5_, hA_, g6_, s7_, c3_, c4_⟩
  subst hA_
  have g8_ : fs [(1, 1, 1, 1), (1, 1, 6, 8), (3, 6, 0, 100000), (7, 13, 0, 100000), (15, 17, 0, 100000), (21, 103, 0, 100000), (119, 119, 2, 3)] F F5_ := fs_tr fs_refl s7_ rfl
  obtain ⟨lt_, hlt_, htf_, hln_⟩ := c3_
  obtain ⟨K, hKe⟩ : ∃ K, K = F5_ := ⟨_, rfl⟩
  have hgK : gi K := by rw [hKe]; exact g6_
  have hK : tkh K F5_ := by rw [hKe]; exact ⟨fun _ _ _ => rfl, rfl⟩
  have htf : tkf K (F 2) (F 1 1) lt_ := by rw [hKe]; exact htf_
  have hbF : 0 ≤ F 1 1 ∧ F 1 1 ≤ 600 := gi_g hgi rfl
  have htw := tkw_of htf hlt_ hbF.1
  have hko := tko_of htf htw
  have hp0 : F5_ 1 7 = 0 := c4_.2.1
  have hK1 := hko.1
  have hkk : K 1 6 = F5_ 1 6 := by rw [hKe]
  have hcut : (∀ j, K 2 j = F 2 j) ∧ tkw K (F 2) (F 1 1) := ⟨fun j => by rw [hKe]; exact g8_ 2 j (by simp [fs_in]), htw⟩
  refine ga_aload_n (v := .ref 118) hm_33 rfl rfl rfl ?_
  refine ga_getr (b := 7) hm_33 rfl sc_118 rfl ?_
  refine gIv (nY := 1) (F := 1) (L := 20) (As := []) (b := 7) (rest := []) hm_33 rfl hm_30 rfl rfl (fl_ob sc_7) rfl rfl rfl rfl rfl (by omega) (by omega) ?_
  intro f9_ l10_ h11_ h12_
  show fl_R xi_ms 30 f9_ l10_ 0 [(0, .ref 7)] [] _ _
  refine ga_aload_n (v := .ref 7) hm_30 rfl rfl rfl ?_
  refine ga_getr (b := 8) hm_30 rfl sc_7 rfl ?_
  refine gIv (nY := 1) (F := 0) (L := 0) (As := []) (b := 8) (rest := []) hm_30 rfl hm_27 rfl rfl (fl_ob sc_8) rfl rfl rfl rfl rfl (by omega) (by omega) ?_
  intro f13_ l14_ h15_ h16_
  show fl_R xi_ms 27 f13_ l14_ 0 [(0, .ref 8)] [] _ _
  refine ga_aload_n (v := .ref 8) hm_27 rfl rfl rfl ?_
  refine fl_iconst hm_27 rfl ?_
  refine ga_puti (z := 0) hm_27 rfl sc_8 rfl rfl ?_
  refine gr_v hm_27 rfl rfl ?_
  refine ga_aload_n (v := .ref 7) hm_30 rfl rfl rfl ?_
  refine ga_getr (b := 11) hm_30 rfl sc_7 rfl ?_
  refine gIv (nY := 1) (F := 0) (L := 0) (As := []) (b := 11) (rest := []) hm_30 rfl hm_27 rfl rfl (fl_ob sc_11) rfl rfl rfl rfl rfl (by omega) (by omega) ?_
  intro f17_ l18_ h19_ h20_
  show fl_R xi_ms 27 f17_ l18_ 0 [(0, .ref 11)] [] _ _
  refine ga_aload_n (v := .ref 11) hm_27 rfl rfl rfl ?_
  refine fl_iconst hm_27 rfl ?_
  refine ga_puti (z := 0) hm_27 rfl sc_11 rfl rfl ?_
  refine gr_v hm_27 rfl rfl ?_
  refine ga_aload_n (v := .ref 7) hm_30 rfl rfl rfl ?_
  refine ga_getr (b := 15) hm_30 rfl sc_7 rfl ?_
  refine gIv (nY := 1) (F := 0) (L := 0) (As := []) (b := 15) (rest := []) hm_30 rfl hm_27 rfl rfl (fl_ob sc_15) rfl rfl rfl rfl rfl (by omega) (by omega) ?_
  intro f21_ l22_ h23_ h24_
  show fl_R xi_ms 27 f21_ l22_ 0 [(0, .ref 15)] [] _ _
  refine ga_aload_n (v := .ref 15) hm_27 rfl rfl rfl ?_
  refine fl_iconst hm_27 rfl ?_
  refine ga_puti (z := 0) hm_27 rfl sc_15 rfl rfl ?_
  refine gr_v hm_27 rfl rfl ?_
  refine gr_v hm_30 rfl rfl ?_
  refine ga_aload_n (v := .ref 118) hm_33 rfl rfl rfl ?_
  refine ga_ldcs hm_33 rfl ?_
  refine gIv (nY := 2) (F := 8) (L := 144) (As := [.retAddr 0]) (b := 118) (rest := []) hm_33 rfl hm_34 rfl rfl (fl_ob sc_118) rfl rfl rfl rfl rfl (by omega) (by omega) ?_
  intro f25_ l26_ h27_ h28_
  show fl_R xi_ms 34 f25_ l26_ 0 [(0, .ref 118), (1, .retAddr 0)] [] _ _
  refine ga_aload_n (v := .ref 118) hm_34 rfl rfl rfl ?_
  refine ga_getr (b := 1) hm_34 rfl sc_118 rfl ?_
  refine fl_iconst hm_34 rfl ?_
  obtain ⟨F29_, q30_⟩ : ∃ F9_, F9_ = (fl_u (fl_u (fl_u F5_ 8 2 0) 11 2 0) 15 2 0) := ⟨_, rfl⟩
  rw [← q30_]
  have g31_ : gi F29_ := by rw [q30_]; exact gi_u (gi_u (gi_u (g6_) rfl (by omega) (by omega)) rfl (by omega) (by omega)) rfl (by omega) (by omega)
  have g32_ : fs [(1, 1, 1, 1), (1, 1, 6, 8), (3, 6, 0, 100000), (7, 13, 0, 100000), (15, 17, 0, 100000), (21, 103, 0, 100000), (119, 119, 2, 3)] F F29_ := by rw [q30_]; exact fs_u (fs_u (fs_u (g8_) rfl) rfl) rfl
  have tk33_ : tkh K F29_ := by rw [q30_]; exact tkh_u (tkh_u (tkh_u (hK) (by omega) (by omega)) (by omega) (by omega)) (by omega) (by omega)
  have e34_ : F29_ 1 7 = 0 := by rw [q30_]; exact (fl_u_ne (by omega)).trans ((fl_u_ne (by omega)).trans ((fl_u_ne (by omega)).trans (hp0)))
  refine gVv (nY := 2) (F := 7) (L := 121) (As := [.int (Int32.ofInt 0)]) (b := 1) (rest := []) hm_34 rfl hm_24 rfl rfl (fl_ob sc_1) rfl rfl rfl rfl rfl (by omega) (by omega) (mc_24 hG F29_ X g31_ (K) (0) hgK tk33_ hko (by omega) (by omega)) ?_ ?_
  ·
    rintro j_ A1_ ⟨F36_, ⟨hJ_, hA_⟩, g37_, s38_, c35_⟩
    subst hA_
    subst hJ_
    try simp only [e34_] at c35_
    refine ⟨rfl, ?_⟩
    refine gw_v ⟨rfl, ?_⟩
    refine gw_v ?_
    have g39_ : fs [(1, 1, 1, 1), (1, 1, 6, 8), (3, 6, 0, 100000), (7, 13, 0, 100000), (15, 17, 0, 100000), (21, 103, 0, 100000), (119, 119, 2, 3)] F F36_ := fs_tr g32_ s38_ rfl
    have b40_ : 0 ≤ F36_ 1 8 ∧ F36_ 1 8 ≤ 100000 := gi_g g37_ rfl
    have e41_ : F29_ 1 1 = F5_ 1 1 := by rw [q30_]; exact (fl_u_ne (by omega)).trans ((fl_u_ne (by omega)).trans (fl_u_ne (by omega)))
    have e42_ : F36_ 1 1 = F5_ 1 1 := (s38_ 1 1 rfl).trans (e41_)
    have b43_ : 0 ≤ F5_ 1 1 ∧ F5_ 1 1 ≤ 600 := gi_g g6_ rfl
    exact ⟨F36_, ⟨rfl, rfl⟩, g37_, g39_, (by obtain ⟨e, c1, c2⟩ := c35_; exact ⟨K, e, ⟨hgK, hcut⟩, ⟨(by simp [sp_dom, sp_open, sp_close, pf, pb, c1]), by rw [← hlt_]; exact htf⟩, c2⟩), (by omega)⟩
  rintro A1_ ⟨F47_, hA_, g48_, s49_, c45_, c46_⟩
  subst hA_
  have g50_ : fs [(1, 1, 1, 1), (1, 1, 6, 8), (3, 6, 0, 100000), (7, 13, 0, 100000), (15, 17, 0, 100000), (21, 103, 0, 100000), (119, 119, 2, 3)] F F47_ := fs_tr g32_ s49_ rfl
  have tk51_ : tkh K F47_ := tkh_fs tk33_ s49_ (fun r k h => (fs_n (by omega) rfl)) (fs_n (by omega) rfl)
  try simp only [e34_] at c45_
  refine ga_aload_n (v := .ref 118) hm_34 rfl rfl rfl ?_
  refine ga_getr (b := 1) hm_34 rfl sc_118 rfl ?_
  refine ga_ldcs hm_34 rfl ?_
  have b52_ : 0 ≤ F47_ 1 7 ∧ F47_ 1 7 ≤ 600 := gi_g g48_ rfl
  refine gVv (nY := 2) (F := 7) (L := 123) (As := [.retAddr 2]) (b := 1) (rest := []) hm_34 rfl hm_155 rfl rfl (fl_ob sc_1) rfl rfl rfl rfl rfl (by omega) (by omega) (mc_155 hG F47_ X g48_ (K) (2) ([100, 101, 102, 105, 110, 101]) hgK tk51_ hko (by omega) (rfl) (by decide)) ?_ ?_
  ·
    rintro j_ A1_ ⟨F54_, ⟨hJ_, hA_⟩, g55_, s56_, c53_⟩
    subst hA_
    subst hJ_
    refine ⟨rfl, ?_⟩
    refine gw_v ⟨rfl, ?_⟩
    refine gw_v ?_
    have g57_ : fs [(1, 1, 1, 1), (1, 1, 6, 8), (3, 6, 0, 100000), (7, 13, 0, 100000), (15, 17, 0, 100000), (21, 103, 0, 100000), (119, 119, 2, 3)] F F54_ := fs_tr g50_ s56_ rfl
    have b58_ : 0 ≤ F54_ 1 8 ∧ F54_ 1 8 ≤ 100000 := gi_g g55_ rfl
    have e59_ : F29_ 1 1 = F5_ 1 1 := by rw [q30_]; exact (fl_u_ne (by omega)).trans ((fl_u_ne (by omega)).trans (fl_u_ne (by omega)))
    have e60_ : F47_ 1 1 = F5_ 1 1 := (s49_ 1 1 rfl).trans (e59_)
    have e61_ : F54_ 1 1 = F5_ 1 1 := (s56_ 1 1 rfl).trans (e60_)
    have b62_ : 0 ≤ F5_ 1 1 ∧ F5_ 1 1 ≤ 600 := gi_g g6_ rfl
    exact ⟨F54_, ⟨rfl, rfl⟩, g55_, g57_, (by obtain ⟨e, c1, c2⟩ := c53_; exact ⟨K, e, ⟨hgK, hcut⟩, ⟨(by simp [sp_dom, sp_open, sp_close, pf, pb, c45_, c1]), by rw [← hlt_]; exact htf⟩, c2⟩), (by omega)⟩
  rintro A1_ ⟨F66_, hA_, g67_, s68_, c64_, c65_⟩
  subst hA_
  have g69_ : fs [(1, 1, 1, 1), (1, 1, 6, 8), (3, 6, 0, 100000), (7, 13, 0, 100000), (15, 17, 0, 100000), (21, 103, 0, 100000), (119, 119, 2, 3)] F F66_ := fs_tr g50_ s68_ rfl
  have tk70_ : tkh K F66_ := tkh_fs tk51_ s68_ (fun r k h => (fs_n (by omega) rfl)) (fs_n (by omega) rfl)
  refine ga_aload_n (v := .ref 118) hm_34 rfl rfl rfl ?_
  refine ga_getr (b := 1) hm_34 rfl sc_118 rfl ?_
  refine fl_iconst hm_34 rfl ?_
  have b71_ : 0 ≤ F66_ 1 7 ∧ F66_ 1 7 ≤ 600 := gi_g g67_ rfl
  refine gVv (nY := 2) (F := 7) (L := 121) (As := [.int (Int32.ofInt 0)]) (b := 1) (rest := []) hm_34 rfl hm_24 rfl rfl (fl_ob sc_1) rfl rfl rfl rfl rfl (by omega) (by omega) (mc_24 hG F66_ X g67_ (K) (0) hgK tk70_ hko (by omega) (by omega)) ?_ ?_
  ·
    rintro j_ A1_ ⟨F73_, ⟨hJ_, hA_⟩, g74_, s75_, c72_⟩
    subst hA_
    subst hJ_
    refine ⟨rfl, ?_⟩
    refine gw_v ⟨rfl, ?_⟩
    refine gw_v ?_
    have g76_ : fs [(1, 1, 1, 1), (1, 1, 6, 8), (3, 6, 0, 100000), (7, 13, 0, 100000), (15, 17, 0, 100000), (21, 103, 0, 100000), (119, 119, 2, 3)] F F73_ := fs_tr g69_ s75_ rfl
    have b77_ : 0 ≤ F73_ 1 8 ∧ F73_ 1 8 ≤ 100000 := gi_g g74_ rfl
    have e78_ : F29_ 1 1 = F5_ 1 1 := by rw [q30_]; exact (fl_u_ne (by omega)).trans ((fl_u_ne (by omega)).trans (fl_u_ne (by omega)))
    have e79_ : F47_ 1 1 = F5_ 1 1 := (s49_ 1 1 rfl).trans (e78_)
    have e80_ : F66_ 1 1 = F5_ 1 1 := (s68_ 1 1 rfl).trans (e79_)
    have e81_ : F73_ 1 1 = F5_ 1 1 := (s75_ 1 1 rfl).trans (e80_)
    have b82_ : 0 ≤ F5_ 1 1 ∧ F5_ 1 1 ≤ 600 := gi_g g6_ rfl
    exact ⟨F73_, ⟨rfl, rfl⟩, g74_, g76_, (by obtain ⟨e, c1, c2⟩ := c72_; exact ⟨K, e, ⟨hgK, hcut⟩, ⟨(by simp [sp_dom, sp_open, sp_close, pf, pb, c45_, c64_, c1]), by rw [← hlt_]; exact htf⟩, c2⟩), (by omega)⟩
  rintro A1_ ⟨F86_, hA_, g87_, s88_, c84_, c85_⟩
  subst hA_
  have g89_ : fs [(1, 1, 1, 1), (1, 1, 6, 8), (3, 6, 0, 100000), (7, 13, 0, 100000), (15, 17, 0, 100000), (21, 103, 0, 100000), (119, 119, 2, 3)] F F86_ := fs_tr g69_ s88_ rfl
  have tk90_ : tkh K F86_ := tkh_fs tk70_ s88_ (fun r k h => (fs_n (by omega) rfl)) (fs_n (by omega) rfl)
  refine ga_aload_n (v := .ref 118) hm_34 rfl rfl rfl ?_
  refine ga_getr (b := 1) hm_34 rfl sc_118 rfl ?_
  refine ga_aload_n (v := .retAddr 0) hm_34 rfl rfl rfl ?_
  have b91_ : 0 ≤ F86_ 1 7 ∧ F86_ 1 7 ≤ 600 := gi_g g87_ rfl
  refine gVv (nY := 2) (F := 7) (L := 123) (As := [.retAddr 0]) (b := 1) (rest := []) hm_34 rfl hm_155 rfl rfl (fl_ob sc_1) rfl rfl rfl rfl rfl (by omega) (by omega) (mc_155 hG F86_ X g87_ (K) (0) ([100, 111, 109, 97, 105, 110]) hgK tk90_ hko (by omega) (rfl) (by decide)) ?_ ?_
  ·
    rintro j_ A1_ ⟨F93_, ⟨hJ_, hA_⟩, g94_, s95_, c92_⟩
    subst hA_
    subst hJ_
    refine ⟨rfl, ?_⟩
    refine gw_v ⟨rfl, ?_⟩
    refine gw_v ?_
    have g96_ : fs [(1, 1, 1, 1), (1, 1, 6, 8), (3, 6, 0, 100000), (7, 13, 0, 100000), (15, 17, 0, 100000), (21, 103, 0, 100000), (119, 119, 2, 3)] F F93_ := fs_tr g89_ s95_ rfl
    have b97_ : 0 ≤ F93_ 1 8 ∧ F93_ 1 8 ≤ 100000 := gi_g g94_ rfl
    have e98_ : F29_ 1 1 = F5_ 1 1 := by rw [q30_]; exact (fl_u_ne (by omega)).trans ((fl_u_ne (by omega)).trans (fl_u_ne (by omega)))
    have e99_ : F47_ 1 1 = F5_ 1 1 := (s49_ 1 1 rfl).trans (e98_)
    have e100_ : F66_ 1 1 = F5_ 1 1 := (s68_ 1 1 rfl).trans (e99_)
    have e101_ : F86_ 1 1 = F5_ 1 1 := (s88_ 1 1 rfl).trans (e100_)
    have e102_ : F93_ 1 1 = F5_ 1 1 := (s95_ 1 1 rfl).trans (e101_)
    have b103_ : 0 ≤ F5_ 1 1 ∧ F5_ 1 1 ≤ 600 := gi_g g6_ rfl
    exact ⟨F93_, ⟨rfl, rfl⟩, g94_, g96_, (by obtain ⟨e, c1, c2⟩ := c92_; exact ⟨K, e, ⟨hgK, hcut⟩, ⟨(by simp [sp_dom, sp_open, sp_close, pf, pb, c45_, c64_, c84_, c1]), by rw [← hlt_]; exact htf⟩, c2⟩), (by omega)⟩
  rintro A1_ ⟨F107_, hA_, g108_, s109_, c105_, c106_⟩
  subst hA_
  have g110_ : fs [(1, 1, 1, 1), (1, 1, 6, 8), (3, 6, 0, 100000), (7, 13, 0, 100000), (15, 17, 0, 100000), (21, 103, 0, 100000), (119, 119, 2, 3)] F F107_ := fs_tr g89_ s109_ rfl
  have tk111_ : tkh K F107_ := tkh_fs tk90_ s109_ (fun r k h => (fs_n (by omega) rfl)) (fs_n (by omega) rfl)
  refine gr_v hm_34 rfl rfl ?_
  refine ga_aload_n (v := .ref 118) hm_33 rfl rfl rfl ?_
  refine ga_getr (b := 7) hm_33 rfl sc_118 rfl ?_
  refine ga_aload_n (v := .ref 118) hm_33 rfl rfl rfl ?_
  refine ga_getr (b := 1) hm_33 rfl sc_118 rfl ?_
  refine gIl (nY := 1) (F := 0) (L := 0) (As := []) (b := 1) (rest := [.ref 7]) hm_33 rfl hm_149 rfl rfl (fl_ob sc_1) rfl rfl rfl rfl rfl (by omega) (by omega) ?_
  intro f112_ l113_ h114_ h115_
  show fl_R xi_ms 149 f112_ l113_ 0 [(0, .ref 1)] [] _ _
  refine ga_aload_n (v := .ref 1) hm_149 rfl rfl rfl ?_
  refine ga_getr (b := 6) hm_149 rfl sc_1 rfl ?_
  refine ga_aload_n (v := .ref 1) hm_149 rfl rfl rfl ?_
  have b116_ : 0 ≤ F107_ 1 7 ∧ F107_ 1 7 ≤ 600 := gi_g g108_ rfl
  refine ga_geti (z := F107_ 1 7) hm_149 rfl sc_1 rfl (rfl) ?_
  have e117_ : F107_ 6 (F107_ 1 7).toNat = K 6 (F107_ 1 7).toNat := tk111_.1 6 (F107_ 1 7).toNat (by omega)
  have b118_ : -9223372036854775808 ≤ K 6 (F107_ 1 7).toNat ∧ K 6 (F107_ 1 7).toNat ≤ 9223372036854775807 := gi_g hgK rfl
  refine ga_lald (z := F107_ 1 7) (w := K 6 (F107_ 1 7).toNat) hm_149 rfl sc_6 (by omega) (by omega) (by omega) (e117_) ?_
  refine gr_l hm_149 rfl rfl ?_
  refine ga_putl hm_33 rfl sc_7 rfl rfl ?_
  refine ga_aload_n (v := .ref 118) hm_33 rfl rfl rfl ?_
  refine ga_getr (b := 1) hm_33 rfl sc_118 rfl ?_
  refine fl_iconst hm_33 rfl ?_
  obtain ⟨F119_, q120_⟩ : ∃ F9_, F9_ = (fl_u F107_ 7 0 (K 6 (F107_ 1 7).toNat)) := ⟨_, rfl⟩
  rw [← q120_]
  have g121_ : gi F119_ := by rw [q120_]; exact gi_u (g108_) rfl (by omega) (by omega)
  have g122_ : fs [(1, 1, 1, 1), (1, 1, 6, 8), (3, 6, 0, 100000), (7, 13, 0, 100000), (15, 17, 0, 100000), (21, 103, 0, 100000), (119, 119, 2, 3)] F F119_ := by rw [q120_]; exact fs_u (g110_) rfl
  have tk123_ : tkh K F119_ := by rw [q120_]; exact tkh_u (tk111_) (by omega) (by omega)
  have e124_ : F119_ 1 7 = F107_ 1 7 := by rw [q120_]; exact fl_u_ne (by omega)
  refine gVv (nY := 2) (F := 7) (L := 121) (As := [.int (Int32.ofInt 2)]) (b := 1) (rest := []) hm_33 rfl hm_24 rfl rfl (fl_ob sc_1) rfl rfl rfl rfl rfl (by omega) (by omega) (mc_24 hG F119_ X g121_ (K) (2) hgK tk123_ hko (by omega) (by omega)) ?_ ?_
  ·
    rintro j_ A1_ ⟨F126_, ⟨hJ_, hA_⟩, g127_, s128_, c125_⟩
    subst hA_
    subst hJ_
    try simp only [e124_] at c125_
    refine ⟨rfl, ?_⟩
    refine gw_v ?_
    have g129_ : fs [(1, 1, 1, 1), (1, 1, 6, 8), (3, 6, 0, 100000), (7, 13, 0, 100000), (15, 17, 0, 100000), (21, 103, 0, 100000), (119, 119, 2, 3)] F F126_ := fs_tr g122_ s128_ rfl
    have b130_ : 0 ≤ F126_ 1 8 ∧ F126_ 1 8 ≤ 100000 := gi_g g127_ rfl
    have e131_ : F29_ 1 1 = F5_ 1 1 := by rw [q30_]; exact (fl_u_ne (by omega)).trans ((fl_u_ne (by omega)).trans (fl_u_ne (by omega)))
    have e132_ : F47_ 1 1 = F5_ 1 1 := (s49_ 1 1 rfl).trans (e131_)
    have e133_ : F66_ 1 1 = F5_ 1 1 := (s68_ 1 1 rfl).trans (e132_)
    have e134_ : F86_ 1 1 = F5_ 1 1 := (s88_ 1 1 rfl).trans (e133_)
    have e135_ : F107_ 1 1 = F5_ 1 1 := (s109_ 1 1 rfl).trans (e134_)
    have e136_ : F119_ 1 1 = F5_ 1 1 := by rw [q120_]; exact (fl_u_ne (by omega)).trans (e135_)
    have e137_ : F126_ 1 1 = F5_ 1 1 := (s128_ 1 1 rfl).trans (e136_)
    have b138_ : 0 ≤ F5_ 1 1 ∧ F5_ 1 1 ≤ 600 := gi_g g6_ rfl
    exact ⟨F126_, ⟨rfl, rfl⟩, g127_, g129_, (by obtain ⟨e, c1, c2⟩ := c125_; exact ⟨K, e, ⟨hgK, hcut⟩, ⟨(by simp [sp_dom, sp_open, sp_close, pf, pb, c45_, c64_, c84_, c105_, c1]), by rw [← hlt_]; exact htf⟩, c2⟩), (by omega)⟩
  rintro A1_ ⟨F142_, hA_, g143_, s144_, c140_, c141_⟩
  subst hA_
  have g145_ : fs [(1, 1, 1, 1), (1, 1, 6, 8), (3, 6, 0, 100000), (7, 13, 0, 100000), (15, 17, 0, 100000), (21, 103, 0, 100000), (119, 119, 2, 3)] F F142_ := fs_tr g122_ s144_ rfl
  have tk146_ : tkh K F142_ := tkh_fs tk123_ s144_ (fun r k h => (fs_n (by omega) rfl)) (fs_n (by omega) rfl)
  try simp only [e124_] at c140_
  refine ga_aload_n (v := .ref 118) hm_33 rfl rfl rfl ?_
  refine ga_getr (b := 1) hm_33 rfl sc_118 rfl ?_
  refine fl_iconst hm_33 rfl ?_
  have b147_ : 0 ≤ F142_ 1 7 ∧ F142_ 1 7 ≤ 600 := gi_g g143_ rfl
  refine gVv (nY := 2) (F := 7) (L := 121) (As := [.int (Int32.ofInt 1)]) (b := 1) (rest := []) hm_33 rfl hm_24 rfl rfl (fl_ob sc_1) rfl rfl rfl rfl rfl (by omega) (by omega) (mc_24 hG F142_ X g143_ (K) (1) hgK tk146_ hko (by omega) (by omega)) ?_ ?_
  ·
    rintro j_ A1_ ⟨F149_, ⟨hJ_, hA_⟩, g150_, s151_, c148_⟩
    subst hA_
    subst hJ_
    refine ⟨rfl, ?_⟩
    refine gw_v ?_
    have g152_ : fs [(1, 1, 1, 1), (1, 1, 6, 8), (3, 6, 0, 100000), (7, 13, 0, 100000), (15, 17, 0, 100000), (21, 103, 0, 100000), (119, 119, 2, 3)] F F149_ := fs_tr g145_ s151_ rfl
    have b153_ : 0 ≤ F149_ 1 8 ∧ F149_ 1 8 ≤ 100000 := gi_g g150_ rfl
    have e154_ : F29_ 1 1 = F5_ 1 1 := by rw [q30_]; exact (fl_u_ne (by omega)).trans ((fl_u_ne (by omega)).trans (fl_u_ne (by omega)))
    have e155_ : F47_ 1 1 = F5_ 1 1 := (s49_ 1 1 rfl).trans (e154_)
    have e156_ : F66_ 1 1 = F5_ 1 1 := (s68_ 1 1 rfl).trans (e155_)
    have e157_ : F86_ 1 1 = F5_ 1 1 := (s88_ 1 1 rfl).trans (e156_)
    have e158_ : F107_ 1 1 = F5_ 1 1 := (s109_ 1 1 rfl).trans (e157_)
    have e159_ : F119_ 1 1 = F5_ 1 1 := by rw [q120_]; exact (fl_u_ne (by omega)).trans (e158_)
    have e160_ : F142_ 1 1 = F5_ 1 1 := (s144_ 1 1 rfl).trans (e159_)
    have e161_ : F149_ 1 1 = F5_ 1 1 := (s151_ 1 1 rfl).trans (e160_)
    have b162_ : 0 ≤ F5_ 1 1 ∧ F5_ 1 1 ≤ 600 := gi_g g6_ rfl
    exact ⟨F149_, ⟨rfl, rfl⟩, g150_, g152_, (by obtain ⟨e, c1, c2⟩ := c148_; exact ⟨K, e, ⟨hgK, hcut⟩, ⟨(by simp [sp_dom, sp_open, sp_close, pf, pb, c45_, c64_, c84_, c105_, c140_, c1]), by rw [← hlt_]; exact htf⟩, c2⟩), (by omega)⟩
  rintro A1_ ⟨F166_, hA_, g167_, s168_, c164_, c165_⟩
  subst hA_
  have g169_ : fs [(1, 1, 1, 1), (1, 1, 6, 8), (3, 6, 0, 100000), (7, 13, 0, 100000), (15, 17, 0, 100000), (21, 103, 0, 100000), (119, 119, 2, 3)] F F166_ := fs_tr g145_ s168_ rfl
  have tk170_ : tkh K F166_ := tkh_fs tk146_ s168_ (fun r k h => (fs_n (by omega) rfl)) (fs_n (by omega) rfl)
  refine ga_aload_n (v := .ref 118) hm_33 rfl rfl rfl ?_
  refine ga_getr (b := 1) hm_33 rfl sc_118 rfl ?_
  refine fl_iconst hm_33 rfl ?_
  have b171_ : 0 ≤ F166_ 1 7 ∧ F166_ 1 7 ≤ 600 := gi_g g167_ rfl
  refine gVv (nY := 2) (F := 7) (L := 121) (As := [.int (Int32.ofInt 0)]) (b := 1) (rest := []) hm_33 rfl hm_24 rfl rfl (fl_ob sc_1) rfl rfl rfl rfl rfl (by omega) (by omega) (mc_24 hG F166_ X g167_ (K) (0) hgK tk170_ hko (by omega) (by omega)) ?_ ?_
  ·
    rintro j_ A1_ ⟨F173_, ⟨hJ_, hA_⟩, g174_, s175_, c172_⟩
    subst hA_
    subst hJ_
    refine ⟨rfl, ?_⟩
    refine gw_v ?_
    have g176_ : fs [(1, 1, 1, 1), (1, 1, 6, 8), (3, 6, 0, 100000), (7, 13, 0, 100000), (15, 17, 0, 100000), (21, 103, 0, 100000), (119, 119, 2, 3)] F F173_ := fs_tr g169_ s175_ rfl
    have b177_ : 0 ≤ F173_ 1 8 ∧ F173_ 1 8 ≤ 100000 := gi_g g174_ rfl
    have e178_ : F29_ 1 1 = F5_ 1 1 := by rw [q30_]; exact (fl_u_ne (by omega)).trans ((fl_u_ne (by omega)).trans (fl_u_ne (by omega)))
    have e179_ : F47_ 1 1 = F5_ 1 1 := (s49_ 1 1 rfl).trans (e178_)
    have e180_ : F66_ 1 1 = F5_ 1 1 := (s68_ 1 1 rfl).trans (e179_)
    have e181_ : F86_ 1 1 = F5_ 1 1 := (s88_ 1 1 rfl).trans (e180_)
    have e182_ : F107_ 1 1 = F5_ 1 1 := (s109_ 1 1 rfl).trans (e181_)
    have e183_ : F119_ 1 1 = F5_ 1 1 := by rw [q120_]; exact (fl_u_ne (by omega)).trans (e182_)
    have e184_ : F142_ 1 1 = F5_ 1 1 := (s144_ 1 1 rfl).trans (e183_)
    have e185_ : F166_ 1 1 = F5_ 1 1 := (s168_ 1 1 rfl).trans (e184_)
    have e186_ : F173_ 1 1 = F5_ 1 1 := (s175_ 1 1 rfl).trans (e185_)
    have b187_ : 0 ≤ F5_ 1 1 ∧ F5_ 1 1 ≤ 600 := gi_g g6_ rfl
    exact ⟨F173_, ⟨rfl, rfl⟩, g174_, g176_, (by obtain ⟨e, c1, c2⟩ := c172_; exact ⟨K, e, ⟨hgK, hcut⟩, ⟨(by simp [sp_dom, sp_open, sp_close, pf, pb, c45_, c64_, c84_, c105_, c140_, c164_, c1]), by rw [← hlt_]; exact htf⟩, c2⟩), (by omega)⟩
  rintro A1_ ⟨F191_, hA_, g192_, s193_, c189_, c190_⟩
  subst hA_
  have g194_ : fs [(1, 1, 1, 1), (1, 1, 6, 8), (3, 6, 0, 100000), (7, 13, 0, 100000), (15, 17, 0, 100000), (21, 103, 0, 100000), (119, 119, 2, 3)] F F191_ := fs_tr g169_ s193_ rfl
  have tk195_ : tkh K F191_ := tkh_fs tk170_ s193_ (fun r k h => (fs_n (by omega) rfl)) (fs_n (by omega) rfl)
  refine ga_aload_n (v := .ref 118) hm_33 rfl rfl rfl ?_
  refine ga_getr (b := 1) hm_33 rfl sc_118 rfl ?_
  refine ga_ldcs hm_33 rfl ?_
  have b196_ : 0 ≤ F191_ 1 7 ∧ F191_ 1 7 ≤ 600 := gi_g g192_ rfl
  refine gVi (nY := 4) (F := 6) (L := 100) (As := [.retAddr 3]) (b := 1) (rest := []) hm_33 rfl hm_152 rfl rfl (fl_ob sc_1) rfl rfl rfl rfl rfl (by omega) (by omega) (mc_152 hG F191_ X g192_ (K) (3) ([58, 116, 121, 112, 101, 115]) hgK tk195_ hko (by omega) (rfl) (by decide)) (fun _ _ h => False.elim h) ?_
  rintro z197_ A1_ (⟨hA_, hz_, c198_⟩ | ⟨hA_, hz_, c199_⟩)
  ·
    subst hA_
    subst hz_
    refine fl_if_eq hm_33 rfl ⟨by omega, by omega⟩ (fun _ => ?_) (fun h => absurd (by omega) h)
    obtain ⟨ts, hts0⟩ : ∃ ts : List Int, ts = [] := ⟨_, rfl⟩
    refine ga_aload_n (v := .ref 118) hm_33 rfl rfl rfl ?_
    have e200_ : F29_ 8 2 = 0 := by rw [q30_]; exact (fl_u_ne (by omega)).trans ((fl_u_ne (by omega)).trans (fl_u_eq))
    have e201_ : F47_ 8 2 = 0 := (s49_ 8 2 rfl).trans (e200_)
    have e202_ : F66_ 8 2 = 0 := (s68_ 8 2 rfl).trans (e201_)
    have e203_ : F86_ 8 2 = 0 := (s88_ 8 2 rfl).trans (e202_)
    have e204_ : F107_ 8 2 = 0 := (s109_ 8 2 rfl).trans (e203_)
    have e205_ : F119_ 8 2 = 0 := by rw [q120_]; exact (fl_u_ne (by omega)).trans (e204_)
    have e206_ : F142_ 8 2 = 0 := (s144_ 8 2 rfl).trans (e205_)
    have e207_ : F166_ 8 2 = 0 := (s168_ 8 2 rfl).trans (e206_)
    have e208_ : F191_ 8 2 = 0 := (s193_ 8 2 rfl).trans (e207_)
    have e209_ : F29_ 11 2 = 0 := by rw [q30_]; exact (fl_u_ne (by omega)).trans (fl_u_eq)
    have e210_ : F47_ 11 2 = 0 := (s49_ 11 2 rfl).trans (e209_)
    have e211_ : F66_ 11 2 = 0 := (s68_ 11 2 rfl).trans (e210_)
    have e212_ : F86_ 11 2 = 0 := (s88_ 11 2 rfl).trans (e211_)
    have e213_ : F107_ 11 2 = 0 := (s109_ 11 2 rfl).trans (e212_)
    have e214_ : F119_ 11 2 = 0 := by rw [q120_]; exact (fl_u_ne (by omega)).trans (e213_)
    have e215_ : F142_ 11 2 = 0 := (s144_ 11 2 rfl).trans (e214_)
    have e216_ : F166_ 11 2 = 0 := (s168_ 11 2 rfl).trans (e215_)
    have e217_ : F191_ 11 2 = 0 := (s193_ 11 2 rfl).trans (e216_)
    refine gVv (nY := 2) (F := 10) (L := 188) (As := []) (b := 118) (rest := []) hm_33 rfl hm_124 rfl rfl (fl_ob sc_118) rfl rfl rfl rfl rfl (by omega) (by omega) (mc_124 hG F191_ X g192_ (K) (ts) hgK tk195_ hko (by omega) (by rw [hts0]; exact rep_0 (e208_)) (rep_0 (e217_)) (rep_0 (e217_))) ?_ ?_
    ·
      rintro j_ A1_ ⟨F219_, ⟨hJ_, hA_⟩, g220_, s221_, c218_⟩
      subst hA_
      subst hJ_
      refine ⟨rfl, ?_⟩
      refine gw_v ?_
      have g222_ : fs [(1, 1, 1, 1), (1, 1, 6, 8), (3, 6, 0, 100000), (7, 13, 0, 100000), (15, 17, 0, 100000), (21, 103, 0, 100000), (119, 119, 2, 3)] F F219_ := fs_tr g194_ s221_ rfl
      have b223_ : 0 ≤ F219_ 1 8 ∧ F219_ 1 8 ≤ 100000 := gi_g g220_ rfl
      have e224_ : F29_ 1 1 = F5_ 1 1 := by rw [q30_]; exact (fl_u_ne (by omega)).trans ((fl_u_ne (by omega)).trans (fl_u_ne (by omega)))
      have e225_ : F47_ 1 1 = F5_ 1 1 := (s49_ 1 1 rfl).trans (e224_)
      have e226_ : F66_ 1 1 = F5_ 1 1 := (s68_ 1 1 rfl).trans (e225_)
      have e227_ : F86_ 1 1 = F5_ 1 1 := (s88_ 1 1 rfl).trans (e226_)
      have e228_ : F107_ 1 1 = F5_ 1 1 := (s109_ 1 1 rfl).trans (e227_)
      have e229_ : F119_ 1 1 = F5_ 1 1 := by rw [q120_]; exact (fl_u_ne (by omega)).trans (e228_)
      have e230_ : F142_ 1 1 = F5_ 1 1 := (s144_ 1 1 rfl).trans (e229_)
      have e231_ : F166_ 1 1 = F5_ 1 1 := (s168_ 1 1 rfl).trans (e230_)
      have e232_ : F191_ 1 1 = F5_ 1 1 := (s193_ 1 1 rfl).trans (e231_)
      have e233_ : F219_ 1 1 = F5_ 1 1 := (s221_ 1 1 rfl).trans (e232_)
      have b234_ : 0 ≤ F5_ 1 1 ∧ F5_ 1 1 ≤ 600 := gi_g g6_ rfl
      exact ⟨F219_, ⟨rfl, rfl⟩, g220_, g222_, (by obtain ⟨e, c1, c2⟩ := c218_; exact ⟨K, e, ⟨hgK, hcut⟩, ⟨(by subst hts0; simp [sp_dom, sp_open, sp_close, pf, pb, c45_, c64_, c84_, c105_, c140_, c164_, c189_, c198_, c1]), by rw [← hlt_]; exact htf⟩, c2⟩), (by omega)⟩
    rintro A1_ ⟨F238_, hA_, g239_, s240_, c236_, c237_⟩
    subst hA_
    have g241_ : fs [(1, 1, 1, 1), (1, 1, 6, 8), (3, 6, 0, 100000), (7, 13, 0, 100000), (15, 17, 0, 100000), (21, 103, 0, 100000), (119, 119, 2, 3)] F F238_ := fs_tr g194_ s240_ rfl
    have tk242_ : tkh K F238_ := tkh_fs tk195_ s240_ (fun r k h => (fs_n (by omega) (fs_n (by omega) (fs_n (by omega) rfl)))) (fs_n (by omega) (fs_n (by omega) (fs_n (by omega) rfl)))
    have hb11 : 0 ≤ F238_ 11 2 ∧ F238_ 11 2 ≤ 6 := gi_g g239_ rfl
    obtain ⟨pl, ps, ⟨cq1_, cq2_⟩, cq3_, cq4_⟩ := c236_
    have hpl1 := cq3_.1
    refine fl_iconst hm_33 rfl ?_
    refine ga_istore_n (lv2 := [(1, .int (Int32.ofInt 0)), (0, .ref 118)]) hm_33 rfl (Nat.le_of_ble_eq_true rfl) rfl ?_
    have L244_ : ∀ (n243_ : Nat) (i : Int) (al : List Int) (alt : List Int) (F1 : fl_N), (5 - i : Int).toNat = n243_ → (gi F1) → (fs [(1, 1, 7, 8), (15, 17, 0, 100000), (39, 103, 0, 100000), (119, 119, 2, 3)] F238_ F1) → (0 ≤ i ∧ i ≤ 5) → (rep (F1 16) (F1 15 2) al) → (rep (F1 17) (F1 15 2) alt) → ((al.length : Int) = i) → (0 ≤ F1 1 7 ∧ F1 1 7 ≤ K 1 6 - 1) → (di F1 i.toNat) → (sp_actions K ts pl ps 5 [] (F238_ 1 7) = sp_actions K ts pl ps (5 - i).toNat al (F1 1 7)) → fl_R xi_ms 33 fr lo 88 [(1, .int (Int32.ofInt i)), (0, .ref 118)] [] (fl_H sh_T G F1 ++ X) (pq_33 G F X) := by
      intro n243_
      induction n243_ using Nat.strongRecOn with
      | ind n243_ ih245_ =>
      intro i al alt F1 hn246_ hg_F1 hf_F1 hi hal hat hai hp1 hdi hsp
      have g247_ : fs [(1, 1, 1, 1), (1, 1, 6, 8), (3, 6, 0, 100000), (7, 13, 0, 100000), (15, 17, 0, 100000), (21, 103, 0, 100000), (119, 119, 2, 3)] F F1 := fs_tr g241_ hf_F1 rfl
      have tk248_ : tkh K F1 := tkh_fs tk242_ hf_F1 (fun r k h => (fs_n (by omega) (fs_n (by omega) (fs_n (by omega) (fs_n (by omega) rfl))))) (fs_n (by omega) (fs_n (by omega) (fs_n (by omega) (fs_n (by omega) rfl))))
      refine ga_iload_n (z := i) hm_33 rfl rfl ?_
      refine fl_iconst hm_33 rfl ?_
      refine fl_icmp_ge (a := i) (b := 5) hm_33 rfl ⟨by omega, by omega⟩ ⟨by omega, by omega⟩ (fun h249_ => ?_) (fun h250_ => ?_)
      ·
        refine ga_aload_n (v := .ref 118) hm_33 rfl rfl rfl ?_
        refine gIv (nY := 1) (F := 8) (L := 142) (As := []) (b := 118) (rest := []) hm_33 rfl hm_117 rfl rfl (fl_ob sc_118) rfl rfl rfl rfl rfl (by omega) (by omega) ?_
        intro f251_ l252_ h253_ h254_
        show fl_R xi_ms 117 f251_ l252_ 0 [(0, .ref 118)] [] _ _
        refine ga_aload_n (v := .ref 118) hm_117 rfl rfl rfl ?_
        refine ga_getr (b := 1) hm_117 rfl sc_118 rfl ?_
        refine fl_iconst hm_117 rfl ?_
        have b255_ : 0 ≤ F1 1 7 ∧ F1 1 7 ≤ 600 := gi_g hg_F1 rfl
        refine gVv (nY := 2) (F := 7) (L := 121) (As := [.int (Int32.ofInt 1)]) (b := 1) (rest := []) hm_117 rfl hm_24 rfl rfl (fl_ob sc_1) rfl rfl rfl rfl rfl (by omega) (by omega) (mc_24 hG F1 X hg_F1 (K) (1) hgK tk248_ hko (by omega) (by omega)) ?_ ?_
        ·
          rintro j_ A1_ ⟨F257_, ⟨hJ_, hA_⟩, g258_, s259_, c256_⟩
          subst hA_
          subst hJ_
          refine ⟨rfl, ?_⟩
          refine gw_v ⟨rfl, ?_⟩
          refine gw_v ?_
          have g260_ : fs [(1, 1, 1, 1), (1, 1, 6, 8), (3, 6, 0, 100000), (7, 13, 0, 100000), (15, 17, 0, 100000), (21, 103, 0, 100000), (119, 119, 2, 3)] F F257_ := fs_tr g247_ s259_ rfl
          have b261_ : 0 ≤ F257_ 1 8 ∧ F257_ 1 8 ≤ 100000 := gi_g g258_ rfl
          have e262_ : F29_ 1 1 = F5_ 1 1 := by rw [q30_]; exact (fl_u_ne (by omega)).trans ((fl_u_ne (by omega)).trans (fl_u_ne (by omega)))
          have e263_ : F47_ 1 1 = F5_ 1 1 := (s49_ 1 1 rfl).trans (e262_)
          have e264_ : F66_ 1 1 = F5_ 1 1 := (s68_ 1 1 rfl).trans (e263_)
          have e265_ : F86_ 1 1 = F5_ 1 1 := (s88_ 1 1 rfl).trans (e264_)
          have e266_ : F107_ 1 1 = F5_ 1 1 := (s109_ 1 1 rfl).trans (e265_)
          have e267_ : F119_ 1 1 = F5_ 1 1 := by rw [q120_]; exact (fl_u_ne (by omega)).trans (e266_)
          have e268_ : F142_ 1 1 = F5_ 1 1 := (s144_ 1 1 rfl).trans (e267_)
          have e269_ : F166_ 1 1 = F5_ 1 1 := (s168_ 1 1 rfl).trans (e268_)
          have e270_ : F191_ 1 1 = F5_ 1 1 := (s193_ 1 1 rfl).trans (e269_)
          have e271_ : F238_ 1 1 = F5_ 1 1 := (s240_ 1 1 rfl).trans (e270_)
          have e272_ : F1 1 1 = F5_ 1 1 := (hf_F1 1 1 rfl).trans (e271_)
          have e273_ : F257_ 1 1 = F5_ 1 1 := (s259_ 1 1 rfl).trans (e272_)
          have b274_ : 0 ≤ F5_ 1 1 ∧ F5_ 1 1 ≤ 600 := gi_g g6_ rfl
          exact ⟨F257_, ⟨rfl, rfl⟩, g258_, g260_, (by obtain ⟨e, c1, c2⟩ := c256_; exact ⟨K, e, ⟨hgK, hcut⟩, ⟨(by have hx := hsp.trans (spa_z (by omega)); subst hts0; simp [sp_dom, sp_open, sp_close, pf, pb, c45_, c64_, c84_, c105_, c140_, c164_, c189_, c198_, cq1_, hx, c1]), by rw [← hlt_]; exact htf⟩, c2⟩), (by omega)⟩
        rintro A1_ ⟨F278_, hA_, g279_, s280_, c276_, c277_⟩
        subst hA_
        have g281_ : fs [(1, 1, 1, 1), (1, 1, 6, 8), (3, 6, 0, 100000), (7, 13, 0, 100000), (15, 17, 0, 100000), (21, 103, 0, 100000), (119, 119, 2, 3)] F F278_ := fs_tr g247_ s280_ rfl
        have tk282_ : tkh K F278_ := tkh_fs tk248_ s280_ (fun r k h => (fs_n (by omega) rfl)) (fs_n (by omega) rfl)
        refine ga_aload_n (v := .ref 118) hm_117 rfl rfl rfl ?_
        refine ga_getr (b := 1) hm_117 rfl sc_118 rfl ?_
        refine fl_iconst hm_117 rfl ?_
        have b283_ : 0 ≤ F278_ 1 7 ∧ F278_ 1 7 ≤ 600 := gi_g g279_ rfl
        refine gVv (nY := 2) (F := 7) (L := 121) (As := [.int (Int32.ofInt 5)]) (b := 1) (rest := []) hm_117 rfl hm_24 rfl rfl (fl_ob sc_1) rfl rfl rfl rfl rfl (by omega) (by omega) (mc_24 hG F278_ X g279_ (K) (5) hgK tk282_ hko (by omega) (by omega)) ?_ ?_
        ·
          rintro j_ A1_ ⟨F285_, ⟨hJ_, hA_⟩, g286_, s287_, c284_⟩
          subst hA_
          subst hJ_
          refine ⟨rfl, ?_⟩
          refine gw_v ⟨rfl, ?_⟩
          refine gw_v ?_
          have g288_ : fs [(1, 1, 1, 1), (1, 1, 6, 8), (3, 6, 0, 100000), (7, 13, 0, 100000), (15, 17, 0, 100000), (21, 103, 0, 100000), (119, 119, 2, 3)] F F285_ := fs_tr g281_ s287_ rfl
          have b289_ : 0 ≤ F285_ 1 8 ∧ F285_ 1 8 ≤ 100000 := gi_g g286_ rfl
          have e290_ : F29_ 1 1 = F5_ 1 1 := by rw [q30_]; exact (fl_u_ne (by omega)).trans ((fl_u_ne (by omega)).trans (fl_u_ne (by omega)))
          have e291_ : F47_ 1 1 = F5_ 1 1 := (s49_ 1 1 rfl).trans (e290_)
          have e292_ : F66_ 1 1 = F5_ 1 1 := (s68_ 1 1 rfl).trans (e291_)
          have e293_ : F86_ 1 1 = F5_ 1 1 := (s88_ 1 1 rfl).trans (e292_)
          have e294_ : F107_ 1 1 = F5_ 1 1 := (s109_ 1 1 rfl).trans (e293_)
          have e295_ : F119_ 1 1 = F5_ 1 1 := by rw [q120_]; exact (fl_u_ne (by omega)).trans (e294_)
          have e296_ : F142_ 1 1 = F5_ 1 1 := (s144_ 1 1 rfl).trans (e295_)
          have e297_ : F166_ 1 1 = F5_ 1 1 := (s168_ 1 1 rfl).trans (e296_)
          have e298_ : F191_ 1 1 = F5_ 1 1 := (s193_ 1 1 rfl).trans (e297_)
          have e299_ : F238_ 1 1 = F5_ 1 1 := (s240_ 1 1 rfl).trans (e298_)
          have e300_ : F1 1 1 = F5_ 1 1 := (hf_F1 1 1 rfl).trans (e299_)
          have e301_ : F278_ 1 1 = F5_ 1 1 := (s280_ 1 1 rfl).trans (e300_)
          have e302_ : F285_ 1 1 = F5_ 1 1 := (s287_ 1 1 rfl).trans (e301_)
          have b303_ : 0 ≤ F5_ 1 1 ∧ F5_ 1 1 ≤ 600 := gi_g g6_ rfl
          exact ⟨F285_, ⟨rfl, rfl⟩, g286_, g288_, (by obtain ⟨e, c1, c2⟩ := c284_; exact ⟨K, e, ⟨hgK, hcut⟩, ⟨(by have hx := hsp.trans (spa_z (by omega)); subst hts0; simp [sp_dom, sp_open, sp_close, pf, pb, c45_, c64_, c84_, c105_, c140_, c164_, c189_, c198_, cq1_, c276_, hx, c1]), by rw [← hlt_]; exact htf⟩, c2⟩), (by omega)⟩
        rintro A1_ ⟨F307_, hA_, g308_, s309_, c305_, c306_⟩
        subst hA_
        have g310_ : fs [(1, 1, 1, 1), (1, 1, 6, 8), (3, 6, 0, 100000), (7, 13, 0, 100000), (15, 17, 0, 100000), (21, 103, 0, 100000), (119, 119, 2, 3)] F F307_ := fs_tr g281_ s309_ rfl
        have tk311_ : tkh K F307_ := tkh_fs tk282_ s309_ (fun r k h => (fs_n (by omega) rfl)) (fs_n (by omega) rfl)
        refine gr_v hm_117 rfl rfl ?_
        refine gr_v hm_33 rfl rfl ?_
        have e312_ : F1 11 2 = F238_ 11 2 := (hf_F1 11 2 rfl).trans (rfl)
        have e313_ : F278_ 11 2 = F238_ 11 2 := (s280_ 11 2 rfl).trans (e312_)
        have e314_ : F307_ 11 2 = F238_ 11 2 := (s309_ 11 2 rfl).trans (e313_)
        have b315_ : 0 ≤ F238_ 11 2 ∧ F238_ 11 2 ≤ 6 := gi_g g239_ rfl
        have e316_ : F278_ 15 2 = F1 15 2 := (s280_ 15 2 rfl).trans (rfl)
        have e317_ : F307_ 15 2 = F1 15 2 := (s309_ 15 2 rfl).trans (e316_)
        have b318_ : 0 ≤ F1 15 2 ∧ F1 15 2 ≤ 5 := gi_g hg_F1 rfl
        have e319_ : F238_ 8 2 = 0 := (s240_ 8 2 rfl).trans (e208_)
        have e320_ : F1 8 2 = 0 := (hf_F1 8 2 rfl).trans (e319_)
        have e321_ : F278_ 8 2 = 0 := (s280_ 8 2 rfl).trans (e320_)
        have e322_ : F307_ 8 2 = 0 := (s309_ 8 2 rfl).trans (e321_)
        have e323_ : F29_ 1 1 = F5_ 1 1 := by rw [q30_]; exact (fl_u_ne (by omega)).trans ((fl_u_ne (by omega)).trans (fl_u_ne (by omega)))
        have e324_ : F47_ 1 1 = F5_ 1 1 := (s49_ 1 1 rfl).trans (e323_)
        have e325_ : F66_ 1 1 = F5_ 1 1 := (s68_ 1 1 rfl).trans (e324_)
        have e326_ : F86_ 1 1 = F5_ 1 1 := (s88_ 1 1 rfl).trans (e325_)
        have e327_ : F107_ 1 1 = F5_ 1 1 := (s109_ 1 1 rfl).trans (e326_)
        have e328_ : F119_ 1 1 = F5_ 1 1 := by rw [q120_]; exact (fl_u_ne (by omega)).trans (e327_)
        have e329_ : F142_ 1 1 = F5_ 1 1 := (s144_ 1 1 rfl).trans (e328_)
        have e330_ : F166_ 1 1 = F5_ 1 1 := (s168_ 1 1 rfl).trans (e329_)
        have e331_ : F191_ 1 1 = F5_ 1 1 := (s193_ 1 1 rfl).trans (e330_)
        have e332_ : F238_ 1 1 = F5_ 1 1 := (s240_ 1 1 rfl).trans (e331_)
        have e333_ : F1 1 1 = F5_ 1 1 := (hf_F1 1 1 rfl).trans (e332_)
        have e334_ : F278_ 1 1 = F5_ 1 1 := (s280_ 1 1 rfl).trans (e333_)
        have e335_ : F307_ 1 1 = F5_ 1 1 := (s309_ 1 1 rfl).trans (e334_)
        have b336_ : 0 ≤ F5_ 1 1 ∧ F5_ 1 1 ≤ 600 := gi_g g6_ rfl
        exact ⟨F307_, rfl, g308_, g310_, (⟨K, ts, pl, ps, al, ⟨hgK, hcut⟩, ⟨by have hx := hsp.trans (spa_z (by omega)); subst hts0; simp [sp_dom, sp_open, sp_close, pf, pb, c45_, c64_, c84_, c105_, c140_, c164_, c189_, c198_, cq1_, c276_, c305_, hx], by rw [← hlt_]; exact htf⟩, ⟨by rw [hts0]; exact rep_0 (e322_), (rep_fs (rep_fs (rep_fs cq3_ hf_F1 (fun _ => (fs_n (by omega) (fs_n (by omega) (fs_n (by omega) (fs_n (by omega) rfl))))) (fs_n (by omega) (fs_n (by omega) (fs_n (by omega) (fs_n (by omega) rfl))))) s280_ (fun _ => (fs_n (by omega) rfl)) (fs_n (by omega) rfl)) s309_ (fun _ => (fs_n (by omega) rfl)) (fs_n (by omega) rfl)), (prd_fs (prd_fs (prd_fs cq4_ hf_F1 (fun _ _ _ => (fs_n (by omega) (fs_n (by omega) (fs_n (by omega) (fs_n (by omega) rfl)))))) s280_ (fun _ _ _ => (fs_n (by omega) rfl))) s309_ (fun _ _ _ => (fs_n (by omega) rfl))), cq2_⟩, (rep_fs (rep_fs hal s280_ (fun _ => (fs_n (by omega) rfl)) (fs_n (by omega) rfl)) s309_ (fun _ => (fs_n (by omega) rfl)) (fs_n (by omega) rfl)), by rw [show al.length = i.toNat by omega]; exact (di_fs (di_fs hdi s280_ (fun _ _ _ => (fs_n (by omega) rfl))) s309_ (fun _ _ _ => (fs_n (by omega) rfl)))⟩), (by omega)⟩
      refine ga_iload_n (z := i) hm_33 rfl rfl ?_
      refine fl_if_eq (a := i) hm_33 rfl ⟨by omega, by omega⟩ (fun h337_ => ?_) (fun h338_ => ?_)
      ·
        refine ga_aload_n (v := .ref 118) hm_33 rfl rfl rfl ?_
        refine ga_iload_n (z := i) hm_33 rfl rfl ?_
        obtain ⟨Ac, hAc⟩ : ∃ Ac : Nat, Ac = 39 + 13 * i.toNat := ⟨_, rfl⟩
        have b339_ : 0 ≤ F1 1 7 ∧ F1 1 7 ≤ 600 := gi_g hg_F1 rfl
        have e340_ : F238_ 8 2 = 0 := (s240_ 8 2 rfl).trans (e208_)
        have e341_ : F1 8 2 = 0 := (hf_F1 8 2 rfl).trans (e340_)
        refine gVv (nY := 2) (F := 11) (L := 215) (As := [.int (Int32.ofInt i)]) (b := 118) (rest := []) hm_33 rfl hm_119 rfl rfl (fl_ob sc_118) rfl rfl rfl rfl rfl (by omega) (by omega) (mc_119 hG F1 X hg_F1 (K) (Ac) (i) (ts) (pl) (al) (alt) (ps) hgK tk248_ hko (by omega) (hAc) (by omega) (by rw [hAc]; exact (ra_18x _ (by omega)).1) (by rw [hAc]; exact (ra_18x _ (by omega)).2.1) (by rw [hAc]; exact (ra_18x _ (by omega)).2.2) (by rw [hts0]; exact rep_0 (e341_)) ((rep_fs cq3_ hf_F1 (fun _ => (fs_n (by omega) (fs_n (by omega) (fs_n (by omega) (fs_n (by omega) rfl))))) (fs_n (by omega) (fs_n (by omega) (fs_n (by omega) (fs_n (by omega) rfl)))))) ((prd_fs cq4_ hf_F1 (fun _ _ _ => (fs_n (by omega) (fs_n (by omega) (fs_n (by omega) (fs_n (by omega) rfl))))))) (cq2_) (hal) (hat) (by omega) (hdi)) ?_ ?_
        ·
          rintro j_ A1_ ⟨F343_, ⟨hJ_, hA_⟩, g344_, s345_, c342_⟩
          subst hA_
          subst hJ_
          refine ⟨rfl, ?_⟩
          refine gw_v ?_
          have g346_ : fs [(1, 1, 1, 1), (1, 1, 6, 8), (3, 6, 0, 100000), (7, 13, 0, 100000), (15, 17, 0, 100000), (21, 103, 0, 100000), (119, 119, 2, 3)] F F343_ := fs_tr g247_ s345_ (by simp [fs_le]; try omega)
          have b347_ : 0 ≤ F343_ 1 8 ∧ F343_ 1 8 ≤ 100000 := gi_g g344_ rfl
          have e348_ : F29_ 1 1 = F5_ 1 1 := by rw [q30_]; exact (fl_u_ne (by omega)).trans ((fl_u_ne (by omega)).trans (fl_u_ne (by omega)))
          have e349_ : F47_ 1 1 = F5_ 1 1 := (s49_ 1 1 rfl).trans (e348_)
          have e350_ : F66_ 1 1 = F5_ 1 1 := (s68_ 1 1 rfl).trans (e349_)
          have e351_ : F86_ 1 1 = F5_ 1 1 := (s88_ 1 1 rfl).trans (e350_)
          have e352_ : F107_ 1 1 = F5_ 1 1 := (s109_ 1 1 rfl).trans (e351_)
          have e353_ : F119_ 1 1 = F5_ 1 1 := by rw [q120_]; exact (fl_u_ne (by omega)).trans (e352_)
          have e354_ : F142_ 1 1 = F5_ 1 1 := (s144_ 1 1 rfl).trans (e353_)
          have e355_ : F166_ 1 1 = F5_ 1 1 := (s168_ 1 1 rfl).trans (e354_)
          have e356_ : F191_ 1 1 = F5_ 1 1 := (s193_ 1 1 rfl).trans (e355_)
          have e357_ : F238_ 1 1 = F5_ 1 1 := (s240_ 1 1 rfl).trans (e356_)
          have e358_ : F1 1 1 = F5_ 1 1 := (hf_F1 1 1 rfl).trans (e357_)
          have e359_ : F343_ 1 1 = F5_ 1 1 := (s345_ 1 1 (fs_n (by omega) (fs_n (by omega) (fs_n (by omega) (fs_n (by omega) rfl))))).trans (e358_)
          have b360_ : 0 ≤ F5_ 1 1 ∧ F5_ 1 1 ≤ 600 := gi_g g6_ rfl
          exact ⟨F343_, ⟨rfl, rfl⟩, g344_, g346_, (by obtain ⟨e, c1, c2⟩ := c342_; exact ⟨K, e, ⟨hgK, hcut⟩, ⟨(by have hx := hsp; rw [spa_step (by omega) (by omega) (by omega), c1] at hx; simp only [pb] at hx; subst hts0; simp [sp_dom, sp_open, sp_close, pf, pb, c45_, c64_, c84_, c105_, c140_, c164_, c189_, c198_, cq1_, hx]), by rw [← hlt_]; exact htf⟩, c2⟩), (by omega)⟩
        rintro A1_ ⟨F365_, hA_, g366_, s367_, c362_, c363_, c364_⟩
        subst hA_
        have g368_ : fs [(1, 1, 1, 1), (1, 1, 6, 8), (3, 6, 0, 100000), (7, 13, 0, 100000), (15, 17, 0, 100000), (21, 103, 0, 100000), (119, 119, 2, 3)] F F365_ := fs_tr g247_ s367_ (by simp [fs_le]; try omega)
        have tk369_ : tkh K F365_ := tkh_fs tk248_ s367_ (fun r k h => (fs_n (by omega) (fs_n (by omega) (fs_n (by omega) (fs_n (by omega) rfl))))) (fs_n (by omega) (fs_n (by omega) (fs_n (by omega) (fs_n (by omega) rfl))))
        obtain ⟨al2_, alt2_, ⟨ca1_, ca4_⟩, ca2_, ca3_⟩ := c362_
        refine ga_inc (a := i) (c := i + 1) (lv2 := [(1, .int (Int32.ofInt (i + 1))), (0, .ref 118)]) hm_33 rfl rfl (Nat.le_of_ble_eq_true rfl) rfl rfl ?_
        refine fl_goto hm_33 rfl ?_
        have b370_ : 0 ≤ F365_ 15 2 ∧ F365_ 15 2 ≤ 5 := gi_g g366_ rfl
        have b371_ : 0 ≤ F1 15 2 ∧ F1 15 2 ≤ 5 := gi_g hg_F1 rfl
        have b372_ : 0 ≤ F365_ 1 7 ∧ F365_ 1 7 ≤ 600 := gi_g g366_ rfl
        have b373_ : 0 ≤ K 1 6 ∧ K 1 6 ≤ 601 := gi_g hgK rfl
        exact ih245_ _ (by omega) (i + 1) (_) (_) F365_ rfl g366_ (fs_tr hf_F1 s367_ (by simp [fs_le]; try omega)) (by omega) (ca2_) (ca3_) (ca4_) (by omega) (c364_) (by rw [hsp, spa_step (by omega) (by omega) (by omega), ca1_]; rfl)
      refine ga_aload_n (v := .ref 118) hm_33 rfl rfl rfl ?_
      refine ga_getr (b := 1) hm_33 rfl sc_118 rfl ?_
      refine fl_iconst hm_33 rfl ?_
      refine gIi (nY := 2) (F := 0) (L := 0) (As := [.int (Int32.ofInt 0)]) (b := 1) (rest := []) hm_33 rfl hm_153 rfl rfl (fl_ob sc_1) rfl rfl rfl rfl rfl (by omega) (by omega) ?_
      intro f374_ l375_ h376_ h377_
      show fl_R xi_ms 153 f374_ l375_ 0 [(0, .ref 1), (1, .int (Int32.ofInt 0))] [] _ _
      refine ga_aload_n (v := .ref 1) hm_153 rfl rfl rfl ?_
      refine ga_getr (b := 3) hm_153 rfl sc_1 rfl ?_
      refine ga_aload_n (v := .ref 1) hm_153 rfl rfl rfl ?_
      have b378_ : 0 ≤ F1 1 7 ∧ F1 1 7 ≤ 600 := gi_g hg_F1 rfl
      refine ga_geti (z := F1 1 7) hm_153 rfl sc_1 rfl (rfl) ?_
      have e379_ : F1 3 (F1 1 7).toNat = K 3 (F1 1 7).toNat := tk248_.1 3 (F1 1 7).toNat (by omega)
      have b380_ : 0 ≤ K 3 (F1 1 7).toNat ∧ K 3 (F1 1 7).toNat ≤ 5 := gi_g hgK rfl
      refine ga_iald (z := F1 1 7) (w := K 3 (F1 1 7).toNat) hm_153 rfl sc_3 (by omega) (by omega) (by omega) (e379_) ?_
      refine ga_iload_n (z := 0) hm_153 rfl rfl ?_
      refine fx_icmp_ne (a := K 3 (F1 1 7).toNat) (b := 0) hm_153 rfl ⟨by omega, by omega⟩ ⟨by omega, by omega⟩ (fun h381_ => ?_) (fun h382_ => ?_)
      ·
        refine fl_iconst hm_153 rfl ?_
        refine gr_i hm_153 rfl rfl (ga_nb (by omega)) ?_
        refine fl_if_eq hm_33 rfl ⟨by omega, by omega⟩ (fun _ => ?_) (fun h => absurd (by omega) h)
        refine ga_aload_n (v := .ref 118) hm_33 rfl rfl rfl ?_
        refine gIv (nY := 1) (F := 8) (L := 142) (As := []) (b := 118) (rest := []) hm_33 rfl hm_117 rfl rfl (fl_ob sc_118) rfl rfl rfl rfl rfl (by omega) (by omega) ?_
        intro f383_ l384_ h385_ h386_
        show fl_R xi_ms 117 f383_ l384_ 0 [(0, .ref 118)] [] _ _
        refine ga_aload_n (v := .ref 118) hm_117 rfl rfl rfl ?_
        refine ga_getr (b := 1) hm_117 rfl sc_118 rfl ?_
        refine fl_iconst hm_117 rfl ?_
        refine gVv (nY := 2) (F := 7) (L := 121) (As := [.int (Int32.ofInt 1)]) (b := 1) (rest := []) hm_117 rfl hm_24 rfl rfl (fl_ob sc_1) rfl rfl rfl rfl rfl (by omega) (by omega) (mc_24 hG F1 X hg_F1 (K) (1) hgK tk248_ hko (by omega) (by omega)) ?_ ?_
        ·
          rintro j_ A1_ ⟨F388_, ⟨hJ_, hA_⟩, g389_, s390_, c387_⟩
          subst hA_
          subst hJ_
          refine ⟨rfl, ?_⟩
          refine gw_v ⟨rfl, ?_⟩
          refine gw_v ?_
          have g391_ : fs [(1, 1, 1, 1), (1, 1, 6, 8), (3, 6, 0, 100000), (7, 13, 0, 100000), (15, 17, 0, 100000), (21, 103, 0, 100000), (119, 119, 2, 3)] F F388_ := fs_tr g247_ s390_ rfl
          have b392_ : 0 ≤ F388_ 1 8 ∧ F388_ 1 8 ≤ 100000 := gi_g g389_ rfl
          have e393_ : F29_ 1 1 = F5_ 1 1 := by rw [q30_]; exact (fl_u_ne (by omega)).trans ((fl_u_ne (by omega)).trans (fl_u_ne (by omega)))
          have e394_ : F47_ 1 1 = F5_ 1 1 := (s49_ 1 1 rfl).trans (e393_)
          have e395_ : F66_ 1 1 = F5_ 1 1 := (s68_ 1 1 rfl).trans (e394_)
          have e396_ : F86_ 1 1 = F5_ 1 1 := (s88_ 1 1 rfl).trans (e395_)
          have e397_ : F107_ 1 1 = F5_ 1 1 := (s109_ 1 1 rfl).trans (e396_)
          have e398_ : F119_ 1 1 = F5_ 1 1 := by rw [q120_]; exact (fl_u_ne (by omega)).trans (e397_)
          have e399_ : F142_ 1 1 = F5_ 1 1 := (s144_ 1 1 rfl).trans (e398_)
          have e400_ : F166_ 1 1 = F5_ 1 1 := (s168_ 1 1 rfl).trans (e399_)
          have e401_ : F191_ 1 1 = F5_ 1 1 := (s193_ 1 1 rfl).trans (e400_)
          have e402_ : F238_ 1 1 = F5_ 1 1 := (s240_ 1 1 rfl).trans (e401_)
          have e403_ : F1 1 1 = F5_ 1 1 := (hf_F1 1 1 rfl).trans (e402_)
          have e404_ : F388_ 1 1 = F5_ 1 1 := (s390_ 1 1 rfl).trans (e403_)
          have b405_ : 0 ≤ F5_ 1 1 ∧ F5_ 1 1 ≤ 600 := gi_g g6_ rfl
          exact ⟨F388_, ⟨rfl, rfl⟩, g389_, g391_, (by obtain ⟨e, c1, c2⟩ := c387_; exact ⟨K, e, ⟨hgK, hcut⟩, ⟨(by have hx := hsp.trans (spa_e (by omega) (by omega) (by omega)); subst hts0; simp [sp_dom, sp_open, sp_close, pf, pb, c45_, c64_, c84_, c105_, c140_, c164_, c189_, c198_, cq1_, hx, c1]), by rw [← hlt_]; exact htf⟩, c2⟩), (by omega)⟩
        rintro A1_ ⟨F409_, hA_, g410_, s411_, c407_, c408_⟩
        subst hA_
        have g412_ : fs [(1, 1, 1, 1), (1, 1, 6, 8), (3, 6, 0, 100000), (7, 13, 0, 100000), (15, 17, 0, 100000), (21, 103, 0, 100000), (119, 119, 2, 3)] F F409_ := fs_tr g247_ s411_ rfl
        have tk413_ : tkh K F409_ := tkh_fs tk248_ s411_ (fun r k h => (fs_n (by omega) rfl)) (fs_n (by omega) rfl)
        refine ga_aload_n (v := .ref 118) hm_117 rfl rfl rfl ?_
        refine ga_getr (b := 1) hm_117 rfl sc_118 rfl ?_
        refine fl_iconst hm_117 rfl ?_
        have b414_ : 0 ≤ F409_ 1 7 ∧ F409_ 1 7 ≤ 600 := gi_g g410_ rfl
        refine gVv (nY := 2) (F := 7) (L := 121) (As := [.int (Int32.ofInt 5)]) (b := 1) (rest := []) hm_117 rfl hm_24 rfl rfl (fl_ob sc_1) rfl rfl rfl rfl rfl (by omega) (by omega) (mc_24 hG F409_ X g410_ (K) (5) hgK tk413_ hko (by omega) (by omega)) ?_ ?_
        ·
          rintro j_ A1_ ⟨F416_, ⟨hJ_, hA_⟩, g417_, s418_, c415_⟩
          subst hA_
          subst hJ_
          refine ⟨rfl, ?_⟩
          refine gw_v ⟨rfl, ?_⟩
          refine gw_v ?_
          have g419_ : fs [(1, 1, 1, 1), (1, 1, 6, 8), (3, 6, 0, 100000), (7, 13, 0, 100000), (15, 17, 0, 100000), (21, 103, 0, 100000), (119, 119, 2, 3)] F F416_ := fs_tr g412_ s418_ rfl
          have b420_ : 0 ≤ F416_ 1 8 ∧ F416_ 1 8 ≤ 100000 := gi_g g417_ rfl
          have e421_ : F29_ 1 1 = F5_ 1 1 := by rw [q30_]; exact (fl_u_ne (by omega)).trans ((fl_u_ne (by omega)).trans (fl_u_ne (by omega)))
          have e422_ : F47_ 1 1 = F5_ 1 1 := (s49_ 1 1 rfl).trans (e421_)
          have e423_ : F66_ 1 1 = F5_ 1 1 := (s68_ 1 1 rfl).trans (e422_)
          have e424_ : F86_ 1 1 = F5_ 1 1 := (s88_ 1 1 rfl).trans (e423_)
          have e425_ : F107_ 1 1 = F5_ 1 1 := (s109_ 1 1 rfl).trans (e424_)
          have e426_ : F119_ 1 1 = F5_ 1 1 := by rw [q120_]; exact (fl_u_ne (by omega)).trans (e425_)
          have e427_ : F142_ 1 1 = F5_ 1 1 := (s144_ 1 1 rfl).trans (e426_)
          have e428_ : F166_ 1 1 = F5_ 1 1 := (s168_ 1 1 rfl).trans (e427_)
          have e429_ : F191_ 1 1 = F5_ 1 1 := (s193_ 1 1 rfl).trans (e428_)
          have e430_ : F238_ 1 1 = F5_ 1 1 := (s240_ 1 1 rfl).trans (e429_)
          have e431_ : F1 1 1 = F5_ 1 1 := (hf_F1 1 1 rfl).trans (e430_)
          have e432_ : F409_ 1 1 = F5_ 1 1 := (s411_ 1 1 rfl).trans (e431_)
          have e433_ : F416_ 1 1 = F5_ 1 1 := (s418_ 1 1 rfl).trans (e432_)
          have b434_ : 0 ≤ F5_ 1 1 ∧ F5_ 1 1 ≤ 600 := gi_g g6_ rfl
          exact ⟨F416_, ⟨rfl, rfl⟩, g417_, g419_, (by obtain ⟨e, c1, c2⟩ := c415_; exact ⟨K, e, ⟨hgK, hcut⟩, ⟨(by have hx := hsp.trans (spa_e (by omega) (by omega) (by omega)); subst hts0; simp [sp_dom, sp_open, sp_close, pf, pb, c45_, c64_, c84_, c105_, c140_, c164_, c189_, c198_, cq1_, c407_, hx, c1]), by rw [← hlt_]; exact htf⟩, c2⟩), (by omega)⟩
        rintro A1_ ⟨F438_, hA_, g439_, s440_, c436_, c437_⟩
        subst hA_
        have g441_ : fs [(1, 1, 1, 1), (1, 1, 6, 8), (3, 6, 0, 100000), (7, 13, 0, 100000), (15, 17, 0, 100000), (21, 103, 0, 100000), (119, 119, 2, 3)] F F438_ := fs_tr g412_ s440_ rfl
        have tk442_ : tkh K F438_ := tkh_fs tk413_ s440_ (fun r k h => (fs_n (by omega) rfl)) (fs_n (by omega) rfl)
        refine gr_v hm_117 rfl rfl ?_
        refine gr_v hm_33 rfl rfl ?_
        have e443_ : F1 11 2 = F238_ 11 2 := (hf_F1 11 2 rfl).trans (rfl)
        have e444_ : F409_ 11 2 = F238_ 11 2 := (s411_ 11 2 rfl).trans (e443_)
        have e445_ : F438_ 11 2 = F238_ 11 2 := (s440_ 11 2 rfl).trans (e444_)
        have b446_ : 0 ≤ F238_ 11 2 ∧ F238_ 11 2 ≤ 6 := gi_g g239_ rfl
        have e447_ : F409_ 15 2 = F1 15 2 := (s411_ 15 2 rfl).trans (rfl)
        have e448_ : F438_ 15 2 = F1 15 2 := (s440_ 15 2 rfl).trans (e447_)
        have b449_ : 0 ≤ F1 15 2 ∧ F1 15 2 ≤ 5 := gi_g hg_F1 rfl
        have e450_ : F238_ 8 2 = 0 := (s240_ 8 2 rfl).trans (e208_)
        have e451_ : F1 8 2 = 0 := (hf_F1 8 2 rfl).trans (e450_)
        have e452_ : F409_ 8 2 = 0 := (s411_ 8 2 rfl).trans (e451_)
        have e453_ : F438_ 8 2 = 0 := (s440_ 8 2 rfl).trans (e452_)
        have e454_ : F29_ 1 1 = F5_ 1 1 := by rw [q30_]; exact (fl_u_ne (by omega)).trans ((fl_u_ne (by omega)).trans (fl_u_ne (by omega)))
        have e455_ : F47_ 1 1 = F5_ 1 1 := (s49_ 1 1 rfl).trans (e454_)
        have e456_ : F66_ 1 1 = F5_ 1 1 := (s68_ 1 1 rfl).trans (e455_)
        have e457_ : F86_ 1 1 = F5_ 1 1 := (s88_ 1 1 rfl).trans (e456_)
        have e458_ : F107_ 1 1 = F5_ 1 1 := (s109_ 1 1 rfl).trans (e457_)
        have e459_ : F119_ 1 1 = F5_ 1 1 := by rw [q120_]; exact (fl_u_ne (by omega)).trans (e458_)
        have e460_ : F142_ 1 1 = F5_ 1 1 := (s144_ 1 1 rfl).trans (e459_)
        have e461_ : F166_ 1 1 = F5_ 1 1 := (s168_ 1 1 rfl).trans (e460_)
        have e462_ : F191_ 1 1 = F5_ 1 1 := (s193_ 1 1 rfl).trans (e461_)
        have e463_ : F238_ 1 1 = F5_ 1 1 := (s240_ 1 1 rfl).trans (e462_)
        have e464_ : F1 1 1 = F5_ 1 1 := (hf_F1 1 1 rfl).trans (e463_)
        have e465_ : F409_ 1 1 = F5_ 1 1 := (s411_ 1 1 rfl).trans (e464_)
        have e466_ : F438_ 1 1 = F5_ 1 1 := (s440_ 1 1 rfl).trans (e465_)
        have b467_ : 0 ≤ F5_ 1 1 ∧ F5_ 1 1 ≤ 600 := gi_g g6_ rfl
        exact ⟨F438_, rfl, g439_, g441_, (⟨K, ts, pl, ps, al, ⟨hgK, hcut⟩, ⟨by have hx := hsp.trans (spa_e (by omega) (by omega) (by omega)); subst hts0; simp [sp_dom, sp_open, sp_close, pf, pb, c45_, c64_, c84_, c105_, c140_, c164_, c189_, c198_, cq1_, c407_, c436_, hx], by rw [← hlt_]; exact htf⟩, ⟨by rw [hts0]; exact rep_0 (e453_), (rep_fs (rep_fs (rep_fs cq3_ hf_F1 (fun _ => (fs_n (by omega) (fs_n (by omega) (fs_n (by omega) (fs_n (by omega) rfl))))) (fs_n (by omega) (fs_n (by omega) (fs_n (by omega) (fs_n (by omega) rfl))))) s411_ (fun _ => (fs_n (by omega) rfl)) (fs_n (by omega) rfl)) s440_ (fun _ => (fs_n (by omega) rfl)) (fs_n (by omega) rfl)), (prd_fs (prd_fs (prd_fs cq4_ hf_F1 (fun _ _ _ => (fs_n (by omega) (fs_n (by omega) (fs_n (by omega) (fs_n (by omega) rfl)))))) s411_ (fun _ _ _ => (fs_n (by omega) rfl))) s440_ (fun _ _ _ => (fs_n (by omega) rfl))), cq2_⟩, (rep_fs (rep_fs hal s411_ (fun _ => (fs_n (by omega) rfl)) (fs_n (by omega) rfl)) s440_ (fun _ => (fs_n (by omega) rfl)) (fs_n (by omega) rfl)), by rw [show al.length = i.toNat by omega]; exact (di_fs (di_fs hdi s411_ (fun _ _ _ => (fs_n (by omega) rfl))) s440_ (fun _ _ _ => (fs_n (by omega) rfl)))⟩), (by omega)⟩
      refine fl_iconst hm_153 rfl ?_
      refine fl_goto hm_153 rfl ?_
      refine gr_i hm_153 rfl rfl (ga_nb (by omega)) ?_
      refine fl_if_eq hm_33 rfl ⟨by omega, by omega⟩ (fun h => absurd h (by omega)) (fun _ => ?_)
      refine ga_aload_n (v := .ref 118) hm_33 rfl rfl rfl ?_
      refine ga_iload_n (z := i) hm_33 rfl rfl ?_
      obtain ⟨Ac, hAc⟩ : ∃ Ac : Nat, Ac = 39 + 13 * i.toNat := ⟨_, rfl⟩
      have e468_ : F238_ 8 2 = 0 := (s240_ 8 2 rfl).trans (e208_)
      have e469_ : F1 8 2 = 0 := (hf_F1 8 2 rfl).trans (e468_)
      refine gVv (nY := 2) (F := 11) (L := 215) (As := [.int (Int32.ofInt i)]) (b := 118) (rest := []) hm_33 rfl hm_119 rfl rfl (fl_ob sc_118) rfl rfl rfl rfl rfl (by omega) (by omega) (mc_119 hG F1 X hg_F1 (K) (Ac) (i) (ts) (pl) (al) (alt) (ps) hgK tk248_ hko (by omega) (hAc) (by omega) (by rw [hAc]; exact (ra_18x _ (by omega)).1) (by rw [hAc]; exact (ra_18x _ (by omega)).2.1) (by rw [hAc]; exact (ra_18x _ (by omega)).2.2) (by rw [hts0]; exact rep_0 (e469_)) ((rep_fs cq3_ hf_F1 (fun _ => (fs_n (by omega) (fs_n (by omega) (fs_n (by omega) (fs_n (by omega) rfl))))) (fs_n (by omega) (fs_n (by omega) (fs_n (by omega) (fs_n (by omega) rfl)))))) ((prd_fs cq4_ hf_F1 (fun _ _ _ => (fs_n (by omega) (fs_n (by omega) (fs_n (by omega) (fs_n (by omega) rfl))))))) (cq2_) (hal) (hat) (by omega) (hdi)) ?_ ?_
      ·
        rintro j_ A1_ ⟨F471_, ⟨hJ_, hA_⟩, g472_, s473_, c470_⟩
        subst hA_
        subst hJ_
        refine ⟨rfl, ?_⟩
        refine gw_v ?_
        have g474_ : fs [(1, 1, 1, 1), (1, 1, 6, 8), (3, 6, 0, 100000), (7, 13, 0, 100000), (15, 17, 0, 100000), (21, 103, 0, 100000), (119, 119, 2, 3)] F F471_ := fs_tr g247_ s473_ (by simp [fs_le]; try omega)
        have b475_ : 0 ≤ F471_ 1 8 ∧ F471_ 1 8 ≤ 100000 := gi_g g472_ rfl
        have e476_ : F29_ 1 1 = F5_ 1 1 := by rw [q30_]; exact (fl_u_ne (by omega)).trans ((fl_u_ne (by omega)).trans (fl_u_ne (by omega)))
        have e477_ : F47_ 1 1 = F5_ 1 1 := (s49_ 1 1 rfl).trans (e476_)
        have e478_ : F66_ 1 1 = F5_ 1 1 := (s68_ 1 1 rfl).trans (e477_)
        have e479_ : F86_ 1 1 = F5_ 1 1 := (s88_ 1 1 rfl).trans (e478_)
        have e480_ : F107_ 1 1 = F5_ 1 1 := (s109_ 1 1 rfl).trans (e479_)
        have e481_ : F119_ 1 1 = F5_ 1 1 := by rw [q120_]; exact (fl_u_ne (by omega)).trans (e480_)
        have e482_ : F142_ 1 1 = F5_ 1 1 := (s144_ 1 1 rfl).trans (e481_)
        have e483_ : F166_ 1 1 = F5_ 1 1 := (s168_ 1 1 rfl).trans (e482_)
        have e484_ : F191_ 1 1 = F5_ 1 1 := (s193_ 1 1 rfl).trans (e483_)
        have e485_ : F238_ 1 1 = F5_ 1 1 := (s240_ 1 1 rfl).trans (e484_)
        have e486_ : F1 1 1 = F5_ 1 1 := (hf_F1 1 1 rfl).trans (e485_)
        have e487_ : F471_ 1 1 = F5_ 1 1 := (s473_ 1 1 (fs_n (by omega) (fs_n (by omega) (fs_n (by omega) (fs_n (by omega) rfl))))).trans (e486_)
        have b488_ : 0 ≤ F5_ 1 1 ∧ F5_ 1 1 ≤ 600 := gi_g g6_ rfl
        exact ⟨F471_, ⟨rfl, rfl⟩, g472_, g474_, (by obtain ⟨e, c1, c2⟩ := c470_; exact ⟨K, e, ⟨hgK, hcut⟩, ⟨(by have hx := hsp; rw [spa_step (by omega) (by omega) (by omega), c1] at hx; simp only [pb] at hx; subst hts0; simp [sp_dom, sp_open, sp_close, pf, pb, c45_, c64_, c84_, c105_, c140_, c164_, c189_, c198_, cq1_, hx]), by rw [← hlt_]; exact htf⟩, c2⟩), (by omega)⟩
      rintro A1_ ⟨F493_, hA_, g494_, s495_, c490_, c491_, c492_⟩
      subst hA_
      have g496_ : fs [(1, 1, 1, 1), (1, 1, 6, 8), (3, 6, 0, 100000), (7, 13, 0, 100000), (15, 17, 0, 100000), (21, 103, 0, 100000), (119, 119, 2, 3)] F F493_ := fs_tr g247_ s495_ (by simp [fs_le]; try omega)
      have tk497_ : tkh K F493_ := tkh_fs tk248_ s495_ (fun r k h => (fs_n (by omega) (fs_n (by omega) (fs_n (by omega) (fs_n (by omega) rfl))))) (fs_n (by omega) (fs_n (by omega) (fs_n (by omega) (fs_n (by omega) rfl))))
      obtain ⟨al2_, alt2_, ⟨ca1_, ca4_⟩, ca2_, ca3_⟩ := c490_
      refine ga_inc (a := i) (c := i + 1) (lv2 := [(1, .int (Int32.ofInt (i + 1))), (0, .ref 118)]) hm_33 rfl rfl (Nat.le_of_ble_eq_true rfl) rfl rfl ?_
      refine fl_goto hm_33 rfl ?_
      have b498_ : 0 ≤ F493_ 15 2 ∧ F493_ 15 2 ≤ 5 := gi_g g494_ rfl
      have b499_ : 0 ≤ F1 15 2 ∧ F1 15 2 ≤ 5 := gi_g hg_F1 rfl
      have b500_ : 0 ≤ F493_ 1 7 ∧ F493_ 1 7 ≤ 600 := gi_g g494_ rfl
      have b501_ : 0 ≤ K 1 6 ∧ K 1 6 ≤ 601 := gi_g hgK rfl
      exact ih245_ _ (by omega) (i + 1) (_) (_) F493_ rfl g494_ (fs_tr hf_F1 s495_ (by simp [fs_le]; try omega)) (by omega) (ca2_) (ca3_) (ca4_) (by omega) (c492_) (by rw [hsp, spa_step (by omega) (by omega) (by omega), ca1_]; rfl)
    have e502_ : F29_ 15 2 = 0 := by rw [q30_]; exact fl_u_eq
    have e503_ : F47_ 15 2 = 0 := (s49_ 15 2 rfl).trans (e502_)
    have e504_ : F66_ 15 2 = 0 := (s68_ 15 2 rfl).trans (e503_)
    have e505_ : F86_ 15 2 = 0 := (s88_ 15 2 rfl).trans (e504_)
    have e506_ : F107_ 15 2 = 0 := (s109_ 15 2 rfl).trans (e505_)
    have e507_ : F119_ 15 2 = 0 := by rw [q120_]; exact (fl_u_ne (by omega)).trans (e506_)
    have e508_ : F142_ 15 2 = 0 := (s144_ 15 2 rfl).trans (e507_)
    have e509_ : F166_ 15 2 = 0 := (s168_ 15 2 rfl).trans (e508_)
    have e510_ : F191_ 15 2 = 0 := (s193_ 15 2 rfl).trans (e509_)
    have e511_ : F238_ 15 2 = 0 := (s240_ 15 2 rfl).trans (e510_)
    have b512_ : 0 ≤ F238_ 1 7 ∧ F238_ 1 7 ≤ 600 := gi_g g239_ rfl
    have b513_ : 0 ≤ K 1 6 ∧ K 1 6 ≤ 601 := gi_g hgK rfl
    exact L244_ _ (0) ([]) ([]) F238_ rfl g239_ fs_refl (by omega) (rep_0 (e511_)) (rep_0 (e511_)) (by simp) (by omega) (fun j hj => absurd hj (by simp)) (by simp)
  subst hA_
  subst hz_
  refine fl_if_eq hm_33 rfl ⟨by omega, by omega⟩ (fun h => absurd h (by omega)) (fun _ => ?_)
  refine ga_aload_n (v := .ref 118) hm_33 rfl rfl rfl ?_
  have e514_ : F29_ 8 2 = 0 := by rw [q30_]; exact (fl_u_ne (by omega)).trans ((fl_u_ne (by omega)).trans (fl_u_eq))
  have e515_ : F47_ 8 2 = 0 := (s49_ 8 2 rfl).trans (e514_)
  have e516_ : F66_ 8 2 = 0 := (s68_ 8 2 rfl).trans (e515_)
  have e517_ : F86_ 8 2 = 0 := (s88_ 8 2 rfl).trans (e516_)
  have e518_ : F107_ 8 2 = 0 := (s109_ 8 2 rfl).trans (e517_)
  have e519_ : F119_ 8 2 = 0 := by rw [q120_]; exact (fl_u_ne (by omega)).trans (e518_)
  have e520_ : F142_ 8 2 = 0 := (s144_ 8 2 rfl).trans (e519_)
  have e521_ : F166_ 8 2 = 0 := (s168_ 8 2 rfl).trans (e520_)
  have e522_ : F191_ 8 2 = 0 := (s193_ 8 2 rfl).trans (e521_)
  refine gVv (nY := 2) (F := 8) (L := 144) (As := []) (b := 118) (rest := []) hm_33 rfl hm_128 rfl rfl (fl_ob sc_118) rfl rfl rfl rfl rfl (by omega) (by omega) (mc_128 hG F191_ X g192_ (K) hgK tk195_ hko (by omega) (rep_0 (e522_)) (rep_0 (e522_))) ?_ ?_
  ·
    rintro j_ A1_ ⟨F524_, ⟨hJ_, hA_⟩, g525_, s526_, c523_⟩
    subst hA_
    subst hJ_
    refine ⟨rfl, ?_⟩
    refine gw_v ?_
    have g527_ : fs [(1, 1, 1, 1), (1, 1, 6, 8), (3, 6, 0, 100000), (7, 13, 0, 100000), (15, 17, 0, 100000), (21, 103, 0, 100000), (119, 119, 2, 3)] F F524_ := fs_tr g194_ s526_ rfl
    have b528_ : 0 ≤ F524_ 1 8 ∧ F524_ 1 8 ≤ 100000 := gi_g g525_ rfl
    have e529_ : F29_ 1 1 = F5_ 1 1 := by rw [q30_]; exact (fl_u_ne (by omega)).trans ((fl_u_ne (by omega)).trans (fl_u_ne (by omega)))
    have e530_ : F47_ 1 1 = F5_ 1 1 := (s49_ 1 1 rfl).trans (e529_)
    have e531_ : F66_ 1 1 = F5_ 1 1 := (s68_ 1 1 rfl).trans (e530_)
    have e532_ : F86_ 1 1 = F5_ 1 1 := (s88_ 1 1 rfl).trans (e531_)
    have e533_ : F107_ 1 1 = F5_ 1 1 := (s109_ 1 1 rfl).trans (e532_)
    have e534_ : F119_ 1 1 = F5_ 1 1 := by rw [q120_]; exact (fl_u_ne (by omega)).trans (e533_)
    have e535_ : F142_ 1 1 = F5_ 1 1 := (s144_ 1 1 rfl).trans (e534_)
    have e536_ : F166_ 1 1 = F5_ 1 1 := (s168_ 1 1 rfl).trans (e535_)
    have e537_ : F191_ 1 1 = F5_ 1 1 := (s193_ 1 1 rfl).trans (e536_)
    have e538_ : F524_ 1 1 = F5_ 1 1 := (s526_ 1 1 rfl).trans (e537_)
    have b539_ : 0 ≤ F5_ 1 1 ∧ F5_ 1 1 ≤ 600 := gi_g g6_ rfl
    exact ⟨F524_, ⟨rfl, rfl⟩, g525_, g527_, (by obtain ⟨e, c1, c2⟩ := c523_; exact ⟨K, e, ⟨hgK, hcut⟩, ⟨(by simp [sp_dom, sp_open, sp_close, pf, pb, c45_, c64_, c84_, c105_, c140_, c164_, c189_, c199_, c1]), by rw [← hlt_]; exact htf⟩, c2⟩), (by omega)⟩
  rintro A1_ ⟨F543_, hA_, g544_, s545_, c541_, c542_⟩
  subst hA_
  have g546_ : fs [(1, 1, 1, 1), (1, 1, 6, 8), (3, 6, 0, 100000), (7, 13, 0, 100000), (15, 17, 0, 100000), (21, 103, 0, 100000), (119, 119, 2, 3)] F F543_ := fs_tr g194_ s545_ rfl
  have tk547_ : tkh K F543_ := tkh_fs tk195_ s545_ (fun r k h => (fs_n (by omega) (fs_n (by omega) rfl))) (fs_n (by omega) (fs_n (by omega) rfl))
  obtain ⟨ts, ct1_, ct2_⟩ := c541_
  refine ga_aload_n (v := .ref 118) hm_33 rfl rfl rfl ?_
  refine ga_getr (b := 1) hm_33 rfl sc_118 rfl ?_
  refine fl_iconst hm_33 rfl ?_
  have b548_ : 0 ≤ F543_ 1 7 ∧ F543_ 1 7 ≤ 600 := gi_g g544_ rfl
  refine gVv (nY := 2) (F := 7) (L := 121) (As := [.int (Int32.ofInt 0)]) (b := 1) (rest := []) hm_33 rfl hm_24 rfl rfl (fl_ob sc_1) rfl rfl rfl rfl rfl (by omega) (by omega) (mc_24 hG F543_ X g544_ (K) (0) hgK tk547_ hko (by omega) (by omega)) ?_ ?_
  ·
    rintro j_ A1_ ⟨F550_, ⟨hJ_, hA_⟩, g551_, s552_, c549_⟩
    subst hA_
    subst hJ_
    refine ⟨rfl, ?_⟩
    refine gw_v ?_
    have g553_ : fs [(1, 1, 1, 1), (1, 1, 6, 8), (3, 6, 0, 100000), (7, 13, 0, 100000), (15, 17, 0, 100000), (21, 103, 0, 100000), (119, 119, 2, 3)] F F550_ := fs_tr g546_ s552_ rfl
    have b554_ : 0 ≤ F550_ 1 8 ∧ F550_ 1 8 ≤ 100000 := gi_g g551_ rfl
    have e555_ : F29_ 1 1 = F5_ 1 1 := by rw [q30_]; exact (fl_u_ne (by omega)).trans ((fl_u_ne (by omega)).trans (fl_u_ne (by omega)))
    have e556_ : F47_ 1 1 = F5_ 1 1 := (s49_ 1 1 rfl).trans (e555_)
    have e557_ : F66_ 1 1 = F5_ 1 1 := (s68_ 1 1 rfl).trans (e556_)
    have e558_ : F86_ 1 1 = F5_ 1 1 := (s88_ 1 1 rfl).trans (e557_)
    have e559_ : F107_ 1 1 = F5_ 1 1 := (s109_ 1 1 rfl).trans (e558_)
    have e560_ : F119_ 1 1 = F5_ 1 1 := by rw [q120_]; exact (fl_u_ne (by omega)).trans (e559_)
    have e561_ : F142_ 1 1 = F5_ 1 1 := (s144_ 1 1 rfl).trans (e560_)
    have e562_ : F166_ 1 1 = F5_ 1 1 := (s168_ 1 1 rfl).trans (e561_)
    have e563_ : F191_ 1 1 = F5_ 1 1 := (s193_ 1 1 rfl).trans (e562_)
    have e564_ : F543_ 1 1 = F5_ 1 1 := (s545_ 1 1 rfl).trans (e563_)
    have e565_ : F550_ 1 1 = F5_ 1 1 := (s552_ 1 1 rfl).trans (e564_)
    have b566_ : 0 ≤ F5_ 1 1 ∧ F5_ 1 1 ≤ 600 := gi_g g6_ rfl
    exact ⟨F550_, ⟨rfl, rfl⟩, g551_, g553_, (by obtain ⟨e, c1, c2⟩ := c549_; exact ⟨K, e, ⟨hgK, hcut⟩, ⟨(by simp [sp_dom, sp_open, sp_close, pf, pb, c45_, c64_, c84_, c105_, c140_, c164_, c189_, c199_, ct1_, c1]), by rw [← hlt_]; exact htf⟩, c2⟩), (by omega)⟩
  rintro A1_ ⟨F570_, hA_, g571_, s572_, c568_, c569_⟩
  subst hA_
  have g573_ : fs [(1, 1, 1, 1), (1, 1, 6, 8), (3, 6, 0, 100000), (7, 13, 0, 100000), (15, 17, 0, 100000), (21, 103, 0, 100000), (119, 119, 2, 3)] F F570_ := fs_tr g546_ s572_ rfl
  have tk574_ : tkh K F570_ := tkh_fs tk547_ s572_ (fun r k h => (fs_n (by omega) rfl)) (fs_n (by omega) rfl)
  
  refine ga_aload_n (v := .ref 118) hm_33 rfl rfl rfl ?_
  have b575_ : 0 ≤ F570_ 1 7 ∧ F570_ 1 7 ≤ 600 := gi_g g571_ rfl
  have e576_ : F29_ 11 2 = 0 := by rw [q30_]; exact (fl_u_ne (by omega)).trans (fl_u_eq)
  have e577_ : F47_ 11 2 = 0 := (s49_ 11 2 rfl).trans (e576_)
  have e578_ : F66_ 11 2 = 0 := (s68_ 11 2 rfl).trans (e577_)
  have e579_ : F86_ 11 2 = 0 := (s88_ 11 2 rfl).trans (e578_)
  have e580_ : F107_ 11 2 = 0 := (s109_ 11 2 rfl).trans (e579_)
  have e581_ : F119_ 11 2 = 0 := by rw [q120_]; exact (fl_u_ne (by omega)).trans (e580_)
  have e582_ : F142_ 11 2 = 0 := (s144_ 11 2 rfl).trans (e581_)
  have e583_ : F166_ 11 2 = 0 := (s168_ 11 2 rfl).trans (e582_)
  have e584_ : F191_ 11 2 = 0 := (s193_ 11 2 rfl).trans (e583_)
  have e585_ : F543_ 11 2 = 0 := (s545_ 11 2 rfl).trans (e584_)
  have e586_ : F570_ 11 2 = 0 := (s572_ 11 2 rfl).trans (e585_)
  refine gVv (nY := 2) (F := 10) (L := 188) (As := []) (b := 118) (rest := []) hm_33 rfl hm_124 rfl rfl (fl_ob sc_118) rfl rfl rfl rfl rfl (by omega) (by omega) (mc_124 hG F570_ X g571_ (K) (ts) hgK tk574_ hko (by omega) ((rep_fs ct2_ s572_ (fun _ => (fs_n (by omega) rfl)) (fs_n (by omega) rfl))) (rep_0 (e586_)) (rep_0 (e586_))) ?_ ?_
  ·
    rintro j_ A1_ ⟨F588_, ⟨hJ_, hA_⟩, g589_, s590_, c587_⟩
    subst hA_
    subst hJ_
    refine ⟨rfl, ?_⟩
    refine gw_v ?_
    have g591_ : fs [(1, 1, 1, 1), (1, 1, 6, 8), (3, 6, 0, 100000), (7, 13, 0, 100000), (15, 17, 0, 100000), (21, 103, 0, 100000), (119, 119, 2, 3)] F F588_ := fs_tr g573_ s590_ rfl
    have b592_ : 0 ≤ F588_ 1 8 ∧ F588_ 1 8 ≤ 100000 := gi_g g589_ rfl
    have e593_ : F29_ 1 1 = F5_ 1 1 := by rw [q30_]; exact (fl_u_ne (by omega)).trans ((fl_u_ne (by omega)).trans (fl_u_ne (by omega)))
    have e594_ : F47_ 1 1 = F5_ 1 1 := (s49_ 1 1 rfl).trans (e593_)
    have e595_ : F66_ 1 1 = F5_ 1 1 := (s68_ 1 1 rfl).trans (e594_)
    have e596_ : F86_ 1 1 = F5_ 1 1 := (s88_ 1 1 rfl).trans (e595_)
    have e597_ : F107_ 1 1 = F5_ 1 1 := (s109_ 1 1 rfl).trans (e596_)
    have e598_ : F119_ 1 1 = F5_ 1 1 := by rw [q120_]; exact (fl_u_ne (by omega)).trans (e597_)
    have e599_ : F142_ 1 1 = F5_ 1 1 := (s144_ 1 1 rfl).trans (e598_)
    have e600_ : F166_ 1 1 = F5_ 1 1 := (s168_ 1 1 rfl).trans (e599_)
    have e601_ : F191_ 1 1 = F5_ 1 1 := (s193_ 1 1 rfl).trans (e600_)
    have e602_ : F543_ 1 1 = F5_ 1 1 := (s545_ 1 1 rfl).trans (e601_)
    have e603_ : F570_ 1 1 = F5_ 1 1 := (s572_ 1 1 rfl).trans (e602_)
    have e604_ : F588_ 1 1 = F5_ 1 1 := (s590_ 1 1 rfl).trans (e603_)
    have b605_ : 0 ≤ F5_ 1 1 ∧ F5_ 1 1 ≤ 600 := gi_g g6_ rfl
    exact ⟨F588_, ⟨rfl, rfl⟩, g589_, g591_, (by obtain ⟨e, c1, c2⟩ := c587_; exact ⟨K, e, ⟨hgK, hcut⟩, ⟨(by simp [sp_dom, sp_open, sp_close, pf, pb, c45_, c64_, c84_, c105_, c140_, c164_, c189_, c199_, ct1_, c568_, c1]), by rw [← hlt_]; exact htf⟩, c2⟩), (by omega)⟩
  rintro A1_ ⟨F609_, hA_, g610_, s611_, c607_, c608_⟩
  subst hA_
  have g612_ : fs [(1, 1, 1, 1), (1, 1, 6, 8), (3, 6, 0, 100000), (7, 13, 0, 100000), (15, 17, 0, 100000), (21, 103, 0, 100000), (119, 119, 2, 3)] F F609_ := fs_tr g573_ s611_ rfl
  have tk613_ : tkh K F609_ := tkh_fs tk574_ s611_ (fun r k h => (fs_n (by omega) (fs_n (by omega) (fs_n (by omega) rfl)))) (fs_n (by omega) (fs_n (by omega) (fs_n (by omega) rfl)))
  have hb11 : 0 ≤ F609_ 11 2 ∧ F609_ 11 2 ≤ 6 := gi_g g610_ rfl
  obtain ⟨pl, ps, ⟨cq1_, cq2_⟩, cq3_, cq4_⟩ := c607_
  have hpl1 := cq3_.1
  refine fl_iconst hm_33 rfl ?_
  refine ga_istore_n (lv2 := [(1, .int (Int32.ofInt 0)), (0, .ref 118)]) hm_33 rfl (Nat.le_of_ble_eq_true rfl) rfl ?_
  have L615_ : ∀ (n614_ : Nat) (i : Int) (al : List Int) (alt : List Int) (F1 : fl_N), (5 - i : Int).toNat = n614_ → (gi F1) → (fs [(1, 1, 7, 8), (15, 17, 0, 100000), (39, 103, 0, 100000), (119, 119, 2, 3)] F609_ F1) → (0 ≤ i ∧ i ≤ 5) → (rep (F1 16) (F1 15 2) al) → (rep (F1 17) (F1 15 2) alt) → ((al.length : Int) = i) → (0 ≤ F1 1 7 ∧ F1 1 7 ≤ K 1 6 - 1) → (di F1 i.toNat) → (sp_actions K ts pl ps 5 [] (F609_ 1 7) = sp_actions K ts pl ps (5 - i).toNat al (F1 1 7)) → fl_R xi_ms 33 fr lo 88 [(1, .int (Int32.ofInt i)), (0, .ref 118)] [] (fl_H sh_T G F1 ++ X) (pq_33 G F X) := by
    intro n614_
    induction n614_ using Nat.strongRecOn with
    | ind n614_ ih616_ =>
    intro i al alt F1 hn617_ hg_F1 hf_F1 hi hal hat hai hp1 hdi hsp
    have g618_ : fs [(1, 1, 1, 1), (1, 1, 6, 8), (3, 6, 0, 100000), (7, 13, 0, 100000), (15, 17, 0, 100000), (21, 103, 0, 100000), (119, 119, 2, 3)] F F1 := fs_tr g612_ hf_F1 rfl
    have tk619_ : tkh K F1 := tkh_fs tk613_ hf_F1 (fun r k h => (fs_n (by omega) (fs_n (by omega) (fs_n (by omega) (fs_n (by omega) rfl))))) (fs_n (by omega) (fs_n (by omega) (fs_n (by omega) (fs_n (by omega) rfl))))
    refine ga_iload_n (z := i) hm_33 rfl rfl ?_
    refine fl_iconst hm_33 rfl ?_
    refine fl_icmp_ge (a := i) (b := 5) hm_33 rfl ⟨by omega, by omega⟩ ⟨by omega, by omega⟩ (fun h620_ => ?_) (fun h621_ => ?_)
    ·
      refine ga_aload_n (v := .ref 118) hm_33 rfl rfl rfl ?_
      refine gIv (nY := 1) (F := 8) (L := 142) (As := []) (b := 118) (rest := []) hm_33 rfl hm_117 rfl rfl (fl_ob sc_118) rfl rfl rfl rfl rfl (by omega) (by omega) ?_
      intro f622_ l623_ h624_ h625_
      show fl_R xi_ms 117 f622_ l623_ 0 [(0, .ref 118)] [] _ _
      refine ga_aload_n (v := .ref 118) hm_117 rfl rfl rfl ?_
      refine ga_getr (b := 1) hm_117 rfl sc_118 rfl ?_
      refine fl_iconst hm_117 rfl ?_
      have b626_ : 0 ≤ F1 1 7 ∧ F1 1 7 ≤ 600 := gi_g hg_F1 rfl
      refine gVv (nY := 2) (F := 7) (L := 121) (As := [.int (Int32.ofInt 1)]) (b := 1) (rest := []) hm_117 rfl hm_24 rfl rfl (fl_ob sc_1) rfl rfl rfl rfl rfl (by omega) (by omega) (mc_24 hG F1 X hg_F1 (K) (1) hgK tk619_ hko (by omega) (by omega)) ?_ ?_
      ·
        rintro j_ A1_ ⟨F628_, ⟨hJ_, hA_⟩, g629_, s630_, c627_⟩
        subst hA_
        subst hJ_
        refine ⟨rfl, ?_⟩
        refine gw_v ⟨rfl, ?_⟩
        refine gw_v ?_
        have g631_ : fs [(1, 1, 1, 1), (1, 1, 6, 8), (3, 6, 0, 100000), (7, 13, 0, 100000), (15, 17, 0, 100000), (21, 103, 0, 100000), (119, 119, 2, 3)] F F628_ := fs_tr g618_ s630_ rfl
        have b632_ : 0 ≤ F628_ 1 8 ∧ F628_ 1 8 ≤ 100000 := gi_g g629_ rfl
        have e633_ : F29_ 1 1 = F5_ 1 1 := by rw [q30_]; exact (fl_u_ne (by omega)).trans ((fl_u_ne (by omega)).trans (fl_u_ne (by omega)))
        have e634_ : F47_ 1 1 = F5_ 1 1 := (s49_ 1 1 rfl).trans (e633_)
        have e635_ : F66_ 1 1 = F5_ 1 1 := (s68_ 1 1 rfl).trans (e634_)
        have e636_ : F86_ 1 1 = F5_ 1 1 := (s88_ 1 1 rfl).trans (e635_)
        have e637_ : F107_ 1 1 = F5_ 1 1 := (s109_ 1 1 rfl).trans (e636_)
        have e638_ : F119_ 1 1 = F5_ 1 1 := by rw [q120_]; exact (fl_u_ne (by omega)).trans (e637_)
        have e639_ : F142_ 1 1 = F5_ 1 1 := (s144_ 1 1 rfl).trans (e638_)
        have e640_ : F166_ 1 1 = F5_ 1 1 := (s168_ 1 1 rfl).trans (e639_)
        have e641_ : F191_ 1 1 = F5_ 1 1 := (s193_ 1 1 rfl).trans (e640_)
        have e642_ : F543_ 1 1 = F5_ 1 1 := (s545_ 1 1 rfl).trans (e641_)
        have e643_ : F570_ 1 1 = F5_ 1 1 := (s572_ 1 1 rfl).trans (e642_)
        have e644_ : F609_ 1 1 = F5_ 1 1 := (s611_ 1 1 rfl).trans (e643_)
        have e645_ : F1 1 1 = F5_ 1 1 := (hf_F1 1 1 rfl).trans (e644_)
        have e646_ : F628_ 1 1 = F5_ 1 1 := (s630_ 1 1 rfl).trans (e645_)
        have b647_ : 0 ≤ F5_ 1 1 ∧ F5_ 1 1 ≤ 600 := gi_g g6_ rfl
        exact ⟨F628_, ⟨rfl, rfl⟩, g629_, g631_, (by obtain ⟨e, c1, c2⟩ := c627_; exact ⟨K, e, ⟨hgK, hcut⟩, ⟨(by have hx := hsp.trans (spa_z (by omega)); simp [sp_dom, sp_open, sp_close, pf, pb, c45_, c64_, c84_, c105_, c140_, c164_, c189_, c199_, ct1_, c568_, cq1_, hx, c1]), by rw [← hlt_]; exact htf⟩, c2⟩), (by omega)⟩
      rintro A1_ ⟨F651_, hA_, g652_, s653_, c649_, c650_⟩
      subst hA_
      have g654_ : fs [(1, 1, 1, 1), (1, 1, 6, 8), (3, 6, 0, 100000), (7, 13, 0, 100000), (15, 17, 0, 100000), (21, 103, 0, 100000), (119, 119, 2, 3)] F F651_ := fs_tr g618_ s653_ rfl
      have tk655_ : tkh K F651_ := tkh_fs tk619_ s653_ (fun r k h => (fs_n (by omega) rfl)) (fs_n (by omega) rfl)
      refine ga_aload_n (v := .ref 118) hm_117 rfl rfl rfl ?_
      refine ga_getr (b := 1) hm_117 rfl sc_118 rfl ?_
      refine fl_iconst hm_117 rfl ?_
      have b656_ : 0 ≤ F651_ 1 7 ∧ F651_ 1 7 ≤ 600 := gi_g g652_ rfl
      refine gVv (nY := 2) (F := 7) (L := 121) (As := [.int (Int32.ofInt 5)]) (b := 1) (rest := []) hm_117 rfl hm_24 rfl rfl (fl_ob sc_1) rfl rfl rfl rfl rfl (by omega) (by omega) (mc_24 hG F651_ X g652_ (K) (5) hgK tk655_ hko (by omega) (by omega)) ?_ ?_
      ·
        rintro j_ A1_ ⟨F658_, ⟨hJ_, hA_⟩, g659_, s660_, c657_⟩
        subst hA_
        subst hJ_
        refine ⟨rfl, ?_⟩
        refine gw_v ⟨rfl, ?_⟩
        refine gw_v ?_
        have g661_ : fs [(1, 1, 1, 1), (1, 1, 6, 8), (3, 6, 0, 100000), (7, 13, 0, 100000), (15, 17, 0, 100000), (21, 103, 0, 100000), (119, 119, 2, 3)] F F658_ := fs_tr g654_ s660_ rfl
        have b662_ : 0 ≤ F658_ 1 8 ∧ F658_ 1 8 ≤ 100000 := gi_g g659_ rfl
        have e663_ : F29_ 1 1 = F5_ 1 1 := by rw [q30_]; exact (fl_u_ne (by omega)).trans ((fl_u_ne (by omega)).trans (fl_u_ne (by omega)))
        have e664_ : F47_ 1 1 = F5_ 1 1 := (s49_ 1 1 rfl).trans (e663_)
        have e665_ : F66_ 1 1 = F5_ 1 1 := (s68_ 1 1 rfl).trans (e664_)
        have e666_ : F86_ 1 1 = F5_ 1 1 := (s88_ 1 1 rfl).trans (e665_)
        have e667_ : F107_ 1 1 = F5_ 1 1 := (s109_ 1 1 rfl).trans (e666_)
        have e668_ : F119_ 1 1 = F5_ 1 1 := by rw [q120_]; exact (fl_u_ne (by omega)).trans (e667_)
        have e669_ : F142_ 1 1 = F5_ 1 1 := (s144_ 1 1 rfl).trans (e668_)
        have e670_ : F166_ 1 1 = F5_ 1 1 := (s168_ 1 1 rfl).trans (e669_)
        have e671_ : F191_ 1 1 = F5_ 1 1 := (s193_ 1 1 rfl).trans (e670_)
        have e672_ : F543_ 1 1 = F5_ 1 1 := (s545_ 1 1 rfl).trans (e671_)
        have e673_ : F570_ 1 1 = F5_ 1 1 := (s572_ 1 1 rfl).trans (e672_)
        have e674_ : F609_ 1 1 = F5_ 1 1 := (s611_ 1 1 rfl).trans (e673_)
        have e675_ : F1 1 1 = F5_ 1 1 := (hf_F1 1 1 rfl).trans (e674_)
        have e676_ : F651_ 1 1 = F5_ 1 1 := (s653_ 1 1 rfl).trans (e675_)
        have e677_ : F658_ 1 1 = F5_ 1 1 := (s660_ 1 1 rfl).trans (e676_)
        have b678_ : 0 ≤ F5_ 1 1 ∧ F5_ 1 1 ≤ 600 := gi_g g6_ rfl
        exact ⟨F658_, ⟨rfl, rfl⟩, g659_, g661_, (by obtain ⟨e, c1, c2⟩ := c657_; exact ⟨K, e, ⟨hgK, hcut⟩, ⟨(by have hx := hsp.trans (spa_z (by omega)); simp [sp_dom, sp_open, sp_close, pf, pb, c45_, c64_, c84_, c105_, c140_, c164_, c189_, c199_, ct1_, c568_, cq1_, c649_, hx, c1]), by rw [← hlt_]; exact htf⟩, c2⟩), (by omega)⟩
      rintro A1_ ⟨F682_, hA_, g683_, s684_, c680_, c681_⟩
      subst hA_
      have g685_ : fs [(1, 1, 1, 1), (1, 1, 6, 8), (3, 6, 0, 100000), (7, 13, 0, 100000), (15, 17, 0, 100000), (21, 103, 0, 100000), (119, 119, 2, 3)] F F682_ := fs_tr g654_ s684_ rfl
      have tk686_ : tkh K F682_ := tkh_fs tk655_ s684_ (fun r k h => (fs_n (by omega) rfl)) (fs_n (by omega) rfl)
      refine gr_v hm_117 rfl rfl ?_
      refine gr_v hm_33 rfl rfl ?_
      have e687_ : F1 11 2 = F609_ 11 2 := (hf_F1 11 2 rfl).trans (rfl)
      have e688_ : F651_ 11 2 = F609_ 11 2 := (s653_ 11 2 rfl).trans (e687_)
      have e689_ : F682_ 11 2 = F609_ 11 2 := (s684_ 11 2 rfl).trans (e688_)
      have b690_ : 0 ≤ F609_ 11 2 ∧ F609_ 11 2 ≤ 6 := gi_g g610_ rfl
      have e691_ : F651_ 15 2 = F1 15 2 := (s653_ 15 2 rfl).trans (rfl)
      have e692_ : F682_ 15 2 = F1 15 2 := (s684_ 15 2 rfl).trans (e691_)
      have b693_ : 0 ≤ F1 15 2 ∧ F1 15 2 ≤ 5 := gi_g hg_F1 rfl
      have e694_ : F570_ 8 2 = F543_ 8 2 := (s572_ 8 2 rfl).trans (rfl)
      have e695_ : F609_ 8 2 = F543_ 8 2 := (s611_ 8 2 rfl).trans (e694_)
      have e696_ : F1 8 2 = F543_ 8 2 := (hf_F1 8 2 rfl).trans (e695_)
      have e697_ : F651_ 8 2 = F543_ 8 2 := (s653_ 8 2 rfl).trans (e696_)
      have e698_ : F682_ 8 2 = F543_ 8 2 := (s684_ 8 2 rfl).trans (e697_)
      have b699_ : 0 ≤ F543_ 8 2 ∧ F543_ 8 2 ≤ 4 := gi_g g544_ rfl
      have e700_ : F29_ 1 1 = F5_ 1 1 := by rw [q30_]; exact (fl_u_ne (by omega)).trans ((fl_u_ne (by omega)).trans (fl_u_ne (by omega)))
      have e701_ : F47_ 1 1 = F5_ 1 1 := (s49_ 1 1 rfl).trans (e700_)
      have e702_ : F66_ 1 1 = F5_ 1 1 := (s68_ 1 1 rfl).trans (e701_)
      have e703_ : F86_ 1 1 = F5_ 1 1 := (s88_ 1 1 rfl).trans (e702_)
      have e704_ : F107_ 1 1 = F5_ 1 1 := (s109_ 1 1 rfl).trans (e703_)
      have e705_ : F119_ 1 1 = F5_ 1 1 := by rw [q120_]; exact (fl_u_ne (by omega)).trans (e704_)
      have e706_ : F142_ 1 1 = F5_ 1 1 := (s144_ 1 1 rfl).trans (e705_)
      have e707_ : F166_ 1 1 = F5_ 1 1 := (s168_ 1 1 rfl).trans (e706_)
      have e708_ : F191_ 1 1 = F5_ 1 1 := (s193_ 1 1 rfl).trans (e707_)
      have e709_ : F543_ 1 1 = F5_ 1 1 := (s545_ 1 1 rfl).trans (e708_)
      have e710_ : F570_ 1 1 = F5_ 1 1 := (s572_ 1 1 rfl).trans (e709_)
      have e711_ : F609_ 1 1 = F5_ 1 1 := (s611_ 1 1 rfl).trans (e710_)
      have e712_ : F1 1 1 = F5_ 1 1 := (hf_F1 1 1 rfl).trans (e711_)
      have e713_ : F651_ 1 1 = F5_ 1 1 := (s653_ 1 1 rfl).trans (e712_)
      have e714_ : F682_ 1 1 = F5_ 1 1 := (s684_ 1 1 rfl).trans (e713_)
      have b715_ : 0 ≤ F5_ 1 1 ∧ F5_ 1 1 ≤ 600 := gi_g g6_ rfl
      exact ⟨F682_, rfl, g683_, g685_, (⟨K, ts, pl, ps, al, ⟨hgK, hcut⟩, ⟨by have hx := hsp.trans (spa_z (by omega)); simp [sp_dom, sp_open, sp_close, pf, pb, c45_, c64_, c84_, c105_, c140_, c164_, c189_, c199_, ct1_, c568_, cq1_, c649_, c680_, hx], by rw [← hlt_]; exact htf⟩, ⟨(rep_fs (rep_fs (rep_fs (rep_fs (rep_fs ct2_ s572_ (fun _ => (fs_n (by omega) rfl)) (fs_n (by omega) rfl)) s611_ (fun _ => (fs_n (by omega) (fs_n (by omega) (fs_n (by omega) rfl)))) (fs_n (by omega) (fs_n (by omega) (fs_n (by omega) rfl)))) hf_F1 (fun _ => (fs_n (by omega) (fs_n (by omega) (fs_n (by omega) (fs_n (by omega) rfl))))) (fs_n (by omega) (fs_n (by omega) (fs_n (by omega) (fs_n (by omega) rfl))))) s653_ (fun _ => (fs_n (by omega) rfl)) (fs_n (by omega) rfl)) s684_ (fun _ => (fs_n (by omega) rfl)) (fs_n (by omega) rfl)), (rep_fs (rep_fs (rep_fs cq3_ hf_F1 (fun _ => (fs_n (by omega) (fs_n (by omega) (fs_n (by omega) (fs_n (by omega) rfl))))) (fs_n (by omega) (fs_n (by omega) (fs_n (by omega) (fs_n (by omega) rfl))))) s653_ (fun _ => (fs_n (by omega) rfl)) (fs_n (by omega) rfl)) s684_ (fun _ => (fs_n (by omega) rfl)) (fs_n (by omega) rfl)), (prd_fs (prd_fs (prd_fs cq4_ hf_F1 (fun _ _ _ => (fs_n (by omega) (fs_n (by omega) (fs_n (by omega) (fs_n (by omega) rfl)))))) s653_ (fun _ _ _ => (fs_n (by omega) rfl))) s684_ (fun _ _ _ => (fs_n (by omega) rfl))), cq2_⟩, (rep_fs (rep_fs hal s653_ (fun _ => (fs_n (by omega) rfl)) (fs_n (by omega) rfl)) s684_ (fun _ => (fs_n (by omega) rfl)) (fs_n (by omega) rfl)), by rw [show al.length = i.toNat by omega]; exact (di_fs (di_fs hdi s653_ (fun _ _ _ => (fs_n (by omega) rfl))) s684_ (fun _ _ _ => (fs_n (by omega) rfl)))⟩), (by omega)⟩
    refine ga_iload_n (z := i) hm_33 rfl rfl ?_
    refine fl_if_eq (a := i) hm_33 rfl ⟨by omega, by omega⟩ (fun h716_ => ?_) (fun h717_ => ?_)
    ·
      refine ga_aload_n (v := .ref 118) hm_33 rfl rfl rfl ?_
      refine ga_iload_n (z := i) hm_33 rfl rfl ?_
      obtain ⟨Ac, hAc⟩ : ∃ Ac : Nat, Ac = 39 + 13 * i.toNat := ⟨_, rfl⟩
      have b718_ : 0 ≤ F1 1 7 ∧ F1 1 7 ≤ 600 := gi_g hg_F1 rfl
      refine gVv (nY := 2) (F := 11) (L := 215) (As := [.int (Int32.ofInt i)]) (b := 118) (rest := []) hm_33 rfl hm_119 rfl rfl (fl_ob sc_118) rfl rfl rfl rfl rfl (by omega) (by omega) (mc_119 hG F1 X hg_F1 (K) (Ac) (i) (ts) (pl) (al) (alt) (ps) hgK tk619_ hko (by omega) (hAc) (by omega) (by rw [hAc]; exact (ra_18x _ (by omega)).1) (by rw [hAc]; exact (ra_18x _ (by omega)).2.1) (by rw [hAc]; exact (ra_18x _ (by omega)).2.2) ((rep_fs (rep_fs (rep_fs ct2_ s572_ (fun _ => (fs_n (by omega) rfl)) (fs_n (by omega) rfl)) s611_ (fun _ => (fs_n (by omega) (fs_n (by omega) (fs_n (by omega) rfl)))) (fs_n (by omega) (fs_n (by omega) (fs_n (by omega) rfl)))) hf_F1 (fun _ => (fs_n (by omega) (fs_n (by omega) (fs_n (by omega) (fs_n (by omega) rfl))))) (fs_n (by omega) (fs_n (by omega) (fs_n (by omega) (fs_n (by omega) rfl)))))) ((rep_fs cq3_ hf_F1 (fun _ => (fs_n (by omega) (fs_n (by omega) (fs_n (by omega) (fs_n (by omega) rfl))))) (fs_n (by omega) (fs_n (by omega) (fs_n (by omega) (fs_n (by omega) rfl)))))) ((prd_fs cq4_ hf_F1 (fun _ _ _ => (fs_n (by omega) (fs_n (by omega) (fs_n (by omega) (fs_n (by omega) rfl))))))) (cq2_) (hal) (hat) (by omega) (hdi)) ?_ ?_
      ·
        rintro j_ A1_ ⟨F720_, ⟨hJ_, hA_⟩, g721_, s722_, c719_⟩
        subst hA_
        subst hJ_
        refine ⟨rfl, ?_⟩
        refine gw_v ?_
        have g723_ : fs [(1, 1, 1, 1), (1, 1, 6, 8), (3, 6, 0, 100000), (7, 13, 0, 100000), (15, 17, 0, 100000), (21, 103, 0, 100000), (119, 119, 2, 3)] F F720_ := fs_tr g618_ s722_ (by simp [fs_le]; try omega)
        have b724_ : 0 ≤ F720_ 1 8 ∧ F720_ 1 8 ≤ 100000 := gi_g g721_ rfl
        have e725_ : F29_ 1 1 = F5_ 1 1 := by rw [q30_]; exact (fl_u_ne (by omega)).trans ((fl_u_ne (by omega)).trans (fl_u_ne (by omega)))
        have e726_ : F47_ 1 1 = F5_ 1 1 := (s49_ 1 1 rfl).trans (e725_)
        have e727_ : F66_ 1 1 = F5_ 1 1 := (s68_ 1 1 rfl).trans (e726_)
        have e728_ : F86_ 1 1 = F5_ 1 1 := (s88_ 1 1 rfl).trans (e727_)
        have e729_ : F107_ 1 1 = F5_ 1 1 := (s109_ 1 1 rfl).trans (e728_)
        have e730_ : F119_ 1 1 = F5_ 1 1 := by rw [q120_]; exact (fl_u_ne (by omega)).trans (e729_)
        have e731_ : F142_ 1 1 = F5_ 1 1 := (s144_ 1 1 rfl).trans (e730_)
        have e732_ : F166_ 1 1 = F5_ 1 1 := (s168_ 1 1 rfl).trans (e731_)
        have e733_ : F191_ 1 1 = F5_ 1 1 := (s193_ 1 1 rfl).trans (e732_)
        have e734_ : F543_ 1 1 = F5_ 1 1 := (s545_ 1 1 rfl).trans (e733_)
        have e735_ : F570_ 1 1 = F5_ 1 1 := (s572_ 1 1 rfl).trans (e734_)
        have e736_ : F609_ 1 1 = F5_ 1 1 := (s611_ 1 1 rfl).trans (e735_)
        have e737_ : F1 1 1 = F5_ 1 1 := (hf_F1 1 1 rfl).trans (e736_)
        have e738_ : F720_ 1 1 = F5_ 1 1 := (s722_ 1 1 (fs_n (by omega) (fs_n (by omega) (fs_n (by omega) (fs_n (by omega) rfl))))).trans (e737_)
        have b739_ : 0 ≤ F5_ 1 1 ∧ F5_ 1 1 ≤ 600 := gi_g g6_ rfl
        exact ⟨F720_, ⟨rfl, rfl⟩, g721_, g723_, (by obtain ⟨e, c1, c2⟩ := c719_; exact ⟨K, e, ⟨hgK, hcut⟩, ⟨(by have hx := hsp; rw [spa_step (by omega) (by omega) (by omega), c1] at hx; simp only [pb] at hx; simp [sp_dom, sp_open, sp_close, pf, pb, c45_, c64_, c84_, c105_, c140_, c164_, c189_, c199_, ct1_, c568_, cq1_, hx]), by rw [← hlt_]; exact htf⟩, c2⟩), (by omega)⟩
      rintro A1_ ⟨F744_, hA_, g745_, s746_, c741_, c742_, c743_⟩
      subst hA_
      have g747_ : fs [(1, 1, 1, 1), (1, 1, 6, 8), (3, 6, 0, 100000), (7, 13, 0, 100000), (15, 17, 0, 100000), (21, 103, 0, 100000), (119, 119, 2, 3)] F F744_ := fs_tr g618_ s746_ (by simp [fs_le]; try omega)
      have tk748_ : tkh K F744_ := tkh_fs tk619_ s746_ (fun r k h => (fs_n (by omega) (fs_n (by omega) (fs_n (by omega) (fs_n (by omega) rfl))))) (fs_n (by omega) (fs_n (by omega) (fs_n (by omega) (fs_n (by omega) rfl))))
      obtain ⟨al2_, alt2_, ⟨ca1_, ca4_⟩, ca2_, ca3_⟩ := c741_
      refine ga_inc (a := i) (c := i + 1) (lv2 := [(1, .int (Int32.ofInt (i + 1))), (0, .ref 118)]) hm_33 rfl rfl (Nat.le_of_ble_eq_true rfl) rfl rfl ?_
      refine fl_goto hm_33 rfl ?_
      have b749_ : 0 ≤ F744_ 15 2 ∧ F744_ 15 2 ≤ 5 := gi_g g745_ rfl
      have b750_ : 0 ≤ F1 15 2 ∧ F1 15 2 ≤ 5 := gi_g hg_F1 rfl
      have b751_ : 0 ≤ F744_ 1 7 ∧ F744_ 1 7 ≤ 600 := gi_g g745_ rfl
      have b752_ : 0 ≤ K 1 6 ∧ K 1 6 ≤ 601 := gi_g hgK rfl
      exact ih616_ _ (by omega) (i + 1) (_) (_) F744_ rfl g745_ (fs_tr hf_F1 s746_ (by simp [fs_le]; try omega)) (by omega) (ca2_) (ca3_) (ca4_) (by omega) (c743_) (by rw [hsp, spa_step (by omega) (by omega) (by omega), ca1_]; rfl)
    refine ga_aload_n (v := .ref 118) hm_33 rfl rfl rfl ?_
    refine ga_getr (b := 1) hm_33 rfl sc_118 rfl ?_
    refine fl_iconst hm_33 rfl ?_
    refine gIi (nY := 2) (F := 0) (L := 0) (As := [.int (Int32.ofInt 0)]) (b := 1) (rest := []) hm_33 rfl hm_153 rfl rfl (fl_ob sc_1) rfl rfl rfl rfl rfl (by omega) (by omega) ?_
    intro f753_ l754_ h755_ h756_
    show fl_R xi_ms 153 f753_ l754_ 0 [(0, .ref 1), (1, .int (Int32.ofInt 0))] [] _ _
    refine ga_aload_n (v := .ref 1) hm_153 rfl rfl rfl ?_
    refine ga_getr (b := 3) hm_153 rfl sc_1 rfl ?_
    refine ga_aload_n (v := .ref 1) hm_153 rfl rfl rfl ?_
    have b757_ : 0 ≤ F1 1 7 ∧ F1 1 7 ≤ 600 := gi_g hg_F1 rfl
    refine ga_geti (z := F1 1 7) hm_153 rfl sc_1 rfl (rfl) ?_
    have e758_ : F1 3 (F1 1 7).toNat = K 3 (F1 1 7).toNat := tk619_.1 3 (F1 1 7).toNat (by omega)
    have b759_ : 0 ≤ K 3 (F1 1 7).toNat ∧ K 3 (F1 1 7).toNat ≤ 5 := gi_g hgK rfl
    refine ga_iald (z := F1 1 7) (w := K 3 (F1 1 7).toNat) hm_153 rfl sc_3 (by omega) (by omega) (by omega) (e758_) ?_
    refine ga_iload_n (z := 0) hm_153 rfl rfl ?_
    refine fx_icmp_ne (a := K 3 (F1 1 7).toNat) (b := 0) hm_153 rfl ⟨by omega, by omega⟩ ⟨by omega, by omega⟩ (fun h760_ => ?_) (fun h761_ => ?_)
    ·
      refine fl_iconst hm_153 rfl ?_
      refine gr_i hm_153 rfl rfl (ga_nb (by omega)) ?_
      refine fl_if_eq hm_33 rfl ⟨by omega, by omega⟩ (fun _ => ?_) (fun h => absurd (by omega) h)
      refine ga_aload_n (v := .ref 118) hm_33 rfl rfl rfl ?_
      refine gIv (nY := 1) (F := 8) (L := 142) (As := []) (b := 118) (rest := []) hm_33 rfl hm_117 rfl rfl (fl_ob sc_118) rfl rfl rfl rfl rfl (by omega) (by omega) ?_
      intro f762_ l763_ h764_ h765_
      show fl_R xi_ms 117 f762_ l763_ 0 [(0, .ref 118)] [] _ _
      refine ga_aload_n (v := .ref 118) hm_117 rfl rfl rfl ?_
      refine ga_getr (b := 1) hm_117 rfl sc_118 rfl ?_
      refine fl_iconst hm_117 rfl ?_
      refine gVv (nY := 2) (F := 7) (L := 121) (As := [.int (Int32.ofInt 1)]) (b := 1) (rest := []) hm_117 rfl hm_24 rfl rfl (fl_ob sc_1) rfl rfl rfl rfl rfl (by omega) (by omega) (mc_24 hG F1 X hg_F1 (K) (1) hgK tk619_ hko (by omega) (by omega)) ?_ ?_
      ·
        rintro j_ A1_ ⟨F767_, ⟨hJ_, hA_⟩, g768_, s769_, c766_⟩
        subst hA_
        subst hJ_
        refine ⟨rfl, ?_⟩
        refine gw_v ⟨rfl, ?_⟩
        refine gw_v ?_
        have g770_ : fs [(1, 1, 1, 1), (1, 1, 6, 8), (3, 6, 0, 100000), (7, 13, 0, 100000), (15, 17, 0, 100000), (21, 103, 0, 100000), (119, 119, 2, 3)] F F767_ := fs_tr g618_ s769_ rfl
        have b771_ : 0 ≤ F767_ 1 8 ∧ F767_ 1 8 ≤ 100000 := gi_g g768_ rfl
        have e772_ : F29_ 1 1 = F5_ 1 1 := by rw [q30_]; exact (fl_u_ne (by omega)).trans ((fl_u_ne (by omega)).trans (fl_u_ne (by omega)))
        have e773_ : F47_ 1 1 = F5_ 1 1 := (s49_ 1 1 rfl).trans (e772_)
        have e774_ : F66_ 1 1 = F5_ 1 1 := (s68_ 1 1 rfl).trans (e773_)
        have e775_ : F86_ 1 1 = F5_ 1 1 := (s88_ 1 1 rfl).trans (e774_)
        have e776_ : F107_ 1 1 = F5_ 1 1 := (s109_ 1 1 rfl).trans (e775_)
        have e777_ : F119_ 1 1 = F5_ 1 1 := by rw [q120_]; exact (fl_u_ne (by omega)).trans (e776_)
        have e778_ : F142_ 1 1 = F5_ 1 1 := (s144_ 1 1 rfl).trans (e777_)
        have e779_ : F166_ 1 1 = F5_ 1 1 := (s168_ 1 1 rfl).trans (e778_)
        have e780_ : F191_ 1 1 = F5_ 1 1 := (s193_ 1 1 rfl).trans (e779_)
        have e781_ : F543_ 1 1 = F5_ 1 1 := (s545_ 1 1 rfl).trans (e780_)
        have e782_ : F570_ 1 1 = F5_ 1 1 := (s572_ 1 1 rfl).trans (e781_)
        have e783_ : F609_ 1 1 = F5_ 1 1 := (s611_ 1 1 rfl).trans (e782_)
        have e784_ : F1 1 1 = F5_ 1 1 := (hf_F1 1 1 rfl).trans (e783_)
        have e785_ : F767_ 1 1 = F5_ 1 1 := (s769_ 1 1 rfl).trans (e784_)
        have b786_ : 0 ≤ F5_ 1 1 ∧ F5_ 1 1 ≤ 600 := gi_g g6_ rfl
        exact ⟨F767_, ⟨rfl, rfl⟩, g768_, g770_, (by obtain ⟨e, c1, c2⟩ := c766_; exact ⟨K, e, ⟨hgK, hcut⟩, ⟨(by have hx := hsp.trans (spa_e (by omega) (by omega) (by omega)); simp [sp_dom, sp_open, sp_close, pf, pb, c45_, c64_, c84_, c105_, c140_, c164_, c189_, c199_, ct1_, c568_, cq1_, hx, c1]), by rw [← hlt_]; exact htf⟩, c2⟩), (by omega)⟩
      rintro A1_ ⟨F790_, hA_, g791_, s792_, c788_, c789_⟩
      subst hA_
      have g793_ : fs [(1, 1, 1, 1), (1, 1, 6, 8), (3, 6, 0, 100000), (7, 13, 0, 100000), (15, 17, 0, 100000), (21, 103, 0, 100000), (119, 119, 2, 3)] F F790_ := fs_tr g618_ s792_ rfl
      have tk794_ : tkh K F790_ := tkh_fs tk619_ s792_ (fun r k h => (fs_n (by omega) rfl)) (fs_n (by omega) rfl)
      refine ga_aload_n (v := .ref 118) hm_117 rfl rfl rfl ?_
      refine ga_getr (b := 1) hm_117 rfl sc_118 rfl ?_
      refine fl_iconst hm_117 rfl ?_
      have b795_ : 0 ≤ F790_ 1 7 ∧ F790_ 1 7 ≤ 600 := gi_g g791_ rfl
      refine gVv (nY := 2) (F := 7) (L := 121) (As := [.int (Int32.ofInt 5)]) (b := 1) (rest := []) hm_117 rfl hm_24 rfl rfl (fl_ob sc_1) rfl rfl rfl rfl rfl (by omega) (by omega) (mc_24 hG F790_ X g791_ (K) (5) hgK tk794_ hko (by omega) (by omega)) ?_ ?_
      ·
        rintro j_ A1_ ⟨F797_, ⟨hJ_, hA_⟩, g798_, s799_, c796_⟩
        subst hA_
        subst hJ_
        refine ⟨rfl, ?_⟩
        refine gw_v ⟨rfl, ?_⟩
        refine gw_v ?_
        have g800_ : fs [(1, 1, 1, 1), (1, 1, 6, 8), (3, 6, 0, 100000), (7, 13, 0, 100000), (15, 17, 0, 100000), (21, 103, 0, 100000), (119, 119, 2, 3)] F F797_ := fs_tr g793_ s799_ rfl
        have b801_ : 0 ≤ F797_ 1 8 ∧ F797_ 1 8 ≤ 100000 := gi_g g798_ rfl
        have e802_ : F29_ 1 1 = F5_ 1 1 := by rw [q30_]; exact (fl_u_ne (by omega)).trans ((fl_u_ne (by omega)).trans (fl_u_ne (by omega)))
        have e803_ : F47_ 1 1 = F5_ 1 1 := (s49_ 1 1 rfl).trans (e802_)
        have e804_ : F66_ 1 1 = F5_ 1 1 := (s68_ 1 1 rfl).trans (e803_)
        have e805_ : F86_ 1 1 = F5_ 1 1 := (s88_ 1 1 rfl).trans (e804_)
        have e806_ : F107_ 1 1 = F5_ 1 1 := (s109_ 1 1 rfl).trans (e805_)
        have e807_ : F119_ 1 1 = F5_ 1 1 := by rw [q120_]; exact (fl_u_ne (by omega)).trans (e806_)
        have e808_ : F142_ 1 1 = F5_ 1 1 := (s144_ 1 1 rfl).trans (e807_)
        have e809_ : F166_ 1 1 = F5_ 1 1 := (s168_ 1 1 rfl).trans (e808_)
        have e810_ : F191_ 1 1 = F5_ 1 1 := (s193_ 1 1 rfl).trans (e809_)
        have e811_ : F543_ 1 1 = F5_ 1 1 := (s545_ 1 1 rfl).trans (e810_)
        have e812_ : F570_ 1 1 = F5_ 1 1 := (s572_ 1 1 rfl).trans (e811_)
        have e813_ : F609_ 1 1 = F5_ 1 1 := (s611_ 1 1 rfl).trans (e812_)
        have e814_ : F1 1 1 = F5_ 1 1 := (hf_F1 1 1 rfl).trans (e813_)
        have e815_ : F790_ 1 1 = F5_ 1 1 := (s792_ 1 1 rfl).trans (e814_)
        have e816_ : F797_ 1 1 = F5_ 1 1 := (s799_ 1 1 rfl).trans (e815_)
        have b817_ : 0 ≤ F5_ 1 1 ∧ F5_ 1 1 ≤ 600 := gi_g g6_ rfl
        exact ⟨F797_, ⟨rfl, rfl⟩, g798_, g800_, (by obtain ⟨e, c1, c2⟩ := c796_; exact ⟨K, e, ⟨hgK, hcut⟩, ⟨(by have hx := hsp.trans (spa_e (by omega) (by omega) (by omega)); simp [sp_dom, sp_open, sp_close, pf, pb, c45_, c64_, c84_, c105_, c140_, c164_, c189_, c199_, ct1_, c568_, cq1_, c788_, hx, c1]), by rw [← hlt_]; exact htf⟩, c2⟩), (by omega)⟩
      rintro A1_ ⟨F821_, hA_, g822_, s823_, c819_, c820_⟩
      subst hA_
      have g824_ : fs [(1, 1, 1, 1), (1, 1, 6, 8), (3, 6, 0, 100000), (7, 13, 0, 100000), (15, 17, 0, 100000), (21, 103, 0, 100000), (119, 119, 2, 3)] F F821_ := fs_tr g793_ s823_ rfl
      have tk825_ : tkh K F821_ := tkh_fs tk794_ s823_ (fun r k h => (fs_n (by omega) rfl)) (fs_n (by omega) rfl)
      refine gr_v hm_117 rfl rfl ?_
      refine gr_v hm_33 rfl rfl ?_
      have e826_ : F1 11 2 = F609_ 11 2 := (hf_F1 11 2 rfl).trans (rfl)
      have e827_ : F790_ 11 2 = F609_ 11 2 := (s792_ 11 2 rfl).trans (e826_)
      have e828_ : F821_ 11 2 = F609_ 11 2 := (s823_ 11 2 rfl).trans (e827_)
      have b829_ : 0 ≤ F609_ 11 2 ∧ F609_ 11 2 ≤ 6 := gi_g g610_ rfl
      have e830_ : F790_ 15 2 = F1 15 2 := (s792_ 15 2 rfl).trans (rfl)
      have e831_ : F821_ 15 2 = F1 15 2 := (s823_ 15 2 rfl).trans (e830_)
      have b832_ : 0 ≤ F1 15 2 ∧ F1 15 2 ≤ 5 := gi_g hg_F1 rfl
      have e833_ : F570_ 8 2 = F543_ 8 2 := (s572_ 8 2 rfl).trans (rfl)
      have e834_ : F609_ 8 2 = F543_ 8 2 := (s611_ 8 2 rfl).trans (e833_)
      have e835_ : F1 8 2 = F543_ 8 2 := (hf_F1 8 2 rfl).trans (e834_)
      have e836_ : F790_ 8 2 = F543_ 8 2 := (s792_ 8 2 rfl).trans (e835_)
      have e837_ : F821_ 8 2 = F543_ 8 2 := (s823_ 8 2 rfl).trans (e836_)
      have b838_ : 0 ≤ F543_ 8 2 ∧ F543_ 8 2 ≤ 4 := gi_g g544_ rfl
      have e839_ : F29_ 1 1 = F5_ 1 1 := by rw [q30_]; exact (fl_u_ne (by omega)).trans ((fl_u_ne (by omega)).trans (fl_u_ne (by omega)))
      have e840_ : F47_ 1 1 = F5_ 1 1 := (s49_ 1 1 rfl).trans (e839_)
      have e841_ : F66_ 1 1 = F5_ 1 1 := (s68_ 1 1 rfl).trans (e840_)
      have e842_ : F86_ 1 1 = F5_ 1 1 := (s88_ 1 1 rfl).trans (e841_)
      have e843_ : F107_ 1 1 = F5_ 1 1 := (s109_ 1 1 rfl).trans (e842_)
      have e844_ : F119_ 1 1 = F5_ 1 1 := by rw [q120_]; exact (fl_u_ne (by omega)).trans (e843_)
      have e845_ : F142_ 1 1 = F5_ 1 1 := (s144_ 1 1 rfl).trans (e844_)
      have e846_ : F166_ 1 1 = F5_ 1 1 := (s168_ 1 1 rfl).trans (e845_)
      have e847_ : F191_ 1 1 = F5_ 1 1 := (s193_ 1 1 rfl).trans (e846_)
      have e848_ : F543_ 1 1 = F5_ 1 1 := (s545_ 1 1 rfl).trans (e847_)
      have e849_ : F570_ 1 1 = F5_ 1 1 := (s572_ 1 1 rfl).trans (e848_)
      have e850_ : F609_ 1 1 = F5_ 1 1 := (s611_ 1 1 rfl).trans (e849_)
      have e851_ : F1 1 1 = F5_ 1 1 := (hf_F1 1 1 rfl).trans (e850_)
      have e852_ : F790_ 1 1 = F5_ 1 1 := (s792_ 1 1 rfl).trans (e851_)
      have e853_ : F821_ 1 1 = F5_ 1 1 := (s823_ 1 1 rfl).trans (e852_)
      have b854_ : 0 ≤ F5_ 1 1 ∧ F5_ 1 1 ≤ 600 := gi_g g6_ rfl
      exact ⟨F821_, rfl, g822_, g824_, (⟨K, ts, pl, ps, al, ⟨hgK, hcut⟩, ⟨by have hx := hsp.trans (spa_e (by omega) (by omega) (by omega)); simp [sp_dom, sp_open, sp_close, pf, pb, c45_, c64_, c84_, c105_, c140_, c164_, c189_, c199_, ct1_, c568_, cq1_, c788_, c819_, hx], by rw [← hlt_]; exact htf⟩, ⟨(rep_fs (rep_fs (rep_fs (rep_fs (rep_fs ct2_ s572_ (fun _ => (fs_n (by omega) rfl)) (fs_n (by omega) rfl)) s611_ (fun _ => (fs_n (by omega) (fs_n (by omega) (fs_n (by omega) rfl)))) (fs_n (by omega) (fs_n (by omega) (fs_n (by omega) rfl)))) hf_F1 (fun _ => (fs_n (by omega) (fs_n (by omega) (fs_n (by omega) (fs_n (by omega) rfl))))) (fs_n (by omega) (fs_n (by omega) (fs_n (by omega) (fs_n (by omega) rfl))))) s792_ (fun _ => (fs_n (by omega) rfl)) (fs_n (by omega) rfl)) s823_ (fun _ => (fs_n (by omega) rfl)) (fs_n (by omega) rfl)), (rep_fs (rep_fs (rep_fs cq3_ hf_F1 (fun _ => (fs_n (by omega) (fs_n (by omega) (fs_n (by omega) (fs_n (by omega) rfl))))) (fs_n (by omega) (fs_n (by omega) (fs_n (by omega) (fs_n (by omega) rfl))))) s792_ (fun _ => (fs_n (by omega) rfl)) (fs_n (by omega) rfl)) s823_ (fun _ => (fs_n (by omega) rfl)) (fs_n (by omega) rfl)), (prd_fs (prd_fs (prd_fs cq4_ hf_F1 (fun _ _ _ => (fs_n (by omega) (fs_n (by omega) (fs_n (by omega) (fs_n (by omega) rfl)))))) s792_ (fun _ _ _ => (fs_n (by omega) rfl))) s823_ (fun _ _ _ => (fs_n (by omega) rfl))), cq2_⟩, (rep_fs (rep_fs hal s792_ (fun _ => (fs_n (by omega) rfl)) (fs_n (by omega) rfl)) s823_ (fun _ => (fs_n (by omega) rfl)) (fs_n (by omega) rfl)), by rw [show al.length = i.toNat by omega]; exact (di_fs (di_fs hdi s792_ (fun _ _ _ => (fs_n (by omega) rfl))) s823_ (fun _ _ _ => (fs_n (by omega) rfl)))⟩), (by omega)⟩
    refine fl_iconst hm_153 rfl ?_
    refine fl_goto hm_153 rfl ?_
    refine gr_i hm_153 rfl rfl (ga_nb (by omega)) ?_
    refine fl_if_eq hm_33 rfl ⟨by omega, by omega⟩ (fun h => absurd h (by omega)) (fun _ => ?_)
    refine ga_aload_n (v := .ref 118) hm_33 rfl rfl rfl ?_
    refine ga_iload_n (z := i) hm_33 rfl rfl ?_
    obtain ⟨Ac, hAc⟩ : ∃ Ac : Nat, Ac = 39 + 13 * i.toNat := ⟨_, rfl⟩
    refine gVv (nY := 2) (F := 11) (L := 215) (As := [.int (Int32.ofInt i)]) (b := 118) (rest := []) hm_33 rfl hm_119 rfl rfl (fl_ob sc_118) rfl rfl rfl rfl rfl (by omega) (by omega) (mc_119 hG F1 X hg_F1 (K) (Ac) (i) (ts) (pl) (al) (alt) (ps) hgK tk619_ hko (by omega) (hAc) (by omega) (by rw [hAc]; exact (ra_18x _ (by omega)).1) (by rw [hAc]; exact (ra_18x _ (by omega)).2.1) (by rw [hAc]; exact (ra_18x _ (by omega)).2.2) ((rep_fs (rep_fs (rep_fs ct2_ s572_ (fun _ => (fs_n (by omega) rfl)) (fs_n (by omega) rfl)) s611_ (fun _ => (fs_n (by omega) (fs_n (by omega) (fs_n (by omega) rfl)))) (fs_n (by omega) (fs_n (by omega) (fs_n (by omega) rfl)))) hf_F1 (fun _ => (fs_n (by omega) (fs_n (by omega) (fs_n (by omega) (fs_n (by omega) rfl))))) (fs_n (by omega) (fs_n (by omega) (fs_n (by omega) (fs_n (by omega) rfl)))))) ((rep_fs cq3_ hf_F1 (fun _ => (fs_n (by omega) (fs_n (by omega) (fs_n (by omega) (fs_n (by omega) rfl))))) (fs_n (by omega) (fs_n (by omega) (fs_n (by omega) (fs_n (by omega) rfl)))))) ((prd_fs cq4_ hf_F1 (fun _ _ _ => (fs_n (by omega) (fs_n (by omega) (fs_n (by omega) (fs_n (by omega) rfl))))))) (cq2_) (hal) (hat) (by omega) (hdi)) ?_ ?_
    ·
      rintro j_ A1_ ⟨F856_, ⟨hJ_, hA_⟩, g857_, s858_, c855_⟩
      subst hA_
      subst hJ_
      refine ⟨rfl, ?_⟩
      refine gw_v ?_
      have g859_ : fs [(1, 1, 1, 1), (1, 1, 6, 8), (3, 6, 0, 100000), (7, 13, 0, 100000), (15, 17, 0, 100000), (21, 103, 0, 100000), (119, 119, 2, 3)] F F856_ := fs_tr g618_ s858_ (by simp [fs_le]; try omega)
      have b860_ : 0 ≤ F856_ 1 8 ∧ F856_ 1 8 ≤ 100000 := gi_g g857_ rfl
      have e861_ : F29_ 1 1 = F5_ 1 1 := by rw [q30_]; exact (fl_u_ne (by omega)).trans ((fl_u_ne (by omega)).trans (fl_u_ne (by omega)))
      have e862_ : F47_ 1 1 = F5_ 1 1 := (s49_ 1 1 rfl).trans (e861_)
      have e863_ : F66_ 1 1 = F5_ 1 1 := (s68_ 1 1 rfl).trans (e862_)
      have e864_ : F86_ 1 1 = F5_ 1 1 := (s88_ 1 1 rfl).trans (e863_)
      have e865_ : F107_ 1 1 = F5_ 1 1 := (s109_ 1 1 rfl).trans (e864_)
      have e866_ : F119_ 1 1 = F5_ 1 1 := by rw [q120_]; exact (fl_u_ne (by omega)).trans (e865_)
      have e867_ : F142_ 1 1 = F5_ 1 1 := (s144_ 1 1 rfl).trans (e866_)
      have e868_ : F166_ 1 1 = F5_ 1 1 := (s168_ 1 1 rfl).trans (e867_)
      have e869_ : F191_ 1 1 = F5_ 1 1 := (s193_ 1 1 rfl).trans (e868_)
      have e870_ : F543_ 1 1 = F5_ 1 1 := (s545_ 1 1 rfl).trans (e869_)
      have e871_ : F570_ 1 1 = F5_ 1 1 := (s572_ 1 1 rfl).trans (e870_)
      have e872_ : F609_ 1 1 = F5_ 1 1 := (s611_ 1 1 rfl).trans (e871_)
      have e873_ : F1 1 1 = F5_ 1 1 := (hf_F1 1 1 rfl).trans (e872_)
      have e874_ : F856_ 1 1 = F5_ 1 1 := (s858_ 1 1 (fs_n (by omega) (fs_n (by omega) (fs_n (by omega) (fs_n (by omega) rfl))))).trans (e873_)
      have b875_ : 0 ≤ F5_ 1 1 ∧ F5_ 1 1 ≤ 600 := gi_g g6_ rfl
      exact ⟨F856_, ⟨rfl, rfl⟩, g857_, g859_, (by obtain ⟨e, c1, c2⟩ := c855_; exact ⟨K, e, ⟨hgK, hcut⟩, ⟨(by have hx := hsp; rw [spa_step (by omega) (by omega) (by omega), c1] at hx; simp only [pb] at hx; simp [sp_dom, sp_open, sp_close, pf, pb, c45_, c64_, c84_, c105_, c140_, c164_, c189_, c199_, ct1_, c568_, cq1_, hx]), by rw [← hlt_]; exact htf⟩, c2⟩), (by omega)⟩
    rintro A1_ ⟨F880_, hA_, g881_, s882_, c877_, c878_, c879_⟩
    subst hA_
    have g883_ : fs [(1, 1, 1, 1), (1, 1, 6, 8), (3, 6, 0, 100000), (7, 13, 0, 100000), (15, 17, 0, 100000), (21, 103, 0, 100000), (119, 119, 2, 3)] F F880_ := fs_tr g618_ s882_ (by simp [fs_le]; try omega)
    have tk884_ : tkh K F880_ := tkh_fs tk619_ s882_ (fun r k h => (fs_n (by omega) (fs_n (by omega) (fs_n (by omega) (fs_n (by omega) rfl))))) (fs_n (by omega) (fs_n (by omega) (fs_n (by omega) (fs_n (by omega) rfl))))
    obtain ⟨al2_, alt2_, ⟨ca1_, ca4_⟩, ca2_, ca3_⟩ := c877_
    refine ga_inc (a := i) (c := i + 1) (lv2 := [(1, .int (Int32.ofInt (i + 1))), (0, .ref 118)]) hm_33 rfl rfl (Nat.le_of_ble_eq_true rfl) rfl rfl ?_
    refine fl_goto hm_33 rfl ?_
    have b885_ : 0 ≤ F880_ 15 2 ∧ F880_ 15 2 ≤ 5 := gi_g g881_ rfl
    have b886_ : 0 ≤ F1 15 2 ∧ F1 15 2 ≤ 5 := gi_g hg_F1 rfl
    have b887_ : 0 ≤ F880_ 1 7 ∧ F880_ 1 7 ≤ 600 := gi_g g881_ rfl
    have b888_ : 0 ≤ K 1 6 ∧ K 1 6 ≤ 601 := gi_g hgK rfl
    exact ih616_ _ (by omega) (i + 1) (_) (_) F880_ rfl g881_ (fs_tr hf_F1 s882_ (by simp [fs_le]; try omega)) (by omega) (ca2_) (ca3_) (ca4_) (by omega) (c879_) (by rw [hsp, spa_step (by omega) (by omega) (by omega), ca1_]; rfl)
  have e889_ : F29_ 15 2 = 0 := by rw [q30_]; exact fl_u_eq
  have e890_ : F47_ 15 2 = 0 := (s49_ 15 2 rfl).trans (e889_)
  have e891_ : F66_ 15 2 = 0 := (s68_ 15 2 rfl).trans (e890_)
  have e892_ : F86_ 15 2 = 0 := (s88_ 15 2 rfl).trans (e891_)
  have e893_ : F107_ 15 2 = 0 := (s109_ 15 2 rfl).trans (e892_)
  have e894_ : F119_ 15 2 = 0 := by rw [q120_]; exact (fl_u_ne (by omega)).trans (e893_)
  have e895_ : F142_ 15 2 = 0 := (s144_ 15 2 rfl).trans (e894_)
  have e896_ : F166_ 15 2 = 0 := (s168_ 15 2 rfl).trans (e895_)
  have e897_ : F191_ 15 2 = 0 := (s193_ 15 2 rfl).trans (e896_)
  have e898_ : F543_ 15 2 = 0 := (s545_ 15 2 rfl).trans (e897_)
  have e899_ : F570_ 15 2 = 0 := (s572_ 15 2 rfl).trans (e898_)
  have e900_ : F609_ 15 2 = 0 := (s611_ 15 2 rfl).trans (e899_)
  have b901_ : 0 ≤ F609_ 1 7 ∧ F609_ 1 7 ≤ 600 := gi_g g610_ rfl
  have b902_ : 0 ≤ K 1 6 ∧ K 1 6 ≤ 601 := gi_g hgK rfl
  exact L615_ _ (0) ([]) ([]) F609_ rfl g610_ fs_refl (by omega) (rep_0 (e900_)) (rep_0 (e900_)) (by simp) (by omega) (fun j hj => absurd hj (by simp)) (by simp)

theorem tkz_wf (f : Nat → Int) : ∀ (k i : Nat) (s : Int), s < (i : Int) → (0 ≤ s → f s.toNat ≠ 32 ∧ f s.toNat ≠ 40 ∧ f s.toNat ≠ 41) → ∀ q ∈ tkz f k i s, (q.1 < q.2 ∧ q.2 ≤ i + k) ∧ ((f q.1 = 40 ∨ f q.1 = 41) → q.2 = q.1 + 1) ∧ f q.1 ≠ 32 := by
  intro k
  induction k with
  | zero =>
    intro i s hs hw q hq
    unfold tkz at hq
    split at hq
    · rename_i h0
      simp only [List.mem_singleton] at hq
      subst hq
      have := hw h0
      exact ⟨⟨by simp only; omega, by simp⟩, fun h => by simp only at h; omega, this.1⟩
    · simp at hq
  | succ k ih =>
    intro i s hs hw q hq
    unfold tkz at hq
    split at hq
    · rename_i hc
      rcases List.mem_append.mp hq with hq | hq
      · split at hq
        · rename_i h0
          simp only [List.mem_singleton] at hq
          subst hq
          have := hw h0
          exact ⟨⟨by simp only; omega, by simp only; omega⟩, fun h => by simp only at h; omega, this.1⟩
        · simp at hq
      · rcases List.mem_append.mp hq with hq | hq
        · split at hq
          · simp at hq
          · rename_i h32
            simp only [List.mem_singleton] at hq
            subst hq
            exact ⟨⟨by simp, by simp only; omega⟩, fun _ => rfl, h32⟩
        · have := ih (i + 1) (-1) (by omega) (by omega) q hq
          exact ⟨⟨this.1.1, by omega⟩, this.2⟩
    · rename_i hc
      by_cases h0 : s < 0
      · rw [if_pos h0] at hq
        have := ih (i + 1) i (by omega) (fun _ => by simp only [Int.toNat_natCast]; omega) q hq
        exact ⟨⟨this.1.1, by omega⟩, this.2⟩
      · rw [if_neg h0] at hq
        have := ih (i + 1) s (by omega) hw q hq
        exact ⟨⟨this.1.1, by omega⟩, this.2⟩
/-- tables of tokens: kinds and codes are those of the letters; a parenthesis stands alone -/
def tkw (K : fl_N) (f : Nat → Int) (n : Int) : Prop := ∀ p : Int, 0 ≤ p → p < K 1 6 - 1 → ((0 ≤ K 4 p.toNat ∧ K 4 p.toNat < K 5 p.toNat ∧ K 5 p.toNat ≤ n) ∧ K 3 p.toNat = tkk f (K 4 p.toNat).toNat (K 5 p.toNat).toNat ∧ K 6 p.toNat = tkc f (K 4 p.toNat).toNat (K 5 p.toNat).toNat) ∧ ((f (K 4 p.toNat).toNat = 40 ∨ f (K 4 p.toNat).toNat = 41) → K 5 p.toNat = K 4 p.toNat + 1)
theorem tkw_of {K : fl_N} {f : Nat → Int} {n : Int} {l : List (Nat × Nat)} (h : tkf K f n l) (hl : l = tkz f n.toNat 0 (-1)) (hn : 0 ≤ n) : tkw K f n := by
  intro p h0 h1
  have h2 : p.toNat < l.length := by have := h.2.1; omega
  have h3 := h.1 p.toNat l[p.toNat] (List.getElem?_eq_getElem h2)
  have h4 := tkz_wf f n.toNat 0 (-1) (by omega) (by omega) l[p.toNat] (by rw [← hl]; exact List.getElem_mem h2)
  obtain ⟨⟨a1, a2⟩, a3, a4⟩ := h3
  rw [a1, a2, a3, a4]
  simp only [Int.toNat_natCast]
  refine ⟨⟨⟨by omega, by omega, by omega⟩, by first | rfl | trivial, by first | rfl | trivial⟩, fun h5 => ?_⟩
  have := h4.2.1 h5
  omega
theorem tkk_le (f : Nat → Int) (s e : Nat) : 0 ≤ tkk f s e ∧ tkk f s e ≤ 4 := by
  unfold tkk
  repeat' split
  all_goals omega
theorem tko_of {K : fl_N} {f : Nat → Int} {n : Int} {l : List (Nat × Nat)} (h : tkf K f n l) (hw : tkw K f n) : tko K := by
  refine ⟨by have := h.2.1; omega, ?_, fun p h0 h1 => ?_⟩
  · rw [show (K 1 6 - 1).toNat = l.length by have := h.2.1; omega]
    exact h.2.2.1
  · have h9 := hw p h0 h1
    have h8 := tkk_le f (K 4 p.toNat).toNat (K 5 p.toNat).toNat
    exact ⟨by omega, by omega⟩
theorem spa_step {K : fl_N} {ts pl : List Int} {ps : List (List Int)} {al : List Int} {i p : Int} (h : i < 5) (hl : (al.length : Int) = i) (hk : i = 0 ∨ K 3 p.toNat = 0) : sp_actions K ts pl ps (5 - i).toNat al p = pb (sp_action K ts pl ps al p) (fun q => sp_actions K ts pl ps (5 - (i + 1)).toNat q.2 q.1) := by
  rw [show (5 - i).toNat = (5 - (i + 1)).toNat + 1 by omega]
  conv => lhs; unfold sp_actions
  rw [if_neg]
  rintro ⟨h1, h2⟩
  rcases hk with hk | hk
  · exact h1 (List.eq_nil_of_length_eq_zero (by omega))
  · exact h2 hk
theorem spa_z {K : fl_N} {ts pl : List Int} {ps : List (List Int)} {al : List Int} {i p : Int} (h : 5 ≤ i) : sp_actions K ts pl ps (5 - i).toNat al p = .inr (p, al) := by
  rw [show (5 - i).toNat = 0 by omega]
  rfl
theorem spa_e {K : fl_N} {ts pl : List Int} {ps : List (List Int)} {al : List Int} {m : Nat} {i p : Int} (hl : (al.length : Int) = i) (h : ¬ i = 0) (hk : ¬ K 3 p.toNat = 0) : sp_actions K ts pl ps m al p = .inr (p, al) := by
  cases m with
  | zero => rfl
  | succ m =>
    unfold sp_actions
    rw [if_pos ⟨fun e => by rw [e] at hl; simp at hl; omega, hk⟩]
theorem rep_0 {F : fl_N} {a b : Nat} (h : F b 2 = 0) : rep (F a) (F b 2) [] := ⟨h, fun j x hx => by simp at hx⟩
theorem ra_18x (j : Nat) (hj : j < 5) : nm (39 + 13 * j) 3 ∧ cl (39 + 13 * j + 3) 4 2 (-1) ∧ cl (39 + 13 * j + 8) 4 2 0 := by
  match j, hj with
  | 0, _ => exact ⟨nm_39, cl_42, cl_47⟩
  | 1, _ => exact ⟨nm_52, cl_55, cl_60⟩
  | 2, _ => exact ⟨nm_65, cl_68, cl_73⟩
  | 3, _ => exact ⟨nm_78, cl_81, cl_86⟩
  | 4, _ => exact ⟨nm_91, cl_94, cl_99⟩
  | n + 5, h => exact absurd h (by omega)

/- CheapPlanner$Reader.readDomain -/
abbrev pq_33 (G : Nat → Nat → Option Nat) (F : fl_N) (X : xi_H)  : Outcome → xi_H → Prop := gqv (fun A => ∃ F' : fl_N, fl_H sh_T G F' ++ X = A ∧ gi F' ∧ fs [(1, 1, 1, 1), (1, 1, 6, 8), (3, 6, 0, 100000), (7, 13, 0, 100000), (15, 17, 0, 100000), (21, 103, 0, 100000), (119, 119, 2, 3)] F F' ∧ (∃ K ts pl ps al, (gi K ∧ (∀ j, K 2 j = F 2 j) ∧ tkw K (F 2) (F 1 1)) ∧ (sp_dom K = .inr (ts, pl, ps, al) ∧ tkf K (F 2) (F 1 1) (tkz (F 2) (F 1 1).toNat 0 (-1))) ∧ (rep (F' 9) (F' 8 2) ts ∧ rep (F' 12) (F' 11 2) pl ∧ prd F' ps ∧ pl.length = ps.length) ∧ rep (F' 16) (F' 15 2) al ∧ di F' al.length ∧ F' 7 0 = sp_dnm K ∧ (dar F' (dom_d K) ∧ (dom_d K).length = al.length)) ∧ (F' 1 1 = 0) ∧ (F' 1 8 = 0)) (fun j A => ∃ F' : fl_N, (387 + X.length = j ∧ fl_H sh_T G F' ++ (X ++ [gx 14]) = A) ∧ gi F' ∧ fs [(1, 1, 1, 1), (1, 1, 6, 8), (3, 6, 0, 100000), (7, 13, 0, 100000), (15, 17, 0, 100000), (21, 103, 0, 100000), (119, 119, 2, 3)] F F' ∧ (∃ K e, (gi K ∧ (∀ j, K 2 j = F 2 j) ∧ tkw K (F 2) (F 1 1)) ∧ (sp_dom K = .inl e ∧ tkf K (F 2) (F 1 1) (tkz (F 2) (F 1 1).toNat 0 (-1))) ∧ F' 1 8 = e.1 + 10 * e.2) ∧ (F' 1 1 = 0))
theorem mc_33 {G : Nat → Nat → Option Nat} (hG : gg G) (F : fl_N) (X : xi_H) (hgi : gi F)  : fl_M xi_ms 33 12 236 [.ref 118] (fl_H sh_T G F ++ X) (pq_33 G F X) := by
  intro fr lo hfr hlo
  show fl_R xi_ms 33 fr lo 0 [(0, .ref 118)] [] _ _
  refine ga_aload_n (v := .ref 118) hm_33 rfl rfl rfl ?_
  refine ga_getr (b := 1) hm_33 rfl sc_118 rfl ?_
  refine gVv (nY := 5) (F := 2) (L := 53) (As := []) (b := 1) (rest := []) hm_33 rfl hm_22 rfl rfl (fl_ob sc_1) rfl rfl rfl rfl rfl (by omega) (by omega) (mc_22 hG F X hgi) (fun _ _ h => False.elim h) ?_
  have b2_ : 0 ≤ F 1 1 ∧ F 1 1 ≤ 600 := gi_g hgi rfl
  rintro A1_ ⟨F5_, hA_, g6_, s7_, c3_, c4_⟩
  subst hA_
  have g8_ : fs [(1, 1, 1, 1), (1, 1, 6, 8), (3, 6, 0, 100000), (7, 13, 0, 100000), (15, 17, 0, 100000), (21, 103, 0, 100000), (119, 119, 2, 3)] F F5_ := fs_tr fs_refl s7_ rfl
  obtain ⟨lt_, hlt_, htf_, hln_⟩ := c3_
  obtain ⟨K, hKe⟩ : ∃ K, K = F5_ := ⟨_, rfl⟩
  have hgK : gi K := by rw [hKe]; exact g6_
  have hK : tkh K F5_ := by rw [hKe]; exact ⟨fun _ _ _ => rfl, rfl⟩
  have htf : tkf K (F 2) (F 1 1) lt_ := by rw [hKe]; exact htf_
  have hbF : 0 ≤ F 1 1 ∧ F 1 1 ≤ 600 := gi_g hgi rfl
  have htw := tkw_of htf hlt_ hbF.1
  have hko := tko_of htf htw
  have hp0 : F5_ 1 7 = 0 := c4_.2.1
  have hK1 := hko.1
  have hkk : K 1 6 = F5_ 1 6 := by rw [hKe]
  have hcut : (∀ j, K 2 j = F 2 j) ∧ tkw K (F 2) (F 1 1) := ⟨fun j => by rw [hKe]; exact g8_ 2 j (by simp [fs_in]), htw⟩
  have hq0 : F5_ 1 8 = 0 := c4_.2.2
  refine ga_aload_n (v := .ref 118) hm_33 rfl rfl rfl ?_
  refine ga_getr (b := 7) hm_33 rfl sc_118 rfl ?_
  refine gIv (nY := 1) (F := 1) (L := 20) (As := []) (b := 7) (rest := []) hm_33 rfl hm_30 rfl rfl (fl_ob sc_7) rfl rfl rfl rfl rfl (by omega) (by omega) ?_
  intro f9_ l10_ h11_ h12_
  show fl_R xi_ms 30 f9_ l10_ 0 [(0, .ref 7)] [] _ _
  refine ga_aload_n (v := .ref 7) hm_30 rfl rfl rfl ?_
  refine ga_getr (b := 8) hm_30 rfl sc_7 rfl ?_
  refine gIv (nY := 1) (F := 0) (L := 0) (As := []) (b := 8) (rest := []) hm_30 rfl hm_27 rfl rfl (fl_ob sc_8) rfl rfl rfl rfl rfl (by omega) (by omega) ?_
  intro f13_ l14_ h15_ h16_
  show fl_R xi_ms 27 f13_ l14_ 0 [(0, .ref 8)] [] _ _
  refine ga_aload_n (v := .ref 8) hm_27 rfl rfl rfl ?_
  refine fl_iconst hm_27 rfl ?_
  refine ga_puti (z := 0) hm_27 rfl sc_8 rfl rfl ?_
  refine gr_v hm_27 rfl rfl ?_
  clear h15_ h16_ f13_ l14_
  refine ga_aload_n (v := .ref 7) hm_30 rfl rfl rfl ?_
  refine ga_getr (b := 11) hm_30 rfl sc_7 rfl ?_
  refine gIv (nY := 1) (F := 0) (L := 0) (As := []) (b := 11) (rest := []) hm_30 rfl hm_27 rfl rfl (fl_ob sc_11) rfl rfl rfl rfl rfl (by omega) (by omega) ?_
  intro f17_ l18_ h19_ h20_
  show fl_R xi_ms 27 f17_ l18_ 0 [(0, .ref 11)] [] _ _
  refine ga_aload_n (v := .ref 11) hm_27 rfl rfl rfl ?_
  refine fl_iconst hm_27 rfl ?_
  refine ga_puti (z := 0) hm_27 rfl sc_11 rfl rfl ?_
  refine gr_v hm_27 rfl rfl ?_
  clear h19_ h20_ f17_ l18_
  refine ga_aload_n (v := .ref 7) hm_30 rfl rfl rfl ?_
  refine ga_getr (b := 15) hm_30 rfl sc_7 rfl ?_
  refine gIv (nY := 1) (F := 0) (L := 0) (As := []) (b := 15) (rest := []) hm_30 rfl hm_27 rfl rfl (fl_ob sc_15) rfl rfl rfl rfl rfl (by omega) (by omega) ?_
  intro f21_ l22_ h23_ h24_
  show fl_R xi_ms 27 f21_ l22_ 0 [(0, .ref 15)] [] _ _
  refine ga_aload_n (v := .ref 15) hm_27 rfl rfl rfl ?_
  refine fl_iconst hm_27 rfl ?_
  refine ga_puti (z := 0) hm_27 rfl sc_15 rfl rfl ?_
  refine gr_v hm_27 rfl rfl ?_
  clear h23_ h24_ f21_ l22_
  refine gr_v hm_30 rfl rfl ?_
  clear h11_ h12_ f9_ l10_
  refine ga_aload_n (v := .ref 118) hm_33 rfl rfl rfl ?_
  refine ga_ldcs hm_33 rfl ?_
  refine gIv (nY := 2) (F := 8) (L := 144) (As := [.retAddr 0]) (b := 118) (rest := []) hm_33 rfl hm_34 rfl rfl (fl_ob sc_118) rfl rfl rfl rfl rfl (by omega) (by omega) ?_
  intro f25_ l26_ h27_ h28_
  show fl_R xi_ms 34 f25_ l26_ 0 [(0, .ref 118), (1, .retAddr 0)] [] _ _
  refine ga_aload_n (v := .ref 118) hm_34 rfl rfl rfl ?_
  refine ga_getr (b := 1) hm_34 rfl sc_118 rfl ?_
  refine fl_iconst hm_34 rfl ?_
  obtain ⟨F29_, q30_⟩ : ∃ F9_, F9_ = (fl_u (fl_u (fl_u F5_ 8 2 0) 11 2 0) 15 2 0) := ⟨_, rfl⟩
  rw [← q30_]
  have g31_ : gi F29_ := by rw [q30_]; exact gi_u (gi_u (gi_u (g6_) rfl (by omega) (by omega)) rfl (by omega) (by omega)) rfl (by omega) (by omega)
  have g32_ : fs [(1, 1, 1, 1), (1, 1, 6, 8), (3, 6, 0, 100000), (7, 13, 0, 100000), (15, 17, 0, 100000), (21, 103, 0, 100000), (119, 119, 2, 3)] F F29_ := by rw [q30_]; exact fs_u (fs_u (fs_u (g8_) rfl) rfl) rfl
  have tk33_ : tkh K F29_ := by rw [q30_]; exact tkh_u (tkh_u (tkh_u (hK) (by omega) (by omega)) (by omega) (by omega)) (by omega) (by omega)
  have e34_ : F29_ 1 7 = 0 := by rw [q30_]; exact (fl_u_ne (by omega)).trans ((fl_u_ne (by omega)).trans ((fl_u_ne (by omega)).trans (hp0)))
  refine gVv (nY := 2) (F := 7) (L := 121) (As := [.int (Int32.ofInt 0)]) (b := 1) (rest := []) hm_34 rfl hm_24 rfl rfl (fl_ob sc_1) rfl rfl rfl rfl rfl (by omega) (by omega) (mc_24 hG F29_ X g31_ (K) (0) hgK tk33_ hko (by omega) (by omega)) ?_ ?_
  ·
    rintro j_ A1_ ⟨F36_, ⟨hJ_, hA_⟩, g37_, s38_, c35_⟩
    subst hA_
    subst hJ_
    try simp only [e34_] at c35_
    refine ⟨rfl, ?_⟩
    refine gw_v ⟨rfl, ?_⟩
    refine gw_v ?_
    have g39_ : fs [(1, 1, 1, 1), (1, 1, 6, 8), (3, 6, 0, 100000), (7, 13, 0, 100000), (15, 17, 0, 100000), (21, 103, 0, 100000), (119, 119, 2, 3)] F F36_ := fs_tr g32_ s38_ rfl
    have b40_ : 0 ≤ F36_ 1 8 ∧ F36_ 1 8 ≤ 100000 := gi_g g37_ rfl
    have e41_ : F29_ 1 1 = F5_ 1 1 := by rw [q30_]; exact (fl_u_ne (by omega)).trans ((fl_u_ne (by omega)).trans (fl_u_ne (by omega)))
    have e42_ : F36_ 1 1 = F5_ 1 1 := (s38_ 1 1 rfl).trans (e41_)
    have b43_ : 0 ≤ F5_ 1 1 ∧ F5_ 1 1 ≤ 600 := gi_g g6_ rfl
    exact ⟨F36_, ⟨rfl, rfl⟩, g37_, g39_, (by obtain ⟨e, c1, c2⟩ := c35_; exact ⟨K, e, ⟨hgK, hcut⟩, ⟨(by simp [sp_dom, sp_open, sp_close, pf, pb, c1]), by rw [← hlt_]; exact htf⟩, c2⟩), (by omega)⟩
  rintro A1_ ⟨F47_, hA_, g48_, s49_, c45_, c46_⟩
  subst hA_
  have g50_ : fs [(1, 1, 1, 1), (1, 1, 6, 8), (3, 6, 0, 100000), (7, 13, 0, 100000), (15, 17, 0, 100000), (21, 103, 0, 100000), (119, 119, 2, 3)] F F47_ := fs_tr g32_ s49_ rfl
  have tk51_ : tkh K F47_ := tkh_fs tk33_ s49_ (fun r k h => (fs_n (by omega) rfl)) (fs_n (by omega) rfl)
  try simp only [e34_] at c45_
  refine ga_aload_n (v := .ref 118) hm_34 rfl rfl rfl ?_
  refine ga_getr (b := 1) hm_34 rfl sc_118 rfl ?_
  refine ga_ldcs hm_34 rfl ?_
  have b52_ : 0 ≤ F47_ 1 7 ∧ F47_ 1 7 ≤ 600 := gi_g g48_ rfl
  refine gVv (nY := 2) (F := 7) (L := 123) (As := [.retAddr 2]) (b := 1) (rest := []) hm_34 rfl hm_155 rfl rfl (fl_ob sc_1) rfl rfl rfl rfl rfl (by omega) (by omega) (mc_155 hG F47_ X g48_ (K) (2) ([100, 101, 102, 105, 110, 101]) hgK tk51_ hko (by omega) (rfl) (by decide)) ?_ ?_
  ·
    rintro j_ A1_ ⟨F54_, ⟨hJ_, hA_⟩, g55_, s56_, c53_⟩
    subst hA_
    subst hJ_
    refine ⟨rfl, ?_⟩
    refine gw_v ⟨rfl, ?_⟩
    refine gw_v ?_
    have g57_ : fs [(1, 1, 1, 1), (1, 1, 6, 8), (3, 6, 0, 100000), (7, 13, 0, 100000), (15, 17, 0, 100000), (21, 103, 0, 100000), (119, 119, 2, 3)] F F54_ := fs_tr g50_ s56_ rfl
    have b58_ : 0 ≤ F54_ 1 8 ∧ F54_ 1 8 ≤ 100000 := gi_g g55_ rfl
    have e59_ : F29_ 1 1 = F5_ 1 1 := by rw [q30_]; exact (fl_u_ne (by omega)).trans ((fl_u_ne (by omega)).trans (fl_u_ne (by omega)))
    have e60_ : F47_ 1 1 = F5_ 1 1 := (s49_ 1 1 rfl).trans (e59_)
    have e61_ : F54_ 1 1 = F5_ 1 1 := (s56_ 1 1 rfl).trans (e60_)
    have b62_ : 0 ≤ F5_ 1 1 ∧ F5_ 1 1 ≤ 600 := gi_g g6_ rfl
    exact ⟨F54_, ⟨rfl, rfl⟩, g55_, g57_, (by obtain ⟨e, c1, c2⟩ := c53_; exact ⟨K, e, ⟨hgK, hcut⟩, ⟨(by simp [sp_dom, sp_open, sp_close, pf, pb, c45_, c1]), by rw [← hlt_]; exact htf⟩, c2⟩), (by omega)⟩
  rintro A1_ ⟨F66_, hA_, g67_, s68_, c64_, c65_⟩
  subst hA_
  have g69_ : fs [(1, 1, 1, 1), (1, 1, 6, 8), (3, 6, 0, 100000), (7, 13, 0, 100000), (15, 17, 0, 100000), (21, 103, 0, 100000), (119, 119, 2, 3)] F F66_ := fs_tr g50_ s68_ rfl
  have tk70_ : tkh K F66_ := tkh_fs tk51_ s68_ (fun r k h => (fs_n (by omega) rfl)) (fs_n (by omega) rfl)
  refine ga_aload_n (v := .ref 118) hm_34 rfl rfl rfl ?_
  refine ga_getr (b := 1) hm_34 rfl sc_118 rfl ?_
  refine fl_iconst hm_34 rfl ?_
  have b71_ : 0 ≤ F66_ 1 7 ∧ F66_ 1 7 ≤ 600 := gi_g g67_ rfl
  refine gVv (nY := 2) (F := 7) (L := 121) (As := [.int (Int32.ofInt 0)]) (b := 1) (rest := []) hm_34 rfl hm_24 rfl rfl (fl_ob sc_1) rfl rfl rfl rfl rfl (by omega) (by omega) (mc_24 hG F66_ X g67_ (K) (0) hgK tk70_ hko (by omega) (by omega)) ?_ ?_
  ·
    rintro j_ A1_ ⟨F73_, ⟨hJ_, hA_⟩, g74_, s75_, c72_⟩
    subst hA_
    subst hJ_
    refine ⟨rfl, ?_⟩
    refine gw_v ⟨rfl, ?_⟩
    refine gw_v ?_
    have g76_ : fs [(1, 1, 1, 1), (1, 1, 6, 8), (3, 6, 0, 100000), (7, 13, 0, 100000), (15, 17, 0, 100000), (21, 103, 0, 100000), (119, 119, 2, 3)] F F73_ := fs_tr g69_ s75_ rfl
    have b77_ : 0 ≤ F73_ 1 8 ∧ F73_ 1 8 ≤ 100000 := gi_g g74_ rfl
    have e78_ : F29_ 1 1 = F5_ 1 1 := by rw [q30_]; exact (fl_u_ne (by omega)).trans ((fl_u_ne (by omega)).trans (fl_u_ne (by omega)))
    have e79_ : F47_ 1 1 = F5_ 1 1 := (s49_ 1 1 rfl).trans (e78_)
    have e80_ : F66_ 1 1 = F5_ 1 1 := (s68_ 1 1 rfl).trans (e79_)
    have e81_ : F73_ 1 1 = F5_ 1 1 := (s75_ 1 1 rfl).trans (e80_)
    have b82_ : 0 ≤ F5_ 1 1 ∧ F5_ 1 1 ≤ 600 := gi_g g6_ rfl
    exact ⟨F73_, ⟨rfl, rfl⟩, g74_, g76_, (by obtain ⟨e, c1, c2⟩ := c72_; exact ⟨K, e, ⟨hgK, hcut⟩, ⟨(by simp [sp_dom, sp_open, sp_close, pf, pb, c45_, c64_, c1]), by rw [← hlt_]; exact htf⟩, c2⟩), (by omega)⟩
  rintro A1_ ⟨F86_, hA_, g87_, s88_, c84_, c85_⟩
  subst hA_
  have g89_ : fs [(1, 1, 1, 1), (1, 1, 6, 8), (3, 6, 0, 100000), (7, 13, 0, 100000), (15, 17, 0, 100000), (21, 103, 0, 100000), (119, 119, 2, 3)] F F86_ := fs_tr g69_ s88_ rfl
  have tk90_ : tkh K F86_ := tkh_fs tk70_ s88_ (fun r k h => (fs_n (by omega) rfl)) (fs_n (by omega) rfl)
  refine ga_aload_n (v := .ref 118) hm_34 rfl rfl rfl ?_
  refine ga_getr (b := 1) hm_34 rfl sc_118 rfl ?_
  refine ga_aload_n (v := .retAddr 0) hm_34 rfl rfl rfl ?_
  have b91_ : 0 ≤ F86_ 1 7 ∧ F86_ 1 7 ≤ 600 := gi_g g87_ rfl
  refine gVv (nY := 2) (F := 7) (L := 123) (As := [.retAddr 0]) (b := 1) (rest := []) hm_34 rfl hm_155 rfl rfl (fl_ob sc_1) rfl rfl rfl rfl rfl (by omega) (by omega) (mc_155 hG F86_ X g87_ (K) (0) ([100, 111, 109, 97, 105, 110]) hgK tk90_ hko (by omega) (rfl) (by decide)) ?_ ?_
  ·
    rintro j_ A1_ ⟨F93_, ⟨hJ_, hA_⟩, g94_, s95_, c92_⟩
    subst hA_
    subst hJ_
    refine ⟨rfl, ?_⟩
    refine gw_v ⟨rfl, ?_⟩
    refine gw_v ?_
    have g96_ : fs [(1, 1, 1, 1), (1, 1, 6, 8), (3, 6, 0, 100000), (7, 13, 0, 100000), (15, 17, 0, 100000), (21, 103, 0, 100000), (119, 119, 2, 3)] F F93_ := fs_tr g89_ s95_ rfl
    have b97_ : 0 ≤ F93_ 1 8 ∧ F93_ 1 8 ≤ 100000 := gi_g g94_ rfl
    have e98_ : F29_ 1 1 = F5_ 1 1 := by rw [q30_]; exact (fl_u_ne (by omega)).trans ((fl_u_ne (by omega)).trans (fl_u_ne (by omega)))
    have e99_ : F47_ 1 1 = F5_ 1 1 := (s49_ 1 1 rfl).trans (e98_)
    have e100_ : F66_ 1 1 = F5_ 1 1 := (s68_ 1 1 rfl).trans (e99_)
    have e101_ : F86_ 1 1 = F5_ 1 1 := (s88_ 1 1 rfl).trans (e100_)
    have e102_ : F93_ 1 1 = F5_ 1 1 := (s95_ 1 1 rfl).trans (e101_)
    have b103_ : 0 ≤ F5_ 1 1 ∧ F5_ 1 1 ≤ 600 := gi_g g6_ rfl
    exact ⟨F93_, ⟨rfl, rfl⟩, g94_, g96_, (by obtain ⟨e, c1, c2⟩ := c92_; exact ⟨K, e, ⟨hgK, hcut⟩, ⟨(by simp [sp_dom, sp_open, sp_close, pf, pb, c45_, c64_, c84_, c1]), by rw [← hlt_]; exact htf⟩, c2⟩), (by omega)⟩
  rintro A1_ ⟨F107_, hA_, g108_, s109_, c105_, c106_⟩
  subst hA_
  have g110_ : fs [(1, 1, 1, 1), (1, 1, 6, 8), (3, 6, 0, 100000), (7, 13, 0, 100000), (15, 17, 0, 100000), (21, 103, 0, 100000), (119, 119, 2, 3)] F F107_ := fs_tr g89_ s109_ rfl
  have tk111_ : tkh K F107_ := tkh_fs tk90_ s109_ (fun r k h => (fs_n (by omega) rfl)) (fs_n (by omega) rfl)
  refine gr_v hm_34 rfl rfl ?_
  clear h27_ h28_ f25_ l26_
  refine ga_aload_n (v := .ref 118) hm_33 rfl rfl rfl ?_
  refine ga_getr (b := 7) hm_33 rfl sc_118 rfl ?_
  refine ga_aload_n (v := .ref 118) hm_33 rfl rfl rfl ?_
  refine ga_getr (b := 1) hm_33 rfl sc_118 rfl ?_
  refine gIl (nY := 1) (F := 0) (L := 0) (As := []) (b := 1) (rest := [.ref 7]) hm_33 rfl hm_149 rfl rfl (fl_ob sc_1) rfl rfl rfl rfl rfl (by omega) (by omega) ?_
  intro f112_ l113_ h114_ h115_
  show fl_R xi_ms 149 f112_ l113_ 0 [(0, .ref 1)] [] _ _
  refine ga_aload_n (v := .ref 1) hm_149 rfl rfl rfl ?_
  refine ga_getr (b := 6) hm_149 rfl sc_1 rfl ?_
  refine ga_aload_n (v := .ref 1) hm_149 rfl rfl rfl ?_
  have b116_ : 0 ≤ F107_ 1 7 ∧ F107_ 1 7 ≤ 600 := gi_g g108_ rfl
  refine ga_geti (z := F107_ 1 7) hm_149 rfl sc_1 rfl (rfl) ?_
  have e117_ : F107_ 6 (F107_ 1 7).toNat = K 6 (F107_ 1 7).toNat := tk111_.1 6 (F107_ 1 7).toNat (by omega)
  have b118_ : -9223372036854775808 ≤ K 6 (F107_ 1 7).toNat ∧ K 6 (F107_ 1 7).toNat ≤ 9223372036854775807 := gi_g hgK rfl
  refine ga_lald (z := F107_ 1 7) (w := K 6 (F107_ 1 7).toNat) hm_149 rfl sc_6 (by omega) (by omega) (by omega) (e117_) ?_
  refine gr_l hm_149 rfl rfl ?_
  clear h114_ h115_ f112_ l113_
  refine ga_putl hm_33 rfl sc_7 rfl rfl ?_
  refine ga_aload_n (v := .ref 118) hm_33 rfl rfl rfl ?_
  refine ga_getr (b := 1) hm_33 rfl sc_118 rfl ?_
  refine fl_iconst hm_33 rfl ?_
  obtain ⟨F119_, q120_⟩ : ∃ F9_, F9_ = (fl_u F107_ 7 0 (K 6 (F107_ 1 7).toNat)) := ⟨_, rfl⟩
  rw [← q120_]
  have g121_ : gi F119_ := by rw [q120_]; exact gi_u (g108_) rfl (by omega) (by omega)
  have g122_ : fs [(1, 1, 1, 1), (1, 1, 6, 8), (3, 6, 0, 100000), (7, 13, 0, 100000), (15, 17, 0, 100000), (21, 103, 0, 100000), (119, 119, 2, 3)] F F119_ := by rw [q120_]; exact fs_u (g110_) rfl
  have tk123_ : tkh K F119_ := by rw [q120_]; exact tkh_u (tk111_) (by omega) (by omega)
  have e124_ : F119_ 1 7 = F107_ 1 7 := by rw [q120_]; exact fl_u_ne (by omega)
  refine gVv (nY := 2) (F := 7) (L := 121) (As := [.int (Int32.ofInt 2)]) (b := 1) (rest := []) hm_33 rfl hm_24 rfl rfl (fl_ob sc_1) rfl rfl rfl rfl rfl (by omega) (by omega) (mc_24 hG F119_ X g121_ (K) (2) hgK tk123_ hko (by omega) (by omega)) ?_ ?_
  ·
    rintro j_ A1_ ⟨F126_, ⟨hJ_, hA_⟩, g127_, s128_, c125_⟩
    subst hA_
    subst hJ_
    try simp only [e124_] at c125_
    refine ⟨rfl, ?_⟩
    refine gw_v ?_
    have g129_ : fs [(1, 1, 1, 1), (1, 1, 6, 8), (3, 6, 0, 100000), (7, 13, 0, 100000), (15, 17, 0, 100000), (21, 103, 0, 100000), (119, 119, 2, 3)] F F126_ := fs_tr g122_ s128_ rfl
    have b130_ : 0 ≤ F126_ 1 8 ∧ F126_ 1 8 ≤ 100000 := gi_g g127_ rfl
    have e131_ : F29_ 1 1 = F5_ 1 1 := by rw [q30_]; exact (fl_u_ne (by omega)).trans ((fl_u_ne (by omega)).trans (fl_u_ne (by omega)))
    have e132_ : F47_ 1 1 = F5_ 1 1 := (s49_ 1 1 rfl).trans (e131_)
    have e133_ : F66_ 1 1 = F5_ 1 1 := (s68_ 1 1 rfl).trans (e132_)
    have e134_ : F86_ 1 1 = F5_ 1 1 := (s88_ 1 1 rfl).trans (e133_)
    have e135_ : F107_ 1 1 = F5_ 1 1 := (s109_ 1 1 rfl).trans (e134_)
    have e136_ : F119_ 1 1 = F5_ 1 1 := by rw [q120_]; exact (fl_u_ne (by omega)).trans (e135_)
    have e137_ : F126_ 1 1 = F5_ 1 1 := (s128_ 1 1 rfl).trans (e136_)
    have b138_ : 0 ≤ F5_ 1 1 ∧ F5_ 1 1 ≤ 600 := gi_g g6_ rfl
    exact ⟨F126_, ⟨rfl, rfl⟩, g127_, g129_, (by obtain ⟨e, c1, c2⟩ := c125_; exact ⟨K, e, ⟨hgK, hcut⟩, ⟨(by simp [sp_dom, sp_open, sp_close, pf, pb, c45_, c64_, c84_, c105_, c1]), by rw [← hlt_]; exact htf⟩, c2⟩), (by omega)⟩
  rintro A1_ ⟨F142_, hA_, g143_, s144_, c140_, c141_⟩
  subst hA_
  have g145_ : fs [(1, 1, 1, 1), (1, 1, 6, 8), (3, 6, 0, 100000), (7, 13, 0, 100000), (15, 17, 0, 100000), (21, 103, 0, 100000), (119, 119, 2, 3)] F F142_ := fs_tr g122_ s144_ rfl
  have tk146_ : tkh K F142_ := tkh_fs tk123_ s144_ (fun r k h => (fs_n (by omega) rfl)) (fs_n (by omega) rfl)
  try simp only [e124_] at c140_
  refine ga_aload_n (v := .ref 118) hm_33 rfl rfl rfl ?_
  refine ga_getr (b := 1) hm_33 rfl sc_118 rfl ?_
  refine fl_iconst hm_33 rfl ?_
  have b147_ : 0 ≤ F142_ 1 7 ∧ F142_ 1 7 ≤ 600 := gi_g g143_ rfl
  refine gVv (nY := 2) (F := 7) (L := 121) (As := [.int (Int32.ofInt 1)]) (b := 1) (rest := []) hm_33 rfl hm_24 rfl rfl (fl_ob sc_1) rfl rfl rfl rfl rfl (by omega) (by omega) (mc_24 hG F142_ X g143_ (K) (1) hgK tk146_ hko (by omega) (by omega)) ?_ ?_
  ·
    rintro j_ A1_ ⟨F149_, ⟨hJ_, hA_⟩, g150_, s151_, c148_⟩
    subst hA_
    subst hJ_
    refine ⟨rfl, ?_⟩
    refine gw_v ?_
    have g152_ : fs [(1, 1, 1, 1), (1, 1, 6, 8), (3, 6, 0, 100000), (7, 13, 0, 100000), (15, 17, 0, 100000), (21, 103, 0, 100000), (119, 119, 2, 3)] F F149_ := fs_tr g145_ s151_ rfl
    have b153_ : 0 ≤ F149_ 1 8 ∧ F149_ 1 8 ≤ 100000 := gi_g g150_ rfl
    have e154_ : F29_ 1 1 = F5_ 1 1 := by rw [q30_]; exact (fl_u_ne (by omega)).trans ((fl_u_ne (by omega)).trans (fl_u_ne (by omega)))
    have e155_ : F47_ 1 1 = F5_ 1 1 := (s49_ 1 1 rfl).trans (e154_)
    have e156_ : F66_ 1 1 = F5_ 1 1 := (s68_ 1 1 rfl).trans (e155_)
    have e157_ : F86_ 1 1 = F5_ 1 1 := (s88_ 1 1 rfl).trans (e156_)
    have e158_ : F107_ 1 1 = F5_ 1 1 := (s109_ 1 1 rfl).trans (e157_)
    have e159_ : F119_ 1 1 = F5_ 1 1 := by rw [q120_]; exact (fl_u_ne (by omega)).trans (e158_)
    have e160_ : F142_ 1 1 = F5_ 1 1 := (s144_ 1 1 rfl).trans (e159_)
    have e161_ : F149_ 1 1 = F5_ 1 1 := (s151_ 1 1 rfl).trans (e160_)
    have b162_ : 0 ≤ F5_ 1 1 ∧ F5_ 1 1 ≤ 600 := gi_g g6_ rfl
    exact ⟨F149_, ⟨rfl, rfl⟩, g150_, g152_, (by obtain ⟨e, c1, c2⟩ := c148_; exact ⟨K, e, ⟨hgK, hcut⟩, ⟨(by simp [sp_dom, sp_open, sp_close, pf, pb, c45_, c64_, c84_, c105_, c140_, c1]), by rw [← hlt_]; exact htf⟩, c2⟩), (by omega)⟩
  rintro A1_ ⟨F166_, hA_, g167_, s168_, c164_, c165_⟩
  subst hA_
  have g169_ : fs [(1, 1, 1, 1), (1, 1, 6, 8), (3, 6, 0, 100000), (7, 13, 0, 100000), (15, 17, 0, 100000), (21, 103, 0, 100000), (119, 119, 2, 3)] F F166_ := fs_tr g145_ s168_ rfl
  have tk170_ : tkh K F166_ := tkh_fs tk146_ s168_ (fun r k h => (fs_n (by omega) rfl)) (fs_n (by omega) rfl)
  refine ga_aload_n (v := .ref 118) hm_33 rfl rfl rfl ?_
  refine ga_getr (b := 1) hm_33 rfl sc_118 rfl ?_
  refine fl_iconst hm_33 rfl ?_
  have b171_ : 0 ≤ F166_ 1 7 ∧ F166_ 1 7 ≤ 600 := gi_g g167_ rfl
  refine gVv (nY := 2) (F := 7) (L := 121) (As := [.int (Int32.ofInt 0)]) (b := 1) (rest := []) hm_33 rfl hm_24 rfl rfl (fl_ob sc_1) rfl rfl rfl rfl rfl (by omega) (by omega) (mc_24 hG F166_ X g167_ (K) (0) hgK tk170_ hko (by omega) (by omega)) ?_ ?_
  ·
    rintro j_ A1_ ⟨F173_, ⟨hJ_, hA_⟩, g174_, s175_, c172_⟩
    subst hA_
    subst hJ_
    refine ⟨rfl, ?_⟩
    refine gw_v ?_
    have g176_ : fs [(1, 1, 1, 1), (1, 1, 6, 8), (3, 6, 0, 100000), (7, 13, 0, 100000), (15, 17, 0, 100000), (21, 103, 0, 100000), (119, 119, 2, 3)] F F173_ := fs_tr g169_ s175_ rfl
    have b177_ : 0 ≤ F173_ 1 8 ∧ F173_ 1 8 ≤ 100000 := gi_g g174_ rfl
    have e178_ : F29_ 1 1 = F5_ 1 1 := by rw [q30_]; exact (fl_u_ne (by omega)).trans ((fl_u_ne (by omega)).trans (fl_u_ne (by omega)))
    have e179_ : F47_ 1 1 = F5_ 1 1 := (s49_ 1 1 rfl).trans (e178_)
    have e180_ : F66_ 1 1 = F5_ 1 1 := (s68_ 1 1 rfl).trans (e179_)
    have e181_ : F86_ 1 1 = F5_ 1 1 := (s88_ 1 1 rfl).trans (e180_)
    have e182_ : F107_ 1 1 = F5_ 1 1 := (s109_ 1 1 rfl).trans (e181_)
    have e183_ : F119_ 1 1 = F5_ 1 1 := by rw [q120_]; exact (fl_u_ne (by omega)).trans (e182_)
    have e184_ : F142_ 1 1 = F5_ 1 1 := (s144_ 1 1 rfl).trans (e183_)
    have e185_ : F166_ 1 1 = F5_ 1 1 := (s168_ 1 1 rfl).trans (e184_)
    have e186_ : F173_ 1 1 = F5_ 1 1 := (s175_ 1 1 rfl).trans (e185_)
    have b187_ : 0 ≤ F5_ 1 1 ∧ F5_ 1 1 ≤ 600 := gi_g g6_ rfl
    exact ⟨F173_, ⟨rfl, rfl⟩, g174_, g176_, (by obtain ⟨e, c1, c2⟩ := c172_; exact ⟨K, e, ⟨hgK, hcut⟩, ⟨(by simp [sp_dom, sp_open, sp_close, pf, pb, c45_, c64_, c84_, c105_, c140_, c164_, c1]), by rw [← hlt_]; exact htf⟩, c2⟩), (by omega)⟩
  rintro A1_ ⟨F191_, hA_, g192_, s193_, c189_, c190_⟩
  subst hA_
  have g194_ : fs [(1, 1, 1, 1), (1, 1, 6, 8), (3, 6, 0, 100000), (7, 13, 0, 100000), (15, 17, 0, 100000), (21, 103, 0, 100000), (119, 119, 2, 3)] F F191_ := fs_tr g169_ s193_ rfl
  have tk195_ : tkh K F191_ := tkh_fs tk170_ s193_ (fun r k h => (fs_n (by omega) rfl)) (fs_n (by omega) rfl)
  refine ga_aload_n (v := .ref 118) hm_33 rfl rfl rfl ?_
  refine ga_getr (b := 1) hm_33 rfl sc_118 rfl ?_
  refine ga_ldcs hm_33 rfl ?_
  have b196_ : 0 ≤ F191_ 1 7 ∧ F191_ 1 7 ≤ 600 := gi_g g192_ rfl
  refine gVi (nY := 4) (F := 6) (L := 100) (As := [.retAddr 3]) (b := 1) (rest := []) hm_33 rfl hm_152 rfl rfl (fl_ob sc_1) rfl rfl rfl rfl rfl (by omega) (by omega) (mc_152 hG F191_ X g192_ (K) (3) ([58, 116, 121, 112, 101, 115]) hgK tk195_ hko (by omega) (rfl) (by decide)) (fun _ _ h => False.elim h) ?_
  rintro z197_ A1_ (⟨hA_, hz_, c198_⟩ | ⟨hA_, hz_, c199_⟩)
  ·
    subst hA_
    subst hz_
    refine fl_if_eq hm_33 rfl ⟨by omega, by omega⟩ (fun _ => ?_) (fun h => absurd (by omega) h)
    obtain ⟨ts, hts0⟩ : ∃ ts : List Int, ts = [] := ⟨_, rfl⟩
    refine ga_aload_n (v := .ref 118) hm_33 rfl rfl rfl ?_
    have e200_ : F29_ 8 2 = 0 := by rw [q30_]; exact (fl_u_ne (by omega)).trans ((fl_u_ne (by omega)).trans (fl_u_eq))
    have e201_ : F47_ 8 2 = 0 := (s49_ 8 2 rfl).trans (e200_)
    have e202_ : F66_ 8 2 = 0 := (s68_ 8 2 rfl).trans (e201_)
    have e203_ : F86_ 8 2 = 0 := (s88_ 8 2 rfl).trans (e202_)
    have e204_ : F107_ 8 2 = 0 := (s109_ 8 2 rfl).trans (e203_)
    have e205_ : F119_ 8 2 = 0 := by rw [q120_]; exact (fl_u_ne (by omega)).trans (e204_)
    have e206_ : F142_ 8 2 = 0 := (s144_ 8 2 rfl).trans (e205_)
    have e207_ : F166_ 8 2 = 0 := (s168_ 8 2 rfl).trans (e206_)
    have e208_ : F191_ 8 2 = 0 := (s193_ 8 2 rfl).trans (e207_)
    have e209_ : F29_ 11 2 = 0 := by rw [q30_]; exact (fl_u_ne (by omega)).trans (fl_u_eq)
    have e210_ : F47_ 11 2 = 0 := (s49_ 11 2 rfl).trans (e209_)
    have e211_ : F66_ 11 2 = 0 := (s68_ 11 2 rfl).trans (e210_)
    have e212_ : F86_ 11 2 = 0 := (s88_ 11 2 rfl).trans (e211_)
    have e213_ : F107_ 11 2 = 0 := (s109_ 11 2 rfl).trans (e212_)
    have e214_ : F119_ 11 2 = 0 := by rw [q120_]; exact (fl_u_ne (by omega)).trans (e213_)
    have e215_ : F142_ 11 2 = 0 := (s144_ 11 2 rfl).trans (e214_)
    have e216_ : F166_ 11 2 = 0 := (s168_ 11 2 rfl).trans (e215_)
    have e217_ : F191_ 11 2 = 0 := (s193_ 11 2 rfl).trans (e216_)
    refine gVv (nY := 2) (F := 10) (L := 188) (As := []) (b := 118) (rest := []) hm_33 rfl hm_124 rfl rfl (fl_ob sc_118) rfl rfl rfl rfl rfl (by omega) (by omega) (mc_124 hG F191_ X g192_ (K) (ts) hgK tk195_ hko (by omega) (by rw [hts0]; exact rep_0 (e208_)) (rep_0 (e217_)) (rep_0 (e217_))) ?_ ?_
    ·
      rintro j_ A1_ ⟨F219_, ⟨hJ_, hA_⟩, g220_, s221_, c218_⟩
      subst hA_
      subst hJ_
      refine ⟨rfl, ?_⟩
      refine gw_v ?_
      have g222_ : fs [(1, 1, 1, 1), (1, 1, 6, 8), (3, 6, 0, 100000), (7, 13, 0, 100000), (15, 17, 0, 100000), (21, 103, 0, 100000), (119, 119, 2, 3)] F F219_ := fs_tr g194_ s221_ rfl
      have b223_ : 0 ≤ F219_ 1 8 ∧ F219_ 1 8 ≤ 100000 := gi_g g220_ rfl
      have e224_ : F29_ 1 1 = F5_ 1 1 := by rw [q30_]; exact (fl_u_ne (by omega)).trans ((fl_u_ne (by omega)).trans (fl_u_ne (by omega)))
      have e225_ : F47_ 1 1 = F5_ 1 1 := (s49_ 1 1 rfl).trans (e224_)
      have e226_ : F66_ 1 1 = F5_ 1 1 := (s68_ 1 1 rfl).trans (e225_)
      have e227_ : F86_ 1 1 = F5_ 1 1 := (s88_ 1 1 rfl).trans (e226_)
      have e228_ : F107_ 1 1 = F5_ 1 1 := (s109_ 1 1 rfl).trans (e227_)
      have e229_ : F119_ 1 1 = F5_ 1 1 := by rw [q120_]; exact (fl_u_ne (by omega)).trans (e228_)
      have e230_ : F142_ 1 1 = F5_ 1 1 := (s144_ 1 1 rfl).trans (e229_)
      have e231_ : F166_ 1 1 = F5_ 1 1 := (s168_ 1 1 rfl).trans (e230_)
      have e232_ : F191_ 1 1 = F5_ 1 1 := (s193_ 1 1 rfl).trans (e231_)
      have e233_ : F219_ 1 1 = F5_ 1 1 := (s221_ 1 1 rfl).trans (e232_)
      have b234_ : 0 ≤ F5_ 1 1 ∧ F5_ 1 1 ≤ 600 := gi_g g6_ rfl
      exact ⟨F219_, ⟨rfl, rfl⟩, g220_, g222_, (by obtain ⟨e, c1, c2⟩ := c218_; exact ⟨K, e, ⟨hgK, hcut⟩, ⟨(by subst hts0; simp [sp_dom, sp_open, sp_close, pf, pb, c45_, c64_, c84_, c105_, c140_, c164_, c189_, c198_, c1]), by rw [← hlt_]; exact htf⟩, c2⟩), (by omega)⟩
    rintro A1_ ⟨F238_, hA_, g239_, s240_, c236_, c237_⟩
    subst hA_
    have g241_ : fs [(1, 1, 1, 1), (1, 1, 6, 8), (3, 6, 0, 100000), (7, 13, 0, 100000), (15, 17, 0, 100000), (21, 103, 0, 100000), (119, 119, 2, 3)] F F238_ := fs_tr g194_ s240_ rfl
    have tk242_ : tkh K F238_ := tkh_fs tk195_ s240_ (fun r k h => (fs_n (by omega) (fs_n (by omega) (fs_n (by omega) rfl)))) (fs_n (by omega) (fs_n (by omega) (fs_n (by omega) rfl)))
    have hb11 : 0 ≤ F238_ 11 2 ∧ F238_ 11 2 ≤ 6 := gi_g g239_ rfl
    obtain ⟨pl, ps, ⟨cq1_, cq2_⟩, cq3_, cq4_⟩ := c236_
    have hpl1 := cq3_.1
    refine fl_iconst hm_33 rfl ?_
    refine ga_istore_n (lv2 := [(1, .int (Int32.ofInt 0)), (0, .ref 118)]) hm_33 rfl (Nat.le_of_ble_eq_true rfl) rfl ?_
    have b246_ : 0 ≤ F238_ 1 7 ∧ F238_ 1 7 ≤ 600 := gi_g g239_ rfl
    have L244_ : ∀ (n243_ : Nat) (i : Int) (al : List Int) (alt : List Int) (D : List ad_T) (F1 : fl_N), (5 - i : Int).toNat = n243_ → (gi F1) → (fs [(1, 1, 7, 7), (15, 17, 0, 100000), (39, 103, 0, 100000), (119, 119, 2, 3)] F238_ F1) → (0 ≤ i ∧ i ≤ 5) → (rep (F1 16) (F1 15 2) al) → (rep (F1 17) (F1 15 2) alt) → ((al.length : Int) = i) → (0 ≤ F1 1 7 ∧ F1 1 7 ≤ K 1 6 - 1) → (di F1 i.toNat) → (sp_actions K ts pl ps 5 [] (F238_ 1 7) = sp_actions K ts pl ps (5 - i).toNat al (F1 1 7)) → ((D.length : Int) = i) → (dar F1 D) → (acts_d K ts pl ps 5 [] (F238_ 1 7) = D ++ acts_d K ts pl ps (5 - i).toNat al (F1 1 7)) → fl_R xi_ms 33 fr lo 88 [(1, .int (Int32.ofInt i)), (0, .ref 118)] [] (fl_H sh_T G F1 ++ X) (pq_33 G F X) := by
      intro n243_
      induction n243_ using Nat.strongRecOn with
      | ind n243_ ih245_ =>
      intro i al alt D F1 hn247_ hg_F1 hf_F1 hi hal hat hai hp1 hdi hsp hDn hD hDd
      have g248_ : fs [(1, 1, 1, 1), (1, 1, 6, 8), (3, 6, 0, 100000), (7, 13, 0, 100000), (15, 17, 0, 100000), (21, 103, 0, 100000), (119, 119, 2, 3)] F F1 := fs_tr g241_ hf_F1 rfl
      have tk249_ : tkh K F1 := tkh_fs tk242_ hf_F1 (fun r k h => (fs_n (by omega) (fs_n (by omega) (fs_n (by omega) (fs_n (by omega) rfl))))) (fs_n (by omega) (fs_n (by omega) (fs_n (by omega) (fs_n (by omega) rfl))))
      refine ga_iload_n (z := i) hm_33 rfl rfl ?_
      refine fl_iconst hm_33 rfl ?_
      refine fl_icmp_ge (a := i) (b := 5) hm_33 rfl ⟨by omega, by omega⟩ ⟨by omega, by omega⟩ (fun h250_ => ?_) (fun h251_ => ?_)
      ·
        refine ga_aload_n (v := .ref 118) hm_33 rfl rfl rfl ?_
        refine gIv (nY := 1) (F := 8) (L := 142) (As := []) (b := 118) (rest := []) hm_33 rfl hm_117 rfl rfl (fl_ob sc_118) rfl rfl rfl rfl rfl (by omega) (by omega) ?_
        intro f252_ l253_ h254_ h255_
        show fl_R xi_ms 117 f252_ l253_ 0 [(0, .ref 118)] [] _ _
        refine ga_aload_n (v := .ref 118) hm_117 rfl rfl rfl ?_
        refine ga_getr (b := 1) hm_117 rfl sc_118 rfl ?_
        refine fl_iconst hm_117 rfl ?_
        have b256_ : 0 ≤ F1 1 7 ∧ F1 1 7 ≤ 600 := gi_g hg_F1 rfl
        refine gVv (nY := 2) (F := 7) (L := 121) (As := [.int (Int32.ofInt 1)]) (b := 1) (rest := []) hm_117 rfl hm_24 rfl rfl (fl_ob sc_1) rfl rfl rfl rfl rfl (by omega) (by omega) (mc_24 hG F1 X hg_F1 (K) (1) hgK tk249_ hko (by omega) (by omega)) ?_ ?_
        ·
          rintro j_ A1_ ⟨F258_, ⟨hJ_, hA_⟩, g259_, s260_, c257_⟩
          subst hA_
          subst hJ_
          refine ⟨rfl, ?_⟩
          refine gw_v ⟨rfl, ?_⟩
          refine gw_v ?_
          have g261_ : fs [(1, 1, 1, 1), (1, 1, 6, 8), (3, 6, 0, 100000), (7, 13, 0, 100000), (15, 17, 0, 100000), (21, 103, 0, 100000), (119, 119, 2, 3)] F F258_ := fs_tr g248_ s260_ rfl
          have b262_ : 0 ≤ F258_ 1 8 ∧ F258_ 1 8 ≤ 100000 := gi_g g259_ rfl
          have e263_ : F29_ 1 1 = F5_ 1 1 := by rw [q30_]; exact (fl_u_ne (by omega)).trans ((fl_u_ne (by omega)).trans (fl_u_ne (by omega)))
          have e264_ : F47_ 1 1 = F5_ 1 1 := (s49_ 1 1 rfl).trans (e263_)
          have e265_ : F66_ 1 1 = F5_ 1 1 := (s68_ 1 1 rfl).trans (e264_)
          have e266_ : F86_ 1 1 = F5_ 1 1 := (s88_ 1 1 rfl).trans (e265_)
          have e267_ : F107_ 1 1 = F5_ 1 1 := (s109_ 1 1 rfl).trans (e266_)
          have e268_ : F119_ 1 1 = F5_ 1 1 := by rw [q120_]; exact (fl_u_ne (by omega)).trans (e267_)
          have e269_ : F142_ 1 1 = F5_ 1 1 := (s144_ 1 1 rfl).trans (e268_)
          have e270_ : F166_ 1 1 = F5_ 1 1 := (s168_ 1 1 rfl).trans (e269_)
          have e271_ : F191_ 1 1 = F5_ 1 1 := (s193_ 1 1 rfl).trans (e270_)
          have e272_ : F238_ 1 1 = F5_ 1 1 := (s240_ 1 1 rfl).trans (e271_)
          have e273_ : F1 1 1 = F5_ 1 1 := (hf_F1 1 1 rfl).trans (e272_)
          have e274_ : F258_ 1 1 = F5_ 1 1 := (s260_ 1 1 rfl).trans (e273_)
          have b275_ : 0 ≤ F5_ 1 1 ∧ F5_ 1 1 ≤ 600 := gi_g g6_ rfl
          exact ⟨F258_, ⟨rfl, rfl⟩, g259_, g261_, (by obtain ⟨e, c1, c2⟩ := c257_; exact ⟨K, e, ⟨hgK, hcut⟩, ⟨(by have hx := hsp.trans (spa_z (by omega)); subst hts0; simp [sp_dom, sp_open, sp_close, pf, pb, c45_, c64_, c84_, c105_, c140_, c164_, c189_, c198_, cq1_, hx, c1]), by rw [← hlt_]; exact htf⟩, c2⟩), (by omega)⟩
        rintro A1_ ⟨F279_, hA_, g280_, s281_, c277_, c278_⟩
        subst hA_
        have g282_ : fs [(1, 1, 1, 1), (1, 1, 6, 8), (3, 6, 0, 100000), (7, 13, 0, 100000), (15, 17, 0, 100000), (21, 103, 0, 100000), (119, 119, 2, 3)] F F279_ := fs_tr g248_ s281_ rfl
        have tk283_ : tkh K F279_ := tkh_fs tk249_ s281_ (fun r k h => (fs_n (by omega) rfl)) (fs_n (by omega) rfl)
        refine ga_aload_n (v := .ref 118) hm_117 rfl rfl rfl ?_
        refine ga_getr (b := 1) hm_117 rfl sc_118 rfl ?_
        refine fl_iconst hm_117 rfl ?_
        have b284_ : 0 ≤ F279_ 1 7 ∧ F279_ 1 7 ≤ 600 := gi_g g280_ rfl
        refine gVv (nY := 2) (F := 7) (L := 121) (As := [.int (Int32.ofInt 5)]) (b := 1) (rest := []) hm_117 rfl hm_24 rfl rfl (fl_ob sc_1) rfl rfl rfl rfl rfl (by omega) (by omega) (mc_24 hG F279_ X g280_ (K) (5) hgK tk283_ hko (by omega) (by omega)) ?_ ?_
        ·
          rintro j_ A1_ ⟨F286_, ⟨hJ_, hA_⟩, g287_, s288_, c285_⟩
          subst hA_
          subst hJ_
          refine ⟨rfl, ?_⟩
          refine gw_v ⟨rfl, ?_⟩
          refine gw_v ?_
          have g289_ : fs [(1, 1, 1, 1), (1, 1, 6, 8), (3, 6, 0, 100000), (7, 13, 0, 100000), (15, 17, 0, 100000), (21, 103, 0, 100000), (119, 119, 2, 3)] F F286_ := fs_tr g282_ s288_ rfl
          have b290_ : 0 ≤ F286_ 1 8 ∧ F286_ 1 8 ≤ 100000 := gi_g g287_ rfl
          have e291_ : F29_ 1 1 = F5_ 1 1 := by rw [q30_]; exact (fl_u_ne (by omega)).trans ((fl_u_ne (by omega)).trans (fl_u_ne (by omega)))
          have e292_ : F47_ 1 1 = F5_ 1 1 := (s49_ 1 1 rfl).trans (e291_)
          have e293_ : F66_ 1 1 = F5_ 1 1 := (s68_ 1 1 rfl).trans (e292_)
          have e294_ : F86_ 1 1 = F5_ 1 1 := (s88_ 1 1 rfl).trans (e293_)
          have e295_ : F107_ 1 1 = F5_ 1 1 := (s109_ 1 1 rfl).trans (e294_)
          have e296_ : F119_ 1 1 = F5_ 1 1 := by rw [q120_]; exact (fl_u_ne (by omega)).trans (e295_)
          have e297_ : F142_ 1 1 = F5_ 1 1 := (s144_ 1 1 rfl).trans (e296_)
          have e298_ : F166_ 1 1 = F5_ 1 1 := (s168_ 1 1 rfl).trans (e297_)
          have e299_ : F191_ 1 1 = F5_ 1 1 := (s193_ 1 1 rfl).trans (e298_)
          have e300_ : F238_ 1 1 = F5_ 1 1 := (s240_ 1 1 rfl).trans (e299_)
          have e301_ : F1 1 1 = F5_ 1 1 := (hf_F1 1 1 rfl).trans (e300_)
          have e302_ : F279_ 1 1 = F5_ 1 1 := (s281_ 1 1 rfl).trans (e301_)
          have e303_ : F286_ 1 1 = F5_ 1 1 := (s288_ 1 1 rfl).trans (e302_)
          have b304_ : 0 ≤ F5_ 1 1 ∧ F5_ 1 1 ≤ 600 := gi_g g6_ rfl
          exact ⟨F286_, ⟨rfl, rfl⟩, g287_, g289_, (by obtain ⟨e, c1, c2⟩ := c285_; exact ⟨K, e, ⟨hgK, hcut⟩, ⟨(by have hx := hsp.trans (spa_z (by omega)); subst hts0; simp [sp_dom, sp_open, sp_close, pf, pb, c45_, c64_, c84_, c105_, c140_, c164_, c189_, c198_, cq1_, c277_, hx, c1]), by rw [← hlt_]; exact htf⟩, c2⟩), (by omega)⟩
        rintro A1_ ⟨F308_, hA_, g309_, s310_, c306_, c307_⟩
        subst hA_
        have g311_ : fs [(1, 1, 1, 1), (1, 1, 6, 8), (3, 6, 0, 100000), (7, 13, 0, 100000), (15, 17, 0, 100000), (21, 103, 0, 100000), (119, 119, 2, 3)] F F308_ := fs_tr g282_ s310_ rfl
        have tk312_ : tkh K F308_ := tkh_fs tk283_ s310_ (fun r k h => (fs_n (by omega) rfl)) (fs_n (by omega) rfl)
        refine gr_v hm_117 rfl rfl ?_
        clear h254_ h255_ f252_ l253_
        refine gr_v hm_33 rfl rfl ?_
        have e313_ : F1 11 2 = F238_ 11 2 := (hf_F1 11 2 rfl).trans (rfl)
        have e314_ : F279_ 11 2 = F238_ 11 2 := (s281_ 11 2 rfl).trans (e313_)
        have e315_ : F308_ 11 2 = F238_ 11 2 := (s310_ 11 2 rfl).trans (e314_)
        have b316_ : 0 ≤ F238_ 11 2 ∧ F238_ 11 2 ≤ 6 := gi_g g239_ rfl
        have e317_ : F279_ 15 2 = F1 15 2 := (s281_ 15 2 rfl).trans (rfl)
        have e318_ : F308_ 15 2 = F1 15 2 := (s310_ 15 2 rfl).trans (e317_)
        have b319_ : 0 ≤ F1 15 2 ∧ F1 15 2 ≤ 5 := gi_g hg_F1 rfl
        have e320_ : F119_ 7 0 = K 6 (F107_ 1 7).toNat := by rw [q120_]; exact fl_u_eq
        have e321_ : F142_ 7 0 = K 6 (F107_ 1 7).toNat := (s144_ 7 0 rfl).trans (e320_)
        have e322_ : F166_ 7 0 = K 6 (F107_ 1 7).toNat := (s168_ 7 0 rfl).trans (e321_)
        have e323_ : F191_ 7 0 = K 6 (F107_ 1 7).toNat := (s193_ 7 0 rfl).trans (e322_)
        have e324_ : F238_ 7 0 = K 6 (F107_ 1 7).toNat := (s240_ 7 0 rfl).trans (e323_)
        have e325_ : F1 7 0 = K 6 (F107_ 1 7).toNat := (hf_F1 7 0 rfl).trans (e324_)
        have e326_ : F279_ 7 0 = K 6 (F107_ 1 7).toNat := (s281_ 7 0 rfl).trans (e325_)
        have e327_ : F308_ 7 0 = K 6 (F107_ 1 7).toNat := (s310_ 7 0 rfl).trans (e326_)
        have e328_ : F238_ 8 2 = 0 := (s240_ 8 2 rfl).trans (e208_)
        have e329_ : F1 8 2 = 0 := (hf_F1 8 2 rfl).trans (e328_)
        have e330_ : F279_ 8 2 = 0 := (s281_ 8 2 rfl).trans (e329_)
        have e331_ : F308_ 8 2 = 0 := (s310_ 8 2 rfl).trans (e330_)
        have e332_ : F29_ 1 1 = F5_ 1 1 := by rw [q30_]; exact (fl_u_ne (by omega)).trans ((fl_u_ne (by omega)).trans (fl_u_ne (by omega)))
        have e333_ : F47_ 1 1 = F5_ 1 1 := (s49_ 1 1 rfl).trans (e332_)
        have e334_ : F66_ 1 1 = F5_ 1 1 := (s68_ 1 1 rfl).trans (e333_)
        have e335_ : F86_ 1 1 = F5_ 1 1 := (s88_ 1 1 rfl).trans (e334_)
        have e336_ : F107_ 1 1 = F5_ 1 1 := (s109_ 1 1 rfl).trans (e335_)
        have e337_ : F119_ 1 1 = F5_ 1 1 := by rw [q120_]; exact (fl_u_ne (by omega)).trans (e336_)
        have e338_ : F142_ 1 1 = F5_ 1 1 := (s144_ 1 1 rfl).trans (e337_)
        have e339_ : F166_ 1 1 = F5_ 1 1 := (s168_ 1 1 rfl).trans (e338_)
        have e340_ : F191_ 1 1 = F5_ 1 1 := (s193_ 1 1 rfl).trans (e339_)
        have e341_ : F238_ 1 1 = F5_ 1 1 := (s240_ 1 1 rfl).trans (e340_)
        have e342_ : F1 1 1 = F5_ 1 1 := (hf_F1 1 1 rfl).trans (e341_)
        have e343_ : F279_ 1 1 = F5_ 1 1 := (s281_ 1 1 rfl).trans (e342_)
        have e344_ : F308_ 1 1 = F5_ 1 1 := (s310_ 1 1 rfl).trans (e343_)
        have b345_ : 0 ≤ F5_ 1 1 ∧ F5_ 1 1 ≤ 600 := gi_g g6_ rfl
        have e346_ : F29_ 1 8 = 0 := by rw [q30_]; exact (fl_u_ne (by omega)).trans ((fl_u_ne (by omega)).trans ((fl_u_ne (by omega)).trans (hq0)))
        have e347_ : F47_ 1 8 = 0 := (s49_ 1 8 rfl).trans (e346_)
        have e348_ : F66_ 1 8 = 0 := (s68_ 1 8 rfl).trans (e347_)
        have e349_ : F86_ 1 8 = 0 := (s88_ 1 8 rfl).trans (e348_)
        have e350_ : F107_ 1 8 = 0 := (s109_ 1 8 rfl).trans (e349_)
        have e351_ : F119_ 1 8 = 0 := by rw [q120_]; exact (fl_u_ne (by omega)).trans (e350_)
        have e352_ : F142_ 1 8 = 0 := (s144_ 1 8 rfl).trans (e351_)
        have e353_ : F166_ 1 8 = 0 := (s168_ 1 8 rfl).trans (e352_)
        have e354_ : F191_ 1 8 = 0 := (s193_ 1 8 rfl).trans (e353_)
        have e355_ : F238_ 1 8 = 0 := (s240_ 1 8 rfl).trans (e354_)
        have e356_ : F1 1 8 = 0 := (hf_F1 1 8 rfl).trans (e355_)
        have e357_ : F279_ 1 8 = 0 := (s281_ 1 8 rfl).trans (e356_)
        have e358_ : F308_ 1 8 = 0 := (s310_ 1 8 rfl).trans (e357_)
        exact ⟨F308_, rfl, g309_, g311_, (⟨K, ts, pl, ps, al, ⟨hgK, hcut⟩, ⟨by have hx := hsp.trans (spa_z (by omega)); subst hts0; simp [sp_dom, sp_open, sp_close, pf, pb, c45_, c64_, c84_, c105_, c140_, c164_, c189_, c198_, cq1_, c277_, c306_, hx], by rw [← hlt_]; exact htf⟩, ⟨by rw [hts0]; exact rep_0 (e331_), (rep_fs (rep_fs (rep_fs cq3_ hf_F1 (fun _ => (fs_n (by omega) (fs_n (by omega) (fs_n (by omega) (fs_n (by omega) rfl))))) (fs_n (by omega) (fs_n (by omega) (fs_n (by omega) (fs_n (by omega) rfl))))) s281_ (fun _ => (fs_n (by omega) rfl)) (fs_n (by omega) rfl)) s310_ (fun _ => (fs_n (by omega) rfl)) (fs_n (by omega) rfl)), (prd_fs (prd_fs (prd_fs cq4_ hf_F1 (fun _ _ _ => (fs_n (by omega) (fs_n (by omega) (fs_n (by omega) (fs_n (by omega) rfl)))))) s281_ (fun _ _ _ => (fs_n (by omega) rfl))) s310_ (fun _ _ _ => (fs_n (by omega) rfl))), cq2_⟩, (rep_fs (rep_fs hal s281_ (fun _ => (fs_n (by omega) rfl)) (fs_n (by omega) rfl)) s310_ (fun _ => (fs_n (by omega) rfl)) (fs_n (by omega) rfl)), (by rw [show al.length = i.toNat by omega]; exact (di_fs (di_fs hdi s281_ (fun _ _ _ => (fs_n (by omega) rfl))) s310_ (fun _ _ _ => (fs_n (by omega) rfl)))), Eq.trans (e327_) (by simp [sp_dnm, sp_open, pb, c45_, c64_, c84_, c105_]), (by have hdd_ : dom_d K = D := (dom_dd (ts := ts) (pl := pl) (ps := ps) (by subst hts0; simp [sp_head, sp_open, sp_close, pf, pb, c45_, c64_, c84_, c105_, c140_, c164_, c189_, c198_, cq1_, c277_, c306_])).trans (hDd.trans (by rw [ad_z (by omega), List.append_nil])); rw [hdd_]; exact ⟨(dar_fs (dar_fs hD s281_ (fun _ _ _ => (fs_n (by omega) rfl))) s310_ (fun _ _ _ => (fs_n (by omega) rfl))), by omega⟩)⟩), (by omega), (e358_)⟩
      refine ga_iload_n (z := i) hm_33 rfl rfl ?_
      refine fl_if_eq (a := i) hm_33 rfl ⟨by omega, by omega⟩ (fun h359_ => ?_) (fun h360_ => ?_)
      ·
        refine ga_aload_n (v := .ref 118) hm_33 rfl rfl rfl ?_
        refine ga_iload_n (z := i) hm_33 rfl rfl ?_
        obtain ⟨Ac, hAc⟩ : ∃ Ac : Nat, Ac = 39 + 13 * i.toNat := ⟨_, rfl⟩
        have b361_ : 0 ≤ F1 1 7 ∧ F1 1 7 ≤ 600 := gi_g hg_F1 rfl
        have e362_ : F238_ 8 2 = 0 := (s240_ 8 2 rfl).trans (e208_)
        have e363_ : F1 8 2 = 0 := (hf_F1 8 2 rfl).trans (e362_)
        refine gVv (nY := 2) (F := 11) (L := 215) (As := [.int (Int32.ofInt i)]) (b := 118) (rest := []) hm_33 rfl hm_119 rfl rfl (fl_ob sc_118) rfl rfl rfl rfl rfl (by omega) (by omega) (mc_119 hG F1 X hg_F1 (K) (Ac) (i) (ts) (pl) (al) (alt) (ps) hgK tk249_ hko (by omega) (hAc) (by omega) (by rw [hAc]; exact (ra_18x _ (by omega)).1) (by rw [hAc]; exact (ra_18x _ (by omega)).2.1) (by rw [hAc]; exact (ra_18x _ (by omega)).2.2) (by rw [hts0]; exact rep_0 (e363_)) ((rep_fs cq3_ hf_F1 (fun _ => (fs_n (by omega) (fs_n (by omega) (fs_n (by omega) (fs_n (by omega) rfl))))) (fs_n (by omega) (fs_n (by omega) (fs_n (by omega) (fs_n (by omega) rfl)))))) ((prd_fs cq4_ hf_F1 (fun _ _ _ => (fs_n (by omega) (fs_n (by omega) (fs_n (by omega) (fs_n (by omega) rfl))))))) (cq2_) (hal) (hat) (by omega) (hdi)) ?_ ?_
        ·
          rintro j_ A1_ ⟨F365_, ⟨hJ_, hA_⟩, g366_, s367_, c364_⟩
          subst hA_
          subst hJ_
          refine ⟨rfl, ?_⟩
          refine gw_v ?_
          have g368_ : fs [(1, 1, 1, 1), (1, 1, 6, 8), (3, 6, 0, 100000), (7, 13, 0, 100000), (15, 17, 0, 100000), (21, 103, 0, 100000), (119, 119, 2, 3)] F F365_ := fs_tr g248_ s367_ (by simp [fs_le]; try omega)
          have b369_ : 0 ≤ F365_ 1 8 ∧ F365_ 1 8 ≤ 100000 := gi_g g366_ rfl
          have e370_ : F29_ 1 1 = F5_ 1 1 := by rw [q30_]; exact (fl_u_ne (by omega)).trans ((fl_u_ne (by omega)).trans (fl_u_ne (by omega)))
          have e371_ : F47_ 1 1 = F5_ 1 1 := (s49_ 1 1 rfl).trans (e370_)
          have e372_ : F66_ 1 1 = F5_ 1 1 := (s68_ 1 1 rfl).trans (e371_)
          have e373_ : F86_ 1 1 = F5_ 1 1 := (s88_ 1 1 rfl).trans (e372_)
          have e374_ : F107_ 1 1 = F5_ 1 1 := (s109_ 1 1 rfl).trans (e373_)
          have e375_ : F119_ 1 1 = F5_ 1 1 := by rw [q120_]; exact (fl_u_ne (by omega)).trans (e374_)
          have e376_ : F142_ 1 1 = F5_ 1 1 := (s144_ 1 1 rfl).trans (e375_)
          have e377_ : F166_ 1 1 = F5_ 1 1 := (s168_ 1 1 rfl).trans (e376_)
          have e378_ : F191_ 1 1 = F5_ 1 1 := (s193_ 1 1 rfl).trans (e377_)
          have e379_ : F238_ 1 1 = F5_ 1 1 := (s240_ 1 1 rfl).trans (e378_)
          have e380_ : F1 1 1 = F5_ 1 1 := (hf_F1 1 1 rfl).trans (e379_)
          have e381_ : F365_ 1 1 = F5_ 1 1 := (s367_ 1 1 (fs_n (by omega) (fs_n (by omega) (fs_n (by omega) (fs_n (by omega) rfl))))).trans (e380_)
          have b382_ : 0 ≤ F5_ 1 1 ∧ F5_ 1 1 ≤ 600 := gi_g g6_ rfl
          exact ⟨F365_, ⟨rfl, rfl⟩, g366_, g368_, (by obtain ⟨e, c1, c2⟩ := c364_; exact ⟨K, e, ⟨hgK, hcut⟩, ⟨(by have hx := hsp; rw [spa_step (by omega) (by omega) (by omega), c1] at hx; simp only [pb] at hx; subst hts0; simp [sp_dom, sp_open, sp_close, pf, pb, c45_, c64_, c84_, c105_, c140_, c164_, c189_, c198_, cq1_, hx]), by rw [← hlt_]; exact htf⟩, c2⟩), (by omega)⟩
        rintro A1_ ⟨F388_, hA_, g389_, s390_, c384_, c385_, c386_, c387_⟩
        subst hA_
        have g391_ : fs [(1, 1, 1, 1), (1, 1, 6, 8), (3, 6, 0, 100000), (7, 13, 0, 100000), (15, 17, 0, 100000), (21, 103, 0, 100000), (119, 119, 2, 3)] F F388_ := fs_tr g248_ s390_ (by simp [fs_le]; try omega)
        have tk392_ : tkh K F388_ := tkh_fs tk249_ s390_ (fun r k h => (fs_n (by omega) (fs_n (by omega) (fs_n (by omega) (fs_n (by omega) rfl))))) (fs_n (by omega) (fs_n (by omega) (fs_n (by omega) (fs_n (by omega) rfl))))
        obtain ⟨al2_, alt2_, ⟨ca1_, ca4_⟩, ca2_, ca3_⟩ := c384_
        refine ga_inc (a := i) (c := i + 1) (lv2 := [(1, .int (Int32.ofInt (i + 1))), (0, .ref 118)]) hm_33 rfl rfl (Nat.le_of_ble_eq_true rfl) rfl rfl ?_
        refine fl_goto hm_33 rfl ?_
        have b393_ : 0 ≤ F388_ 15 2 ∧ F388_ 15 2 ≤ 5 := gi_g g389_ rfl
        have b394_ : 0 ≤ F1 15 2 ∧ F1 15 2 ≤ 5 := gi_g hg_F1 rfl
        have b395_ : 0 ≤ F388_ 1 7 ∧ F388_ 1 7 ≤ 600 := gi_g g389_ rfl
        have b396_ : 0 ≤ K 1 6 ∧ K 1 6 ≤ 601 := gi_g hgK rfl
        exact ih245_ _ (by omega) (i + 1) (_) (_) (_) F388_ rfl g389_ (fs_tr hf_F1 s390_ (by simp [fs_le]; try omega)) (by omega) (ca2_) (ca3_) (ca4_) (by omega) (c386_) (by rw [hsp, spa_step (by omega) (by omega) (by omega), ca1_]; rfl) (by simp; omega) (dar_add (dar_fs hD s390_ (fun _ _ _ => (fs_n (by omega) (fs_n (by omega) (fs_n (by omega) (fs_n (by omega) rfl)))))) (by omega) c387_) (by rw [hDd, ad_step (by omega) (by omega) (by omega) ca1_, List.append_cons])
      refine ga_aload_n (v := .ref 118) hm_33 rfl rfl rfl ?_
      refine ga_getr (b := 1) hm_33 rfl sc_118 rfl ?_
      refine fl_iconst hm_33 rfl ?_
      refine gIi (nY := 2) (F := 0) (L := 0) (As := [.int (Int32.ofInt 0)]) (b := 1) (rest := []) hm_33 rfl hm_153 rfl rfl (fl_ob sc_1) rfl rfl rfl rfl rfl (by omega) (by omega) ?_
      intro f397_ l398_ h399_ h400_
      show fl_R xi_ms 153 f397_ l398_ 0 [(0, .ref 1), (1, .int (Int32.ofInt 0))] [] _ _
      refine ga_aload_n (v := .ref 1) hm_153 rfl rfl rfl ?_
      refine ga_getr (b := 3) hm_153 rfl sc_1 rfl ?_
      refine ga_aload_n (v := .ref 1) hm_153 rfl rfl rfl ?_
      have b401_ : 0 ≤ F1 1 7 ∧ F1 1 7 ≤ 600 := gi_g hg_F1 rfl
      refine ga_geti (z := F1 1 7) hm_153 rfl sc_1 rfl (rfl) ?_
      have e402_ : F1 3 (F1 1 7).toNat = K 3 (F1 1 7).toNat := tk249_.1 3 (F1 1 7).toNat (by omega)
      have b403_ : 0 ≤ K 3 (F1 1 7).toNat ∧ K 3 (F1 1 7).toNat ≤ 5 := gi_g hgK rfl
      refine ga_iald (z := F1 1 7) (w := K 3 (F1 1 7).toNat) hm_153 rfl sc_3 (by omega) (by omega) (by omega) (e402_) ?_
      refine ga_iload_n (z := 0) hm_153 rfl rfl ?_
      refine fx_icmp_ne (a := K 3 (F1 1 7).toNat) (b := 0) hm_153 rfl ⟨by omega, by omega⟩ ⟨by omega, by omega⟩ (fun h404_ => ?_) (fun h405_ => ?_)
      ·
        refine fl_iconst hm_153 rfl ?_
        refine gr_i hm_153 rfl rfl (ga_nb (by omega)) ?_
        clear h399_ h400_ f397_ l398_
        refine fl_if_eq hm_33 rfl ⟨by omega, by omega⟩ (fun _ => ?_) (fun h => absurd (by omega) h)
        refine ga_aload_n (v := .ref 118) hm_33 rfl rfl rfl ?_
        refine gIv (nY := 1) (F := 8) (L := 142) (As := []) (b := 118) (rest := []) hm_33 rfl hm_117 rfl rfl (fl_ob sc_118) rfl rfl rfl rfl rfl (by omega) (by omega) ?_
        intro f406_ l407_ h408_ h409_
        show fl_R xi_ms 117 f406_ l407_ 0 [(0, .ref 118)] [] _ _
        refine ga_aload_n (v := .ref 118) hm_117 rfl rfl rfl ?_
        refine ga_getr (b := 1) hm_117 rfl sc_118 rfl ?_
        refine fl_iconst hm_117 rfl ?_
        refine gVv (nY := 2) (F := 7) (L := 121) (As := [.int (Int32.ofInt 1)]) (b := 1) (rest := []) hm_117 rfl hm_24 rfl rfl (fl_ob sc_1) rfl rfl rfl rfl rfl (by omega) (by omega) (mc_24 hG F1 X hg_F1 (K) (1) hgK tk249_ hko (by omega) (by omega)) ?_ ?_
        ·
          rintro j_ A1_ ⟨F411_, ⟨hJ_, hA_⟩, g412_, s413_, c410_⟩
          subst hA_
          subst hJ_
          refine ⟨rfl, ?_⟩
          refine gw_v ⟨rfl, ?_⟩
          refine gw_v ?_
          have g414_ : fs [(1, 1, 1, 1), (1, 1, 6, 8), (3, 6, 0, 100000), (7, 13, 0, 100000), (15, 17, 0, 100000), (21, 103, 0, 100000), (119, 119, 2, 3)] F F411_ := fs_tr g248_ s413_ rfl
          have b415_ : 0 ≤ F411_ 1 8 ∧ F411_ 1 8 ≤ 100000 := gi_g g412_ rfl
          have e416_ : F29_ 1 1 = F5_ 1 1 := by rw [q30_]; exact (fl_u_ne (by omega)).trans ((fl_u_ne (by omega)).trans (fl_u_ne (by omega)))
          have e417_ : F47_ 1 1 = F5_ 1 1 := (s49_ 1 1 rfl).trans (e416_)
          have e418_ : F66_ 1 1 = F5_ 1 1 := (s68_ 1 1 rfl).trans (e417_)
          have e419_ : F86_ 1 1 = F5_ 1 1 := (s88_ 1 1 rfl).trans (e418_)
          have e420_ : F107_ 1 1 = F5_ 1 1 := (s109_ 1 1 rfl).trans (e419_)
          have e421_ : F119_ 1 1 = F5_ 1 1 := by rw [q120_]; exact (fl_u_ne (by omega)).trans (e420_)
          have e422_ : F142_ 1 1 = F5_ 1 1 := (s144_ 1 1 rfl).trans (e421_)
          have e423_ : F166_ 1 1 = F5_ 1 1 := (s168_ 1 1 rfl).trans (e422_)
          have e424_ : F191_ 1 1 = F5_ 1 1 := (s193_ 1 1 rfl).trans (e423_)
          have e425_ : F238_ 1 1 = F5_ 1 1 := (s240_ 1 1 rfl).trans (e424_)
          have e426_ : F1 1 1 = F5_ 1 1 := (hf_F1 1 1 rfl).trans (e425_)
          have e427_ : F411_ 1 1 = F5_ 1 1 := (s413_ 1 1 rfl).trans (e426_)
          have b428_ : 0 ≤ F5_ 1 1 ∧ F5_ 1 1 ≤ 600 := gi_g g6_ rfl
          exact ⟨F411_, ⟨rfl, rfl⟩, g412_, g414_, (by obtain ⟨e, c1, c2⟩ := c410_; exact ⟨K, e, ⟨hgK, hcut⟩, ⟨(by have hx := hsp.trans (spa_e (by omega) (by omega) (by omega)); subst hts0; simp [sp_dom, sp_open, sp_close, pf, pb, c45_, c64_, c84_, c105_, c140_, c164_, c189_, c198_, cq1_, hx, c1]), by rw [← hlt_]; exact htf⟩, c2⟩), (by omega)⟩
        rintro A1_ ⟨F432_, hA_, g433_, s434_, c430_, c431_⟩
        subst hA_
        have g435_ : fs [(1, 1, 1, 1), (1, 1, 6, 8), (3, 6, 0, 100000), (7, 13, 0, 100000), (15, 17, 0, 100000), (21, 103, 0, 100000), (119, 119, 2, 3)] F F432_ := fs_tr g248_ s434_ rfl
        have tk436_ : tkh K F432_ := tkh_fs tk249_ s434_ (fun r k h => (fs_n (by omega) rfl)) (fs_n (by omega) rfl)
        refine ga_aload_n (v := .ref 118) hm_117 rfl rfl rfl ?_
        refine ga_getr (b := 1) hm_117 rfl sc_118 rfl ?_
        refine fl_iconst hm_117 rfl ?_
        have b437_ : 0 ≤ F432_ 1 7 ∧ F432_ 1 7 ≤ 600 := gi_g g433_ rfl
        refine gVv (nY := 2) (F := 7) (L := 121) (As := [.int (Int32.ofInt 5)]) (b := 1) (rest := []) hm_117 rfl hm_24 rfl rfl (fl_ob sc_1) rfl rfl rfl rfl rfl (by omega) (by omega) (mc_24 hG F432_ X g433_ (K) (5) hgK tk436_ hko (by omega) (by omega)) ?_ ?_
        ·
          rintro j_ A1_ ⟨F439_, ⟨hJ_, hA_⟩, g440_, s441_, c438_⟩
          subst hA_
          subst hJ_
          refine ⟨rfl, ?_⟩
          refine gw_v ⟨rfl, ?_⟩
          refine gw_v ?_
          have g442_ : fs [(1, 1, 1, 1), (1, 1, 6, 8), (3, 6, 0, 100000), (7, 13, 0, 100000), (15, 17, 0, 100000), (21, 103, 0, 100000), (119, 119, 2, 3)] F F439_ := fs_tr g435_ s441_ rfl
          have b443_ : 0 ≤ F439_ 1 8 ∧ F439_ 1 8 ≤ 100000 := gi_g g440_ rfl
          have e444_ : F29_ 1 1 = F5_ 1 1 := by rw [q30_]; exact (fl_u_ne (by omega)).trans ((fl_u_ne (by omega)).trans (fl_u_ne (by omega)))
          have e445_ : F47_ 1 1 = F5_ 1 1 := (s49_ 1 1 rfl).trans (e444_)
          have e446_ : F66_ 1 1 = F5_ 1 1 := (s68_ 1 1 rfl).trans (e445_)
          have e447_ : F86_ 1 1 = F5_ 1 1 := (s88_ 1 1 rfl).trans (e446_)
          have e448_ : F107_ 1 1 = F5_ 1 1 := (s109_ 1 1 rfl).trans (e447_)
          have e449_ : F119_ 1 1 = F5_ 1 1 := by rw [q120_]; exact (fl_u_ne (by omega)).trans (e448_)
          have e450_ : F142_ 1 1 = F5_ 1 1 := (s144_ 1 1 rfl).trans (e449_)
          have e451_ : F166_ 1 1 = F5_ 1 1 := (s168_ 1 1 rfl).trans (e450_)
          have e452_ : F191_ 1 1 = F5_ 1 1 := (s193_ 1 1 rfl).trans (e451_)
          have e453_ : F238_ 1 1 = F5_ 1 1 := (s240_ 1 1 rfl).trans (e452_)
          have e454_ : F1 1 1 = F5_ 1 1 := (hf_F1 1 1 rfl).trans (e453_)
          have e455_ : F432_ 1 1 = F5_ 1 1 := (s434_ 1 1 rfl).trans (e454_)
          have e456_ : F439_ 1 1 = F5_ 1 1 := (s441_ 1 1 rfl).trans (e455_)
          have b457_ : 0 ≤ F5_ 1 1 ∧ F5_ 1 1 ≤ 600 := gi_g g6_ rfl
          exact ⟨F439_, ⟨rfl, rfl⟩, g440_, g442_, (by obtain ⟨e, c1, c2⟩ := c438_; exact ⟨K, e, ⟨hgK, hcut⟩, ⟨(by have hx := hsp.trans (spa_e (by omega) (by omega) (by omega)); subst hts0; simp [sp_dom, sp_open, sp_close, pf, pb, c45_, c64_, c84_, c105_, c140_, c164_, c189_, c198_, cq1_, c430_, hx, c1]), by rw [← hlt_]; exact htf⟩, c2⟩), (by omega)⟩
        rintro A1_ ⟨F461_, hA_, g462_, s463_, c459_, c460_⟩
        subst hA_
        have g464_ : fs [(1, 1, 1, 1), (1, 1, 6, 8), (3, 6, 0, 100000), (7, 13, 0, 100000), (15, 17, 0, 100000), (21, 103, 0, 100000), (119, 119, 2, 3)] F F461_ := fs_tr g435_ s463_ rfl
        have tk465_ : tkh K F461_ := tkh_fs tk436_ s463_ (fun r k h => (fs_n (by omega) rfl)) (fs_n (by omega) rfl)
        refine gr_v hm_117 rfl rfl ?_
        clear h408_ h409_ f406_ l407_
        refine gr_v hm_33 rfl rfl ?_
        have e466_ : F1 11 2 = F238_ 11 2 := (hf_F1 11 2 rfl).trans (rfl)
        have e467_ : F432_ 11 2 = F238_ 11 2 := (s434_ 11 2 rfl).trans (e466_)
        have e468_ : F461_ 11 2 = F238_ 11 2 := (s463_ 11 2 rfl).trans (e467_)
        have b469_ : 0 ≤ F238_ 11 2 ∧ F238_ 11 2 ≤ 6 := gi_g g239_ rfl
        have e470_ : F432_ 15 2 = F1 15 2 := (s434_ 15 2 rfl).trans (rfl)
        have e471_ : F461_ 15 2 = F1 15 2 := (s463_ 15 2 rfl).trans (e470_)
        have b472_ : 0 ≤ F1 15 2 ∧ F1 15 2 ≤ 5 := gi_g hg_F1 rfl
        have e473_ : F119_ 7 0 = K 6 (F107_ 1 7).toNat := by rw [q120_]; exact fl_u_eq
        have e474_ : F142_ 7 0 = K 6 (F107_ 1 7).toNat := (s144_ 7 0 rfl).trans (e473_)
        have e475_ : F166_ 7 0 = K 6 (F107_ 1 7).toNat := (s168_ 7 0 rfl).trans (e474_)
        have e476_ : F191_ 7 0 = K 6 (F107_ 1 7).toNat := (s193_ 7 0 rfl).trans (e475_)
        have e477_ : F238_ 7 0 = K 6 (F107_ 1 7).toNat := (s240_ 7 0 rfl).trans (e476_)
        have e478_ : F1 7 0 = K 6 (F107_ 1 7).toNat := (hf_F1 7 0 rfl).trans (e477_)
        have e479_ : F432_ 7 0 = K 6 (F107_ 1 7).toNat := (s434_ 7 0 rfl).trans (e478_)
        have e480_ : F461_ 7 0 = K 6 (F107_ 1 7).toNat := (s463_ 7 0 rfl).trans (e479_)
        have e481_ : F238_ 8 2 = 0 := (s240_ 8 2 rfl).trans (e208_)
        have e482_ : F1 8 2 = 0 := (hf_F1 8 2 rfl).trans (e481_)
        have e483_ : F432_ 8 2 = 0 := (s434_ 8 2 rfl).trans (e482_)
        have e484_ : F461_ 8 2 = 0 := (s463_ 8 2 rfl).trans (e483_)
        have e485_ : F29_ 1 1 = F5_ 1 1 := by rw [q30_]; exact (fl_u_ne (by omega)).trans ((fl_u_ne (by omega)).trans (fl_u_ne (by omega)))
        have e486_ : F47_ 1 1 = F5_ 1 1 := (s49_ 1 1 rfl).trans (e485_)
        have e487_ : F66_ 1 1 = F5_ 1 1 := (s68_ 1 1 rfl).trans (e486_)
        have e488_ : F86_ 1 1 = F5_ 1 1 := (s88_ 1 1 rfl).trans (e487_)
        have e489_ : F107_ 1 1 = F5_ 1 1 := (s109_ 1 1 rfl).trans (e488_)
        have e490_ : F119_ 1 1 = F5_ 1 1 := by rw [q120_]; exact (fl_u_ne (by omega)).trans (e489_)
        have e491_ : F142_ 1 1 = F5_ 1 1 := (s144_ 1 1 rfl).trans (e490_)
        have e492_ : F166_ 1 1 = F5_ 1 1 := (s168_ 1 1 rfl).trans (e491_)
        have e493_ : F191_ 1 1 = F5_ 1 1 := (s193_ 1 1 rfl).trans (e492_)
        have e494_ : F238_ 1 1 = F5_ 1 1 := (s240_ 1 1 rfl).trans (e493_)
        have e495_ : F1 1 1 = F5_ 1 1 := (hf_F1 1 1 rfl).trans (e494_)
        have e496_ : F432_ 1 1 = F5_ 1 1 := (s434_ 1 1 rfl).trans (e495_)
        have e497_ : F461_ 1 1 = F5_ 1 1 := (s463_ 1 1 rfl).trans (e496_)
        have b498_ : 0 ≤ F5_ 1 1 ∧ F5_ 1 1 ≤ 600 := gi_g g6_ rfl
        have e499_ : F29_ 1 8 = 0 := by rw [q30_]; exact (fl_u_ne (by omega)).trans ((fl_u_ne (by omega)).trans ((fl_u_ne (by omega)).trans (hq0)))
        have e500_ : F47_ 1 8 = 0 := (s49_ 1 8 rfl).trans (e499_)
        have e501_ : F66_ 1 8 = 0 := (s68_ 1 8 rfl).trans (e500_)
        have e502_ : F86_ 1 8 = 0 := (s88_ 1 8 rfl).trans (e501_)
        have e503_ : F107_ 1 8 = 0 := (s109_ 1 8 rfl).trans (e502_)
        have e504_ : F119_ 1 8 = 0 := by rw [q120_]; exact (fl_u_ne (by omega)).trans (e503_)
        have e505_ : F142_ 1 8 = 0 := (s144_ 1 8 rfl).trans (e504_)
        have e506_ : F166_ 1 8 = 0 := (s168_ 1 8 rfl).trans (e505_)
        have e507_ : F191_ 1 8 = 0 := (s193_ 1 8 rfl).trans (e506_)
        have e508_ : F238_ 1 8 = 0 := (s240_ 1 8 rfl).trans (e507_)
        have e509_ : F1 1 8 = 0 := (hf_F1 1 8 rfl).trans (e508_)
        have e510_ : F432_ 1 8 = 0 := (s434_ 1 8 rfl).trans (e509_)
        have e511_ : F461_ 1 8 = 0 := (s463_ 1 8 rfl).trans (e510_)
        exact ⟨F461_, rfl, g462_, g464_, (⟨K, ts, pl, ps, al, ⟨hgK, hcut⟩, ⟨by have hx := hsp.trans (spa_e (by omega) (by omega) (by omega)); subst hts0; simp [sp_dom, sp_open, sp_close, pf, pb, c45_, c64_, c84_, c105_, c140_, c164_, c189_, c198_, cq1_, c430_, c459_, hx], by rw [← hlt_]; exact htf⟩, ⟨by rw [hts0]; exact rep_0 (e484_), (rep_fs (rep_fs (rep_fs cq3_ hf_F1 (fun _ => (fs_n (by omega) (fs_n (by omega) (fs_n (by omega) (fs_n (by omega) rfl))))) (fs_n (by omega) (fs_n (by omega) (fs_n (by omega) (fs_n (by omega) rfl))))) s434_ (fun _ => (fs_n (by omega) rfl)) (fs_n (by omega) rfl)) s463_ (fun _ => (fs_n (by omega) rfl)) (fs_n (by omega) rfl)), (prd_fs (prd_fs (prd_fs cq4_ hf_F1 (fun _ _ _ => (fs_n (by omega) (fs_n (by omega) (fs_n (by omega) (fs_n (by omega) rfl)))))) s434_ (fun _ _ _ => (fs_n (by omega) rfl))) s463_ (fun _ _ _ => (fs_n (by omega) rfl))), cq2_⟩, (rep_fs (rep_fs hal s434_ (fun _ => (fs_n (by omega) rfl)) (fs_n (by omega) rfl)) s463_ (fun _ => (fs_n (by omega) rfl)) (fs_n (by omega) rfl)), (by rw [show al.length = i.toNat by omega]; exact (di_fs (di_fs hdi s434_ (fun _ _ _ => (fs_n (by omega) rfl))) s463_ (fun _ _ _ => (fs_n (by omega) rfl)))), Eq.trans (e480_) (by simp [sp_dnm, sp_open, pb, c45_, c64_, c84_, c105_]), (by have hdd_ : dom_d K = D := (dom_dd (ts := ts) (pl := pl) (ps := ps) (by subst hts0; simp [sp_head, sp_open, sp_close, pf, pb, c45_, c64_, c84_, c105_, c140_, c164_, c189_, c198_, cq1_, c430_, c459_])).trans (hDd.trans (by rw [ad_e (by omega) (by omega) (by omega), List.append_nil])); rw [hdd_]; exact ⟨(dar_fs (dar_fs hD s434_ (fun _ _ _ => (fs_n (by omega) rfl))) s463_ (fun _ _ _ => (fs_n (by omega) rfl))), by omega⟩)⟩), (by omega), (e511_)⟩
      refine fl_iconst hm_153 rfl ?_
      refine fl_goto hm_153 rfl ?_
      refine gr_i hm_153 rfl rfl (ga_nb (by omega)) ?_
      clear h399_ h400_ f397_ l398_
      refine fl_if_eq hm_33 rfl ⟨by omega, by omega⟩ (fun h => absurd h (by omega)) (fun _ => ?_)
      refine ga_aload_n (v := .ref 118) hm_33 rfl rfl rfl ?_
      refine ga_iload_n (z := i) hm_33 rfl rfl ?_
      obtain ⟨Ac, hAc⟩ : ∃ Ac : Nat, Ac = 39 + 13 * i.toNat := ⟨_, rfl⟩
      have e512_ : F238_ 8 2 = 0 := (s240_ 8 2 rfl).trans (e208_)
      have e513_ : F1 8 2 = 0 := (hf_F1 8 2 rfl).trans (e512_)
      refine gVv (nY := 2) (F := 11) (L := 215) (As := [.int (Int32.ofInt i)]) (b := 118) (rest := []) hm_33 rfl hm_119 rfl rfl (fl_ob sc_118) rfl rfl rfl rfl rfl (by omega) (by omega) (mc_119 hG F1 X hg_F1 (K) (Ac) (i) (ts) (pl) (al) (alt) (ps) hgK tk249_ hko (by omega) (hAc) (by omega) (by rw [hAc]; exact (ra_18x _ (by omega)).1) (by rw [hAc]; exact (ra_18x _ (by omega)).2.1) (by rw [hAc]; exact (ra_18x _ (by omega)).2.2) (by rw [hts0]; exact rep_0 (e513_)) ((rep_fs cq3_ hf_F1 (fun _ => (fs_n (by omega) (fs_n (by omega) (fs_n (by omega) (fs_n (by omega) rfl))))) (fs_n (by omega) (fs_n (by omega) (fs_n (by omega) (fs_n (by omega) rfl)))))) ((prd_fs cq4_ hf_F1 (fun _ _ _ => (fs_n (by omega) (fs_n (by omega) (fs_n (by omega) (fs_n (by omega) rfl))))))) (cq2_) (hal) (hat) (by omega) (hdi)) ?_ ?_
      ·
        rintro j_ A1_ ⟨F515_, ⟨hJ_, hA_⟩, g516_, s517_, c514_⟩
        subst hA_
        subst hJ_
        refine ⟨rfl, ?_⟩
        refine gw_v ?_
        have g518_ : fs [(1, 1, 1, 1), (1, 1, 6, 8), (3, 6, 0, 100000), (7, 13, 0, 100000), (15, 17, 0, 100000), (21, 103, 0, 100000), (119, 119, 2, 3)] F F515_ := fs_tr g248_ s517_ (by simp [fs_le]; try omega)
        have b519_ : 0 ≤ F515_ 1 8 ∧ F515_ 1 8 ≤ 100000 := gi_g g516_ rfl
        have e520_ : F29_ 1 1 = F5_ 1 1 := by rw [q30_]; exact (fl_u_ne (by omega)).trans ((fl_u_ne (by omega)).trans (fl_u_ne (by omega)))
        have e521_ : F47_ 1 1 = F5_ 1 1 := (s49_ 1 1 rfl).trans (e520_)
        have e522_ : F66_ 1 1 = F5_ 1 1 := (s68_ 1 1 rfl).trans (e521_)
        have e523_ : F86_ 1 1 = F5_ 1 1 := (s88_ 1 1 rfl).trans (e522_)
        have e524_ : F107_ 1 1 = F5_ 1 1 := (s109_ 1 1 rfl).trans (e523_)
        have e525_ : F119_ 1 1 = F5_ 1 1 := by rw [q120_]; exact (fl_u_ne (by omega)).trans (e524_)
        have e526_ : F142_ 1 1 = F5_ 1 1 := (s144_ 1 1 rfl).trans (e525_)
        have e527_ : F166_ 1 1 = F5_ 1 1 := (s168_ 1 1 rfl).trans (e526_)
        have e528_ : F191_ 1 1 = F5_ 1 1 := (s193_ 1 1 rfl).trans (e527_)
        have e529_ : F238_ 1 1 = F5_ 1 1 := (s240_ 1 1 rfl).trans (e528_)
        have e530_ : F1 1 1 = F5_ 1 1 := (hf_F1 1 1 rfl).trans (e529_)
        have e531_ : F515_ 1 1 = F5_ 1 1 := (s517_ 1 1 (fs_n (by omega) (fs_n (by omega) (fs_n (by omega) (fs_n (by omega) rfl))))).trans (e530_)
        have b532_ : 0 ≤ F5_ 1 1 ∧ F5_ 1 1 ≤ 600 := gi_g g6_ rfl
        exact ⟨F515_, ⟨rfl, rfl⟩, g516_, g518_, (by obtain ⟨e, c1, c2⟩ := c514_; exact ⟨K, e, ⟨hgK, hcut⟩, ⟨(by have hx := hsp; rw [spa_step (by omega) (by omega) (by omega), c1] at hx; simp only [pb] at hx; subst hts0; simp [sp_dom, sp_open, sp_close, pf, pb, c45_, c64_, c84_, c105_, c140_, c164_, c189_, c198_, cq1_, hx]), by rw [← hlt_]; exact htf⟩, c2⟩), (by omega)⟩
      rintro A1_ ⟨F538_, hA_, g539_, s540_, c534_, c535_, c536_, c537_⟩
      subst hA_
      have g541_ : fs [(1, 1, 1, 1), (1, 1, 6, 8), (3, 6, 0, 100000), (7, 13, 0, 100000), (15, 17, 0, 100000), (21, 103, 0, 100000), (119, 119, 2, 3)] F F538_ := fs_tr g248_ s540_ (by simp [fs_le]; try omega)
      have tk542_ : tkh K F538_ := tkh_fs tk249_ s540_ (fun r k h => (fs_n (by omega) (fs_n (by omega) (fs_n (by omega) (fs_n (by omega) rfl))))) (fs_n (by omega) (fs_n (by omega) (fs_n (by omega) (fs_n (by omega) rfl))))
      obtain ⟨al2_, alt2_, ⟨ca1_, ca4_⟩, ca2_, ca3_⟩ := c534_
      refine ga_inc (a := i) (c := i + 1) (lv2 := [(1, .int (Int32.ofInt (i + 1))), (0, .ref 118)]) hm_33 rfl rfl (Nat.le_of_ble_eq_true rfl) rfl rfl ?_
      refine fl_goto hm_33 rfl ?_
      have b543_ : 0 ≤ F538_ 15 2 ∧ F538_ 15 2 ≤ 5 := gi_g g539_ rfl
      have b544_ : 0 ≤ F1 15 2 ∧ F1 15 2 ≤ 5 := gi_g hg_F1 rfl
      have b545_ : 0 ≤ F538_ 1 7 ∧ F538_ 1 7 ≤ 600 := gi_g g539_ rfl
      have b546_ : 0 ≤ K 1 6 ∧ K 1 6 ≤ 601 := gi_g hgK rfl
      exact ih245_ _ (by omega) (i + 1) (_) (_) (_) F538_ rfl g539_ (fs_tr hf_F1 s540_ (by simp [fs_le]; try omega)) (by omega) (ca2_) (ca3_) (ca4_) (by omega) (c536_) (by rw [hsp, spa_step (by omega) (by omega) (by omega), ca1_]; rfl) (by simp; omega) (dar_add (dar_fs hD s540_ (fun _ _ _ => (fs_n (by omega) (fs_n (by omega) (fs_n (by omega) (fs_n (by omega) rfl)))))) (by omega) c537_) (by rw [hDd, ad_step (by omega) (by omega) (by omega) ca1_, List.append_cons])
    have e547_ : F29_ 15 2 = 0 := by rw [q30_]; exact fl_u_eq
    have e548_ : F47_ 15 2 = 0 := (s49_ 15 2 rfl).trans (e547_)
    have e549_ : F66_ 15 2 = 0 := (s68_ 15 2 rfl).trans (e548_)
    have e550_ : F86_ 15 2 = 0 := (s88_ 15 2 rfl).trans (e549_)
    have e551_ : F107_ 15 2 = 0 := (s109_ 15 2 rfl).trans (e550_)
    have e552_ : F119_ 15 2 = 0 := by rw [q120_]; exact (fl_u_ne (by omega)).trans (e551_)
    have e553_ : F142_ 15 2 = 0 := (s144_ 15 2 rfl).trans (e552_)
    have e554_ : F166_ 15 2 = 0 := (s168_ 15 2 rfl).trans (e553_)
    have e555_ : F191_ 15 2 = 0 := (s193_ 15 2 rfl).trans (e554_)
    have e556_ : F238_ 15 2 = 0 := (s240_ 15 2 rfl).trans (e555_)
    have b557_ : 0 ≤ K 1 6 ∧ K 1 6 ≤ 601 := gi_g hgK rfl
    exact L244_ _ (0) ([]) ([]) ([]) F238_ rfl g239_ fs_refl (by omega) (rep_0 (e556_)) (rep_0 (e556_)) (by simp) (by omega) (fun j hj => absurd hj (by simp)) (by simp) (by simp) (dar_nil) (by simp)
  subst hA_
  subst hz_
  refine fl_if_eq hm_33 rfl ⟨by omega, by omega⟩ (fun h => absurd h (by omega)) (fun _ => ?_)
  refine ga_aload_n (v := .ref 118) hm_33 rfl rfl rfl ?_
  have e558_ : F29_ 8 2 = 0 := by rw [q30_]; exact (fl_u_ne (by omega)).trans ((fl_u_ne (by omega)).trans (fl_u_eq))
  have e559_ : F47_ 8 2 = 0 := (s49_ 8 2 rfl).trans (e558_)
  have e560_ : F66_ 8 2 = 0 := (s68_ 8 2 rfl).trans (e559_)
  have e561_ : F86_ 8 2 = 0 := (s88_ 8 2 rfl).trans (e560_)
  have e562_ : F107_ 8 2 = 0 := (s109_ 8 2 rfl).trans (e561_)
  have e563_ : F119_ 8 2 = 0 := by rw [q120_]; exact (fl_u_ne (by omega)).trans (e562_)
  have e564_ : F142_ 8 2 = 0 := (s144_ 8 2 rfl).trans (e563_)
  have e565_ : F166_ 8 2 = 0 := (s168_ 8 2 rfl).trans (e564_)
  have e566_ : F191_ 8 2 = 0 := (s193_ 8 2 rfl).trans (e565_)
  refine gVv (nY := 2) (F := 8) (L := 144) (As := []) (b := 118) (rest := []) hm_33 rfl hm_128 rfl rfl (fl_ob sc_118) rfl rfl rfl rfl rfl (by omega) (by omega) (mc_128 hG F191_ X g192_ (K) hgK tk195_ hko (by omega) (rep_0 (e566_)) (rep_0 (e566_))) ?_ ?_
  ·
    rintro j_ A1_ ⟨F568_, ⟨hJ_, hA_⟩, g569_, s570_, c567_⟩
    subst hA_
    subst hJ_
    refine ⟨rfl, ?_⟩
    refine gw_v ?_
    have g571_ : fs [(1, 1, 1, 1), (1, 1, 6, 8), (3, 6, 0, 100000), (7, 13, 0, 100000), (15, 17, 0, 100000), (21, 103, 0, 100000), (119, 119, 2, 3)] F F568_ := fs_tr g194_ s570_ rfl
    have b572_ : 0 ≤ F568_ 1 8 ∧ F568_ 1 8 ≤ 100000 := gi_g g569_ rfl
    have e573_ : F29_ 1 1 = F5_ 1 1 := by rw [q30_]; exact (fl_u_ne (by omega)).trans ((fl_u_ne (by omega)).trans (fl_u_ne (by omega)))
    have e574_ : F47_ 1 1 = F5_ 1 1 := (s49_ 1 1 rfl).trans (e573_)
    have e575_ : F66_ 1 1 = F5_ 1 1 := (s68_ 1 1 rfl).trans (e574_)
    have e576_ : F86_ 1 1 = F5_ 1 1 := (s88_ 1 1 rfl).trans (e575_)
    have e577_ : F107_ 1 1 = F5_ 1 1 := (s109_ 1 1 rfl).trans (e576_)
    have e578_ : F119_ 1 1 = F5_ 1 1 := by rw [q120_]; exact (fl_u_ne (by omega)).trans (e577_)
    have e579_ : F142_ 1 1 = F5_ 1 1 := (s144_ 1 1 rfl).trans (e578_)
    have e580_ : F166_ 1 1 = F5_ 1 1 := (s168_ 1 1 rfl).trans (e579_)
    have e581_ : F191_ 1 1 = F5_ 1 1 := (s193_ 1 1 rfl).trans (e580_)
    have e582_ : F568_ 1 1 = F5_ 1 1 := (s570_ 1 1 rfl).trans (e581_)
    have b583_ : 0 ≤ F5_ 1 1 ∧ F5_ 1 1 ≤ 600 := gi_g g6_ rfl
    exact ⟨F568_, ⟨rfl, rfl⟩, g569_, g571_, (by obtain ⟨e, c1, c2⟩ := c567_; exact ⟨K, e, ⟨hgK, hcut⟩, ⟨(by simp [sp_dom, sp_open, sp_close, pf, pb, c45_, c64_, c84_, c105_, c140_, c164_, c189_, c199_, c1]), by rw [← hlt_]; exact htf⟩, c2⟩), (by omega)⟩
  rintro A1_ ⟨F587_, hA_, g588_, s589_, c585_, c586_⟩
  subst hA_
  have g590_ : fs [(1, 1, 1, 1), (1, 1, 6, 8), (3, 6, 0, 100000), (7, 13, 0, 100000), (15, 17, 0, 100000), (21, 103, 0, 100000), (119, 119, 2, 3)] F F587_ := fs_tr g194_ s589_ rfl
  have tk591_ : tkh K F587_ := tkh_fs tk195_ s589_ (fun r k h => (fs_n (by omega) (fs_n (by omega) rfl))) (fs_n (by omega) (fs_n (by omega) rfl))
  obtain ⟨ts, ct1_, ct2_⟩ := c585_
  refine ga_aload_n (v := .ref 118) hm_33 rfl rfl rfl ?_
  refine ga_getr (b := 1) hm_33 rfl sc_118 rfl ?_
  refine fl_iconst hm_33 rfl ?_
  have b592_ : 0 ≤ F587_ 1 7 ∧ F587_ 1 7 ≤ 600 := gi_g g588_ rfl
  refine gVv (nY := 2) (F := 7) (L := 121) (As := [.int (Int32.ofInt 0)]) (b := 1) (rest := []) hm_33 rfl hm_24 rfl rfl (fl_ob sc_1) rfl rfl rfl rfl rfl (by omega) (by omega) (mc_24 hG F587_ X g588_ (K) (0) hgK tk591_ hko (by omega) (by omega)) ?_ ?_
  ·
    rintro j_ A1_ ⟨F594_, ⟨hJ_, hA_⟩, g595_, s596_, c593_⟩
    subst hA_
    subst hJ_
    refine ⟨rfl, ?_⟩
    refine gw_v ?_
    have g597_ : fs [(1, 1, 1, 1), (1, 1, 6, 8), (3, 6, 0, 100000), (7, 13, 0, 100000), (15, 17, 0, 100000), (21, 103, 0, 100000), (119, 119, 2, 3)] F F594_ := fs_tr g590_ s596_ rfl
    have b598_ : 0 ≤ F594_ 1 8 ∧ F594_ 1 8 ≤ 100000 := gi_g g595_ rfl
    have e599_ : F29_ 1 1 = F5_ 1 1 := by rw [q30_]; exact (fl_u_ne (by omega)).trans ((fl_u_ne (by omega)).trans (fl_u_ne (by omega)))
    have e600_ : F47_ 1 1 = F5_ 1 1 := (s49_ 1 1 rfl).trans (e599_)
    have e601_ : F66_ 1 1 = F5_ 1 1 := (s68_ 1 1 rfl).trans (e600_)
    have e602_ : F86_ 1 1 = F5_ 1 1 := (s88_ 1 1 rfl).trans (e601_)
    have e603_ : F107_ 1 1 = F5_ 1 1 := (s109_ 1 1 rfl).trans (e602_)
    have e604_ : F119_ 1 1 = F5_ 1 1 := by rw [q120_]; exact (fl_u_ne (by omega)).trans (e603_)
    have e605_ : F142_ 1 1 = F5_ 1 1 := (s144_ 1 1 rfl).trans (e604_)
    have e606_ : F166_ 1 1 = F5_ 1 1 := (s168_ 1 1 rfl).trans (e605_)
    have e607_ : F191_ 1 1 = F5_ 1 1 := (s193_ 1 1 rfl).trans (e606_)
    have e608_ : F587_ 1 1 = F5_ 1 1 := (s589_ 1 1 rfl).trans (e607_)
    have e609_ : F594_ 1 1 = F5_ 1 1 := (s596_ 1 1 rfl).trans (e608_)
    have b610_ : 0 ≤ F5_ 1 1 ∧ F5_ 1 1 ≤ 600 := gi_g g6_ rfl
    exact ⟨F594_, ⟨rfl, rfl⟩, g595_, g597_, (by obtain ⟨e, c1, c2⟩ := c593_; exact ⟨K, e, ⟨hgK, hcut⟩, ⟨(by simp [sp_dom, sp_open, sp_close, pf, pb, c45_, c64_, c84_, c105_, c140_, c164_, c189_, c199_, ct1_, c1]), by rw [← hlt_]; exact htf⟩, c2⟩), (by omega)⟩
  rintro A1_ ⟨F614_, hA_, g615_, s616_, c612_, c613_⟩
  subst hA_
  have g617_ : fs [(1, 1, 1, 1), (1, 1, 6, 8), (3, 6, 0, 100000), (7, 13, 0, 100000), (15, 17, 0, 100000), (21, 103, 0, 100000), (119, 119, 2, 3)] F F614_ := fs_tr g590_ s616_ rfl
  have tk618_ : tkh K F614_ := tkh_fs tk591_ s616_ (fun r k h => (fs_n (by omega) rfl)) (fs_n (by omega) rfl)
  
  refine ga_aload_n (v := .ref 118) hm_33 rfl rfl rfl ?_
  have b619_ : 0 ≤ F614_ 1 7 ∧ F614_ 1 7 ≤ 600 := gi_g g615_ rfl
  have e620_ : F29_ 11 2 = 0 := by rw [q30_]; exact (fl_u_ne (by omega)).trans (fl_u_eq)
  have e621_ : F47_ 11 2 = 0 := (s49_ 11 2 rfl).trans (e620_)
  have e622_ : F66_ 11 2 = 0 := (s68_ 11 2 rfl).trans (e621_)
  have e623_ : F86_ 11 2 = 0 := (s88_ 11 2 rfl).trans (e622_)
  have e624_ : F107_ 11 2 = 0 := (s109_ 11 2 rfl).trans (e623_)
  have e625_ : F119_ 11 2 = 0 := by rw [q120_]; exact (fl_u_ne (by omega)).trans (e624_)
  have e626_ : F142_ 11 2 = 0 := (s144_ 11 2 rfl).trans (e625_)
  have e627_ : F166_ 11 2 = 0 := (s168_ 11 2 rfl).trans (e626_)
  have e628_ : F191_ 11 2 = 0 := (s193_ 11 2 rfl).trans (e627_)
  have e629_ : F587_ 11 2 = 0 := (s589_ 11 2 rfl).trans (e628_)
  have e630_ : F614_ 11 2 = 0 := (s616_ 11 2 rfl).trans (e629_)
  refine gVv (nY := 2) (F := 10) (L := 188) (As := []) (b := 118) (rest := []) hm_33 rfl hm_124 rfl rfl (fl_ob sc_118) rfl rfl rfl rfl rfl (by omega) (by omega) (mc_124 hG F614_ X g615_ (K) (ts) hgK tk618_ hko (by omega) ((rep_fs ct2_ s616_ (fun _ => (fs_n (by omega) rfl)) (fs_n (by omega) rfl))) (rep_0 (e630_)) (rep_0 (e630_))) ?_ ?_
  ·
    rintro j_ A1_ ⟨F632_, ⟨hJ_, hA_⟩, g633_, s634_, c631_⟩
    subst hA_
    subst hJ_
    refine ⟨rfl, ?_⟩
    refine gw_v ?_
    have g635_ : fs [(1, 1, 1, 1), (1, 1, 6, 8), (3, 6, 0, 100000), (7, 13, 0, 100000), (15, 17, 0, 100000), (21, 103, 0, 100000), (119, 119, 2, 3)] F F632_ := fs_tr g617_ s634_ rfl
    have b636_ : 0 ≤ F632_ 1 8 ∧ F632_ 1 8 ≤ 100000 := gi_g g633_ rfl
    have e637_ : F29_ 1 1 = F5_ 1 1 := by rw [q30_]; exact (fl_u_ne (by omega)).trans ((fl_u_ne (by omega)).trans (fl_u_ne (by omega)))
    have e638_ : F47_ 1 1 = F5_ 1 1 := (s49_ 1 1 rfl).trans (e637_)
    have e639_ : F66_ 1 1 = F5_ 1 1 := (s68_ 1 1 rfl).trans (e638_)
    have e640_ : F86_ 1 1 = F5_ 1 1 := (s88_ 1 1 rfl).trans (e639_)
    have e641_ : F107_ 1 1 = F5_ 1 1 := (s109_ 1 1 rfl).trans (e640_)
    have e642_ : F119_ 1 1 = F5_ 1 1 := by rw [q120_]; exact (fl_u_ne (by omega)).trans (e641_)
    have e643_ : F142_ 1 1 = F5_ 1 1 := (s144_ 1 1 rfl).trans (e642_)
    have e644_ : F166_ 1 1 = F5_ 1 1 := (s168_ 1 1 rfl).trans (e643_)
    have e645_ : F191_ 1 1 = F5_ 1 1 := (s193_ 1 1 rfl).trans (e644_)
    have e646_ : F587_ 1 1 = F5_ 1 1 := (s589_ 1 1 rfl).trans (e645_)
    have e647_ : F614_ 1 1 = F5_ 1 1 := (s616_ 1 1 rfl).trans (e646_)
    have e648_ : F632_ 1 1 = F5_ 1 1 := (s634_ 1 1 rfl).trans (e647_)
    have b649_ : 0 ≤ F5_ 1 1 ∧ F5_ 1 1 ≤ 600 := gi_g g6_ rfl
    exact ⟨F632_, ⟨rfl, rfl⟩, g633_, g635_, (by obtain ⟨e, c1, c2⟩ := c631_; exact ⟨K, e, ⟨hgK, hcut⟩, ⟨(by simp [sp_dom, sp_open, sp_close, pf, pb, c45_, c64_, c84_, c105_, c140_, c164_, c189_, c199_, ct1_, c612_, c1]), by rw [← hlt_]; exact htf⟩, c2⟩), (by omega)⟩
  rintro A1_ ⟨F653_, hA_, g654_, s655_, c651_, c652_⟩
  subst hA_
  have g656_ : fs [(1, 1, 1, 1), (1, 1, 6, 8), (3, 6, 0, 100000), (7, 13, 0, 100000), (15, 17, 0, 100000), (21, 103, 0, 100000), (119, 119, 2, 3)] F F653_ := fs_tr g617_ s655_ rfl
  have tk657_ : tkh K F653_ := tkh_fs tk618_ s655_ (fun r k h => (fs_n (by omega) (fs_n (by omega) (fs_n (by omega) rfl)))) (fs_n (by omega) (fs_n (by omega) (fs_n (by omega) rfl)))
  have hb11 : 0 ≤ F653_ 11 2 ∧ F653_ 11 2 ≤ 6 := gi_g g654_ rfl
  obtain ⟨pl, ps, ⟨cq1_, cq2_⟩, cq3_, cq4_⟩ := c651_
  have hpl1 := cq3_.1
  refine fl_iconst hm_33 rfl ?_
  refine ga_istore_n (lv2 := [(1, .int (Int32.ofInt 0)), (0, .ref 118)]) hm_33 rfl (Nat.le_of_ble_eq_true rfl) rfl ?_
  have b661_ : 0 ≤ F653_ 1 7 ∧ F653_ 1 7 ≤ 600 := gi_g g654_ rfl
  have L659_ : ∀ (n658_ : Nat) (i : Int) (al : List Int) (alt : List Int) (D : List ad_T) (F1 : fl_N), (5 - i : Int).toNat = n658_ → (gi F1) → (fs [(1, 1, 7, 7), (15, 17, 0, 100000), (39, 103, 0, 100000), (119, 119, 2, 3)] F653_ F1) → (0 ≤ i ∧ i ≤ 5) → (rep (F1 16) (F1 15 2) al) → (rep (F1 17) (F1 15 2) alt) → ((al.length : Int) = i) → (0 ≤ F1 1 7 ∧ F1 1 7 ≤ K 1 6 - 1) → (di F1 i.toNat) → (sp_actions K ts pl ps 5 [] (F653_ 1 7) = sp_actions K ts pl ps (5 - i).toNat al (F1 1 7)) → ((D.length : Int) = i) → (dar F1 D) → (acts_d K ts pl ps 5 [] (F653_ 1 7) = D ++ acts_d K ts pl ps (5 - i).toNat al (F1 1 7)) → fl_R xi_ms 33 fr lo 88 [(1, .int (Int32.ofInt i)), (0, .ref 118)] [] (fl_H sh_T G F1 ++ X) (pq_33 G F X) := by
    intro n658_
    induction n658_ using Nat.strongRecOn with
    | ind n658_ ih660_ =>
    intro i al alt D F1 hn662_ hg_F1 hf_F1 hi hal hat hai hp1 hdi hsp hDn hD hDd
    have g663_ : fs [(1, 1, 1, 1), (1, 1, 6, 8), (3, 6, 0, 100000), (7, 13, 0, 100000), (15, 17, 0, 100000), (21, 103, 0, 100000), (119, 119, 2, 3)] F F1 := fs_tr g656_ hf_F1 rfl
    have tk664_ : tkh K F1 := tkh_fs tk657_ hf_F1 (fun r k h => (fs_n (by omega) (fs_n (by omega) (fs_n (by omega) (fs_n (by omega) rfl))))) (fs_n (by omega) (fs_n (by omega) (fs_n (by omega) (fs_n (by omega) rfl))))
    refine ga_iload_n (z := i) hm_33 rfl rfl ?_
    refine fl_iconst hm_33 rfl ?_
    refine fl_icmp_ge (a := i) (b := 5) hm_33 rfl ⟨by omega, by omega⟩ ⟨by omega, by omega⟩ (fun h665_ => ?_) (fun h666_ => ?_)
    ·
      refine ga_aload_n (v := .ref 118) hm_33 rfl rfl rfl ?_
      refine gIv (nY := 1) (F := 8) (L := 142) (As := []) (b := 118) (rest := []) hm_33 rfl hm_117 rfl rfl (fl_ob sc_118) rfl rfl rfl rfl rfl (by omega) (by omega) ?_
      intro f667_ l668_ h669_ h670_
      show fl_R xi_ms 117 f667_ l668_ 0 [(0, .ref 118)] [] _ _
      refine ga_aload_n (v := .ref 118) hm_117 rfl rfl rfl ?_
      refine ga_getr (b := 1) hm_117 rfl sc_118 rfl ?_
      refine fl_iconst hm_117 rfl ?_
      have b671_ : 0 ≤ F1 1 7 ∧ F1 1 7 ≤ 600 := gi_g hg_F1 rfl
      refine gVv (nY := 2) (F := 7) (L := 121) (As := [.int (Int32.ofInt 1)]) (b := 1) (rest := []) hm_117 rfl hm_24 rfl rfl (fl_ob sc_1) rfl rfl rfl rfl rfl (by omega) (by omega) (mc_24 hG F1 X hg_F1 (K) (1) hgK tk664_ hko (by omega) (by omega)) ?_ ?_
      ·
        rintro j_ A1_ ⟨F673_, ⟨hJ_, hA_⟩, g674_, s675_, c672_⟩
        subst hA_
        subst hJ_
        refine ⟨rfl, ?_⟩
        refine gw_v ⟨rfl, ?_⟩
        refine gw_v ?_
        have g676_ : fs [(1, 1, 1, 1), (1, 1, 6, 8), (3, 6, 0, 100000), (7, 13, 0, 100000), (15, 17, 0, 100000), (21, 103, 0, 100000), (119, 119, 2, 3)] F F673_ := fs_tr g663_ s675_ rfl
        have b677_ : 0 ≤ F673_ 1 8 ∧ F673_ 1 8 ≤ 100000 := gi_g g674_ rfl
        have e678_ : F29_ 1 1 = F5_ 1 1 := by rw [q30_]; exact (fl_u_ne (by omega)).trans ((fl_u_ne (by omega)).trans (fl_u_ne (by omega)))
        have e679_ : F47_ 1 1 = F5_ 1 1 := (s49_ 1 1 rfl).trans (e678_)
        have e680_ : F66_ 1 1 = F5_ 1 1 := (s68_ 1 1 rfl).trans (e679_)
        have e681_ : F86_ 1 1 = F5_ 1 1 := (s88_ 1 1 rfl).trans (e680_)
        have e682_ : F107_ 1 1 = F5_ 1 1 := (s109_ 1 1 rfl).trans (e681_)
        have e683_ : F119_ 1 1 = F5_ 1 1 := by rw [q120_]; exact (fl_u_ne (by omega)).trans (e682_)
        have e684_ : F142_ 1 1 = F5_ 1 1 := (s144_ 1 1 rfl).trans (e683_)
        have e685_ : F166_ 1 1 = F5_ 1 1 := (s168_ 1 1 rfl).trans (e684_)
        have e686_ : F191_ 1 1 = F5_ 1 1 := (s193_ 1 1 rfl).trans (e685_)
        have e687_ : F587_ 1 1 = F5_ 1 1 := (s589_ 1 1 rfl).trans (e686_)
        have e688_ : F614_ 1 1 = F5_ 1 1 := (s616_ 1 1 rfl).trans (e687_)
        have e689_ : F653_ 1 1 = F5_ 1 1 := (s655_ 1 1 rfl).trans (e688_)
        have e690_ : F1 1 1 = F5_ 1 1 := (hf_F1 1 1 rfl).trans (e689_)
        have e691_ : F673_ 1 1 = F5_ 1 1 := (s675_ 1 1 rfl).trans (e690_)
        have b692_ : 0 ≤ F5_ 1 1 ∧ F5_ 1 1 ≤ 600 := gi_g g6_ rfl
        exact ⟨F673_, ⟨rfl, rfl⟩, g674_, g676_, (by obtain ⟨e, c1, c2⟩ := c672_; exact ⟨K, e, ⟨hgK, hcut⟩, ⟨(by have hx := hsp.trans (spa_z (by omega)); simp [sp_dom, sp_open, sp_close, pf, pb, c45_, c64_, c84_, c105_, c140_, c164_, c189_, c199_, ct1_, c612_, cq1_, hx, c1]), by rw [← hlt_]; exact htf⟩, c2⟩), (by omega)⟩
      rintro A1_ ⟨F696_, hA_, g697_, s698_, c694_, c695_⟩
      subst hA_
      have g699_ : fs [(1, 1, 1, 1), (1, 1, 6, 8), (3, 6, 0, 100000), (7, 13, 0, 100000), (15, 17, 0, 100000), (21, 103, 0, 100000), (119, 119, 2, 3)] F F696_ := fs_tr g663_ s698_ rfl
      have tk700_ : tkh K F696_ := tkh_fs tk664_ s698_ (fun r k h => (fs_n (by omega) rfl)) (fs_n (by omega) rfl)
      refine ga_aload_n (v := .ref 118) hm_117 rfl rfl rfl ?_
      refine ga_getr (b := 1) hm_117 rfl sc_118 rfl ?_
      refine fl_iconst hm_117 rfl ?_
      have b701_ : 0 ≤ F696_ 1 7 ∧ F696_ 1 7 ≤ 600 := gi_g g697_ rfl
      refine gVv (nY := 2) (F := 7) (L := 121) (As := [.int (Int32.ofInt 5)]) (b := 1) (rest := []) hm_117 rfl hm_24 rfl rfl (fl_ob sc_1) rfl rfl rfl rfl rfl (by omega) (by omega) (mc_24 hG F696_ X g697_ (K) (5) hgK tk700_ hko (by omega) (by omega)) ?_ ?_
      ·
        rintro j_ A1_ ⟨F703_, ⟨hJ_, hA_⟩, g704_, s705_, c702_⟩
        subst hA_
        subst hJ_
        refine ⟨rfl, ?_⟩
        refine gw_v ⟨rfl, ?_⟩
        refine gw_v ?_
        have g706_ : fs [(1, 1, 1, 1), (1, 1, 6, 8), (3, 6, 0, 100000), (7, 13, 0, 100000), (15, 17, 0, 100000), (21, 103, 0, 100000), (119, 119, 2, 3)] F F703_ := fs_tr g699_ s705_ rfl
        have b707_ : 0 ≤ F703_ 1 8 ∧ F703_ 1 8 ≤ 100000 := gi_g g704_ rfl
        have e708_ : F29_ 1 1 = F5_ 1 1 := by rw [q30_]; exact (fl_u_ne (by omega)).trans ((fl_u_ne (by omega)).trans (fl_u_ne (by omega)))
        have e709_ : F47_ 1 1 = F5_ 1 1 := (s49_ 1 1 rfl).trans (e708_)
        have e710_ : F66_ 1 1 = F5_ 1 1 := (s68_ 1 1 rfl).trans (e709_)
        have e711_ : F86_ 1 1 = F5_ 1 1 := (s88_ 1 1 rfl).trans (e710_)
        have e712_ : F107_ 1 1 = F5_ 1 1 := (s109_ 1 1 rfl).trans (e711_)
        have e713_ : F119_ 1 1 = F5_ 1 1 := by rw [q120_]; exact (fl_u_ne (by omega)).trans (e712_)
        have e714_ : F142_ 1 1 = F5_ 1 1 := (s144_ 1 1 rfl).trans (e713_)
        have e715_ : F166_ 1 1 = F5_ 1 1 := (s168_ 1 1 rfl).trans (e714_)
        have e716_ : F191_ 1 1 = F5_ 1 1 := (s193_ 1 1 rfl).trans (e715_)
        have e717_ : F587_ 1 1 = F5_ 1 1 := (s589_ 1 1 rfl).trans (e716_)
        have e718_ : F614_ 1 1 = F5_ 1 1 := (s616_ 1 1 rfl).trans (e717_)
        have e719_ : F653_ 1 1 = F5_ 1 1 := (s655_ 1 1 rfl).trans (e718_)
        have e720_ : F1 1 1 = F5_ 1 1 := (hf_F1 1 1 rfl).trans (e719_)
        have e721_ : F696_ 1 1 = F5_ 1 1 := (s698_ 1 1 rfl).trans (e720_)
        have e722_ : F703_ 1 1 = F5_ 1 1 := (s705_ 1 1 rfl).trans (e721_)
        have b723_ : 0 ≤ F5_ 1 1 ∧ F5_ 1 1 ≤ 600 := gi_g g6_ rfl
        exact ⟨F703_, ⟨rfl, rfl⟩, g704_, g706_, (by obtain ⟨e, c1, c2⟩ := c702_; exact ⟨K, e, ⟨hgK, hcut⟩, ⟨(by have hx := hsp.trans (spa_z (by omega)); simp [sp_dom, sp_open, sp_close, pf, pb, c45_, c64_, c84_, c105_, c140_, c164_, c189_, c199_, ct1_, c612_, cq1_, c694_, hx, c1]), by rw [← hlt_]; exact htf⟩, c2⟩), (by omega)⟩
      rintro A1_ ⟨F727_, hA_, g728_, s729_, c725_, c726_⟩
      subst hA_
      have g730_ : fs [(1, 1, 1, 1), (1, 1, 6, 8), (3, 6, 0, 100000), (7, 13, 0, 100000), (15, 17, 0, 100000), (21, 103, 0, 100000), (119, 119, 2, 3)] F F727_ := fs_tr g699_ s729_ rfl
      have tk731_ : tkh K F727_ := tkh_fs tk700_ s729_ (fun r k h => (fs_n (by omega) rfl)) (fs_n (by omega) rfl)
      refine gr_v hm_117 rfl rfl ?_
      clear h669_ h670_ f667_ l668_
      refine gr_v hm_33 rfl rfl ?_
      have e732_ : F1 11 2 = F653_ 11 2 := (hf_F1 11 2 rfl).trans (rfl)
      have e733_ : F696_ 11 2 = F653_ 11 2 := (s698_ 11 2 rfl).trans (e732_)
      have e734_ : F727_ 11 2 = F653_ 11 2 := (s729_ 11 2 rfl).trans (e733_)
      have b735_ : 0 ≤ F653_ 11 2 ∧ F653_ 11 2 ≤ 6 := gi_g g654_ rfl
      have e736_ : F696_ 15 2 = F1 15 2 := (s698_ 15 2 rfl).trans (rfl)
      have e737_ : F727_ 15 2 = F1 15 2 := (s729_ 15 2 rfl).trans (e736_)
      have b738_ : 0 ≤ F1 15 2 ∧ F1 15 2 ≤ 5 := gi_g hg_F1 rfl
      have e739_ : F119_ 7 0 = K 6 (F107_ 1 7).toNat := by rw [q120_]; exact fl_u_eq
      have e740_ : F142_ 7 0 = K 6 (F107_ 1 7).toNat := (s144_ 7 0 rfl).trans (e739_)
      have e741_ : F166_ 7 0 = K 6 (F107_ 1 7).toNat := (s168_ 7 0 rfl).trans (e740_)
      have e742_ : F191_ 7 0 = K 6 (F107_ 1 7).toNat := (s193_ 7 0 rfl).trans (e741_)
      have e743_ : F587_ 7 0 = K 6 (F107_ 1 7).toNat := (s589_ 7 0 rfl).trans (e742_)
      have e744_ : F614_ 7 0 = K 6 (F107_ 1 7).toNat := (s616_ 7 0 rfl).trans (e743_)
      have e745_ : F653_ 7 0 = K 6 (F107_ 1 7).toNat := (s655_ 7 0 rfl).trans (e744_)
      have e746_ : F1 7 0 = K 6 (F107_ 1 7).toNat := (hf_F1 7 0 rfl).trans (e745_)
      have e747_ : F696_ 7 0 = K 6 (F107_ 1 7).toNat := (s698_ 7 0 rfl).trans (e746_)
      have e748_ : F727_ 7 0 = K 6 (F107_ 1 7).toNat := (s729_ 7 0 rfl).trans (e747_)
      have e749_ : F614_ 8 2 = F587_ 8 2 := (s616_ 8 2 rfl).trans (rfl)
      have e750_ : F653_ 8 2 = F587_ 8 2 := (s655_ 8 2 rfl).trans (e749_)
      have e751_ : F1 8 2 = F587_ 8 2 := (hf_F1 8 2 rfl).trans (e750_)
      have e752_ : F696_ 8 2 = F587_ 8 2 := (s698_ 8 2 rfl).trans (e751_)
      have e753_ : F727_ 8 2 = F587_ 8 2 := (s729_ 8 2 rfl).trans (e752_)
      have b754_ : 0 ≤ F587_ 8 2 ∧ F587_ 8 2 ≤ 4 := gi_g g588_ rfl
      have e755_ : F29_ 1 1 = F5_ 1 1 := by rw [q30_]; exact (fl_u_ne (by omega)).trans ((fl_u_ne (by omega)).trans (fl_u_ne (by omega)))
      have e756_ : F47_ 1 1 = F5_ 1 1 := (s49_ 1 1 rfl).trans (e755_)
      have e757_ : F66_ 1 1 = F5_ 1 1 := (s68_ 1 1 rfl).trans (e756_)
      have e758_ : F86_ 1 1 = F5_ 1 1 := (s88_ 1 1 rfl).trans (e757_)
      have e759_ : F107_ 1 1 = F5_ 1 1 := (s109_ 1 1 rfl).trans (e758_)
      have e760_ : F119_ 1 1 = F5_ 1 1 := by rw [q120_]; exact (fl_u_ne (by omega)).trans (e759_)
      have e761_ : F142_ 1 1 = F5_ 1 1 := (s144_ 1 1 rfl).trans (e760_)
      have e762_ : F166_ 1 1 = F5_ 1 1 := (s168_ 1 1 rfl).trans (e761_)
      have e763_ : F191_ 1 1 = F5_ 1 1 := (s193_ 1 1 rfl).trans (e762_)
      have e764_ : F587_ 1 1 = F5_ 1 1 := (s589_ 1 1 rfl).trans (e763_)
      have e765_ : F614_ 1 1 = F5_ 1 1 := (s616_ 1 1 rfl).trans (e764_)
      have e766_ : F653_ 1 1 = F5_ 1 1 := (s655_ 1 1 rfl).trans (e765_)
      have e767_ : F1 1 1 = F5_ 1 1 := (hf_F1 1 1 rfl).trans (e766_)
      have e768_ : F696_ 1 1 = F5_ 1 1 := (s698_ 1 1 rfl).trans (e767_)
      have e769_ : F727_ 1 1 = F5_ 1 1 := (s729_ 1 1 rfl).trans (e768_)
      have b770_ : 0 ≤ F5_ 1 1 ∧ F5_ 1 1 ≤ 600 := gi_g g6_ rfl
      have e771_ : F29_ 1 8 = 0 := by rw [q30_]; exact (fl_u_ne (by omega)).trans ((fl_u_ne (by omega)).trans ((fl_u_ne (by omega)).trans (hq0)))
      have e772_ : F47_ 1 8 = 0 := (s49_ 1 8 rfl).trans (e771_)
      have e773_ : F66_ 1 8 = 0 := (s68_ 1 8 rfl).trans (e772_)
      have e774_ : F86_ 1 8 = 0 := (s88_ 1 8 rfl).trans (e773_)
      have e775_ : F107_ 1 8 = 0 := (s109_ 1 8 rfl).trans (e774_)
      have e776_ : F119_ 1 8 = 0 := by rw [q120_]; exact (fl_u_ne (by omega)).trans (e775_)
      have e777_ : F142_ 1 8 = 0 := (s144_ 1 8 rfl).trans (e776_)
      have e778_ : F166_ 1 8 = 0 := (s168_ 1 8 rfl).trans (e777_)
      have e779_ : F191_ 1 8 = 0 := (s193_ 1 8 rfl).trans (e778_)
      have e780_ : F587_ 1 8 = 0 := (s589_ 1 8 rfl).trans (e779_)
      have e781_ : F614_ 1 8 = 0 := (s616_ 1 8 rfl).trans (e780_)
      have e782_ : F653_ 1 8 = 0 := (s655_ 1 8 rfl).trans (e781_)
      have e783_ : F1 1 8 = 0 := (hf_F1 1 8 rfl).trans (e782_)
      have e784_ : F696_ 1 8 = 0 := (s698_ 1 8 rfl).trans (e783_)
      have e785_ : F727_ 1 8 = 0 := (s729_ 1 8 rfl).trans (e784_)
      exact ⟨F727_, rfl, g728_, g730_, (⟨K, ts, pl, ps, al, ⟨hgK, hcut⟩, ⟨by have hx := hsp.trans (spa_z (by omega)); simp [sp_dom, sp_open, sp_close, pf, pb, c45_, c64_, c84_, c105_, c140_, c164_, c189_, c199_, ct1_, c612_, cq1_, c694_, c725_, hx], by rw [← hlt_]; exact htf⟩, ⟨(rep_fs (rep_fs (rep_fs (rep_fs (rep_fs ct2_ s616_ (fun _ => (fs_n (by omega) rfl)) (fs_n (by omega) rfl)) s655_ (fun _ => (fs_n (by omega) (fs_n (by omega) (fs_n (by omega) rfl)))) (fs_n (by omega) (fs_n (by omega) (fs_n (by omega) rfl)))) hf_F1 (fun _ => (fs_n (by omega) (fs_n (by omega) (fs_n (by omega) (fs_n (by omega) rfl))))) (fs_n (by omega) (fs_n (by omega) (fs_n (by omega) (fs_n (by omega) rfl))))) s698_ (fun _ => (fs_n (by omega) rfl)) (fs_n (by omega) rfl)) s729_ (fun _ => (fs_n (by omega) rfl)) (fs_n (by omega) rfl)), (rep_fs (rep_fs (rep_fs cq3_ hf_F1 (fun _ => (fs_n (by omega) (fs_n (by omega) (fs_n (by omega) (fs_n (by omega) rfl))))) (fs_n (by omega) (fs_n (by omega) (fs_n (by omega) (fs_n (by omega) rfl))))) s698_ (fun _ => (fs_n (by omega) rfl)) (fs_n (by omega) rfl)) s729_ (fun _ => (fs_n (by omega) rfl)) (fs_n (by omega) rfl)), (prd_fs (prd_fs (prd_fs cq4_ hf_F1 (fun _ _ _ => (fs_n (by omega) (fs_n (by omega) (fs_n (by omega) (fs_n (by omega) rfl)))))) s698_ (fun _ _ _ => (fs_n (by omega) rfl))) s729_ (fun _ _ _ => (fs_n (by omega) rfl))), cq2_⟩, (rep_fs (rep_fs hal s698_ (fun _ => (fs_n (by omega) rfl)) (fs_n (by omega) rfl)) s729_ (fun _ => (fs_n (by omega) rfl)) (fs_n (by omega) rfl)), (by rw [show al.length = i.toNat by omega]; exact (di_fs (di_fs hdi s698_ (fun _ _ _ => (fs_n (by omega) rfl))) s729_ (fun _ _ _ => (fs_n (by omega) rfl)))), Eq.trans (e748_) (by simp [sp_dnm, sp_open, pb, c45_, c64_, c84_, c105_]), (by have hdd_ : dom_d K = D := (dom_dd (ts := ts) (pl := pl) (ps := ps) (by simp [sp_head, sp_open, sp_close, pf, pb, c45_, c64_, c84_, c105_, c140_, c164_, c189_, c199_, ct1_, c612_, cq1_, c694_, c725_])).trans (hDd.trans (by rw [ad_z (by omega), List.append_nil])); rw [hdd_]; exact ⟨(dar_fs (dar_fs hD s698_ (fun _ _ _ => (fs_n (by omega) rfl))) s729_ (fun _ _ _ => (fs_n (by omega) rfl))), by omega⟩)⟩), (by omega), (e785_)⟩
    refine ga_iload_n (z := i) hm_33 rfl rfl ?_
    refine fl_if_eq (a := i) hm_33 rfl ⟨by omega, by omega⟩ (fun h786_ => ?_) (fun h787_ => ?_)
    ·
      refine ga_aload_n (v := .ref 118) hm_33 rfl rfl rfl ?_
      refine ga_iload_n (z := i) hm_33 rfl rfl ?_
      obtain ⟨Ac, hAc⟩ : ∃ Ac : Nat, Ac = 39 + 13 * i.toNat := ⟨_, rfl⟩
      have b788_ : 0 ≤ F1 1 7 ∧ F1 1 7 ≤ 600 := gi_g hg_F1 rfl
      refine gVv (nY := 2) (F := 11) (L := 215) (As := [.int (Int32.ofInt i)]) (b := 118) (rest := []) hm_33 rfl hm_119 rfl rfl (fl_ob sc_118) rfl rfl rfl rfl rfl (by omega) (by omega) (mc_119 hG F1 X hg_F1 (K) (Ac) (i) (ts) (pl) (al) (alt) (ps) hgK tk664_ hko (by omega) (hAc) (by omega) (by rw [hAc]; exact (ra_18x _ (by omega)).1) (by rw [hAc]; exact (ra_18x _ (by omega)).2.1) (by rw [hAc]; exact (ra_18x _ (by omega)).2.2) ((rep_fs (rep_fs (rep_fs ct2_ s616_ (fun _ => (fs_n (by omega) rfl)) (fs_n (by omega) rfl)) s655_ (fun _ => (fs_n (by omega) (fs_n (by omega) (fs_n (by omega) rfl)))) (fs_n (by omega) (fs_n (by omega) (fs_n (by omega) rfl)))) hf_F1 (fun _ => (fs_n (by omega) (fs_n (by omega) (fs_n (by omega) (fs_n (by omega) rfl))))) (fs_n (by omega) (fs_n (by omega) (fs_n (by omega) (fs_n (by omega) rfl)))))) ((rep_fs cq3_ hf_F1 (fun _ => (fs_n (by omega) (fs_n (by omega) (fs_n (by omega) (fs_n (by omega) rfl))))) (fs_n (by omega) (fs_n (by omega) (fs_n (by omega) (fs_n (by omega) rfl)))))) ((prd_fs cq4_ hf_F1 (fun _ _ _ => (fs_n (by omega) (fs_n (by omega) (fs_n (by omega) (fs_n (by omega) rfl))))))) (cq2_) (hal) (hat) (by omega) (hdi)) ?_ ?_
      ·
        rintro j_ A1_ ⟨F790_, ⟨hJ_, hA_⟩, g791_, s792_, c789_⟩
        subst hA_
        subst hJ_
        refine ⟨rfl, ?_⟩
        refine gw_v ?_
        have g793_ : fs [(1, 1, 1, 1), (1, 1, 6, 8), (3, 6, 0, 100000), (7, 13, 0, 100000), (15, 17, 0, 100000), (21, 103, 0, 100000), (119, 119, 2, 3)] F F790_ := fs_tr g663_ s792_ (by simp [fs_le]; try omega)
        have b794_ : 0 ≤ F790_ 1 8 ∧ F790_ 1 8 ≤ 100000 := gi_g g791_ rfl
        have e795_ : F29_ 1 1 = F5_ 1 1 := by rw [q30_]; exact (fl_u_ne (by omega)).trans ((fl_u_ne (by omega)).trans (fl_u_ne (by omega)))
        have e796_ : F47_ 1 1 = F5_ 1 1 := (s49_ 1 1 rfl).trans (e795_)
        have e797_ : F66_ 1 1 = F5_ 1 1 := (s68_ 1 1 rfl).trans (e796_)
        have e798_ : F86_ 1 1 = F5_ 1 1 := (s88_ 1 1 rfl).trans (e797_)
        have e799_ : F107_ 1 1 = F5_ 1 1 := (s109_ 1 1 rfl).trans (e798_)
        have e800_ : F119_ 1 1 = F5_ 1 1 := by rw [q120_]; exact (fl_u_ne (by omega)).trans (e799_)
        have e801_ : F142_ 1 1 = F5_ 1 1 := (s144_ 1 1 rfl).trans (e800_)
        have e802_ : F166_ 1 1 = F5_ 1 1 := (s168_ 1 1 rfl).trans (e801_)
        have e803_ : F191_ 1 1 = F5_ 1 1 := (s193_ 1 1 rfl).trans (e802_)
        have e804_ : F587_ 1 1 = F5_ 1 1 := (s589_ 1 1 rfl).trans (e803_)
        have e805_ : F614_ 1 1 = F5_ 1 1 := (s616_ 1 1 rfl).trans (e804_)
        have e806_ : F653_ 1 1 = F5_ 1 1 := (s655_ 1 1 rfl).trans (e805_)
        have e807_ : F1 1 1 = F5_ 1 1 := (hf_F1 1 1 rfl).trans (e806_)
        have e808_ : F790_ 1 1 = F5_ 1 1 := (s792_ 1 1 (fs_n (by omega) (fs_n (by omega) (fs_n (by omega) (fs_n (by omega) rfl))))).trans (e807_)
        have b809_ : 0 ≤ F5_ 1 1 ∧ F5_ 1 1 ≤ 600 := gi_g g6_ rfl
        exact ⟨F790_, ⟨rfl, rfl⟩, g791_, g793_, (by obtain ⟨e, c1, c2⟩ := c789_; exact ⟨K, e, ⟨hgK, hcut⟩, ⟨(by have hx := hsp; rw [spa_step (by omega) (by omega) (by omega), c1] at hx; simp only [pb] at hx; simp [sp_dom, sp_open, sp_close, pf, pb, c45_, c64_, c84_, c105_, c140_, c164_, c189_, c199_, ct1_, c612_, cq1_, hx]), by rw [← hlt_]; exact htf⟩, c2⟩), (by omega)⟩
      rintro A1_ ⟨F815_, hA_, g816_, s817_, c811_, c812_, c813_, c814_⟩
      subst hA_
      have g818_ : fs [(1, 1, 1, 1), (1, 1, 6, 8), (3, 6, 0, 100000), (7, 13, 0, 100000), (15, 17, 0, 100000), (21, 103, 0, 100000), (119, 119, 2, 3)] F F815_ := fs_tr g663_ s817_ (by simp [fs_le]; try omega)
      have tk819_ : tkh K F815_ := tkh_fs tk664_ s817_ (fun r k h => (fs_n (by omega) (fs_n (by omega) (fs_n (by omega) (fs_n (by omega) rfl))))) (fs_n (by omega) (fs_n (by omega) (fs_n (by omega) (fs_n (by omega) rfl))))
      obtain ⟨al2_, alt2_, ⟨ca1_, ca4_⟩, ca2_, ca3_⟩ := c811_
      refine ga_inc (a := i) (c := i + 1) (lv2 := [(1, .int (Int32.ofInt (i + 1))), (0, .ref 118)]) hm_33 rfl rfl (Nat.le_of_ble_eq_true rfl) rfl rfl ?_
      refine fl_goto hm_33 rfl ?_
      have b820_ : 0 ≤ F815_ 15 2 ∧ F815_ 15 2 ≤ 5 := gi_g g816_ rfl
      have b821_ : 0 ≤ F1 15 2 ∧ F1 15 2 ≤ 5 := gi_g hg_F1 rfl
      have b822_ : 0 ≤ F815_ 1 7 ∧ F815_ 1 7 ≤ 600 := gi_g g816_ rfl
      have b823_ : 0 ≤ K 1 6 ∧ K 1 6 ≤ 601 := gi_g hgK rfl
      exact ih660_ _ (by omega) (i + 1) (_) (_) (_) F815_ rfl g816_ (fs_tr hf_F1 s817_ (by simp [fs_le]; try omega)) (by omega) (ca2_) (ca3_) (ca4_) (by omega) (c813_) (by rw [hsp, spa_step (by omega) (by omega) (by omega), ca1_]; rfl) (by simp; omega) (dar_add (dar_fs hD s817_ (fun _ _ _ => (fs_n (by omega) (fs_n (by omega) (fs_n (by omega) (fs_n (by omega) rfl)))))) (by omega) c814_) (by rw [hDd, ad_step (by omega) (by omega) (by omega) ca1_, List.append_cons])
    refine ga_aload_n (v := .ref 118) hm_33 rfl rfl rfl ?_
    refine ga_getr (b := 1) hm_33 rfl sc_118 rfl ?_
    refine fl_iconst hm_33 rfl ?_
    refine gIi (nY := 2) (F := 0) (L := 0) (As := [.int (Int32.ofInt 0)]) (b := 1) (rest := []) hm_33 rfl hm_153 rfl rfl (fl_ob sc_1) rfl rfl rfl rfl rfl (by omega) (by omega) ?_
    intro f824_ l825_ h826_ h827_
    show fl_R xi_ms 153 f824_ l825_ 0 [(0, .ref 1), (1, .int (Int32.ofInt 0))] [] _ _
    refine ga_aload_n (v := .ref 1) hm_153 rfl rfl rfl ?_
    refine ga_getr (b := 3) hm_153 rfl sc_1 rfl ?_
    refine ga_aload_n (v := .ref 1) hm_153 rfl rfl rfl ?_
    have b828_ : 0 ≤ F1 1 7 ∧ F1 1 7 ≤ 600 := gi_g hg_F1 rfl
    refine ga_geti (z := F1 1 7) hm_153 rfl sc_1 rfl (rfl) ?_
    have e829_ : F1 3 (F1 1 7).toNat = K 3 (F1 1 7).toNat := tk664_.1 3 (F1 1 7).toNat (by omega)
    have b830_ : 0 ≤ K 3 (F1 1 7).toNat ∧ K 3 (F1 1 7).toNat ≤ 5 := gi_g hgK rfl
    refine ga_iald (z := F1 1 7) (w := K 3 (F1 1 7).toNat) hm_153 rfl sc_3 (by omega) (by omega) (by omega) (e829_) ?_
    refine ga_iload_n (z := 0) hm_153 rfl rfl ?_
    refine fx_icmp_ne (a := K 3 (F1 1 7).toNat) (b := 0) hm_153 rfl ⟨by omega, by omega⟩ ⟨by omega, by omega⟩ (fun h831_ => ?_) (fun h832_ => ?_)
    ·
      refine fl_iconst hm_153 rfl ?_
      refine gr_i hm_153 rfl rfl (ga_nb (by omega)) ?_
      clear h826_ h827_ f824_ l825_
      refine fl_if_eq hm_33 rfl ⟨by omega, by omega⟩ (fun _ => ?_) (fun h => absurd (by omega) h)
      refine ga_aload_n (v := .ref 118) hm_33 rfl rfl rfl ?_
      refine gIv (nY := 1) (F := 8) (L := 142) (As := []) (b := 118) (rest := []) hm_33 rfl hm_117 rfl rfl (fl_ob sc_118) rfl rfl rfl rfl rfl (by omega) (by omega) ?_
      intro f833_ l834_ h835_ h836_
      show fl_R xi_ms 117 f833_ l834_ 0 [(0, .ref 118)] [] _ _
      refine ga_aload_n (v := .ref 118) hm_117 rfl rfl rfl ?_
      refine ga_getr (b := 1) hm_117 rfl sc_118 rfl ?_
      refine fl_iconst hm_117 rfl ?_
      refine gVv (nY := 2) (F := 7) (L := 121) (As := [.int (Int32.ofInt 1)]) (b := 1) (rest := []) hm_117 rfl hm_24 rfl rfl (fl_ob sc_1) rfl rfl rfl rfl rfl (by omega) (by omega) (mc_24 hG F1 X hg_F1 (K) (1) hgK tk664_ hko (by omega) (by omega)) ?_ ?_
      ·
        rintro j_ A1_ ⟨F838_, ⟨hJ_, hA_⟩, g839_, s840_, c837_⟩
        subst hA_
        subst hJ_
        refine ⟨rfl, ?_⟩
        refine gw_v ⟨rfl, ?_⟩
        refine gw_v ?_
        have g841_ : fs [(1, 1, 1, 1), (1, 1, 6, 8), (3, 6, 0, 100000), (7, 13, 0, 100000), (15, 17, 0, 100000), (21, 103, 0, 100000), (119, 119, 2, 3)] F F838_ := fs_tr g663_ s840_ rfl
        have b842_ : 0 ≤ F838_ 1 8 ∧ F838_ 1 8 ≤ 100000 := gi_g g839_ rfl
        have e843_ : F29_ 1 1 = F5_ 1 1 := by rw [q30_]; exact (fl_u_ne (by omega)).trans ((fl_u_ne (by omega)).trans (fl_u_ne (by omega)))
        have e844_ : F47_ 1 1 = F5_ 1 1 := (s49_ 1 1 rfl).trans (e843_)
        have e845_ : F66_ 1 1 = F5_ 1 1 := (s68_ 1 1 rfl).trans (e844_)
        have e846_ : F86_ 1 1 = F5_ 1 1 := (s88_ 1 1 rfl).trans (e845_)
        have e847_ : F107_ 1 1 = F5_ 1 1 := (s109_ 1 1 rfl).trans (e846_)
        have e848_ : F119_ 1 1 = F5_ 1 1 := by rw [q120_]; exact (fl_u_ne (by omega)).trans (e847_)
        have e849_ : F142_ 1 1 = F5_ 1 1 := (s144_ 1 1 rfl).trans (e848_)
        have e850_ : F166_ 1 1 = F5_ 1 1 := (s168_ 1 1 rfl).trans (e849_)
        have e851_ : F191_ 1 1 = F5_ 1 1 := (s193_ 1 1 rfl).trans (e850_)
        have e852_ : F587_ 1 1 = F5_ 1 1 := (s589_ 1 1 rfl).trans (e851_)
        have e853_ : F614_ 1 1 = F5_ 1 1 := (s616_ 1 1 rfl).trans (e852_)
        have e854_ : F653_ 1 1 = F5_ 1 1 := (s655_ 1 1 rfl).trans (e853_)
        have e855_ : F1 1 1 = F5_ 1 1 := (hf_F1 1 1 rfl).trans (e854_)
        have e856_ : F838_ 1 1 = F5_ 1 1 := (s840_ 1 1 rfl).trans (e855_)
        have b857_ : 0 ≤ F5_ 1 1 ∧ F5_ 1 1 ≤ 600 := gi_g g6_ rfl
        exact ⟨F838_, ⟨rfl, rfl⟩, g839_, g841_, (by obtain ⟨e, c1, c2⟩ := c837_; exact ⟨K, e, ⟨hgK, hcut⟩, ⟨(by have hx := hsp.trans (spa_e (by omega) (by omega) (by omega)); simp [sp_dom, sp_open, sp_close, pf, pb, c45_, c64_, c84_, c105_, c140_, c164_, c189_, c199_, ct1_, c612_, cq1_, hx, c1]), by rw [← hlt_]; exact htf⟩, c2⟩), (by omega)⟩
      rintro A1_ ⟨F861_, hA_, g862_, s863_, c859_, c860_⟩
      subst hA_
      have g864_ : fs [(1, 1, 1, 1), (1, 1, 6, 8), (3, 6, 0, 100000), (7, 13, 0, 100000), (15, 17, 0, 100000), (21, 103, 0, 100000), (119, 119, 2, 3)] F F861_ := fs_tr g663_ s863_ rfl
      have tk865_ : tkh K F861_ := tkh_fs tk664_ s863_ (fun r k h => (fs_n (by omega) rfl)) (fs_n (by omega) rfl)
      refine ga_aload_n (v := .ref 118) hm_117 rfl rfl rfl ?_
      refine ga_getr (b := 1) hm_117 rfl sc_118 rfl ?_
      refine fl_iconst hm_117 rfl ?_
      have b866_ : 0 ≤ F861_ 1 7 ∧ F861_ 1 7 ≤ 600 := gi_g g862_ rfl
      refine gVv (nY := 2) (F := 7) (L := 121) (As := [.int (Int32.ofInt 5)]) (b := 1) (rest := []) hm_117 rfl hm_24 rfl rfl (fl_ob sc_1) rfl rfl rfl rfl rfl (by omega) (by omega) (mc_24 hG F861_ X g862_ (K) (5) hgK tk865_ hko (by omega) (by omega)) ?_ ?_
      ·
        rintro j_ A1_ ⟨F868_, ⟨hJ_, hA_⟩, g869_, s870_, c867_⟩
        subst hA_
        subst hJ_
        refine ⟨rfl, ?_⟩
        refine gw_v ⟨rfl, ?_⟩
        refine gw_v ?_
        have g871_ : fs [(1, 1, 1, 1), (1, 1, 6, 8), (3, 6, 0, 100000), (7, 13, 0, 100000), (15, 17, 0, 100000), (21, 103, 0, 100000), (119, 119, 2, 3)] F F868_ := fs_tr g864_ s870_ rfl
        have b872_ : 0 ≤ F868_ 1 8 ∧ F868_ 1 8 ≤ 100000 := gi_g g869_ rfl
        have e873_ : F29_ 1 1 = F5_ 1 1 := by rw [q30_]; exact (fl_u_ne (by omega)).trans ((fl_u_ne (by omega)).trans (fl_u_ne (by omega)))
        have e874_ : F47_ 1 1 = F5_ 1 1 := (s49_ 1 1 rfl).trans (e873_)
        have e875_ : F66_ 1 1 = F5_ 1 1 := (s68_ 1 1 rfl).trans (e874_)
        have e876_ : F86_ 1 1 = F5_ 1 1 := (s88_ 1 1 rfl).trans (e875_)
        have e877_ : F107_ 1 1 = F5_ 1 1 := (s109_ 1 1 rfl).trans (e876_)
        have e878_ : F119_ 1 1 = F5_ 1 1 := by rw [q120_]; exact (fl_u_ne (by omega)).trans (e877_)
        have e879_ : F142_ 1 1 = F5_ 1 1 := (s144_ 1 1 rfl).trans (e878_)
        have e880_ : F166_ 1 1 = F5_ 1 1 := (s168_ 1 1 rfl).trans (e879_)
        have e881_ : F191_ 1 1 = F5_ 1 1 := (s193_ 1 1 rfl).trans (e880_)
        have e882_ : F587_ 1 1 = F5_ 1 1 := (s589_ 1 1 rfl).trans (e881_)
        have e883_ : F614_ 1 1 = F5_ 1 1 := (s616_ 1 1 rfl).trans (e882_)
        have e884_ : F653_ 1 1 = F5_ 1 1 := (s655_ 1 1 rfl).trans (e883_)
        have e885_ : F1 1 1 = F5_ 1 1 := (hf_F1 1 1 rfl).trans (e884_)
        have e886_ : F861_ 1 1 = F5_ 1 1 := (s863_ 1 1 rfl).trans (e885_)
        have e887_ : F868_ 1 1 = F5_ 1 1 := (s870_ 1 1 rfl).trans (e886_)
        have b888_ : 0 ≤ F5_ 1 1 ∧ F5_ 1 1 ≤ 600 := gi_g g6_ rfl
        exact ⟨F868_, ⟨rfl, rfl⟩, g869_, g871_, (by obtain ⟨e, c1, c2⟩ := c867_; exact ⟨K, e, ⟨hgK, hcut⟩, ⟨(by have hx := hsp.trans (spa_e (by omega) (by omega) (by omega)); simp [sp_dom, sp_open, sp_close, pf, pb, c45_, c64_, c84_, c105_, c140_, c164_, c189_, c199_, ct1_, c612_, cq1_, c859_, hx, c1]), by rw [← hlt_]; exact htf⟩, c2⟩), (by omega)⟩
      rintro A1_ ⟨F892_, hA_, g893_, s894_, c890_, c891_⟩
      subst hA_
      have g895_ : fs [(1, 1, 1, 1), (1, 1, 6, 8), (3, 6, 0, 100000), (7, 13, 0, 100000), (15, 17, 0, 100000), (21, 103, 0, 100000), (119, 119, 2, 3)] F F892_ := fs_tr g864_ s894_ rfl
      have tk896_ : tkh K F892_ := tkh_fs tk865_ s894_ (fun r k h => (fs_n (by omega) rfl)) (fs_n (by omega) rfl)
      refine gr_v hm_117 rfl rfl ?_
      clear h835_ h836_ f833_ l834_
      refine gr_v hm_33 rfl rfl ?_
      have e897_ : F1 11 2 = F653_ 11 2 := (hf_F1 11 2 rfl).trans (rfl)
      have e898_ : F861_ 11 2 = F653_ 11 2 := (s863_ 11 2 rfl).trans (e897_)
      have e899_ : F892_ 11 2 = F653_ 11 2 := (s894_ 11 2 rfl).trans (e898_)
      have b900_ : 0 ≤ F653_ 11 2 ∧ F653_ 11 2 ≤ 6 := gi_g g654_ rfl
      have e901_ : F861_ 15 2 = F1 15 2 := (s863_ 15 2 rfl).trans (rfl)
      have e902_ : F892_ 15 2 = F1 15 2 := (s894_ 15 2 rfl).trans (e901_)
      have b903_ : 0 ≤ F1 15 2 ∧ F1 15 2 ≤ 5 := gi_g hg_F1 rfl
      have e904_ : F119_ 7 0 = K 6 (F107_ 1 7).toNat := by rw [q120_]; exact fl_u_eq
      have e905_ : F142_ 7 0 = K 6 (F107_ 1 7).toNat := (s144_ 7 0 rfl).trans (e904_)
      have e906_ : F166_ 7 0 = K 6 (F107_ 1 7).toNat := (s168_ 7 0 rfl).trans (e905_)
      have e907_ : F191_ 7 0 = K 6 (F107_ 1 7).toNat := (s193_ 7 0 rfl).trans (e906_)
      have e908_ : F587_ 7 0 = K 6 (F107_ 1 7).toNat := (s589_ 7 0 rfl).trans (e907_)
      have e909_ : F614_ 7 0 = K 6 (F107_ 1 7).toNat := (s616_ 7 0 rfl).trans (e908_)
      have e910_ : F653_ 7 0 = K 6 (F107_ 1 7).toNat := (s655_ 7 0 rfl).trans (e909_)
      have e911_ : F1 7 0 = K 6 (F107_ 1 7).toNat := (hf_F1 7 0 rfl).trans (e910_)
      have e912_ : F861_ 7 0 = K 6 (F107_ 1 7).toNat := (s863_ 7 0 rfl).trans (e911_)
      have e913_ : F892_ 7 0 = K 6 (F107_ 1 7).toNat := (s894_ 7 0 rfl).trans (e912_)
      have e914_ : F614_ 8 2 = F587_ 8 2 := (s616_ 8 2 rfl).trans (rfl)
      have e915_ : F653_ 8 2 = F587_ 8 2 := (s655_ 8 2 rfl).trans (e914_)
      have e916_ : F1 8 2 = F587_ 8 2 := (hf_F1 8 2 rfl).trans (e915_)
      have e917_ : F861_ 8 2 = F587_ 8 2 := (s863_ 8 2 rfl).trans (e916_)
      have e918_ : F892_ 8 2 = F587_ 8 2 := (s894_ 8 2 rfl).trans (e917_)
      have b919_ : 0 ≤ F587_ 8 2 ∧ F587_ 8 2 ≤ 4 := gi_g g588_ rfl
      have e920_ : F29_ 1 1 = F5_ 1 1 := by rw [q30_]; exact (fl_u_ne (by omega)).trans ((fl_u_ne (by omega)).trans (fl_u_ne (by omega)))
      have e921_ : F47_ 1 1 = F5_ 1 1 := (s49_ 1 1 rfl).trans (e920_)
      have e922_ : F66_ 1 1 = F5_ 1 1 := (s68_ 1 1 rfl).trans (e921_)
      have e923_ : F86_ 1 1 = F5_ 1 1 := (s88_ 1 1 rfl).trans (e922_)
      have e924_ : F107_ 1 1 = F5_ 1 1 := (s109_ 1 1 rfl).trans (e923_)
      have e925_ : F119_ 1 1 = F5_ 1 1 := by rw [q120_]; exact (fl_u_ne (by omega)).trans (e924_)
      have e926_ : F142_ 1 1 = F5_ 1 1 := (s144_ 1 1 rfl).trans (e925_)
      have e927_ : F166_ 1 1 = F5_ 1 1 := (s168_ 1 1 rfl).trans (e926_)
      have e928_ : F191_ 1 1 = F5_ 1 1 := (s193_ 1 1 rfl).trans (e927_)
      have e929_ : F587_ 1 1 = F5_ 1 1 := (s589_ 1 1 rfl).trans (e928_)
      have e930_ : F614_ 1 1 = F5_ 1 1 := (s616_ 1 1 rfl).trans (e929_)
      have e931_ : F653_ 1 1 = F5_ 1 1 := (s655_ 1 1 rfl).trans (e930_)
      have e932_ : F1 1 1 = F5_ 1 1 := (hf_F1 1 1 rfl).trans (e931_)
      have e933_ : F861_ 1 1 = F5_ 1 1 := (s863_ 1 1 rfl).trans (e932_)
      have e934_ : F892_ 1 1 = F5_ 1 1 := (s894_ 1 1 rfl).trans (e933_)
      have b935_ : 0 ≤ F5_ 1 1 ∧ F5_ 1 1 ≤ 600 := gi_g g6_ rfl
      have e936_ : F29_ 1 8 = 0 := by rw [q30_]; exact (fl_u_ne (by omega)).trans ((fl_u_ne (by omega)).trans ((fl_u_ne (by omega)).trans (hq0)))
      have e937_ : F47_ 1 8 = 0 := (s49_ 1 8 rfl).trans (e936_)
      have e938_ : F66_ 1 8 = 0 := (s68_ 1 8 rfl).trans (e937_)
      have e939_ : F86_ 1 8 = 0 := (s88_ 1 8 rfl).trans (e938_)
      have e940_ : F107_ 1 8 = 0 := (s109_ 1 8 rfl).trans (e939_)
      have e941_ : F119_ 1 8 = 0 := by rw [q120_]; exact (fl_u_ne (by omega)).trans (e940_)
      have e942_ : F142_ 1 8 = 0 := (s144_ 1 8 rfl).trans (e941_)
      have e943_ : F166_ 1 8 = 0 := (s168_ 1 8 rfl).trans (e942_)
      have e944_ : F191_ 1 8 = 0 := (s193_ 1 8 rfl).trans (e943_)
      have e945_ : F587_ 1 8 = 0 := (s589_ 1 8 rfl).trans (e944_)
      have e946_ : F614_ 1 8 = 0 := (s616_ 1 8 rfl).trans (e945_)
      have e947_ : F653_ 1 8 = 0 := (s655_ 1 8 rfl).trans (e946_)
      have e948_ : F1 1 8 = 0 := (hf_F1 1 8 rfl).trans (e947_)
      have e949_ : F861_ 1 8 = 0 := (s863_ 1 8 rfl).trans (e948_)
      have e950_ : F892_ 1 8 = 0 := (s894_ 1 8 rfl).trans (e949_)
      exact ⟨F892_, rfl, g893_, g895_, (⟨K, ts, pl, ps, al, ⟨hgK, hcut⟩, ⟨by have hx := hsp.trans (spa_e (by omega) (by omega) (by omega)); simp [sp_dom, sp_open, sp_close, pf, pb, c45_, c64_, c84_, c105_, c140_, c164_, c189_, c199_, ct1_, c612_, cq1_, c859_, c890_, hx], by rw [← hlt_]; exact htf⟩, ⟨(rep_fs (rep_fs (rep_fs (rep_fs (rep_fs ct2_ s616_ (fun _ => (fs_n (by omega) rfl)) (fs_n (by omega) rfl)) s655_ (fun _ => (fs_n (by omega) (fs_n (by omega) (fs_n (by omega) rfl)))) (fs_n (by omega) (fs_n (by omega) (fs_n (by omega) rfl)))) hf_F1 (fun _ => (fs_n (by omega) (fs_n (by omega) (fs_n (by omega) (fs_n (by omega) rfl))))) (fs_n (by omega) (fs_n (by omega) (fs_n (by omega) (fs_n (by omega) rfl))))) s863_ (fun _ => (fs_n (by omega) rfl)) (fs_n (by omega) rfl)) s894_ (fun _ => (fs_n (by omega) rfl)) (fs_n (by omega) rfl)), (rep_fs (rep_fs (rep_fs cq3_ hf_F1 (fun _ => (fs_n (by omega) (fs_n (by omega) (fs_n (by omega) (fs_n (by omega) rfl))))) (fs_n (by omega) (fs_n (by omega) (fs_n (by omega) (fs_n (by omega) rfl))))) s863_ (fun _ => (fs_n (by omega) rfl)) (fs_n (by omega) rfl)) s894_ (fun _ => (fs_n (by omega) rfl)) (fs_n (by omega) rfl)), (prd_fs (prd_fs (prd_fs cq4_ hf_F1 (fun _ _ _ => (fs_n (by omega) (fs_n (by omega) (fs_n (by omega) (fs_n (by omega) rfl)))))) s863_ (fun _ _ _ => (fs_n (by omega) rfl))) s894_ (fun _ _ _ => (fs_n (by omega) rfl))), cq2_⟩, (rep_fs (rep_fs hal s863_ (fun _ => (fs_n (by omega) rfl)) (fs_n (by omega) rfl)) s894_ (fun _ => (fs_n (by omega) rfl)) (fs_n (by omega) rfl)), (by rw [show al.length = i.toNat by omega]; exact (di_fs (di_fs hdi s863_ (fun _ _ _ => (fs_n (by omega) rfl))) s894_ (fun _ _ _ => (fs_n (by omega) rfl)))), Eq.trans (e913_) (by simp [sp_dnm, sp_open, pb, c45_, c64_, c84_, c105_]), (by have hdd_ : dom_d K = D := (dom_dd (ts := ts) (pl := pl) (ps := ps) (by simp [sp_head, sp_open, sp_close, pf, pb, c45_, c64_, c84_, c105_, c140_, c164_, c189_, c199_, ct1_, c612_, cq1_, c859_, c890_])).trans (hDd.trans (by rw [ad_e (by omega) (by omega) (by omega), List.append_nil])); rw [hdd_]; exact ⟨(dar_fs (dar_fs hD s863_ (fun _ _ _ => (fs_n (by omega) rfl))) s894_ (fun _ _ _ => (fs_n (by omega) rfl))), by omega⟩)⟩), (by omega), (e950_)⟩
    refine fl_iconst hm_153 rfl ?_
    refine fl_goto hm_153 rfl ?_
    refine gr_i hm_153 rfl rfl (ga_nb (by omega)) ?_
    clear h826_ h827_ f824_ l825_
    refine fl_if_eq hm_33 rfl ⟨by omega, by omega⟩ (fun h => absurd h (by omega)) (fun _ => ?_)
    refine ga_aload_n (v := .ref 118) hm_33 rfl rfl rfl ?_
    refine ga_iload_n (z := i) hm_33 rfl rfl ?_
    obtain ⟨Ac, hAc⟩ : ∃ Ac : Nat, Ac = 39 + 13 * i.toNat := ⟨_, rfl⟩
    refine gVv (nY := 2) (F := 11) (L := 215) (As := [.int (Int32.ofInt i)]) (b := 118) (rest := []) hm_33 rfl hm_119 rfl rfl (fl_ob sc_118) rfl rfl rfl rfl rfl (by omega) (by omega) (mc_119 hG F1 X hg_F1 (K) (Ac) (i) (ts) (pl) (al) (alt) (ps) hgK tk664_ hko (by omega) (hAc) (by omega) (by rw [hAc]; exact (ra_18x _ (by omega)).1) (by rw [hAc]; exact (ra_18x _ (by omega)).2.1) (by rw [hAc]; exact (ra_18x _ (by omega)).2.2) ((rep_fs (rep_fs (rep_fs ct2_ s616_ (fun _ => (fs_n (by omega) rfl)) (fs_n (by omega) rfl)) s655_ (fun _ => (fs_n (by omega) (fs_n (by omega) (fs_n (by omega) rfl)))) (fs_n (by omega) (fs_n (by omega) (fs_n (by omega) rfl)))) hf_F1 (fun _ => (fs_n (by omega) (fs_n (by omega) (fs_n (by omega) (fs_n (by omega) rfl))))) (fs_n (by omega) (fs_n (by omega) (fs_n (by omega) (fs_n (by omega) rfl)))))) ((rep_fs cq3_ hf_F1 (fun _ => (fs_n (by omega) (fs_n (by omega) (fs_n (by omega) (fs_n (by omega) rfl))))) (fs_n (by omega) (fs_n (by omega) (fs_n (by omega) (fs_n (by omega) rfl)))))) ((prd_fs cq4_ hf_F1 (fun _ _ _ => (fs_n (by omega) (fs_n (by omega) (fs_n (by omega) (fs_n (by omega) rfl))))))) (cq2_) (hal) (hat) (by omega) (hdi)) ?_ ?_
    ·
      rintro j_ A1_ ⟨F952_, ⟨hJ_, hA_⟩, g953_, s954_, c951_⟩
      subst hA_
      subst hJ_
      refine ⟨rfl, ?_⟩
      refine gw_v ?_
      have g955_ : fs [(1, 1, 1, 1), (1, 1, 6, 8), (3, 6, 0, 100000), (7, 13, 0, 100000), (15, 17, 0, 100000), (21, 103, 0, 100000), (119, 119, 2, 3)] F F952_ := fs_tr g663_ s954_ (by simp [fs_le]; try omega)
      have b956_ : 0 ≤ F952_ 1 8 ∧ F952_ 1 8 ≤ 100000 := gi_g g953_ rfl
      have e957_ : F29_ 1 1 = F5_ 1 1 := by rw [q30_]; exact (fl_u_ne (by omega)).trans ((fl_u_ne (by omega)).trans (fl_u_ne (by omega)))
      have e958_ : F47_ 1 1 = F5_ 1 1 := (s49_ 1 1 rfl).trans (e957_)
      have e959_ : F66_ 1 1 = F5_ 1 1 := (s68_ 1 1 rfl).trans (e958_)
      have e960_ : F86_ 1 1 = F5_ 1 1 := (s88_ 1 1 rfl).trans (e959_)
      have e961_ : F107_ 1 1 = F5_ 1 1 := (s109_ 1 1 rfl).trans (e960_)
      have e962_ : F119_ 1 1 = F5_ 1 1 := by rw [q120_]; exact (fl_u_ne (by omega)).trans (e961_)
      have e963_ : F142_ 1 1 = F5_ 1 1 := (s144_ 1 1 rfl).trans (e962_)
      have e964_ : F166_ 1 1 = F5_ 1 1 := (s168_ 1 1 rfl).trans (e963_)
      have e965_ : F191_ 1 1 = F5_ 1 1 := (s193_ 1 1 rfl).trans (e964_)
      have e966_ : F587_ 1 1 = F5_ 1 1 := (s589_ 1 1 rfl).trans (e965_)
      have e967_ : F614_ 1 1 = F5_ 1 1 := (s616_ 1 1 rfl).trans (e966_)
      have e968_ : F653_ 1 1 = F5_ 1 1 := (s655_ 1 1 rfl).trans (e967_)
      have e969_ : F1 1 1 = F5_ 1 1 := (hf_F1 1 1 rfl).trans (e968_)
      have e970_ : F952_ 1 1 = F5_ 1 1 := (s954_ 1 1 (fs_n (by omega) (fs_n (by omega) (fs_n (by omega) (fs_n (by omega) rfl))))).trans (e969_)
      have b971_ : 0 ≤ F5_ 1 1 ∧ F5_ 1 1 ≤ 600 := gi_g g6_ rfl
      exact ⟨F952_, ⟨rfl, rfl⟩, g953_, g955_, (by obtain ⟨e, c1, c2⟩ := c951_; exact ⟨K, e, ⟨hgK, hcut⟩, ⟨(by have hx := hsp; rw [spa_step (by omega) (by omega) (by omega), c1] at hx; simp only [pb] at hx; simp [sp_dom, sp_open, sp_close, pf, pb, c45_, c64_, c84_, c105_, c140_, c164_, c189_, c199_, ct1_, c612_, cq1_, hx]), by rw [← hlt_]; exact htf⟩, c2⟩), (by omega)⟩
    rintro A1_ ⟨F977_, hA_, g978_, s979_, c973_, c974_, c975_, c976_⟩
    subst hA_
    have g980_ : fs [(1, 1, 1, 1), (1, 1, 6, 8), (3, 6, 0, 100000), (7, 13, 0, 100000), (15, 17, 0, 100000), (21, 103, 0, 100000), (119, 119, 2, 3)] F F977_ := fs_tr g663_ s979_ (by simp [fs_le]; try omega)
    have tk981_ : tkh K F977_ := tkh_fs tk664_ s979_ (fun r k h => (fs_n (by omega) (fs_n (by omega) (fs_n (by omega) (fs_n (by omega) rfl))))) (fs_n (by omega) (fs_n (by omega) (fs_n (by omega) (fs_n (by omega) rfl))))
    obtain ⟨al2_, alt2_, ⟨ca1_, ca4_⟩, ca2_, ca3_⟩ := c973_
    refine ga_inc (a := i) (c := i + 1) (lv2 := [(1, .int (Int32.ofInt (i + 1))), (0, .ref 118)]) hm_33 rfl rfl (Nat.le_of_ble_eq_true rfl) rfl rfl ?_
    refine fl_goto hm_33 rfl ?_
    have b982_ : 0 ≤ F977_ 15 2 ∧ F977_ 15 2 ≤ 5 := gi_g g978_ rfl
    have b983_ : 0 ≤ F1 15 2 ∧ F1 15 2 ≤ 5 := gi_g hg_F1 rfl
    have b984_ : 0 ≤ F977_ 1 7 ∧ F977_ 1 7 ≤ 600 := gi_g g978_ rfl
    have b985_ : 0 ≤ K 1 6 ∧ K 1 6 ≤ 601 := gi_g hgK rfl
    exact ih660_ _ (by omega) (i + 1) (_) (_) (_) F977_ rfl g978_ (fs_tr hf_F1 s979_ (by simp [fs_le]; try omega)) (by omega) (ca2_) (ca3_) (ca4_) (by omega) (c975_) (by rw [hsp, spa_step (by omega) (by omega) (by omega), ca1_]; rfl) (by simp; omega) (dar_add (dar_fs hD s979_ (fun _ _ _ => (fs_n (by omega) (fs_n (by omega) (fs_n (by omega) (fs_n (by omega) rfl)))))) (by omega) c976_) (by rw [hDd, ad_step (by omega) (by omega) (by omega) ca1_, List.append_cons])
  have e986_ : F29_ 15 2 = 0 := by rw [q30_]; exact fl_u_eq
  have e987_ : F47_ 15 2 = 0 := (s49_ 15 2 rfl).trans (e986_)
  have e988_ : F66_ 15 2 = 0 := (s68_ 15 2 rfl).trans (e987_)
  have e989_ : F86_ 15 2 = 0 := (s88_ 15 2 rfl).trans (e988_)
  have e990_ : F107_ 15 2 = 0 := (s109_ 15 2 rfl).trans (e989_)
  have e991_ : F119_ 15 2 = 0 := by rw [q120_]; exact (fl_u_ne (by omega)).trans (e990_)
  have e992_ : F142_ 15 2 = 0 := (s144_ 15 2 rfl).trans (e991_)
  have e993_ : F166_ 15 2 = 0 := (s168_ 15 2 rfl).trans (e992_)
  have e994_ : F191_ 15 2 = 0 := (s193_ 15 2 rfl).trans (e993_)
  have e995_ : F587_ 15 2 = 0 := (s589_ 15 2 rfl).trans (e994_)
  have e996_ : F614_ 15 2 = 0 := (s616_ 15 2 rfl).trans (e995_)
  have e997_ : F653_ 15 2 = 0 := (s655_ 15 2 rfl).trans (e996_)
  have b998_ : 0 ≤ K 1 6 ∧ K 1 6 ≤ 601 := gi_g hgK rfl
  exact L659_ _ (0) ([]) ([]) ([]) F653_ rfl g654_ fs_refl (by omega) (rep_0 (e997_)) (rep_0 (e997_)) (by simp) (by omega) (fun j hj => absurd hj (by simp)) (by simp) (by simp) (dar_nil) (by simp)

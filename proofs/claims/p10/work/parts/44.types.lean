/- CheapPlanner$Reader.readTypes -/
abbrev pq_128 (G : Nat → Nat → Option Nat) (F : fl_N) (X : xi_H) (K : fl_N) : Outcome → xi_H → Prop := gqv (fun A => ∃ F' : fl_N, fl_H sh_T G F' ++ X = A ∧ gi F' ∧ fs [(1, 1, 7, 7), (8, 10, 0, 100000)] F F' ∧ (∃ ts, sp_rtypes K (F 1 7) = .inr (F' 1 7, ts) ∧ rep (F' 9) (F' 8 2) ts) ∧ (0 ≤ F' 1 7 ∧ F' 1 7 ≤ K 1 6 - 1)) (fun j A => ∃ F' : fl_N, (387 + X.length = j ∧ fl_H sh_T G F' ++ (X ++ [gx 14]) = A) ∧ gi F' ∧ fs [(1, 1, 7, 8), (8, 10, 0, 100000)] F F' ∧ (∃ e, sp_rtypes K (F 1 7) = .inl e ∧ F' 1 8 = e.1 + 10 * e.2))
theorem mc_128 {G : Nat → Nat → Option Nat} (hG : gg G) (F : fl_N) (X : xi_H) (hgi : gi F) (K : fl_N) (hgK : gi K) (hK : tkh K F) (hko : tko K) (hp : 0 ≤ F 1 7 ∧ F 1 7 ≤ K 1 6 - 1) (hl0 : rep (F 9) (F 8 2) []) (ht0 : rep (F 10) (F 8 2) []) : fl_M xi_ms 128 8 144 [.ref 118] (fl_H sh_T G F ++ X) (pq_128 G F X K) := by
  intro fr lo hfr hlo
  show fl_R xi_ms 128 fr lo 0 [(0, .ref 118)] [] _ _
  refine ga_aload_n (v := .ref 118) hm_128 rfl rfl rfl ?_
  refine ga_getr (b := 1) hm_128 rfl sc_118 rfl ?_
  refine ga_ldcs hm_128 rfl ?_
  have b1_ : 0 ≤ F 1 7 ∧ F 1 7 ≤ 600 := gi_g hgi rfl
  refine gVv (nY := 2) (F := 7) (L := 123) (As := [.retAddr 3]) (b := 1) (rest := []) hm_128 rfl hm_155 rfl rfl (fl_ob sc_1) rfl rfl rfl rfl rfl (by omega) (by omega) (mc_155 hG F X hgi (K) (3) ([58, 116, 121, 112, 101, 115]) hgK hK hko (by omega) (rfl) (by decide)) ?_ ?_
  ·
    rintro j_ A1_ ⟨F3_, ⟨hJ_, hA_⟩, g4_, s5_, c2_⟩
    subst hA_
    subst hJ_
    refine ⟨rfl, ?_⟩
    refine gw_v ?_
    have g6_ : fs [(1, 1, 7, 8), (8, 10, 0, 100000)] F F3_ := fs_tr fs_refl s5_ rfl
    have b7_ : 0 ≤ F3_ 1 8 ∧ F3_ 1 8 ≤ 100000 := gi_g g4_ rfl
    exact ⟨F3_, ⟨rfl, rfl⟩, g4_, g6_, (by obtain ⟨e, c1, c2⟩ := c2_; exact ⟨e, (by simp [sp_rtypes, c1, pf, pb]), c2⟩)⟩
  rintro A1_ ⟨F11_, hA_, g12_, s13_, c9_, c10_⟩
  subst hA_
  have g14_ : fs [(1, 1, 7, 7), (8, 10, 0, 100000)] F F11_ := fs_tr fs_refl s13_ rfl
  have tk15_ : tkh K F11_ := tkh_fs hK s13_ (fun r k h => (fs_n (by omega) rfl)) (fs_n (by omega) rfl)
  have hw0 := c9_
  refine fl_iconst hm_128 rfl ?_
  refine ga_istore_n (lv2 := [(1, .int (Int32.ofInt 0)), (0, .ref 118)]) hm_128 rfl (Nat.le_of_ble_eq_true rfl) rfl ?_
  have b19_ : 0 ≤ F11_ 1 7 ∧ F11_ 1 7 ≤ 600 := gi_g g12_ rfl
  have L17_ : ∀ (n16_ : Nat) (i : Int) (l : List Int) (tl : List Int) (F1 : fl_N), (4 - i : Int).toNat = n16_ → (gi F1) → (fs [(1, 1, 7, 7), (8, 10, 0, 100000)] F11_ F1) → (0 ≤ i ∧ i ≤ 4) → (rep (F1 9) (F1 8 2) l) → (rep (F1 10) (F1 8 2) tl) → ((l.length : Int) = i) → (0 ≤ F1 1 7 ∧ F1 1 7 ≤ K 1 6 - 1) → (sp_types K 4 [] (F11_ 1 7) = sp_types K (4 - i).toNat l (F1 1 7)) → fl_R xi_ms 128 fr lo 11 [(1, .int (Int32.ofInt i)), (0, .ref 118)] [] (fl_H sh_T G F1 ++ X) (pq_128 G F X K) := by
    intro n16_
    induction n16_ using Nat.strongRecOn with
    | ind n16_ ih18_ =>
    intro i l tl F1 hn20_ hg_F1 hf_F1 hi hl htl hli hp1 hsp
    have g21_ : fs [(1, 1, 7, 7), (8, 10, 0, 100000)] F F1 := fs_tr g14_ hf_F1 rfl
    have tk22_ : tkh K F1 := tkh_fs tk15_ hf_F1 (fun r k h => (fs_n (by omega) (fs_n (by omega) rfl))) (fs_n (by omega) (fs_n (by omega) rfl))
    refine ga_iload_n (z := i) hm_128 rfl rfl ?_
    refine fl_iconst hm_128 rfl ?_
    refine fl_icmp_ge (a := i) (b := 4) hm_128 rfl ⟨by omega, by omega⟩ ⟨by omega, by omega⟩ (fun h23_ => ?_) (fun h24_ => ?_)
    ·
      refine ga_aload_n (v := .ref 118) hm_128 rfl rfl rfl ?_
      refine ga_getr (b := 1) hm_128 rfl sc_118 rfl ?_
      refine fl_iconst hm_128 rfl ?_
      have b25_ : 0 ≤ F1 1 7 ∧ F1 1 7 ≤ 600 := gi_g hg_F1 rfl
      refine gVv (nY := 2) (F := 7) (L := 121) (As := [.int (Int32.ofInt 1)]) (b := 1) (rest := []) hm_128 rfl hm_24 rfl rfl (fl_ob sc_1) rfl rfl rfl rfl rfl (by omega) (by omega) (mc_24 hG F1 X hg_F1 (K) (1) hgK tk22_ hko (by omega) (by omega)) ?_ ?_
      ·
        rintro j_ A1_ ⟨F27_, ⟨hJ_, hA_⟩, g28_, s29_, c26_⟩
        subst hA_
        subst hJ_
        refine ⟨rfl, ?_⟩
        refine gw_v ?_
        have g30_ : fs [(1, 1, 7, 8), (8, 10, 0, 100000)] F F27_ := fs_tr (fs_tr fs_refl g21_ rfl) s29_ rfl
        have b31_ : 0 ≤ F27_ 1 8 ∧ F27_ 1 8 ≤ 100000 := gi_g g28_ rfl
        exact ⟨F27_, ⟨rfl, rfl⟩, g28_, g30_, (by obtain ⟨e, c1, c2⟩ := c26_; exact ⟨e, (by rw [sp_rtypes, hw0]; simp only [pb]; rw [hsp, spt_z (by omega)]; simp only; rw [c1]), c2⟩)⟩
      rintro A1_ ⟨F35_, hA_, g36_, s37_, c33_, c34_⟩
      subst hA_
      have g38_ : fs [(1, 1, 7, 7), (8, 10, 0, 100000)] F F35_ := fs_tr g21_ s37_ rfl
      have tk39_ : tkh K F35_ := tkh_fs tk22_ s37_ (fun r k h => (fs_n (by omega) rfl)) (fs_n (by omega) rfl)
      refine gr_v hm_128 rfl rfl ?_
      have b40_ : 0 ≤ F35_ 1 7 ∧ F35_ 1 7 ≤ 600 := gi_g g36_ rfl
      have e41_ : F35_ 8 2 = F1 8 2 := (s37_ 8 2 rfl).trans (rfl)
      have b42_ : 0 ≤ F1 8 2 ∧ F1 8 2 ≤ 4 := gi_g hg_F1 rfl
      exact ⟨F35_, rfl, g36_, g38_, (⟨l, by rw [sp_rtypes, hw0]; simp only [pb]; rw [hsp, spt_z (by omega)]; simp only; rw [c33_], (rep_fs hl s37_ (fun _ => (fs_n (by omega) rfl)) (fs_n (by omega) rfl))⟩), (by omega)⟩
    refine ga_iload_n (z := i) hm_128 rfl rfl ?_
    refine fl_if_eq (a := i) hm_128 rfl ⟨by omega, by omega⟩ (fun h43_ => ?_) (fun h44_ => ?_)
    ·
      refine ga_aload_n (v := .ref 118) hm_128 rfl rfl rfl ?_
      refine ga_aload_n (v := .ref 118) hm_128 rfl rfl rfl ?_
      refine ga_getr (b := 7) hm_128 rfl sc_118 rfl ?_
      refine ga_getr (b := 8) hm_128 rfl sc_7 rfl ?_
      refine fl_iconst hm_128 rfl ?_
      have b45_ : 0 ≤ F1 1 7 ∧ F1 1 7 ≤ 600 := gi_g hg_F1 rfl
      refine gVv (nY := 3) (F := 7) (L := 121) (As := [.ref 8, .int (Int32.ofInt 2)]) (b := 118) (rest := []) hm_128 rfl hm_121 rfl rfl (fl_ob sc_118) rfl rfl rfl rfl rfl (by omega) (by omega) (mc_121 hG F1 X hg_F1 (K) (8) (4) (2) (l) (tl) hgK tk22_ hko (by omega) nm_8 (by omega) (hl) (htl) (by omega)) ?_ ?_
      ·
        rintro j_ A1_ ⟨F47_, ⟨hJ_, hA_⟩, g48_, s49_, c46_⟩
        subst hA_
        subst hJ_
        refine ⟨rfl, ?_⟩
        refine gw_v ?_
        have g50_ : fs [(1, 1, 7, 8), (8, 10, 0, 100000)] F F47_ := fs_tr (fs_tr fs_refl g21_ rfl) s49_ rfl
        have b51_ : 0 ≤ F47_ 1 8 ∧ F47_ 1 8 ≤ 100000 := gi_g g48_ rfl
        exact ⟨F47_, ⟨rfl, rfl⟩, g48_, g50_, (by obtain ⟨e, c1, c2⟩ := c46_; exact ⟨e, (by rw [sp_rtypes, hw0]; simp only [pb]; rw [hsp, spt_step (by omega) (by omega) (by omega), c1]; rfl), c2⟩)⟩
      rintro A1_ ⟨F57_, hA_, g58_, s59_, c53_, c54_, c55_, c56_⟩
      subst hA_
      have g60_ : fs [(1, 1, 7, 7), (8, 10, 0, 100000)] F F57_ := fs_tr g21_ s59_ rfl
      have tk61_ : tkh K F57_ := tkh_fs tk22_ s59_ (fun r k h => (fs_n (by omega) (fs_n (by omega) rfl))) (fs_n (by omega) (fs_n (by omega) rfl))
      refine ga_inc (a := i) (c := i + 1) (lv2 := [(1, .int (Int32.ofInt (i + 1))), (0, .ref 118)]) hm_128 rfl rfl (Nat.le_of_ble_eq_true rfl) rfl rfl ?_
      refine fl_goto hm_128 rfl ?_
      have b62_ : 0 ≤ F57_ 8 2 ∧ F57_ 8 2 ≤ 4 := gi_g g58_ rfl
      have b63_ : 0 ≤ F1 8 2 ∧ F1 8 2 ≤ 4 := gi_g hg_F1 rfl
      have b64_ : 0 ≤ F57_ 1 7 ∧ F57_ 1 7 ≤ 600 := gi_g g58_ rfl
      have b65_ : 0 ≤ K 1 6 ∧ K 1 6 ≤ 601 := gi_g hgK rfl
      exact ih18_ _ (by omega) (i + 1) (_) (_) F57_ rfl g58_ (fs_tr hf_F1 s59_ rfl) (by omega) (c55_) (c56_) (by simp; omega) (by omega) (by rw [hsp, spt_step (by omega) (by omega) (by omega), c53_]; rfl)
    refine ga_aload_n (v := .ref 118) hm_128 rfl rfl rfl ?_
    refine ga_getr (b := 1) hm_128 rfl sc_118 rfl ?_
    refine fl_iconst hm_128 rfl ?_
    refine gIi (nY := 2) (F := 0) (L := 0) (As := [.int (Int32.ofInt 1)]) (b := 1) (rest := []) hm_128 rfl hm_153 rfl rfl (fl_ob sc_1) rfl rfl rfl rfl rfl (by omega) (by omega) ?_
    intro f66_ l67_ h68_ h69_
    show fl_R xi_ms 153 f66_ l67_ 0 [(0, .ref 1), (1, .int (Int32.ofInt 1))] [] _ _
    refine ga_aload_n (v := .ref 1) hm_153 rfl rfl rfl ?_
    refine ga_getr (b := 3) hm_153 rfl sc_1 rfl ?_
    refine ga_aload_n (v := .ref 1) hm_153 rfl rfl rfl ?_
    have b70_ : 0 ≤ F1 1 7 ∧ F1 1 7 ≤ 600 := gi_g hg_F1 rfl
    refine ga_geti (z := F1 1 7) hm_153 rfl sc_1 rfl (rfl) ?_
    have e71_ : F1 3 (F1 1 7).toNat = K 3 (F1 1 7).toNat := tk22_.1 3 (F1 1 7).toNat (by omega)
    have b72_ : 0 ≤ K 3 (F1 1 7).toNat ∧ K 3 (F1 1 7).toNat ≤ 5 := gi_g hgK rfl
    refine ga_iald (z := F1 1 7) (w := K 3 (F1 1 7).toNat) hm_153 rfl sc_3 (by omega) (by omega) (by omega) (e71_) ?_
    refine ga_iload_n (z := 1) hm_153 rfl rfl ?_
    refine fx_icmp_ne (a := K 3 (F1 1 7).toNat) (b := 1) hm_153 rfl ⟨by omega, by omega⟩ ⟨by omega, by omega⟩ (fun h73_ => ?_) (fun h74_ => ?_)
    ·
      refine fl_iconst hm_153 rfl ?_
      refine gr_i hm_153 rfl rfl (ga_nb (by omega)) ?_
      clear h68_ h69_ f66_ l67_
      refine fl_if_ne hm_128 rfl ⟨by omega, by omega⟩ (fun h => absurd h (by omega)) (fun _ => ?_)
      refine ga_aload_n (v := .ref 118) hm_128 rfl rfl rfl ?_
      refine ga_aload_n (v := .ref 118) hm_128 rfl rfl rfl ?_
      refine ga_getr (b := 7) hm_128 rfl sc_118 rfl ?_
      refine ga_getr (b := 8) hm_128 rfl sc_7 rfl ?_
      refine fl_iconst hm_128 rfl ?_
      refine gVv (nY := 3) (F := 7) (L := 121) (As := [.ref 8, .int (Int32.ofInt 2)]) (b := 118) (rest := []) hm_128 rfl hm_121 rfl rfl (fl_ob sc_118) rfl rfl rfl rfl rfl (by omega) (by omega) (mc_121 hG F1 X hg_F1 (K) (8) (4) (2) (l) (tl) hgK tk22_ hko (by omega) nm_8 (by omega) (hl) (htl) (by omega)) ?_ ?_
      ·
        rintro j_ A1_ ⟨F76_, ⟨hJ_, hA_⟩, g77_, s78_, c75_⟩
        subst hA_
        subst hJ_
        refine ⟨rfl, ?_⟩
        refine gw_v ?_
        have g79_ : fs [(1, 1, 7, 8), (8, 10, 0, 100000)] F F76_ := fs_tr (fs_tr fs_refl g21_ rfl) s78_ rfl
        have b80_ : 0 ≤ F76_ 1 8 ∧ F76_ 1 8 ≤ 100000 := gi_g g77_ rfl
        exact ⟨F76_, ⟨rfl, rfl⟩, g77_, g79_, (by obtain ⟨e, c1, c2⟩ := c75_; exact ⟨e, (by rw [sp_rtypes, hw0]; simp only [pb]; rw [hsp, spt_step (by omega) (by omega) (by omega), c1]; rfl), c2⟩)⟩
      rintro A1_ ⟨F86_, hA_, g87_, s88_, c82_, c83_, c84_, c85_⟩
      subst hA_
      have g89_ : fs [(1, 1, 7, 7), (8, 10, 0, 100000)] F F86_ := fs_tr g21_ s88_ rfl
      have tk90_ : tkh K F86_ := tkh_fs tk22_ s88_ (fun r k h => (fs_n (by omega) (fs_n (by omega) rfl))) (fs_n (by omega) (fs_n (by omega) rfl))
      refine ga_inc (a := i) (c := i + 1) (lv2 := [(1, .int (Int32.ofInt (i + 1))), (0, .ref 118)]) hm_128 rfl rfl (Nat.le_of_ble_eq_true rfl) rfl rfl ?_
      refine fl_goto hm_128 rfl ?_
      have b91_ : 0 ≤ F86_ 8 2 ∧ F86_ 8 2 ≤ 4 := gi_g g87_ rfl
      have b92_ : 0 ≤ F1 8 2 ∧ F1 8 2 ≤ 4 := gi_g hg_F1 rfl
      have b93_ : 0 ≤ F86_ 1 7 ∧ F86_ 1 7 ≤ 600 := gi_g g87_ rfl
      have b94_ : 0 ≤ K 1 6 ∧ K 1 6 ≤ 601 := gi_g hgK rfl
      exact ih18_ _ (by omega) (i + 1) (_) (_) F86_ rfl g87_ (fs_tr hf_F1 s88_ rfl) (by omega) (c84_) (c85_) (by simp; omega) (by omega) (by rw [hsp, spt_step (by omega) (by omega) (by omega), c82_]; rfl)
    refine fl_iconst hm_153 rfl ?_
    refine fl_goto hm_153 rfl ?_
    refine gr_i hm_153 rfl rfl (ga_nb (by omega)) ?_
    clear h68_ h69_ f66_ l67_
    refine fl_if_ne hm_128 rfl ⟨by omega, by omega⟩ (fun _ => ?_) (fun h => absurd (by omega) h)
    refine ga_aload_n (v := .ref 118) hm_128 rfl rfl rfl ?_
    refine ga_getr (b := 1) hm_128 rfl sc_118 rfl ?_
    refine fl_iconst hm_128 rfl ?_
    refine gVv (nY := 2) (F := 7) (L := 121) (As := [.int (Int32.ofInt 1)]) (b := 1) (rest := []) hm_128 rfl hm_24 rfl rfl (fl_ob sc_1) rfl rfl rfl rfl rfl (by omega) (by omega) (mc_24 hG F1 X hg_F1 (K) (1) hgK tk22_ hko (by omega) (by omega)) ?_ ?_
    ·
      rintro j_ A1_ ⟨F96_, ⟨hJ_, hA_⟩, g97_, s98_, c95_⟩
      subst hA_
      subst hJ_
      refine ⟨rfl, ?_⟩
      refine gw_v ?_
      have g99_ : fs [(1, 1, 7, 8), (8, 10, 0, 100000)] F F96_ := fs_tr (fs_tr fs_refl g21_ rfl) s98_ rfl
      have b100_ : 0 ≤ F96_ 1 8 ∧ F96_ 1 8 ≤ 100000 := gi_g g97_ rfl
      exact ⟨F96_, ⟨rfl, rfl⟩, g97_, g99_, (by obtain ⟨e, c1, c2⟩ := c95_; exact ⟨e, (by rw [sp_rtypes, hw0]; simp only [pb]; rw [hsp, spt_e (by omega) (by omega) (by omega)]; simp only; rw [c1]), c2⟩)⟩
    rintro A1_ ⟨F104_, hA_, g105_, s106_, c102_, c103_⟩
    subst hA_
    have g107_ : fs [(1, 1, 7, 7), (8, 10, 0, 100000)] F F104_ := fs_tr g21_ s106_ rfl
    have tk108_ : tkh K F104_ := tkh_fs tk22_ s106_ (fun r k h => (fs_n (by omega) rfl)) (fs_n (by omega) rfl)
    refine gr_v hm_128 rfl rfl ?_
    have b109_ : 0 ≤ F104_ 1 7 ∧ F104_ 1 7 ≤ 600 := gi_g g105_ rfl
    have e110_ : F104_ 8 2 = F1 8 2 := (s106_ 8 2 rfl).trans (rfl)
    have b111_ : 0 ≤ F1 8 2 ∧ F1 8 2 ≤ 4 := gi_g hg_F1 rfl
    exact ⟨F104_, rfl, g105_, g107_, (⟨l, by rw [sp_rtypes, hw0]; simp only [pb]; rw [hsp, spt_e (by omega) (by omega) (by omega)]; simp only; rw [c102_], (rep_fs hl s106_ (fun _ => (fs_n (by omega) rfl)) (fs_n (by omega) rfl))⟩), (by omega)⟩
  have e112_ : F11_ 8 2 = F 8 2 := (s13_ 8 2 rfl).trans (rfl)
  have b113_ : 0 ≤ F 8 2 ∧ F 8 2 ≤ 4 := gi_g hgi rfl
  have b114_ : 0 ≤ K 1 6 ∧ K 1 6 ≤ 601 := gi_g hgK rfl
  exact L17_ _ (0) ([]) ([]) F11_ rfl g12_ fs_refl (by omega) (rep_fs hl0 s13_ (fun _ => (fs_n (by omega) rfl)) (fs_n (by omega) rfl)) (rep_fs ht0 s13_ (fun _ => (fs_n (by omega) rfl)) (fs_n (by omega) rfl)) (by simp) (by omega) (by simp)
/- CheapPlanner$Reader.readPredicates -/
abbrev pq_124 (G : Nat → Nat → Option Nat) (F : fl_N) (X : xi_H) (K : fl_N) (ts : List Int) : Outcome → xi_H → Prop := gqv (fun A => ∃ F' : fl_N, fl_H sh_T G F' ++ X = A ∧ gi F' ∧ fs [(1, 1, 7, 7), (11, 13, 0, 100000), (21, 38, 0, 100000)] F F' ∧ (∃ l ps, (sp_rpreds K ts (F 1 7) = .inr (F' 1 7, l, ps) ∧ l.length = ps.length) ∧ rep (F' 12) (F' 11 2) l ∧ prd F' ps) ∧ (0 ≤ F' 1 7 ∧ F' 1 7 ≤ K 1 6 - 1)) (fun j A => ∃ F' : fl_N, (387 + X.length = j ∧ fl_H sh_T G F' ++ (X ++ [gx 14]) = A) ∧ gi F' ∧ fs [(1, 1, 7, 8), (11, 13, 0, 100000), (21, 38, 0, 100000)] F F' ∧ (∃ e, sp_rpreds K ts (F 1 7) = .inl e ∧ F' 1 8 = e.1 + 10 * e.2))
theorem mc_124 {G : Nat → Nat → Option Nat} (hG : gg G) (F : fl_N) (X : xi_H) (hgi : gi F) (K : fl_N) (ts : List Int) (hgK : gi K) (hK : tkh K F) (hko : tko K) (hp : 0 ≤ F 1 7 ∧ F 1 7 ≤ K 1 6 - 1) (hts : rep (F 9) (F 8 2) ts) (hl0 : rep (F 12) (F 11 2) []) (ht0 : rep (F 13) (F 11 2) []) : fl_M xi_ms 124 10 188 [.ref 118] (fl_H sh_T G F ++ X) (pq_124 G F X K ts) := by
  intro fr lo hfr hlo
  show fl_R xi_ms 124 fr lo 0 [(0, .ref 118)] [] _ _
  refine ga_aload_n (v := .ref 118) hm_124 rfl rfl rfl ?_
  refine ga_getr (b := 1) hm_124 rfl sc_118 rfl ?_
  refine ga_ldcs hm_124 rfl ?_
  have b1_ : 0 ≤ F 1 7 ∧ F 1 7 ≤ 600 := gi_g hgi rfl
  refine gVv (nY := 2) (F := 7) (L := 123) (As := [.retAddr 4]) (b := 1) (rest := []) hm_124 rfl hm_155 rfl rfl (fl_ob sc_1) rfl rfl rfl rfl rfl (by omega) (by omega) (mc_155 hG F X hgi (K) (4) ([58, 112, 114, 101, 100, 105, 99, 97, 116, 101, 115]) hgK hK hko (by omega) (rfl) (by decide)) ?_ ?_
  ·
    rintro j_ A1_ ⟨F3_, ⟨hJ_, hA_⟩, g4_, s5_, c2_⟩
    subst hA_
    subst hJ_
    refine ⟨rfl, ?_⟩
    refine gw_v ?_
    have g6_ : fs [(1, 1, 7, 8), (11, 13, 0, 100000), (21, 38, 0, 100000)] F F3_ := fs_tr fs_refl s5_ rfl
    have b7_ : 0 ≤ F3_ 1 8 ∧ F3_ 1 8 ≤ 100000 := gi_g g4_ rfl
    exact ⟨F3_, ⟨rfl, rfl⟩, g4_, g6_, (by obtain ⟨e, c1, c2⟩ := c2_; exact ⟨e, (by simp [sp_rpreds, c1, pf, pb]), c2⟩)⟩
  rintro A1_ ⟨F11_, hA_, g12_, s13_, c9_, c10_⟩
  subst hA_
  have g14_ : fs [(1, 1, 7, 7), (11, 13, 0, 100000), (21, 38, 0, 100000)] F F11_ := fs_tr fs_refl s13_ rfl
  have tk15_ : tkh K F11_ := tkh_fs hK s13_ (fun r k h => (fs_n (by omega) rfl)) (fs_n (by omega) rfl)
  have hw0 := c9_
  refine fl_iconst hm_124 rfl ?_
  refine ga_istore_n (lv2 := [(1, .int (Int32.ofInt 0)), (0, .ref 118)]) hm_124 rfl (Nat.le_of_ble_eq_true rfl) rfl ?_
  have b19_ : 0 ≤ F11_ 1 7 ∧ F11_ 1 7 ≤ 600 := gi_g g12_ rfl
  have L17_ : ∀ (n16_ : Nat) (i : Int) (l : List Int) (tl : List Int) (ps : List (List Int)) (F1 : fl_N), (6 - i : Int).toNat = n16_ → (gi F1) → (fs [(1, 1, 7, 7), (11, 13, 0, 100000), (21, 38, 0, 100000)] F11_ F1) → (0 ≤ i ∧ i ≤ 6) → (rep (F1 12) (F1 11 2) l) → (rep (F1 13) (F1 11 2) tl) → ((l.length : Int) = i) → (0 ≤ F1 1 7 ∧ F1 1 7 ≤ K 1 6 - 1) → (prd F1 ps ∧ (ps.length : Int) = i) → (sp_preds K ts 6 [] [] (F11_ 1 7) = sp_preds K ts (6 - i).toNat l ps (F1 1 7)) → fl_R xi_ms 124 fr lo 11 [(1, .int (Int32.ofInt i)), (0, .ref 118)] [] (fl_H sh_T G F1 ++ X) (pq_124 G F X K ts) := by
    intro n16_
    induction n16_ using Nat.strongRecOn with
    | ind n16_ ih18_ =>
    intro i l tl ps F1 hn20_ hg_F1 hf_F1 hi hl htl hli hp1 hpr hsp
    have g21_ : fs [(1, 1, 7, 7), (11, 13, 0, 100000), (21, 38, 0, 100000)] F F1 := fs_tr g14_ hf_F1 rfl
    have tk22_ : tkh K F1 := tkh_fs tk15_ hf_F1 (fun r k h => (fs_n (by omega) (fs_n (by omega) (fs_n (by omega) rfl)))) (fs_n (by omega) (fs_n (by omega) (fs_n (by omega) rfl)))
    have hpn := hpr.2
    refine ga_iload_n (z := i) hm_124 rfl rfl ?_
    refine fl_bipush hm_124 rfl rfl ?_
    refine fl_icmp_ge (a := i) (b := 6) hm_124 rfl ⟨by omega, by omega⟩ ⟨by omega, by omega⟩ (fun h23_ => ?_) (fun h24_ => ?_)
    ·
      refine ga_aload_n (v := .ref 118) hm_124 rfl rfl rfl ?_
      refine ga_getr (b := 1) hm_124 rfl sc_118 rfl ?_
      refine fl_iconst hm_124 rfl ?_
      have b25_ : 0 ≤ F1 1 7 ∧ F1 1 7 ≤ 600 := gi_g hg_F1 rfl
      refine gVv (nY := 2) (F := 7) (L := 121) (As := [.int (Int32.ofInt 1)]) (b := 1) (rest := []) hm_124 rfl hm_24 rfl rfl (fl_ob sc_1) rfl rfl rfl rfl rfl (by omega) (by omega) (mc_24 hG F1 X hg_F1 (K) (1) hgK tk22_ hko (by omega) (by omega)) ?_ ?_
      ·
        rintro j_ A1_ ⟨F27_, ⟨hJ_, hA_⟩, g28_, s29_, c26_⟩
        subst hA_
        subst hJ_
        refine ⟨rfl, ?_⟩
        refine gw_v ?_
        have g30_ : fs [(1, 1, 7, 8), (11, 13, 0, 100000), (21, 38, 0, 100000)] F F27_ := fs_tr (fs_tr fs_refl g21_ rfl) s29_ rfl
        have b31_ : 0 ≤ F27_ 1 8 ∧ F27_ 1 8 ≤ 100000 := gi_g g28_ rfl
        exact ⟨F27_, ⟨rfl, rfl⟩, g28_, g30_, (by obtain ⟨e, c1, c2⟩ := c26_; exact ⟨e, (by rw [sp_rpreds, hw0]; simp only [pb]; rw [hsp, spq_z (by omega)]; simp only; rw [c1]), c2⟩)⟩
      rintro A1_ ⟨F35_, hA_, g36_, s37_, c33_, c34_⟩
      subst hA_
      have g38_ : fs [(1, 1, 7, 7), (11, 13, 0, 100000), (21, 38, 0, 100000)] F F35_ := fs_tr g21_ s37_ rfl
      have tk39_ : tkh K F35_ := tkh_fs tk22_ s37_ (fun r k h => (fs_n (by omega) rfl)) (fs_n (by omega) rfl)
      refine gr_v hm_124 rfl rfl ?_
      have b40_ : 0 ≤ F35_ 1 7 ∧ F35_ 1 7 ≤ 600 := gi_g g36_ rfl
      have e41_ : F35_ 11 2 = F1 11 2 := (s37_ 11 2 rfl).trans (rfl)
      have b42_ : 0 ≤ F1 11 2 ∧ F1 11 2 ≤ 6 := gi_g hg_F1 rfl
      exact ⟨F35_, rfl, g36_, g38_, (⟨l, ps, ⟨by rw [sp_rpreds, hw0]; simp only [pb]; rw [hsp, spq_z (by omega)]; simp only; rw [c33_], by omega⟩, (rep_fs hl s37_ (fun _ => (fs_n (by omega) rfl)) (fs_n (by omega) rfl)), (prd_fs hpr.1 s37_ (fun _ _ _ => (fs_n (by omega) rfl)))⟩), (by omega)⟩
    refine ga_iload_n (z := i) hm_124 rfl rfl ?_
    refine fl_if_eq (a := i) hm_124 rfl ⟨by omega, by omega⟩ (fun h43_ => ?_) (fun h44_ => ?_)
    ·
      refine ga_aload_n (v := .ref 118) hm_124 rfl rfl rfl ?_
      refine ga_getr (b := 1) hm_124 rfl sc_118 rfl ?_
      refine fl_iconst hm_124 rfl ?_
      have b45_ : 0 ≤ F1 1 7 ∧ F1 1 7 ≤ 600 := gi_g hg_F1 rfl
      refine gVv (nY := 2) (F := 7) (L := 121) (As := [.int (Int32.ofInt 0)]) (b := 1) (rest := []) hm_124 rfl hm_24 rfl rfl (fl_ob sc_1) rfl rfl rfl rfl rfl (by omega) (by omega) (mc_24 hG F1 X hg_F1 (K) (0) hgK tk22_ hko (by omega) (by omega)) ?_ ?_
      ·
        rintro j_ A1_ ⟨F47_, ⟨hJ_, hA_⟩, g48_, s49_, c46_⟩
        subst hA_
        subst hJ_
        refine ⟨rfl, ?_⟩
        refine gw_v ?_
        have g50_ : fs [(1, 1, 7, 8), (11, 13, 0, 100000), (21, 38, 0, 100000)] F F47_ := fs_tr (fs_tr fs_refl g21_ rfl) s49_ rfl
        have b51_ : 0 ≤ F47_ 1 8 ∧ F47_ 1 8 ≤ 100000 := gi_g g48_ rfl
        exact ⟨F47_, ⟨rfl, rfl⟩, g48_, g50_, (by obtain ⟨e, c1, c2⟩ := c46_; exact ⟨e, (by (try simp only [Int.reduceToNat] at c1); rw [sp_rpreds, hw0]; simp only [pb]; rw [hsp, spq_step (by omega) (by omega) (by omega)]; simp [pb, c1]), c2⟩)⟩
      rintro A1_ ⟨F55_, hA_, g56_, s57_, c53_, c54_⟩
      subst hA_
      have g58_ : fs [(1, 1, 7, 7), (11, 13, 0, 100000), (21, 38, 0, 100000)] F F55_ := fs_tr g21_ s57_ rfl
      have tk59_ : tkh K F55_ := tkh_fs tk22_ s57_ (fun r k h => (fs_n (by omega) rfl)) (fs_n (by omega) rfl)
      refine ga_aload_n (v := .ref 118) hm_124 rfl rfl rfl ?_
      refine ga_aload_n (v := .ref 118) hm_124 rfl rfl rfl ?_
      refine ga_getr (b := 7) hm_124 rfl sc_118 rfl ?_
      refine ga_getr (b := 11) hm_124 rfl sc_7 rfl ?_
      refine fl_iconst hm_124 rfl ?_
      have b60_ : 0 ≤ F55_ 1 7 ∧ F55_ 1 7 ≤ 600 := gi_g g56_ rfl
      refine gVv (nY := 3) (F := 7) (L := 121) (As := [.ref 11, .int (Int32.ofInt 2)]) (b := 118) (rest := []) hm_124 rfl hm_121 rfl rfl (fl_ob sc_118) rfl rfl rfl rfl rfl (by omega) (by omega) (mc_121 hG F55_ X g56_ (K) (11) (6) (2) (l) (tl) hgK tk59_ hko (by omega) nm_11 (by omega) ((rep_fs hl s57_ (fun _ => (fs_n (by omega) rfl)) (fs_n (by omega) rfl))) ((rep_fs htl s57_ (fun _ => (fs_n (by omega) rfl)) (fs_n (by omega) rfl))) (by omega)) ?_ ?_
      ·
        rintro j_ A1_ ⟨F62_, ⟨hJ_, hA_⟩, g63_, s64_, c61_⟩
        subst hA_
        subst hJ_
        refine ⟨rfl, ?_⟩
        refine gw_v ?_
        have g65_ : fs [(1, 1, 7, 8), (11, 13, 0, 100000), (21, 38, 0, 100000)] F F62_ := fs_tr (fs_tr fs_refl g58_ rfl) s64_ rfl
        have b66_ : 0 ≤ F62_ 1 8 ∧ F62_ 1 8 ≤ 100000 := gi_g g63_ rfl
        exact ⟨F62_, ⟨rfl, rfl⟩, g63_, g65_, (by obtain ⟨e, c1, c2⟩ := c61_; exact ⟨e, (by (try simp only [Int.reduceToNat] at c1); rw [sp_rpreds, hw0]; simp only [pb]; rw [hsp, spq_step (by omega) (by omega) (by omega)]; simp [pb, c53_, c1]), c2⟩)⟩
      rintro A1_ ⟨F72_, hA_, g73_, s74_, c68_, c69_, c70_, c71_⟩
      subst hA_
      have g75_ : fs [(1, 1, 7, 7), (11, 13, 0, 100000), (21, 38, 0, 100000)] F F72_ := fs_tr g58_ s74_ rfl
      have tk76_ : tkh K F72_ := tkh_fs tk59_ s74_ (fun r k h => (fs_n (by omega) (fs_n (by omega) rfl))) (fs_n (by omega) (fs_n (by omega) rfl))
      refine ga_aload_n (v := .ref 118) hm_124 rfl rfl rfl ?_
      refine ga_aload_n (v := .ref 118) hm_124 rfl rfl rfl ?_
      refine ga_getr (b := 7) hm_124 rfl sc_118 rfl ?_
      refine ga_getr (b := 14) hm_124 rfl sc_7 rfl ?_
      refine ga_iload_n (z := i) hm_124 rfl rfl ?_
      obtain ⟨a77_, r78_, n79_, q80_⟩ := ra_14 (i).toNat (by omega)
      refine fl_aald (z := i) (q := a77_) hm_124 rfl sc_14 (hG _ _ _ sc_14) rfl (by omega) (by simp only [List.length_cons, List.length_nil]; omega) (by simp only [List.length_cons, List.length_nil]; omega) r78_ ?_
      refine fl_iconst hm_124 rfl ?_
      have b81_ : 0 ≤ F72_ 1 7 ∧ F72_ 1 7 ≤ 600 := gi_g g73_ rfl
      refine gVv (nY := 4) (F := 9) (L := 165) (As := [.ref a77_, .int (Int32.ofInt 2)]) (b := 118) (rest := []) hm_124 rfl hm_123 rfl rfl (fl_ob sc_118) rfl rfl rfl rfl rfl (by omega) (by omega) (mc_123 hG F72_ X g73_ (K) (a77_) (2) (2) (ts) hgK tk76_ hko (by omega) n79_ (by omega) (by omega) ((rep_fs (rep_fs (rep_fs (rep_fs hts s13_ (fun _ => (fs_n (by omega) rfl)) (fs_n (by omega) rfl)) hf_F1 (fun _ => (fs_n (by omega) (fs_n (by omega) (fs_n (by omega) rfl)))) (fs_n (by omega) (fs_n (by omega) (fs_n (by omega) rfl)))) s57_ (fun _ => (fs_n (by omega) rfl)) (fs_n (by omega) rfl)) s74_ (fun _ => (fs_n (by omega) (fs_n (by omega) rfl))) (fs_n (by omega) (fs_n (by omega) rfl))))) ?_ ?_
      ·
        rintro j_ A1_ ⟨F83_, ⟨hJ_, hA_⟩, g84_, s85_, c82_⟩
        subst hA_
        subst hJ_
        refine ⟨rfl, ?_⟩
        refine gw_v ?_
        have g86_ : fs [(1, 1, 7, 8), (11, 13, 0, 100000), (21, 38, 0, 100000)] F F83_ := fs_tr (fs_tr fs_refl g75_ rfl) s85_ (by simp [fs_le]; try omega)
        have b87_ : 0 ≤ F83_ 1 8 ∧ F83_ 1 8 ≤ 100000 := gi_g g84_ rfl
        exact ⟨F83_, ⟨rfl, rfl⟩, g84_, g86_, (by obtain ⟨e, c1, c2⟩ := c82_; exact ⟨e, (by (try simp only [Int.reduceToNat] at c1); rw [sp_rpreds, hw0]; simp only [pb]; rw [hsp, spq_step (by omega) (by omega) (by omega)]; simp [pb, c53_, c68_, c1]), c2⟩)⟩
      rintro A1_ ⟨F91_, hA_, g92_, s93_, c89_, c90_⟩
      subst hA_
      have g94_ : fs [(1, 1, 7, 7), (11, 13, 0, 100000), (21, 38, 0, 100000)] F F91_ := fs_tr g75_ s93_ (by simp [fs_le]; try omega)
      have tk95_ : tkh K F91_ := tkh_fs tk76_ s93_ (fun r k h => (fs_n (by omega) (fs_n (by omega) rfl))) (fs_n (by omega) (fs_n (by omega) rfl))
      obtain ⟨l2_, tl2_, ct1_, ct2_, ct3_⟩ := c89_
      simp only [Int.reduceToNat] at ct1_
      refine ga_aload_n (v := .ref 118) hm_124 rfl rfl rfl ?_
      refine ga_getr (b := 1) hm_124 rfl sc_118 rfl ?_
      refine fl_iconst hm_124 rfl ?_
      have b96_ : 0 ≤ F91_ 1 7 ∧ F91_ 1 7 ≤ 600 := gi_g g92_ rfl
      refine gVv (nY := 2) (F := 7) (L := 121) (As := [.int (Int32.ofInt 1)]) (b := 1) (rest := []) hm_124 rfl hm_24 rfl rfl (fl_ob sc_1) rfl rfl rfl rfl rfl (by omega) (by omega) (mc_24 hG F91_ X g92_ (K) (1) hgK tk95_ hko (by omega) (by omega)) ?_ ?_
      ·
        rintro j_ A1_ ⟨F98_, ⟨hJ_, hA_⟩, g99_, s100_, c97_⟩
        subst hA_
        subst hJ_
        refine ⟨rfl, ?_⟩
        refine gw_v ?_
        have g101_ : fs [(1, 1, 7, 8), (11, 13, 0, 100000), (21, 38, 0, 100000)] F F98_ := fs_tr (fs_tr fs_refl g94_ rfl) s100_ rfl
        have b102_ : 0 ≤ F98_ 1 8 ∧ F98_ 1 8 ≤ 100000 := gi_g g99_ rfl
        exact ⟨F98_, ⟨rfl, rfl⟩, g99_, g101_, (by obtain ⟨e, c1, c2⟩ := c97_; exact ⟨e, (by (try simp only [Int.reduceToNat] at c1); rw [sp_rpreds, hw0]; simp only [pb]; rw [hsp, spq_step (by omega) (by omega) (by omega)]; simp [pb, c53_, c68_, ct1_, c1]), c2⟩)⟩
      rintro A1_ ⟨F106_, hA_, g107_, s108_, c104_, c105_⟩
      subst hA_
      have g109_ : fs [(1, 1, 7, 7), (11, 13, 0, 100000), (21, 38, 0, 100000)] F F106_ := fs_tr g94_ s108_ rfl
      have tk110_ : tkh K F106_ := tkh_fs tk95_ s108_ (fun r k h => (fs_n (by omega) rfl)) (fs_n (by omega) rfl)
      refine ga_inc (a := i) (c := i + 1) (lv2 := [(1, .int (Int32.ofInt (i + 1))), (0, .ref 118)]) hm_124 rfl rfl (Nat.le_of_ble_eq_true rfl) rfl rfl ?_
      refine fl_goto hm_124 rfl ?_
      have e111_ : F91_ 11 2 = F72_ 11 2 := (s93_ 11 2 (fs_n (by omega) (fs_n (by omega) rfl))).trans (rfl)
      have e112_ : F106_ 11 2 = F72_ 11 2 := (s108_ 11 2 rfl).trans (e111_)
      have b113_ : 0 ≤ F72_ 11 2 ∧ F72_ 11 2 ≤ 6 := gi_g g73_ rfl
      have b114_ : 0 ≤ F1 11 2 ∧ F1 11 2 ≤ 6 := gi_g hg_F1 rfl
      have b115_ : 0 ≤ F106_ 1 7 ∧ F106_ 1 7 ≤ 600 := gi_g g107_ rfl
      have b116_ : 0 ≤ K 1 6 ∧ K 1 6 ≤ 601 := gi_g hgK rfl
      exact ih18_ _ (by omega) (i + 1) (_) (_) (_) F106_ rfl g107_ (fs_tr (fs_tr (fs_tr (fs_tr hf_F1 s57_ rfl) s74_ rfl) s93_ (by simp [fs_le]; try omega)) s108_ rfl) (by omega) (rep_fs (rep_fs c70_ s93_ (fun _ => (fs_n (by omega) (fs_n (by omega) rfl))) (fs_n (by omega) (fs_n (by omega) rfl))) s108_ (fun _ => (fs_n (by omega) rfl)) (fs_n (by omega) rfl)) (rep_fs (rep_fs c71_ s93_ (fun _ => (fs_n (by omega) (fs_n (by omega) rfl))) (fs_n (by omega) (fs_n (by omega) rfl))) s108_ (fun _ => (fs_n (by omega) rfl)) (fs_n (by omega) rfl)) (by simp; omega) (by omega) (⟨prd_add (prd_fs (prd_fs (prd_fs (prd_fs hpr.1 s57_ (fun _ _ _ => (fs_n (by omega) rfl))) s74_ (fun _ _ _ => (fs_n (by omega) (fs_n (by omega) rfl)))) s93_ (fun _ _ _ => (fs_n (by omega) (fs_n (by omega) rfl)))) s108_ (fun _ _ _ => (fs_n (by omega) rfl))) (rep_fs ct3_ s108_ (fun _ => (fs_n (by omega) rfl)) (fs_n (by omega) rfl)) (by omega), by simp; omega⟩) (by rw [hsp, spq_step (by omega) (by omega) (by omega)]; simp [pb, c53_, c68_, ct1_, c104_])
    refine ga_aload_n (v := .ref 118) hm_124 rfl rfl rfl ?_
    refine ga_getr (b := 1) hm_124 rfl sc_118 rfl ?_
    refine fl_iconst hm_124 rfl ?_
    refine gIi (nY := 2) (F := 0) (L := 0) (As := [.int (Int32.ofInt 0)]) (b := 1) (rest := []) hm_124 rfl hm_153 rfl rfl (fl_ob sc_1) rfl rfl rfl rfl rfl (by omega) (by omega) ?_
    intro f117_ l118_ h119_ h120_
    show fl_R xi_ms 153 f117_ l118_ 0 [(0, .ref 1), (1, .int (Int32.ofInt 0))] [] _ _
    refine ga_aload_n (v := .ref 1) hm_153 rfl rfl rfl ?_
    refine ga_getr (b := 3) hm_153 rfl sc_1 rfl ?_
    refine ga_aload_n (v := .ref 1) hm_153 rfl rfl rfl ?_
    have b121_ : 0 ≤ F1 1 7 ∧ F1 1 7 ≤ 600 := gi_g hg_F1 rfl
    refine ga_geti (z := F1 1 7) hm_153 rfl sc_1 rfl (rfl) ?_
    have e122_ : F1 3 (F1 1 7).toNat = K 3 (F1 1 7).toNat := tk22_.1 3 (F1 1 7).toNat (by omega)
    have b123_ : 0 ≤ K 3 (F1 1 7).toNat ∧ K 3 (F1 1 7).toNat ≤ 5 := gi_g hgK rfl
    refine ga_iald (z := F1 1 7) (w := K 3 (F1 1 7).toNat) hm_153 rfl sc_3 (by omega) (by omega) (by omega) (e122_) ?_
    refine ga_iload_n (z := 0) hm_153 rfl rfl ?_
    refine fx_icmp_ne (a := K 3 (F1 1 7).toNat) (b := 0) hm_153 rfl ⟨by omega, by omega⟩ ⟨by omega, by omega⟩ (fun h124_ => ?_) (fun h125_ => ?_)
    ·
      refine fl_iconst hm_153 rfl ?_
      refine gr_i hm_153 rfl rfl (ga_nb (by omega)) ?_
      clear h119_ h120_ f117_ l118_
      refine fl_if_eq hm_124 rfl ⟨by omega, by omega⟩ (fun _ => ?_) (fun h => absurd (by omega) h)
      refine ga_aload_n (v := .ref 118) hm_124 rfl rfl rfl ?_
      refine ga_getr (b := 1) hm_124 rfl sc_118 rfl ?_
      refine fl_iconst hm_124 rfl ?_
      refine gVv (nY := 2) (F := 7) (L := 121) (As := [.int (Int32.ofInt 1)]) (b := 1) (rest := []) hm_124 rfl hm_24 rfl rfl (fl_ob sc_1) rfl rfl rfl rfl rfl (by omega) (by omega) (mc_24 hG F1 X hg_F1 (K) (1) hgK tk22_ hko (by omega) (by omega)) ?_ ?_
      ·
        rintro j_ A1_ ⟨F127_, ⟨hJ_, hA_⟩, g128_, s129_, c126_⟩
        subst hA_
        subst hJ_
        refine ⟨rfl, ?_⟩
        refine gw_v ?_
        have g130_ : fs [(1, 1, 7, 8), (11, 13, 0, 100000), (21, 38, 0, 100000)] F F127_ := fs_tr (fs_tr fs_refl g21_ rfl) s129_ rfl
        have b131_ : 0 ≤ F127_ 1 8 ∧ F127_ 1 8 ≤ 100000 := gi_g g128_ rfl
        exact ⟨F127_, ⟨rfl, rfl⟩, g128_, g130_, (by obtain ⟨e, c1, c2⟩ := c126_; exact ⟨e, (by rw [sp_rpreds, hw0]; simp only [pb]; rw [hsp, spq_e (by omega) (by omega) (by omega)]; simp only; rw [c1]), c2⟩)⟩
      rintro A1_ ⟨F135_, hA_, g136_, s137_, c133_, c134_⟩
      subst hA_
      have g138_ : fs [(1, 1, 7, 7), (11, 13, 0, 100000), (21, 38, 0, 100000)] F F135_ := fs_tr g21_ s137_ rfl
      have tk139_ : tkh K F135_ := tkh_fs tk22_ s137_ (fun r k h => (fs_n (by omega) rfl)) (fs_n (by omega) rfl)
      refine gr_v hm_124 rfl rfl ?_
      have b140_ : 0 ≤ F135_ 1 7 ∧ F135_ 1 7 ≤ 600 := gi_g g136_ rfl
      have e141_ : F135_ 11 2 = F1 11 2 := (s137_ 11 2 rfl).trans (rfl)
      have b142_ : 0 ≤ F1 11 2 ∧ F1 11 2 ≤ 6 := gi_g hg_F1 rfl
      exact ⟨F135_, rfl, g136_, g138_, (⟨l, ps, ⟨by rw [sp_rpreds, hw0]; simp only [pb]; rw [hsp, spq_e (by omega) (by omega) (by omega)]; simp only; rw [c133_], by omega⟩, (rep_fs hl s137_ (fun _ => (fs_n (by omega) rfl)) (fs_n (by omega) rfl)), (prd_fs hpr.1 s137_ (fun _ _ _ => (fs_n (by omega) rfl)))⟩), (by omega)⟩
    refine fl_iconst hm_153 rfl ?_
    refine fl_goto hm_153 rfl ?_
    refine gr_i hm_153 rfl rfl (ga_nb (by omega)) ?_
    clear h119_ h120_ f117_ l118_
    refine fl_if_eq hm_124 rfl ⟨by omega, by omega⟩ (fun h => absurd h (by omega)) (fun _ => ?_)
    refine ga_aload_n (v := .ref 118) hm_124 rfl rfl rfl ?_
    refine ga_getr (b := 1) hm_124 rfl sc_118 rfl ?_
    refine fl_iconst hm_124 rfl ?_
    refine gVv (nY := 2) (F := 7) (L := 121) (As := [.int (Int32.ofInt 0)]) (b := 1) (rest := []) hm_124 rfl hm_24 rfl rfl (fl_ob sc_1) rfl rfl rfl rfl rfl (by omega) (by omega) (mc_24 hG F1 X hg_F1 (K) (0) hgK tk22_ hko (by omega) (by omega)) ?_ ?_
    ·
      rintro j_ A1_ ⟨F144_, ⟨hJ_, hA_⟩, g145_, s146_, c143_⟩
      subst hA_
      subst hJ_
      refine ⟨rfl, ?_⟩
      refine gw_v ?_
      have g147_ : fs [(1, 1, 7, 8), (11, 13, 0, 100000), (21, 38, 0, 100000)] F F144_ := fs_tr (fs_tr fs_refl g21_ rfl) s146_ rfl
      have b148_ : 0 ≤ F144_ 1 8 ∧ F144_ 1 8 ≤ 100000 := gi_g g145_ rfl
      exact ⟨F144_, ⟨rfl, rfl⟩, g145_, g147_, (by obtain ⟨e, c1, c2⟩ := c143_; exact ⟨e, (by (try simp only [Int.reduceToNat] at c1); rw [sp_rpreds, hw0]; simp only [pb]; rw [hsp, spq_step (by omega) (by omega) (by omega)]; simp [pb, c1]), c2⟩)⟩
    rintro A1_ ⟨F152_, hA_, g153_, s154_, c150_, c151_⟩
    subst hA_
    have g155_ : fs [(1, 1, 7, 7), (11, 13, 0, 100000), (21, 38, 0, 100000)] F F152_ := fs_tr g21_ s154_ rfl
    have tk156_ : tkh K F152_ := tkh_fs tk22_ s154_ (fun r k h => (fs_n (by omega) rfl)) (fs_n (by omega) rfl)
    refine ga_aload_n (v := .ref 118) hm_124 rfl rfl rfl ?_
    refine ga_aload_n (v := .ref 118) hm_124 rfl rfl rfl ?_
    refine ga_getr (b := 7) hm_124 rfl sc_118 rfl ?_
    refine ga_getr (b := 11) hm_124 rfl sc_7 rfl ?_
    refine fl_iconst hm_124 rfl ?_
    have b157_ : 0 ≤ F152_ 1 7 ∧ F152_ 1 7 ≤ 600 := gi_g g153_ rfl
    refine gVv (nY := 3) (F := 7) (L := 121) (As := [.ref 11, .int (Int32.ofInt 2)]) (b := 118) (rest := []) hm_124 rfl hm_121 rfl rfl (fl_ob sc_118) rfl rfl rfl rfl rfl (by omega) (by omega) (mc_121 hG F152_ X g153_ (K) (11) (6) (2) (l) (tl) hgK tk156_ hko (by omega) nm_11 (by omega) ((rep_fs hl s154_ (fun _ => (fs_n (by omega) rfl)) (fs_n (by omega) rfl))) ((rep_fs htl s154_ (fun _ => (fs_n (by omega) rfl)) (fs_n (by omega) rfl))) (by omega)) ?_ ?_
    ·
      rintro j_ A1_ ⟨F159_, ⟨hJ_, hA_⟩, g160_, s161_, c158_⟩
      subst hA_
      subst hJ_
      refine ⟨rfl, ?_⟩
      refine gw_v ?_
      have g162_ : fs [(1, 1, 7, 8), (11, 13, 0, 100000), (21, 38, 0, 100000)] F F159_ := fs_tr (fs_tr fs_refl g155_ rfl) s161_ rfl
      have b163_ : 0 ≤ F159_ 1 8 ∧ F159_ 1 8 ≤ 100000 := gi_g g160_ rfl
      exact ⟨F159_, ⟨rfl, rfl⟩, g160_, g162_, (by obtain ⟨e, c1, c2⟩ := c158_; exact ⟨e, (by (try simp only [Int.reduceToNat] at c1); rw [sp_rpreds, hw0]; simp only [pb]; rw [hsp, spq_step (by omega) (by omega) (by omega)]; simp [pb, c150_, c1]), c2⟩)⟩
    rintro A1_ ⟨F169_, hA_, g170_, s171_, c165_, c166_, c167_, c168_⟩
    subst hA_
    have g172_ : fs [(1, 1, 7, 7), (11, 13, 0, 100000), (21, 38, 0, 100000)] F F169_ := fs_tr g155_ s171_ rfl
    have tk173_ : tkh K F169_ := tkh_fs tk156_ s171_ (fun r k h => (fs_n (by omega) (fs_n (by omega) rfl))) (fs_n (by omega) (fs_n (by omega) rfl))
    refine ga_aload_n (v := .ref 118) hm_124 rfl rfl rfl ?_
    refine ga_aload_n (v := .ref 118) hm_124 rfl rfl rfl ?_
    refine ga_getr (b := 7) hm_124 rfl sc_118 rfl ?_
    refine ga_getr (b := 14) hm_124 rfl sc_7 rfl ?_
    refine ga_iload_n (z := i) hm_124 rfl rfl ?_
    obtain ⟨a174_, r175_, n176_, q177_⟩ := ra_14 (i).toNat (by omega)
    refine fl_aald (z := i) (q := a174_) hm_124 rfl sc_14 (hG _ _ _ sc_14) rfl (by omega) (by simp only [List.length_cons, List.length_nil]; omega) (by simp only [List.length_cons, List.length_nil]; omega) r175_ ?_
    refine fl_iconst hm_124 rfl ?_
    have b178_ : 0 ≤ F169_ 1 7 ∧ F169_ 1 7 ≤ 600 := gi_g g170_ rfl
    refine gVv (nY := 4) (F := 9) (L := 165) (As := [.ref a174_, .int (Int32.ofInt 2)]) (b := 118) (rest := []) hm_124 rfl hm_123 rfl rfl (fl_ob sc_118) rfl rfl rfl rfl rfl (by omega) (by omega) (mc_123 hG F169_ X g170_ (K) (a174_) (2) (2) (ts) hgK tk173_ hko (by omega) n176_ (by omega) (by omega) ((rep_fs (rep_fs (rep_fs (rep_fs hts s13_ (fun _ => (fs_n (by omega) rfl)) (fs_n (by omega) rfl)) hf_F1 (fun _ => (fs_n (by omega) (fs_n (by omega) (fs_n (by omega) rfl)))) (fs_n (by omega) (fs_n (by omega) (fs_n (by omega) rfl)))) s154_ (fun _ => (fs_n (by omega) rfl)) (fs_n (by omega) rfl)) s171_ (fun _ => (fs_n (by omega) (fs_n (by omega) rfl))) (fs_n (by omega) (fs_n (by omega) rfl))))) ?_ ?_
    ·
      rintro j_ A1_ ⟨F180_, ⟨hJ_, hA_⟩, g181_, s182_, c179_⟩
      subst hA_
      subst hJ_
      refine ⟨rfl, ?_⟩
      refine gw_v ?_
      have g183_ : fs [(1, 1, 7, 8), (11, 13, 0, 100000), (21, 38, 0, 100000)] F F180_ := fs_tr (fs_tr fs_refl g172_ rfl) s182_ (by simp [fs_le]; try omega)
      have b184_ : 0 ≤ F180_ 1 8 ∧ F180_ 1 8 ≤ 100000 := gi_g g181_ rfl
      exact ⟨F180_, ⟨rfl, rfl⟩, g181_, g183_, (by obtain ⟨e, c1, c2⟩ := c179_; exact ⟨e, (by (try simp only [Int.reduceToNat] at c1); rw [sp_rpreds, hw0]; simp only [pb]; rw [hsp, spq_step (by omega) (by omega) (by omega)]; simp [pb, c150_, c165_, c1]), c2⟩)⟩
    rintro A1_ ⟨F188_, hA_, g189_, s190_, c186_, c187_⟩
    subst hA_
    have g191_ : fs [(1, 1, 7, 7), (11, 13, 0, 100000), (21, 38, 0, 100000)] F F188_ := fs_tr g172_ s190_ (by simp [fs_le]; try omega)
    have tk192_ : tkh K F188_ := tkh_fs tk173_ s190_ (fun r k h => (fs_n (by omega) (fs_n (by omega) rfl))) (fs_n (by omega) (fs_n (by omega) rfl))
    obtain ⟨l2_, tl2_, ct1_, ct2_, ct3_⟩ := c186_
    simp only [Int.reduceToNat] at ct1_
    refine ga_aload_n (v := .ref 118) hm_124 rfl rfl rfl ?_
    refine ga_getr (b := 1) hm_124 rfl sc_118 rfl ?_
    refine fl_iconst hm_124 rfl ?_
    have b193_ : 0 ≤ F188_ 1 7 ∧ F188_ 1 7 ≤ 600 := gi_g g189_ rfl
    refine gVv (nY := 2) (F := 7) (L := 121) (As := [.int (Int32.ofInt 1)]) (b := 1) (rest := []) hm_124 rfl hm_24 rfl rfl (fl_ob sc_1) rfl rfl rfl rfl rfl (by omega) (by omega) (mc_24 hG F188_ X g189_ (K) (1) hgK tk192_ hko (by omega) (by omega)) ?_ ?_
    ·
      rintro j_ A1_ ⟨F195_, ⟨hJ_, hA_⟩, g196_, s197_, c194_⟩
      subst hA_
      subst hJ_
      refine ⟨rfl, ?_⟩
      refine gw_v ?_
      have g198_ : fs [(1, 1, 7, 8), (11, 13, 0, 100000), (21, 38, 0, 100000)] F F195_ := fs_tr (fs_tr fs_refl g191_ rfl) s197_ rfl
      have b199_ : 0 ≤ F195_ 1 8 ∧ F195_ 1 8 ≤ 100000 := gi_g g196_ rfl
      exact ⟨F195_, ⟨rfl, rfl⟩, g196_, g198_, (by obtain ⟨e, c1, c2⟩ := c194_; exact ⟨e, (by (try simp only [Int.reduceToNat] at c1); rw [sp_rpreds, hw0]; simp only [pb]; rw [hsp, spq_step (by omega) (by omega) (by omega)]; simp [pb, c150_, c165_, ct1_, c1]), c2⟩)⟩
    rintro A1_ ⟨F203_, hA_, g204_, s205_, c201_, c202_⟩
    subst hA_
    have g206_ : fs [(1, 1, 7, 7), (11, 13, 0, 100000), (21, 38, 0, 100000)] F F203_ := fs_tr g191_ s205_ rfl
    have tk207_ : tkh K F203_ := tkh_fs tk192_ s205_ (fun r k h => (fs_n (by omega) rfl)) (fs_n (by omega) rfl)
    refine ga_inc (a := i) (c := i + 1) (lv2 := [(1, .int (Int32.ofInt (i + 1))), (0, .ref 118)]) hm_124 rfl rfl (Nat.le_of_ble_eq_true rfl) rfl rfl ?_
    refine fl_goto hm_124 rfl ?_
    have e208_ : F188_ 11 2 = F169_ 11 2 := (s190_ 11 2 (fs_n (by omega) (fs_n (by omega) rfl))).trans (rfl)
    have e209_ : F203_ 11 2 = F169_ 11 2 := (s205_ 11 2 rfl).trans (e208_)
    have b210_ : 0 ≤ F169_ 11 2 ∧ F169_ 11 2 ≤ 6 := gi_g g170_ rfl
    have b211_ : 0 ≤ F1 11 2 ∧ F1 11 2 ≤ 6 := gi_g hg_F1 rfl
    have b212_ : 0 ≤ F203_ 1 7 ∧ F203_ 1 7 ≤ 600 := gi_g g204_ rfl
    have b213_ : 0 ≤ K 1 6 ∧ K 1 6 ≤ 601 := gi_g hgK rfl
    exact ih18_ _ (by omega) (i + 1) (_) (_) (_) F203_ rfl g204_ (fs_tr (fs_tr (fs_tr (fs_tr hf_F1 s154_ rfl) s171_ rfl) s190_ (by simp [fs_le]; try omega)) s205_ rfl) (by omega) (rep_fs (rep_fs c167_ s190_ (fun _ => (fs_n (by omega) (fs_n (by omega) rfl))) (fs_n (by omega) (fs_n (by omega) rfl))) s205_ (fun _ => (fs_n (by omega) rfl)) (fs_n (by omega) rfl)) (rep_fs (rep_fs c168_ s190_ (fun _ => (fs_n (by omega) (fs_n (by omega) rfl))) (fs_n (by omega) (fs_n (by omega) rfl))) s205_ (fun _ => (fs_n (by omega) rfl)) (fs_n (by omega) rfl)) (by simp; omega) (by omega) (⟨prd_add (prd_fs (prd_fs (prd_fs (prd_fs hpr.1 s154_ (fun _ _ _ => (fs_n (by omega) rfl))) s171_ (fun _ _ _ => (fs_n (by omega) (fs_n (by omega) rfl)))) s190_ (fun _ _ _ => (fs_n (by omega) (fs_n (by omega) rfl)))) s205_ (fun _ _ _ => (fs_n (by omega) rfl))) (rep_fs ct3_ s205_ (fun _ => (fs_n (by omega) rfl)) (fs_n (by omega) rfl)) (by omega), by simp; omega⟩) (by rw [hsp, spq_step (by omega) (by omega) (by omega)]; simp [pb, c150_, c165_, ct1_, c201_])
  have e214_ : F11_ 11 2 = F 11 2 := (s13_ 11 2 rfl).trans (rfl)
  have b215_ : 0 ≤ F 11 2 ∧ F 11 2 ≤ 6 := gi_g hgi rfl
  have b216_ : 0 ≤ K 1 6 ∧ K 1 6 ≤ 601 := gi_g hgK rfl
  exact L17_ _ (0) ([]) ([]) ([]) F11_ rfl g12_ fs_refl (by omega) (rep_fs hl0 s13_ (fun _ => (fs_n (by omega) rfl)) (fs_n (by omega) rfl)) (rep_fs ht0 s13_ (fun _ => (fs_n (by omega) rfl)) (fs_n (by omega) rfl)) (by simp) (by omega) (⟨fun j hj => absurd hj (by simp), by simp⟩) (by simp)

/- CheapPlanner$Reader.readTypes -/
abbrev pq_128 (G : Nat → Nat → Option Nat) (F : fl_N) (X : xi_H) (K : fl_N) : Outcome → xi_H → Prop := gqv (fun A => ∃ F' : fl_N, fl_H sh_T G F' ++ X = A ∧ gi F' ∧ fs [(1, 1, 7, 8), (8, 10, 0, 100000)] F F' ∧ (∃ ts, sp_rtypes K (F 1 7) = .inr (F' 1 7, ts) ∧ rep (F' 9) (F' 8 2) ts) ∧ (0 ≤ F' 1 7 ∧ F' 1 7 ≤ K 1 6 - 1)) (fun j A => ∃ F' : fl_N, (387 + X.length = j ∧ fl_H sh_T G F' ++ (X ++ [gx 14]) = A) ∧ gi F' ∧ fs [(1, 1, 7, 8), (8, 10, 0, 100000)] F F' ∧ (∃ e, sp_rtypes K (F 1 7) = .inl e ∧ F' 1 8 = e.1 + 10 * e.2))
theorem mc_128 {G : Nat → Nat → Option Nat} (hG : gg G) (F : fl_N) (X : xi_H) (hgi : gi F) (K : fl_N) (hgK : gi K) (hK : tkh K F) (hko : tko K) (hp : 0 ≤ F 1 7 ∧ F 1 7 ≤ K 1 6 - 1) (hl0 : rep (F 9) (F 8 2) []) (ht0 : rep (F 10) (F 8 2) []) : fl_M xi_ms 128 8 144 [.ref 118] (fl_H sh_T G F ++ X) (pq_128 G F X K) := by
  intro fr lo hfr hlo
  show fl_R xi_ms 128 fr lo 0 [(0, .ref 118)] [] _ _
  refine ga_aload_n (v := .ref 118) hm_128 rfl rfl rfl ?_
  refine ga_getr (b := 1) hm_128 rfl sc_118 rfl ?_
  refine ga_ldcs hm_128 rfl ?_
  have b1_ : 0 ≤ F 1 7 ∧ F 1 7 ≤ 600 := gi_g hgi rfl
  refine gVv (nY := 2) (F := 7) (L := 123) (As := [.retAddr 3]) (b := 1) (rest := []) hm_128 rfl hm_155 rfl rfl (fl_ob sc_1) rfl rfl rfl rfl rfl (by omega) (by omega) (mc_155 hG F X hgi (K) (3) ([58, 116, 121, 112, 101, 115]) hgK hK hko (by omega) (rfl) (by decide)) ?_ ?_
  ·
    rintro j_ A1_ ⟨F3_, ⟨hJ_, hA_⟩, g4_, s5_, c2_⟩
    subst hA_
    subst hJ_
    refine ⟨rfl, ?_⟩
    refine gw_v ?_
    have g6_ : fs [(1, 1, 7, 8), (8, 10, 0, 100000)] F F3_ := fs_tr fs_refl s5_ rfl
    have b7_ : 0 ≤ F3_ 1 8 ∧ F3_ 1 8 ≤ 100000 := gi_g g4_ rfl
    exact ⟨F3_, ⟨rfl, rfl⟩, g4_, g6_, (by obtain ⟨e, c1, c2⟩ := c2_; exact ⟨e, (by simp [sp_rtypes, c1, pf, pb]), c2⟩)⟩
  rintro A1_ ⟨F11_, hA_, g12_, s13_, c9_, c10_⟩
  subst hA_
  have g14_ : fs [(1, 1, 7, 8), (8, 10, 0, 100000)] F F11_ := fs_tr fs_refl s13_ rfl
  have tk15_ : tkh K F11_ := tkh_fs hK s13_ (fun r k h => (fs_n (by omega) rfl)) (fs_n (by omega) rfl)
  have hw0 := c9_
  refine fl_iconst hm_128 rfl ?_
  refine ga_istore_n (lv2 := [(1, .int (Int32.ofInt 0)), (0, .ref 118)]) hm_128 rfl (Nat.le_of_ble_eq_true rfl) rfl ?_
  have L17_ : ∀ (n16_ : Nat) (i : Int) (l : List Int) (tl : List Int) (F1 : fl_N), (4 - i : Int).toNat = n16_ → (gi F1) → (fs [(1, 1, 7, 8), (8, 10, 0, 100000)] F11_ F1) → (0 ≤ i ∧ i ≤ 4) → (rep (F1 9) (F1 8 2) l) → (rep (F1 10) (F1 8 2) tl) → ((l.length : Int) = i) → (0 ≤ F1 1 7 ∧ F1 1 7 ≤ K 1 6 - 1) → (sp_types K 4 [] (F11_ 1 7) = sp_types K (4 - i).toNat l (F1 1 7)) → fl_R xi_ms 128 fr lo 11 [(1, .int (Int32.ofInt i)), (0, .ref 118)] [] (fl_H sh_T G F1 ++ X) (pq_128 G F X K) := by
    intro n16_
    induction n16_ using Nat.strongRecOn with
    | ind n16_ ih18_ =>
    intro i l tl F1 hn19_ hg_F1 hf_F1 hi hl htl hli hp1 hsp
    have g20_ : fs [(1, 1, 7, 8), (8, 10, 0, 100000)] F F1 := fs_tr g14_ hf_F1 rfl
    have tk21_ : tkh K F1 := tkh_fs tk15_ hf_F1 (fun r k h => (fs_n (by omega) (fs_n (by omega) rfl))) (fs_n (by omega) (fs_n (by omega) rfl))
    refine ga_iload_n (z := i) hm_128 rfl rfl ?_
    refine fl_iconst hm_128 rfl ?_
    refine fl_icmp_ge (a := i) (b := 4) hm_128 rfl ⟨by omega, by omega⟩ ⟨by omega, by omega⟩ (fun h22_ => ?_) (fun h23_ => ?_)
    ·
      refine ga_aload_n (v := .ref 118) hm_128 rfl rfl rfl ?_
      refine ga_getr (b := 1) hm_128 rfl sc_118 rfl ?_
      refine fl_iconst hm_128 rfl ?_
      have b24_ : 0 ≤ F1 1 7 ∧ F1 1 7 ≤ 600 := gi_g hg_F1 rfl
      refine gVv (nY := 2) (F := 7) (L := 121) (As := [.int (Int32.ofInt 1)]) (b := 1) (rest := []) hm_128 rfl hm_24 rfl rfl (fl_ob sc_1) rfl rfl rfl rfl rfl (by omega) (by omega) (mc_24 hG F1 X hg_F1 (K) (1) hgK tk21_ hko (by omega) (by omega)) ?_ ?_
      ·
        rintro j_ A1_ ⟨F26_, ⟨hJ_, hA_⟩, g27_, s28_, c25_⟩
        subst hA_
        subst hJ_
        refine ⟨rfl, ?_⟩
        refine gw_v ?_
        have g29_ : fs [(1, 1, 7, 8), (8, 10, 0, 100000)] F F26_ := fs_tr g20_ s28_ rfl
        have b30_ : 0 ≤ F26_ 1 8 ∧ F26_ 1 8 ≤ 100000 := gi_g g27_ rfl
        exact ⟨F26_, ⟨rfl, rfl⟩, g27_, g29_, (by obtain ⟨e, c1, c2⟩ := c25_; exact ⟨e, (by rw [sp_rtypes, hw0]; simp only [pb]; rw [hsp, spt_z (by omega)]; simp only; rw [c1]), c2⟩)⟩
      rintro A1_ ⟨F34_, hA_, g35_, s36_, c32_, c33_⟩
      subst hA_
      have g37_ : fs [(1, 1, 7, 8), (8, 10, 0, 100000)] F F34_ := fs_tr g20_ s36_ rfl
      have tk38_ : tkh K F34_ := tkh_fs tk21_ s36_ (fun r k h => (fs_n (by omega) rfl)) (fs_n (by omega) rfl)
      refine gr_v hm_128 rfl rfl ?_
      have b39_ : 0 ≤ F34_ 1 7 ∧ F34_ 1 7 ≤ 600 := gi_g g35_ rfl
      have e40_ : F34_ 8 2 = F1 8 2 := (s36_ 8 2 rfl).trans (rfl)
      have b41_ : 0 ≤ F1 8 2 ∧ F1 8 2 ≤ 4 := gi_g hg_F1 rfl
      exact ⟨F34_, rfl, g35_, g37_, (⟨l, by rw [sp_rtypes, hw0]; simp only [pb]; rw [hsp, spt_z (by omega)]; simp only; rw [c32_], (rep_fs hl s36_ (fun _ => (fs_n (by omega) rfl)) (fs_n (by omega) rfl))⟩), (by omega)⟩
    refine ga_iload_n (z := i) hm_128 rfl rfl ?_
    refine fl_if_eq (a := i) hm_128 rfl ⟨by omega, by omega⟩ (fun h42_ => ?_) (fun h43_ => ?_)
    ·
      refine ga_aload_n (v := .ref 118) hm_128 rfl rfl rfl ?_
      refine ga_aload_n (v := .ref 118) hm_128 rfl rfl rfl ?_
      refine ga_getr (b := 7) hm_128 rfl sc_118 rfl ?_
      refine ga_getr (b := 8) hm_128 rfl sc_7 rfl ?_
      refine fl_iconst hm_128 rfl ?_
      have b44_ : 0 ≤ F1 1 7 ∧ F1 1 7 ≤ 600 := gi_g hg_F1 rfl
      refine gVv (nY := 3) (F := 7) (L := 121) (As := [.ref 8, .int (Int32.ofInt 2)]) (b := 118) (rest := []) hm_128 rfl hm_121 rfl rfl (fl_ob sc_118) rfl rfl rfl rfl rfl (by omega) (by omega) (mc_121 hG F1 X hg_F1 (K) (8) (4) (2) (l) (tl) hgK tk21_ hko (by omega) nm_8 (by omega) (hl) (htl) (by omega)) ?_ ?_
      ·
        rintro j_ A1_ ⟨F46_, ⟨hJ_, hA_⟩, g47_, s48_, c45_⟩
        subst hA_
        subst hJ_
        refine ⟨rfl, ?_⟩
        refine gw_v ?_
        have g49_ : fs [(1, 1, 7, 8), (8, 10, 0, 100000)] F F46_ := fs_tr g20_ s48_ rfl
        have b50_ : 0 ≤ F46_ 1 8 ∧ F46_ 1 8 ≤ 100000 := gi_g g47_ rfl
        exact ⟨F46_, ⟨rfl, rfl⟩, g47_, g49_, (by obtain ⟨e, c1, c2⟩ := c45_; exact ⟨e, (by rw [sp_rtypes, hw0]; simp only [pb]; rw [hsp, spt_step (by omega) (by omega) (by omega), c1]; rfl), c2⟩)⟩
      rintro A1_ ⟨F56_, hA_, g57_, s58_, c52_, c53_, c54_, c55_⟩
      subst hA_
      have g59_ : fs [(1, 1, 7, 8), (8, 10, 0, 100000)] F F56_ := fs_tr g20_ s58_ rfl
      have tk60_ : tkh K F56_ := tkh_fs tk21_ s58_ (fun r k h => (fs_n (by omega) (fs_n (by omega) rfl))) (fs_n (by omega) (fs_n (by omega) rfl))
      refine ga_inc (a := i) (c := i + 1) (lv2 := [(1, .int (Int32.ofInt (i + 1))), (0, .ref 118)]) hm_128 rfl rfl (Nat.le_of_ble_eq_true rfl) rfl rfl ?_
      refine fl_goto hm_128 rfl ?_
      have b61_ : 0 ≤ F56_ 8 2 ∧ F56_ 8 2 ≤ 4 := gi_g g57_ rfl
      have b62_ : 0 ≤ F1 8 2 ∧ F1 8 2 ≤ 4 := gi_g hg_F1 rfl
      have b63_ : 0 ≤ F56_ 1 7 ∧ F56_ 1 7 ≤ 600 := gi_g g57_ rfl
      have b64_ : 0 ≤ K 1 6 ∧ K 1 6 ≤ 601 := gi_g hgK rfl
      exact ih18_ _ (by omega) (i + 1) (_) (_) F56_ rfl g57_ (fs_tr hf_F1 s58_ rfl) (by omega) (c54_) (c55_) (by simp; omega) (by omega) (by rw [hsp, spt_step (by omega) (by omega) (by omega), c52_]; rfl)
    refine ga_aload_n (v := .ref 118) hm_128 rfl rfl rfl ?_
    refine ga_getr (b := 1) hm_128 rfl sc_118 rfl ?_
    refine fl_iconst hm_128 rfl ?_
    refine gIi (nY := 2) (F := 0) (L := 0) (As := [.int (Int32.ofInt 1)]) (b := 1) (rest := []) hm_128 rfl hm_153 rfl rfl (fl_ob sc_1) rfl rfl rfl rfl rfl (by omega) (by omega) ?_
    intro f65_ l66_ h67_ h68_
    show fl_R xi_ms 153 f65_ l66_ 0 [(0, .ref 1), (1, .int (Int32.ofInt 1))] [] _ _
    refine ga_aload_n (v := .ref 1) hm_153 rfl rfl rfl ?_
    refine ga_getr (b := 3) hm_153 rfl sc_1 rfl ?_
    refine ga_aload_n (v := .ref 1) hm_153 rfl rfl rfl ?_
    have b69_ : 0 ≤ F1 1 7 ∧ F1 1 7 ≤ 600 := gi_g hg_F1 rfl
    refine ga_geti (z := F1 1 7) hm_153 rfl sc_1 rfl (rfl) ?_
    have e70_ : F1 3 (F1 1 7).toNat = K 3 (F1 1 7).toNat := tk21_.1 3 (F1 1 7).toNat (by omega)
    have b71_ : 0 ≤ K 3 (F1 1 7).toNat ∧ K 3 (F1 1 7).toNat ≤ 5 := gi_g hgK rfl
    refine ga_iald (z := F1 1 7) (w := K 3 (F1 1 7).toNat) hm_153 rfl sc_3 (by omega) (by omega) (by omega) (e70_) ?_
    refine ga_iload_n (z := 1) hm_153 rfl rfl ?_
    refine fx_icmp_ne (a := K 3 (F1 1 7).toNat) (b := 1) hm_153 rfl ⟨by omega, by omega⟩ ⟨by omega, by omega⟩ (fun h72_ => ?_) (fun h73_ => ?_)
    ·
      refine fl_iconst hm_153 rfl ?_
      refine gr_i hm_153 rfl rfl (ga_nb (by omega)) ?_
      refine fl_if_ne hm_128 rfl ⟨by omega, by omega⟩ (fun h => absurd h (by omega)) (fun _ => ?_)
      refine ga_aload_n (v := .ref 118) hm_128 rfl rfl rfl ?_
      refine ga_aload_n (v := .ref 118) hm_128 rfl rfl rfl ?_
      refine ga_getr (b := 7) hm_128 rfl sc_118 rfl ?_
      refine ga_getr (b := 8) hm_128 rfl sc_7 rfl ?_
      refine fl_iconst hm_128 rfl ?_
      refine gVv (nY := 3) (F := 7) (L := 121) (As := [.ref 8, .int (Int32.ofInt 2)]) (b := 118) (rest := []) hm_128 rfl hm_121 rfl rfl (fl_ob sc_118) rfl rfl rfl rfl rfl (by omega) (by omega) (mc_121 hG F1 X hg_F1 (K) (8) (4) (2) (l) (tl) hgK tk21_ hko (by omega) nm_8 (by omega) (hl) (htl) (by omega)) ?_ ?_
      ·
        rintro j_ A1_ ⟨F75_, ⟨hJ_, hA_⟩, g76_, s77_, c74_⟩
        subst hA_
        subst hJ_
        refine ⟨rfl, ?_⟩
        refine gw_v ?_
        have g78_ : fs [(1, 1, 7, 8), (8, 10, 0, 100000)] F F75_ := fs_tr g20_ s77_ rfl
        have b79_ : 0 ≤ F75_ 1 8 ∧ F75_ 1 8 ≤ 100000 := gi_g g76_ rfl
        exact ⟨F75_, ⟨rfl, rfl⟩, g76_, g78_, (by obtain ⟨e, c1, c2⟩ := c74_; exact ⟨e, (by rw [sp_rtypes, hw0]; simp only [pb]; rw [hsp, spt_step (by omega) (by omega) (by omega), c1]; rfl), c2⟩)⟩
      rintro A1_ ⟨F85_, hA_, g86_, s87_, c81_, c82_, c83_, c84_⟩
      subst hA_
      have g88_ : fs [(1, 1, 7, 8), (8, 10, 0, 100000)] F F85_ := fs_tr g20_ s87_ rfl
      have tk89_ : tkh K F85_ := tkh_fs tk21_ s87_ (fun r k h => (fs_n (by omega) (fs_n (by omega) rfl))) (fs_n (by omega) (fs_n (by omega) rfl))
      refine ga_inc (a := i) (c := i + 1) (lv2 := [(1, .int (Int32.ofInt (i + 1))), (0, .ref 118)]) hm_128 rfl rfl (Nat.le_of_ble_eq_true rfl) rfl rfl ?_
      refine fl_goto hm_128 rfl ?_
      have b90_ : 0 ≤ F85_ 8 2 ∧ F85_ 8 2 ≤ 4 := gi_g g86_ rfl
      have b91_ : 0 ≤ F1 8 2 ∧ F1 8 2 ≤ 4 := gi_g hg_F1 rfl
      have b92_ : 0 ≤ F85_ 1 7 ∧ F85_ 1 7 ≤ 600 := gi_g g86_ rfl
      have b93_ : 0 ≤ K 1 6 ∧ K 1 6 ≤ 601 := gi_g hgK rfl
      exact ih18_ _ (by omega) (i + 1) (_) (_) F85_ rfl g86_ (fs_tr hf_F1 s87_ rfl) (by omega) (c83_) (c84_) (by simp; omega) (by omega) (by rw [hsp, spt_step (by omega) (by omega) (by omega), c81_]; rfl)
    refine fl_iconst hm_153 rfl ?_
    refine fl_goto hm_153 rfl ?_
    refine gr_i hm_153 rfl rfl (ga_nb (by omega)) ?_
    refine fl_if_ne hm_128 rfl ⟨by omega, by omega⟩ (fun _ => ?_) (fun h => absurd (by omega) h)
    refine ga_aload_n (v := .ref 118) hm_128 rfl rfl rfl ?_
    refine ga_getr (b := 1) hm_128 rfl sc_118 rfl ?_
    refine fl_iconst hm_128 rfl ?_
    refine gVv (nY := 2) (F := 7) (L := 121) (As := [.int (Int32.ofInt 1)]) (b := 1) (rest := []) hm_128 rfl hm_24 rfl rfl (fl_ob sc_1) rfl rfl rfl rfl rfl (by omega) (by omega) (mc_24 hG F1 X hg_F1 (K) (1) hgK tk21_ hko (by omega) (by omega)) ?_ ?_
    ·
      rintro j_ A1_ ⟨F95_, ⟨hJ_, hA_⟩, g96_, s97_, c94_⟩
      subst hA_
      subst hJ_
      refine ⟨rfl, ?_⟩
      refine gw_v ?_
      have g98_ : fs [(1, 1, 7, 8), (8, 10, 0, 100000)] F F95_ := fs_tr g20_ s97_ rfl
      have b99_ : 0 ≤ F95_ 1 8 ∧ F95_ 1 8 ≤ 100000 := gi_g g96_ rfl
      exact ⟨F95_, ⟨rfl, rfl⟩, g96_, g98_, (by obtain ⟨e, c1, c2⟩ := c94_; exact ⟨e, (by rw [sp_rtypes, hw0]; simp only [pb]; rw [hsp, spt_e (by omega) (by omega) (by omega)]; simp only; rw [c1]), c2⟩)⟩
    rintro A1_ ⟨F103_, hA_, g104_, s105_, c101_, c102_⟩
    subst hA_
    have g106_ : fs [(1, 1, 7, 8), (8, 10, 0, 100000)] F F103_ := fs_tr g20_ s105_ rfl
    have tk107_ : tkh K F103_ := tkh_fs tk21_ s105_ (fun r k h => (fs_n (by omega) rfl)) (fs_n (by omega) rfl)
    refine gr_v hm_128 rfl rfl ?_
    have b108_ : 0 ≤ F103_ 1 7 ∧ F103_ 1 7 ≤ 600 := gi_g g104_ rfl
    have e109_ : F103_ 8 2 = F1 8 2 := (s105_ 8 2 rfl).trans (rfl)
    have b110_ : 0 ≤ F1 8 2 ∧ F1 8 2 ≤ 4 := gi_g hg_F1 rfl
    exact ⟨F103_, rfl, g104_, g106_, (⟨l, by rw [sp_rtypes, hw0]; simp only [pb]; rw [hsp, spt_e (by omega) (by omega) (by omega)]; simp only; rw [c101_], (rep_fs hl s105_ (fun _ => (fs_n (by omega) rfl)) (fs_n (by omega) rfl))⟩), (by omega)⟩
  have e111_ : F11_ 8 2 = F 8 2 := (s13_ 8 2 rfl).trans (rfl)
  have b112_ : 0 ≤ F 8 2 ∧ F 8 2 ≤ 4 := gi_g hgi rfl
  have b113_ : 0 ≤ F11_ 1 7 ∧ F11_ 1 7 ≤ 600 := gi_g g12_ rfl
  have b114_ : 0 ≤ K 1 6 ∧ K 1 6 ≤ 601 := gi_g hgK rfl
  exact L17_ _ (0) ([]) ([]) F11_ rfl g12_ fs_refl (by omega) (rep_fs hl0 s13_ (fun _ => (fs_n (by omega) rfl)) (fs_n (by omega) rfl)) (rep_fs ht0 s13_ (fun _ => (fs_n (by omega) rfl)) (fs_n (by omega) rfl)) (by simp) (by omega) (by simp)
/- CheapPlanner$Reader.readPredicates -/
abbrev pq_124 (G : Nat → Nat → Option Nat) (F : fl_N) (X : xi_H) (K : fl_N) (ts : List Int) : Outcome → xi_H → Prop := gqv (fun A => ∃ F' : fl_N, fl_H sh_T G F' ++ X = A ∧ gi F' ∧ fs [(1, 1, 7, 8), (11, 13, 0, 100000), (21, 38, 0, 100000)] F F' ∧ (∃ l ps, (sp_rpreds K ts (F 1 7) = .inr (F' 1 7, l, ps) ∧ l.length = ps.length) ∧ rep (F' 12) (F' 11 2) l ∧ prd F' ps) ∧ (0 ≤ F' 1 7 ∧ F' 1 7 ≤ K 1 6 - 1)) (fun j A => ∃ F' : fl_N, (387 + X.length = j ∧ fl_H sh_T G F' ++ (X ++ [gx 14]) = A) ∧ gi F' ∧ fs [(1, 1, 7, 8), (11, 13, 0, 100000), (21, 38, 0, 100000)] F F' ∧ (∃ e, sp_rpreds K ts (F 1 7) = .inl e ∧ F' 1 8 = e.1 + 10 * e.2))
theorem mc_124 {G : Nat → Nat → Option Nat} (hG : gg G) (F : fl_N) (X : xi_H) (hgi : gi F) (K : fl_N) (ts : List Int) (hgK : gi K) (hK : tkh K F) (hko : tko K) (hp : 0 ≤ F 1 7 ∧ F 1 7 ≤ K 1 6 - 1) (hts : rep (F 9) (F 8 2) ts) (hl0 : rep (F 12) (F 11 2) []) (ht0 : rep (F 13) (F 11 2) []) : fl_M xi_ms 124 10 188 [.ref 118] (fl_H sh_T G F ++ X) (pq_124 G F X K ts) := by
  intro fr lo hfr hlo
  show fl_R xi_ms 124 fr lo 0 [(0, .ref 118)] [] _ _
  refine ga_aload_n (v := .ref 118) hm_124 rfl rfl rfl ?_
  refine ga_getr (b := 1) hm_124 rfl sc_118 rfl ?_
  refine ga_ldcs hm_124 rfl ?_
  have b1_ : 0 ≤ F 1 7 ∧ F 1 7 ≤ 600 := gi_g hgi rfl
  refine gVv (nY := 2) (F := 7) (L := 123) (As := [.retAddr 4]) (b := 1) (rest := []) hm_124 rfl hm_155 rfl rfl (fl_ob sc_1) rfl rfl rfl rfl rfl (by omega) (by omega) (mc_155 hG F X hgi (K) (4) ([58, 112, 114, 101, 100, 105, 99, 97, 116, 101, 115]) hgK hK hko (by omega) (rfl) (by decide)) ?_ ?_
  ·
    rintro j_ A1_ ⟨F3_, ⟨hJ_, hA_⟩, g4_, s5_, c2_⟩
    subst hA_
    subst hJ_
    refine ⟨rfl, ?_⟩
    refine gw_v ?_
    have g6_ : fs [(1, 1, 7, 8), (11, 13, 0, 100000), (21, 38, 0, 100000)] F F3_ := fs_tr fs_refl s5_ rfl
    have b7_ : 0 ≤ F3_ 1 8 ∧ F3_ 1 8 ≤ 100000 := gi_g g4_ rfl
    exact ⟨F3_, ⟨rfl, rfl⟩, g4_, g6_, (by obtain ⟨e, c1, c2⟩ := c2_; exact ⟨e, (by simp [sp_rpreds, c1, pf, pb]), c2⟩)⟩
  rintro A1_ ⟨F11_, hA_, g12_, s13_, c9_, c10_⟩
  subst hA_
  have g14_ : fs [(1, 1, 7, 8), (11, 13, 0, 100000), (21, 38, 0, 100000)] F F11_ := fs_tr fs_refl s13_ rfl
  have tk15_ : tkh K F11_ := tkh_fs hK s13_ (fun r k h => (fs_n (by omega) rfl)) (fs_n (by omega) rfl)
  have hw0 := c9_
  refine fl_iconst hm_124 rfl ?_
  refine ga_istore_n (lv2 := [(1, .int (Int32.ofInt 0)), (0, .ref 118)]) hm_124 rfl (Nat.le_of_ble_eq_true rfl) rfl ?_
  have L17_ : ∀ (n16_ : Nat) (i : Int) (l : List Int) (tl : List Int) (ps : List (List Int)) (F1 : fl_N), (6 - i : Int).toNat = n16_ → (gi F1) → (fs [(1, 1, 7, 8), (11, 13, 0, 100000), (21, 38, 0, 100000)] F11_ F1) → (0 ≤ i ∧ i ≤ 6) → (rep (F1 12) (F1 11 2) l) → (rep (F1 13) (F1 11 2) tl) → ((l.length : Int) = i) → (0 ≤ F1 1 7 ∧ F1 1 7 ≤ K 1 6 - 1) → (prd F1 ps ∧ (ps.length : Int) = i) → (sp_preds K ts 6 [] [] (F11_ 1 7) = sp_preds K ts (6 - i).toNat l ps (F1 1 7)) → fl_R xi_ms 124 fr lo 11 [(1, .int (Int32.ofInt i)), (0, .ref 118)] [] (fl_H sh_T G F1 ++ X) (pq_124 G F X K ts) := by
    intro n16_
    induction n16_ using Nat.strongRecOn with
    | ind n16_ ih18_ =>
    intro i l tl ps F1 hn19_ hg_F1 hf_F1 hi hl htl hli hp1 hpr hsp
    have g20_ : fs [(1, 1, 7, 8), (11, 13, 0, 100000), (21, 38, 0, 100000)] F F1 := fs_tr g14_ hf_F1 rfl
    have tk21_ : tkh K F1 := tkh_fs tk15_ hf_F1 (fun r k h => (fs_n (by omega) (fs_n (by omega) (fs_n (by omega) rfl)))) (fs_n (by omega) (fs_n (by omega) (fs_n (by omega) rfl)))
    have hpn := hpr.2
    refine ga_iload_n (z := i) hm_124 rfl rfl ?_
    refine fl_bipush hm_124 rfl rfl ?_
    refine fl_icmp_ge (a := i) (b := 6) hm_124 rfl ⟨by omega, by omega⟩ ⟨by omega, by omega⟩ (fun h22_ => ?_) (fun h23_ => ?_)
    ·
      refine ga_aload_n (v := .ref 118) hm_124 rfl rfl rfl ?_
      refine ga_getr (b := 1) hm_124 rfl sc_118 rfl ?_
      refine fl_iconst hm_124 rfl ?_
      have b24_ : 0 ≤ F1 1 7 ∧ F1 1 7 ≤ 600 := gi_g hg_F1 rfl
      refine gVv (nY := 2) (F := 7) (L := 121) (As := [.int (Int32.ofInt 1)]) (b := 1) (rest := []) hm_124 rfl hm_24 rfl rfl (fl_ob sc_1) rfl rfl rfl rfl rfl (by omega) (by omega) (mc_24 hG F1 X hg_F1 (K) (1) hgK tk21_ hko (by omega) (by omega)) ?_ ?_
      ·
        rintro j_ A1_ ⟨F26_, ⟨hJ_, hA_⟩, g27_, s28_, c25_⟩
        subst hA_
        subst hJ_
        refine ⟨rfl, ?_⟩
        refine gw_v ?_
        have g29_ : fs [(1, 1, 7, 8), (11, 13, 0, 100000), (21, 38, 0, 100000)] F F26_ := fs_tr g20_ s28_ rfl
        have b30_ : 0 ≤ F26_ 1 8 ∧ F26_ 1 8 ≤ 100000 := gi_g g27_ rfl
        exact ⟨F26_, ⟨rfl, rfl⟩, g27_, g29_, (by obtain ⟨e, c1, c2⟩ := c25_; exact ⟨e, (by rw [sp_rpreds, hw0]; simp only [pb]; rw [hsp, spq_z (by omega)]; simp only; rw [c1]), c2⟩)⟩
      rintro A1_ ⟨F34_, hA_, g35_, s36_, c32_, c33_⟩
      subst hA_
      have g37_ : fs [(1, 1, 7, 8), (11, 13, 0, 100000), (21, 38, 0, 100000)] F F34_ := fs_tr g20_ s36_ rfl
      have tk38_ : tkh K F34_ := tkh_fs tk21_ s36_ (fun r k h => (fs_n (by omega) rfl)) (fs_n (by omega) rfl)
      refine gr_v hm_124 rfl rfl ?_
      have b39_ : 0 ≤ F34_ 1 7 ∧ F34_ 1 7 ≤ 600 := gi_g g35_ rfl
      have e40_ : F34_ 11 2 = F1 11 2 := (s36_ 11 2 rfl).trans (rfl)
      have b41_ : 0 ≤ F1 11 2 ∧ F1 11 2 ≤ 6 := gi_g hg_F1 rfl
      exact ⟨F34_, rfl, g35_, g37_, (⟨l, ps, ⟨by rw [sp_rpreds, hw0]; simp only [pb]; rw [hsp, spq_z (by omega)]; simp only; rw [c32_], by omega⟩, (rep_fs hl s36_ (fun _ => (fs_n (by omega) rfl)) (fs_n (by omega) rfl)), (prd_fs hpr.1 s36_ (fun _ _ _ => (fs_n (by omega) rfl)))⟩), (by omega)⟩
    refine ga_iload_n (z := i) hm_124 rfl rfl ?_
    refine fl_if_eq (a := i) hm_124 rfl ⟨by omega, by omega⟩ (fun h42_ => ?_) (fun h43_ => ?_)
    ·
      refine ga_aload_n (v := .ref 118) hm_124 rfl rfl rfl ?_
      refine ga_getr (b := 1) hm_124 rfl sc_118 rfl ?_
      refine fl_iconst hm_124 rfl ?_
      have b44_ : 0 ≤ F1 1 7 ∧ F1 1 7 ≤ 600 := gi_g hg_F1 rfl
      refine gVv (nY := 2) (F := 7) (L := 121) (As := [.int (Int32.ofInt 0)]) (b := 1) (rest := []) hm_124 rfl hm_24 rfl rfl (fl_ob sc_1) rfl rfl rfl rfl rfl (by omega) (by omega) (mc_24 hG F1 X hg_F1 (K) (0) hgK tk21_ hko (by omega) (by omega)) ?_ ?_
      ·
        rintro j_ A1_ ⟨F46_, ⟨hJ_, hA_⟩, g47_, s48_, c45_⟩
        subst hA_
        subst hJ_
        refine ⟨rfl, ?_⟩
        refine gw_v ?_
        have g49_ : fs [(1, 1, 7, 8), (11, 13, 0, 100000), (21, 38, 0, 100000)] F F46_ := fs_tr g20_ s48_ rfl
        have b50_ : 0 ≤ F46_ 1 8 ∧ F46_ 1 8 ≤ 100000 := gi_g g47_ rfl
        exact ⟨F46_, ⟨rfl, rfl⟩, g47_, g49_, (by obtain ⟨e, c1, c2⟩ := c45_; exact ⟨e, (by (try simp only [Int.reduceToNat] at c1); rw [sp_rpreds, hw0]; simp only [pb]; rw [hsp, spq_step (by omega) (by omega) (by omega)]; simp [pb, c1]), c2⟩)⟩
      rintro A1_ ⟨F54_, hA_, g55_, s56_, c52_, c53_⟩
      subst hA_
      have g57_ : fs [(1, 1, 7, 8), (11, 13, 0, 100000), (21, 38, 0, 100000)] F F54_ := fs_tr g20_ s56_ rfl
      have tk58_ : tkh K F54_ := tkh_fs tk21_ s56_ (fun r k h => (fs_n (by omega) rfl)) (fs_n (by omega) rfl)
      refine ga_aload_n (v := .ref 118) hm_124 rfl rfl rfl ?_
      refine ga_aload_n (v := .ref 118) hm_124 rfl rfl rfl ?_
      refine ga_getr (b := 7) hm_124 rfl sc_118 rfl ?_
      refine ga_getr (b := 11) hm_124 rfl sc_7 rfl ?_
      refine fl_iconst hm_124 rfl ?_
      have b59_ : 0 ≤ F54_ 1 7 ∧ F54_ 1 7 ≤ 600 := gi_g g55_ rfl
      refine gVv (nY := 3) (F := 7) (L := 121) (As := [.ref 11, .int (Int32.ofInt 2)]) (b := 118) (rest := []) hm_124 rfl hm_121 rfl rfl (fl_ob sc_118) rfl rfl rfl rfl rfl (by omega) (by omega) (mc_121 hG F54_ X g55_ (K) (11) (6) (2) (l) (tl) hgK tk58_ hko (by omega) nm_11 (by omega) ((rep_fs hl s56_ (fun _ => (fs_n (by omega) rfl)) (fs_n (by omega) rfl))) ((rep_fs htl s56_ (fun _ => (fs_n (by omega) rfl)) (fs_n (by omega) rfl))) (by omega)) ?_ ?_
      ·
        rintro j_ A1_ ⟨F61_, ⟨hJ_, hA_⟩, g62_, s63_, c60_⟩
        subst hA_
        subst hJ_
        refine ⟨rfl, ?_⟩
        refine gw_v ?_
        have g64_ : fs [(1, 1, 7, 8), (11, 13, 0, 100000), (21, 38, 0, 100000)] F F61_ := fs_tr g57_ s63_ rfl
        have b65_ : 0 ≤ F61_ 1 8 ∧ F61_ 1 8 ≤ 100000 := gi_g g62_ rfl
        exact ⟨F61_, ⟨rfl, rfl⟩, g62_, g64_, (by obtain ⟨e, c1, c2⟩ := c60_; exact ⟨e, (by (try simp only [Int.reduceToNat] at c1); rw [sp_rpreds, hw0]; simp only [pb]; rw [hsp, spq_step (by omega) (by omega) (by omega)]; simp [pb, c52_, c1]), c2⟩)⟩
      rintro A1_ ⟨F71_, hA_, g72_, s73_, c67_, c68_, c69_, c70_⟩
      subst hA_
      have g74_ : fs [(1, 1, 7, 8), (11, 13, 0, 100000), (21, 38, 0, 100000)] F F71_ := fs_tr g57_ s73_ rfl
      have tk75_ : tkh K F71_ := tkh_fs tk58_ s73_ (fun r k h => (fs_n (by omega) (fs_n (by omega) rfl))) (fs_n (by omega) (fs_n (by omega) rfl))
      refine ga_aload_n (v := .ref 118) hm_124 rfl rfl rfl ?_
      refine ga_aload_n (v := .ref 118) hm_124 rfl rfl rfl ?_
      refine ga_getr (b := 7) hm_124 rfl sc_118 rfl ?_
      refine ga_getr (b := 14) hm_124 rfl sc_7 rfl ?_
      refine ga_iload_n (z := i) hm_124 rfl rfl ?_
      obtain ⟨a76_, r77_, n78_, q79_⟩ := ra_14 (i).toNat (by omega)
      refine fl_aald (z := i) (q := a76_) hm_124 rfl sc_14 (hG _ _ _ sc_14) rfl (by omega) (by simp only [List.length_cons, List.length_nil]; omega) (by simp only [List.length_cons, List.length_nil]; omega) r77_ ?_
      refine fl_iconst hm_124 rfl ?_
      have b80_ : 0 ≤ F71_ 1 7 ∧ F71_ 1 7 ≤ 600 := gi_g g72_ rfl
      refine gVv (nY := 4) (F := 9) (L := 165) (As := [.ref a76_, .int (Int32.ofInt 2)]) (b := 118) (rest := []) hm_124 rfl hm_123 rfl rfl (fl_ob sc_118) rfl rfl rfl rfl rfl (by omega) (by omega) (mc_123 hG F71_ X g72_ (K) (a76_) (2) (2) (ts) hgK tk75_ hko (by omega) n78_ (by omega) (by omega) ((rep_fs (rep_fs (rep_fs (rep_fs hts s13_ (fun _ => (fs_n (by omega) rfl)) (fs_n (by omega) rfl)) hf_F1 (fun _ => (fs_n (by omega) (fs_n (by omega) (fs_n (by omega) rfl)))) (fs_n (by omega) (fs_n (by omega) (fs_n (by omega) rfl)))) s56_ (fun _ => (fs_n (by omega) rfl)) (fs_n (by omega) rfl)) s73_ (fun _ => (fs_n (by omega) (fs_n (by omega) rfl))) (fs_n (by omega) (fs_n (by omega) rfl))))) ?_ ?_
      ·
        rintro j_ A1_ ⟨F82_, ⟨hJ_, hA_⟩, g83_, s84_, c81_⟩
        subst hA_
        subst hJ_
        refine ⟨rfl, ?_⟩
        refine gw_v ?_
        have g85_ : fs [(1, 1, 7, 8), (11, 13, 0, 100000), (21, 38, 0, 100000)] F F82_ := fs_tr g74_ s84_ (by simp [fs_le]; try omega)
        have b86_ : 0 ≤ F82_ 1 8 ∧ F82_ 1 8 ≤ 100000 := gi_g g83_ rfl
        exact ⟨F82_, ⟨rfl, rfl⟩, g83_, g85_, (by obtain ⟨e, c1, c2⟩ := c81_; exact ⟨e, (by (try simp only [Int.reduceToNat] at c1); rw [sp_rpreds, hw0]; simp only [pb]; rw [hsp, spq_step (by omega) (by omega) (by omega)]; simp [pb, c52_, c67_, c1]), c2⟩)⟩
      rintro A1_ ⟨F90_, hA_, g91_, s92_, c88_, c89_⟩
      subst hA_
      have g93_ : fs [(1, 1, 7, 8), (11, 13, 0, 100000), (21, 38, 0, 100000)] F F90_ := fs_tr g74_ s92_ (by simp [fs_le]; try omega)
      have tk94_ : tkh K F90_ := tkh_fs tk75_ s92_ (fun r k h => (fs_n (by omega) (fs_n (by omega) rfl))) (fs_n (by omega) (fs_n (by omega) rfl))
      obtain ⟨l2_, tl2_, ct1_, ct2_, ct3_⟩ := c88_
      simp only [Int.reduceToNat] at ct1_
      refine ga_aload_n (v := .ref 118) hm_124 rfl rfl rfl ?_
      refine ga_getr (b := 1) hm_124 rfl sc_118 rfl ?_
      refine fl_iconst hm_124 rfl ?_
      have b95_ : 0 ≤ F90_ 1 7 ∧ F90_ 1 7 ≤ 600 := gi_g g91_ rfl
      refine gVv (nY := 2) (F := 7) (L := 121) (As := [.int (Int32.ofInt 1)]) (b := 1) (rest := []) hm_124 rfl hm_24 rfl rfl (fl_ob sc_1) rfl rfl rfl rfl rfl (by omega) (by omega) (mc_24 hG F90_ X g91_ (K) (1) hgK tk94_ hko (by omega) (by omega)) ?_ ?_
      ·
        rintro j_ A1_ ⟨F97_, ⟨hJ_, hA_⟩, g98_, s99_, c96_⟩
        subst hA_
        subst hJ_
        refine ⟨rfl, ?_⟩
        refine gw_v ?_
        have g100_ : fs [(1, 1, 7, 8), (11, 13, 0, 100000), (21, 38, 0, 100000)] F F97_ := fs_tr g93_ s99_ rfl
        have b101_ : 0 ≤ F97_ 1 8 ∧ F97_ 1 8 ≤ 100000 := gi_g g98_ rfl
        exact ⟨F97_, ⟨rfl, rfl⟩, g98_, g100_, (by obtain ⟨e, c1, c2⟩ := c96_; exact ⟨e, (by (try simp only [Int.reduceToNat] at c1); rw [sp_rpreds, hw0]; simp only [pb]; rw [hsp, spq_step (by omega) (by omega) (by omega)]; simp [pb, c52_, c67_, ct1_, c1]), c2⟩)⟩
      rintro A1_ ⟨F105_, hA_, g106_, s107_, c103_, c104_⟩
      subst hA_
      have g108_ : fs [(1, 1, 7, 8), (11, 13, 0, 100000), (21, 38, 0, 100000)] F F105_ := fs_tr g93_ s107_ rfl
      have tk109_ : tkh K F105_ := tkh_fs tk94_ s107_ (fun r k h => (fs_n (by omega) rfl)) (fs_n (by omega) rfl)
      refine ga_inc (a := i) (c := i + 1) (lv2 := [(1, .int (Int32.ofInt (i + 1))), (0, .ref 118)]) hm_124 rfl rfl (Nat.le_of_ble_eq_true rfl) rfl rfl ?_
      refine fl_goto hm_124 rfl ?_
      have e110_ : F90_ 11 2 = F71_ 11 2 := (s92_ 11 2 (fs_n (by omega) (fs_n (by omega) rfl))).trans (rfl)
      have e111_ : F105_ 11 2 = F71_ 11 2 := (s107_ 11 2 rfl).trans (e110_)
      have b112_ : 0 ≤ F71_ 11 2 ∧ F71_ 11 2 ≤ 6 := gi_g g72_ rfl
      have b113_ : 0 ≤ F1 11 2 ∧ F1 11 2 ≤ 6 := gi_g hg_F1 rfl
      have b114_ : 0 ≤ F105_ 1 7 ∧ F105_ 1 7 ≤ 600 := gi_g g106_ rfl
      have b115_ : 0 ≤ K 1 6 ∧ K 1 6 ≤ 601 := gi_g hgK rfl
      exact ih18_ _ (by omega) (i + 1) (_) (_) (_) F105_ rfl g106_ (fs_tr (fs_tr (fs_tr (fs_tr hf_F1 s56_ rfl) s73_ rfl) s92_ (by simp [fs_le]; try omega)) s107_ rfl) (by omega) (rep_fs (rep_fs c69_ s92_ (fun _ => (fs_n (by omega) (fs_n (by omega) rfl))) (fs_n (by omega) (fs_n (by omega) rfl))) s107_ (fun _ => (fs_n (by omega) rfl)) (fs_n (by omega) rfl)) (rep_fs (rep_fs c70_ s92_ (fun _ => (fs_n (by omega) (fs_n (by omega) rfl))) (fs_n (by omega) (fs_n (by omega) rfl))) s107_ (fun _ => (fs_n (by omega) rfl)) (fs_n (by omega) rfl)) (by simp; omega) (by omega) (⟨prd_add (prd_fs (prd_fs (prd_fs (prd_fs hpr.1 s56_ (fun _ _ _ => (fs_n (by omega) rfl))) s73_ (fun _ _ _ => (fs_n (by omega) (fs_n (by omega) rfl)))) s92_ (fun _ _ _ => (fs_n (by omega) (fs_n (by omega) rfl)))) s107_ (fun _ _ _ => (fs_n (by omega) rfl))) (rep_fs ct3_ s107_ (fun _ => (fs_n (by omega) rfl)) (fs_n (by omega) rfl)) (by omega), by simp; omega⟩) (by rw [hsp, spq_step (by omega) (by omega) (by omega)]; simp [pb, c52_, c67_, ct1_, c103_])
    refine ga_aload_n (v := .ref 118) hm_124 rfl rfl rfl ?_
    refine ga_getr (b := 1) hm_124 rfl sc_118 rfl ?_
    refine fl_iconst hm_124 rfl ?_
    refine gIi (nY := 2) (F := 0) (L := 0) (As := [.int (Int32.ofInt 0)]) (b := 1) (rest := []) hm_124 rfl hm_153 rfl rfl (fl_ob sc_1) rfl rfl rfl rfl rfl (by omega) (by omega) ?_
    intro f116_ l117_ h118_ h119_
    show fl_R xi_ms 153 f116_ l117_ 0 [(0, .ref 1), (1, .int (Int32.ofInt 0))] [] _ _
    refine ga_aload_n (v := .ref 1) hm_153 rfl rfl rfl ?_
    refine ga_getr (b := 3) hm_153 rfl sc_1 rfl ?_
    refine ga_aload_n (v := .ref 1) hm_153 rfl rfl rfl ?_
    have b120_ : 0 ≤ F1 1 7 ∧ F1 1 7 ≤ 600 := gi_g hg_F1 rfl
    refine ga_geti (z := F1 1 7) hm_153 rfl sc_1 rfl (rfl) ?_
    have e121_ : F1 3 (F1 1 7).toNat = K 3 (F1 1 7).toNat := tk21_.1 3 (F1 1 7).toNat (by omega)
    have b122_ : 0 ≤ K 3 (F1 1 7).toNat ∧ K 3 (F1 1 7).toNat ≤ 5 := gi_g hgK rfl
    refine ga_iald (z := F1 1 7) (w := K 3 (F1 1 7).toNat) hm_153 rfl sc_3 (by omega) (by omega) (by omega) (e121_) ?_
    refine ga_iload_n (z := 0) hm_153 rfl rfl ?_
    refine fx_icmp_ne (a := K 3 (F1 1 7).toNat) (b := 0) hm_153 rfl ⟨by omega, by omega⟩ ⟨by omega, by omega⟩ (fun h123_ => ?_) (fun h124_ => ?_)
    ·
      refine fl_iconst hm_153 rfl ?_
      refine gr_i hm_153 rfl rfl (ga_nb (by omega)) ?_
      refine fl_if_eq hm_124 rfl ⟨by omega, by omega⟩ (fun _ => ?_) (fun h => absurd (by omega) h)
      refine ga_aload_n (v := .ref 118) hm_124 rfl rfl rfl ?_
      refine ga_getr (b := 1) hm_124 rfl sc_118 rfl ?_
      refine fl_iconst hm_124 rfl ?_
      refine gVv (nY := 2) (F := 7) (L := 121) (As := [.int (Int32.ofInt 1)]) (b := 1) (rest := []) hm_124 rfl hm_24 rfl rfl (fl_ob sc_1) rfl rfl rfl rfl rfl (by omega) (by omega) (mc_24 hG F1 X hg_F1 (K) (1) hgK tk21_ hko (by omega) (by omega)) ?_ ?_
      ·
        rintro j_ A1_ ⟨F126_, ⟨hJ_, hA_⟩, g127_, s128_, c125_⟩
        subst hA_
        subst hJ_
        refine ⟨rfl, ?_⟩
        refine gw_v ?_
        have g129_ : fs [(1, 1, 7, 8), (11, 13, 0, 100000), (21, 38, 0, 100000)] F F126_ := fs_tr g20_ s128_ rfl
        have b130_ : 0 ≤ F126_ 1 8 ∧ F126_ 1 8 ≤ 100000 := gi_g g127_ rfl
        exact ⟨F126_, ⟨rfl, rfl⟩, g127_, g129_, (by obtain ⟨e, c1, c2⟩ := c125_; exact ⟨e, (by rw [sp_rpreds, hw0]; simp only [pb]; rw [hsp, spq_e (by omega) (by omega) (by omega)]; simp only; rw [c1]), c2⟩)⟩
      rintro A1_ ⟨F134_, hA_, g135_, s136_, c132_, c133_⟩
      subst hA_
      have g137_ : fs [(1, 1, 7, 8), (11, 13, 0, 100000), (21, 38, 0, 100000)] F F134_ := fs_tr g20_ s136_ rfl
      have tk138_ : tkh K F134_ := tkh_fs tk21_ s136_ (fun r k h => (fs_n (by omega) rfl)) (fs_n (by omega) rfl)
      refine gr_v hm_124 rfl rfl ?_
      have b139_ : 0 ≤ F134_ 1 7 ∧ F134_ 1 7 ≤ 600 := gi_g g135_ rfl
      have e140_ : F134_ 11 2 = F1 11 2 := (s136_ 11 2 rfl).trans (rfl)
      have b141_ : 0 ≤ F1 11 2 ∧ F1 11 2 ≤ 6 := gi_g hg_F1 rfl
      exact ⟨F134_, rfl, g135_, g137_, (⟨l, ps, ⟨by rw [sp_rpreds, hw0]; simp only [pb]; rw [hsp, spq_e (by omega) (by omega) (by omega)]; simp only; rw [c132_], by omega⟩, (rep_fs hl s136_ (fun _ => (fs_n (by omega) rfl)) (fs_n (by omega) rfl)), (prd_fs hpr.1 s136_ (fun _ _ _ => (fs_n (by omega) rfl)))⟩), (by omega)⟩
    refine fl_iconst hm_153 rfl ?_
    refine fl_goto hm_153 rfl ?_
    refine gr_i hm_153 rfl rfl (ga_nb (by omega)) ?_
    refine fl_if_eq hm_124 rfl ⟨by omega, by omega⟩ (fun h => absurd h (by omega)) (fun _ => ?_)
    refine ga_aload_n (v := .ref 118) hm_124 rfl rfl rfl ?_
    refine ga_getr (b := 1) hm_124 rfl sc_118 rfl ?_
    refine fl_iconst hm_124 rfl ?_
    refine gVv (nY := 2) (F := 7) (L := 121) (As := [.int (Int32.ofInt 0)]) (b := 1) (rest := []) hm_124 rfl hm_24 rfl rfl (fl_ob sc_1) rfl rfl rfl rfl rfl (by omega) (by omega) (mc_24 hG F1 X hg_F1 (K) (0) hgK tk21_ hko (by omega) (by omega)) ?_ ?_
    ·
      rintro j_ A1_ ⟨F143_, ⟨hJ_, hA_⟩, g144_, s145_, c142_⟩
      subst hA_
      subst hJ_
      refine ⟨rfl, ?_⟩
      refine gw_v ?_
      have g146_ : fs [(1, 1, 7, 8), (11, 13, 0, 100000), (21, 38, 0, 100000)] F F143_ := fs_tr g20_ s145_ rfl
      have b147_ : 0 ≤ F143_ 1 8 ∧ F143_ 1 8 ≤ 100000 := gi_g g144_ rfl
      exact ⟨F143_, ⟨rfl, rfl⟩, g144_, g146_, (by obtain ⟨e, c1, c2⟩ := c142_; exact ⟨e, (by (try simp only [Int.reduceToNat] at c1); rw [sp_rpreds, hw0]; simp only [pb]; rw [hsp, spq_step (by omega) (by omega) (by omega)]; simp [pb, c1]), c2⟩)⟩
    rintro A1_ ⟨F151_, hA_, g152_, s153_, c149_, c150_⟩
    subst hA_
    have g154_ : fs [(1, 1, 7, 8), (11, 13, 0, 100000), (21, 38, 0, 100000)] F F151_ := fs_tr g20_ s153_ rfl
    have tk155_ : tkh K F151_ := tkh_fs tk21_ s153_ (fun r k h => (fs_n (by omega) rfl)) (fs_n (by omega) rfl)
    refine ga_aload_n (v := .ref 118) hm_124 rfl rfl rfl ?_
    refine ga_aload_n (v := .ref 118) hm_124 rfl rfl rfl ?_
    refine ga_getr (b := 7) hm_124 rfl sc_118 rfl ?_
    refine ga_getr (b := 11) hm_124 rfl sc_7 rfl ?_
    refine fl_iconst hm_124 rfl ?_
    have b156_ : 0 ≤ F151_ 1 7 ∧ F151_ 1 7 ≤ 600 := gi_g g152_ rfl
    refine gVv (nY := 3) (F := 7) (L := 121) (As := [.ref 11, .int (Int32.ofInt 2)]) (b := 118) (rest := []) hm_124 rfl hm_121 rfl rfl (fl_ob sc_118) rfl rfl rfl rfl rfl (by omega) (by omega) (mc_121 hG F151_ X g152_ (K) (11) (6) (2) (l) (tl) hgK tk155_ hko (by omega) nm_11 (by omega) ((rep_fs hl s153_ (fun _ => (fs_n (by omega) rfl)) (fs_n (by omega) rfl))) ((rep_fs htl s153_ (fun _ => (fs_n (by omega) rfl)) (fs_n (by omega) rfl))) (by omega)) ?_ ?_
    ·
      rintro j_ A1_ ⟨F158_, ⟨hJ_, hA_⟩, g159_, s160_, c157_⟩
      subst hA_
      subst hJ_
      refine ⟨rfl, ?_⟩
      refine gw_v ?_
      have g161_ : fs [(1, 1, 7, 8), (11, 13, 0, 100000), (21, 38, 0, 100000)] F F158_ := fs_tr g154_ s160_ rfl
      have b162_ : 0 ≤ F158_ 1 8 ∧ F158_ 1 8 ≤ 100000 := gi_g g159_ rfl
      exact ⟨F158_, ⟨rfl, rfl⟩, g159_, g161_, (by obtain ⟨e, c1, c2⟩ := c157_; exact ⟨e, (by (try simp only [Int.reduceToNat] at c1); rw [sp_rpreds, hw0]; simp only [pb]; rw [hsp, spq_step (by omega) (by omega) (by omega)]; simp [pb, c149_, c1]), c2⟩)⟩
    rintro A1_ ⟨F168_, hA_, g169_, s170_, c164_, c165_, c166_, c167_⟩
    subst hA_
    have g171_ : fs [(1, 1, 7, 8), (11, 13, 0, 100000), (21, 38, 0, 100000)] F F168_ := fs_tr g154_ s170_ rfl
    have tk172_ : tkh K F168_ := tkh_fs tk155_ s170_ (fun r k h => (fs_n (by omega) (fs_n (by omega) rfl))) (fs_n (by omega) (fs_n (by omega) rfl))
    refine ga_aload_n (v := .ref 118) hm_124 rfl rfl rfl ?_
    refine ga_aload_n (v := .ref 118) hm_124 rfl rfl rfl ?_
    refine ga_getr (b := 7) hm_124 rfl sc_118 rfl ?_
    refine ga_getr (b := 14) hm_124 rfl sc_7 rfl ?_
    refine ga_iload_n (z := i) hm_124 rfl rfl ?_
    obtain ⟨a173_, r174_, n175_, q176_⟩ := ra_14 (i).toNat (by omega)
    refine fl_aald (z := i) (q := a173_) hm_124 rfl sc_14 (hG _ _ _ sc_14) rfl (by omega) (by simp only [List.length_cons, List.length_nil]; omega) (by simp only [List.length_cons, List.length_nil]; omega) r174_ ?_
    refine fl_iconst hm_124 rfl ?_
    have b177_ : 0 ≤ F168_ 1 7 ∧ F168_ 1 7 ≤ 600 := gi_g g169_ rfl
    refine gVv (nY := 4) (F := 9) (L := 165) (As := [.ref a173_, .int (Int32.ofInt 2)]) (b := 118) (rest := []) hm_124 rfl hm_123 rfl rfl (fl_ob sc_118) rfl rfl rfl rfl rfl (by omega) (by omega) (mc_123 hG F168_ X g169_ (K) (a173_) (2) (2) (ts) hgK tk172_ hko (by omega) n175_ (by omega) (by omega) ((rep_fs (rep_fs (rep_fs (rep_fs hts s13_ (fun _ => (fs_n (by omega) rfl)) (fs_n (by omega) rfl)) hf_F1 (fun _ => (fs_n (by omega) (fs_n (by omega) (fs_n (by omega) rfl)))) (fs_n (by omega) (fs_n (by omega) (fs_n (by omega) rfl)))) s153_ (fun _ => (fs_n (by omega) rfl)) (fs_n (by omega) rfl)) s170_ (fun _ => (fs_n (by omega) (fs_n (by omega) rfl))) (fs_n (by omega) (fs_n (by omega) rfl))))) ?_ ?_
    ·
      rintro j_ A1_ ⟨F179_, ⟨hJ_, hA_⟩, g180_, s181_, c178_⟩
      subst hA_
      subst hJ_
      refine ⟨rfl, ?_⟩
      refine gw_v ?_
      have g182_ : fs [(1, 1, 7, 8), (11, 13, 0, 100000), (21, 38, 0, 100000)] F F179_ := fs_tr g171_ s181_ (by simp [fs_le]; try omega)
      have b183_ : 0 ≤ F179_ 1 8 ∧ F179_ 1 8 ≤ 100000 := gi_g g180_ rfl
      exact ⟨F179_, ⟨rfl, rfl⟩, g180_, g182_, (by obtain ⟨e, c1, c2⟩ := c178_; exact ⟨e, (by (try simp only [Int.reduceToNat] at c1); rw [sp_rpreds, hw0]; simp only [pb]; rw [hsp, spq_step (by omega) (by omega) (by omega)]; simp [pb, c149_, c164_, c1]), c2⟩)⟩
    rintro A1_ ⟨F187_, hA_, g188_, s189_, c185_, c186_⟩
    subst hA_
    have g190_ : fs [(1, 1, 7, 8), (11, 13, 0, 100000), (21, 38, 0, 100000)] F F187_ := fs_tr g171_ s189_ (by simp [fs_le]; try omega)
    have tk191_ : tkh K F187_ := tkh_fs tk172_ s189_ (fun r k h => (fs_n (by omega) (fs_n (by omega) rfl))) (fs_n (by omega) (fs_n (by omega) rfl))
    obtain ⟨l2_, tl2_, ct1_, ct2_, ct3_⟩ := c185_
    simp only [Int.reduceToNat] at ct1_
    refine ga_aload_n (v := .ref 118) hm_124 rfl rfl rfl ?_
    refine ga_getr (b := 1) hm_124 rfl sc_118 rfl ?_
    refine fl_iconst hm_124 rfl ?_
    have b192_ : 0 ≤ F187_ 1 7 ∧ F187_ 1 7 ≤ 600 := gi_g g188_ rfl
    refine gVv (nY := 2) (F := 7) (L := 121) (As := [.int (Int32.ofInt 1)]) (b := 1) (rest := []) hm_124 rfl hm_24 rfl rfl (fl_ob sc_1) rfl rfl rfl rfl rfl (by omega) (by omega) (mc_24 hG F187_ X g188_ (K) (1) hgK tk191_ hko (by omega) (by omega)) ?_ ?_
    ·
      rintro j_ A1_ ⟨F194_, ⟨hJ_, hA_⟩, g195_, s196_, c193_⟩
      subst hA_
      subst hJ_
      refine ⟨rfl, ?_⟩
      refine gw_v ?_
      have g197_ : fs [(1, 1, 7, 8), (11, 13, 0, 100000), (21, 38, 0, 100000)] F F194_ := fs_tr g190_ s196_ rfl
      have b198_ : 0 ≤ F194_ 1 8 ∧ F194_ 1 8 ≤ 100000 := gi_g g195_ rfl
      exact ⟨F194_, ⟨rfl, rfl⟩, g195_, g197_, (by obtain ⟨e, c1, c2⟩ := c193_; exact ⟨e, (by (try simp only [Int.reduceToNat] at c1); rw [sp_rpreds, hw0]; simp only [pb]; rw [hsp, spq_step (by omega) (by omega) (by omega)]; simp [pb, c149_, c164_, ct1_, c1]), c2⟩)⟩
    rintro A1_ ⟨F202_, hA_, g203_, s204_, c200_, c201_⟩
    subst hA_
    have g205_ : fs [(1, 1, 7, 8), (11, 13, 0, 100000), (21, 38, 0, 100000)] F F202_ := fs_tr g190_ s204_ rfl
    have tk206_ : tkh K F202_ := tkh_fs tk191_ s204_ (fun r k h => (fs_n (by omega) rfl)) (fs_n (by omega) rfl)
    refine ga_inc (a := i) (c := i + 1) (lv2 := [(1, .int (Int32.ofInt (i + 1))), (0, .ref 118)]) hm_124 rfl rfl (Nat.le_of_ble_eq_true rfl) rfl rfl ?_
    refine fl_goto hm_124 rfl ?_
    have e207_ : F187_ 11 2 = F168_ 11 2 := (s189_ 11 2 (fs_n (by omega) (fs_n (by omega) rfl))).trans (rfl)
    have e208_ : F202_ 11 2 = F168_ 11 2 := (s204_ 11 2 rfl).trans (e207_)
    have b209_ : 0 ≤ F168_ 11 2 ∧ F168_ 11 2 ≤ 6 := gi_g g169_ rfl
    have b210_ : 0 ≤ F1 11 2 ∧ F1 11 2 ≤ 6 := gi_g hg_F1 rfl
    have b211_ : 0 ≤ F202_ 1 7 ∧ F202_ 1 7 ≤ 600 := gi_g g203_ rfl
    have b212_ : 0 ≤ K 1 6 ∧ K 1 6 ≤ 601 := gi_g hgK rfl
    exact ih18_ _ (by omega) (i + 1) (_) (_) (_) F202_ rfl g203_ (fs_tr (fs_tr (fs_tr (fs_tr hf_F1 s153_ rfl) s170_ rfl) s189_ (by simp [fs_le]; try omega)) s204_ rfl) (by omega) (rep_fs (rep_fs c166_ s189_ (fun _ => (fs_n (by omega) (fs_n (by omega) rfl))) (fs_n (by omega) (fs_n (by omega) rfl))) s204_ (fun _ => (fs_n (by omega) rfl)) (fs_n (by omega) rfl)) (rep_fs (rep_fs c167_ s189_ (fun _ => (fs_n (by omega) (fs_n (by omega) rfl))) (fs_n (by omega) (fs_n (by omega) rfl))) s204_ (fun _ => (fs_n (by omega) rfl)) (fs_n (by omega) rfl)) (by simp; omega) (by omega) (⟨prd_add (prd_fs (prd_fs (prd_fs (prd_fs hpr.1 s153_ (fun _ _ _ => (fs_n (by omega) rfl))) s170_ (fun _ _ _ => (fs_n (by omega) (fs_n (by omega) rfl)))) s189_ (fun _ _ _ => (fs_n (by omega) (fs_n (by omega) rfl)))) s204_ (fun _ _ _ => (fs_n (by omega) rfl))) (rep_fs ct3_ s204_ (fun _ => (fs_n (by omega) rfl)) (fs_n (by omega) rfl)) (by omega), by simp; omega⟩) (by rw [hsp, spq_step (by omega) (by omega) (by omega)]; simp [pb, c149_, c164_, ct1_, c200_])
  have e213_ : F11_ 11 2 = F 11 2 := (s13_ 11 2 rfl).trans (rfl)
  have b214_ : 0 ≤ F 11 2 ∧ F 11 2 ≤ 6 := gi_g hgi rfl
  have b215_ : 0 ≤ F11_ 1 7 ∧ F11_ 1 7 ≤ 600 := gi_g g12_ rfl
  have b216_ : 0 ≤ K 1 6 ∧ K 1 6 ≤ 601 := gi_g hgK rfl
  exact L17_ _ (0) ([]) ([]) ([]) F11_ rfl g12_ fs_refl (by omega) (rep_fs hl0 s13_ (fun _ => (fs_n (by omega) rfl)) (fs_n (by omega) rfl)) (rep_fs ht0 s13_ (fun _ => (fs_n (by omega) rfl)) (fs_n (by omega) rfl)) (by simp) (by omega) (⟨fun j hj => absurd hj (by simp), by simp⟩) (by simp)

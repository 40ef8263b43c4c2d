/-! the class reads a problem: only that it does no harm -/
theorem rep_self {g : Nat → Int} {n : Int} (h : 0 ≤ n) : rep g n ((List.range n.toNat).map g) := by
  refine ⟨?_, fun j x hx => ?_⟩
  · rw [List.length_map, List.length_range]
    omega
  · rw [List.getElem?_map] at hx
    cases e : (List.range n.toNat)[j]? with
    | none => rw [e] at hx; cases hx
    | some v =>
      rw [e] at hx
      have h1 : v = j := by
        obtain ⟨h2, h3⟩ := List.getElem?_eq_some_iff.mp e
        rw [List.getElem_range] at h3
        exact h3.symm
      subst h1
      exact Option.some.inj hx
theorem rep_ex (g : Nat → Int) {n : Int} (h : 0 ≤ n) : ∃ l, rep g n l := ⟨_, rep_self h⟩
theorem qm_b {F : fl_N} (h : gi F) {j : Nat} (hj : j < 6) : 0 ≤ F (21 + 3 * j) 2 := by
  match j, hj with
  | 0, _ => exact (gi_g (r := 21) (k := 2) h rfl).1
  | 1, _ => exact (gi_g (r := 24) (k := 2) h rfl).1
  | 2, _ => exact (gi_g (r := 27) (k := 2) h rfl).1
  | 3, _ => exact (gi_g (r := 30) (k := 2) h rfl).1
  | 4, _ => exact (gi_g (r := 33) (k := 2) h rfl).1
  | 5, _ => exact (gi_g (r := 36) (k := 2) h rfl).1
  | n + 6, h => exact absurd h (by omega)
theorem prd_ex {F : fl_N} (h : gi F) {pl : List Int} (hp : pl.length ≤ 6) : ∃ ps, prd F ps ∧ pl.length = ps.length := by
  refine ⟨(List.range pl.length).map (fun i => (List.range (F (21 + 3 * i) 2).toNat).map (F (21 + 3 * i + 2))), fun i hi => ?_, by simp⟩
  rw [List.length_map, List.length_range] at hi
  have e : ((List.range pl.length).map (fun i => (List.range (F (21 + 3 * i) 2).toNat).map (F (21 + 3 * i + 2)))).getD i [] = (List.range (F (21 + 3 * i) 2).toNat).map (F (21 + 3 * i + 2)) := by
    rw [List.getD_eq_getElem?_getD, List.getElem?_map, List.getElem?_range hi]
    rfl
  rw [e]
  exact rep_self (qm_b h (by omega))
theorem cw_le {F : fl_N} {b : Nat} {m n : Int} (h : cw F b m) (hm : m ≤ n) : cw F b n := by
  intro j hj
  have h9 := h j hj
  exact ⟨⟨h9.1.1, by omega⟩, ⟨h9.2.1.1, by omega⟩, h9.2.2⟩

def dmk (K F : fl_N) : Prop := (gi K ∧ (∀ j, K 2 j = F 2 j) ∧ tkw K (F 2) (F 1 1)) ∧ tkf K (F 2) (F 1 1) (tkz (F 2) (F 1 1).toNat 0 (-1))
/- CheapPlanner$Reader.readDomainName -/
abbrev pq_120 (G : Nat → Nat → Option Nat) (F : fl_N) (X : xi_H) (K : fl_N) (nm : Int) : Outcome → xi_H → Prop := gqv (fun A => ∃ F' : fl_N, fl_H sh_T G F' ++ X = A ∧ gi F' ∧ fs [(1, 1, 7, 7)] F F' ∧ (sp_dname K nm (F 1 7) = .inr (F' 1 7)) ∧ (0 ≤ F' 1 7 ∧ F' 1 7 ≤ K 1 6 - 1)) (fun j A => ∃ F' : fl_N, (387 + X.length = j ∧ fl_H sh_T G F' ++ (X ++ [gx 14]) = A) ∧ gi F' ∧ fs [(1, 1, 7, 8)] F F' ∧ (∃ e, sp_dname K nm (F 1 7) = .inl e ∧ F' 1 8 = e.1 + 10 * e.2))
theorem mc_120 {G : Nat → Nat → Option Nat} (hG : gg G) (F : fl_N) (X : xi_H) (hgi : gi F) (K : fl_N) (nm : Int) (hgK : gi K) (hK : tkh K F) (hko : tko K) (hp : 0 ≤ F 1 7 ∧ F 1 7 ≤ K 1 6 - 1) (hnm : F 7 0 = nm) : fl_M xi_ms 120 9 165 [.ref 118] (fl_H sh_T G F ++ X) (pq_120 G F X K nm) := by
  intro fr lo hfr hlo
  show fl_R xi_ms 120 fr lo 0 [(0, .ref 118)] [] _ _
  refine ga_aload_n (v := .ref 118) hm_120 rfl rfl rfl ?_
  refine ga_ldcs hm_120 rfl ?_
  refine gIv (nY := 2) (F := 8) (L := 144) (As := [.retAddr 17]) (b := 118) (rest := []) hm_120 rfl hm_118 rfl rfl (fl_ob sc_118) rfl rfl rfl rfl rfl (by omega) (by omega) ?_
  intro f1_ l2_ h3_ h4_
  show fl_R xi_ms 118 f1_ l2_ 0 [(0, .ref 118), (1, .retAddr 17)] [] _ _
  refine ga_aload_n (v := .ref 118) hm_118 rfl rfl rfl ?_
  refine ga_getr (b := 1) hm_118 rfl sc_118 rfl ?_
  refine fl_iconst hm_118 rfl ?_
  have b5_ : 0 ≤ F 1 7 ∧ F 1 7 ≤ 600 := gi_g hgi rfl
  refine gVv (nY := 2) (F := 7) (L := 121) (As := [.int (Int32.ofInt 0)]) (b := 1) (rest := []) hm_118 rfl hm_24 rfl rfl (fl_ob sc_1) rfl rfl rfl rfl rfl (by omega) (by omega) (mc_24 hG F X hgi (K) (0) hgK hK hko (⟨by omega, by omega⟩) (⟨by omega, by omega⟩)) ?_ ?_
  ·
    rintro j_ A1_ ⟨F7_, ⟨hJ_, hA_⟩, g8_, s9_, c6_⟩
    subst hA_
    subst hJ_
    refine ⟨rfl, ?_⟩
    refine gw_v ⟨rfl, ?_⟩
    refine gw_v ?_
    have g10_ : fs [(1, 1, 7, 8)] F F7_ := fs_tr fs_refl s9_ rfl
    have b11_ : 0 ≤ F7_ 1 8 ∧ F7_ 1 8 ≤ 100000 := gi_g g8_ rfl
    exact ⟨F7_, ⟨rfl, rfl⟩, g8_, g10_, (by obtain ⟨e, c1, c2⟩ := c6_; exact ⟨e, (by simp [sp_dname, sp_part, c1, pf, pb]; try first | omega | ((repeat' split) <;> first | rfl | (exfalso; omega) | omega)), c2⟩)⟩
  rintro A1_ ⟨F15_, hA_, g16_, s17_, c13_, c14_⟩
  subst hA_
  have g18_ : fs [(1, 1, 7, 7)] F F15_ := fs_tr fs_refl s17_ rfl
  have tk19_ : tkh K F15_ := tkh_fs hK s17_ (fs_rg rfl) rfl
  refine ga_aload_n (v := .ref 118) hm_118 rfl rfl rfl ?_
  refine ga_getr (b := 1) hm_118 rfl sc_118 rfl ?_
  refine ga_aload_n (v := .retAddr 17) hm_118 rfl rfl rfl ?_
  have b20_ : 0 ≤ F15_ 1 7 ∧ F15_ 1 7 ≤ 600 := gi_g g16_ rfl
  refine gVv (nY := 2) (F := 7) (L := 123) (As := [.retAddr 17]) (b := 1) (rest := []) hm_118 rfl hm_155 rfl rfl (fl_ob sc_1) rfl rfl rfl rfl rfl (by omega) (by omega) (mc_155 hG F15_ X g16_ (K) (17) ([58, 100, 111, 109, 97, 105, 110]) hgK tk19_ hko (⟨by omega, by omega⟩) (rfl) (by decide)) ?_ ?_
  ·
    rintro j_ A1_ ⟨F22_, ⟨hJ_, hA_⟩, g23_, s24_, c21_⟩
    subst hA_
    subst hJ_
    refine ⟨rfl, ?_⟩
    refine gw_v ⟨rfl, ?_⟩
    refine gw_v ?_
    have g25_ : fs [(1, 1, 7, 8)] F F22_ := fs_tr (fs_tr fs_refl g18_ rfl) s24_ rfl
    have b26_ : 0 ≤ F22_ 1 8 ∧ F22_ 1 8 ≤ 100000 := gi_g g23_ rfl
    exact ⟨F22_, ⟨rfl, rfl⟩, g23_, g25_, (by obtain ⟨e, c1, c2⟩ := c21_; exact ⟨e, (by simp [sp_dname, sp_part, c1, pf, pb, c13_, c14_]; try first | omega | ((repeat' split) <;> first | rfl | (exfalso; omega) | omega)), c2⟩)⟩
  rintro A1_ ⟨F30_, hA_, g31_, s32_, c28_, c29_⟩
  subst hA_
  have g33_ : fs [(1, 1, 7, 7)] F F30_ := fs_tr g18_ s32_ rfl
  have tk34_ : tkh K F30_ := tkh_fs tk19_ s32_ (fs_rg rfl) rfl
  refine gr_v hm_118 rfl rfl ?_
  clear h3_ h4_ f1_ l2_
  refine ga_aload_n (v := .ref 118) hm_120 rfl rfl rfl ?_
  refine ga_getr (b := 1) hm_120 rfl sc_118 rfl ?_
  refine fl_iconst hm_120 rfl ?_
  refine gIi (nY := 2) (F := 0) (L := 0) (As := [.int (Int32.ofInt 2)]) (b := 1) (rest := []) hm_120 rfl hm_153 rfl rfl (fl_ob sc_1) rfl rfl rfl rfl rfl (by omega) (by omega) ?_
  intro f35_ l36_ h37_ h38_
  show fl_R xi_ms 153 f35_ l36_ 0 [(0, .ref 1), (1, .int (Int32.ofInt 2))] [] _ _
  refine ga_aload_n (v := .ref 1) hm_153 rfl rfl rfl ?_
  refine ga_getr (b := 3) hm_153 rfl sc_1 rfl ?_
  refine ga_aload_n (v := .ref 1) hm_153 rfl rfl rfl ?_
  have b39_ : 0 ≤ F30_ 1 7 ∧ F30_ 1 7 ≤ 600 := gi_g g31_ rfl
  refine ga_geti (z := F30_ 1 7) hm_153 rfl sc_1 rfl (rfl) ?_
  have e40_ : F30_ 3 (F30_ 1 7).toNat = K 3 (F30_ 1 7).toNat := tk34_.1 3 (F30_ 1 7).toNat (by omega)
  have b41_ : 0 ≤ K 3 (F30_ 1 7).toNat ∧ K 3 (F30_ 1 7).toNat ≤ 5 := gi_g hgK rfl
  refine ga_iald (z := F30_ 1 7) (w := K 3 (F30_ 1 7).toNat) hm_153 rfl sc_3 (by omega) (by omega) (by omega) (e40_) ?_
  refine ga_iload_n (z := 2) hm_153 rfl rfl ?_
  refine fx_icmp_ne (a := K 3 (F30_ 1 7).toNat) (b := 2) hm_153 rfl ⟨by omega, by omega⟩ ⟨by omega, by omega⟩ (fun h42_ => ?_) (fun h43_ => ?_)
  ·
    refine fl_iconst hm_153 rfl ?_
    refine gr_i hm_153 rfl rfl (ga_nb (by omega)) ?_
    clear h37_ h38_ f35_ l36_
    refine fl_if_eq hm_120 rfl ⟨by omega, by omega⟩ (fun _ => ?_) (fun h => absurd (by omega) h)
    refine ga_aload_n (v := .ref 118) hm_120 rfl rfl rfl ?_
    refine ga_getr (b := 1) hm_120 rfl sc_118 rfl ?_
    refine fl_iconst hm_120 rfl ?_
    refine gVv (nY := 2) (F := 7) (L := 121) (As := [.int (Int32.ofInt 2)]) (b := 1) (rest := []) hm_120 rfl hm_24 rfl rfl (fl_ob sc_1) rfl rfl rfl rfl rfl (by omega) (by omega) (mc_24 hG F30_ X g31_ (K) (2) hgK tk34_ hko (⟨by omega, by omega⟩) (⟨by omega, by omega⟩)) ?_ ?_
    ·
      rintro j_ A1_ ⟨F45_, ⟨hJ_, hA_⟩, g46_, s47_, c44_⟩
      subst hA_
      subst hJ_
      refine ⟨rfl, ?_⟩
      refine gw_v ?_
      have g48_ : fs [(1, 1, 7, 8)] F F45_ := fs_tr (fs_tr fs_refl g33_ rfl) s47_ rfl
      have b49_ : 0 ≤ F45_ 1 8 ∧ F45_ 1 8 ≤ 100000 := gi_g g46_ rfl
      exact ⟨F45_, ⟨rfl, rfl⟩, g46_, g48_, (by obtain ⟨e, c1, c2⟩ := c44_; exact ⟨e, (by simp [sp_dname, sp_part, c1, pf, pb, c13_, c14_, c28_, c29_, h42_]; try first | omega | ((repeat' split) <;> first | rfl | (exfalso; omega) | omega)), c2⟩)⟩
    rintro A1_ ⟨F53_, hA_, g54_, s55_, c51_, c52_⟩
    subst hA_
    have g56_ : fs [(1, 1, 7, 7)] F F53_ := fs_tr g33_ s55_ rfl
    have tk57_ : tkh K F53_ := tkh_fs tk34_ s55_ (fs_rg rfl) rfl
    refine ga_aload_n (v := .ref 118) hm_120 rfl rfl rfl ?_
    refine ga_getr (b := 1) hm_120 rfl sc_118 rfl ?_
    refine fl_iconst hm_120 rfl ?_
    have b58_ : 0 ≤ F53_ 1 7 ∧ F53_ 1 7 ≤ 600 := gi_g g54_ rfl
    refine gVv (nY := 2) (F := 7) (L := 121) (As := [.int (Int32.ofInt 1)]) (b := 1) (rest := []) hm_120 rfl hm_24 rfl rfl (fl_ob sc_1) rfl rfl rfl rfl rfl (by omega) (by omega) (mc_24 hG F53_ X g54_ (K) (1) hgK tk57_ hko (⟨by omega, by omega⟩) (⟨by omega, by omega⟩)) ?_ ?_
    ·
      rintro j_ A1_ ⟨F60_, ⟨hJ_, hA_⟩, g61_, s62_, c59_⟩
      subst hA_
      subst hJ_
      refine ⟨rfl, ?_⟩
      refine gw_v ?_
      have g63_ : fs [(1, 1, 7, 8)] F F60_ := fs_tr (fs_tr fs_refl g56_ rfl) s62_ rfl
      have b64_ : 0 ≤ F60_ 1 8 ∧ F60_ 1 8 ≤ 100000 := gi_g g61_ rfl
      exact ⟨F60_, ⟨rfl, rfl⟩, g61_, g63_, (by obtain ⟨e, c1, c2⟩ := c59_; exact ⟨e, (by simp [sp_dname, sp_part, c1, pf, pb, c13_, c14_, c28_, c29_, h42_, c51_, c52_]; try first | omega | ((repeat' split) <;> first | rfl | (exfalso; omega) | omega)), c2⟩)⟩
    rintro A1_ ⟨F68_, hA_, g69_, s70_, c66_, c67_⟩
    subst hA_
    have g71_ : fs [(1, 1, 7, 7)] F F68_ := fs_tr g56_ s70_ rfl
    have tk72_ : tkh K F68_ := tkh_fs tk57_ s70_ (fs_rg rfl) rfl
    refine gr_v hm_120 rfl rfl ?_
    have b73_ : 0 ≤ F68_ 1 7 ∧ F68_ 1 7 ≤ 600 := gi_g g69_ rfl
    exact ⟨F68_, rfl, g69_, g71_, (by simp [sp_dname, sp_part, pf, pb, c13_, c14_, c28_, c29_, h42_, c51_, c52_, c66_, c67_]; try first | omega | ((repeat' split) <;> first | rfl | (exfalso; omega) | omega)), (⟨by omega, by omega⟩)⟩
  refine fl_iconst hm_153 rfl ?_
  refine fl_goto hm_153 rfl ?_
  refine gr_i hm_153 rfl rfl (ga_nb (by omega)) ?_
  clear h37_ h38_ f35_ l36_
  refine fl_if_eq hm_120 rfl ⟨by omega, by omega⟩ (fun h => absurd h (by omega)) (fun _ => ?_)
  refine ga_aload_n (v := .ref 118) hm_120 rfl rfl rfl ?_
  refine ga_getr (b := 1) hm_120 rfl sc_118 rfl ?_
  refine gIl (nY := 1) (F := 0) (L := 0) (As := []) (b := 1) (rest := []) hm_120 rfl hm_149 rfl rfl (fl_ob sc_1) rfl rfl rfl rfl rfl (by omega) (by omega) ?_
  intro f74_ l75_ h76_ h77_
  show fl_R xi_ms 149 f74_ l75_ 0 [(0, .ref 1)] [] _ _
  refine ga_aload_n (v := .ref 1) hm_149 rfl rfl rfl ?_
  refine ga_getr (b := 6) hm_149 rfl sc_1 rfl ?_
  refine ga_aload_n (v := .ref 1) hm_149 rfl rfl rfl ?_
  refine ga_geti (z := F30_ 1 7) hm_149 rfl sc_1 rfl (rfl) ?_
  have e78_ : F30_ 6 (F30_ 1 7).toNat = K 6 (F30_ 1 7).toNat := tk34_.1 6 (F30_ 1 7).toNat (by omega)
  have b79_ : -9223372036854775808 ≤ K 6 (F30_ 1 7).toNat ∧ K 6 (F30_ 1 7).toNat ≤ 9223372036854775807 := gi_g hgK rfl
  refine ga_lald (z := F30_ 1 7) (w := K 6 (F30_ 1 7).toNat) hm_149 rfl sc_6 (by omega) (by omega) (by omega) (e78_) ?_
  refine gr_l hm_149 rfl rfl ?_
  clear h76_ h77_ f74_ l75_
  refine ga_aload_n (v := .ref 118) hm_120 rfl rfl rfl ?_
  refine ga_getr (b := 7) hm_120 rfl sc_118 rfl ?_
  have e80_ : F15_ 7 0 = F 7 0 := (s17_ 7 0 rfl).trans (rfl)
  have e81_ : F30_ 7 0 = F 7 0 := (s32_ 7 0 rfl).trans (e80_)
  have b82_ : -9223372036854775808 ≤ F 7 0 ∧ F 7 0 ≤ 9223372036854775807 := gi_g hgi rfl
  refine ga_getl (z := F 7 0) hm_120 rfl sc_7 rfl (e81_) ?_
  refine ga_lcmpq (a := K 6 (F30_ 1 7).toNat) (b := F 7 0) hm_120 rfl rfl ⟨by omega, by omega⟩ ⟨by omega, by omega⟩ (fun h83_ => ?_) (fun h84_ => ?_)
  ·
    refine ga_aload_n (v := .ref 118) hm_120 rfl rfl rfl ?_
    refine ga_getr (b := 1) hm_120 rfl sc_118 rfl ?_
    refine fl_iconst hm_120 rfl ?_
    refine gVv (nY := 2) (F := 7) (L := 121) (As := [.int (Int32.ofInt 2)]) (b := 1) (rest := []) hm_120 rfl hm_24 rfl rfl (fl_ob sc_1) rfl rfl rfl rfl rfl (by omega) (by omega) (mc_24 hG F30_ X g31_ (K) (2) hgK tk34_ hko (⟨by omega, by omega⟩) (⟨by omega, by omega⟩)) ?_ ?_
    ·
      rintro j_ A1_ ⟨F86_, ⟨hJ_, hA_⟩, g87_, s88_, c85_⟩
      subst hA_
      subst hJ_
      refine ⟨rfl, ?_⟩
      refine gw_v ?_
      have g89_ : fs [(1, 1, 7, 8)] F F86_ := fs_tr (fs_tr fs_refl g33_ rfl) s88_ rfl
      have b90_ : 0 ≤ F86_ 1 8 ∧ F86_ 1 8 ≤ 100000 := gi_g g87_ rfl
      exact ⟨F86_, ⟨rfl, rfl⟩, g87_, g89_, (by obtain ⟨e, c1, c2⟩ := c85_; exact ⟨e, (by simp [sp_dname, sp_part, c1, pf, pb, c13_, c14_, c28_, c29_, h43_, e80_, e81_, h83_]; try first | omega | ((repeat' split) <;> first | rfl | (exfalso; omega) | omega)), c2⟩)⟩
    rintro A1_ ⟨F94_, hA_, g95_, s96_, c92_, c93_⟩
    subst hA_
    have g97_ : fs [(1, 1, 7, 7)] F F94_ := fs_tr g33_ s96_ rfl
    have tk98_ : tkh K F94_ := tkh_fs tk34_ s96_ (fs_rg rfl) rfl
    refine ga_aload_n (v := .ref 118) hm_120 rfl rfl rfl ?_
    refine ga_getr (b := 1) hm_120 rfl sc_118 rfl ?_
    refine fl_iconst hm_120 rfl ?_
    have b99_ : 0 ≤ F94_ 1 7 ∧ F94_ 1 7 ≤ 600 := gi_g g95_ rfl
    refine gVv (nY := 2) (F := 7) (L := 121) (As := [.int (Int32.ofInt 1)]) (b := 1) (rest := []) hm_120 rfl hm_24 rfl rfl (fl_ob sc_1) rfl rfl rfl rfl rfl (by omega) (by omega) (mc_24 hG F94_ X g95_ (K) (1) hgK tk98_ hko (⟨by omega, by omega⟩) (⟨by omega, by omega⟩)) ?_ ?_
    ·
      rintro j_ A1_ ⟨F101_, ⟨hJ_, hA_⟩, g102_, s103_, c100_⟩
      subst hA_
      subst hJ_
      refine ⟨rfl, ?_⟩
      refine gw_v ?_
      have g104_ : fs [(1, 1, 7, 8)] F F101_ := fs_tr (fs_tr fs_refl g97_ rfl) s103_ rfl
      have b105_ : 0 ≤ F101_ 1 8 ∧ F101_ 1 8 ≤ 100000 := gi_g g102_ rfl
      exact ⟨F101_, ⟨rfl, rfl⟩, g102_, g104_, (by obtain ⟨e, c1, c2⟩ := c100_; exact ⟨e, (by simp [sp_dname, sp_part, c1, pf, pb, c13_, c14_, c28_, c29_, h43_, e80_, e81_, h83_, c92_, c93_]; try first | omega | ((repeat' split) <;> first | rfl | (exfalso; omega) | omega)), c2⟩)⟩
    rintro A1_ ⟨F109_, hA_, g110_, s111_, c107_, c108_⟩
    subst hA_
    have g112_ : fs [(1, 1, 7, 7)] F F109_ := fs_tr g97_ s111_ rfl
    have tk113_ : tkh K F109_ := tkh_fs tk98_ s111_ (fs_rg rfl) rfl
    refine gr_v hm_120 rfl rfl ?_
    have b114_ : 0 ≤ F109_ 1 7 ∧ F109_ 1 7 ≤ 600 := gi_g g110_ rfl
    exact ⟨F109_, rfl, g110_, g112_, (by simp [sp_dname, sp_part, pf, pb, c13_, c14_, c28_, c29_, h43_, e80_, e81_, h83_, c92_, c93_, c107_, c108_]; try first | omega | ((repeat' split) <;> first | rfl | (exfalso; omega) | omega)), (⟨by omega, by omega⟩)⟩
  refine ga_aload_n (v := .ref 118) hm_120 rfl rfl rfl ?_
  refine ga_getr (b := 1) hm_120 rfl sc_118 rfl ?_
  refine fl_iconst hm_120 rfl ?_
  refine gIv (nY := 2) (F := 6) (L := 100) (As := [.int (Int32.ofInt 3)]) (b := 1) (rest := []) hm_120 rfl hm_25 rfl rfl (fl_ob sc_1) rfl rfl rfl rfl rfl (by omega) (by omega) ?_
  intro f115_ l116_ h117_ h118_
  show fl_R xi_ms 25 f115_ l116_ 0 [(0, .ref 1), (1, .int (Int32.ofInt 3))] [] _ _
  refine ga_aload_n (v := .ref 1) hm_25 rfl rfl rfl ?_
  refine ga_iload_n (z := 3) hm_25 rfl rfl ?_
  refine fl_bipush hm_25 rfl rfl ?_
  refine ga_aload_n (v := .ref 1) hm_25 rfl rfl rfl ?_
  refine ga_getr (b := 4) hm_25 rfl sc_1 rfl ?_
  refine ga_aload_n (v := .ref 1) hm_25 rfl rfl rfl ?_
  refine ga_geti (z := F30_ 1 7) hm_25 rfl sc_1 rfl (rfl) ?_
  have e119_ : F30_ 4 (F30_ 1 7).toNat = K 4 (F30_ 1 7).toNat := tk34_.1 4 (F30_ 1 7).toNat (by omega)
  have b120_ : 0 ≤ K 4 (F30_ 1 7).toNat ∧ K 4 (F30_ 1 7).toNat ≤ 600 := gi_g hgK rfl
  refine ga_iald (z := F30_ 1 7) (w := K 4 (F30_ 1 7).toNat) hm_25 rfl sc_4 (by omega) (by omega) (by omega) (e119_) ?_
  refine ga_imul (a := 10) (b := K 4 (F30_ 1 7).toNat) (c := 10 * (K 4 (F30_ 1 7).toNat)) hm_25 rfl (by omega) ?_
  refine ga_iadd (a := 3) (b := 10 * (K 4 (F30_ 1 7).toNat)) (c := 10 * (K 4 (F30_ 1 7).toNat) + 3) hm_25 rfl (by omega) ?_
  refine ga_puti (z := 10 * (K 4 (F30_ 1 7).toNat) + 3) hm_25 rfl sc_1 rfl rfl ?_
  obtain ⟨F121_, q122_⟩ : ∃ Fq_, Fq_ = (fl_u F30_ 1 8 (10 * (K 4 (F30_ 1 7).toNat) + 3)) := ⟨_, rfl⟩
  rw [← q122_]
  have g123_ : gi F121_ := by rw [q122_]; exact gi_u (g31_) rfl (by omega) (by omega)
  have g124_ : fs [(1, 1, 7, 8)] F F121_ := by rw [q122_]; exact fs_u ((fs_tr fs_refl g33_ rfl)) rfl
  have tk125_ : tkh K F121_ := by rw [q122_]; exact tkh_u (tk34_) (by first | decide | exact nc_ rfl | omega) (by first | decide | exact nc_ rfl | omega)
  refine fl_thr hm_25 rfl rfl (by omega) (by omega) (Nat.le_of_ble_eq_true rfl) (fl_pos sc_0) ?_
  refine gw_v ⟨rfl, ?_⟩
  refine gw_v ?_
  have e126_ : F121_ 1 8 = 10 * (K 4 (F30_ 1 7).toNat) + 3 := by rw [q122_]; exact fl_u_eq
  exact ⟨F121_, ⟨ga_len.symm, (List.append_assoc _ _ _).symm⟩, g123_, g124_, (⟨(3, K 4 (F30_ 1 7).toNat), by simp [sp_dname, sp_part, pf, pb, c13_, c14_, c28_, c29_, h43_, e80_, e81_, h84_, e126_]; try first | omega | ((repeat' split) <;> first | rfl | (exfalso; omega) | omega), by show _ = (3 : Int) + 10 * K 4 (F30_ 1 7).toNat; omega⟩)⟩
/- CheapPlanner$Reader.readObjects -/
abbrev pq_122 (G : Nat → Nat → Option Nat) (F : fl_N) (X : xi_H) (K : fl_N) (ts : List Int) : Outcome → xi_H → Prop := gqv (fun A => ∃ F' : fl_N, fl_H sh_T G F' ++ X = A ∧ gi F' ∧ fs [(1, 1, 7, 7), (105, 107, 0, 100000)] F F' ∧ (∃ l tl, sp_robjs K ts (F 1 7) = .inr (F' 1 7, l, tl) ∧ rep (F' 106) (F' 105 2) l ∧ rep (F' 107) (F' 105 2) tl) ∧ (0 ≤ F' 1 7 ∧ F' 1 7 ≤ K 1 6 - 1)) (fun j A => ∃ F' : fl_N, (387 + X.length = j ∧ fl_H sh_T G F' ++ (X ++ [gx 14]) = A) ∧ gi F' ∧ fs [(1, 1, 7, 8), (105, 107, 0, 100000)] F F' ∧ (∃ e, sp_robjs K ts (F 1 7) = .inl e ∧ F' 1 8 = e.1 + 10 * e.2))
theorem mc_122 {G : Nat → Nat → Option Nat} (hG : gg G) (F : fl_N) (X : xi_H) (hgi : gi F) (K : fl_N) (ts : List Int) (hgK : gi K) (hK : tkh K F) (hko : tko K) (hp : 0 ≤ F 1 7 ∧ F 1 7 ≤ K 1 6 - 1) (hts : rep (F 9) (F 8 2) ts) (h0 : F 105 2 = 0) : fl_M xi_ms 122 9 165 [.ref 118] (fl_H sh_T G F ++ X) (pq_122 G F X K ts) := by
  intro fr lo hfr hlo
  show fl_R xi_ms 122 fr lo 0 [(0, .ref 118)] [] _ _
  refine ga_aload_n (v := .ref 118) hm_122 rfl rfl rfl ?_
  refine ga_ldcs hm_122 rfl ?_
  refine gIv (nY := 2) (F := 8) (L := 144) (As := [.retAddr 18]) (b := 118) (rest := []) hm_122 rfl hm_118 rfl rfl (fl_ob sc_118) rfl rfl rfl rfl rfl (by omega) (by omega) ?_
  intro f1_ l2_ h3_ h4_
  show fl_R xi_ms 118 f1_ l2_ 0 [(0, .ref 118), (1, .retAddr 18)] [] _ _
  refine ga_aload_n (v := .ref 118) hm_118 rfl rfl rfl ?_
  refine ga_getr (b := 1) hm_118 rfl sc_118 rfl ?_
  refine fl_iconst hm_118 rfl ?_
  have b5_ : 0 ≤ F 1 7 ∧ F 1 7 ≤ 600 := gi_g hgi rfl
  refine gVv (nY := 2) (F := 7) (L := 121) (As := [.int (Int32.ofInt 0)]) (b := 1) (rest := []) hm_118 rfl hm_24 rfl rfl (fl_ob sc_1) rfl rfl rfl rfl rfl (by omega) (by omega) (mc_24 hG F X hgi (K) (0) hgK hK hko (⟨by omega, by omega⟩) (⟨by omega, by omega⟩)) ?_ ?_
  ·
    rintro j_ A1_ ⟨F7_, ⟨hJ_, hA_⟩, g8_, s9_, c6_⟩
    subst hA_
    subst hJ_
    refine ⟨rfl, ?_⟩
    refine gw_v ⟨rfl, ?_⟩
    refine gw_v ?_
    have g10_ : fs [(1, 1, 7, 8), (105, 107, 0, 100000)] F F7_ := fs_tr fs_refl s9_ rfl
    have b11_ : 0 ≤ F7_ 1 8 ∧ F7_ 1 8 ≤ 100000 := gi_g g8_ rfl
    exact ⟨F7_, ⟨rfl, rfl⟩, g8_, g10_, (by obtain ⟨e, c1, c2⟩ := c6_; exact ⟨e, (by simp [sp_robjs, sp_part, c1, pf, pb]), c2⟩)⟩
  rintro A1_ ⟨F15_, hA_, g16_, s17_, c13_, c14_⟩
  subst hA_
  have g18_ : fs [(1, 1, 7, 7), (105, 107, 0, 100000)] F F15_ := fs_tr fs_refl s17_ rfl
  have tk19_ : tkh K F15_ := tkh_fs hK s17_ (fs_rg rfl) rfl
  have hk0 := c13_
  refine ga_aload_n (v := .ref 118) hm_118 rfl rfl rfl ?_
  refine ga_getr (b := 1) hm_118 rfl sc_118 rfl ?_
  refine ga_aload_n (v := .retAddr 18) hm_118 rfl rfl rfl ?_
  have b20_ : 0 ≤ F15_ 1 7 ∧ F15_ 1 7 ≤ 600 := gi_g g16_ rfl
  refine gVv (nY := 2) (F := 7) (L := 123) (As := [.retAddr 18]) (b := 1) (rest := []) hm_118 rfl hm_155 rfl rfl (fl_ob sc_1) rfl rfl rfl rfl rfl (by omega) (by omega) (mc_155 hG F15_ X g16_ (K) (18) ([58, 111, 98, 106, 101, 99, 116, 115]) hgK tk19_ hko (⟨by omega, by omega⟩) (rfl) (by decide)) ?_ ?_
  ·
    rintro j_ A1_ ⟨F22_, ⟨hJ_, hA_⟩, g23_, s24_, c21_⟩
    subst hA_
    subst hJ_
    refine ⟨rfl, ?_⟩
    refine gw_v ⟨rfl, ?_⟩
    refine gw_v ?_
    have g25_ : fs [(1, 1, 7, 8), (105, 107, 0, 100000)] F F22_ := fs_tr (fs_tr fs_refl g18_ rfl) s24_ rfl
    have b26_ : 0 ≤ F22_ 1 8 ∧ F22_ 1 8 ≤ 100000 := gi_g g23_ rfl
    exact ⟨F22_, ⟨rfl, rfl⟩, g23_, g25_, (by obtain ⟨e, c1, c2⟩ := c21_; exact ⟨e, (by simp [sp_robjs, sp_part, c1, pf, pb, c13_, c14_]), c2⟩)⟩
  rintro A1_ ⟨F30_, hA_, g31_, s32_, c28_, c29_⟩
  subst hA_
  have g33_ : fs [(1, 1, 7, 7), (105, 107, 0, 100000)] F F30_ := fs_tr g18_ s32_ rfl
  have tk34_ : tkh K F30_ := tkh_fs tk19_ s32_ (fs_rg rfl) rfl
  have hw0 := c28_
  refine gr_v hm_118 rfl rfl ?_
  clear h3_ h4_ f1_ l2_
  refine fl_iconst hm_122 rfl ?_
  refine ga_istore_n (lv2 := [(1, .int (Int32.ofInt 0)), (0, .ref 118)]) hm_122 rfl (Nat.le_of_ble_eq_true rfl) rfl ?_
  have b38_ : 0 ≤ F30_ 1 7 ∧ F30_ 1 7 ≤ 600 := gi_g g31_ rfl
  have L36_ : ∀ (n35_ : Nat) (i : Int) (l : List Int) (tl : List Int) (F1 : fl_N), (6 - i : Int).toNat = n35_ → (gi F1) → (fs [(1, 1, 7, 7), (105, 107, 0, 100000)] F30_ F1) → (0 ≤ i ∧ i ≤ 6) → (rep (F1 106) (F1 105 2) l) → (rep (F1 107) (F1 105 2) tl) → ((l.length : Int) = i) → (0 ≤ F1 1 7 ∧ F1 1 7 ≤ K 1 6 - 1) → (sp_objs K ts 6 [] [] (F30_ 1 7) = sp_objs K ts (6 - i).toNat l tl (F1 1 7)) → fl_R xi_ms 122 fr lo 8 [(1, .int (Int32.ofInt i)), (0, .ref 118)] [] (fl_H sh_T G F1 ++ X) (pq_122 G F X K ts) := by
    intro n35_
    induction n35_ using Nat.strongRecOn with
    | ind n35_ ih37_ =>
    intro i l tl F1 hn39_ hg_F1 hf_F1 hi hl htl hli hp1 hsp
    have g40_ : fs [(1, 1, 7, 7), (105, 107, 0, 100000)] F F1 := fs_tr g33_ hf_F1 rfl
    have tk41_ : tkh K F1 := tkh_fs tk34_ hf_F1 (fs_rg rfl) rfl
    refine ga_iload_n (z := i) hm_122 rfl rfl ?_
    refine fl_bipush hm_122 rfl rfl ?_
    refine fl_icmp_ge (a := i) (b := 6) hm_122 rfl ⟨by omega, by omega⟩ ⟨by omega, by omega⟩ (fun h42_ => ?_) (fun h43_ => ?_)
    ·
      refine ga_aload_n (v := .ref 118) hm_122 rfl rfl rfl ?_
      refine ga_getr (b := 1) hm_122 rfl sc_118 rfl ?_
      refine fl_iconst hm_122 rfl ?_
      have b44_ : 0 ≤ F1 1 7 ∧ F1 1 7 ≤ 600 := gi_g hg_F1 rfl
      refine gVv (nY := 2) (F := 7) (L := 121) (As := [.int (Int32.ofInt 1)]) (b := 1) (rest := []) hm_122 rfl hm_24 rfl rfl (fl_ob sc_1) rfl rfl rfl rfl rfl (by omega) (by omega) (mc_24 hG F1 X hg_F1 (K) (1) hgK tk41_ hko (⟨by omega, by omega⟩) (⟨by omega, by omega⟩)) ?_ ?_
      ·
        rintro j_ A1_ ⟨F46_, ⟨hJ_, hA_⟩, g47_, s48_, c45_⟩
        subst hA_
        subst hJ_
        refine ⟨rfl, ?_⟩
        refine gw_v ?_
        have g49_ : fs [(1, 1, 7, 8), (105, 107, 0, 100000)] F F46_ := fs_tr (fs_tr fs_refl g40_ rfl) s48_ rfl
        have b50_ : 0 ≤ F46_ 1 8 ∧ F46_ 1 8 ≤ 100000 := gi_g g47_ rfl
        exact ⟨F46_, ⟨rfl, rfl⟩, g47_, g49_, (by obtain ⟨e, c1, c2⟩ := c45_; exact ⟨e, (by rw [sp_robjs, sp_part, hk0]; simp only [pb]; rw [hw0]; simp only; rw [hsp, spo_z (by omega)]; simp only; rw [c1]), c2⟩)⟩
      rintro A1_ ⟨F54_, hA_, g55_, s56_, c52_, c53_⟩
      subst hA_
      have g57_ : fs [(1, 1, 7, 7), (105, 107, 0, 100000)] F F54_ := fs_tr g40_ s56_ rfl
      have tk58_ : tkh K F54_ := tkh_fs tk41_ s56_ (fs_rg rfl) rfl
      refine gr_v hm_122 rfl rfl ?_
      have b59_ : 0 ≤ F54_ 1 7 ∧ F54_ 1 7 ≤ 600 := gi_g g55_ rfl
      have e60_ : F54_ 105 2 = F1 105 2 := (s56_ 105 2 rfl).trans (rfl)
      have b61_ : 0 ≤ F1 105 2 ∧ F1 105 2 ≤ 6 := gi_g hg_F1 rfl
      exact ⟨F54_, rfl, g55_, g57_, (⟨l, tl, by rw [sp_robjs, sp_part, hk0]; simp only [pb]; rw [hw0]; simp only; rw [hsp, spo_z (by omega)]; simp only; rw [c52_], (rep_fs hl s56_ (fun _ => (by first | exact fs_c rfl | exact (fs_n (by omega) rfl))) (by first | exact fs_c rfl | exact (fs_n (by omega) rfl))), (rep_fs htl s56_ (fun _ => (by first | exact fs_c rfl | exact (fs_n (by omega) rfl))) (by first | exact fs_c rfl | exact (fs_n (by omega) rfl)))⟩), (⟨by omega, by omega⟩)⟩
    refine ga_iload_n (z := i) hm_122 rfl rfl ?_
    refine fl_if_eq (a := i) hm_122 rfl ⟨by omega, by omega⟩ (fun h62_ => ?_) (fun h63_ => ?_)
    ·
      refine ga_aload_n (v := .ref 118) hm_122 rfl rfl rfl ?_
      refine ga_aload_n (v := .ref 118) hm_122 rfl rfl rfl ?_
      refine ga_getr (b := 104) hm_122 rfl sc_118 rfl ?_
      refine ga_getr (b := 105) hm_122 rfl sc_104 rfl ?_
      refine fl_iconst hm_122 rfl ?_
      have b64_ : 0 ≤ F1 1 7 ∧ F1 1 7 ≤ 600 := gi_g hg_F1 rfl
      refine gVv (nY := 3) (F := 8) (L := 143) (As := [.ref 105, .int (Int32.ofInt 2)]) (b := 118) (rest := []) hm_122 rfl hm_127 rfl rfl (fl_ob sc_118) rfl rfl rfl rfl rfl (by omega) (by omega) (mc_127 hG F1 X hg_F1 (K) (105) (6) (2) (l) (tl) (ts) hgK tk41_ hko (⟨by omega, by omega⟩) nm_105 (by omega) (⟨by omega, by omega⟩) (hl) (htl) (by omega) ((rep_fs (rep_fs (rep_fs hts s17_ (fun _ => (by first | exact fs_c rfl | exact (fs_n (by omega) rfl))) (by first | exact fs_c rfl | exact (fs_n (by omega) rfl))) s32_ (fun _ => (by first | exact fs_c rfl | exact (fs_n (by omega) rfl))) (by first | exact fs_c rfl | exact (fs_n (by omega) rfl))) hf_F1 (fun _ => (by first | exact fs_c rfl | exact (fs_n (by omega) (fs_n (by omega) rfl)))) (by first | exact fs_c rfl | exact (fs_n (by omega) (fs_n (by omega) rfl)))))) ?_ ?_
      ·
        rintro j_ A1_ ⟨F66_, ⟨hJ_, hA_⟩, g67_, s68_, c65_⟩
        subst hA_
        subst hJ_
        refine ⟨rfl, ?_⟩
        refine gw_v ?_
        have g69_ : fs [(1, 1, 7, 8), (105, 107, 0, 100000)] F F66_ := fs_tr (fs_tr fs_refl g40_ rfl) s68_ rfl
        have b70_ : 0 ≤ F66_ 1 8 ∧ F66_ 1 8 ≤ 100000 := gi_g g67_ rfl
        exact ⟨F66_, ⟨rfl, rfl⟩, g67_, g69_, (by obtain ⟨e, c1, c2⟩ := c65_; exact ⟨e, (by rw [sp_robjs, sp_part, hk0]; simp only [pb]; rw [hw0]; simp only; rw [hsp, spo_step (by omega) (by omega) (by omega), c1]; rfl), c2⟩)⟩
      rintro A1_ ⟨F75_, hA_, g76_, s77_, c72_, c73_, c74_⟩
      subst hA_
      have g78_ : fs [(1, 1, 7, 7), (105, 107, 0, 100000)] F F75_ := fs_tr g40_ s77_ rfl
      have tk79_ : tkh K F75_ := tkh_fs tk41_ s77_ (fs_rg rfl) rfl
      obtain ⟨t_, ct1_, ct2_⟩ := c72_
      refine ga_inc (a := i) (c := i + 1) (lv2 := [(1, .int (Int32.ofInt (i + 1))), (0, .ref 118)]) hm_122 rfl rfl (Nat.le_of_ble_eq_true rfl) rfl rfl ?_
      refine fl_goto hm_122 rfl ?_
      have b80_ : 0 ≤ F75_ 105 2 ∧ F75_ 105 2 ≤ 6 := gi_g g76_ rfl
      have b81_ : 0 ≤ F1 105 2 ∧ F1 105 2 ≤ 6 := gi_g hg_F1 rfl
      have b82_ : 0 ≤ F75_ 1 7 ∧ F75_ 1 7 ≤ 600 := gi_g g76_ rfl
      have b83_ : 0 ≤ K 1 6 ∧ K 1 6 ≤ 601 := gi_g hgK rfl
      exact ih37_ _ (by omega) (i + 1) (_) (_) F75_ rfl g76_ (fs_tr hf_F1 s77_ rfl) (⟨by omega, by omega⟩) (c74_) (ct2_) (by simp; omega) (⟨by omega, by omega⟩) (by rw [hsp, spo_step (by omega) (by omega) (by omega), ct1_]; rfl)
    refine ga_aload_n (v := .ref 118) hm_122 rfl rfl rfl ?_
    refine ga_getr (b := 1) hm_122 rfl sc_118 rfl ?_
    refine fl_iconst hm_122 rfl ?_
    refine gIi (nY := 2) (F := 0) (L := 0) (As := [.int (Int32.ofInt 1)]) (b := 1) (rest := []) hm_122 rfl hm_153 rfl rfl (fl_ob sc_1) rfl rfl rfl rfl rfl (by omega) (by omega) ?_
    intro f84_ l85_ h86_ h87_
    show fl_R xi_ms 153 f84_ l85_ 0 [(0, .ref 1), (1, .int (Int32.ofInt 1))] [] _ _
    refine ga_aload_n (v := .ref 1) hm_153 rfl rfl rfl ?_
    refine ga_getr (b := 3) hm_153 rfl sc_1 rfl ?_
    refine ga_aload_n (v := .ref 1) hm_153 rfl rfl rfl ?_
    have b88_ : 0 ≤ F1 1 7 ∧ F1 1 7 ≤ 600 := gi_g hg_F1 rfl
    refine ga_geti (z := F1 1 7) hm_153 rfl sc_1 rfl (rfl) ?_
    have e89_ : F1 3 (F1 1 7).toNat = K 3 (F1 1 7).toNat := tk41_.1 3 (F1 1 7).toNat (by omega)
    have b90_ : 0 ≤ K 3 (F1 1 7).toNat ∧ K 3 (F1 1 7).toNat ≤ 5 := gi_g hgK rfl
    refine ga_iald (z := F1 1 7) (w := K 3 (F1 1 7).toNat) hm_153 rfl sc_3 (by omega) (by omega) (by omega) (e89_) ?_
    refine ga_iload_n (z := 1) hm_153 rfl rfl ?_
    refine fx_icmp_ne (a := K 3 (F1 1 7).toNat) (b := 1) hm_153 rfl ⟨by omega, by omega⟩ ⟨by omega, by omega⟩ (fun h91_ => ?_) (fun h92_ => ?_)
    ·
      refine fl_iconst hm_153 rfl ?_
      refine gr_i hm_153 rfl rfl (ga_nb (by omega)) ?_
      clear h86_ h87_ f84_ l85_
      refine fl_if_ne hm_122 rfl ⟨by omega, by omega⟩ (fun h => absurd h (by omega)) (fun _ => ?_)
      refine ga_aload_n (v := .ref 118) hm_122 rfl rfl rfl ?_
      refine ga_aload_n (v := .ref 118) hm_122 rfl rfl rfl ?_
      refine ga_getr (b := 104) hm_122 rfl sc_118 rfl ?_
      refine ga_getr (b := 105) hm_122 rfl sc_104 rfl ?_
      refine fl_iconst hm_122 rfl ?_
      refine gVv (nY := 3) (F := 8) (L := 143) (As := [.ref 105, .int (Int32.ofInt 2)]) (b := 118) (rest := []) hm_122 rfl hm_127 rfl rfl (fl_ob sc_118) rfl rfl rfl rfl rfl (by omega) (by omega) (mc_127 hG F1 X hg_F1 (K) (105) (6) (2) (l) (tl) (ts) hgK tk41_ hko (⟨by omega, by omega⟩) nm_105 (by omega) (⟨by omega, by omega⟩) (hl) (htl) (by omega) ((rep_fs (rep_fs (rep_fs hts s17_ (fun _ => (by first | exact fs_c rfl | exact (fs_n (by omega) rfl))) (by first | exact fs_c rfl | exact (fs_n (by omega) rfl))) s32_ (fun _ => (by first | exact fs_c rfl | exact (fs_n (by omega) rfl))) (by first | exact fs_c rfl | exact (fs_n (by omega) rfl))) hf_F1 (fun _ => (by first | exact fs_c rfl | exact (fs_n (by omega) (fs_n (by omega) rfl)))) (by first | exact fs_c rfl | exact (fs_n (by omega) (fs_n (by omega) rfl)))))) ?_ ?_
      ·
        rintro j_ A1_ ⟨F94_, ⟨hJ_, hA_⟩, g95_, s96_, c93_⟩
        subst hA_
        subst hJ_
        refine ⟨rfl, ?_⟩
        refine gw_v ?_
        have g97_ : fs [(1, 1, 7, 8), (105, 107, 0, 100000)] F F94_ := fs_tr (fs_tr fs_refl g40_ rfl) s96_ rfl
        have b98_ : 0 ≤ F94_ 1 8 ∧ F94_ 1 8 ≤ 100000 := gi_g g95_ rfl
        exact ⟨F94_, ⟨rfl, rfl⟩, g95_, g97_, (by obtain ⟨e, c1, c2⟩ := c93_; exact ⟨e, (by rw [sp_robjs, sp_part, hk0]; simp only [pb]; rw [hw0]; simp only; rw [hsp, spo_step (by omega) (by omega) (by omega), c1]; rfl), c2⟩)⟩
      rintro A1_ ⟨F103_, hA_, g104_, s105_, c100_, c101_, c102_⟩
      subst hA_
      have g106_ : fs [(1, 1, 7, 7), (105, 107, 0, 100000)] F F103_ := fs_tr g40_ s105_ rfl
      have tk107_ : tkh K F103_ := tkh_fs tk41_ s105_ (fs_rg rfl) rfl
      obtain ⟨t_, ct1_, ct2_⟩ := c100_
      refine ga_inc (a := i) (c := i + 1) (lv2 := [(1, .int (Int32.ofInt (i + 1))), (0, .ref 118)]) hm_122 rfl rfl (Nat.le_of_ble_eq_true rfl) rfl rfl ?_
      refine fl_goto hm_122 rfl ?_
      have b108_ : 0 ≤ F103_ 105 2 ∧ F103_ 105 2 ≤ 6 := gi_g g104_ rfl
      have b109_ : 0 ≤ F1 105 2 ∧ F1 105 2 ≤ 6 := gi_g hg_F1 rfl
      have b110_ : 0 ≤ F103_ 1 7 ∧ F103_ 1 7 ≤ 600 := gi_g g104_ rfl
      have b111_ : 0 ≤ K 1 6 ∧ K 1 6 ≤ 601 := gi_g hgK rfl
      exact ih37_ _ (by omega) (i + 1) (_) (_) F103_ rfl g104_ (fs_tr hf_F1 s105_ rfl) (⟨by omega, by omega⟩) (c102_) (ct2_) (by simp; omega) (⟨by omega, by omega⟩) (by rw [hsp, spo_step (by omega) (by omega) (by omega), ct1_]; rfl)
    refine fl_iconst hm_153 rfl ?_
    refine fl_goto hm_153 rfl ?_
    refine gr_i hm_153 rfl rfl (ga_nb (by omega)) ?_
    clear h86_ h87_ f84_ l85_
    refine fl_if_ne hm_122 rfl ⟨by omega, by omega⟩ (fun _ => ?_) (fun h => absurd (by omega) h)
    refine ga_aload_n (v := .ref 118) hm_122 rfl rfl rfl ?_
    refine ga_getr (b := 1) hm_122 rfl sc_118 rfl ?_
    refine fl_iconst hm_122 rfl ?_
    refine gVv (nY := 2) (F := 7) (L := 121) (As := [.int (Int32.ofInt 1)]) (b := 1) (rest := []) hm_122 rfl hm_24 rfl rfl (fl_ob sc_1) rfl rfl rfl rfl rfl (by omega) (by omega) (mc_24 hG F1 X hg_F1 (K) (1) hgK tk41_ hko (⟨by omega, by omega⟩) (⟨by omega, by omega⟩)) ?_ ?_
    ·
      rintro j_ A1_ ⟨F113_, ⟨hJ_, hA_⟩, g114_, s115_, c112_⟩
      subst hA_
      subst hJ_
      refine ⟨rfl, ?_⟩
      refine gw_v ?_
      have g116_ : fs [(1, 1, 7, 8), (105, 107, 0, 100000)] F F113_ := fs_tr (fs_tr fs_refl g40_ rfl) s115_ rfl
      have b117_ : 0 ≤ F113_ 1 8 ∧ F113_ 1 8 ≤ 100000 := gi_g g114_ rfl
      exact ⟨F113_, ⟨rfl, rfl⟩, g114_, g116_, (by obtain ⟨e, c1, c2⟩ := c112_; exact ⟨e, (by rw [sp_robjs, sp_part, hk0]; simp only [pb]; rw [hw0]; simp only; rw [hsp, spo_e (by omega) (by omega) (by omega)]; simp only; rw [c1]), c2⟩)⟩
    rintro A1_ ⟨F121_, hA_, g122_, s123_, c119_, c120_⟩
    subst hA_
    have g124_ : fs [(1, 1, 7, 7), (105, 107, 0, 100000)] F F121_ := fs_tr g40_ s123_ rfl
    have tk125_ : tkh K F121_ := tkh_fs tk41_ s123_ (fs_rg rfl) rfl
    refine gr_v hm_122 rfl rfl ?_
    have b126_ : 0 ≤ F121_ 1 7 ∧ F121_ 1 7 ≤ 600 := gi_g g122_ rfl
    have e127_ : F121_ 105 2 = F1 105 2 := (s123_ 105 2 rfl).trans (rfl)
    have b128_ : 0 ≤ F1 105 2 ∧ F1 105 2 ≤ 6 := gi_g hg_F1 rfl
    exact ⟨F121_, rfl, g122_, g124_, (⟨l, tl, by rw [sp_robjs, sp_part, hk0]; simp only [pb]; rw [hw0]; simp only; rw [hsp, spo_e (by omega) (by omega) (by omega)]; simp only; rw [c119_], (rep_fs hl s123_ (fun _ => (by first | exact fs_c rfl | exact (fs_n (by omega) rfl))) (by first | exact fs_c rfl | exact (fs_n (by omega) rfl))), (rep_fs htl s123_ (fun _ => (by first | exact fs_c rfl | exact (fs_n (by omega) rfl))) (by first | exact fs_c rfl | exact (fs_n (by omega) rfl)))⟩), (⟨by omega, by omega⟩)⟩
  have e129_ : F15_ 105 2 = F 105 2 := (s17_ 105 2 rfl).trans (rfl)
  have e130_ : F30_ 105 2 = F 105 2 := (s32_ 105 2 rfl).trans (e129_)
  have b131_ : 0 ≤ F 105 2 ∧ F 105 2 ≤ 6 := gi_g hgi rfl
  have b132_ : 0 ≤ K 1 6 ∧ K 1 6 ≤ 601 := gi_g hgK rfl
  exact L36_ _ (0) ([]) ([]) F30_ rfl g31_ fs_refl (⟨by omega, by omega⟩) (rep_0 (Eq.trans (Eq.trans (a := F30_ 105 2) (b := F15_ 105 2) (s32_ 105 2 (by first | exact fs_c rfl | exact (fs_n (by omega) rfl))) (show F15_ 105 2 = F 105 2 from (s17_ 105 2 (by first | exact fs_c rfl | exact (fs_n (by omega) rfl))))) h0)) (rep_0 (Eq.trans (Eq.trans (a := F30_ 105 2) (b := F15_ 105 2) (s32_ 105 2 (by first | exact fs_c rfl | exact (fs_n (by omega) rfl))) (show F15_ 105 2 = F 105 2 from (s17_ 105 2 (by first | exact fs_c rfl | exact (fs_n (by omega) rfl))))) h0)) (by simp) (⟨by omega, by omega⟩) (by simp)
/- CheapPlanner$ClauseReader.readAtoms -/
abbrev pq_89 (G : Nat → Nat → Option Nat) (F : fl_N) (X : xi_H) (K : fl_N) (l tl pl : List Int) (ps : List (List Int)) (mo : Int) : Outcome → xi_H → Prop := gqv (fun A => ∃ F' : fl_N, fl_H sh_T G F' ++ X = A ∧ gi F' ∧ fs [(1, 1, 7, 7), (108, 108, 4, 4), (109, 112, 0, 100000)] F F' ∧ (sp_atoms K 2 l tl pl ps 12 (F 1 7) = .inr (F' 1 7)) ∧ (0 ≤ F' 1 7 ∧ F' 1 7 ≤ K 1 6 - 1) ∧ (cw F' 108 (l.length : Int)) ∧ (clr F' 108 (atoms_d K 2 l tl pl ps 12 (F 1 7)))) (fun j A => ∃ F' : fl_N, (387 + X.length = j ∧ fl_H sh_T G F' ++ (X ++ [gx 14]) = A) ∧ gi F' ∧ fs [(1, 1, 7, 8), (108, 108, 4, 4), (109, 112, 0, 100000)] F F' ∧ (∃ e, sp_atoms K 2 l tl pl ps 12 (F 1 7) = .inl e ∧ F' 1 8 = e.1 + 10 * e.2))
theorem mc_89 {G : Nat → Nat → Option Nat} (hG : gg G) (F : fl_N) (X : xi_H) (hgi : gi F) (K : fl_N) (l tl pl : List Int) (ps : List (List Int)) (mo : Int) (hgK : gi K) (hK : tkh K F) (hko : tko K) (hp : 0 ≤ F 1 7 ∧ F 1 7 ≤ K 1 6 - 1) (hmo : mo = 12) (hta : F 119 2 = 105) (htk : F 119 3 = 2) (hl : rep (F 106) (F 105 2) l) (htl : rep (F 107) (F 105 2) tl) (hpl : rep (F 12) (F 11 2) pl) (hps : prd F ps) (hpn : pl.length = ps.length) (hcw : cw F 108 (l.length : Int)) (h04 : F 108 4 = 0) : fl_M xi_ms 89 9 169 [.ref 119, .ref 108, .int (Int32.ofInt mo)] (fl_H sh_T G F ++ X) (pq_89 G F X K l tl pl ps mo) := by
  intro fr lo hfr hlo
  show fl_R xi_ms 89 fr lo 0 [(0, .ref 119), (1, .ref 108), (2, .int (Int32.ofInt mo))] [] _ _
  have hpl1 := hpl.1
  have hb11 : 0 ≤ F 11 2 ∧ F 11 2 ≤ 6 := gi_g hgi rfl
  refine fl_iconst hm_89 rfl ?_
  refine ga_istore_n (lv2 := [(3, .int (Int32.ofInt 0)), (0, .ref 119), (1, .ref 108), (2, .int (Int32.ofInt mo))]) hm_89 rfl (Nat.le_of_ble_eq_true rfl) rfl ?_
  have b4_ : 0 ≤ F 1 7 ∧ F 1 7 ≤ 600 := gi_g hgi rfl
  have L2_ : ∀ (n1_ : Nat) (i : Int) (L : List lt_T) (F1 : fl_N), (12 - i : Int).toNat = n1_ → (gi F1) → (fs [(1, 1, 7, 7), (108, 108, 4, 4), (109, 112, 0, 100000)] F F1) → (0 ≤ i ∧ i ≤ 12) → (0 ≤ F1 1 7 ∧ F1 1 7 ≤ K 1 6 - 1) → (cw F1 108 (l.length : Int)) → (sp_atoms K 2 l tl pl ps 12 (F 1 7) = sp_atoms K 2 l tl pl ps (12 - i).toNat (F1 1 7)) → (clr F1 108 L) → ((L.length : Int) = i) → (atoms_d K 2 l tl pl ps 12 (F 1 7) = L ++ atoms_d K 2 l tl pl ps (12 - i).toNat (F1 1 7)) → fl_R xi_ms 89 fr lo 2 [(3, .int (Int32.ofInt i)), (0, .ref 119), (1, .ref 108), (2, .int (Int32.ofInt mo))] [] (fl_H sh_T G F1 ++ X) (pq_89 G F X K l tl pl ps mo) := by
    intro n1_
    induction n1_ using Nat.strongRecOn with
    | ind n1_ ih3_ =>
    intro i L F1 hn5_ hg_F1 hf_F1 hi hp1 hc1 hsp hcr hLi hcd
    have g6_ : fs [(1, 1, 7, 7), (108, 108, 4, 4), (109, 112, 0, 100000)] F F1 := fs_tr fs_refl hf_F1 rfl
    have tk7_ : tkh K F1 := tkh_fs hK hf_F1 (fs_rg rfl) rfl
    refine ga_iload_n (z := i) hm_89 rfl rfl ?_
    refine ga_iload_n (z := mo) hm_89 rfl rfl ?_
    refine fl_icmp_ge (a := i) (b := mo) hm_89 rfl ⟨by omega, by omega⟩ ⟨by omega, by omega⟩ (fun h8_ => ?_) (fun h9_ => ?_)
    ·
      refine gr_v hm_89 rfl rfl ?_
      have b10_ : 0 ≤ F1 1 7 ∧ F1 1 7 ≤ 600 := gi_g hg_F1 rfl
      exact ⟨F1, rfl, hg_F1, g6_, (by rw [hsp]; first | (refine spz_e ?_; omega) | (refine spz_z ?_; omega)), (⟨by omega, by omega⟩), (hc1), (clr_eq hcr (by rw [hcd, (show atoms_d K 2 l tl pl ps (12 - i).toNat (F1 1 7) = [] from by first | (refine az_e ?_; omega) | (refine az_z ?_; omega)), List.append_nil]))⟩
    refine ga_aload_n (v := .ref 119) hm_89 rfl rfl rfl ?_
    refine ga_getr (b := 1) hm_89 rfl sc_119 rfl ?_
    refine fl_iconst hm_89 rfl ?_
    refine gIi (nY := 2) (F := 0) (L := 0) (As := [.int (Int32.ofInt 0)]) (b := 1) (rest := []) hm_89 rfl hm_153 rfl rfl (fl_ob sc_1) rfl rfl rfl rfl rfl (by omega) (by omega) ?_
    intro f11_ l12_ h13_ h14_
    show fl_R xi_ms 153 f11_ l12_ 0 [(0, .ref 1), (1, .int (Int32.ofInt 0))] [] _ _
    refine ga_aload_n (v := .ref 1) hm_153 rfl rfl rfl ?_
    refine ga_getr (b := 3) hm_153 rfl sc_1 rfl ?_
    refine ga_aload_n (v := .ref 1) hm_153 rfl rfl rfl ?_
    have b15_ : 0 ≤ F1 1 7 ∧ F1 1 7 ≤ 600 := gi_g hg_F1 rfl
    refine ga_geti (z := F1 1 7) hm_153 rfl sc_1 rfl (rfl) ?_
    have e16_ : F1 3 (F1 1 7).toNat = K 3 (F1 1 7).toNat := tk7_.1 3 (F1 1 7).toNat (by omega)
    have b17_ : 0 ≤ K 3 (F1 1 7).toNat ∧ K 3 (F1 1 7).toNat ≤ 5 := gi_g hgK rfl
    refine ga_iald (z := F1 1 7) (w := K 3 (F1 1 7).toNat) hm_153 rfl sc_3 (by omega) (by omega) (by omega) (e16_) ?_
    refine ga_iload_n (z := 0) hm_153 rfl rfl ?_
    refine fx_icmp_ne (a := K 3 (F1 1 7).toNat) (b := 0) hm_153 rfl ⟨by omega, by omega⟩ ⟨by omega, by omega⟩ (fun h18_ => ?_) (fun h19_ => ?_)
    ·
      refine fl_iconst hm_153 rfl ?_
      refine gr_i hm_153 rfl rfl (ga_nb (by omega)) ?_
      clear h13_ h14_ f11_ l12_
      refine fl_if_eq hm_89 rfl ⟨by omega, by omega⟩ (fun _ => ?_) (fun h => absurd (by omega) h)
      refine gr_v hm_89 rfl rfl ?_
      exact ⟨F1, rfl, hg_F1, g6_, (by rw [hsp]; first | (refine spz_e ?_; omega) | (refine spz_z ?_; omega)), (⟨by omega, by omega⟩), (hc1), (clr_eq hcr (by rw [hcd, (show atoms_d K 2 l tl pl ps (12 - i).toNat (F1 1 7) = [] from by first | (refine az_e ?_; omega) | (refine az_z ?_; omega)), List.append_nil]))⟩
    refine fl_iconst hm_153 rfl ?_
    refine fl_goto hm_153 rfl ?_
    refine gr_i hm_153 rfl rfl (ga_nb (by omega)) ?_
    clear h13_ h14_ f11_ l12_
    refine fl_if_eq hm_89 rfl ⟨by omega, by omega⟩ (fun h => absurd h (by omega)) (fun _ => ?_)
    refine ga_aload_n (v := .ref 119) hm_89 rfl rfl rfl ?_
    refine ga_getr (b := 1) hm_89 rfl sc_119 rfl ?_
    refine gVv (nY := 1) (F := 0) (L := 0) (As := []) (b := 1) (rest := []) hm_89 rfl hm_154 rfl rfl (fl_ob sc_1) rfl rfl rfl rfl rfl (by omega) (by omega) (mc_154 hG F1 X hg_F1 (K) hgK tk7_ hko (⟨by omega, by omega⟩)) (fun _ _ h => False.elim h) ?_
    rintro A1_ ⟨F23_, hA_, g24_, s25_, c21_, c22_⟩
    subst hA_
    have g26_ : fs [(1, 1, 7, 7), (108, 108, 4, 4), (109, 112, 0, 100000)] F F23_ := fs_tr g6_ s25_ rfl
    have tk27_ : tkh K F23_ := tkh_fs tk7_ s25_ (fs_rg rfl) rfl
    refine ga_aload_n (v := .ref 119) hm_89 rfl rfl rfl ?_
    refine ga_aload_n (v := .ref 108) hm_89 rfl rfl rfl ?_
    refine fl_iconst hm_89 rfl ?_
    have b28_ : 0 ≤ F23_ 1 7 ∧ F23_ 1 7 ≤ 600 := gi_g g24_ rfl
    have e29_ : F1 119 2 = F 119 2 := (hf_F1 119 2 rfl).trans (rfl)
    have e30_ : F23_ 119 2 = F 119 2 := (s25_ 119 2 rfl).trans (e29_)
    have b31_ : 8 ≤ F 119 2 ∧ F 119 2 ≤ 105 := gi_g hgi rfl
    have e32_ : F1 119 3 = F 119 3 := (hf_F1 119 3 rfl).trans (rfl)
    have e33_ : F23_ 119 3 = F 119 3 := (s25_ 119 3 rfl).trans (e32_)
    have b34_ : 2 ≤ F 119 3 ∧ F 119 3 ≤ 3 := gi_g hgi rfl
    refine gVv (nY := 7) (F := 8) (L := 143) (As := [.ref 108, .int (Int32.ofInt 0)]) (b := 119) (rest := []) hm_89 rfl hm_88 rfl rfl (fl_ob sc_119) rfl rfl rfl rfl rfl (by omega) (by omega) (mc_88 hG F23_ X g24_ (K) (105) (6) (108) (12) (5) (0) (2) (l) (tl) (pl) (ps) (0) (L) hgK tk27_ hko (⟨by omega, by omega⟩) nm_105 (by omega) (by omega) ((rep_fs (rep_fs hl hf_F1 (fun _ => (by first | exact fs_c rfl | exact (fs_n (by omega) (fs_n (by omega) (fs_n (by omega) rfl))))) (by first | exact fs_c rfl | exact (fs_n (by omega) (fs_n (by omega) (fs_n (by omega) rfl))))) s25_ (fun _ => (by first | exact fs_c rfl | exact (fs_n (by omega) rfl))) (by first | exact fs_c rfl | exact (fs_n (by omega) rfl)))) ((rep_fs (rep_fs htl hf_F1 (fun _ => (by first | exact fs_c rfl | exact (fs_n (by omega) (fs_n (by omega) (fs_n (by omega) rfl))))) (by first | exact fs_c rfl | exact (fs_n (by omega) (fs_n (by omega) (fs_n (by omega) rfl))))) s25_ (fun _ => (by first | exact fs_c rfl | exact (fs_n (by omega) rfl))) (by first | exact fs_c rfl | exact (fs_n (by omega) rfl)))) (⟨by omega, by omega⟩) cl_108 (by omega) (by omega) ((cw_fs hc1 s25_ (by first | exact fs_rg rfl | exact fun r j hj => (fs_n (by omega) rfl)))) ((rep_fs (rep_fs hpl hf_F1 (fun _ => (by first | exact fs_c rfl | exact (fs_n (by omega) (fs_n (by omega) (fs_n (by omega) rfl))))) (by first | exact fs_c rfl | exact (fs_n (by omega) (fs_n (by omega) (fs_n (by omega) rfl))))) s25_ (fun _ => (by first | exact fs_c rfl | exact (fs_n (by omega) rfl))) (by first | exact fs_c rfl | exact (fs_n (by omega) rfl)))) ((prd_fs (prd_fs hps hf_F1 (fun _ _ _ => (by first | exact fs_c rfl | exact (fs_n (by omega) (fs_n (by omega) (fs_n (by omega) rfl)))))) s25_ (fun _ _ _ => (by first | exact fs_c rfl | exact (fs_n (by omega) rfl))))) (hpn) (by omega) ((clr_fs hcr s25_ (by first | exact fs_rg rfl | exact fun r j hj => (fs_n (by omega) rfl)))) (by omega)) ?_ ?_
    ·
      rintro j_ A1_ ⟨F36_, ⟨hJ_, hA_⟩, g37_, s38_, c35_⟩
      subst hA_
      subst hJ_
      refine ⟨rfl, ?_⟩
      refine gw_v ?_
      have g39_ : fs [(1, 1, 7, 8), (108, 108, 4, 4), (109, 112, 0, 100000)] F F36_ := fs_tr (fs_tr fs_refl g26_ rfl) s38_ rfl
      have b40_ : 0 ≤ F36_ 1 8 ∧ F36_ 1 8 ≤ 100000 := gi_g g37_ rfl
      exact ⟨F36_, ⟨rfl, rfl⟩, g37_, g39_, (by obtain ⟨e, c1, c2⟩ := c35_; exact ⟨e, (by rw [hsp, spz_step (by omega) (by omega), c21_, c1]; rfl), c2⟩)⟩
    rintro A1_ ⟨F46_, hA_, g47_, s48_, c42_, c43_, c44_, c45_⟩
    subst hA_
    have g49_ : fs [(1, 1, 7, 7), (108, 108, 4, 4), (109, 112, 0, 100000)] F F46_ := fs_tr g26_ s48_ rfl
    have tk50_ : tkh K F46_ := tkh_fs tk27_ s48_ (fs_rg rfl) rfl
    refine ga_inc (a := i) (c := i + 1) (lv2 := [(3, .int (Int32.ofInt (i + 1))), (0, .ref 119), (1, .ref 108), (2, .int (Int32.ofInt mo))]) hm_89 rfl rfl (Nat.le_of_ble_eq_true rfl) rfl rfl ?_
    refine fl_goto hm_89 rfl ?_
    have b51_ : 0 ≤ F46_ 1 7 ∧ F46_ 1 7 ≤ 600 := gi_g g47_ rfl
    have b52_ : 0 ≤ K 1 6 ∧ K 1 6 ≤ 601 := gi_g hgK rfl
    exact ih3_ _ (by omega) (i + 1) (_) F46_ rfl g47_ (fs_tr (fs_tr hf_F1 s25_ rfl) s48_ rfl) (⟨by omega, by omega⟩) (⟨by omega, by omega⟩) (c44_) (by rw [hsp, spz_step (by omega) (by omega), c21_, c42_]; rfl) (c45_) (by simp; omega) (by rw [hcd, az_step (by omega) (by omega) c21_ c42_, List.append_cons])
  have b53_ : 0 ≤ K 1 6 ∧ K 1 6 ≤ 601 := gi_g hgK rfl
  exact L2_ _ (0) ([]) F rfl hgi fs_refl (⟨by omega, by omega⟩) (⟨by omega, by omega⟩) (hcw) (by simp) (clr_nil (h04)) (by simp) (by simp)
/- CheapPlanner$Reader.readProblem -/
abbrev pq_125 (G : Nat → Nat → Option Nat) (F : fl_N) (X : xi_H) (nm : Int) (ts pl : List Int) (ps : List (List Int)) : Outcome → xi_H → Prop := gqv (fun A => ∃ F' : fl_N, fl_H sh_T G F' ++ X = A ∧ gi F' ∧ fs [(1, 1, 1, 1), (1, 1, 6, 8), (3, 6, 0, 100000), (105, 117, 0, 100000), (119, 119, 2, 3)] F F' ∧ (∃ K l tl, dmk K F ∧ sp_prb K nm ts pl ps = .inr (l, tl) ∧ rep (F' 106) (F' 105 2) l ∧ rep (F' 107) (F' 105 2) tl ∧ clr F' 108 (prb_i K nm ts pl ps) ∧ clr F' 113 (prb_g K nm ts pl ps)) ∧ (F' 1 1 = 0) ∧ (c68 F') ∧ (c63 F') ∧ (F' 1 8 = 0)) (fun j A => ∃ F' : fl_N, (387 + X.length = j ∧ fl_H sh_T G F' ++ (X ++ [gx 14]) = A) ∧ gi F' ∧ fs [(1, 1, 1, 1), (1, 1, 6, 8), (3, 6, 0, 100000), (105, 117, 0, 100000), (119, 119, 2, 3)] F F' ∧ (∃ K e, dmk K F ∧ sp_prb K nm ts pl ps = .inl e ∧ F' 1 8 = e.1 + 10 * e.2) ∧ (F' 1 1 = 0))
theorem mc_125 {G : Nat → Nat → Option Nat} (hG : gg G) (F : fl_N) (X : xi_H) (hgi : gi F) (nm : Int) (ts pl : List Int) (ps : List (List Int)) (hnm : F 7 0 = nm) (hts : rep (F 9) (F 8 2) ts) (hpl : rep (F 12) (F 11 2) pl) (hps : prd F ps) (hpn : pl.length = ps.length) : fl_M xi_ms 125 11 215 [.ref 118] (fl_H sh_T G F ++ X) (pq_125 G F X nm ts pl ps) := by
  intro fr lo hfr hlo
  show fl_R xi_ms 125 fr lo 0 [(0, .ref 118)] [] _ _
  have hpl1 := hpl.1
  have hb11 : 0 ≤ F 11 2 ∧ F 11 2 ≤ 6 := gi_g hgi rfl
  refine ga_aload_n (v := .ref 118) hm_125 rfl rfl rfl ?_
  refine ga_getr (b := 1) hm_125 rfl sc_118 rfl ?_
  refine gVv (nY := 5) (F := 2) (L := 53) (As := []) (b := 1) (rest := []) hm_125 rfl hm_22 rfl rfl (fl_ob sc_1) rfl rfl rfl rfl rfl (by omega) (by omega) (mc_22 hG F X hgi) (fun _ _ h => False.elim h) ?_
  have b2_ : 0 ≤ F 1 1 ∧ F 1 1 ≤ 600 := gi_g hgi rfl
  rintro A1_ ⟨F5_, hA_, g6_, s7_, c3_, c4_⟩
  subst hA_
  have g8_ : fs [(1, 1, 1, 1), (1, 1, 6, 8), (3, 6, 0, 100000), (105, 117, 0, 100000), (119, 119, 2, 3)] F F5_ := fs_tr fs_refl s7_ rfl
  obtain ⟨lt_, hlt_, htf_, hln_⟩ := c3_
  obtain ⟨K, hKe⟩ : ∃ K, K = F5_ := ⟨_, rfl⟩
  have hgK : gi K := by rw [hKe]; exact g6_
  have hK : tkh K F5_ := by rw [hKe]; exact ⟨fun _ _ _ => rfl, rfl⟩
  have htf : tkf K (F 2) (F 1 1) lt_ := by rw [hKe]; exact htf_
  have hbF : 0 ≤ F 1 1 ∧ F 1 1 ≤ 600 := gi_g hgi rfl
  have htw := tkw_of htf hlt_ hbF.1
  have hko := tko_of htf htw
  have hp0 : F5_ 1 7 = 0 := c4_.2.1
  have hK1 := hko.1
  have hkk : K 1 6 = F5_ 1 6 := by rw [hKe]
  have hcut : (∀ j, K 2 j = F 2 j) ∧ tkw K (F 2) (F 1 1) := ⟨fun j => by rw [hKe]; exact g8_ 2 j (by simp [fs_in]), htw⟩
  have hq0 : F5_ 1 8 = 0 := c4_.2.2
  refine ga_aload_n (v := .ref 118) hm_125 rfl rfl rfl ?_
  refine ga_getr (b := 104) hm_125 rfl sc_118 rfl ?_
  refine gIv (nY := 1) (F := 1) (L := 20) (As := []) (b := 104) (rest := []) hm_125 rfl hm_116 rfl rfl (fl_ob sc_104) rfl rfl rfl rfl rfl (by omega) (by omega) ?_
  intro f9_ l10_ h11_ h12_
  show fl_R xi_ms 116 f9_ l10_ 0 [(0, .ref 104)] [] _ _
  refine ga_aload_n (v := .ref 104) hm_116 rfl rfl rfl ?_
  refine ga_getr (b := 105) hm_116 rfl sc_104 rfl ?_
  refine gIv (nY := 1) (F := 0) (L := 0) (As := []) (b := 105) (rest := []) hm_116 rfl hm_27 rfl rfl (fl_ob sc_105) rfl rfl rfl rfl rfl (by omega) (by omega) ?_
  intro f13_ l14_ h15_ h16_
  show fl_R xi_ms 27 f13_ l14_ 0 [(0, .ref 105)] [] _ _
  refine ga_aload_n (v := .ref 105) hm_27 rfl rfl rfl ?_
  refine fl_iconst hm_27 rfl ?_
  refine ga_puti (z := 0) hm_27 rfl sc_105 rfl rfl ?_
  refine gr_v hm_27 rfl rfl ?_
  clear h15_ h16_ f13_ l14_
  refine ga_aload_n (v := .ref 104) hm_116 rfl rfl rfl ?_
  refine ga_getr (b := 108) hm_116 rfl sc_104 rfl ?_
  refine gIv (nY := 1) (F := 0) (L := 0) (As := []) (b := 108) (rest := []) hm_116 rfl hm_87 rfl rfl (fl_ob sc_108) rfl rfl rfl rfl rfl (by omega) (by omega) ?_
  intro f17_ l18_ h19_ h20_
  show fl_R xi_ms 87 f17_ l18_ 0 [(0, .ref 108)] [] _ _
  refine ga_aload_n (v := .ref 108) hm_87 rfl rfl rfl ?_
  refine fl_iconst hm_87 rfl ?_
  refine ga_puti (z := 0) hm_87 rfl sc_108 rfl rfl ?_
  refine ga_aload_n (v := .ref 108) hm_87 rfl rfl rfl ?_
  refine fl_iconst hm_87 rfl ?_
  refine ga_puti (z := 0) hm_87 rfl sc_108 rfl rfl ?_
  refine gr_v hm_87 rfl rfl ?_
  clear h19_ h20_ f17_ l18_
  refine ga_aload_n (v := .ref 104) hm_116 rfl rfl rfl ?_
  refine ga_getr (b := 113) hm_116 rfl sc_104 rfl ?_
  refine gIv (nY := 1) (F := 0) (L := 0) (As := []) (b := 113) (rest := []) hm_116 rfl hm_87 rfl rfl (fl_ob sc_113) rfl rfl rfl rfl rfl (by omega) (by omega) ?_
  intro f21_ l22_ h23_ h24_
  show fl_R xi_ms 87 f21_ l22_ 0 [(0, .ref 113)] [] _ _
  refine ga_aload_n (v := .ref 113) hm_87 rfl rfl rfl ?_
  refine fl_iconst hm_87 rfl ?_
  refine ga_puti (z := 0) hm_87 rfl sc_113 rfl rfl ?_
  refine ga_aload_n (v := .ref 113) hm_87 rfl rfl rfl ?_
  refine fl_iconst hm_87 rfl ?_
  refine ga_puti (z := 0) hm_87 rfl sc_113 rfl rfl ?_
  refine gr_v hm_87 rfl rfl ?_
  clear h23_ h24_ f21_ l22_
  refine gr_v hm_116 rfl rfl ?_
  clear h11_ h12_ f9_ l10_
  refine ga_aload_n (v := .ref 118) hm_125 rfl rfl rfl ?_
  refine ga_ldcs hm_125 rfl ?_
  refine gIv (nY := 2) (F := 8) (L := 144) (As := [.retAddr 16]) (b := 118) (rest := []) hm_125 rfl hm_34 rfl rfl (fl_ob sc_118) rfl rfl rfl rfl rfl (by omega) (by omega) ?_
  intro f25_ l26_ h27_ h28_
  show fl_R xi_ms 34 f25_ l26_ 0 [(0, .ref 118), (1, .retAddr 16)] [] _ _
  refine ga_aload_n (v := .ref 118) hm_34 rfl rfl rfl ?_
  refine ga_getr (b := 1) hm_34 rfl sc_118 rfl ?_
  refine fl_iconst hm_34 rfl ?_
  obtain ⟨F29_, q30_⟩ : ∃ Fq_, Fq_ = (fl_u (fl_u (fl_u (fl_u (fl_u F5_ 105 2 0) 108 4 0) 108 5 0) 113 4 0) 113 5 0) := ⟨_, rfl⟩
  rw [← q30_]
  have g31_ : gi F29_ := by rw [q30_]; exact gi_u (gi_u (gi_u (gi_u (gi_u (g6_) rfl (by omega) (by omega)) rfl (by omega) (by omega)) rfl (by omega) (by omega)) rfl (by omega) (by omega)) rfl (by omega) (by omega)
  have g32_ : fs [(1, 1, 1, 1), (1, 1, 6, 8), (3, 6, 0, 100000), (105, 117, 0, 100000), (119, 119, 2, 3)] F F29_ := by rw [q30_]; exact fs_u (fs_u (fs_u (fs_u (fs_u (g8_) rfl) rfl) rfl) rfl) rfl
  have tk33_ : tkh K F29_ := by rw [q30_]; exact tkh_u (tkh_u (tkh_u (tkh_u (tkh_u (hK) (by first | decide | exact nc_ rfl | omega) (by first | decide | exact nc_ rfl | omega)) (by first | decide | exact nc_ rfl | omega) (by first | decide | exact nc_ rfl | omega)) (by first | decide | exact nc_ rfl | omega) (by first | decide | exact nc_ rfl | omega)) (by first | decide | exact nc_ rfl | omega) (by first | decide | exact nc_ rfl | omega)) (by first | decide | exact nc_ rfl | omega) (by first | decide | exact nc_ rfl | omega)
  have e34_ : F29_ 1 7 = 0 := by rw [q30_]; exact (fl_u_ne (by first | exact nc_ rfl | decide | omega)).trans ((fl_u_ne (by first | exact nc_ rfl | decide | omega)).trans ((fl_u_ne (by first | exact nc_ rfl | decide | omega)).trans ((fl_u_ne (by first | exact nc_ rfl | decide | omega)).trans ((fl_u_ne (by first | exact nc_ rfl | decide | omega)).trans (hp0)))))
  refine gVv (nY := 2) (F := 7) (L := 121) (As := [.int (Int32.ofInt 0)]) (b := 1) (rest := []) hm_34 rfl hm_24 rfl rfl (fl_ob sc_1) rfl rfl rfl rfl rfl (by omega) (by omega) (mc_24 hG F29_ X g31_ (K) (0) hgK tk33_ hko (⟨by omega, by omega⟩) (⟨by omega, by omega⟩)) ?_ ?_
  ·
    rintro j_ A1_ ⟨F36_, ⟨hJ_, hA_⟩, g37_, s38_, c35_⟩
    subst hA_
    subst hJ_
    try simp only [e34_] at c35_
    refine ⟨rfl, ?_⟩
    refine gw_v ⟨rfl, ?_⟩
    refine gw_v ?_
    have g39_ : fs [(1, 1, 1, 1), (1, 1, 6, 8), (3, 6, 0, 100000), (105, 117, 0, 100000), (119, 119, 2, 3)] F F36_ := fs_tr g32_ s38_ rfl
    have b40_ : 0 ≤ F36_ 1 8 ∧ F36_ 1 8 ≤ 100000 := gi_g g37_ rfl
    have e41_ : F29_ 1 1 = F5_ 1 1 := by rw [q30_]; exact (fl_u_ne (by first | exact nc_ rfl | decide | omega)).trans ((fl_u_ne (by first | exact nc_ rfl | decide | omega)).trans ((fl_u_ne (by first | exact nc_ rfl | decide | omega)).trans ((fl_u_ne (by first | exact nc_ rfl | decide | omega)).trans (fl_u_ne (by first | exact nc_ rfl | decide | omega)))))
    have e42_ : F36_ 1 1 = F5_ 1 1 := (s38_ 1 1 rfl).trans (e41_)
    have b43_ : 0 ≤ F5_ 1 1 ∧ F5_ 1 1 ≤ 600 := gi_g g6_ rfl
    exact ⟨F36_, ⟨rfl, rfl⟩, g37_, g39_, (by obtain ⟨e, c1, c2⟩ := c35_; exact ⟨K, e, ⟨⟨hgK, hcut⟩, by rw [← hlt_]; exact htf⟩, (by simp [sp_prb, sp_open, sp_part, sp_close, pf, pb, c1]), c2⟩), (by omega)⟩
  rintro A1_ ⟨F47_, hA_, g48_, s49_, c45_, c46_⟩
  subst hA_
  have g50_ : fs [(1, 1, 1, 1), (1, 1, 6, 8), (3, 6, 0, 100000), (105, 117, 0, 100000), (119, 119, 2, 3)] F F47_ := fs_tr g32_ s49_ rfl
  have tk51_ : tkh K F47_ := tkh_fs tk33_ s49_ (fs_rg rfl) rfl
  try simp only [e34_] at c45_
  refine ga_aload_n (v := .ref 118) hm_34 rfl rfl rfl ?_
  refine ga_getr (b := 1) hm_34 rfl sc_118 rfl ?_
  refine ga_ldcs hm_34 rfl ?_
  have b52_ : 0 ≤ F47_ 1 7 ∧ F47_ 1 7 ≤ 600 := gi_g g48_ rfl
  refine gVv (nY := 2) (F := 7) (L := 123) (As := [.retAddr 2]) (b := 1) (rest := []) hm_34 rfl hm_155 rfl rfl (fl_ob sc_1) rfl rfl rfl rfl rfl (by omega) (by omega) (mc_155 hG F47_ X g48_ (K) (2) ([100, 101, 102, 105, 110, 101]) hgK tk51_ hko (⟨by omega, by omega⟩) (rfl) (by decide)) ?_ ?_
  ·
    rintro j_ A1_ ⟨F54_, ⟨hJ_, hA_⟩, g55_, s56_, c53_⟩
    subst hA_
    subst hJ_
    refine ⟨rfl, ?_⟩
    refine gw_v ⟨rfl, ?_⟩
    refine gw_v ?_
    have g57_ : fs [(1, 1, 1, 1), (1, 1, 6, 8), (3, 6, 0, 100000), (105, 117, 0, 100000), (119, 119, 2, 3)] F F54_ := fs_tr g50_ s56_ rfl
    have b58_ : 0 ≤ F54_ 1 8 ∧ F54_ 1 8 ≤ 100000 := gi_g g55_ rfl
    have e59_ : F29_ 1 1 = F5_ 1 1 := by rw [q30_]; exact (fl_u_ne (by first | exact nc_ rfl | decide | omega)).trans ((fl_u_ne (by first | exact nc_ rfl | decide | omega)).trans ((fl_u_ne (by first | exact nc_ rfl | decide | omega)).trans ((fl_u_ne (by first | exact nc_ rfl | decide | omega)).trans (fl_u_ne (by first | exact nc_ rfl | decide | omega)))))
    have e60_ : F47_ 1 1 = F5_ 1 1 := (s49_ 1 1 rfl).trans (e59_)
    have e61_ : F54_ 1 1 = F5_ 1 1 := (s56_ 1 1 rfl).trans (e60_)
    have b62_ : 0 ≤ F5_ 1 1 ∧ F5_ 1 1 ≤ 600 := gi_g g6_ rfl
    exact ⟨F54_, ⟨rfl, rfl⟩, g55_, g57_, (by obtain ⟨e, c1, c2⟩ := c53_; exact ⟨K, e, ⟨⟨hgK, hcut⟩, by rw [← hlt_]; exact htf⟩, (by simp [sp_prb, sp_open, sp_part, sp_close, pf, pb, c45_, c1]), c2⟩), (by omega)⟩
  rintro A1_ ⟨F66_, hA_, g67_, s68_, c64_, c65_⟩
  subst hA_
  have g69_ : fs [(1, 1, 1, 1), (1, 1, 6, 8), (3, 6, 0, 100000), (105, 117, 0, 100000), (119, 119, 2, 3)] F F66_ := fs_tr g50_ s68_ rfl
  have tk70_ : tkh K F66_ := tkh_fs tk51_ s68_ (fs_rg rfl) rfl
  refine ga_aload_n (v := .ref 118) hm_34 rfl rfl rfl ?_
  refine ga_getr (b := 1) hm_34 rfl sc_118 rfl ?_
  refine fl_iconst hm_34 rfl ?_
  have b71_ : 0 ≤ F66_ 1 7 ∧ F66_ 1 7 ≤ 600 := gi_g g67_ rfl
  refine gVv (nY := 2) (F := 7) (L := 121) (As := [.int (Int32.ofInt 0)]) (b := 1) (rest := []) hm_34 rfl hm_24 rfl rfl (fl_ob sc_1) rfl rfl rfl rfl rfl (by omega) (by omega) (mc_24 hG F66_ X g67_ (K) (0) hgK tk70_ hko (⟨by omega, by omega⟩) (⟨by omega, by omega⟩)) ?_ ?_
  ·
    rintro j_ A1_ ⟨F73_, ⟨hJ_, hA_⟩, g74_, s75_, c72_⟩
    subst hA_
    subst hJ_
    refine ⟨rfl, ?_⟩
    refine gw_v ⟨rfl, ?_⟩
    refine gw_v ?_
    have g76_ : fs [(1, 1, 1, 1), (1, 1, 6, 8), (3, 6, 0, 100000), (105, 117, 0, 100000), (119, 119, 2, 3)] F F73_ := fs_tr g69_ s75_ rfl
    have b77_ : 0 ≤ F73_ 1 8 ∧ F73_ 1 8 ≤ 100000 := gi_g g74_ rfl
    have e78_ : F29_ 1 1 = F5_ 1 1 := by rw [q30_]; exact (fl_u_ne (by first | exact nc_ rfl | decide | omega)).trans ((fl_u_ne (by first | exact nc_ rfl | decide | omega)).trans ((fl_u_ne (by first | exact nc_ rfl | decide | omega)).trans ((fl_u_ne (by first | exact nc_ rfl | decide | omega)).trans (fl_u_ne (by first | exact nc_ rfl | decide | omega)))))
    have e79_ : F47_ 1 1 = F5_ 1 1 := (s49_ 1 1 rfl).trans (e78_)
    have e80_ : F66_ 1 1 = F5_ 1 1 := (s68_ 1 1 rfl).trans (e79_)
    have e81_ : F73_ 1 1 = F5_ 1 1 := (s75_ 1 1 rfl).trans (e80_)
    have b82_ : 0 ≤ F5_ 1 1 ∧ F5_ 1 1 ≤ 600 := gi_g g6_ rfl
    exact ⟨F73_, ⟨rfl, rfl⟩, g74_, g76_, (by obtain ⟨e, c1, c2⟩ := c72_; exact ⟨K, e, ⟨⟨hgK, hcut⟩, by rw [← hlt_]; exact htf⟩, (by simp [sp_prb, sp_open, sp_part, sp_close, pf, pb, c45_, c64_, c1]), c2⟩), (by omega)⟩
  rintro A1_ ⟨F86_, hA_, g87_, s88_, c84_, c85_⟩
  subst hA_
  have g89_ : fs [(1, 1, 1, 1), (1, 1, 6, 8), (3, 6, 0, 100000), (105, 117, 0, 100000), (119, 119, 2, 3)] F F86_ := fs_tr g69_ s88_ rfl
  have tk90_ : tkh K F86_ := tkh_fs tk70_ s88_ (fs_rg rfl) rfl
  refine ga_aload_n (v := .ref 118) hm_34 rfl rfl rfl ?_
  refine ga_getr (b := 1) hm_34 rfl sc_118 rfl ?_
  refine ga_aload_n (v := .retAddr 16) hm_34 rfl rfl rfl ?_
  have b91_ : 0 ≤ F86_ 1 7 ∧ F86_ 1 7 ≤ 600 := gi_g g87_ rfl
  refine gVv (nY := 2) (F := 7) (L := 123) (As := [.retAddr 16]) (b := 1) (rest := []) hm_34 rfl hm_155 rfl rfl (fl_ob sc_1) rfl rfl rfl rfl rfl (by omega) (by omega) (mc_155 hG F86_ X g87_ (K) (16) ([112, 114, 111, 98, 108, 101, 109]) hgK tk90_ hko (⟨by omega, by omega⟩) (rfl) (by decide)) ?_ ?_
  ·
    rintro j_ A1_ ⟨F93_, ⟨hJ_, hA_⟩, g94_, s95_, c92_⟩
    subst hA_
    subst hJ_
    refine ⟨rfl, ?_⟩
    refine gw_v ⟨rfl, ?_⟩
    refine gw_v ?_
    have g96_ : fs [(1, 1, 1, 1), (1, 1, 6, 8), (3, 6, 0, 100000), (105, 117, 0, 100000), (119, 119, 2, 3)] F F93_ := fs_tr g89_ s95_ rfl
    have b97_ : 0 ≤ F93_ 1 8 ∧ F93_ 1 8 ≤ 100000 := gi_g g94_ rfl
    have e98_ : F29_ 1 1 = F5_ 1 1 := by rw [q30_]; exact (fl_u_ne (by first | exact nc_ rfl | decide | omega)).trans ((fl_u_ne (by first | exact nc_ rfl | decide | omega)).trans ((fl_u_ne (by first | exact nc_ rfl | decide | omega)).trans ((fl_u_ne (by first | exact nc_ rfl | decide | omega)).trans (fl_u_ne (by first | exact nc_ rfl | decide | omega)))))
    have e99_ : F47_ 1 1 = F5_ 1 1 := (s49_ 1 1 rfl).trans (e98_)
    have e100_ : F66_ 1 1 = F5_ 1 1 := (s68_ 1 1 rfl).trans (e99_)
    have e101_ : F86_ 1 1 = F5_ 1 1 := (s88_ 1 1 rfl).trans (e100_)
    have e102_ : F93_ 1 1 = F5_ 1 1 := (s95_ 1 1 rfl).trans (e101_)
    have b103_ : 0 ≤ F5_ 1 1 ∧ F5_ 1 1 ≤ 600 := gi_g g6_ rfl
    exact ⟨F93_, ⟨rfl, rfl⟩, g94_, g96_, (by obtain ⟨e, c1, c2⟩ := c92_; exact ⟨K, e, ⟨⟨hgK, hcut⟩, by rw [← hlt_]; exact htf⟩, (by simp [sp_prb, sp_open, sp_part, sp_close, pf, pb, c45_, c64_, c84_, c1]), c2⟩), (by omega)⟩
  rintro A1_ ⟨F107_, hA_, g108_, s109_, c105_, c106_⟩
  subst hA_
  have g110_ : fs [(1, 1, 1, 1), (1, 1, 6, 8), (3, 6, 0, 100000), (105, 117, 0, 100000), (119, 119, 2, 3)] F F107_ := fs_tr g89_ s109_ rfl
  have tk111_ : tkh K F107_ := tkh_fs tk90_ s109_ (fs_rg rfl) rfl
  refine gr_v hm_34 rfl rfl ?_
  clear h27_ h28_ f25_ l26_
  refine ga_aload_n (v := .ref 118) hm_125 rfl rfl rfl ?_
  refine ga_getr (b := 1) hm_125 rfl sc_118 rfl ?_
  refine fl_iconst hm_125 rfl ?_
  have b112_ : 0 ≤ F107_ 1 7 ∧ F107_ 1 7 ≤ 600 := gi_g g108_ rfl
  refine gVv (nY := 2) (F := 7) (L := 121) (As := [.int (Int32.ofInt 2)]) (b := 1) (rest := []) hm_125 rfl hm_24 rfl rfl (fl_ob sc_1) rfl rfl rfl rfl rfl (by omega) (by omega) (mc_24 hG F107_ X g108_ (K) (2) hgK tk111_ hko (⟨by omega, by omega⟩) (⟨by omega, by omega⟩)) ?_ ?_
  ·
    rintro j_ A1_ ⟨F114_, ⟨hJ_, hA_⟩, g115_, s116_, c113_⟩
    subst hA_
    subst hJ_
    refine ⟨rfl, ?_⟩
    refine gw_v ?_
    have g117_ : fs [(1, 1, 1, 1), (1, 1, 6, 8), (3, 6, 0, 100000), (105, 117, 0, 100000), (119, 119, 2, 3)] F F114_ := fs_tr g110_ s116_ rfl
    have b118_ : 0 ≤ F114_ 1 8 ∧ F114_ 1 8 ≤ 100000 := gi_g g115_ rfl
    have e119_ : F29_ 1 1 = F5_ 1 1 := by rw [q30_]; exact (fl_u_ne (by first | exact nc_ rfl | decide | omega)).trans ((fl_u_ne (by first | exact nc_ rfl | decide | omega)).trans ((fl_u_ne (by first | exact nc_ rfl | decide | omega)).trans ((fl_u_ne (by first | exact nc_ rfl | decide | omega)).trans (fl_u_ne (by first | exact nc_ rfl | decide | omega)))))
    have e120_ : F47_ 1 1 = F5_ 1 1 := (s49_ 1 1 rfl).trans (e119_)
    have e121_ : F66_ 1 1 = F5_ 1 1 := (s68_ 1 1 rfl).trans (e120_)
    have e122_ : F86_ 1 1 = F5_ 1 1 := (s88_ 1 1 rfl).trans (e121_)
    have e123_ : F107_ 1 1 = F5_ 1 1 := (s109_ 1 1 rfl).trans (e122_)
    have e124_ : F114_ 1 1 = F5_ 1 1 := (s116_ 1 1 rfl).trans (e123_)
    have b125_ : 0 ≤ F5_ 1 1 ∧ F5_ 1 1 ≤ 600 := gi_g g6_ rfl
    exact ⟨F114_, ⟨rfl, rfl⟩, g115_, g117_, (by obtain ⟨e, c1, c2⟩ := c113_; exact ⟨K, e, ⟨⟨hgK, hcut⟩, by rw [← hlt_]; exact htf⟩, (by simp [sp_prb, sp_open, sp_part, sp_close, pf, pb, c45_, c64_, c84_, c105_, c1]), c2⟩), (by omega)⟩
  rintro A1_ ⟨F129_, hA_, g130_, s131_, c127_, c128_⟩
  subst hA_
  have g132_ : fs [(1, 1, 1, 1), (1, 1, 6, 8), (3, 6, 0, 100000), (105, 117, 0, 100000), (119, 119, 2, 3)] F F129_ := fs_tr g110_ s131_ rfl
  have tk133_ : tkh K F129_ := tkh_fs tk111_ s131_ (fs_rg rfl) rfl
  refine ga_aload_n (v := .ref 118) hm_125 rfl rfl rfl ?_
  refine ga_getr (b := 1) hm_125 rfl sc_118 rfl ?_
  refine fl_iconst hm_125 rfl ?_
  have b134_ : 0 ≤ F129_ 1 7 ∧ F129_ 1 7 ≤ 600 := gi_g g130_ rfl
  refine gVv (nY := 2) (F := 7) (L := 121) (As := [.int (Int32.ofInt 1)]) (b := 1) (rest := []) hm_125 rfl hm_24 rfl rfl (fl_ob sc_1) rfl rfl rfl rfl rfl (by omega) (by omega) (mc_24 hG F129_ X g130_ (K) (1) hgK tk133_ hko (⟨by omega, by omega⟩) (⟨by omega, by omega⟩)) ?_ ?_
  ·
    rintro j_ A1_ ⟨F136_, ⟨hJ_, hA_⟩, g137_, s138_, c135_⟩
    subst hA_
    subst hJ_
    refine ⟨rfl, ?_⟩
    refine gw_v ?_
    have g139_ : fs [(1, 1, 1, 1), (1, 1, 6, 8), (3, 6, 0, 100000), (105, 117, 0, 100000), (119, 119, 2, 3)] F F136_ := fs_tr g132_ s138_ rfl
    have b140_ : 0 ≤ F136_ 1 8 ∧ F136_ 1 8 ≤ 100000 := gi_g g137_ rfl
    have e141_ : F29_ 1 1 = F5_ 1 1 := by rw [q30_]; exact (fl_u_ne (by first | exact nc_ rfl | decide | omega)).trans ((fl_u_ne (by first | exact nc_ rfl | decide | omega)).trans ((fl_u_ne (by first | exact nc_ rfl | decide | omega)).trans ((fl_u_ne (by first | exact nc_ rfl | decide | omega)).trans (fl_u_ne (by first | exact nc_ rfl | decide | omega)))))
    have e142_ : F47_ 1 1 = F5_ 1 1 := (s49_ 1 1 rfl).trans (e141_)
    have e143_ : F66_ 1 1 = F5_ 1 1 := (s68_ 1 1 rfl).trans (e142_)
    have e144_ : F86_ 1 1 = F5_ 1 1 := (s88_ 1 1 rfl).trans (e143_)
    have e145_ : F107_ 1 1 = F5_ 1 1 := (s109_ 1 1 rfl).trans (e144_)
    have e146_ : F129_ 1 1 = F5_ 1 1 := (s131_ 1 1 rfl).trans (e145_)
    have e147_ : F136_ 1 1 = F5_ 1 1 := (s138_ 1 1 rfl).trans (e146_)
    have b148_ : 0 ≤ F5_ 1 1 ∧ F5_ 1 1 ≤ 600 := gi_g g6_ rfl
    exact ⟨F136_, ⟨rfl, rfl⟩, g137_, g139_, (by obtain ⟨e, c1, c2⟩ := c135_; exact ⟨K, e, ⟨⟨hgK, hcut⟩, by rw [← hlt_]; exact htf⟩, (by simp [sp_prb, sp_open, sp_part, sp_close, pf, pb, c45_, c64_, c84_, c105_, c127_, c1]), c2⟩), (by omega)⟩
  rintro A1_ ⟨F152_, hA_, g153_, s154_, c150_, c151_⟩
  subst hA_
  have g155_ : fs [(1, 1, 1, 1), (1, 1, 6, 8), (3, 6, 0, 100000), (105, 117, 0, 100000), (119, 119, 2, 3)] F F152_ := fs_tr g132_ s154_ rfl
  have tk156_ : tkh K F152_ := tkh_fs tk133_ s154_ (fs_rg rfl) rfl
  refine ga_aload_n (v := .ref 118) hm_125 rfl rfl rfl ?_
  have b157_ : 0 ≤ F152_ 1 7 ∧ F152_ 1 7 ≤ 600 := gi_g g153_ rfl
  have e158_ : F5_ 7 0 = F 7 0 := (s7_ 7 0 rfl).trans (rfl)
  have e159_ : F29_ 7 0 = F 7 0 := by rw [q30_]; exact (fl_u_ne (by first | exact nc_ rfl | decide | omega)).trans ((fl_u_ne (by first | exact nc_ rfl | decide | omega)).trans ((fl_u_ne (by first | exact nc_ rfl | decide | omega)).trans ((fl_u_ne (by first | exact nc_ rfl | decide | omega)).trans ((fl_u_ne (by first | exact nc_ rfl | decide | omega)).trans (e158_)))))
  have e160_ : F47_ 7 0 = F 7 0 := (s49_ 7 0 rfl).trans (e159_)
  have e161_ : F66_ 7 0 = F 7 0 := (s68_ 7 0 rfl).trans (e160_)
  have e162_ : F86_ 7 0 = F 7 0 := (s88_ 7 0 rfl).trans (e161_)
  have e163_ : F107_ 7 0 = F 7 0 := (s109_ 7 0 rfl).trans (e162_)
  have e164_ : F129_ 7 0 = F 7 0 := (s131_ 7 0 rfl).trans (e163_)
  have e165_ : F152_ 7 0 = F 7 0 := (s154_ 7 0 rfl).trans (e164_)
  refine gVv (nY := 1) (F := 9) (L := 165) (As := []) (b := 118) (rest := []) hm_125 rfl hm_120 rfl rfl (fl_ob sc_118) rfl rfl rfl rfl rfl (by omega) (by omega) (mc_120 hG F152_ X g153_ (K) (nm) hgK tk156_ hko (⟨by omega, by omega⟩) (Eq.trans (e165_) hnm)) ?_ ?_
  ·
    rintro j_ A1_ ⟨F167_, ⟨hJ_, hA_⟩, g168_, s169_, c166_⟩
    subst hA_
    subst hJ_
    refine ⟨rfl, ?_⟩
    refine gw_v ?_
    have g170_ : fs [(1, 1, 1, 1), (1, 1, 6, 8), (3, 6, 0, 100000), (105, 117, 0, 100000), (119, 119, 2, 3)] F F167_ := fs_tr g155_ s169_ rfl
    have b171_ : 0 ≤ F167_ 1 8 ∧ F167_ 1 8 ≤ 100000 := gi_g g168_ rfl
    have e172_ : F29_ 1 1 = F5_ 1 1 := by rw [q30_]; exact (fl_u_ne (by first | exact nc_ rfl | decide | omega)).trans ((fl_u_ne (by first | exact nc_ rfl | decide | omega)).trans ((fl_u_ne (by first | exact nc_ rfl | decide | omega)).trans ((fl_u_ne (by first | exact nc_ rfl | decide | omega)).trans (fl_u_ne (by first | exact nc_ rfl | decide | omega)))))
    have e173_ : F47_ 1 1 = F5_ 1 1 := (s49_ 1 1 rfl).trans (e172_)
    have e174_ : F66_ 1 1 = F5_ 1 1 := (s68_ 1 1 rfl).trans (e173_)
    have e175_ : F86_ 1 1 = F5_ 1 1 := (s88_ 1 1 rfl).trans (e174_)
    have e176_ : F107_ 1 1 = F5_ 1 1 := (s109_ 1 1 rfl).trans (e175_)
    have e177_ : F129_ 1 1 = F5_ 1 1 := (s131_ 1 1 rfl).trans (e176_)
    have e178_ : F152_ 1 1 = F5_ 1 1 := (s154_ 1 1 rfl).trans (e177_)
    have e179_ : F167_ 1 1 = F5_ 1 1 := (s169_ 1 1 rfl).trans (e178_)
    have b180_ : 0 ≤ F5_ 1 1 ∧ F5_ 1 1 ≤ 600 := gi_g g6_ rfl
    exact ⟨F167_, ⟨rfl, rfl⟩, g168_, g170_, (by obtain ⟨e, c1, c2⟩ := c166_; exact ⟨K, e, ⟨⟨hgK, hcut⟩, by rw [← hlt_]; exact htf⟩, (by simp [sp_prb, sp_open, sp_part, sp_close, pf, pb, c45_, c64_, c84_, c105_, c127_, c150_, c1]), c2⟩), (by omega)⟩
  rintro A1_ ⟨F184_, hA_, g185_, s186_, c182_, c183_⟩
  subst hA_
  have g187_ : fs [(1, 1, 1, 1), (1, 1, 6, 8), (3, 6, 0, 100000), (105, 117, 0, 100000), (119, 119, 2, 3)] F F184_ := fs_tr g155_ s186_ rfl
  have tk188_ : tkh K F184_ := tkh_fs tk156_ s186_ (fs_rg rfl) rfl
  refine ga_aload_n (v := .ref 118) hm_125 rfl rfl rfl ?_
  have b189_ : 0 ≤ F184_ 1 7 ∧ F184_ 1 7 ≤ 600 := gi_g g185_ rfl
  have e190_ : F29_ 105 2 = 0 := by rw [q30_]; exact (fl_u_ne (by first | exact nc_ rfl | decide | omega)).trans ((fl_u_ne (by first | exact nc_ rfl | decide | omega)).trans ((fl_u_ne (by first | exact nc_ rfl | decide | omega)).trans ((fl_u_ne (by first | exact nc_ rfl | decide | omega)).trans (fl_u_eq))))
  have e191_ : F47_ 105 2 = 0 := (s49_ 105 2 rfl).trans (e190_)
  have e192_ : F66_ 105 2 = 0 := (s68_ 105 2 rfl).trans (e191_)
  have e193_ : F86_ 105 2 = 0 := (s88_ 105 2 rfl).trans (e192_)
  have e194_ : F107_ 105 2 = 0 := (s109_ 105 2 rfl).trans (e193_)
  have e195_ : F129_ 105 2 = 0 := (s131_ 105 2 rfl).trans (e194_)
  have e196_ : F152_ 105 2 = 0 := (s154_ 105 2 rfl).trans (e195_)
  have e197_ : F184_ 105 2 = 0 := (s186_ 105 2 rfl).trans (e196_)
  refine gVv (nY := 2) (F := 9) (L := 165) (As := []) (b := 118) (rest := []) hm_125 rfl hm_122 rfl rfl (fl_ob sc_118) rfl rfl rfl rfl rfl (by omega) (by omega) (mc_122 hG F184_ X g185_ (K) (ts) hgK tk188_ hko (⟨by omega, by omega⟩) ((rep_fs (rep_fs (rep_fs (rep_fs (rep_fs (rep_fs (rep_fs (by rw [q30_]; exact (rep_u (rep_u (rep_u (rep_u (rep_u (rep_fs hts s7_ (fun _ => (by first | exact fs_c rfl | exact (fs_n (by omega) (fs_n (by omega) (fs_n (by omega) rfl))))) (by first | exact fs_c rfl | exact (fs_n (by omega) (fs_n (by omega) (fs_n (by omega) rfl))))) (by omega) (by omega)) (by omega) (by omega)) (by omega) (by omega)) (by omega) (by omega)) (by omega) (by omega))) s49_ (fun _ => (by first | exact fs_c rfl | exact (fs_n (by omega) rfl))) (by first | exact fs_c rfl | exact (fs_n (by omega) rfl))) s68_ (fun _ => (by first | exact fs_c rfl | exact (fs_n (by omega) rfl))) (by first | exact fs_c rfl | exact (fs_n (by omega) rfl))) s88_ (fun _ => (by first | exact fs_c rfl | exact (fs_n (by omega) rfl))) (by first | exact fs_c rfl | exact (fs_n (by omega) rfl))) s109_ (fun _ => (by first | exact fs_c rfl | exact (fs_n (by omega) rfl))) (by first | exact fs_c rfl | exact (fs_n (by omega) rfl))) s131_ (fun _ => (by first | exact fs_c rfl | exact (fs_n (by omega) rfl))) (by first | exact fs_c rfl | exact (fs_n (by omega) rfl))) s154_ (fun _ => (by first | exact fs_c rfl | exact (fs_n (by omega) rfl))) (by first | exact fs_c rfl | exact (fs_n (by omega) rfl))) s186_ (fun _ => (by first | exact fs_c rfl | exact (fs_n (by omega) rfl))) (by first | exact fs_c rfl | exact (fs_n (by omega) rfl)))) (by omega)) ?_ ?_
  ·
    rintro j_ A1_ ⟨F199_, ⟨hJ_, hA_⟩, g200_, s201_, c198_⟩
    subst hA_
    subst hJ_
    refine ⟨rfl, ?_⟩
    refine gw_v ?_
    have g202_ : fs [(1, 1, 1, 1), (1, 1, 6, 8), (3, 6, 0, 100000), (105, 117, 0, 100000), (119, 119, 2, 3)] F F199_ := fs_tr g187_ s201_ rfl
    have b203_ : 0 ≤ F199_ 1 8 ∧ F199_ 1 8 ≤ 100000 := gi_g g200_ rfl
    have e204_ : F29_ 1 1 = F5_ 1 1 := by rw [q30_]; exact (fl_u_ne (by first | exact nc_ rfl | decide | omega)).trans ((fl_u_ne (by first | exact nc_ rfl | decide | omega)).trans ((fl_u_ne (by first | exact nc_ rfl | decide | omega)).trans ((fl_u_ne (by first | exact nc_ rfl | decide | omega)).trans (fl_u_ne (by first | exact nc_ rfl | decide | omega)))))
    have e205_ : F47_ 1 1 = F5_ 1 1 := (s49_ 1 1 rfl).trans (e204_)
    have e206_ : F66_ 1 1 = F5_ 1 1 := (s68_ 1 1 rfl).trans (e205_)
    have e207_ : F86_ 1 1 = F5_ 1 1 := (s88_ 1 1 rfl).trans (e206_)
    have e208_ : F107_ 1 1 = F5_ 1 1 := (s109_ 1 1 rfl).trans (e207_)
    have e209_ : F129_ 1 1 = F5_ 1 1 := (s131_ 1 1 rfl).trans (e208_)
    have e210_ : F152_ 1 1 = F5_ 1 1 := (s154_ 1 1 rfl).trans (e209_)
    have e211_ : F184_ 1 1 = F5_ 1 1 := (s186_ 1 1 rfl).trans (e210_)
    have e212_ : F199_ 1 1 = F5_ 1 1 := (s201_ 1 1 rfl).trans (e211_)
    have b213_ : 0 ≤ F5_ 1 1 ∧ F5_ 1 1 ≤ 600 := gi_g g6_ rfl
    exact ⟨F199_, ⟨rfl, rfl⟩, g200_, g202_, (by obtain ⟨e, c1, c2⟩ := c198_; exact ⟨K, e, ⟨⟨hgK, hcut⟩, by rw [← hlt_]; exact htf⟩, (by simp [sp_prb, sp_open, sp_part, sp_close, pf, pb, c45_, c64_, c84_, c105_, c127_, c150_, c182_, c1]), c2⟩), (by omega)⟩
  rintro A1_ ⟨F217_, hA_, g218_, s219_, c215_, c216_⟩
  subst hA_
  have g220_ : fs [(1, 1, 1, 1), (1, 1, 6, 8), (3, 6, 0, 100000), (105, 117, 0, 100000), (119, 119, 2, 3)] F F217_ := fs_tr g187_ s219_ rfl
  have tk221_ : tkh K F217_ := tkh_fs tk188_ s219_ (fs_rg rfl) rfl
  obtain ⟨l, tl, co1_, hl, htl⟩ := c215_
  have hl1 := hl.1
  have hb105 : 0 ≤ F217_ 105 2 ∧ F217_ 105 2 ≤ 6 := gi_g g218_ rfl
  refine ga_aload_n (v := .ref 118) hm_125 rfl rfl rfl ?_
  refine ga_getr (b := 119) hm_125 rfl sc_118 rfl ?_
  refine ga_aload_n (v := .ref 118) hm_125 rfl rfl rfl ?_
  refine ga_getr (b := 104) hm_125 rfl sc_118 rfl ?_
  refine ga_getr (b := 105) hm_125 rfl sc_104 rfl ?_
  refine fl_iconst hm_125 rfl ?_
  refine gIv (nY := 3) (F := 0) (L := 0) (As := [.ref 105, .int (Int32.ofInt 2)]) (b := 119) (rest := []) hm_125 rfl hm_95 rfl rfl (fl_ob sc_119) rfl rfl rfl rfl rfl (by omega) (by omega) ?_
  intro f222_ l223_ h224_ h225_
  show fl_R xi_ms 95 f222_ l223_ 0 [(0, .ref 119), (1, .ref 105), (2, .int (Int32.ofInt 2))] [] _ _
  refine ga_aload_n (v := .ref 119) hm_95 rfl rfl rfl ?_
  refine ga_aload_n (v := .ref 105) hm_95 rfl rfl rfl ?_
  refine ga_putr hm_95 rfl sc_119 rfl rfl ?_
  rw [show ((105 : Nat) : Int) = 105 from rfl]
  refine ga_aload_n (v := .ref 119) hm_95 rfl rfl rfl ?_
  refine ga_iload_n (z := 2) hm_95 rfl rfl ?_
  refine ga_puti (z := 2) hm_95 rfl sc_119 rfl rfl ?_
  refine gr_v hm_95 rfl rfl ?_
  clear h224_ h225_ f222_ l223_
  refine ga_aload_n (v := .ref 118) hm_125 rfl rfl rfl ?_
  refine ga_ldcs hm_125 rfl ?_
  refine gIv (nY := 2) (F := 8) (L := 144) (As := [.retAddr 19]) (b := 118) (rest := []) hm_125 rfl hm_118 rfl rfl (fl_ob sc_118) rfl rfl rfl rfl rfl (by omega) (by omega) ?_
  intro f226_ l227_ h228_ h229_
  show fl_R xi_ms 118 f226_ l227_ 0 [(0, .ref 118), (1, .retAddr 19)] [] _ _
  refine ga_aload_n (v := .ref 118) hm_118 rfl rfl rfl ?_
  refine ga_getr (b := 1) hm_118 rfl sc_118 rfl ?_
  refine fl_iconst hm_118 rfl ?_
  obtain ⟨F230_, q231_⟩ : ∃ Fq_, Fq_ = (fl_u (fl_u F217_ 119 2 105) 119 3 2) := ⟨_, rfl⟩
  rw [← q231_]
  have g232_ : gi F230_ := by rw [q231_]; exact gi_u (gi_u (g218_) rfl (by omega) (by omega)) rfl (by omega) (by omega)
  have g233_ : fs [(1, 1, 1, 1), (1, 1, 6, 8), (3, 6, 0, 100000), (105, 117, 0, 100000), (119, 119, 2, 3)] F F230_ := by rw [q231_]; exact fs_u (fs_u (g220_) rfl) rfl
  have tk234_ : tkh K F230_ := by rw [q231_]; exact tkh_u (tkh_u (tk221_) (by first | decide | exact nc_ rfl | omega) (by first | decide | exact nc_ rfl | omega)) (by first | decide | exact nc_ rfl | omega) (by first | decide | exact nc_ rfl | omega)
  have e235_ : F230_ 1 7 = F217_ 1 7 := by rw [q231_]; exact (fl_u_ne (by first | exact nc_ rfl | decide | omega)).trans (fl_u_ne (by first | exact nc_ rfl | decide | omega))
  have b236_ : 0 ≤ F217_ 1 7 ∧ F217_ 1 7 ≤ 600 := gi_g g218_ rfl
  refine gVv (nY := 2) (F := 7) (L := 121) (As := [.int (Int32.ofInt 0)]) (b := 1) (rest := []) hm_118 rfl hm_24 rfl rfl (fl_ob sc_1) rfl rfl rfl rfl rfl (by omega) (by omega) (mc_24 hG F230_ X g232_ (K) (0) hgK tk234_ hko (⟨by omega, by omega⟩) (⟨by omega, by omega⟩)) ?_ ?_
  ·
    rintro j_ A1_ ⟨F238_, ⟨hJ_, hA_⟩, g239_, s240_, c237_⟩
    subst hA_
    subst hJ_
    try simp only [e235_] at c237_
    refine ⟨rfl, ?_⟩
    refine gw_v ⟨rfl, ?_⟩
    refine gw_v ?_
    have g241_ : fs [(1, 1, 1, 1), (1, 1, 6, 8), (3, 6, 0, 100000), (105, 117, 0, 100000), (119, 119, 2, 3)] F F238_ := fs_tr g233_ s240_ rfl
    have b242_ : 0 ≤ F238_ 1 8 ∧ F238_ 1 8 ≤ 100000 := gi_g g239_ rfl
    have e243_ : F29_ 1 1 = F5_ 1 1 := by rw [q30_]; exact (fl_u_ne (by first | exact nc_ rfl | decide | omega)).trans ((fl_u_ne (by first | exact nc_ rfl | decide | omega)).trans ((fl_u_ne (by first | exact nc_ rfl | decide | omega)).trans ((fl_u_ne (by first | exact nc_ rfl | decide | omega)).trans (fl_u_ne (by first | exact nc_ rfl | decide | omega)))))
    have e244_ : F47_ 1 1 = F5_ 1 1 := (s49_ 1 1 rfl).trans (e243_)
    have e245_ : F66_ 1 1 = F5_ 1 1 := (s68_ 1 1 rfl).trans (e244_)
    have e246_ : F86_ 1 1 = F5_ 1 1 := (s88_ 1 1 rfl).trans (e245_)
    have e247_ : F107_ 1 1 = F5_ 1 1 := (s109_ 1 1 rfl).trans (e246_)
    have e248_ : F129_ 1 1 = F5_ 1 1 := (s131_ 1 1 rfl).trans (e247_)
    have e249_ : F152_ 1 1 = F5_ 1 1 := (s154_ 1 1 rfl).trans (e248_)
    have e250_ : F184_ 1 1 = F5_ 1 1 := (s186_ 1 1 rfl).trans (e249_)
    have e251_ : F217_ 1 1 = F5_ 1 1 := (s219_ 1 1 rfl).trans (e250_)
    have e252_ : F230_ 1 1 = F5_ 1 1 := by rw [q231_]; exact (fl_u_ne (by first | exact nc_ rfl | decide | omega)).trans ((fl_u_ne (by first | exact nc_ rfl | decide | omega)).trans (e251_))
    have e253_ : F238_ 1 1 = F5_ 1 1 := (s240_ 1 1 rfl).trans (e252_)
    have b254_ : 0 ≤ F5_ 1 1 ∧ F5_ 1 1 ≤ 600 := gi_g g6_ rfl
    exact ⟨F238_, ⟨rfl, rfl⟩, g239_, g241_, (by obtain ⟨e, c1, c2⟩ := c237_; exact ⟨K, e, ⟨⟨hgK, hcut⟩, by rw [← hlt_]; exact htf⟩, (by simp [sp_prb, sp_open, sp_part, sp_close, pf, pb, c45_, c64_, c84_, c105_, c127_, c150_, c182_, co1_, c1]), c2⟩), (by omega)⟩
  rintro A1_ ⟨F258_, hA_, g259_, s260_, c256_, c257_⟩
  subst hA_
  have g261_ : fs [(1, 1, 1, 1), (1, 1, 6, 8), (3, 6, 0, 100000), (105, 117, 0, 100000), (119, 119, 2, 3)] F F258_ := fs_tr g233_ s260_ rfl
  have tk262_ : tkh K F258_ := tkh_fs tk234_ s260_ (fs_rg rfl) rfl
  try simp only [e235_] at c256_
  refine ga_aload_n (v := .ref 118) hm_118 rfl rfl rfl ?_
  refine ga_getr (b := 1) hm_118 rfl sc_118 rfl ?_
  refine ga_aload_n (v := .retAddr 19) hm_118 rfl rfl rfl ?_
  have b263_ : 0 ≤ F258_ 1 7 ∧ F258_ 1 7 ≤ 600 := gi_g g259_ rfl
  refine gVv (nY := 2) (F := 7) (L := 123) (As := [.retAddr 19]) (b := 1) (rest := []) hm_118 rfl hm_155 rfl rfl (fl_ob sc_1) rfl rfl rfl rfl rfl (by omega) (by omega) (mc_155 hG F258_ X g259_ (K) (19) ([58, 105, 110, 105, 116]) hgK tk262_ hko (⟨by omega, by omega⟩) (rfl) (by decide)) ?_ ?_
  ·
    rintro j_ A1_ ⟨F265_, ⟨hJ_, hA_⟩, g266_, s267_, c264_⟩
    subst hA_
    subst hJ_
    refine ⟨rfl, ?_⟩
    refine gw_v ⟨rfl, ?_⟩
    refine gw_v ?_
    have g268_ : fs [(1, 1, 1, 1), (1, 1, 6, 8), (3, 6, 0, 100000), (105, 117, 0, 100000), (119, 119, 2, 3)] F F265_ := fs_tr g261_ s267_ rfl
    have b269_ : 0 ≤ F265_ 1 8 ∧ F265_ 1 8 ≤ 100000 := gi_g g266_ rfl
    have e270_ : F29_ 1 1 = F5_ 1 1 := by rw [q30_]; exact (fl_u_ne (by first | exact nc_ rfl | decide | omega)).trans ((fl_u_ne (by first | exact nc_ rfl | decide | omega)).trans ((fl_u_ne (by first | exact nc_ rfl | decide | omega)).trans ((fl_u_ne (by first | exact nc_ rfl | decide | omega)).trans (fl_u_ne (by first | exact nc_ rfl | decide | omega)))))
    have e271_ : F47_ 1 1 = F5_ 1 1 := (s49_ 1 1 rfl).trans (e270_)
    have e272_ : F66_ 1 1 = F5_ 1 1 := (s68_ 1 1 rfl).trans (e271_)
    have e273_ : F86_ 1 1 = F5_ 1 1 := (s88_ 1 1 rfl).trans (e272_)
    have e274_ : F107_ 1 1 = F5_ 1 1 := (s109_ 1 1 rfl).trans (e273_)
    have e275_ : F129_ 1 1 = F5_ 1 1 := (s131_ 1 1 rfl).trans (e274_)
    have e276_ : F152_ 1 1 = F5_ 1 1 := (s154_ 1 1 rfl).trans (e275_)
    have e277_ : F184_ 1 1 = F5_ 1 1 := (s186_ 1 1 rfl).trans (e276_)
    have e278_ : F217_ 1 1 = F5_ 1 1 := (s219_ 1 1 rfl).trans (e277_)
    have e279_ : F230_ 1 1 = F5_ 1 1 := by rw [q231_]; exact (fl_u_ne (by first | exact nc_ rfl | decide | omega)).trans ((fl_u_ne (by first | exact nc_ rfl | decide | omega)).trans (e278_))
    have e280_ : F258_ 1 1 = F5_ 1 1 := (s260_ 1 1 rfl).trans (e279_)
    have e281_ : F265_ 1 1 = F5_ 1 1 := (s267_ 1 1 rfl).trans (e280_)
    have b282_ : 0 ≤ F5_ 1 1 ∧ F5_ 1 1 ≤ 600 := gi_g g6_ rfl
    exact ⟨F265_, ⟨rfl, rfl⟩, g266_, g268_, (by obtain ⟨e, c1, c2⟩ := c264_; exact ⟨K, e, ⟨⟨hgK, hcut⟩, by rw [← hlt_]; exact htf⟩, (by simp [sp_prb, sp_open, sp_part, sp_close, pf, pb, c45_, c64_, c84_, c105_, c127_, c150_, c182_, co1_, c256_, c1]), c2⟩), (by omega)⟩
  rintro A1_ ⟨F286_, hA_, g287_, s288_, c284_, c285_⟩
  subst hA_
  have g289_ : fs [(1, 1, 1, 1), (1, 1, 6, 8), (3, 6, 0, 100000), (105, 117, 0, 100000), (119, 119, 2, 3)] F F286_ := fs_tr g261_ s288_ rfl
  have tk290_ : tkh K F286_ := tkh_fs tk262_ s288_ (fs_rg rfl) rfl
  refine gr_v hm_118 rfl rfl ?_
  clear h228_ h229_ f226_ l227_
  refine ga_aload_n (v := .ref 118) hm_125 rfl rfl rfl ?_
  refine ga_getr (b := 119) hm_125 rfl sc_118 rfl ?_
  refine ga_aload_n (v := .ref 118) hm_125 rfl rfl rfl ?_
  refine ga_getr (b := 104) hm_125 rfl sc_118 rfl ?_
  refine ga_getr (b := 108) hm_125 rfl sc_104 rfl ?_
  refine fl_bipush hm_125 rfl rfl ?_
  have b291_ : 0 ≤ F286_ 1 7 ∧ F286_ 1 7 ≤ 600 := gi_g g287_ rfl
  have e292_ : F230_ 119 2 = 105 := by rw [q231_]; exact (fl_u_ne (by first | exact nc_ rfl | decide | omega)).trans (fl_u_eq)
  have e293_ : F258_ 119 2 = 105 := (s260_ 119 2 rfl).trans (e292_)
  have e294_ : F286_ 119 2 = 105 := (s288_ 119 2 rfl).trans (e293_)
  have e295_ : F230_ 119 3 = 2 := by rw [q231_]; exact fl_u_eq
  have e296_ : F258_ 119 3 = 2 := (s260_ 119 3 rfl).trans (e295_)
  have e297_ : F286_ 119 3 = 2 := (s288_ 119 3 rfl).trans (e296_)
  have e298_ : F29_ 108 4 = 0 := by rw [q30_]; exact (fl_u_ne (by first | exact nc_ rfl | decide | omega)).trans ((fl_u_ne (by first | exact nc_ rfl | decide | omega)).trans ((fl_u_ne (by first | exact nc_ rfl | decide | omega)).trans (fl_u_eq)))
  have e299_ : F47_ 108 4 = 0 := (s49_ 108 4 rfl).trans (e298_)
  have e300_ : F66_ 108 4 = 0 := (s68_ 108 4 rfl).trans (e299_)
  have e301_ : F86_ 108 4 = 0 := (s88_ 108 4 rfl).trans (e300_)
  have e302_ : F107_ 108 4 = 0 := (s109_ 108 4 rfl).trans (e301_)
  have e303_ : F129_ 108 4 = 0 := (s131_ 108 4 rfl).trans (e302_)
  have e304_ : F152_ 108 4 = 0 := (s154_ 108 4 rfl).trans (e303_)
  have e305_ : F184_ 108 4 = 0 := (s186_ 108 4 rfl).trans (e304_)
  have e306_ : F217_ 108 4 = 0 := (s219_ 108 4 rfl).trans (e305_)
  have e307_ : F230_ 108 4 = 0 := by rw [q231_]; exact (fl_u_ne (by first | exact nc_ rfl | decide | omega)).trans ((fl_u_ne (by first | exact nc_ rfl | decide | omega)).trans (e306_))
  have e308_ : F258_ 108 4 = 0 := (s260_ 108 4 rfl).trans (e307_)
  have e309_ : F286_ 108 4 = 0 := (s288_ 108 4 rfl).trans (e308_)
  refine gVv (nY := 4) (F := 9) (L := 169) (As := [.ref 108, .int (Int32.ofInt 12)]) (b := 119) (rest := []) hm_125 rfl hm_89 rfl rfl (fl_ob sc_119) rfl rfl rfl rfl rfl (by omega) (by omega) (mc_89 hG F286_ X g287_ (K) (l) (tl) (pl) (ps) (12) hgK tk290_ hko (⟨by omega, by omega⟩) (by omega) (by omega) (by omega) ((rep_fs (rep_fs (by rw [q231_]; exact (rep_u (rep_u hl (by omega) (by omega)) (by omega) (by omega))) s260_ (fun _ => (by first | exact fs_c rfl | exact (fs_n (by omega) rfl))) (by first | exact fs_c rfl | exact (fs_n (by omega) rfl))) s288_ (fun _ => (by first | exact fs_c rfl | exact (fs_n (by omega) rfl))) (by first | exact fs_c rfl | exact (fs_n (by omega) rfl)))) ((rep_fs (rep_fs (by rw [q231_]; exact (rep_u (rep_u htl (by omega) (by omega)) (by omega) (by omega))) s260_ (fun _ => (by first | exact fs_c rfl | exact (fs_n (by omega) rfl))) (by first | exact fs_c rfl | exact (fs_n (by omega) rfl))) s288_ (fun _ => (by first | exact fs_c rfl | exact (fs_n (by omega) rfl))) (by first | exact fs_c rfl | exact (fs_n (by omega) rfl)))) ((rep_fs (rep_fs (by rw [q231_]; exact (rep_u (rep_u (rep_fs (rep_fs (rep_fs (rep_fs (rep_fs (rep_fs (rep_fs (rep_fs (by rw [q30_]; exact (rep_u (rep_u (rep_u (rep_u (rep_u (rep_fs hpl s7_ (fun _ => (by first | exact fs_c rfl | exact (fs_n (by omega) (fs_n (by omega) (fs_n (by omega) rfl))))) (by first | exact fs_c rfl | exact (fs_n (by omega) (fs_n (by omega) (fs_n (by omega) rfl))))) (by omega) (by omega)) (by omega) (by omega)) (by omega) (by omega)) (by omega) (by omega)) (by omega) (by omega))) s49_ (fun _ => (by first | exact fs_c rfl | exact (fs_n (by omega) rfl))) (by first | exact fs_c rfl | exact (fs_n (by omega) rfl))) s68_ (fun _ => (by first | exact fs_c rfl | exact (fs_n (by omega) rfl))) (by first | exact fs_c rfl | exact (fs_n (by omega) rfl))) s88_ (fun _ => (by first | exact fs_c rfl | exact (fs_n (by omega) rfl))) (by first | exact fs_c rfl | exact (fs_n (by omega) rfl))) s109_ (fun _ => (by first | exact fs_c rfl | exact (fs_n (by omega) rfl))) (by first | exact fs_c rfl | exact (fs_n (by omega) rfl))) s131_ (fun _ => (by first | exact fs_c rfl | exact (fs_n (by omega) rfl))) (by first | exact fs_c rfl | exact (fs_n (by omega) rfl))) s154_ (fun _ => (by first | exact fs_c rfl | exact (fs_n (by omega) rfl))) (by first | exact fs_c rfl | exact (fs_n (by omega) rfl))) s186_ (fun _ => (by first | exact fs_c rfl | exact (fs_n (by omega) rfl))) (by first | exact fs_c rfl | exact (fs_n (by omega) rfl))) s219_ (fun _ => (by first | exact fs_c rfl | exact (fs_n (by omega) (fs_n (by omega) rfl)))) (by first | exact fs_c rfl | exact (fs_n (by omega) (fs_n (by omega) rfl)))) (by omega) (by omega)) (by omega) (by omega))) s260_ (fun _ => (by first | exact fs_c rfl | exact (fs_n (by omega) rfl))) (by first | exact fs_c rfl | exact (fs_n (by omega) rfl))) s288_ (fun _ => (by first | exact fs_c rfl | exact (fs_n (by omega) rfl))) (by first | exact fs_c rfl | exact (fs_n (by omega) rfl)))) ((prd_fs (prd_fs (by rw [q231_]; exact (prd_u (prd_u (prd_fs (prd_fs (prd_fs (prd_fs (prd_fs (prd_fs (prd_fs (prd_fs (by rw [q30_]; exact (prd_u (prd_u (prd_u (prd_u (prd_u (prd_fs hps s7_ (fun _ _ _ => (by first | exact fs_c rfl | exact (fs_n (by omega) (fs_n (by omega) (fs_n (by omega) rfl)))))) (by omega)) (by omega)) (by omega)) (by omega)) (by omega))) s49_ (fun _ _ _ => (by first | exact fs_c rfl | exact (fs_n (by omega) rfl)))) s68_ (fun _ _ _ => (by first | exact fs_c rfl | exact (fs_n (by omega) rfl)))) s88_ (fun _ _ _ => (by first | exact fs_c rfl | exact (fs_n (by omega) rfl)))) s109_ (fun _ _ _ => (by first | exact fs_c rfl | exact (fs_n (by omega) rfl)))) s131_ (fun _ _ _ => (by first | exact fs_c rfl | exact (fs_n (by omega) rfl)))) s154_ (fun _ _ _ => (by first | exact fs_c rfl | exact (fs_n (by omega) rfl)))) s186_ (fun _ _ _ => (by first | exact fs_c rfl | exact (fs_n (by omega) rfl)))) s219_ (fun _ _ _ => (by first | exact fs_c rfl | exact (fs_n (by omega) (fs_n (by omega) rfl))))) (by omega)) (by omega))) s260_ (fun _ _ _ => (by first | exact fs_c rfl | exact (fs_n (by omega) rfl)))) s288_ (fun _ _ _ => (by first | exact fs_c rfl | exact (fs_n (by omega) rfl))))) (hpn) (cw_nil (e309_)) (e309_)) ?_ ?_
  ·
    rintro j_ A1_ ⟨F311_, ⟨hJ_, hA_⟩, g312_, s313_, c310_⟩
    subst hA_
    subst hJ_
    refine ⟨rfl, ?_⟩
    refine gw_v ?_
    have g314_ : fs [(1, 1, 1, 1), (1, 1, 6, 8), (3, 6, 0, 100000), (105, 117, 0, 100000), (119, 119, 2, 3)] F F311_ := fs_tr g289_ s313_ rfl
    have b315_ : 0 ≤ F311_ 1 8 ∧ F311_ 1 8 ≤ 100000 := gi_g g312_ rfl
    have e316_ : F29_ 1 1 = F5_ 1 1 := by rw [q30_]; exact (fl_u_ne (by first | exact nc_ rfl | decide | omega)).trans ((fl_u_ne (by first | exact nc_ rfl | decide | omega)).trans ((fl_u_ne (by first | exact nc_ rfl | decide | omega)).trans ((fl_u_ne (by first | exact nc_ rfl | decide | omega)).trans (fl_u_ne (by first | exact nc_ rfl | decide | omega)))))
    have e317_ : F47_ 1 1 = F5_ 1 1 := (s49_ 1 1 rfl).trans (e316_)
    have e318_ : F66_ 1 1 = F5_ 1 1 := (s68_ 1 1 rfl).trans (e317_)
    have e319_ : F86_ 1 1 = F5_ 1 1 := (s88_ 1 1 rfl).trans (e318_)
    have e320_ : F107_ 1 1 = F5_ 1 1 := (s109_ 1 1 rfl).trans (e319_)
    have e321_ : F129_ 1 1 = F5_ 1 1 := (s131_ 1 1 rfl).trans (e320_)
    have e322_ : F152_ 1 1 = F5_ 1 1 := (s154_ 1 1 rfl).trans (e321_)
    have e323_ : F184_ 1 1 = F5_ 1 1 := (s186_ 1 1 rfl).trans (e322_)
    have e324_ : F217_ 1 1 = F5_ 1 1 := (s219_ 1 1 rfl).trans (e323_)
    have e325_ : F230_ 1 1 = F5_ 1 1 := by rw [q231_]; exact (fl_u_ne (by first | exact nc_ rfl | decide | omega)).trans ((fl_u_ne (by first | exact nc_ rfl | decide | omega)).trans (e324_))
    have e326_ : F258_ 1 1 = F5_ 1 1 := (s260_ 1 1 rfl).trans (e325_)
    have e327_ : F286_ 1 1 = F5_ 1 1 := (s288_ 1 1 rfl).trans (e326_)
    have e328_ : F311_ 1 1 = F5_ 1 1 := (s313_ 1 1 rfl).trans (e327_)
    have b329_ : 0 ≤ F5_ 1 1 ∧ F5_ 1 1 ≤ 600 := gi_g g6_ rfl
    exact ⟨F311_, ⟨rfl, rfl⟩, g312_, g314_, (by obtain ⟨e, c1, c2⟩ := c310_; exact ⟨K, e, ⟨⟨hgK, hcut⟩, by rw [← hlt_]; exact htf⟩, (by simp [sp_prb, sp_open, sp_part, sp_close, pf, pb, c45_, c64_, c84_, c105_, c127_, c150_, c182_, co1_, c256_, c284_, c1]), c2⟩), (by omega)⟩
  rintro A1_ ⟨F335_, hA_, g336_, s337_, c331_, c332_, c333_, c334_⟩
  subst hA_
  have g338_ : fs [(1, 1, 1, 1), (1, 1, 6, 8), (3, 6, 0, 100000), (105, 117, 0, 100000), (119, 119, 2, 3)] F F335_ := fs_tr g289_ s337_ rfl
  have tk339_ : tkh K F335_ := tkh_fs tk290_ s337_ (fs_rg rfl) rfl
  refine ga_aload_n (v := .ref 118) hm_125 rfl rfl rfl ?_
  refine ga_getr (b := 1) hm_125 rfl sc_118 rfl ?_
  refine fl_iconst hm_125 rfl ?_
  have b340_ : 0 ≤ F335_ 1 7 ∧ F335_ 1 7 ≤ 600 := gi_g g336_ rfl
  refine gVv (nY := 2) (F := 7) (L := 121) (As := [.int (Int32.ofInt 1)]) (b := 1) (rest := []) hm_125 rfl hm_24 rfl rfl (fl_ob sc_1) rfl rfl rfl rfl rfl (by omega) (by omega) (mc_24 hG F335_ X g336_ (K) (1) hgK tk339_ hko (⟨by omega, by omega⟩) (⟨by omega, by omega⟩)) ?_ ?_
  ·
    rintro j_ A1_ ⟨F342_, ⟨hJ_, hA_⟩, g343_, s344_, c341_⟩
    subst hA_
    subst hJ_
    refine ⟨rfl, ?_⟩
    refine gw_v ?_
    have g345_ : fs [(1, 1, 1, 1), (1, 1, 6, 8), (3, 6, 0, 100000), (105, 117, 0, 100000), (119, 119, 2, 3)] F F342_ := fs_tr g338_ s344_ rfl
    have b346_ : 0 ≤ F342_ 1 8 ∧ F342_ 1 8 ≤ 100000 := gi_g g343_ rfl
    have e347_ : F29_ 1 1 = F5_ 1 1 := by rw [q30_]; exact (fl_u_ne (by first | exact nc_ rfl | decide | omega)).trans ((fl_u_ne (by first | exact nc_ rfl | decide | omega)).trans ((fl_u_ne (by first | exact nc_ rfl | decide | omega)).trans ((fl_u_ne (by first | exact nc_ rfl | decide | omega)).trans (fl_u_ne (by first | exact nc_ rfl | decide | omega)))))
    have e348_ : F47_ 1 1 = F5_ 1 1 := (s49_ 1 1 rfl).trans (e347_)
    have e349_ : F66_ 1 1 = F5_ 1 1 := (s68_ 1 1 rfl).trans (e348_)
    have e350_ : F86_ 1 1 = F5_ 1 1 := (s88_ 1 1 rfl).trans (e349_)
    have e351_ : F107_ 1 1 = F5_ 1 1 := (s109_ 1 1 rfl).trans (e350_)
    have e352_ : F129_ 1 1 = F5_ 1 1 := (s131_ 1 1 rfl).trans (e351_)
    have e353_ : F152_ 1 1 = F5_ 1 1 := (s154_ 1 1 rfl).trans (e352_)
    have e354_ : F184_ 1 1 = F5_ 1 1 := (s186_ 1 1 rfl).trans (e353_)
    have e355_ : F217_ 1 1 = F5_ 1 1 := (s219_ 1 1 rfl).trans (e354_)
    have e356_ : F230_ 1 1 = F5_ 1 1 := by rw [q231_]; exact (fl_u_ne (by first | exact nc_ rfl | decide | omega)).trans ((fl_u_ne (by first | exact nc_ rfl | decide | omega)).trans (e355_))
    have e357_ : F258_ 1 1 = F5_ 1 1 := (s260_ 1 1 rfl).trans (e356_)
    have e358_ : F286_ 1 1 = F5_ 1 1 := (s288_ 1 1 rfl).trans (e357_)
    have e359_ : F335_ 1 1 = F5_ 1 1 := (s337_ 1 1 rfl).trans (e358_)
    have e360_ : F342_ 1 1 = F5_ 1 1 := (s344_ 1 1 rfl).trans (e359_)
    have b361_ : 0 ≤ F5_ 1 1 ∧ F5_ 1 1 ≤ 600 := gi_g g6_ rfl
    exact ⟨F342_, ⟨rfl, rfl⟩, g343_, g345_, (by obtain ⟨e, c1, c2⟩ := c341_; exact ⟨K, e, ⟨⟨hgK, hcut⟩, by rw [← hlt_]; exact htf⟩, (by simp [sp_prb, sp_open, sp_part, sp_close, pf, pb, c45_, c64_, c84_, c105_, c127_, c150_, c182_, co1_, c256_, c284_, c331_, c1]), c2⟩), (by omega)⟩
  rintro A1_ ⟨F365_, hA_, g366_, s367_, c363_, c364_⟩
  subst hA_
  have g368_ : fs [(1, 1, 1, 1), (1, 1, 6, 8), (3, 6, 0, 100000), (105, 117, 0, 100000), (119, 119, 2, 3)] F F365_ := fs_tr g338_ s367_ rfl
  have tk369_ : tkh K F365_ := tkh_fs tk339_ s367_ (fs_rg rfl) rfl
  refine ga_aload_n (v := .ref 118) hm_125 rfl rfl rfl ?_
  refine ga_ldcs hm_125 rfl ?_
  refine gIv (nY := 2) (F := 8) (L := 144) (As := [.retAddr 20]) (b := 118) (rest := []) hm_125 rfl hm_118 rfl rfl (fl_ob sc_118) rfl rfl rfl rfl rfl (by omega) (by omega) ?_
  intro f370_ l371_ h372_ h373_
  show fl_R xi_ms 118 f370_ l371_ 0 [(0, .ref 118), (1, .retAddr 20)] [] _ _
  refine ga_aload_n (v := .ref 118) hm_118 rfl rfl rfl ?_
  refine ga_getr (b := 1) hm_118 rfl sc_118 rfl ?_
  refine fl_iconst hm_118 rfl ?_
  have b374_ : 0 ≤ F365_ 1 7 ∧ F365_ 1 7 ≤ 600 := gi_g g366_ rfl
  refine gVv (nY := 2) (F := 7) (L := 121) (As := [.int (Int32.ofInt 0)]) (b := 1) (rest := []) hm_118 rfl hm_24 rfl rfl (fl_ob sc_1) rfl rfl rfl rfl rfl (by omega) (by omega) (mc_24 hG F365_ X g366_ (K) (0) hgK tk369_ hko (⟨by omega, by omega⟩) (⟨by omega, by omega⟩)) ?_ ?_
  ·
    rintro j_ A1_ ⟨F376_, ⟨hJ_, hA_⟩, g377_, s378_, c375_⟩
    subst hA_
    subst hJ_
    refine ⟨rfl, ?_⟩
    refine gw_v ⟨rfl, ?_⟩
    refine gw_v ?_
    have g379_ : fs [(1, 1, 1, 1), (1, 1, 6, 8), (3, 6, 0, 100000), (105, 117, 0, 100000), (119, 119, 2, 3)] F F376_ := fs_tr g368_ s378_ rfl
    have b380_ : 0 ≤ F376_ 1 8 ∧ F376_ 1 8 ≤ 100000 := gi_g g377_ rfl
    have e381_ : F29_ 1 1 = F5_ 1 1 := by rw [q30_]; exact (fl_u_ne (by first | exact nc_ rfl | decide | omega)).trans ((fl_u_ne (by first | exact nc_ rfl | decide | omega)).trans ((fl_u_ne (by first | exact nc_ rfl | decide | omega)).trans ((fl_u_ne (by first | exact nc_ rfl | decide | omega)).trans (fl_u_ne (by first | exact nc_ rfl | decide | omega)))))
    have e382_ : F47_ 1 1 = F5_ 1 1 := (s49_ 1 1 rfl).trans (e381_)
    have e383_ : F66_ 1 1 = F5_ 1 1 := (s68_ 1 1 rfl).trans (e382_)
    have e384_ : F86_ 1 1 = F5_ 1 1 := (s88_ 1 1 rfl).trans (e383_)
    have e385_ : F107_ 1 1 = F5_ 1 1 := (s109_ 1 1 rfl).trans (e384_)
    have e386_ : F129_ 1 1 = F5_ 1 1 := (s131_ 1 1 rfl).trans (e385_)
    have e387_ : F152_ 1 1 = F5_ 1 1 := (s154_ 1 1 rfl).trans (e386_)
    have e388_ : F184_ 1 1 = F5_ 1 1 := (s186_ 1 1 rfl).trans (e387_)
    have e389_ : F217_ 1 1 = F5_ 1 1 := (s219_ 1 1 rfl).trans (e388_)
    have e390_ : F230_ 1 1 = F5_ 1 1 := by rw [q231_]; exact (fl_u_ne (by first | exact nc_ rfl | decide | omega)).trans ((fl_u_ne (by first | exact nc_ rfl | decide | omega)).trans (e389_))
    have e391_ : F258_ 1 1 = F5_ 1 1 := (s260_ 1 1 rfl).trans (e390_)
    have e392_ : F286_ 1 1 = F5_ 1 1 := (s288_ 1 1 rfl).trans (e391_)
    have e393_ : F335_ 1 1 = F5_ 1 1 := (s337_ 1 1 rfl).trans (e392_)
    have e394_ : F365_ 1 1 = F5_ 1 1 := (s367_ 1 1 rfl).trans (e393_)
    have e395_ : F376_ 1 1 = F5_ 1 1 := (s378_ 1 1 rfl).trans (e394_)
    have b396_ : 0 ≤ F5_ 1 1 ∧ F5_ 1 1 ≤ 600 := gi_g g6_ rfl
    exact ⟨F376_, ⟨rfl, rfl⟩, g377_, g379_, (by obtain ⟨e, c1, c2⟩ := c375_; exact ⟨K, e, ⟨⟨hgK, hcut⟩, by rw [← hlt_]; exact htf⟩, (by simp [sp_prb, sp_open, sp_part, sp_close, pf, pb, c45_, c64_, c84_, c105_, c127_, c150_, c182_, co1_, c256_, c284_, c331_, c363_, c1]), c2⟩), (by omega)⟩
  rintro A1_ ⟨F400_, hA_, g401_, s402_, c398_, c399_⟩
  subst hA_
  have g403_ : fs [(1, 1, 1, 1), (1, 1, 6, 8), (3, 6, 0, 100000), (105, 117, 0, 100000), (119, 119, 2, 3)] F F400_ := fs_tr g368_ s402_ rfl
  have tk404_ : tkh K F400_ := tkh_fs tk369_ s402_ (fs_rg rfl) rfl
  refine ga_aload_n (v := .ref 118) hm_118 rfl rfl rfl ?_
  refine ga_getr (b := 1) hm_118 rfl sc_118 rfl ?_
  refine ga_aload_n (v := .retAddr 20) hm_118 rfl rfl rfl ?_
  have b405_ : 0 ≤ F400_ 1 7 ∧ F400_ 1 7 ≤ 600 := gi_g g401_ rfl
  refine gVv (nY := 2) (F := 7) (L := 123) (As := [.retAddr 20]) (b := 1) (rest := []) hm_118 rfl hm_155 rfl rfl (fl_ob sc_1) rfl rfl rfl rfl rfl (by omega) (by omega) (mc_155 hG F400_ X g401_ (K) (20) ([58, 103, 111, 97, 108]) hgK tk404_ hko (⟨by omega, by omega⟩) (rfl) (by decide)) ?_ ?_
  ·
    rintro j_ A1_ ⟨F407_, ⟨hJ_, hA_⟩, g408_, s409_, c406_⟩
    subst hA_
    subst hJ_
    refine ⟨rfl, ?_⟩
    refine gw_v ⟨rfl, ?_⟩
    refine gw_v ?_
    have g410_ : fs [(1, 1, 1, 1), (1, 1, 6, 8), (3, 6, 0, 100000), (105, 117, 0, 100000), (119, 119, 2, 3)] F F407_ := fs_tr g403_ s409_ rfl
    have b411_ : 0 ≤ F407_ 1 8 ∧ F407_ 1 8 ≤ 100000 := gi_g g408_ rfl
    have e412_ : F29_ 1 1 = F5_ 1 1 := by rw [q30_]; exact (fl_u_ne (by first | exact nc_ rfl | decide | omega)).trans ((fl_u_ne (by first | exact nc_ rfl | decide | omega)).trans ((fl_u_ne (by first | exact nc_ rfl | decide | omega)).trans ((fl_u_ne (by first | exact nc_ rfl | decide | omega)).trans (fl_u_ne (by first | exact nc_ rfl | decide | omega)))))
    have e413_ : F47_ 1 1 = F5_ 1 1 := (s49_ 1 1 rfl).trans (e412_)
    have e414_ : F66_ 1 1 = F5_ 1 1 := (s68_ 1 1 rfl).trans (e413_)
    have e415_ : F86_ 1 1 = F5_ 1 1 := (s88_ 1 1 rfl).trans (e414_)
    have e416_ : F107_ 1 1 = F5_ 1 1 := (s109_ 1 1 rfl).trans (e415_)
    have e417_ : F129_ 1 1 = F5_ 1 1 := (s131_ 1 1 rfl).trans (e416_)
    have e418_ : F152_ 1 1 = F5_ 1 1 := (s154_ 1 1 rfl).trans (e417_)
    have e419_ : F184_ 1 1 = F5_ 1 1 := (s186_ 1 1 rfl).trans (e418_)
    have e420_ : F217_ 1 1 = F5_ 1 1 := (s219_ 1 1 rfl).trans (e419_)
    have e421_ : F230_ 1 1 = F5_ 1 1 := by rw [q231_]; exact (fl_u_ne (by first | exact nc_ rfl | decide | omega)).trans ((fl_u_ne (by first | exact nc_ rfl | decide | omega)).trans (e420_))
    have e422_ : F258_ 1 1 = F5_ 1 1 := (s260_ 1 1 rfl).trans (e421_)
    have e423_ : F286_ 1 1 = F5_ 1 1 := (s288_ 1 1 rfl).trans (e422_)
    have e424_ : F335_ 1 1 = F5_ 1 1 := (s337_ 1 1 rfl).trans (e423_)
    have e425_ : F365_ 1 1 = F5_ 1 1 := (s367_ 1 1 rfl).trans (e424_)
    have e426_ : F400_ 1 1 = F5_ 1 1 := (s402_ 1 1 rfl).trans (e425_)
    have e427_ : F407_ 1 1 = F5_ 1 1 := (s409_ 1 1 rfl).trans (e426_)
    have b428_ : 0 ≤ F5_ 1 1 ∧ F5_ 1 1 ≤ 600 := gi_g g6_ rfl
    exact ⟨F407_, ⟨rfl, rfl⟩, g408_, g410_, (by obtain ⟨e, c1, c2⟩ := c406_; exact ⟨K, e, ⟨⟨hgK, hcut⟩, by rw [← hlt_]; exact htf⟩, (by simp [sp_prb, sp_open, sp_part, sp_close, pf, pb, c45_, c64_, c84_, c105_, c127_, c150_, c182_, co1_, c256_, c284_, c331_, c363_, c398_, c1]), c2⟩), (by omega)⟩
  rintro A1_ ⟨F432_, hA_, g433_, s434_, c430_, c431_⟩
  subst hA_
  have g435_ : fs [(1, 1, 1, 1), (1, 1, 6, 8), (3, 6, 0, 100000), (105, 117, 0, 100000), (119, 119, 2, 3)] F F432_ := fs_tr g403_ s434_ rfl
  have tk436_ : tkh K F432_ := tkh_fs tk404_ s434_ (fs_rg rfl) rfl
  refine gr_v hm_118 rfl rfl ?_
  clear h372_ h373_ f370_ l371_
  refine ga_aload_n (v := .ref 118) hm_125 rfl rfl rfl ?_
  refine ga_getr (b := 119) hm_125 rfl sc_118 rfl ?_
  refine ga_aload_n (v := .ref 118) hm_125 rfl rfl rfl ?_
  refine ga_getr (b := 104) hm_125 rfl sc_118 rfl ?_
  refine ga_getr (b := 113) hm_125 rfl sc_104 rfl ?_
  refine fl_iconst hm_125 rfl ?_
  have b437_ : 0 ≤ F432_ 1 7 ∧ F432_ 1 7 ≤ 600 := gi_g g433_ rfl
  have e438_ : F335_ 119 2 = 105 := (s337_ 119 2 rfl).trans (e294_)
  have e439_ : F365_ 119 2 = 105 := (s367_ 119 2 rfl).trans (e438_)
  have e440_ : F400_ 119 2 = 105 := (s402_ 119 2 rfl).trans (e439_)
  have e441_ : F432_ 119 2 = 105 := (s434_ 119 2 rfl).trans (e440_)
  have e442_ : F335_ 119 3 = 2 := (s337_ 119 3 rfl).trans (e297_)
  have e443_ : F365_ 119 3 = 2 := (s367_ 119 3 rfl).trans (e442_)
  have e444_ : F400_ 119 3 = 2 := (s402_ 119 3 rfl).trans (e443_)
  have e445_ : F432_ 119 3 = 2 := (s434_ 119 3 rfl).trans (e444_)
  refine gVv (nY := 4) (F := 10) (L := 192) (As := [.ref 113, .int (Int32.ofInt 0)]) (b := 119) (rest := []) hm_125 rfl hm_90 rfl rfl (fl_ob sc_119) rfl rfl rfl rfl rfl (by omega) (by omega) (mc_90 hG F432_ X g433_ (K) (105) (6) (113) (4) (5) (-1) (2) (l) (tl) (pl) (ps) (false) (0) hgK tk436_ hko (⟨by omega, by omega⟩) nm_105 (by omega) (by omega) ((rep_fs (rep_fs (rep_fs (rep_fs (rep_fs (rep_fs (by rw [q231_]; exact (rep_u (rep_u hl (by omega) (by omega)) (by omega) (by omega))) s260_ (fun _ => (by first | exact fs_c rfl | exact (fs_n (by omega) rfl))) (by first | exact fs_c rfl | exact (fs_n (by omega) rfl))) s288_ (fun _ => (by first | exact fs_c rfl | exact (fs_n (by omega) rfl))) (by first | exact fs_c rfl | exact (fs_n (by omega) rfl))) s337_ (fun _ => (by first | exact fs_c rfl | exact (fs_n (by omega) (fs_n (by omega) (fs_n (by omega) rfl))))) (by first | exact fs_c rfl | exact (fs_n (by omega) (fs_n (by omega) (fs_n (by omega) rfl))))) s367_ (fun _ => (by first | exact fs_c rfl | exact (fs_n (by omega) rfl))) (by first | exact fs_c rfl | exact (fs_n (by omega) rfl))) s402_ (fun _ => (by first | exact fs_c rfl | exact (fs_n (by omega) rfl))) (by first | exact fs_c rfl | exact (fs_n (by omega) rfl))) s434_ (fun _ => (by first | exact fs_c rfl | exact (fs_n (by omega) rfl))) (by first | exact fs_c rfl | exact (fs_n (by omega) rfl)))) ((rep_fs (rep_fs (rep_fs (rep_fs (rep_fs (rep_fs (by rw [q231_]; exact (rep_u (rep_u htl (by omega) (by omega)) (by omega) (by omega))) s260_ (fun _ => (by first | exact fs_c rfl | exact (fs_n (by omega) rfl))) (by first | exact fs_c rfl | exact (fs_n (by omega) rfl))) s288_ (fun _ => (by first | exact fs_c rfl | exact (fs_n (by omega) rfl))) (by first | exact fs_c rfl | exact (fs_n (by omega) rfl))) s337_ (fun _ => (by first | exact fs_c rfl | exact (fs_n (by omega) (fs_n (by omega) (fs_n (by omega) rfl))))) (by first | exact fs_c rfl | exact (fs_n (by omega) (fs_n (by omega) (fs_n (by omega) rfl))))) s367_ (fun _ => (by first | exact fs_c rfl | exact (fs_n (by omega) rfl))) (by first | exact fs_c rfl | exact (fs_n (by omega) rfl))) s402_ (fun _ => (by first | exact fs_c rfl | exact (fs_n (by omega) rfl))) (by first | exact fs_c rfl | exact (fs_n (by omega) rfl))) s434_ (fun _ => (by first | exact fs_c rfl | exact (fs_n (by omega) rfl))) (by first | exact fs_c rfl | exact (fs_n (by omega) rfl)))) (⟨by omega, by omega⟩) cl_113 (by omega) (by omega) ((rep_fs (rep_fs (rep_fs (rep_fs (rep_fs (rep_fs (by rw [q231_]; exact (rep_u (rep_u (rep_fs (rep_fs (rep_fs (rep_fs (rep_fs (rep_fs (rep_fs (rep_fs (by rw [q30_]; exact (rep_u (rep_u (rep_u (rep_u (rep_u (rep_fs hpl s7_ (fun _ => (by first | exact fs_c rfl | exact (fs_n (by omega) (fs_n (by omega) (fs_n (by omega) rfl))))) (by first | exact fs_c rfl | exact (fs_n (by omega) (fs_n (by omega) (fs_n (by omega) rfl))))) (by omega) (by omega)) (by omega) (by omega)) (by omega) (by omega)) (by omega) (by omega)) (by omega) (by omega))) s49_ (fun _ => (by first | exact fs_c rfl | exact (fs_n (by omega) rfl))) (by first | exact fs_c rfl | exact (fs_n (by omega) rfl))) s68_ (fun _ => (by first | exact fs_c rfl | exact (fs_n (by omega) rfl))) (by first | exact fs_c rfl | exact (fs_n (by omega) rfl))) s88_ (fun _ => (by first | exact fs_c rfl | exact (fs_n (by omega) rfl))) (by first | exact fs_c rfl | exact (fs_n (by omega) rfl))) s109_ (fun _ => (by first | exact fs_c rfl | exact (fs_n (by omega) rfl))) (by first | exact fs_c rfl | exact (fs_n (by omega) rfl))) s131_ (fun _ => (by first | exact fs_c rfl | exact (fs_n (by omega) rfl))) (by first | exact fs_c rfl | exact (fs_n (by omega) rfl))) s154_ (fun _ => (by first | exact fs_c rfl | exact (fs_n (by omega) rfl))) (by first | exact fs_c rfl | exact (fs_n (by omega) rfl))) s186_ (fun _ => (by first | exact fs_c rfl | exact (fs_n (by omega) rfl))) (by first | exact fs_c rfl | exact (fs_n (by omega) rfl))) s219_ (fun _ => (by first | exact fs_c rfl | exact (fs_n (by omega) (fs_n (by omega) rfl)))) (by first | exact fs_c rfl | exact (fs_n (by omega) (fs_n (by omega) rfl)))) (by omega) (by omega)) (by omega) (by omega))) s260_ (fun _ => (by first | exact fs_c rfl | exact (fs_n (by omega) rfl))) (by first | exact fs_c rfl | exact (fs_n (by omega) rfl))) s288_ (fun _ => (by first | exact fs_c rfl | exact (fs_n (by omega) rfl))) (by first | exact fs_c rfl | exact (fs_n (by omega) rfl))) s337_ (fun _ => (by first | exact fs_c rfl | exact (fs_n (by omega) (fs_n (by omega) (fs_n (by omega) rfl))))) (by first | exact fs_c rfl | exact (fs_n (by omega) (fs_n (by omega) (fs_n (by omega) rfl))))) s367_ (fun _ => (by first | exact fs_c rfl | exact (fs_n (by omega) rfl))) (by first | exact fs_c rfl | exact (fs_n (by omega) rfl))) s402_ (fun _ => (by first | exact fs_c rfl | exact (fs_n (by omega) rfl))) (by first | exact fs_c rfl | exact (fs_n (by omega) rfl))) s434_ (fun _ => (by first | exact fs_c rfl | exact (fs_n (by omega) rfl))) (by first | exact fs_c rfl | exact (fs_n (by omega) rfl)))) ((prd_fs (prd_fs (prd_fs (prd_fs (prd_fs (prd_fs (by rw [q231_]; exact (prd_u (prd_u (prd_fs (prd_fs (prd_fs (prd_fs (prd_fs (prd_fs (prd_fs (prd_fs (by rw [q30_]; exact (prd_u (prd_u (prd_u (prd_u (prd_u (prd_fs hps s7_ (fun _ _ _ => (by first | exact fs_c rfl | exact (fs_n (by omega) (fs_n (by omega) (fs_n (by omega) rfl)))))) (by omega)) (by omega)) (by omega)) (by omega)) (by omega))) s49_ (fun _ _ _ => (by first | exact fs_c rfl | exact (fs_n (by omega) rfl)))) s68_ (fun _ _ _ => (by first | exact fs_c rfl | exact (fs_n (by omega) rfl)))) s88_ (fun _ _ _ => (by first | exact fs_c rfl | exact (fs_n (by omega) rfl)))) s109_ (fun _ _ _ => (by first | exact fs_c rfl | exact (fs_n (by omega) rfl)))) s131_ (fun _ _ _ => (by first | exact fs_c rfl | exact (fs_n (by omega) rfl)))) s154_ (fun _ _ _ => (by first | exact fs_c rfl | exact (fs_n (by omega) rfl)))) s186_ (fun _ _ _ => (by first | exact fs_c rfl | exact (fs_n (by omega) rfl)))) s219_ (fun _ _ _ => (by first | exact fs_c rfl | exact (fs_n (by omega) (fs_n (by omega) rfl))))) (by omega)) (by omega))) s260_ (fun _ _ _ => (by first | exact fs_c rfl | exact (fs_n (by omega) rfl)))) s288_ (fun _ _ _ => (by first | exact fs_c rfl | exact (fs_n (by omega) rfl)))) s337_ (fun _ _ _ => (by first | exact fs_c rfl | exact (fs_n (by omega) (fs_n (by omega) (fs_n (by omega) rfl)))))) s367_ (fun _ _ _ => (by first | exact fs_c rfl | exact (fs_n (by omega) rfl)))) s402_ (fun _ _ _ => (by first | exact fs_c rfl | exact (fs_n (by omega) rfl)))) s434_ (fun _ _ _ => (by first | exact fs_c rfl | exact (fs_n (by omega) rfl))))) (hpn) (by simp) (fun _ => rfl) (by decide)) ?_ ?_
  ·
    rintro j_ A1_ ⟨F447_, ⟨hJ_, hA_⟩, g448_, s449_, c446_⟩
    subst hA_
    subst hJ_
    refine ⟨rfl, ?_⟩
    refine gw_v ?_
    have g450_ : fs [(1, 1, 1, 1), (1, 1, 6, 8), (3, 6, 0, 100000), (105, 117, 0, 100000), (119, 119, 2, 3)] F F447_ := fs_tr g435_ s449_ rfl
    have b451_ : 0 ≤ F447_ 1 8 ∧ F447_ 1 8 ≤ 100000 := gi_g g448_ rfl
    have e452_ : F29_ 1 1 = F5_ 1 1 := by rw [q30_]; exact (fl_u_ne (by first | exact nc_ rfl | decide | omega)).trans ((fl_u_ne (by first | exact nc_ rfl | decide | omega)).trans ((fl_u_ne (by first | exact nc_ rfl | decide | omega)).trans ((fl_u_ne (by first | exact nc_ rfl | decide | omega)).trans (fl_u_ne (by first | exact nc_ rfl | decide | omega)))))
    have e453_ : F47_ 1 1 = F5_ 1 1 := (s49_ 1 1 rfl).trans (e452_)
    have e454_ : F66_ 1 1 = F5_ 1 1 := (s68_ 1 1 rfl).trans (e453_)
    have e455_ : F86_ 1 1 = F5_ 1 1 := (s88_ 1 1 rfl).trans (e454_)
    have e456_ : F107_ 1 1 = F5_ 1 1 := (s109_ 1 1 rfl).trans (e455_)
    have e457_ : F129_ 1 1 = F5_ 1 1 := (s131_ 1 1 rfl).trans (e456_)
    have e458_ : F152_ 1 1 = F5_ 1 1 := (s154_ 1 1 rfl).trans (e457_)
    have e459_ : F184_ 1 1 = F5_ 1 1 := (s186_ 1 1 rfl).trans (e458_)
    have e460_ : F217_ 1 1 = F5_ 1 1 := (s219_ 1 1 rfl).trans (e459_)
    have e461_ : F230_ 1 1 = F5_ 1 1 := by rw [q231_]; exact (fl_u_ne (by first | exact nc_ rfl | decide | omega)).trans ((fl_u_ne (by first | exact nc_ rfl | decide | omega)).trans (e460_))
    have e462_ : F258_ 1 1 = F5_ 1 1 := (s260_ 1 1 rfl).trans (e461_)
    have e463_ : F286_ 1 1 = F5_ 1 1 := (s288_ 1 1 rfl).trans (e462_)
    have e464_ : F335_ 1 1 = F5_ 1 1 := (s337_ 1 1 rfl).trans (e463_)
    have e465_ : F365_ 1 1 = F5_ 1 1 := (s367_ 1 1 rfl).trans (e464_)
    have e466_ : F400_ 1 1 = F5_ 1 1 := (s402_ 1 1 rfl).trans (e465_)
    have e467_ : F432_ 1 1 = F5_ 1 1 := (s434_ 1 1 rfl).trans (e466_)
    have e468_ : F447_ 1 1 = F5_ 1 1 := (s449_ 1 1 rfl).trans (e467_)
    have b469_ : 0 ≤ F5_ 1 1 ∧ F5_ 1 1 ≤ 600 := gi_g g6_ rfl
    exact ⟨F447_, ⟨rfl, rfl⟩, g448_, g450_, (by obtain ⟨e, c1, c2⟩ := c446_; exact ⟨K, e, ⟨⟨hgK, hcut⟩, by rw [← hlt_]; exact htf⟩, (by simp [sp_prb, sp_open, sp_part, sp_close, pf, pb, c45_, c64_, c84_, c105_, c127_, c150_, c182_, co1_, c256_, c284_, c331_, c363_, c398_, c430_, c1]), c2⟩), (by omega)⟩
  rintro A1_ ⟨F475_, hA_, g476_, s477_, c471_, c472_, c473_, c474_⟩
  subst hA_
  have g478_ : fs [(1, 1, 1, 1), (1, 1, 6, 8), (3, 6, 0, 100000), (105, 117, 0, 100000), (119, 119, 2, 3)] F F475_ := fs_tr g435_ s477_ rfl
  have tk479_ : tkh K F475_ := tkh_fs tk436_ s477_ (fs_rg rfl) rfl
  refine ga_aload_n (v := .ref 118) hm_125 rfl rfl rfl ?_
  refine ga_getr (b := 1) hm_125 rfl sc_118 rfl ?_
  refine fl_iconst hm_125 rfl ?_
  have b480_ : 0 ≤ F475_ 1 7 ∧ F475_ 1 7 ≤ 600 := gi_g g476_ rfl
  refine gVv (nY := 2) (F := 7) (L := 121) (As := [.int (Int32.ofInt 1)]) (b := 1) (rest := []) hm_125 rfl hm_24 rfl rfl (fl_ob sc_1) rfl rfl rfl rfl rfl (by omega) (by omega) (mc_24 hG F475_ X g476_ (K) (1) hgK tk479_ hko (⟨by omega, by omega⟩) (⟨by omega, by omega⟩)) ?_ ?_
  ·
    rintro j_ A1_ ⟨F482_, ⟨hJ_, hA_⟩, g483_, s484_, c481_⟩
    subst hA_
    subst hJ_
    refine ⟨rfl, ?_⟩
    refine gw_v ?_
    have g485_ : fs [(1, 1, 1, 1), (1, 1, 6, 8), (3, 6, 0, 100000), (105, 117, 0, 100000), (119, 119, 2, 3)] F F482_ := fs_tr g478_ s484_ rfl
    have b486_ : 0 ≤ F482_ 1 8 ∧ F482_ 1 8 ≤ 100000 := gi_g g483_ rfl
    have e487_ : F29_ 1 1 = F5_ 1 1 := by rw [q30_]; exact (fl_u_ne (by first | exact nc_ rfl | decide | omega)).trans ((fl_u_ne (by first | exact nc_ rfl | decide | omega)).trans ((fl_u_ne (by first | exact nc_ rfl | decide | omega)).trans ((fl_u_ne (by first | exact nc_ rfl | decide | omega)).trans (fl_u_ne (by first | exact nc_ rfl | decide | omega)))))
    have e488_ : F47_ 1 1 = F5_ 1 1 := (s49_ 1 1 rfl).trans (e487_)
    have e489_ : F66_ 1 1 = F5_ 1 1 := (s68_ 1 1 rfl).trans (e488_)
    have e490_ : F86_ 1 1 = F5_ 1 1 := (s88_ 1 1 rfl).trans (e489_)
    have e491_ : F107_ 1 1 = F5_ 1 1 := (s109_ 1 1 rfl).trans (e490_)
    have e492_ : F129_ 1 1 = F5_ 1 1 := (s131_ 1 1 rfl).trans (e491_)
    have e493_ : F152_ 1 1 = F5_ 1 1 := (s154_ 1 1 rfl).trans (e492_)
    have e494_ : F184_ 1 1 = F5_ 1 1 := (s186_ 1 1 rfl).trans (e493_)
    have e495_ : F217_ 1 1 = F5_ 1 1 := (s219_ 1 1 rfl).trans (e494_)
    have e496_ : F230_ 1 1 = F5_ 1 1 := by rw [q231_]; exact (fl_u_ne (by first | exact nc_ rfl | decide | omega)).trans ((fl_u_ne (by first | exact nc_ rfl | decide | omega)).trans (e495_))
    have e497_ : F258_ 1 1 = F5_ 1 1 := (s260_ 1 1 rfl).trans (e496_)
    have e498_ : F286_ 1 1 = F5_ 1 1 := (s288_ 1 1 rfl).trans (e497_)
    have e499_ : F335_ 1 1 = F5_ 1 1 := (s337_ 1 1 rfl).trans (e498_)
    have e500_ : F365_ 1 1 = F5_ 1 1 := (s367_ 1 1 rfl).trans (e499_)
    have e501_ : F400_ 1 1 = F5_ 1 1 := (s402_ 1 1 rfl).trans (e500_)
    have e502_ : F432_ 1 1 = F5_ 1 1 := (s434_ 1 1 rfl).trans (e501_)
    have e503_ : F475_ 1 1 = F5_ 1 1 := (s477_ 1 1 rfl).trans (e502_)
    have e504_ : F482_ 1 1 = F5_ 1 1 := (s484_ 1 1 rfl).trans (e503_)
    have b505_ : 0 ≤ F5_ 1 1 ∧ F5_ 1 1 ≤ 600 := gi_g g6_ rfl
    exact ⟨F482_, ⟨rfl, rfl⟩, g483_, g485_, (by obtain ⟨e, c1, c2⟩ := c481_; exact ⟨K, e, ⟨⟨hgK, hcut⟩, by rw [← hlt_]; exact htf⟩, (by simp [sp_prb, sp_open, sp_part, sp_close, pf, pb, c45_, c64_, c84_, c105_, c127_, c150_, c182_, co1_, c256_, c284_, c331_, c363_, c398_, c430_, c471_, c1]), c2⟩), (by omega)⟩
  rintro A1_ ⟨F509_, hA_, g510_, s511_, c507_, c508_⟩
  subst hA_
  have g512_ : fs [(1, 1, 1, 1), (1, 1, 6, 8), (3, 6, 0, 100000), (105, 117, 0, 100000), (119, 119, 2, 3)] F F509_ := fs_tr g478_ s511_ rfl
  have tk513_ : tkh K F509_ := tkh_fs tk479_ s511_ (fs_rg rfl) rfl
  refine ga_aload_n (v := .ref 118) hm_125 rfl rfl rfl ?_
  refine gIv (nY := 1) (F := 8) (L := 142) (As := []) (b := 118) (rest := []) hm_125 rfl hm_117 rfl rfl (fl_ob sc_118) rfl rfl rfl rfl rfl (by omega) (by omega) ?_
  intro f514_ l515_ h516_ h517_
  show fl_R xi_ms 117 f514_ l515_ 0 [(0, .ref 118)] [] _ _
  refine ga_aload_n (v := .ref 118) hm_117 rfl rfl rfl ?_
  refine ga_getr (b := 1) hm_117 rfl sc_118 rfl ?_
  refine fl_iconst hm_117 rfl ?_
  have b518_ : 0 ≤ F509_ 1 7 ∧ F509_ 1 7 ≤ 600 := gi_g g510_ rfl
  refine gVv (nY := 2) (F := 7) (L := 121) (As := [.int (Int32.ofInt 1)]) (b := 1) (rest := []) hm_117 rfl hm_24 rfl rfl (fl_ob sc_1) rfl rfl rfl rfl rfl (by omega) (by omega) (mc_24 hG F509_ X g510_ (K) (1) hgK tk513_ hko (⟨by omega, by omega⟩) (⟨by omega, by omega⟩)) ?_ ?_
  ·
    rintro j_ A1_ ⟨F520_, ⟨hJ_, hA_⟩, g521_, s522_, c519_⟩
    subst hA_
    subst hJ_
    refine ⟨rfl, ?_⟩
    refine gw_v ⟨rfl, ?_⟩
    refine gw_v ?_
    have g523_ : fs [(1, 1, 1, 1), (1, 1, 6, 8), (3, 6, 0, 100000), (105, 117, 0, 100000), (119, 119, 2, 3)] F F520_ := fs_tr g512_ s522_ rfl
    have b524_ : 0 ≤ F520_ 1 8 ∧ F520_ 1 8 ≤ 100000 := gi_g g521_ rfl
    have e525_ : F29_ 1 1 = F5_ 1 1 := by rw [q30_]; exact (fl_u_ne (by first | exact nc_ rfl | decide | omega)).trans ((fl_u_ne (by first | exact nc_ rfl | decide | omega)).trans ((fl_u_ne (by first | exact nc_ rfl | decide | omega)).trans ((fl_u_ne (by first | exact nc_ rfl | decide | omega)).trans (fl_u_ne (by first | exact nc_ rfl | decide | omega)))))
    have e526_ : F47_ 1 1 = F5_ 1 1 := (s49_ 1 1 rfl).trans (e525_)
    have e527_ : F66_ 1 1 = F5_ 1 1 := (s68_ 1 1 rfl).trans (e526_)
    have e528_ : F86_ 1 1 = F5_ 1 1 := (s88_ 1 1 rfl).trans (e527_)
    have e529_ : F107_ 1 1 = F5_ 1 1 := (s109_ 1 1 rfl).trans (e528_)
    have e530_ : F129_ 1 1 = F5_ 1 1 := (s131_ 1 1 rfl).trans (e529_)
    have e531_ : F152_ 1 1 = F5_ 1 1 := (s154_ 1 1 rfl).trans (e530_)
    have e532_ : F184_ 1 1 = F5_ 1 1 := (s186_ 1 1 rfl).trans (e531_)
    have e533_ : F217_ 1 1 = F5_ 1 1 := (s219_ 1 1 rfl).trans (e532_)
    have e534_ : F230_ 1 1 = F5_ 1 1 := by rw [q231_]; exact (fl_u_ne (by first | exact nc_ rfl | decide | omega)).trans ((fl_u_ne (by first | exact nc_ rfl | decide | omega)).trans (e533_))
    have e535_ : F258_ 1 1 = F5_ 1 1 := (s260_ 1 1 rfl).trans (e534_)
    have e536_ : F286_ 1 1 = F5_ 1 1 := (s288_ 1 1 rfl).trans (e535_)
    have e537_ : F335_ 1 1 = F5_ 1 1 := (s337_ 1 1 rfl).trans (e536_)
    have e538_ : F365_ 1 1 = F5_ 1 1 := (s367_ 1 1 rfl).trans (e537_)
    have e539_ : F400_ 1 1 = F5_ 1 1 := (s402_ 1 1 rfl).trans (e538_)
    have e540_ : F432_ 1 1 = F5_ 1 1 := (s434_ 1 1 rfl).trans (e539_)
    have e541_ : F475_ 1 1 = F5_ 1 1 := (s477_ 1 1 rfl).trans (e540_)
    have e542_ : F509_ 1 1 = F5_ 1 1 := (s511_ 1 1 rfl).trans (e541_)
    have e543_ : F520_ 1 1 = F5_ 1 1 := (s522_ 1 1 rfl).trans (e542_)
    have b544_ : 0 ≤ F5_ 1 1 ∧ F5_ 1 1 ≤ 600 := gi_g g6_ rfl
    exact ⟨F520_, ⟨rfl, rfl⟩, g521_, g523_, (by obtain ⟨e, c1, c2⟩ := c519_; exact ⟨K, e, ⟨⟨hgK, hcut⟩, by rw [← hlt_]; exact htf⟩, (by simp [sp_prb, sp_open, sp_part, sp_close, pf, pb, c45_, c64_, c84_, c105_, c127_, c150_, c182_, co1_, c256_, c284_, c331_, c363_, c398_, c430_, c471_, c507_, c1]), c2⟩), (by omega)⟩
  rintro A1_ ⟨F548_, hA_, g549_, s550_, c546_, c547_⟩
  subst hA_
  have g551_ : fs [(1, 1, 1, 1), (1, 1, 6, 8), (3, 6, 0, 100000), (105, 117, 0, 100000), (119, 119, 2, 3)] F F548_ := fs_tr g512_ s550_ rfl
  have tk552_ : tkh K F548_ := tkh_fs tk513_ s550_ (fs_rg rfl) rfl
  refine ga_aload_n (v := .ref 118) hm_117 rfl rfl rfl ?_
  refine ga_getr (b := 1) hm_117 rfl sc_118 rfl ?_
  refine fl_iconst hm_117 rfl ?_
  have b553_ : 0 ≤ F548_ 1 7 ∧ F548_ 1 7 ≤ 600 := gi_g g549_ rfl
  refine gVv (nY := 2) (F := 7) (L := 121) (As := [.int (Int32.ofInt 5)]) (b := 1) (rest := []) hm_117 rfl hm_24 rfl rfl (fl_ob sc_1) rfl rfl rfl rfl rfl (by omega) (by omega) (mc_24 hG F548_ X g549_ (K) (5) hgK tk552_ hko (⟨by omega, by omega⟩) (⟨by omega, by omega⟩)) ?_ ?_
  ·
    rintro j_ A1_ ⟨F555_, ⟨hJ_, hA_⟩, g556_, s557_, c554_⟩
    subst hA_
    subst hJ_
    refine ⟨rfl, ?_⟩
    refine gw_v ⟨rfl, ?_⟩
    refine gw_v ?_
    have g558_ : fs [(1, 1, 1, 1), (1, 1, 6, 8), (3, 6, 0, 100000), (105, 117, 0, 100000), (119, 119, 2, 3)] F F555_ := fs_tr g551_ s557_ rfl
    have b559_ : 0 ≤ F555_ 1 8 ∧ F555_ 1 8 ≤ 100000 := gi_g g556_ rfl
    have e560_ : F29_ 1 1 = F5_ 1 1 := by rw [q30_]; exact (fl_u_ne (by first | exact nc_ rfl | decide | omega)).trans ((fl_u_ne (by first | exact nc_ rfl | decide | omega)).trans ((fl_u_ne (by first | exact nc_ rfl | decide | omega)).trans ((fl_u_ne (by first | exact nc_ rfl | decide | omega)).trans (fl_u_ne (by first | exact nc_ rfl | decide | omega)))))
    have e561_ : F47_ 1 1 = F5_ 1 1 := (s49_ 1 1 rfl).trans (e560_)
    have e562_ : F66_ 1 1 = F5_ 1 1 := (s68_ 1 1 rfl).trans (e561_)
    have e563_ : F86_ 1 1 = F5_ 1 1 := (s88_ 1 1 rfl).trans (e562_)
    have e564_ : F107_ 1 1 = F5_ 1 1 := (s109_ 1 1 rfl).trans (e563_)
    have e565_ : F129_ 1 1 = F5_ 1 1 := (s131_ 1 1 rfl).trans (e564_)
    have e566_ : F152_ 1 1 = F5_ 1 1 := (s154_ 1 1 rfl).trans (e565_)
    have e567_ : F184_ 1 1 = F5_ 1 1 := (s186_ 1 1 rfl).trans (e566_)
    have e568_ : F217_ 1 1 = F5_ 1 1 := (s219_ 1 1 rfl).trans (e567_)
    have e569_ : F230_ 1 1 = F5_ 1 1 := by rw [q231_]; exact (fl_u_ne (by first | exact nc_ rfl | decide | omega)).trans ((fl_u_ne (by first | exact nc_ rfl | decide | omega)).trans (e568_))
    have e570_ : F258_ 1 1 = F5_ 1 1 := (s260_ 1 1 rfl).trans (e569_)
    have e571_ : F286_ 1 1 = F5_ 1 1 := (s288_ 1 1 rfl).trans (e570_)
    have e572_ : F335_ 1 1 = F5_ 1 1 := (s337_ 1 1 rfl).trans (e571_)
    have e573_ : F365_ 1 1 = F5_ 1 1 := (s367_ 1 1 rfl).trans (e572_)
    have e574_ : F400_ 1 1 = F5_ 1 1 := (s402_ 1 1 rfl).trans (e573_)
    have e575_ : F432_ 1 1 = F5_ 1 1 := (s434_ 1 1 rfl).trans (e574_)
    have e576_ : F475_ 1 1 = F5_ 1 1 := (s477_ 1 1 rfl).trans (e575_)
    have e577_ : F509_ 1 1 = F5_ 1 1 := (s511_ 1 1 rfl).trans (e576_)
    have e578_ : F548_ 1 1 = F5_ 1 1 := (s550_ 1 1 rfl).trans (e577_)
    have e579_ : F555_ 1 1 = F5_ 1 1 := (s557_ 1 1 rfl).trans (e578_)
    have b580_ : 0 ≤ F5_ 1 1 ∧ F5_ 1 1 ≤ 600 := gi_g g6_ rfl
    exact ⟨F555_, ⟨rfl, rfl⟩, g556_, g558_, (by obtain ⟨e, c1, c2⟩ := c554_; exact ⟨K, e, ⟨⟨hgK, hcut⟩, by rw [← hlt_]; exact htf⟩, (by simp [sp_prb, sp_open, sp_part, sp_close, pf, pb, c45_, c64_, c84_, c105_, c127_, c150_, c182_, co1_, c256_, c284_, c331_, c363_, c398_, c430_, c471_, c507_, c546_, c1]), c2⟩), (by omega)⟩
  rintro A1_ ⟨F584_, hA_, g585_, s586_, c582_, c583_⟩
  subst hA_
  have g587_ : fs [(1, 1, 1, 1), (1, 1, 6, 8), (3, 6, 0, 100000), (105, 117, 0, 100000), (119, 119, 2, 3)] F F584_ := fs_tr g551_ s586_ rfl
  have tk588_ : tkh K F584_ := tkh_fs tk552_ s586_ (fs_rg rfl) rfl
  refine gr_v hm_117 rfl rfl ?_
  clear h516_ h517_ f514_ l515_
  refine gr_v hm_125 rfl rfl ?_
  have e589_ : F230_ 105 2 = F217_ 105 2 := by rw [q231_]; exact (fl_u_ne (by first | exact nc_ rfl | decide | omega)).trans (fl_u_ne (by first | exact nc_ rfl | decide | omega))
  have e590_ : F258_ 105 2 = F217_ 105 2 := (s260_ 105 2 rfl).trans (e589_)
  have e591_ : F286_ 105 2 = F217_ 105 2 := (s288_ 105 2 rfl).trans (e590_)
  have e592_ : F335_ 105 2 = F217_ 105 2 := (s337_ 105 2 rfl).trans (e591_)
  have e593_ : F365_ 105 2 = F217_ 105 2 := (s367_ 105 2 rfl).trans (e592_)
  have e594_ : F400_ 105 2 = F217_ 105 2 := (s402_ 105 2 rfl).trans (e593_)
  have e595_ : F432_ 105 2 = F217_ 105 2 := (s434_ 105 2 rfl).trans (e594_)
  have e596_ : F475_ 105 2 = F217_ 105 2 := (s477_ 105 2 rfl).trans (e595_)
  have e597_ : F509_ 105 2 = F217_ 105 2 := (s511_ 105 2 rfl).trans (e596_)
  have e598_ : F548_ 105 2 = F217_ 105 2 := (s550_ 105 2 rfl).trans (e597_)
  have e599_ : F584_ 105 2 = F217_ 105 2 := (s586_ 105 2 rfl).trans (e598_)
  have b600_ : 0 ≤ F217_ 105 2 ∧ F217_ 105 2 ≤ 6 := gi_g g218_ rfl
  have e601_ : F29_ 1 1 = F5_ 1 1 := by rw [q30_]; exact (fl_u_ne (by first | exact nc_ rfl | decide | omega)).trans ((fl_u_ne (by first | exact nc_ rfl | decide | omega)).trans ((fl_u_ne (by first | exact nc_ rfl | decide | omega)).trans ((fl_u_ne (by first | exact nc_ rfl | decide | omega)).trans (fl_u_ne (by first | exact nc_ rfl | decide | omega)))))
  have e602_ : F47_ 1 1 = F5_ 1 1 := (s49_ 1 1 rfl).trans (e601_)
  have e603_ : F66_ 1 1 = F5_ 1 1 := (s68_ 1 1 rfl).trans (e602_)
  have e604_ : F86_ 1 1 = F5_ 1 1 := (s88_ 1 1 rfl).trans (e603_)
  have e605_ : F107_ 1 1 = F5_ 1 1 := (s109_ 1 1 rfl).trans (e604_)
  have e606_ : F129_ 1 1 = F5_ 1 1 := (s131_ 1 1 rfl).trans (e605_)
  have e607_ : F152_ 1 1 = F5_ 1 1 := (s154_ 1 1 rfl).trans (e606_)
  have e608_ : F184_ 1 1 = F5_ 1 1 := (s186_ 1 1 rfl).trans (e607_)
  have e609_ : F217_ 1 1 = F5_ 1 1 := (s219_ 1 1 rfl).trans (e608_)
  have e610_ : F230_ 1 1 = F5_ 1 1 := by rw [q231_]; exact (fl_u_ne (by first | exact nc_ rfl | decide | omega)).trans ((fl_u_ne (by first | exact nc_ rfl | decide | omega)).trans (e609_))
  have e611_ : F258_ 1 1 = F5_ 1 1 := (s260_ 1 1 rfl).trans (e610_)
  have e612_ : F286_ 1 1 = F5_ 1 1 := (s288_ 1 1 rfl).trans (e611_)
  have e613_ : F335_ 1 1 = F5_ 1 1 := (s337_ 1 1 rfl).trans (e612_)
  have e614_ : F365_ 1 1 = F5_ 1 1 := (s367_ 1 1 rfl).trans (e613_)
  have e615_ : F400_ 1 1 = F5_ 1 1 := (s402_ 1 1 rfl).trans (e614_)
  have e616_ : F432_ 1 1 = F5_ 1 1 := (s434_ 1 1 rfl).trans (e615_)
  have e617_ : F475_ 1 1 = F5_ 1 1 := (s477_ 1 1 rfl).trans (e616_)
  have e618_ : F509_ 1 1 = F5_ 1 1 := (s511_ 1 1 rfl).trans (e617_)
  have e619_ : F548_ 1 1 = F5_ 1 1 := (s550_ 1 1 rfl).trans (e618_)
  have e620_ : F584_ 1 1 = F5_ 1 1 := (s586_ 1 1 rfl).trans (e619_)
  have b621_ : 0 ≤ F5_ 1 1 ∧ F5_ 1 1 ≤ 600 := gi_g g6_ rfl
  have e622_ : F29_ 1 8 = 0 := by rw [q30_]; exact (fl_u_ne (by first | exact nc_ rfl | decide | omega)).trans ((fl_u_ne (by first | exact nc_ rfl | decide | omega)).trans ((fl_u_ne (by first | exact nc_ rfl | decide | omega)).trans ((fl_u_ne (by first | exact nc_ rfl | decide | omega)).trans ((fl_u_ne (by first | exact nc_ rfl | decide | omega)).trans (hq0)))))
  have e623_ : F47_ 1 8 = 0 := (s49_ 1 8 rfl).trans (e622_)
  have e624_ : F66_ 1 8 = 0 := (s68_ 1 8 rfl).trans (e623_)
  have e625_ : F86_ 1 8 = 0 := (s88_ 1 8 rfl).trans (e624_)
  have e626_ : F107_ 1 8 = 0 := (s109_ 1 8 rfl).trans (e625_)
  have e627_ : F129_ 1 8 = 0 := (s131_ 1 8 rfl).trans (e626_)
  have e628_ : F152_ 1 8 = 0 := (s154_ 1 8 rfl).trans (e627_)
  have e629_ : F184_ 1 8 = 0 := (s186_ 1 8 rfl).trans (e628_)
  have e630_ : F217_ 1 8 = 0 := (s219_ 1 8 rfl).trans (e629_)
  have e631_ : F230_ 1 8 = 0 := by rw [q231_]; exact (fl_u_ne (by first | exact nc_ rfl | decide | omega)).trans ((fl_u_ne (by first | exact nc_ rfl | decide | omega)).trans (e630_))
  have e632_ : F258_ 1 8 = 0 := (s260_ 1 8 rfl).trans (e631_)
  have e633_ : F286_ 1 8 = 0 := (s288_ 1 8 rfl).trans (e632_)
  have e634_ : F335_ 1 8 = 0 := (s337_ 1 8 rfl).trans (e633_)
  have e635_ : F365_ 1 8 = 0 := (s367_ 1 8 rfl).trans (e634_)
  have e636_ : F400_ 1 8 = 0 := (s402_ 1 8 rfl).trans (e635_)
  have e637_ : F432_ 1 8 = 0 := (s434_ 1 8 rfl).trans (e636_)
  have e638_ : F475_ 1 8 = 0 := (s477_ 1 8 rfl).trans (e637_)
  have e639_ : F509_ 1 8 = 0 := (s511_ 1 8 rfl).trans (e638_)
  have e640_ : F548_ 1 8 = 0 := (s550_ 1 8 rfl).trans (e639_)
  have e641_ : F584_ 1 8 = 0 := (s586_ 1 8 rfl).trans (e640_)
  exact ⟨F584_, rfl, g585_, g587_, (⟨K, l, tl, ⟨⟨hgK, hcut⟩, by rw [← hlt_]; exact htf⟩, by simp [sp_prb, sp_open, sp_part, sp_close, pf, pb, c45_, c64_, c84_, c105_, c127_, c150_, c182_, co1_, c256_, c284_, c331_, c363_, c398_, c430_, c471_, c507_, c546_, c582_], (rep_fs (rep_fs (rep_fs (rep_fs (rep_fs (rep_fs (rep_fs (rep_fs (rep_fs (rep_fs (by rw [q231_]; exact (rep_u (rep_u hl (by omega) (by omega)) (by omega) (by omega))) s260_ (fun _ => (by first | exact fs_c rfl | exact (fs_n (by omega) rfl))) (by first | exact fs_c rfl | exact (fs_n (by omega) rfl))) s288_ (fun _ => (by first | exact fs_c rfl | exact (fs_n (by omega) rfl))) (by first | exact fs_c rfl | exact (fs_n (by omega) rfl))) s337_ (fun _ => (by first | exact fs_c rfl | exact (fs_n (by omega) (fs_n (by omega) (fs_n (by omega) rfl))))) (by first | exact fs_c rfl | exact (fs_n (by omega) (fs_n (by omega) (fs_n (by omega) rfl))))) s367_ (fun _ => (by first | exact fs_c rfl | exact (fs_n (by omega) rfl))) (by first | exact fs_c rfl | exact (fs_n (by omega) rfl))) s402_ (fun _ => (by first | exact fs_c rfl | exact (fs_n (by omega) rfl))) (by first | exact fs_c rfl | exact (fs_n (by omega) rfl))) s434_ (fun _ => (by first | exact fs_c rfl | exact (fs_n (by omega) rfl))) (by first | exact fs_c rfl | exact (fs_n (by omega) rfl))) s477_ (fun _ => (by first | exact fs_c rfl | exact (fs_n (by omega) (fs_n (by omega) (fs_n (by omega) rfl))))) (by first | exact fs_c rfl | exact (fs_n (by omega) (fs_n (by omega) (fs_n (by omega) rfl))))) s511_ (fun _ => (by first | exact fs_c rfl | exact (fs_n (by omega) rfl))) (by first | exact fs_c rfl | exact (fs_n (by omega) rfl))) s550_ (fun _ => (by first | exact fs_c rfl | exact (fs_n (by omega) rfl))) (by first | exact fs_c rfl | exact (fs_n (by omega) rfl))) s586_ (fun _ => (by first | exact fs_c rfl | exact (fs_n (by omega) rfl))) (by first | exact fs_c rfl | exact (fs_n (by omega) rfl))), (rep_fs (rep_fs (rep_fs (rep_fs (rep_fs (rep_fs (rep_fs (rep_fs (rep_fs (rep_fs (by rw [q231_]; exact (rep_u (rep_u htl (by omega) (by omega)) (by omega) (by omega))) s260_ (fun _ => (by first | exact fs_c rfl | exact (fs_n (by omega) rfl))) (by first | exact fs_c rfl | exact (fs_n (by omega) rfl))) s288_ (fun _ => (by first | exact fs_c rfl | exact (fs_n (by omega) rfl))) (by first | exact fs_c rfl | exact (fs_n (by omega) rfl))) s337_ (fun _ => (by first | exact fs_c rfl | exact (fs_n (by omega) (fs_n (by omega) (fs_n (by omega) rfl))))) (by first | exact fs_c rfl | exact (fs_n (by omega) (fs_n (by omega) (fs_n (by omega) rfl))))) s367_ (fun _ => (by first | exact fs_c rfl | exact (fs_n (by omega) rfl))) (by first | exact fs_c rfl | exact (fs_n (by omega) rfl))) s402_ (fun _ => (by first | exact fs_c rfl | exact (fs_n (by omega) rfl))) (by first | exact fs_c rfl | exact (fs_n (by omega) rfl))) s434_ (fun _ => (by first | exact fs_c rfl | exact (fs_n (by omega) rfl))) (by first | exact fs_c rfl | exact (fs_n (by omega) rfl))) s477_ (fun _ => (by first | exact fs_c rfl | exact (fs_n (by omega) (fs_n (by omega) (fs_n (by omega) rfl))))) (by first | exact fs_c rfl | exact (fs_n (by omega) (fs_n (by omega) (fs_n (by omega) rfl))))) s511_ (fun _ => (by first | exact fs_c rfl | exact (fs_n (by omega) rfl))) (by first | exact fs_c rfl | exact (fs_n (by omega) rfl))) s550_ (fun _ => (by first | exact fs_c rfl | exact (fs_n (by omega) rfl))) (by first | exact fs_c rfl | exact (fs_n (by omega) rfl))) s586_ (fun _ => (by first | exact fs_c rfl | exact (fs_n (by omega) rfl))) (by first | exact fs_c rfl | exact (fs_n (by omega) rfl))), clr_eq (clr_fs (clr_fs (clr_fs (clr_fs (clr_fs (clr_fs (clr_fs c334_ s367_ (by first | exact fs_rg rfl | exact fun r j hj => (fs_n (by omega) rfl))) s402_ (by first | exact fs_rg rfl | exact fun r j hj => (fs_n (by omega) rfl))) s434_ (by first | exact fs_rg rfl | exact fun r j hj => (fs_n (by omega) rfl))) s477_ (by first | exact fs_rg rfl | exact fun r j hj => (fs_n (by omega) (fs_n (by omega) (fs_n (by omega) rfl))))) s511_ (by first | exact fs_rg rfl | exact fun r j hj => (fs_n (by omega) rfl))) s550_ (by first | exact fs_rg rfl | exact fun r j hj => (fs_n (by omega) rfl))) s586_ (by first | exact fs_rg rfl | exact fun r j hj => (fs_n (by omega) rfl))) (by rw [prb_ii (p := F217_ 1 7) (l := l) (tl := tl) (by simp [pr_h, sp_open, sp_part, sp_close, pf, pb, c45_, c64_, c84_, c105_, c127_, c150_, c182_, co1_, c256_, c284_, c331_, c363_, c398_, c430_, c471_, c507_, c546_, c582_]) c256_ c284_]), clr_eq (clr_fs (clr_fs (clr_fs c474_ s511_ (by first | exact fs_rg rfl | exact fun r j hj => (fs_n (by omega) rfl))) s550_ (by first | exact fs_rg rfl | exact fun r j hj => (fs_n (by omega) rfl))) s586_ (by first | exact fs_rg rfl | exact fun r j hj => (fs_n (by omega) rfl))) (by rw [prb_gg (p := F217_ 1 7) (l := l) (tl := tl) (by simp [pr_h, sp_open, sp_part, sp_close, pf, pb, c45_, c64_, c84_, c105_, c127_, c150_, c182_, co1_, c256_, c284_, c331_, c363_, c398_, c430_, c471_, c507_, c546_, c582_]) c256_ c284_ c331_ c363_ c398_ c430_])⟩), (by omega), (cw_le (cw_fs (cw_fs (cw_fs (cw_fs (cw_fs (cw_fs (cw_fs c333_ s367_ (by first | exact fs_rg rfl | exact fun r j hj => (fs_n (by omega) rfl))) s402_ (by first | exact fs_rg rfl | exact fun r j hj => (fs_n (by omega) rfl))) s434_ (by first | exact fs_rg rfl | exact fun r j hj => (fs_n (by omega) rfl))) s477_ (by first | exact fs_rg rfl | exact fun r j hj => (fs_n (by omega) (fs_n (by omega) (fs_n (by omega) rfl))))) s511_ (by first | exact fs_rg rfl | exact fun r j hj => (fs_n (by omega) rfl))) s550_ (by first | exact fs_rg rfl | exact fun r j hj => (fs_n (by omega) rfl))) s586_ (by first | exact fs_rg rfl | exact fun r j hj => (fs_n (by omega) rfl))) (by omega)), (cw_le (cw_fs (cw_fs (cw_fs c473_ s511_ (by first | exact fs_rg rfl | exact fun r j hj => (fs_n (by omega) rfl))) s550_ (by first | exact fs_rg rfl | exact fun r j hj => (fs_n (by omega) rfl))) s586_ (by first | exact fs_rg rfl | exact fun r j hj => (fs_n (by omega) rfl))) (by omega)), (e641_)⟩

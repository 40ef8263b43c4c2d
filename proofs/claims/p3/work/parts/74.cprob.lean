/-! the class reads a problem: only that it does no harm -/
theorem rep_self {g : Nat → Int} {n : Int} (h : 0 ≤ n) : rep g n ((List.range n.toNat).map g) := by
  refine ⟨?_, fun j x hx => ?_⟩
  · rw [List.length_map, List.length_range]
    omega
  · rw [List.getElem?_map] at hx
    cases e : (List.range n.toNat)[j]? with
    | none => rw [e] at hx; cases hx
    | some v =>
      rw [e] at hx
      have h1 : v = j := by
        obtain ⟨h2, h3⟩ := List.getElem?_eq_some_iff.mp e
        rw [List.getElem_range] at h3
        exact h3.symm
      subst h1
      exact Option.some.inj hx
theorem rep_ex (g : Nat → Int) {n : Int} (h : 0 ≤ n) : ∃ l, rep g n l := ⟨_, rep_self h⟩
theorem qm_b {F : fl_N} (h : gi F) {j : Nat} (hj : j < 6) : 0 ≤ F (21 + 3 * j) 2 := by
  match j, hj with
  | 0, _ => exact (gi_g (r := 21) (k := 2) h rfl).1
  | 1, _ => exact (gi_g (r := 24) (k := 2) h rfl).1
  | 2, _ => exact (gi_g (r := 27) (k := 2) h rfl).1
  | 3, _ => exact (gi_g (r := 30) (k := 2) h rfl).1
  | 4, _ => exact (gi_g (r := 33) (k := 2) h rfl).1
  | 5, _ => exact (gi_g (r := 36) (k := 2) h rfl).1
  | n + 6, h => exact absurd h (by omega)
theorem prd_ex {F : fl_N} (h : gi F) {pl : List Int} (hp : pl.length ≤ 6) : ∃ ps, prd F ps ∧ pl.length = ps.length := by
  refine ⟨(List.range pl.length).map (fun i => (List.range (F (21 + 3 * i) 2).toNat).map (F (21 + 3 * i + 2))), fun i hi => ?_, by simp⟩
  rw [List.length_map, List.length_range] at hi
  have e : ((List.range pl.length).map (fun i => (List.range (F (21 + 3 * i) 2).toNat).map (F (21 + 3 * i + 2)))).getD i [] = (List.range (F (21 + 3 * i) 2).toNat).map (F (21 + 3 * i + 2)) := by
    rw [List.getD_eq_getElem?_getD, List.getElem?_map, List.getElem?_range hi]
    rfl
  rw [e]
  exact rep_self (qm_b h (by omega))
theorem cw_le {F : fl_N} {b : Nat} {m n : Int} (h : cw F b m) (hm : m ≤ n) : cw F b n := by
  intro j hj
  have h9 := h j hj
  exact ⟨⟨h9.1.1, by omega⟩, ⟨h9.2.1.1, by omega⟩, h9.2.2⟩

/- CheapPlanner$Reader.readDomainName -/
abbrev pq_120 (G : Nat → Nat → Option Nat) (F : fl_N) (X : xi_H) (K : fl_N) : Outcome → xi_H → Prop := gqv (fun A => ∃ F' : fl_N, fl_H sh_T G F' ++ X = A ∧ gi F' ∧ fs [(1, 1, 7, 8)] F F' ∧ (0 ≤ F' 1 7 ∧ F' 1 7 ≤ K 1 6 - 1)) (fun j A => ∃ F' : fl_N, (387 + X.length = j ∧ fl_H sh_T G F' ++ (X ++ [gx 14]) = A) ∧ gi F' ∧ fs [(1, 1, 7, 8)] F F')
theorem mc_120 {G : Nat → Nat → Option Nat} (hG : gg G) (F : fl_N) (X : xi_H) (hgi : gi F) (K : fl_N) (hgK : gi K) (hK : tkh K F) (hko : tko K) (hp : 0 ≤ F 1 7 ∧ F 1 7 ≤ K 1 6 - 1) : fl_M xi_ms 120 9 165 [.ref 118] (fl_H sh_T G F ++ X) (pq_120 G F X K) := by
  intro fr lo hfr hlo
  show fl_R xi_ms 120 fr lo 0 [(0, .ref 118)] [] _ _
  refine ga_aload_n (v := .ref 118) hm_120 rfl rfl rfl ?_
  refine ga_ldcs hm_120 rfl ?_
  refine gIv (nY := 2) (F := 8) (L := 144) (As := [.retAddr 17]) (b := 118) (rest := []) hm_120 rfl hm_118 rfl rfl (fl_ob sc_118) rfl rfl rfl rfl rfl (by omega) (by omega) ?_
  intro f1_ l2_ h3_ h4_
  show fl_R xi_ms 118 f1_ l2_ 0 [(0, .ref 118), (1, .retAddr 17)] [] _ _
  refine ga_aload_n (v := .ref 118) hm_118 rfl rfl rfl ?_
  refine ga_getr (b := 1) hm_118 rfl sc_118 rfl ?_
  refine fl_iconst hm_118 rfl ?_
  have b5_ : 0 ≤ F 1 7 ∧ F 1 7 ≤ 600 := gi_g hgi rfl
  refine gVv (nY := 2) (F := 7) (L := 121) (As := [.int (Int32.ofInt 0)]) (b := 1) (rest := []) hm_118 rfl hm_24 rfl rfl (fl_ob sc_1) rfl rfl rfl rfl rfl (by omega) (by omega) (mc_24 hG F X hgi (K) (0) hgK hK hko (⟨by omega, by omega⟩) (⟨by omega, by omega⟩)) ?_ ?_
  ·
    rintro j_ A1_ ⟨F7_, ⟨hJ_, hA_⟩, g8_, s9_, c6_⟩
    subst hA_
    subst hJ_
    refine ⟨rfl, ?_⟩
    refine gw_v ⟨rfl, ?_⟩
    refine gw_v ?_
    have g10_ : fs [(1, 1, 7, 8)] F F7_ := fs_tr fs_refl s9_ rfl
    exact ⟨F7_, ⟨rfl, rfl⟩, g8_, g10_⟩
  rintro A1_ ⟨F14_, hA_, g15_, s16_, c12_, c13_⟩
  subst hA_
  have g17_ : fs [(1, 1, 7, 8)] F F14_ := fs_tr fs_refl s16_ rfl
  have tk18_ : tkh K F14_ := tkh_fs hK s16_ (fs_rg rfl) rfl
  refine ga_aload_n (v := .ref 118) hm_118 rfl rfl rfl ?_
  refine ga_getr (b := 1) hm_118 rfl sc_118 rfl ?_
  refine ga_aload_n (v := .retAddr 17) hm_118 rfl rfl rfl ?_
  have b19_ : 0 ≤ F14_ 1 7 ∧ F14_ 1 7 ≤ 600 := gi_g g15_ rfl
  refine gVv (nY := 2) (F := 7) (L := 123) (As := [.retAddr 17]) (b := 1) (rest := []) hm_118 rfl hm_155 rfl rfl (fl_ob sc_1) rfl rfl rfl rfl rfl (by omega) (by omega) (mc_155 hG F14_ X g15_ (K) (17) ([58, 100, 111, 109, 97, 105, 110]) hgK tk18_ hko (⟨by omega, by omega⟩) (rfl) (by decide)) ?_ ?_
  ·
    rintro j_ A1_ ⟨F21_, ⟨hJ_, hA_⟩, g22_, s23_, c20_⟩
    subst hA_
    subst hJ_
    refine ⟨rfl, ?_⟩
    refine gw_v ⟨rfl, ?_⟩
    refine gw_v ?_
    have g24_ : fs [(1, 1, 7, 8)] F F21_ := fs_tr g17_ s23_ rfl
    exact ⟨F21_, ⟨rfl, rfl⟩, g22_, g24_⟩
  rintro A1_ ⟨F28_, hA_, g29_, s30_, c26_, c27_⟩
  subst hA_
  have g31_ : fs [(1, 1, 7, 8)] F F28_ := fs_tr g17_ s30_ rfl
  have tk32_ : tkh K F28_ := tkh_fs tk18_ s30_ (fs_rg rfl) rfl
  refine gr_v hm_118 rfl rfl ?_
  clear h3_ h4_ f1_ l2_
  refine ga_aload_n (v := .ref 118) hm_120 rfl rfl rfl ?_
  refine ga_getr (b := 1) hm_120 rfl sc_118 rfl ?_
  refine fl_iconst hm_120 rfl ?_
  refine gIi (nY := 2) (F := 0) (L := 0) (As := [.int (Int32.ofInt 2)]) (b := 1) (rest := []) hm_120 rfl hm_153 rfl rfl (fl_ob sc_1) rfl rfl rfl rfl rfl (by omega) (by omega) ?_
  intro f33_ l34_ h35_ h36_
  show fl_R xi_ms 153 f33_ l34_ 0 [(0, .ref 1), (1, .int (Int32.ofInt 2))] [] _ _
  refine ga_aload_n (v := .ref 1) hm_153 rfl rfl rfl ?_
  refine ga_getr (b := 3) hm_153 rfl sc_1 rfl ?_
  refine ga_aload_n (v := .ref 1) hm_153 rfl rfl rfl ?_
  have b37_ : 0 ≤ F28_ 1 7 ∧ F28_ 1 7 ≤ 600 := gi_g g29_ rfl
  refine ga_geti (z := F28_ 1 7) hm_153 rfl sc_1 rfl (rfl) ?_
  have e38_ : F28_ 3 (F28_ 1 7).toNat = K 3 (F28_ 1 7).toNat := tk32_.1 3 (F28_ 1 7).toNat (by omega)
  have b39_ : 0 ≤ K 3 (F28_ 1 7).toNat ∧ K 3 (F28_ 1 7).toNat ≤ 5 := gi_g hgK rfl
  refine ga_iald (z := F28_ 1 7) (w := K 3 (F28_ 1 7).toNat) hm_153 rfl sc_3 (by omega) (by omega) (by omega) (e38_) ?_
  refine ga_iload_n (z := 2) hm_153 rfl rfl ?_
  refine fx_icmp_ne (a := K 3 (F28_ 1 7).toNat) (b := 2) hm_153 rfl ⟨by omega, by omega⟩ ⟨by omega, by omega⟩ (fun h40_ => ?_) (fun h41_ => ?_)
  ·
    refine fl_iconst hm_153 rfl ?_
    refine gr_i hm_153 rfl rfl (ga_nb (by omega)) ?_
    clear h35_ h36_ f33_ l34_
    refine fl_if_eq hm_120 rfl ⟨by omega, by omega⟩ (fun _ => ?_) (fun h => absurd (by omega) h)
    refine ga_aload_n (v := .ref 118) hm_120 rfl rfl rfl ?_
    refine ga_getr (b := 1) hm_120 rfl sc_118 rfl ?_
    refine fl_iconst hm_120 rfl ?_
    refine gVv (nY := 2) (F := 7) (L := 121) (As := [.int (Int32.ofInt 2)]) (b := 1) (rest := []) hm_120 rfl hm_24 rfl rfl (fl_ob sc_1) rfl rfl rfl rfl rfl (by omega) (by omega) (mc_24 hG F28_ X g29_ (K) (2) hgK tk32_ hko (⟨by omega, by omega⟩) (⟨by omega, by omega⟩)) ?_ ?_
    ·
      rintro j_ A1_ ⟨F43_, ⟨hJ_, hA_⟩, g44_, s45_, c42_⟩
      subst hA_
      subst hJ_
      refine ⟨rfl, ?_⟩
      refine gw_v ?_
      have g46_ : fs [(1, 1, 7, 8)] F F43_ := fs_tr g31_ s45_ rfl
      exact ⟨F43_, ⟨rfl, rfl⟩, g44_, g46_⟩
    rintro A1_ ⟨F50_, hA_, g51_, s52_, c48_, c49_⟩
    subst hA_
    have g53_ : fs [(1, 1, 7, 8)] F F50_ := fs_tr g31_ s52_ rfl
    have tk54_ : tkh K F50_ := tkh_fs tk32_ s52_ (fs_rg rfl) rfl
    refine ga_aload_n (v := .ref 118) hm_120 rfl rfl rfl ?_
    refine ga_getr (b := 1) hm_120 rfl sc_118 rfl ?_
    refine fl_iconst hm_120 rfl ?_
    have b55_ : 0 ≤ F50_ 1 7 ∧ F50_ 1 7 ≤ 600 := gi_g g51_ rfl
    refine gVv (nY := 2) (F := 7) (L := 121) (As := [.int (Int32.ofInt 1)]) (b := 1) (rest := []) hm_120 rfl hm_24 rfl rfl (fl_ob sc_1) rfl rfl rfl rfl rfl (by omega) (by omega) (mc_24 hG F50_ X g51_ (K) (1) hgK tk54_ hko (⟨by omega, by omega⟩) (⟨by omega, by omega⟩)) ?_ ?_
    ·
      rintro j_ A1_ ⟨F57_, ⟨hJ_, hA_⟩, g58_, s59_, c56_⟩
      subst hA_
      subst hJ_
      refine ⟨rfl, ?_⟩
      refine gw_v ?_
      have g60_ : fs [(1, 1, 7, 8)] F F57_ := fs_tr g53_ s59_ rfl
      exact ⟨F57_, ⟨rfl, rfl⟩, g58_, g60_⟩
    rintro A1_ ⟨F64_, hA_, g65_, s66_, c62_, c63_⟩
    subst hA_
    have g67_ : fs [(1, 1, 7, 8)] F F64_ := fs_tr g53_ s66_ rfl
    have tk68_ : tkh K F64_ := tkh_fs tk54_ s66_ (fs_rg rfl) rfl
    refine gr_v hm_120 rfl rfl ?_
    have b69_ : 0 ≤ F64_ 1 7 ∧ F64_ 1 7 ≤ 600 := gi_g g65_ rfl
    exact ⟨F64_, rfl, g65_, g67_, (⟨by omega, by omega⟩)⟩
  refine fl_iconst hm_153 rfl ?_
  refine fl_goto hm_153 rfl ?_
  refine gr_i hm_153 rfl rfl (ga_nb (by omega)) ?_
  clear h35_ h36_ f33_ l34_
  refine fl_if_eq hm_120 rfl ⟨by omega, by omega⟩ (fun h => absurd h (by omega)) (fun _ => ?_)
  refine ga_aload_n (v := .ref 118) hm_120 rfl rfl rfl ?_
  refine ga_getr (b := 1) hm_120 rfl sc_118 rfl ?_
  refine gIl (nY := 1) (F := 0) (L := 0) (As := []) (b := 1) (rest := []) hm_120 rfl hm_149 rfl rfl (fl_ob sc_1) rfl rfl rfl rfl rfl (by omega) (by omega) ?_
  intro f70_ l71_ h72_ h73_
  show fl_R xi_ms 149 f70_ l71_ 0 [(0, .ref 1)] [] _ _
  refine ga_aload_n (v := .ref 1) hm_149 rfl rfl rfl ?_
  refine ga_getr (b := 6) hm_149 rfl sc_1 rfl ?_
  refine ga_aload_n (v := .ref 1) hm_149 rfl rfl rfl ?_
  refine ga_geti (z := F28_ 1 7) hm_149 rfl sc_1 rfl (rfl) ?_
  have e74_ : F28_ 6 (F28_ 1 7).toNat = K 6 (F28_ 1 7).toNat := tk32_.1 6 (F28_ 1 7).toNat (by omega)
  have b75_ : -9223372036854775808 ≤ K 6 (F28_ 1 7).toNat ∧ K 6 (F28_ 1 7).toNat ≤ 9223372036854775807 := gi_g hgK rfl
  refine ga_lald (z := F28_ 1 7) (w := K 6 (F28_ 1 7).toNat) hm_149 rfl sc_6 (by omega) (by omega) (by omega) (e74_) ?_
  refine gr_l hm_149 rfl rfl ?_
  clear h72_ h73_ f70_ l71_
  refine ga_aload_n (v := .ref 118) hm_120 rfl rfl rfl ?_
  refine ga_getr (b := 7) hm_120 rfl sc_118 rfl ?_
  have e76_ : F14_ 7 0 = F 7 0 := (s16_ 7 0 rfl).trans (rfl)
  have e77_ : F28_ 7 0 = F 7 0 := (s30_ 7 0 rfl).trans (e76_)
  have b78_ : -9223372036854775808 ≤ F 7 0 ∧ F 7 0 ≤ 9223372036854775807 := gi_g hgi rfl
  refine ga_getl (z := F 7 0) hm_120 rfl sc_7 rfl (e77_) ?_
  refine ga_lcmpq (a := K 6 (F28_ 1 7).toNat) (b := F 7 0) hm_120 rfl rfl ⟨by omega, by omega⟩ ⟨by omega, by omega⟩ (fun h79_ => ?_) (fun h80_ => ?_)
  ·
    refine ga_aload_n (v := .ref 118) hm_120 rfl rfl rfl ?_
    refine ga_getr (b := 1) hm_120 rfl sc_118 rfl ?_
    refine fl_iconst hm_120 rfl ?_
    refine gVv (nY := 2) (F := 7) (L := 121) (As := [.int (Int32.ofInt 2)]) (b := 1) (rest := []) hm_120 rfl hm_24 rfl rfl (fl_ob sc_1) rfl rfl rfl rfl rfl (by omega) (by omega) (mc_24 hG F28_ X g29_ (K) (2) hgK tk32_ hko (⟨by omega, by omega⟩) (⟨by omega, by omega⟩)) ?_ ?_
    ·
      rintro j_ A1_ ⟨F82_, ⟨hJ_, hA_⟩, g83_, s84_, c81_⟩
      subst hA_
      subst hJ_
      refine ⟨rfl, ?_⟩
      refine gw_v ?_
      have g85_ : fs [(1, 1, 7, 8)] F F82_ := fs_tr g31_ s84_ rfl
      exact ⟨F82_, ⟨rfl, rfl⟩, g83_, g85_⟩
    rintro A1_ ⟨F89_, hA_, g90_, s91_, c87_, c88_⟩
    subst hA_
    have g92_ : fs [(1, 1, 7, 8)] F F89_ := fs_tr g31_ s91_ rfl
    have tk93_ : tkh K F89_ := tkh_fs tk32_ s91_ (fs_rg rfl) rfl
    refine ga_aload_n (v := .ref 118) hm_120 rfl rfl rfl ?_
    refine ga_getr (b := 1) hm_120 rfl sc_118 rfl ?_
    refine fl_iconst hm_120 rfl ?_
    have b94_ : 0 ≤ F89_ 1 7 ∧ F89_ 1 7 ≤ 600 := gi_g g90_ rfl
    refine gVv (nY := 2) (F := 7) (L := 121) (As := [.int (Int32.ofInt 1)]) (b := 1) (rest := []) hm_120 rfl hm_24 rfl rfl (fl_ob sc_1) rfl rfl rfl rfl rfl (by omega) (by omega) (mc_24 hG F89_ X g90_ (K) (1) hgK tk93_ hko (⟨by omega, by omega⟩) (⟨by omega, by omega⟩)) ?_ ?_
    ·
      rintro j_ A1_ ⟨F96_, ⟨hJ_, hA_⟩, g97_, s98_, c95_⟩
      subst hA_
      subst hJ_
      refine ⟨rfl, ?_⟩
      refine gw_v ?_
      have g99_ : fs [(1, 1, 7, 8)] F F96_ := fs_tr g92_ s98_ rfl
      exact ⟨F96_, ⟨rfl, rfl⟩, g97_, g99_⟩
    rintro A1_ ⟨F103_, hA_, g104_, s105_, c101_, c102_⟩
    subst hA_
    have g106_ : fs [(1, 1, 7, 8)] F F103_ := fs_tr g92_ s105_ rfl
    have tk107_ : tkh K F103_ := tkh_fs tk93_ s105_ (fs_rg rfl) rfl
    refine gr_v hm_120 rfl rfl ?_
    have b108_ : 0 ≤ F103_ 1 7 ∧ F103_ 1 7 ≤ 600 := gi_g g104_ rfl
    exact ⟨F103_, rfl, g104_, g106_, (⟨by omega, by omega⟩)⟩
  refine ga_aload_n (v := .ref 118) hm_120 rfl rfl rfl ?_
  refine ga_getr (b := 1) hm_120 rfl sc_118 rfl ?_
  refine fl_iconst hm_120 rfl ?_
  refine gIv (nY := 2) (F := 6) (L := 100) (As := [.int (Int32.ofInt 3)]) (b := 1) (rest := []) hm_120 rfl hm_25 rfl rfl (fl_ob sc_1) rfl rfl rfl rfl rfl (by omega) (by omega) ?_
  intro f109_ l110_ h111_ h112_
  show fl_R xi_ms 25 f109_ l110_ 0 [(0, .ref 1), (1, .int (Int32.ofInt 3))] [] _ _
  refine ga_aload_n (v := .ref 1) hm_25 rfl rfl rfl ?_
  refine ga_iload_n (z := 3) hm_25 rfl rfl ?_
  refine fl_bipush hm_25 rfl rfl ?_
  refine ga_aload_n (v := .ref 1) hm_25 rfl rfl rfl ?_
  refine ga_getr (b := 4) hm_25 rfl sc_1 rfl ?_
  refine ga_aload_n (v := .ref 1) hm_25 rfl rfl rfl ?_
  refine ga_geti (z := F28_ 1 7) hm_25 rfl sc_1 rfl (rfl) ?_
  have e113_ : F28_ 4 (F28_ 1 7).toNat = K 4 (F28_ 1 7).toNat := tk32_.1 4 (F28_ 1 7).toNat (by omega)
  have b114_ : 0 ≤ K 4 (F28_ 1 7).toNat ∧ K 4 (F28_ 1 7).toNat ≤ 600 := gi_g hgK rfl
  refine ga_iald (z := F28_ 1 7) (w := K 4 (F28_ 1 7).toNat) hm_25 rfl sc_4 (by omega) (by omega) (by omega) (e113_) ?_
  refine ga_imul (a := 10) (b := K 4 (F28_ 1 7).toNat) (c := 10 * (K 4 (F28_ 1 7).toNat)) hm_25 rfl (by omega) ?_
  refine ga_iadd (a := 3) (b := 10 * (K 4 (F28_ 1 7).toNat)) (c := 10 * (K 4 (F28_ 1 7).toNat) + 3) hm_25 rfl (by omega) ?_
  refine ga_puti (z := 10 * (K 4 (F28_ 1 7).toNat) + 3) hm_25 rfl sc_1 rfl rfl ?_
  obtain ⟨F115_, q116_⟩ : ∃ Fq_, Fq_ = (fl_u F28_ 1 8 (10 * (K 4 (F28_ 1 7).toNat) + 3)) := ⟨_, rfl⟩
  rw [← q116_]
  have g117_ : gi F115_ := by rw [q116_]; exact gi_u (g29_) rfl (by omega) (by omega)
  have g118_ : fs [(1, 1, 7, 8)] F F115_ := by rw [q116_]; exact fs_u (g31_) rfl
  have tk119_ : tkh K F115_ := by rw [q116_]; exact tkh_u (tk32_) (by first | decide | exact nc_ rfl | omega) (by first | decide | exact nc_ rfl | omega)
  refine fl_thr hm_25 rfl rfl (by omega) (by omega) (Nat.le_of_ble_eq_true rfl) (fl_pos sc_0) ?_
  refine gw_v ⟨rfl, ?_⟩
  refine gw_v ?_
  exact ⟨F115_, ⟨ga_len.symm, (List.append_assoc _ _ _).symm⟩, g117_, g118_⟩
/- CheapPlanner$Reader.readObjects -/
abbrev pq_122 (G : Nat → Nat → Option Nat) (F : fl_N) (X : xi_H) (K : fl_N) (ts : List Int) : Outcome → xi_H → Prop := gqv (fun A => ∃ F' : fl_N, fl_H sh_T G F' ++ X = A ∧ gi F' ∧ fs [(1, 1, 7, 8), (105, 107, 0, 100000)] F F' ∧ (0 ≤ F' 1 7 ∧ F' 1 7 ≤ K 1 6 - 1) ∧ (∃ l tl, rep (F' 106) (F' 105 2) l ∧ rep (F' 107) (F' 105 2) tl)) (fun j A => ∃ F' : fl_N, (387 + X.length = j ∧ fl_H sh_T G F' ++ (X ++ [gx 14]) = A) ∧ gi F' ∧ fs [(1, 1, 7, 8), (105, 107, 0, 100000)] F F')
theorem mc_122 {G : Nat → Nat → Option Nat} (hG : gg G) (F : fl_N) (X : xi_H) (hgi : gi F) (K : fl_N) (ts : List Int) (hgK : gi K) (hK : tkh K F) (hko : tko K) (hp : 0 ≤ F 1 7 ∧ F 1 7 ≤ K 1 6 - 1) (hts : rep (F 9) (F 8 2) ts) (h0 : F 105 2 = 0) : fl_M xi_ms 122 9 165 [.ref 118] (fl_H sh_T G F ++ X) (pq_122 G F X K ts) := by
  intro fr lo hfr hlo
  show fl_R xi_ms 122 fr lo 0 [(0, .ref 118)] [] _ _
  refine ga_aload_n (v := .ref 118) hm_122 rfl rfl rfl ?_
  refine ga_ldcs hm_122 rfl ?_
  refine gIv (nY := 2) (F := 8) (L := 144) (As := [.retAddr 18]) (b := 118) (rest := []) hm_122 rfl hm_118 rfl rfl (fl_ob sc_118) rfl rfl rfl rfl rfl (by omega) (by omega) ?_
  intro f1_ l2_ h3_ h4_
  show fl_R xi_ms 118 f1_ l2_ 0 [(0, .ref 118), (1, .retAddr 18)] [] _ _
  refine ga_aload_n (v := .ref 118) hm_118 rfl rfl rfl ?_
  refine ga_getr (b := 1) hm_118 rfl sc_118 rfl ?_
  refine fl_iconst hm_118 rfl ?_
  have b5_ : 0 ≤ F 1 7 ∧ F 1 7 ≤ 600 := gi_g hgi rfl
  refine gVv (nY := 2) (F := 7) (L := 121) (As := [.int (Int32.ofInt 0)]) (b := 1) (rest := []) hm_118 rfl hm_24 rfl rfl (fl_ob sc_1) rfl rfl rfl rfl rfl (by omega) (by omega) (mc_24 hG F X hgi (K) (0) hgK hK hko (⟨by omega, by omega⟩) (⟨by omega, by omega⟩)) ?_ ?_
  ·
    rintro j_ A1_ ⟨F7_, ⟨hJ_, hA_⟩, g8_, s9_, c6_⟩
    subst hA_
    subst hJ_
    refine ⟨rfl, ?_⟩
    refine gw_v ⟨rfl, ?_⟩
    refine gw_v ?_
    have g10_ : fs [(1, 1, 7, 8), (105, 107, 0, 100000)] F F7_ := fs_tr fs_refl s9_ rfl
    exact ⟨F7_, ⟨rfl, rfl⟩, g8_, g10_⟩
  rintro A1_ ⟨F14_, hA_, g15_, s16_, c12_, c13_⟩
  subst hA_
  have g17_ : fs [(1, 1, 7, 8), (105, 107, 0, 100000)] F F14_ := fs_tr fs_refl s16_ rfl
  have tk18_ : tkh K F14_ := tkh_fs hK s16_ (fs_rg rfl) rfl
  refine ga_aload_n (v := .ref 118) hm_118 rfl rfl rfl ?_
  refine ga_getr (b := 1) hm_118 rfl sc_118 rfl ?_
  refine ga_aload_n (v := .retAddr 18) hm_118 rfl rfl rfl ?_
  have b19_ : 0 ≤ F14_ 1 7 ∧ F14_ 1 7 ≤ 600 := gi_g g15_ rfl
  refine gVv (nY := 2) (F := 7) (L := 123) (As := [.retAddr 18]) (b := 1) (rest := []) hm_118 rfl hm_155 rfl rfl (fl_ob sc_1) rfl rfl rfl rfl rfl (by omega) (by omega) (mc_155 hG F14_ X g15_ (K) (18) ([58, 111, 98, 106, 101, 99, 116, 115]) hgK tk18_ hko (⟨by omega, by omega⟩) (rfl) (by decide)) ?_ ?_
  ·
    rintro j_ A1_ ⟨F21_, ⟨hJ_, hA_⟩, g22_, s23_, c20_⟩
    subst hA_
    subst hJ_
    refine ⟨rfl, ?_⟩
    refine gw_v ⟨rfl, ?_⟩
    refine gw_v ?_
    have g24_ : fs [(1, 1, 7, 8), (105, 107, 0, 100000)] F F21_ := fs_tr g17_ s23_ rfl
    exact ⟨F21_, ⟨rfl, rfl⟩, g22_, g24_⟩
  rintro A1_ ⟨F28_, hA_, g29_, s30_, c26_, c27_⟩
  subst hA_
  have g31_ : fs [(1, 1, 7, 8), (105, 107, 0, 100000)] F F28_ := fs_tr g17_ s30_ rfl
  have tk32_ : tkh K F28_ := tkh_fs tk18_ s30_ (fs_rg rfl) rfl
  refine gr_v hm_118 rfl rfl ?_
  clear h3_ h4_ f1_ l2_
  refine fl_iconst hm_122 rfl ?_
  refine ga_istore_n (lv2 := [(1, .int (Int32.ofInt 0)), (0, .ref 118)]) hm_122 rfl (Nat.le_of_ble_eq_true rfl) rfl ?_
  have L34_ : ∀ (n33_ : Nat) (i : Int) (l : List Int) (tl : List Int) (F1 : fl_N), (6 - i : Int).toNat = n33_ → (gi F1) → (fs [(1, 1, 7, 8), (105, 107, 0, 100000)] F28_ F1) → (0 ≤ i ∧ i ≤ 6) → (rep (F1 106) (F1 105 2) l) → (rep (F1 107) (F1 105 2) tl) → ((l.length : Int) = i) → (0 ≤ F1 1 7 ∧ F1 1 7 ≤ K 1 6 - 1) → fl_R xi_ms 122 fr lo 8 [(1, .int (Int32.ofInt i)), (0, .ref 118)] [] (fl_H sh_T G F1 ++ X) (pq_122 G F X K ts) := by
    intro n33_
    induction n33_ using Nat.strongRecOn with
    | ind n33_ ih35_ =>
    intro i l tl F1 hn36_ hg_F1 hf_F1 hi hl htl hli hp1
    have g37_ : fs [(1, 1, 7, 8), (105, 107, 0, 100000)] F F1 := fs_tr g31_ hf_F1 rfl
    have tk38_ : tkh K F1 := tkh_fs tk32_ hf_F1 (fs_rg rfl) rfl
    refine ga_iload_n (z := i) hm_122 rfl rfl ?_
    refine fl_bipush hm_122 rfl rfl ?_
    refine fl_icmp_ge (a := i) (b := 6) hm_122 rfl ⟨by omega, by omega⟩ ⟨by omega, by omega⟩ (fun h39_ => ?_) (fun h40_ => ?_)
    ·
      refine ga_aload_n (v := .ref 118) hm_122 rfl rfl rfl ?_
      refine ga_getr (b := 1) hm_122 rfl sc_118 rfl ?_
      refine fl_iconst hm_122 rfl ?_
      have b41_ : 0 ≤ F1 1 7 ∧ F1 1 7 ≤ 600 := gi_g hg_F1 rfl
      refine gVv (nY := 2) (F := 7) (L := 121) (As := [.int (Int32.ofInt 1)]) (b := 1) (rest := []) hm_122 rfl hm_24 rfl rfl (fl_ob sc_1) rfl rfl rfl rfl rfl (by omega) (by omega) (mc_24 hG F1 X hg_F1 (K) (1) hgK tk38_ hko (⟨by omega, by omega⟩) (⟨by omega, by omega⟩)) ?_ ?_
      ·
        rintro j_ A1_ ⟨F43_, ⟨hJ_, hA_⟩, g44_, s45_, c42_⟩
        subst hA_
        subst hJ_
        refine ⟨rfl, ?_⟩
        refine gw_v ?_
        have g46_ : fs [(1, 1, 7, 8), (105, 107, 0, 100000)] F F43_ := fs_tr g37_ s45_ rfl
        exact ⟨F43_, ⟨rfl, rfl⟩, g44_, g46_⟩
      rintro A1_ ⟨F50_, hA_, g51_, s52_, c48_, c49_⟩
      subst hA_
      have g53_ : fs [(1, 1, 7, 8), (105, 107, 0, 100000)] F F50_ := fs_tr g37_ s52_ rfl
      have tk54_ : tkh K F50_ := tkh_fs tk38_ s52_ (fs_rg rfl) rfl
      refine gr_v hm_122 rfl rfl ?_
      have b55_ : 0 ≤ F50_ 1 7 ∧ F50_ 1 7 ≤ 600 := gi_g g51_ rfl
      have e56_ : F50_ 105 2 = F1 105 2 := (s52_ 105 2 rfl).trans (rfl)
      have b57_ : 0 ≤ F1 105 2 ∧ F1 105 2 ≤ 6 := gi_g hg_F1 rfl
      exact ⟨F50_, rfl, g51_, g53_, (⟨by omega, by omega⟩), (⟨l, tl, (rep_fs hl s52_ (fun _ => (by first | exact fs_c rfl | exact (fs_n (by omega) rfl))) (by first | exact fs_c rfl | exact (fs_n (by omega) rfl))), (rep_fs htl s52_ (fun _ => (by first | exact fs_c rfl | exact (fs_n (by omega) rfl))) (by first | exact fs_c rfl | exact (fs_n (by omega) rfl)))⟩)⟩
    refine ga_iload_n (z := i) hm_122 rfl rfl ?_
    refine fl_if_eq (a := i) hm_122 rfl ⟨by omega, by omega⟩ (fun h58_ => ?_) (fun h59_ => ?_)
    ·
      refine ga_aload_n (v := .ref 118) hm_122 rfl rfl rfl ?_
      refine ga_aload_n (v := .ref 118) hm_122 rfl rfl rfl ?_
      refine ga_getr (b := 104) hm_122 rfl sc_118 rfl ?_
      refine ga_getr (b := 105) hm_122 rfl sc_104 rfl ?_
      refine fl_iconst hm_122 rfl ?_
      have b60_ : 0 ≤ F1 1 7 ∧ F1 1 7 ≤ 600 := gi_g hg_F1 rfl
      refine gVv (nY := 3) (F := 8) (L := 143) (As := [.ref 105, .int (Int32.ofInt 2)]) (b := 118) (rest := []) hm_122 rfl hm_127 rfl rfl (fl_ob sc_118) rfl rfl rfl rfl rfl (by omega) (by omega) (mc_127 hG F1 X hg_F1 (K) (105) (6) (2) (l) (tl) (ts) hgK tk38_ hko (⟨by omega, by omega⟩) nm_105 (by omega) (⟨by omega, by omega⟩) (hl) (htl) (by omega) ((rep_fs (rep_fs (rep_fs hts s16_ (fun _ => (by first | exact fs_c rfl | exact (fs_n (by omega) rfl))) (by first | exact fs_c rfl | exact (fs_n (by omega) rfl))) s30_ (fun _ => (by first | exact fs_c rfl | exact (fs_n (by omega) rfl))) (by first | exact fs_c rfl | exact (fs_n (by omega) rfl))) hf_F1 (fun _ => (by first | exact fs_c rfl | exact (fs_n (by omega) (fs_n (by omega) rfl)))) (by first | exact fs_c rfl | exact (fs_n (by omega) (fs_n (by omega) rfl)))))) ?_ ?_
      ·
        rintro j_ A1_ ⟨F62_, ⟨hJ_, hA_⟩, g63_, s64_, c61_⟩
        subst hA_
        subst hJ_
        refine ⟨rfl, ?_⟩
        refine gw_v ?_
        have g65_ : fs [(1, 1, 7, 8), (105, 107, 0, 100000)] F F62_ := fs_tr g37_ s64_ rfl
        exact ⟨F62_, ⟨rfl, rfl⟩, g63_, g65_⟩
      rintro A1_ ⟨F70_, hA_, g71_, s72_, c67_, c68_, c69_⟩
      subst hA_
      have g73_ : fs [(1, 1, 7, 8), (105, 107, 0, 100000)] F F70_ := fs_tr g37_ s72_ rfl
      have tk74_ : tkh K F70_ := tkh_fs tk38_ s72_ (fs_rg rfl) rfl
      obtain ⟨t_, ct1_, ct2_⟩ := c67_
      refine ga_inc (a := i) (c := i + 1) (lv2 := [(1, .int (Int32.ofInt (i + 1))), (0, .ref 118)]) hm_122 rfl rfl (Nat.le_of_ble_eq_true rfl) rfl rfl ?_
      refine fl_goto hm_122 rfl ?_
      have b75_ : 0 ≤ F70_ 105 2 ∧ F70_ 105 2 ≤ 6 := gi_g g71_ rfl
      have b76_ : 0 ≤ F1 105 2 ∧ F1 105 2 ≤ 6 := gi_g hg_F1 rfl
      have b77_ : 0 ≤ F70_ 1 7 ∧ F70_ 1 7 ≤ 600 := gi_g g71_ rfl
      have b78_ : 0 ≤ K 1 6 ∧ K 1 6 ≤ 601 := gi_g hgK rfl
      exact ih35_ _ (by omega) (i + 1) (_) (_) F70_ rfl g71_ (fs_tr hf_F1 s72_ rfl) (⟨by omega, by omega⟩) (c69_) (ct2_) (by simp; omega) (⟨by omega, by omega⟩)
    refine ga_aload_n (v := .ref 118) hm_122 rfl rfl rfl ?_
    refine ga_getr (b := 1) hm_122 rfl sc_118 rfl ?_
    refine fl_iconst hm_122 rfl ?_
    refine gIi (nY := 2) (F := 0) (L := 0) (As := [.int (Int32.ofInt 1)]) (b := 1) (rest := []) hm_122 rfl hm_153 rfl rfl (fl_ob sc_1) rfl rfl rfl rfl rfl (by omega) (by omega) ?_
    intro f79_ l80_ h81_ h82_
    show fl_R xi_ms 153 f79_ l80_ 0 [(0, .ref 1), (1, .int (Int32.ofInt 1))] [] _ _
    refine ga_aload_n (v := .ref 1) hm_153 rfl rfl rfl ?_
    refine ga_getr (b := 3) hm_153 rfl sc_1 rfl ?_
    refine ga_aload_n (v := .ref 1) hm_153 rfl rfl rfl ?_
    have b83_ : 0 ≤ F1 1 7 ∧ F1 1 7 ≤ 600 := gi_g hg_F1 rfl
    refine ga_geti (z := F1 1 7) hm_153 rfl sc_1 rfl (rfl) ?_
    have e84_ : F1 3 (F1 1 7).toNat = K 3 (F1 1 7).toNat := tk38_.1 3 (F1 1 7).toNat (by omega)
    have b85_ : 0 ≤ K 3 (F1 1 7).toNat ∧ K 3 (F1 1 7).toNat ≤ 5 := gi_g hgK rfl
    refine ga_iald (z := F1 1 7) (w := K 3 (F1 1 7).toNat) hm_153 rfl sc_3 (by omega) (by omega) (by omega) (e84_) ?_
    refine ga_iload_n (z := 1) hm_153 rfl rfl ?_
    refine fx_icmp_ne (a := K 3 (F1 1 7).toNat) (b := 1) hm_153 rfl ⟨by omega, by omega⟩ ⟨by omega, by omega⟩ (fun h86_ => ?_) (fun h87_ => ?_)
    ·
      refine fl_iconst hm_153 rfl ?_
      refine gr_i hm_153 rfl rfl (ga_nb (by omega)) ?_
      clear h81_ h82_ f79_ l80_
      refine fl_if_ne hm_122 rfl ⟨by omega, by omega⟩ (fun h => absurd h (by omega)) (fun _ => ?_)
      refine ga_aload_n (v := .ref 118) hm_122 rfl rfl rfl ?_
      refine ga_aload_n (v := .ref 118) hm_122 rfl rfl rfl ?_
      refine ga_getr (b := 104) hm_122 rfl sc_118 rfl ?_
      refine ga_getr (b := 105) hm_122 rfl sc_104 rfl ?_
      refine fl_iconst hm_122 rfl ?_
      refine gVv (nY := 3) (F := 8) (L := 143) (As := [.ref 105, .int (Int32.ofInt 2)]) (b := 118) (rest := []) hm_122 rfl hm_127 rfl rfl (fl_ob sc_118) rfl rfl rfl rfl rfl (by omega) (by omega) (mc_127 hG F1 X hg_F1 (K) (105) (6) (2) (l) (tl) (ts) hgK tk38_ hko (⟨by omega, by omega⟩) nm_105 (by omega) (⟨by omega, by omega⟩) (hl) (htl) (by omega) ((rep_fs (rep_fs (rep_fs hts s16_ (fun _ => (by first | exact fs_c rfl | exact (fs_n (by omega) rfl))) (by first | exact fs_c rfl | exact (fs_n (by omega) rfl))) s30_ (fun _ => (by first | exact fs_c rfl | exact (fs_n (by omega) rfl))) (by first | exact fs_c rfl | exact (fs_n (by omega) rfl))) hf_F1 (fun _ => (by first | exact fs_c rfl | exact (fs_n (by omega) (fs_n (by omega) rfl)))) (by first | exact fs_c rfl | exact (fs_n (by omega) (fs_n (by omega) rfl)))))) ?_ ?_
      ·
        rintro j_ A1_ ⟨F89_, ⟨hJ_, hA_⟩, g90_, s91_, c88_⟩
        subst hA_
        subst hJ_
        refine ⟨rfl, ?_⟩
        refine gw_v ?_
        have g92_ : fs [(1, 1, 7, 8), (105, 107, 0, 100000)] F F89_ := fs_tr g37_ s91_ rfl
        exact ⟨F89_, ⟨rfl, rfl⟩, g90_, g92_⟩
      rintro A1_ ⟨F97_, hA_, g98_, s99_, c94_, c95_, c96_⟩
      subst hA_
      have g100_ : fs [(1, 1, 7, 8), (105, 107, 0, 100000)] F F97_ := fs_tr g37_ s99_ rfl
      have tk101_ : tkh K F97_ := tkh_fs tk38_ s99_ (fs_rg rfl) rfl
      obtain ⟨t_, ct1_, ct2_⟩ := c94_
      refine ga_inc (a := i) (c := i + 1) (lv2 := [(1, .int (Int32.ofInt (i + 1))), (0, .ref 118)]) hm_122 rfl rfl (Nat.le_of_ble_eq_true rfl) rfl rfl ?_
      refine fl_goto hm_122 rfl ?_
      have b102_ : 0 ≤ F97_ 105 2 ∧ F97_ 105 2 ≤ 6 := gi_g g98_ rfl
      have b103_ : 0 ≤ F1 105 2 ∧ F1 105 2 ≤ 6 := gi_g hg_F1 rfl
      have b104_ : 0 ≤ F97_ 1 7 ∧ F97_ 1 7 ≤ 600 := gi_g g98_ rfl
      have b105_ : 0 ≤ K 1 6 ∧ K 1 6 ≤ 601 := gi_g hgK rfl
      exact ih35_ _ (by omega) (i + 1) (_) (_) F97_ rfl g98_ (fs_tr hf_F1 s99_ rfl) (⟨by omega, by omega⟩) (c96_) (ct2_) (by simp; omega) (⟨by omega, by omega⟩)
    refine fl_iconst hm_153 rfl ?_
    refine fl_goto hm_153 rfl ?_
    refine gr_i hm_153 rfl rfl (ga_nb (by omega)) ?_
    clear h81_ h82_ f79_ l80_
    refine fl_if_ne hm_122 rfl ⟨by omega, by omega⟩ (fun _ => ?_) (fun h => absurd (by omega) h)
    refine ga_aload_n (v := .ref 118) hm_122 rfl rfl rfl ?_
    refine ga_getr (b := 1) hm_122 rfl sc_118 rfl ?_
    refine fl_iconst hm_122 rfl ?_
    refine gVv (nY := 2) (F := 7) (L := 121) (As := [.int (Int32.ofInt 1)]) (b := 1) (rest := []) hm_122 rfl hm_24 rfl rfl (fl_ob sc_1) rfl rfl rfl rfl rfl (by omega) (by omega) (mc_24 hG F1 X hg_F1 (K) (1) hgK tk38_ hko (⟨by omega, by omega⟩) (⟨by omega, by omega⟩)) ?_ ?_
    ·
      rintro j_ A1_ ⟨F107_, ⟨hJ_, hA_⟩, g108_, s109_, c106_⟩
      subst hA_
      subst hJ_
      refine ⟨rfl, ?_⟩
      refine gw_v ?_
      have g110_ : fs [(1, 1, 7, 8), (105, 107, 0, 100000)] F F107_ := fs_tr g37_ s109_ rfl
      exact ⟨F107_, ⟨rfl, rfl⟩, g108_, g110_⟩
    rintro A1_ ⟨F114_, hA_, g115_, s116_, c112_, c113_⟩
    subst hA_
    have g117_ : fs [(1, 1, 7, 8), (105, 107, 0, 100000)] F F114_ := fs_tr g37_ s116_ rfl
    have tk118_ : tkh K F114_ := tkh_fs tk38_ s116_ (fs_rg rfl) rfl
    refine gr_v hm_122 rfl rfl ?_
    have b119_ : 0 ≤ F114_ 1 7 ∧ F114_ 1 7 ≤ 600 := gi_g g115_ rfl
    have e120_ : F114_ 105 2 = F1 105 2 := (s116_ 105 2 rfl).trans (rfl)
    have b121_ : 0 ≤ F1 105 2 ∧ F1 105 2 ≤ 6 := gi_g hg_F1 rfl
    exact ⟨F114_, rfl, g115_, g117_, (⟨by omega, by omega⟩), (⟨l, tl, (rep_fs hl s116_ (fun _ => (by first | exact fs_c rfl | exact (fs_n (by omega) rfl))) (by first | exact fs_c rfl | exact (fs_n (by omega) rfl))), (rep_fs htl s116_ (fun _ => (by first | exact fs_c rfl | exact (fs_n (by omega) rfl))) (by first | exact fs_c rfl | exact (fs_n (by omega) rfl)))⟩)⟩
  have e122_ : F14_ 105 2 = F 105 2 := (s16_ 105 2 rfl).trans (rfl)
  have e123_ : F28_ 105 2 = F 105 2 := (s30_ 105 2 rfl).trans (e122_)
  have b124_ : 0 ≤ F 105 2 ∧ F 105 2 ≤ 6 := gi_g hgi rfl
  have b125_ : 0 ≤ F28_ 1 7 ∧ F28_ 1 7 ≤ 600 := gi_g g29_ rfl
  have b126_ : 0 ≤ K 1 6 ∧ K 1 6 ≤ 601 := gi_g hgK rfl
  exact L34_ _ (0) ([]) ([]) F28_ rfl g29_ fs_refl (⟨by omega, by omega⟩) (rep_0 (Eq.trans (Eq.trans (a := F28_ 105 2) (b := F14_ 105 2) (s30_ 105 2 (by first | exact fs_c rfl | exact (fs_n (by omega) rfl))) (show F14_ 105 2 = F 105 2 from (s16_ 105 2 (by first | exact fs_c rfl | exact (fs_n (by omega) rfl))))) h0)) (rep_0 (Eq.trans (Eq.trans (a := F28_ 105 2) (b := F14_ 105 2) (s30_ 105 2 (by first | exact fs_c rfl | exact (fs_n (by omega) rfl))) (show F14_ 105 2 = F 105 2 from (s16_ 105 2 (by first | exact fs_c rfl | exact (fs_n (by omega) rfl))))) h0)) (by simp) (⟨by omega, by omega⟩)
/- CheapPlanner$ClauseReader.readAtoms -/
abbrev pq_89 (G : Nat → Nat → Option Nat) (F : fl_N) (X : xi_H) (K : fl_N) (l tl pl : List Int) (ps : List (List Int)) (mo : Int) : Outcome → xi_H → Prop := gqv (fun A => ∃ F' : fl_N, fl_H sh_T G F' ++ X = A ∧ gi F' ∧ fs [(1, 1, 7, 8), (108, 108, 4, 4), (109, 112, 0, 100000)] F F' ∧ (0 ≤ F' 1 7 ∧ F' 1 7 ≤ K 1 6 - 1) ∧ (cw F' 108 (l.length : Int))) (fun j A => ∃ F' : fl_N, (387 + X.length = j ∧ fl_H sh_T G F' ++ (X ++ [gx 14]) = A) ∧ gi F' ∧ fs [(1, 1, 7, 8), (108, 108, 4, 4), (109, 112, 0, 100000)] F F')
theorem mc_89 {G : Nat → Nat → Option Nat} (hG : gg G) (F : fl_N) (X : xi_H) (hgi : gi F) (K : fl_N) (l tl pl : List Int) (ps : List (List Int)) (mo : Int) (hgK : gi K) (hK : tkh K F) (hko : tko K) (hp : 0 ≤ F 1 7 ∧ F 1 7 ≤ K 1 6 - 1) (hmo : mo = 12) (hta : F 119 2 = 105) (htk : F 119 3 = 2) (hl : rep (F 106) (F 105 2) l) (htl : rep (F 107) (F 105 2) tl) (hpl : rep (F 12) (F 11 2) pl) (hps : prd F ps) (hpn : pl.length = ps.length) (hcw : cw F 108 (l.length : Int)) : fl_M xi_ms 89 9 169 [.ref 119, .ref 108, .int (Int32.ofInt mo)] (fl_H sh_T G F ++ X) (pq_89 G F X K l tl pl ps mo) := by
  intro fr lo hfr hlo
  show fl_R xi_ms 89 fr lo 0 [(0, .ref 119), (1, .ref 108), (2, .int (Int32.ofInt mo))] [] _ _
  have hpl1 := hpl.1
  have hb11 : 0 ≤ F 11 2 ∧ F 11 2 ≤ 6 := gi_g hgi rfl
  refine fl_iconst hm_89 rfl ?_
  refine ga_istore_n (lv2 := [(3, .int (Int32.ofInt 0)), (0, .ref 119), (1, .ref 108), (2, .int (Int32.ofInt mo))]) hm_89 rfl (Nat.le_of_ble_eq_true rfl) rfl ?_
  have L2_ : ∀ (n1_ : Nat) (i : Int) (F1 : fl_N), (12 - i : Int).toNat = n1_ → (gi F1) → (fs [(1, 1, 7, 8), (108, 108, 4, 4), (109, 112, 0, 100000)] F F1) → (0 ≤ i ∧ i ≤ 12) → (0 ≤ F1 1 7 ∧ F1 1 7 ≤ K 1 6 - 1) → (cw F1 108 (l.length : Int)) → fl_R xi_ms 89 fr lo 2 [(3, .int (Int32.ofInt i)), (0, .ref 119), (1, .ref 108), (2, .int (Int32.ofInt mo))] [] (fl_H sh_T G F1 ++ X) (pq_89 G F X K l tl pl ps mo) := by
    intro n1_
    induction n1_ using Nat.strongRecOn with
    | ind n1_ ih3_ =>
    intro i F1 hn4_ hg_F1 hf_F1 hi hp1 hc1
    have g5_ : fs [(1, 1, 7, 8), (108, 108, 4, 4), (109, 112, 0, 100000)] F F1 := fs_tr fs_refl hf_F1 rfl
    have tk6_ : tkh K F1 := tkh_fs hK hf_F1 (fs_rg rfl) rfl
    refine ga_iload_n (z := i) hm_89 rfl rfl ?_
    refine ga_iload_n (z := mo) hm_89 rfl rfl ?_
    refine fl_icmp_ge (a := i) (b := mo) hm_89 rfl ⟨by omega, by omega⟩ ⟨by omega, by omega⟩ (fun h7_ => ?_) (fun h8_ => ?_)
    ·
      refine gr_v hm_89 rfl rfl ?_
      have b9_ : 0 ≤ F1 1 7 ∧ F1 1 7 ≤ 600 := gi_g hg_F1 rfl
      exact ⟨F1, rfl, hg_F1, g5_, (⟨by omega, by omega⟩), (hc1)⟩
    refine ga_aload_n (v := .ref 119) hm_89 rfl rfl rfl ?_
    refine ga_getr (b := 1) hm_89 rfl sc_119 rfl ?_
    refine fl_iconst hm_89 rfl ?_
    refine gIi (nY := 2) (F := 0) (L := 0) (As := [.int (Int32.ofInt 0)]) (b := 1) (rest := []) hm_89 rfl hm_153 rfl rfl (fl_ob sc_1) rfl rfl rfl rfl rfl (by omega) (by omega) ?_
    intro f10_ l11_ h12_ h13_
    show fl_R xi_ms 153 f10_ l11_ 0 [(0, .ref 1), (1, .int (Int32.ofInt 0))] [] _ _
    refine ga_aload_n (v := .ref 1) hm_153 rfl rfl rfl ?_
    refine ga_getr (b := 3) hm_153 rfl sc_1 rfl ?_
    refine ga_aload_n (v := .ref 1) hm_153 rfl rfl rfl ?_
    have b14_ : 0 ≤ F1 1 7 ∧ F1 1 7 ≤ 600 := gi_g hg_F1 rfl
    refine ga_geti (z := F1 1 7) hm_153 rfl sc_1 rfl (rfl) ?_
    have e15_ : F1 3 (F1 1 7).toNat = K 3 (F1 1 7).toNat := tk6_.1 3 (F1 1 7).toNat (by omega)
    have b16_ : 0 ≤ K 3 (F1 1 7).toNat ∧ K 3 (F1 1 7).toNat ≤ 5 := gi_g hgK rfl
    refine ga_iald (z := F1 1 7) (w := K 3 (F1 1 7).toNat) hm_153 rfl sc_3 (by omega) (by omega) (by omega) (e15_) ?_
    refine ga_iload_n (z := 0) hm_153 rfl rfl ?_
    refine fx_icmp_ne (a := K 3 (F1 1 7).toNat) (b := 0) hm_153 rfl ⟨by omega, by omega⟩ ⟨by omega, by omega⟩ (fun h17_ => ?_) (fun h18_ => ?_)
    ·
      refine fl_iconst hm_153 rfl ?_
      refine gr_i hm_153 rfl rfl (ga_nb (by omega)) ?_
      clear h12_ h13_ f10_ l11_
      refine fl_if_eq hm_89 rfl ⟨by omega, by omega⟩ (fun _ => ?_) (fun h => absurd (by omega) h)
      refine gr_v hm_89 rfl rfl ?_
      exact ⟨F1, rfl, hg_F1, g5_, (⟨by omega, by omega⟩), (hc1)⟩
    refine fl_iconst hm_153 rfl ?_
    refine fl_goto hm_153 rfl ?_
    refine gr_i hm_153 rfl rfl (ga_nb (by omega)) ?_
    clear h12_ h13_ f10_ l11_
    refine fl_if_eq hm_89 rfl ⟨by omega, by omega⟩ (fun h => absurd h (by omega)) (fun _ => ?_)
    refine ga_aload_n (v := .ref 119) hm_89 rfl rfl rfl ?_
    refine ga_getr (b := 1) hm_89 rfl sc_119 rfl ?_
    refine gVv (nY := 1) (F := 0) (L := 0) (As := []) (b := 1) (rest := []) hm_89 rfl hm_154 rfl rfl (fl_ob sc_1) rfl rfl rfl rfl rfl (by omega) (by omega) (mc_154 hG F1 X hg_F1 (K) hgK tk6_ hko (⟨by omega, by omega⟩)) (fun _ _ h => False.elim h) ?_
    rintro A1_ ⟨F22_, hA_, g23_, s24_, c20_, c21_⟩
    subst hA_
    have g25_ : fs [(1, 1, 7, 8), (108, 108, 4, 4), (109, 112, 0, 100000)] F F22_ := fs_tr g5_ s24_ rfl
    have tk26_ : tkh K F22_ := tkh_fs tk6_ s24_ (fs_rg rfl) rfl
    refine ga_aload_n (v := .ref 119) hm_89 rfl rfl rfl ?_
    refine ga_aload_n (v := .ref 108) hm_89 rfl rfl rfl ?_
    refine fl_iconst hm_89 rfl ?_
    have b27_ : 0 ≤ F22_ 1 7 ∧ F22_ 1 7 ≤ 600 := gi_g g23_ rfl
    have e28_ : F1 119 2 = F 119 2 := (hf_F1 119 2 rfl).trans (rfl)
    have e29_ : F22_ 119 2 = F 119 2 := (s24_ 119 2 rfl).trans (e28_)
    have b30_ : 8 ≤ F 119 2 ∧ F 119 2 ≤ 105 := gi_g hgi rfl
    have e31_ : F1 119 3 = F 119 3 := (hf_F1 119 3 rfl).trans (rfl)
    have e32_ : F22_ 119 3 = F 119 3 := (s24_ 119 3 rfl).trans (e31_)
    have b33_ : 2 ≤ F 119 3 ∧ F 119 3 ≤ 3 := gi_g hgi rfl
    refine gVv (nY := 7) (F := 8) (L := 143) (As := [.ref 108, .int (Int32.ofInt 0)]) (b := 119) (rest := []) hm_89 rfl hm_88 rfl rfl (fl_ob sc_119) rfl rfl rfl rfl rfl (by omega) (by omega) (mc_88 hG F22_ X g23_ (K) (105) (6) (108) (12) (5) (0) (2) (l) (tl) (pl) (ps) (0) hgK tk26_ hko (⟨by omega, by omega⟩) nm_105 (by omega) (by omega) ((rep_fs (rep_fs hl hf_F1 (fun _ => (by first | exact fs_c rfl | exact (fs_n (by omega) (fs_n (by omega) (fs_n (by omega) rfl))))) (by first | exact fs_c rfl | exact (fs_n (by omega) (fs_n (by omega) (fs_n (by omega) rfl))))) s24_ (fun _ => (by first | exact fs_c rfl | exact (fs_n (by omega) rfl))) (by first | exact fs_c rfl | exact (fs_n (by omega) rfl)))) ((rep_fs (rep_fs htl hf_F1 (fun _ => (by first | exact fs_c rfl | exact (fs_n (by omega) (fs_n (by omega) (fs_n (by omega) rfl))))) (by first | exact fs_c rfl | exact (fs_n (by omega) (fs_n (by omega) (fs_n (by omega) rfl))))) s24_ (fun _ => (by first | exact fs_c rfl | exact (fs_n (by omega) rfl))) (by first | exact fs_c rfl | exact (fs_n (by omega) rfl)))) (⟨by omega, by omega⟩) cl_108 (by omega) (by omega) ((cw_fs hc1 s24_ (by first | exact fs_rg rfl | exact fun r j hj => (fs_n (by omega) rfl)))) ((rep_fs (rep_fs hpl hf_F1 (fun _ => (by first | exact fs_c rfl | exact (fs_n (by omega) (fs_n (by omega) (fs_n (by omega) rfl))))) (by first | exact fs_c rfl | exact (fs_n (by omega) (fs_n (by omega) (fs_n (by omega) rfl))))) s24_ (fun _ => (by first | exact fs_c rfl | exact (fs_n (by omega) rfl))) (by first | exact fs_c rfl | exact (fs_n (by omega) rfl)))) ((prd_fs (prd_fs hps hf_F1 (fun _ _ _ => (by first | exact fs_c rfl | exact (fs_n (by omega) (fs_n (by omega) (fs_n (by omega) rfl)))))) s24_ (fun _ _ _ => (by first | exact fs_c rfl | exact (fs_n (by omega) rfl))))) (hpn) (by omega)) ?_ ?_
    ·
      rintro j_ A1_ ⟨F35_, ⟨hJ_, hA_⟩, g36_, s37_, c34_⟩
      subst hA_
      subst hJ_
      refine ⟨rfl, ?_⟩
      refine gw_v ?_
      have g38_ : fs [(1, 1, 7, 8), (108, 108, 4, 4), (109, 112, 0, 100000)] F F35_ := fs_tr g25_ s37_ rfl
      exact ⟨F35_, ⟨rfl, rfl⟩, g36_, g38_⟩
    rintro A1_ ⟨F43_, hA_, g44_, s45_, c40_, c41_, c42_⟩
    subst hA_
    have g46_ : fs [(1, 1, 7, 8), (108, 108, 4, 4), (109, 112, 0, 100000)] F F43_ := fs_tr g25_ s45_ rfl
    have tk47_ : tkh K F43_ := tkh_fs tk26_ s45_ (fs_rg rfl) rfl
    refine ga_inc (a := i) (c := i + 1) (lv2 := [(3, .int (Int32.ofInt (i + 1))), (0, .ref 119), (1, .ref 108), (2, .int (Int32.ofInt mo))]) hm_89 rfl rfl (Nat.le_of_ble_eq_true rfl) rfl rfl ?_
    refine fl_goto hm_89 rfl ?_
    have b48_ : 0 ≤ F43_ 1 7 ∧ F43_ 1 7 ≤ 600 := gi_g g44_ rfl
    have b49_ : 0 ≤ K 1 6 ∧ K 1 6 ≤ 601 := gi_g hgK rfl
    exact ih3_ _ (by omega) (i + 1) F43_ rfl g44_ (fs_tr (fs_tr hf_F1 s24_ rfl) s45_ rfl) (⟨by omega, by omega⟩) (⟨by omega, by omega⟩) (c42_)
  have b50_ : 0 ≤ F 1 7 ∧ F 1 7 ≤ 600 := gi_g hgi rfl
  have b51_ : 0 ≤ K 1 6 ∧ K 1 6 ≤ 601 := gi_g hgK rfl
  exact L2_ _ (0) F rfl hgi fs_refl (⟨by omega, by omega⟩) (⟨by omega, by omega⟩) (hcw)
/- CheapPlanner$Reader.readProblem -/
abbrev pq_125 (G : Nat → Nat → Option Nat) (F : fl_N) (X : xi_H)  : Outcome → xi_H → Prop := gqv (fun A => ∃ F' : fl_N, fl_H sh_T G F' ++ X = A ∧ gi F' ∧ fs [(1, 1, 1, 1), (1, 1, 6, 8), (3, 6, 0, 100000), (105, 117, 0, 100000), (119, 119, 2, 3)] F F' ∧ (F' 1 1 = 0) ∧ (c68 F') ∧ (c63 F')) (fun j A => ∃ F' : fl_N, (387 + X.length = j ∧ fl_H sh_T G F' ++ (X ++ [gx 14]) = A) ∧ gi F' ∧ fs [(1, 1, 1, 1), (1, 1, 6, 8), (3, 6, 0, 100000), (105, 117, 0, 100000), (119, 119, 2, 3)] F F' ∧ (F' 1 1 = 0))
theorem mc_125 {G : Nat → Nat → Option Nat} (hG : gg G) (F : fl_N) (X : xi_H) (hgi : gi F)  : fl_M xi_ms 125 11 215 [.ref 118] (fl_H sh_T G F ++ X) (pq_125 G F X) := by
  intro fr lo hfr hlo
  show fl_R xi_ms 125 fr lo 0 [(0, .ref 118)] [] _ _
  refine ga_aload_n (v := .ref 118) hm_125 rfl rfl rfl ?_
  refine ga_getr (b := 1) hm_125 rfl sc_118 rfl ?_
  refine gVv (nY := 5) (F := 2) (L := 53) (As := []) (b := 1) (rest := []) hm_125 rfl hm_22 rfl rfl (fl_ob sc_1) rfl rfl rfl rfl rfl (by omega) (by omega) (mc_22 hG F X hgi) (fun _ _ h => False.elim h) ?_
  have b2_ : 0 ≤ F 1 1 ∧ F 1 1 ≤ 600 := gi_g hgi rfl
  rintro A1_ ⟨F5_, hA_, g6_, s7_, c3_, c4_⟩
  subst hA_
  have g8_ : fs [(1, 1, 1, 1), (1, 1, 6, 8), (3, 6, 0, 100000), (105, 117, 0, 100000), (119, 119, 2, 3)] F F5_ := fs_tr fs_refl s7_ rfl
  obtain ⟨lt_, hlt_, htf_, hln_⟩ := c3_
  obtain ⟨K, hKe⟩ : ∃ K, K = F5_ := ⟨_, rfl⟩
  have hgK : gi K := by rw [hKe]; exact g6_
  have hK : tkh K F5_ := by rw [hKe]; exact ⟨fun _ _ _ => rfl, rfl⟩
  have htf : tkf K (F 2) (F 1 1) lt_ := by rw [hKe]; exact htf_
  have hbF : 0 ≤ F 1 1 ∧ F 1 1 ≤ 600 := gi_g hgi rfl
  have htw := tkw_of htf hlt_ hbF.1
  have hko := tko_of htf htw
  have hp0 : F5_ 1 7 = 0 := c4_.2.1
  have hK1 := hko.1
  have hkk : K 1 6 = F5_ 1 6 := by rw [hKe]
  have hcut : (∀ j, K 2 j = F 2 j) ∧ tkw K (F 2) (F 1 1) := ⟨fun j => by rw [hKe]; exact g8_ 2 j (by simp [fs_in]), htw⟩
  refine ga_aload_n (v := .ref 118) hm_125 rfl rfl rfl ?_
  refine ga_getr (b := 104) hm_125 rfl sc_118 rfl ?_
  refine gIv (nY := 1) (F := 1) (L := 20) (As := []) (b := 104) (rest := []) hm_125 rfl hm_116 rfl rfl (fl_ob sc_104) rfl rfl rfl rfl rfl (by omega) (by omega) ?_
  intro f9_ l10_ h11_ h12_
  show fl_R xi_ms 116 f9_ l10_ 0 [(0, .ref 104)] [] _ _
  refine ga_aload_n (v := .ref 104) hm_116 rfl rfl rfl ?_
  refine ga_getr (b := 105) hm_116 rfl sc_104 rfl ?_
  refine gIv (nY := 1) (F := 0) (L := 0) (As := []) (b := 105) (rest := []) hm_116 rfl hm_27 rfl rfl (fl_ob sc_105) rfl rfl rfl rfl rfl (by omega) (by omega) ?_
  intro f13_ l14_ h15_ h16_
  show fl_R xi_ms 27 f13_ l14_ 0 [(0, .ref 105)] [] _ _
  refine ga_aload_n (v := .ref 105) hm_27 rfl rfl rfl ?_
  refine fl_iconst hm_27 rfl ?_
  refine ga_puti (z := 0) hm_27 rfl sc_105 rfl rfl ?_
  refine gr_v hm_27 rfl rfl ?_
  clear h15_ h16_ f13_ l14_
  refine ga_aload_n (v := .ref 104) hm_116 rfl rfl rfl ?_
  refine ga_getr (b := 108) hm_116 rfl sc_104 rfl ?_
  refine gIv (nY := 1) (F := 0) (L := 0) (As := []) (b := 108) (rest := []) hm_116 rfl hm_87 rfl rfl (fl_ob sc_108) rfl rfl rfl rfl rfl (by omega) (by omega) ?_
  intro f17_ l18_ h19_ h20_
  show fl_R xi_ms 87 f17_ l18_ 0 [(0, .ref 108)] [] _ _
  refine ga_aload_n (v := .ref 108) hm_87 rfl rfl rfl ?_
  refine fl_iconst hm_87 rfl ?_
  refine ga_puti (z := 0) hm_87 rfl sc_108 rfl rfl ?_
  refine ga_aload_n (v := .ref 108) hm_87 rfl rfl rfl ?_
  refine fl_iconst hm_87 rfl ?_
  refine ga_puti (z := 0) hm_87 rfl sc_108 rfl rfl ?_
  refine gr_v hm_87 rfl rfl ?_
  clear h19_ h20_ f17_ l18_
  refine ga_aload_n (v := .ref 104) hm_116 rfl rfl rfl ?_
  refine ga_getr (b := 113) hm_116 rfl sc_104 rfl ?_
  refine gIv (nY := 1) (F := 0) (L := 0) (As := []) (b := 113) (rest := []) hm_116 rfl hm_87 rfl rfl (fl_ob sc_113) rfl rfl rfl rfl rfl (by omega) (by omega) ?_
  intro f21_ l22_ h23_ h24_
  show fl_R xi_ms 87 f21_ l22_ 0 [(0, .ref 113)] [] _ _
  refine ga_aload_n (v := .ref 113) hm_87 rfl rfl rfl ?_
  refine fl_iconst hm_87 rfl ?_
  refine ga_puti (z := 0) hm_87 rfl sc_113 rfl rfl ?_
  refine ga_aload_n (v := .ref 113) hm_87 rfl rfl rfl ?_
  refine fl_iconst hm_87 rfl ?_
  refine ga_puti (z := 0) hm_87 rfl sc_113 rfl rfl ?_
  refine gr_v hm_87 rfl rfl ?_
  clear h23_ h24_ f21_ l22_
  refine gr_v hm_116 rfl rfl ?_
  clear h11_ h12_ f9_ l10_
  refine ga_aload_n (v := .ref 118) hm_125 rfl rfl rfl ?_
  refine ga_ldcs hm_125 rfl ?_
  refine gIv (nY := 2) (F := 8) (L := 144) (As := [.retAddr 16]) (b := 118) (rest := []) hm_125 rfl hm_34 rfl rfl (fl_ob sc_118) rfl rfl rfl rfl rfl (by omega) (by omega) ?_
  intro f25_ l26_ h27_ h28_
  show fl_R xi_ms 34 f25_ l26_ 0 [(0, .ref 118), (1, .retAddr 16)] [] _ _
  refine ga_aload_n (v := .ref 118) hm_34 rfl rfl rfl ?_
  refine ga_getr (b := 1) hm_34 rfl sc_118 rfl ?_
  refine fl_iconst hm_34 rfl ?_
  obtain ⟨F29_, q30_⟩ : ∃ Fq_, Fq_ = (fl_u (fl_u (fl_u (fl_u (fl_u F5_ 105 2 0) 108 4 0) 108 5 0) 113 4 0) 113 5 0) := ⟨_, rfl⟩
  rw [← q30_]
  have g31_ : gi F29_ := by rw [q30_]; exact gi_u (gi_u (gi_u (gi_u (gi_u (g6_) rfl (by omega) (by omega)) rfl (by omega) (by omega)) rfl (by omega) (by omega)) rfl (by omega) (by omega)) rfl (by omega) (by omega)
  have g32_ : fs [(1, 1, 1, 1), (1, 1, 6, 8), (3, 6, 0, 100000), (105, 117, 0, 100000), (119, 119, 2, 3)] F F29_ := by rw [q30_]; exact fs_u (fs_u (fs_u (fs_u (fs_u (g8_) rfl) rfl) rfl) rfl) rfl
  have tk33_ : tkh K F29_ := by rw [q30_]; exact tkh_u (tkh_u (tkh_u (tkh_u (tkh_u (hK) (by first | decide | exact nc_ rfl | omega) (by first | decide | exact nc_ rfl | omega)) (by first | decide | exact nc_ rfl | omega) (by first | decide | exact nc_ rfl | omega)) (by first | decide | exact nc_ rfl | omega) (by first | decide | exact nc_ rfl | omega)) (by first | decide | exact nc_ rfl | omega) (by first | decide | exact nc_ rfl | omega)) (by first | decide | exact nc_ rfl | omega) (by first | decide | exact nc_ rfl | omega)
  have e34_ : F29_ 1 7 = 0 := by rw [q30_]; exact (fl_u_ne (by first | exact nc_ rfl | decide | omega)).trans ((fl_u_ne (by first | exact nc_ rfl | decide | omega)).trans ((fl_u_ne (by first | exact nc_ rfl | decide | omega)).trans ((fl_u_ne (by first | exact nc_ rfl | decide | omega)).trans ((fl_u_ne (by first | exact nc_ rfl | decide | omega)).trans (hp0)))))
  refine gVv (nY := 2) (F := 7) (L := 121) (As := [.int (Int32.ofInt 0)]) (b := 1) (rest := []) hm_34 rfl hm_24 rfl rfl (fl_ob sc_1) rfl rfl rfl rfl rfl (by omega) (by omega) (mc_24 hG F29_ X g31_ (K) (0) hgK tk33_ hko (⟨by omega, by omega⟩) (⟨by omega, by omega⟩)) ?_ ?_
  ·
    rintro j_ A1_ ⟨F36_, ⟨hJ_, hA_⟩, g37_, s38_, c35_⟩
    subst hA_
    subst hJ_
    try simp only [e34_] at c35_
    refine ⟨rfl, ?_⟩
    refine gw_v ⟨rfl, ?_⟩
    refine gw_v ?_
    have g39_ : fs [(1, 1, 1, 1), (1, 1, 6, 8), (3, 6, 0, 100000), (105, 117, 0, 100000), (119, 119, 2, 3)] F F36_ := fs_tr g32_ s38_ rfl
    have e40_ : F29_ 1 1 = F5_ 1 1 := by rw [q30_]; exact (fl_u_ne (by first | exact nc_ rfl | decide | omega)).trans ((fl_u_ne (by first | exact nc_ rfl | decide | omega)).trans ((fl_u_ne (by first | exact nc_ rfl | decide | omega)).trans ((fl_u_ne (by first | exact nc_ rfl | decide | omega)).trans (fl_u_ne (by first | exact nc_ rfl | decide | omega)))))
    have e41_ : F36_ 1 1 = F5_ 1 1 := (s38_ 1 1 rfl).trans (e40_)
    have b42_ : 0 ≤ F5_ 1 1 ∧ F5_ 1 1 ≤ 600 := gi_g g6_ rfl
    exact ⟨F36_, ⟨rfl, rfl⟩, g37_, g39_, (by omega)⟩
  rintro A1_ ⟨F46_, hA_, g47_, s48_, c44_, c45_⟩
  subst hA_
  have g49_ : fs [(1, 1, 1, 1), (1, 1, 6, 8), (3, 6, 0, 100000), (105, 117, 0, 100000), (119, 119, 2, 3)] F F46_ := fs_tr g32_ s48_ rfl
  have tk50_ : tkh K F46_ := tkh_fs tk33_ s48_ (fs_rg rfl) rfl
  try simp only [e34_] at c44_
  refine ga_aload_n (v := .ref 118) hm_34 rfl rfl rfl ?_
  refine ga_getr (b := 1) hm_34 rfl sc_118 rfl ?_
  refine ga_ldcs hm_34 rfl ?_
  have b51_ : 0 ≤ F46_ 1 7 ∧ F46_ 1 7 ≤ 600 := gi_g g47_ rfl
  refine gVv (nY := 2) (F := 7) (L := 123) (As := [.retAddr 2]) (b := 1) (rest := []) hm_34 rfl hm_155 rfl rfl (fl_ob sc_1) rfl rfl rfl rfl rfl (by omega) (by omega) (mc_155 hG F46_ X g47_ (K) (2) ([100, 101, 102, 105, 110, 101]) hgK tk50_ hko (⟨by omega, by omega⟩) (rfl) (by decide)) ?_ ?_
  ·
    rintro j_ A1_ ⟨F53_, ⟨hJ_, hA_⟩, g54_, s55_, c52_⟩
    subst hA_
    subst hJ_
    refine ⟨rfl, ?_⟩
    refine gw_v ⟨rfl, ?_⟩
    refine gw_v ?_
    have g56_ : fs [(1, 1, 1, 1), (1, 1, 6, 8), (3, 6, 0, 100000), (105, 117, 0, 100000), (119, 119, 2, 3)] F F53_ := fs_tr g49_ s55_ rfl
    have e57_ : F29_ 1 1 = F5_ 1 1 := by rw [q30_]; exact (fl_u_ne (by first | exact nc_ rfl | decide | omega)).trans ((fl_u_ne (by first | exact nc_ rfl | decide | omega)).trans ((fl_u_ne (by first | exact nc_ rfl | decide | omega)).trans ((fl_u_ne (by first | exact nc_ rfl | decide | omega)).trans (fl_u_ne (by first | exact nc_ rfl | decide | omega)))))
    have e58_ : F46_ 1 1 = F5_ 1 1 := (s48_ 1 1 rfl).trans (e57_)
    have e59_ : F53_ 1 1 = F5_ 1 1 := (s55_ 1 1 rfl).trans (e58_)
    have b60_ : 0 ≤ F5_ 1 1 ∧ F5_ 1 1 ≤ 600 := gi_g g6_ rfl
    exact ⟨F53_, ⟨rfl, rfl⟩, g54_, g56_, (by omega)⟩
  rintro A1_ ⟨F64_, hA_, g65_, s66_, c62_, c63_⟩
  subst hA_
  have g67_ : fs [(1, 1, 1, 1), (1, 1, 6, 8), (3, 6, 0, 100000), (105, 117, 0, 100000), (119, 119, 2, 3)] F F64_ := fs_tr g49_ s66_ rfl
  have tk68_ : tkh K F64_ := tkh_fs tk50_ s66_ (fs_rg rfl) rfl
  refine ga_aload_n (v := .ref 118) hm_34 rfl rfl rfl ?_
  refine ga_getr (b := 1) hm_34 rfl sc_118 rfl ?_
  refine fl_iconst hm_34 rfl ?_
  have b69_ : 0 ≤ F64_ 1 7 ∧ F64_ 1 7 ≤ 600 := gi_g g65_ rfl
  refine gVv (nY := 2) (F := 7) (L := 121) (As := [.int (Int32.ofInt 0)]) (b := 1) (rest := []) hm_34 rfl hm_24 rfl rfl (fl_ob sc_1) rfl rfl rfl rfl rfl (by omega) (by omega) (mc_24 hG F64_ X g65_ (K) (0) hgK tk68_ hko (⟨by omega, by omega⟩) (⟨by omega, by omega⟩)) ?_ ?_
  ·
    rintro j_ A1_ ⟨F71_, ⟨hJ_, hA_⟩, g72_, s73_, c70_⟩
    subst hA_
    subst hJ_
    refine ⟨rfl, ?_⟩
    refine gw_v ⟨rfl, ?_⟩
    refine gw_v ?_
    have g74_ : fs [(1, 1, 1, 1), (1, 1, 6, 8), (3, 6, 0, 100000), (105, 117, 0, 100000), (119, 119, 2, 3)] F F71_ := fs_tr g67_ s73_ rfl
    have e75_ : F29_ 1 1 = F5_ 1 1 := by rw [q30_]; exact (fl_u_ne (by first | exact nc_ rfl | decide | omega)).trans ((fl_u_ne (by first | exact nc_ rfl | decide | omega)).trans ((fl_u_ne (by first | exact nc_ rfl | decide | omega)).trans ((fl_u_ne (by first | exact nc_ rfl | decide | omega)).trans (fl_u_ne (by first | exact nc_ rfl | decide | omega)))))
    have e76_ : F46_ 1 1 = F5_ 1 1 := (s48_ 1 1 rfl).trans (e75_)
    have e77_ : F64_ 1 1 = F5_ 1 1 := (s66_ 1 1 rfl).trans (e76_)
    have e78_ : F71_ 1 1 = F5_ 1 1 := (s73_ 1 1 rfl).trans (e77_)
    have b79_ : 0 ≤ F5_ 1 1 ∧ F5_ 1 1 ≤ 600 := gi_g g6_ rfl
    exact ⟨F71_, ⟨rfl, rfl⟩, g72_, g74_, (by omega)⟩
  rintro A1_ ⟨F83_, hA_, g84_, s85_, c81_, c82_⟩
  subst hA_
  have g86_ : fs [(1, 1, 1, 1), (1, 1, 6, 8), (3, 6, 0, 100000), (105, 117, 0, 100000), (119, 119, 2, 3)] F F83_ := fs_tr g67_ s85_ rfl
  have tk87_ : tkh K F83_ := tkh_fs tk68_ s85_ (fs_rg rfl) rfl
  refine ga_aload_n (v := .ref 118) hm_34 rfl rfl rfl ?_
  refine ga_getr (b := 1) hm_34 rfl sc_118 rfl ?_
  refine ga_aload_n (v := .retAddr 16) hm_34 rfl rfl rfl ?_
  have b88_ : 0 ≤ F83_ 1 7 ∧ F83_ 1 7 ≤ 600 := gi_g g84_ rfl
  refine gVv (nY := 2) (F := 7) (L := 123) (As := [.retAddr 16]) (b := 1) (rest := []) hm_34 rfl hm_155 rfl rfl (fl_ob sc_1) rfl rfl rfl rfl rfl (by omega) (by omega) (mc_155 hG F83_ X g84_ (K) (16) ([112, 114, 111, 98, 108, 101, 109]) hgK tk87_ hko (⟨by omega, by omega⟩) (rfl) (by decide)) ?_ ?_
  ·
    rintro j_ A1_ ⟨F90_, ⟨hJ_, hA_⟩, g91_, s92_, c89_⟩
    subst hA_
    subst hJ_
    refine ⟨rfl, ?_⟩
    refine gw_v ⟨rfl, ?_⟩
    refine gw_v ?_
    have g93_ : fs [(1, 1, 1, 1), (1, 1, 6, 8), (3, 6, 0, 100000), (105, 117, 0, 100000), (119, 119, 2, 3)] F F90_ := fs_tr g86_ s92_ rfl
    have e94_ : F29_ 1 1 = F5_ 1 1 := by rw [q30_]; exact (fl_u_ne (by first | exact nc_ rfl | decide | omega)).trans ((fl_u_ne (by first | exact nc_ rfl | decide | omega)).trans ((fl_u_ne (by first | exact nc_ rfl | decide | omega)).trans ((fl_u_ne (by first | exact nc_ rfl | decide | omega)).trans (fl_u_ne (by first | exact nc_ rfl | decide | omega)))))
    have e95_ : F46_ 1 1 = F5_ 1 1 := (s48_ 1 1 rfl).trans (e94_)
    have e96_ : F64_ 1 1 = F5_ 1 1 := (s66_ 1 1 rfl).trans (e95_)
    have e97_ : F83_ 1 1 = F5_ 1 1 := (s85_ 1 1 rfl).trans (e96_)
    have e98_ : F90_ 1 1 = F5_ 1 1 := (s92_ 1 1 rfl).trans (e97_)
    have b99_ : 0 ≤ F5_ 1 1 ∧ F5_ 1 1 ≤ 600 := gi_g g6_ rfl
    exact ⟨F90_, ⟨rfl, rfl⟩, g91_, g93_, (by omega)⟩
  rintro A1_ ⟨F103_, hA_, g104_, s105_, c101_, c102_⟩
  subst hA_
  have g106_ : fs [(1, 1, 1, 1), (1, 1, 6, 8), (3, 6, 0, 100000), (105, 117, 0, 100000), (119, 119, 2, 3)] F F103_ := fs_tr g86_ s105_ rfl
  have tk107_ : tkh K F103_ := tkh_fs tk87_ s105_ (fs_rg rfl) rfl
  refine gr_v hm_34 rfl rfl ?_
  clear h27_ h28_ f25_ l26_
  refine ga_aload_n (v := .ref 118) hm_125 rfl rfl rfl ?_
  refine ga_getr (b := 1) hm_125 rfl sc_118 rfl ?_
  refine fl_iconst hm_125 rfl ?_
  have b108_ : 0 ≤ F103_ 1 7 ∧ F103_ 1 7 ≤ 600 := gi_g g104_ rfl
  refine gVv (nY := 2) (F := 7) (L := 121) (As := [.int (Int32.ofInt 2)]) (b := 1) (rest := []) hm_125 rfl hm_24 rfl rfl (fl_ob sc_1) rfl rfl rfl rfl rfl (by omega) (by omega) (mc_24 hG F103_ X g104_ (K) (2) hgK tk107_ hko (⟨by omega, by omega⟩) (⟨by omega, by omega⟩)) ?_ ?_
  ·
    rintro j_ A1_ ⟨F110_, ⟨hJ_, hA_⟩, g111_, s112_, c109_⟩
    subst hA_
    subst hJ_
    refine ⟨rfl, ?_⟩
    refine gw_v ?_
    have g113_ : fs [(1, 1, 1, 1), (1, 1, 6, 8), (3, 6, 0, 100000), (105, 117, 0, 100000), (119, 119, 2, 3)] F F110_ := fs_tr g106_ s112_ rfl
    have e114_ : F29_ 1 1 = F5_ 1 1 := by rw [q30_]; exact (fl_u_ne (by first | exact nc_ rfl | decide | omega)).trans ((fl_u_ne (by first | exact nc_ rfl | decide | omega)).trans ((fl_u_ne (by first | exact nc_ rfl | decide | omega)).trans ((fl_u_ne (by first | exact nc_ rfl | decide | omega)).trans (fl_u_ne (by first | exact nc_ rfl | decide | omega)))))
    have e115_ : F46_ 1 1 = F5_ 1 1 := (s48_ 1 1 rfl).trans (e114_)
    have e116_ : F64_ 1 1 = F5_ 1 1 := (s66_ 1 1 rfl).trans (e115_)
    have e117_ : F83_ 1 1 = F5_ 1 1 := (s85_ 1 1 rfl).trans (e116_)
    have e118_ : F103_ 1 1 = F5_ 1 1 := (s105_ 1 1 rfl).trans (e117_)
    have e119_ : F110_ 1 1 = F5_ 1 1 := (s112_ 1 1 rfl).trans (e118_)
    have b120_ : 0 ≤ F5_ 1 1 ∧ F5_ 1 1 ≤ 600 := gi_g g6_ rfl
    exact ⟨F110_, ⟨rfl, rfl⟩, g111_, g113_, (by omega)⟩
  rintro A1_ ⟨F124_, hA_, g125_, s126_, c122_, c123_⟩
  subst hA_
  have g127_ : fs [(1, 1, 1, 1), (1, 1, 6, 8), (3, 6, 0, 100000), (105, 117, 0, 100000), (119, 119, 2, 3)] F F124_ := fs_tr g106_ s126_ rfl
  have tk128_ : tkh K F124_ := tkh_fs tk107_ s126_ (fs_rg rfl) rfl
  refine ga_aload_n (v := .ref 118) hm_125 rfl rfl rfl ?_
  refine ga_getr (b := 1) hm_125 rfl sc_118 rfl ?_
  refine fl_iconst hm_125 rfl ?_
  have b129_ : 0 ≤ F124_ 1 7 ∧ F124_ 1 7 ≤ 600 := gi_g g125_ rfl
  refine gVv (nY := 2) (F := 7) (L := 121) (As := [.int (Int32.ofInt 1)]) (b := 1) (rest := []) hm_125 rfl hm_24 rfl rfl (fl_ob sc_1) rfl rfl rfl rfl rfl (by omega) (by omega) (mc_24 hG F124_ X g125_ (K) (1) hgK tk128_ hko (⟨by omega, by omega⟩) (⟨by omega, by omega⟩)) ?_ ?_
  ·
    rintro j_ A1_ ⟨F131_, ⟨hJ_, hA_⟩, g132_, s133_, c130_⟩
    subst hA_
    subst hJ_
    refine ⟨rfl, ?_⟩
    refine gw_v ?_
    have g134_ : fs [(1, 1, 1, 1), (1, 1, 6, 8), (3, 6, 0, 100000), (105, 117, 0, 100000), (119, 119, 2, 3)] F F131_ := fs_tr g127_ s133_ rfl
    have e135_ : F29_ 1 1 = F5_ 1 1 := by rw [q30_]; exact (fl_u_ne (by first | exact nc_ rfl | decide | omega)).trans ((fl_u_ne (by first | exact nc_ rfl | decide | omega)).trans ((fl_u_ne (by first | exact nc_ rfl | decide | omega)).trans ((fl_u_ne (by first | exact nc_ rfl | decide | omega)).trans (fl_u_ne (by first | exact nc_ rfl | decide | omega)))))
    have e136_ : F46_ 1 1 = F5_ 1 1 := (s48_ 1 1 rfl).trans (e135_)
    have e137_ : F64_ 1 1 = F5_ 1 1 := (s66_ 1 1 rfl).trans (e136_)
    have e138_ : F83_ 1 1 = F5_ 1 1 := (s85_ 1 1 rfl).trans (e137_)
    have e139_ : F103_ 1 1 = F5_ 1 1 := (s105_ 1 1 rfl).trans (e138_)
    have e140_ : F124_ 1 1 = F5_ 1 1 := (s126_ 1 1 rfl).trans (e139_)
    have e141_ : F131_ 1 1 = F5_ 1 1 := (s133_ 1 1 rfl).trans (e140_)
    have b142_ : 0 ≤ F5_ 1 1 ∧ F5_ 1 1 ≤ 600 := gi_g g6_ rfl
    exact ⟨F131_, ⟨rfl, rfl⟩, g132_, g134_, (by omega)⟩
  rintro A1_ ⟨F146_, hA_, g147_, s148_, c144_, c145_⟩
  subst hA_
  have g149_ : fs [(1, 1, 1, 1), (1, 1, 6, 8), (3, 6, 0, 100000), (105, 117, 0, 100000), (119, 119, 2, 3)] F F146_ := fs_tr g127_ s148_ rfl
  have tk150_ : tkh K F146_ := tkh_fs tk128_ s148_ (fs_rg rfl) rfl
  obtain ⟨ts, hts⟩ := rep_ex (F 9) (n := F 8 2) (gi_g (r := 8) (k := 2) hgi rfl).1
  obtain ⟨pl, hpl⟩ := rep_ex (F 12) (n := F 11 2) (gi_g (r := 11) (k := 2) hgi rfl).1
  have hpl1 := hpl.1
  have hb11 : 0 ≤ F 11 2 ∧ F 11 2 ≤ 6 := gi_g hgi rfl
  obtain ⟨ps, hps, hpn⟩ := prd_ex hgi (pl := pl) (by omega)
  refine ga_aload_n (v := .ref 118) hm_125 rfl rfl rfl ?_
  have b151_ : 0 ≤ F146_ 1 7 ∧ F146_ 1 7 ≤ 600 := gi_g g147_ rfl
  refine gVv (nY := 1) (F := 9) (L := 165) (As := []) (b := 118) (rest := []) hm_125 rfl hm_120 rfl rfl (fl_ob sc_118) rfl rfl rfl rfl rfl (by omega) (by omega) (mc_120 hG F146_ X g147_ (K) hgK tk150_ hko (⟨by omega, by omega⟩)) ?_ ?_
  ·
    rintro j_ A1_ ⟨F152_, ⟨hJ_, hA_⟩, g153_, s154_⟩
    subst hA_
    subst hJ_
    refine ⟨rfl, ?_⟩
    refine gw_v ?_
    have g155_ : fs [(1, 1, 1, 1), (1, 1, 6, 8), (3, 6, 0, 100000), (105, 117, 0, 100000), (119, 119, 2, 3)] F F152_ := fs_tr g149_ s154_ rfl
    have e156_ : F29_ 1 1 = F5_ 1 1 := by rw [q30_]; exact (fl_u_ne (by first | exact nc_ rfl | decide | omega)).trans ((fl_u_ne (by first | exact nc_ rfl | decide | omega)).trans ((fl_u_ne (by first | exact nc_ rfl | decide | omega)).trans ((fl_u_ne (by first | exact nc_ rfl | decide | omega)).trans (fl_u_ne (by first | exact nc_ rfl | decide | omega)))))
    have e157_ : F46_ 1 1 = F5_ 1 1 := (s48_ 1 1 rfl).trans (e156_)
    have e158_ : F64_ 1 1 = F5_ 1 1 := (s66_ 1 1 rfl).trans (e157_)
    have e159_ : F83_ 1 1 = F5_ 1 1 := (s85_ 1 1 rfl).trans (e158_)
    have e160_ : F103_ 1 1 = F5_ 1 1 := (s105_ 1 1 rfl).trans (e159_)
    have e161_ : F124_ 1 1 = F5_ 1 1 := (s126_ 1 1 rfl).trans (e160_)
    have e162_ : F146_ 1 1 = F5_ 1 1 := (s148_ 1 1 rfl).trans (e161_)
    have e163_ : F152_ 1 1 = F5_ 1 1 := (s154_ 1 1 rfl).trans (e162_)
    have b164_ : 0 ≤ F5_ 1 1 ∧ F5_ 1 1 ≤ 600 := gi_g g6_ rfl
    exact ⟨F152_, ⟨rfl, rfl⟩, g153_, g155_, (by omega)⟩
  rintro A1_ ⟨F167_, hA_, g168_, s169_, c166_⟩
  subst hA_
  have g170_ : fs [(1, 1, 1, 1), (1, 1, 6, 8), (3, 6, 0, 100000), (105, 117, 0, 100000), (119, 119, 2, 3)] F F167_ := fs_tr g149_ s169_ rfl
  have tk171_ : tkh K F167_ := tkh_fs tk150_ s169_ (fs_rg rfl) rfl
  refine ga_aload_n (v := .ref 118) hm_125 rfl rfl rfl ?_
  have b172_ : 0 ≤ F167_ 1 7 ∧ F167_ 1 7 ≤ 600 := gi_g g168_ rfl
  have e173_ : F29_ 105 2 = 0 := by rw [q30_]; exact (fl_u_ne (by first | exact nc_ rfl | decide | omega)).trans ((fl_u_ne (by first | exact nc_ rfl | decide | omega)).trans ((fl_u_ne (by first | exact nc_ rfl | decide | omega)).trans ((fl_u_ne (by first | exact nc_ rfl | decide | omega)).trans (fl_u_eq))))
  have e174_ : F46_ 105 2 = 0 := (s48_ 105 2 rfl).trans (e173_)
  have e175_ : F64_ 105 2 = 0 := (s66_ 105 2 rfl).trans (e174_)
  have e176_ : F83_ 105 2 = 0 := (s85_ 105 2 rfl).trans (e175_)
  have e177_ : F103_ 105 2 = 0 := (s105_ 105 2 rfl).trans (e176_)
  have e178_ : F124_ 105 2 = 0 := (s126_ 105 2 rfl).trans (e177_)
  have e179_ : F146_ 105 2 = 0 := (s148_ 105 2 rfl).trans (e178_)
  have e180_ : F167_ 105 2 = 0 := (s169_ 105 2 rfl).trans (e179_)
  refine gVv (nY := 2) (F := 9) (L := 165) (As := []) (b := 118) (rest := []) hm_125 rfl hm_122 rfl rfl (fl_ob sc_118) rfl rfl rfl rfl rfl (by omega) (by omega) (mc_122 hG F167_ X g168_ (K) (ts) hgK tk171_ hko (⟨by omega, by omega⟩) ((rep_fs (rep_fs (rep_fs (rep_fs (rep_fs (rep_fs (rep_fs (by rw [q30_]; exact (rep_u (rep_u (rep_u (rep_u (rep_u (rep_fs hts s7_ (fun _ => (by first | exact fs_c rfl | exact (fs_n (by omega) (fs_n (by omega) (fs_n (by omega) rfl))))) (by first | exact fs_c rfl | exact (fs_n (by omega) (fs_n (by omega) (fs_n (by omega) rfl))))) (by omega) (by omega)) (by omega) (by omega)) (by omega) (by omega)) (by omega) (by omega)) (by omega) (by omega))) s48_ (fun _ => (by first | exact fs_c rfl | exact (fs_n (by omega) rfl))) (by first | exact fs_c rfl | exact (fs_n (by omega) rfl))) s66_ (fun _ => (by first | exact fs_c rfl | exact (fs_n (by omega) rfl))) (by first | exact fs_c rfl | exact (fs_n (by omega) rfl))) s85_ (fun _ => (by first | exact fs_c rfl | exact (fs_n (by omega) rfl))) (by first | exact fs_c rfl | exact (fs_n (by omega) rfl))) s105_ (fun _ => (by first | exact fs_c rfl | exact (fs_n (by omega) rfl))) (by first | exact fs_c rfl | exact (fs_n (by omega) rfl))) s126_ (fun _ => (by first | exact fs_c rfl | exact (fs_n (by omega) rfl))) (by first | exact fs_c rfl | exact (fs_n (by omega) rfl))) s148_ (fun _ => (by first | exact fs_c rfl | exact (fs_n (by omega) rfl))) (by first | exact fs_c rfl | exact (fs_n (by omega) rfl))) s169_ (fun _ => (by first | exact fs_c rfl | exact (fs_n (by omega) rfl))) (by first | exact fs_c rfl | exact (fs_n (by omega) rfl)))) (by omega)) ?_ ?_
  ·
    rintro j_ A1_ ⟨F181_, ⟨hJ_, hA_⟩, g182_, s183_⟩
    subst hA_
    subst hJ_
    refine ⟨rfl, ?_⟩
    refine gw_v ?_
    have g184_ : fs [(1, 1, 1, 1), (1, 1, 6, 8), (3, 6, 0, 100000), (105, 117, 0, 100000), (119, 119, 2, 3)] F F181_ := fs_tr g170_ s183_ rfl
    have e185_ : F29_ 1 1 = F5_ 1 1 := by rw [q30_]; exact (fl_u_ne (by first | exact nc_ rfl | decide | omega)).trans ((fl_u_ne (by first | exact nc_ rfl | decide | omega)).trans ((fl_u_ne (by first | exact nc_ rfl | decide | omega)).trans ((fl_u_ne (by first | exact nc_ rfl | decide | omega)).trans (fl_u_ne (by first | exact nc_ rfl | decide | omega)))))
    have e186_ : F46_ 1 1 = F5_ 1 1 := (s48_ 1 1 rfl).trans (e185_)
    have e187_ : F64_ 1 1 = F5_ 1 1 := (s66_ 1 1 rfl).trans (e186_)
    have e188_ : F83_ 1 1 = F5_ 1 1 := (s85_ 1 1 rfl).trans (e187_)
    have e189_ : F103_ 1 1 = F5_ 1 1 := (s105_ 1 1 rfl).trans (e188_)
    have e190_ : F124_ 1 1 = F5_ 1 1 := (s126_ 1 1 rfl).trans (e189_)
    have e191_ : F146_ 1 1 = F5_ 1 1 := (s148_ 1 1 rfl).trans (e190_)
    have e192_ : F167_ 1 1 = F5_ 1 1 := (s169_ 1 1 rfl).trans (e191_)
    have e193_ : F181_ 1 1 = F5_ 1 1 := (s183_ 1 1 rfl).trans (e192_)
    have b194_ : 0 ≤ F5_ 1 1 ∧ F5_ 1 1 ≤ 600 := gi_g g6_ rfl
    exact ⟨F181_, ⟨rfl, rfl⟩, g182_, g184_, (by omega)⟩
  rintro A1_ ⟨F198_, hA_, g199_, s200_, c196_, c197_⟩
  subst hA_
  have g201_ : fs [(1, 1, 1, 1), (1, 1, 6, 8), (3, 6, 0, 100000), (105, 117, 0, 100000), (119, 119, 2, 3)] F F198_ := fs_tr g170_ s200_ rfl
  have tk202_ : tkh K F198_ := tkh_fs tk171_ s200_ (fs_rg rfl) rfl
  obtain ⟨l, tl, hl, htl⟩ := c197_
  have hl1 := hl.1
  have hb105 : 0 ≤ F198_ 105 2 ∧ F198_ 105 2 ≤ 6 := gi_g g199_ rfl
  refine ga_aload_n (v := .ref 118) hm_125 rfl rfl rfl ?_
  refine ga_getr (b := 119) hm_125 rfl sc_118 rfl ?_
  refine ga_aload_n (v := .ref 118) hm_125 rfl rfl rfl ?_
  refine ga_getr (b := 104) hm_125 rfl sc_118 rfl ?_
  refine ga_getr (b := 105) hm_125 rfl sc_104 rfl ?_
  refine fl_iconst hm_125 rfl ?_
  refine gIv (nY := 3) (F := 0) (L := 0) (As := [.ref 105, .int (Int32.ofInt 2)]) (b := 119) (rest := []) hm_125 rfl hm_95 rfl rfl (fl_ob sc_119) rfl rfl rfl rfl rfl (by omega) (by omega) ?_
  intro f203_ l204_ h205_ h206_
  show fl_R xi_ms 95 f203_ l204_ 0 [(0, .ref 119), (1, .ref 105), (2, .int (Int32.ofInt 2))] [] _ _
  refine ga_aload_n (v := .ref 119) hm_95 rfl rfl rfl ?_
  refine ga_aload_n (v := .ref 105) hm_95 rfl rfl rfl ?_
  refine ga_putr hm_95 rfl sc_119 rfl rfl ?_
  rw [show ((105 : Nat) : Int) = 105 from rfl]
  refine ga_aload_n (v := .ref 119) hm_95 rfl rfl rfl ?_
  refine ga_iload_n (z := 2) hm_95 rfl rfl ?_
  refine ga_puti (z := 2) hm_95 rfl sc_119 rfl rfl ?_
  refine gr_v hm_95 rfl rfl ?_
  clear h205_ h206_ f203_ l204_
  refine ga_aload_n (v := .ref 118) hm_125 rfl rfl rfl ?_
  refine ga_ldcs hm_125 rfl ?_
  refine gIv (nY := 2) (F := 8) (L := 144) (As := [.retAddr 19]) (b := 118) (rest := []) hm_125 rfl hm_118 rfl rfl (fl_ob sc_118) rfl rfl rfl rfl rfl (by omega) (by omega) ?_
  intro f207_ l208_ h209_ h210_
  show fl_R xi_ms 118 f207_ l208_ 0 [(0, .ref 118), (1, .retAddr 19)] [] _ _
  refine ga_aload_n (v := .ref 118) hm_118 rfl rfl rfl ?_
  refine ga_getr (b := 1) hm_118 rfl sc_118 rfl ?_
  refine fl_iconst hm_118 rfl ?_
  obtain ⟨F211_, q212_⟩ : ∃ Fq_, Fq_ = (fl_u (fl_u F198_ 119 2 105) 119 3 2) := ⟨_, rfl⟩
  rw [← q212_]
  have g213_ : gi F211_ := by rw [q212_]; exact gi_u (gi_u (g199_) rfl (by omega) (by omega)) rfl (by omega) (by omega)
  have g214_ : fs [(1, 1, 1, 1), (1, 1, 6, 8), (3, 6, 0, 100000), (105, 117, 0, 100000), (119, 119, 2, 3)] F F211_ := by rw [q212_]; exact fs_u (fs_u (g201_) rfl) rfl
  have tk215_ : tkh K F211_ := by rw [q212_]; exact tkh_u (tkh_u (tk202_) (by first | decide | exact nc_ rfl | omega) (by first | decide | exact nc_ rfl | omega)) (by first | decide | exact nc_ rfl | omega) (by first | decide | exact nc_ rfl | omega)
  have e216_ : F211_ 1 7 = F198_ 1 7 := by rw [q212_]; exact (fl_u_ne (by first | exact nc_ rfl | decide | omega)).trans (fl_u_ne (by first | exact nc_ rfl | decide | omega))
  have b217_ : 0 ≤ F198_ 1 7 ∧ F198_ 1 7 ≤ 600 := gi_g g199_ rfl
  refine gVv (nY := 2) (F := 7) (L := 121) (As := [.int (Int32.ofInt 0)]) (b := 1) (rest := []) hm_118 rfl hm_24 rfl rfl (fl_ob sc_1) rfl rfl rfl rfl rfl (by omega) (by omega) (mc_24 hG F211_ X g213_ (K) (0) hgK tk215_ hko (⟨by omega, by omega⟩) (⟨by omega, by omega⟩)) ?_ ?_
  ·
    rintro j_ A1_ ⟨F219_, ⟨hJ_, hA_⟩, g220_, s221_, c218_⟩
    subst hA_
    subst hJ_
    try simp only [e216_] at c218_
    refine ⟨rfl, ?_⟩
    refine gw_v ⟨rfl, ?_⟩
    refine gw_v ?_
    have g222_ : fs [(1, 1, 1, 1), (1, 1, 6, 8), (3, 6, 0, 100000), (105, 117, 0, 100000), (119, 119, 2, 3)] F F219_ := fs_tr g214_ s221_ rfl
    have e223_ : F29_ 1 1 = F5_ 1 1 := by rw [q30_]; exact (fl_u_ne (by first | exact nc_ rfl | decide | omega)).trans ((fl_u_ne (by first | exact nc_ rfl | decide | omega)).trans ((fl_u_ne (by first | exact nc_ rfl | decide | omega)).trans ((fl_u_ne (by first | exact nc_ rfl | decide | omega)).trans (fl_u_ne (by first | exact nc_ rfl | decide | omega)))))
    have e224_ : F46_ 1 1 = F5_ 1 1 := (s48_ 1 1 rfl).trans (e223_)
    have e225_ : F64_ 1 1 = F5_ 1 1 := (s66_ 1 1 rfl).trans (e224_)
    have e226_ : F83_ 1 1 = F5_ 1 1 := (s85_ 1 1 rfl).trans (e225_)
    have e227_ : F103_ 1 1 = F5_ 1 1 := (s105_ 1 1 rfl).trans (e226_)
    have e228_ : F124_ 1 1 = F5_ 1 1 := (s126_ 1 1 rfl).trans (e227_)
    have e229_ : F146_ 1 1 = F5_ 1 1 := (s148_ 1 1 rfl).trans (e228_)
    have e230_ : F167_ 1 1 = F5_ 1 1 := (s169_ 1 1 rfl).trans (e229_)
    have e231_ : F198_ 1 1 = F5_ 1 1 := (s200_ 1 1 rfl).trans (e230_)
    have e232_ : F211_ 1 1 = F5_ 1 1 := by rw [q212_]; exact (fl_u_ne (by first | exact nc_ rfl | decide | omega)).trans ((fl_u_ne (by first | exact nc_ rfl | decide | omega)).trans (e231_))
    have e233_ : F219_ 1 1 = F5_ 1 1 := (s221_ 1 1 rfl).trans (e232_)
    have b234_ : 0 ≤ F5_ 1 1 ∧ F5_ 1 1 ≤ 600 := gi_g g6_ rfl
    exact ⟨F219_, ⟨rfl, rfl⟩, g220_, g222_, (by omega)⟩
  rintro A1_ ⟨F238_, hA_, g239_, s240_, c236_, c237_⟩
  subst hA_
  have g241_ : fs [(1, 1, 1, 1), (1, 1, 6, 8), (3, 6, 0, 100000), (105, 117, 0, 100000), (119, 119, 2, 3)] F F238_ := fs_tr g214_ s240_ rfl
  have tk242_ : tkh K F238_ := tkh_fs tk215_ s240_ (fs_rg rfl) rfl
  try simp only [e216_] at c236_
  refine ga_aload_n (v := .ref 118) hm_118 rfl rfl rfl ?_
  refine ga_getr (b := 1) hm_118 rfl sc_118 rfl ?_
  refine ga_aload_n (v := .retAddr 19) hm_118 rfl rfl rfl ?_
  have b243_ : 0 ≤ F238_ 1 7 ∧ F238_ 1 7 ≤ 600 := gi_g g239_ rfl
  refine gVv (nY := 2) (F := 7) (L := 123) (As := [.retAddr 19]) (b := 1) (rest := []) hm_118 rfl hm_155 rfl rfl (fl_ob sc_1) rfl rfl rfl rfl rfl (by omega) (by omega) (mc_155 hG F238_ X g239_ (K) (19) ([58, 105, 110, 105, 116]) hgK tk242_ hko (⟨by omega, by omega⟩) (rfl) (by decide)) ?_ ?_
  ·
    rintro j_ A1_ ⟨F245_, ⟨hJ_, hA_⟩, g246_, s247_, c244_⟩
    subst hA_
    subst hJ_
    refine ⟨rfl, ?_⟩
    refine gw_v ⟨rfl, ?_⟩
    refine gw_v ?_
    have g248_ : fs [(1, 1, 1, 1), (1, 1, 6, 8), (3, 6, 0, 100000), (105, 117, 0, 100000), (119, 119, 2, 3)] F F245_ := fs_tr g241_ s247_ rfl
    have e249_ : F29_ 1 1 = F5_ 1 1 := by rw [q30_]; exact (fl_u_ne (by first | exact nc_ rfl | decide | omega)).trans ((fl_u_ne (by first | exact nc_ rfl | decide | omega)).trans ((fl_u_ne (by first | exact nc_ rfl | decide | omega)).trans ((fl_u_ne (by first | exact nc_ rfl | decide | omega)).trans (fl_u_ne (by first | exact nc_ rfl | decide | omega)))))
    have e250_ : F46_ 1 1 = F5_ 1 1 := (s48_ 1 1 rfl).trans (e249_)
    have e251_ : F64_ 1 1 = F5_ 1 1 := (s66_ 1 1 rfl).trans (e250_)
    have e252_ : F83_ 1 1 = F5_ 1 1 := (s85_ 1 1 rfl).trans (e251_)
    have e253_ : F103_ 1 1 = F5_ 1 1 := (s105_ 1 1 rfl).trans (e252_)
    have e254_ : F124_ 1 1 = F5_ 1 1 := (s126_ 1 1 rfl).trans (e253_)
    have e255_ : F146_ 1 1 = F5_ 1 1 := (s148_ 1 1 rfl).trans (e254_)
    have e256_ : F167_ 1 1 = F5_ 1 1 := (s169_ 1 1 rfl).trans (e255_)
    have e257_ : F198_ 1 1 = F5_ 1 1 := (s200_ 1 1 rfl).trans (e256_)
    have e258_ : F211_ 1 1 = F5_ 1 1 := by rw [q212_]; exact (fl_u_ne (by first | exact nc_ rfl | decide | omega)).trans ((fl_u_ne (by first | exact nc_ rfl | decide | omega)).trans (e257_))
    have e259_ : F238_ 1 1 = F5_ 1 1 := (s240_ 1 1 rfl).trans (e258_)
    have e260_ : F245_ 1 1 = F5_ 1 1 := (s247_ 1 1 rfl).trans (e259_)
    have b261_ : 0 ≤ F5_ 1 1 ∧ F5_ 1 1 ≤ 600 := gi_g g6_ rfl
    exact ⟨F245_, ⟨rfl, rfl⟩, g246_, g248_, (by omega)⟩
  rintro A1_ ⟨F265_, hA_, g266_, s267_, c263_, c264_⟩
  subst hA_
  have g268_ : fs [(1, 1, 1, 1), (1, 1, 6, 8), (3, 6, 0, 100000), (105, 117, 0, 100000), (119, 119, 2, 3)] F F265_ := fs_tr g241_ s267_ rfl
  have tk269_ : tkh K F265_ := tkh_fs tk242_ s267_ (fs_rg rfl) rfl
  refine gr_v hm_118 rfl rfl ?_
  clear h209_ h210_ f207_ l208_
  refine ga_aload_n (v := .ref 118) hm_125 rfl rfl rfl ?_
  refine ga_getr (b := 119) hm_125 rfl sc_118 rfl ?_
  refine ga_aload_n (v := .ref 118) hm_125 rfl rfl rfl ?_
  refine ga_getr (b := 104) hm_125 rfl sc_118 rfl ?_
  refine ga_getr (b := 108) hm_125 rfl sc_104 rfl ?_
  refine fl_bipush hm_125 rfl rfl ?_
  have b270_ : 0 ≤ F265_ 1 7 ∧ F265_ 1 7 ≤ 600 := gi_g g266_ rfl
  have e271_ : F211_ 119 2 = 105 := by rw [q212_]; exact (fl_u_ne (by first | exact nc_ rfl | decide | omega)).trans (fl_u_eq)
  have e272_ : F238_ 119 2 = 105 := (s240_ 119 2 rfl).trans (e271_)
  have e273_ : F265_ 119 2 = 105 := (s267_ 119 2 rfl).trans (e272_)
  have e274_ : F211_ 119 3 = 2 := by rw [q212_]; exact fl_u_eq
  have e275_ : F238_ 119 3 = 2 := (s240_ 119 3 rfl).trans (e274_)
  have e276_ : F265_ 119 3 = 2 := (s267_ 119 3 rfl).trans (e275_)
  have e277_ : F29_ 108 4 = 0 := by rw [q30_]; exact (fl_u_ne (by first | exact nc_ rfl | decide | omega)).trans ((fl_u_ne (by first | exact nc_ rfl | decide | omega)).trans ((fl_u_ne (by first | exact nc_ rfl | decide | omega)).trans (fl_u_eq)))
  have e278_ : F46_ 108 4 = 0 := (s48_ 108 4 rfl).trans (e277_)
  have e279_ : F64_ 108 4 = 0 := (s66_ 108 4 rfl).trans (e278_)
  have e280_ : F83_ 108 4 = 0 := (s85_ 108 4 rfl).trans (e279_)
  have e281_ : F103_ 108 4 = 0 := (s105_ 108 4 rfl).trans (e280_)
  have e282_ : F124_ 108 4 = 0 := (s126_ 108 4 rfl).trans (e281_)
  have e283_ : F146_ 108 4 = 0 := (s148_ 108 4 rfl).trans (e282_)
  have e284_ : F167_ 108 4 = 0 := (s169_ 108 4 rfl).trans (e283_)
  have e285_ : F198_ 108 4 = 0 := (s200_ 108 4 rfl).trans (e284_)
  have e286_ : F211_ 108 4 = 0 := by rw [q212_]; exact (fl_u_ne (by first | exact nc_ rfl | decide | omega)).trans ((fl_u_ne (by first | exact nc_ rfl | decide | omega)).trans (e285_))
  have e287_ : F238_ 108 4 = 0 := (s240_ 108 4 rfl).trans (e286_)
  have e288_ : F265_ 108 4 = 0 := (s267_ 108 4 rfl).trans (e287_)
  refine gVv (nY := 4) (F := 9) (L := 169) (As := [.ref 108, .int (Int32.ofInt 12)]) (b := 119) (rest := []) hm_125 rfl hm_89 rfl rfl (fl_ob sc_119) rfl rfl rfl rfl rfl (by omega) (by omega) (mc_89 hG F265_ X g266_ (K) (l) (tl) (pl) (ps) (12) hgK tk269_ hko (⟨by omega, by omega⟩) (by omega) (by omega) (by omega) ((rep_fs (rep_fs (by rw [q212_]; exact (rep_u (rep_u hl (by omega) (by omega)) (by omega) (by omega))) s240_ (fun _ => (by first | exact fs_c rfl | exact (fs_n (by omega) rfl))) (by first | exact fs_c rfl | exact (fs_n (by omega) rfl))) s267_ (fun _ => (by first | exact fs_c rfl | exact (fs_n (by omega) rfl))) (by first | exact fs_c rfl | exact (fs_n (by omega) rfl)))) ((rep_fs (rep_fs (by rw [q212_]; exact (rep_u (rep_u htl (by omega) (by omega)) (by omega) (by omega))) s240_ (fun _ => (by first | exact fs_c rfl | exact (fs_n (by omega) rfl))) (by first | exact fs_c rfl | exact (fs_n (by omega) rfl))) s267_ (fun _ => (by first | exact fs_c rfl | exact (fs_n (by omega) rfl))) (by first | exact fs_c rfl | exact (fs_n (by omega) rfl)))) ((rep_fs (rep_fs (by rw [q212_]; exact (rep_u (rep_u (rep_fs (rep_fs (rep_fs (rep_fs (rep_fs (rep_fs (rep_fs (rep_fs (by rw [q30_]; exact (rep_u (rep_u (rep_u (rep_u (rep_u (rep_fs hpl s7_ (fun _ => (by first | exact fs_c rfl | exact (fs_n (by omega) (fs_n (by omega) (fs_n (by omega) rfl))))) (by first | exact fs_c rfl | exact (fs_n (by omega) (fs_n (by omega) (fs_n (by omega) rfl))))) (by omega) (by omega)) (by omega) (by omega)) (by omega) (by omega)) (by omega) (by omega)) (by omega) (by omega))) s48_ (fun _ => (by first | exact fs_c rfl | exact (fs_n (by omega) rfl))) (by first | exact fs_c rfl | exact (fs_n (by omega) rfl))) s66_ (fun _ => (by first | exact fs_c rfl | exact (fs_n (by omega) rfl))) (by first | exact fs_c rfl | exact (fs_n (by omega) rfl))) s85_ (fun _ => (by first | exact fs_c rfl | exact (fs_n (by omega) rfl))) (by first | exact fs_c rfl | exact (fs_n (by omega) rfl))) s105_ (fun _ => (by first | exact fs_c rfl | exact (fs_n (by omega) rfl))) (by first | exact fs_c rfl | exact (fs_n (by omega) rfl))) s126_ (fun _ => (by first | exact fs_c rfl | exact (fs_n (by omega) rfl))) (by first | exact fs_c rfl | exact (fs_n (by omega) rfl))) s148_ (fun _ => (by first | exact fs_c rfl | exact (fs_n (by omega) rfl))) (by first | exact fs_c rfl | exact (fs_n (by omega) rfl))) s169_ (fun _ => (by first | exact fs_c rfl | exact (fs_n (by omega) rfl))) (by first | exact fs_c rfl | exact (fs_n (by omega) rfl))) s200_ (fun _ => (by first | exact fs_c rfl | exact (fs_n (by omega) (fs_n (by omega) rfl)))) (by first | exact fs_c rfl | exact (fs_n (by omega) (fs_n (by omega) rfl)))) (by omega) (by omega)) (by omega) (by omega))) s240_ (fun _ => (by first | exact fs_c rfl | exact (fs_n (by omega) rfl))) (by first | exact fs_c rfl | exact (fs_n (by omega) rfl))) s267_ (fun _ => (by first | exact fs_c rfl | exact (fs_n (by omega) rfl))) (by first | exact fs_c rfl | exact (fs_n (by omega) rfl)))) ((prd_fs (prd_fs (by rw [q212_]; exact (prd_u (prd_u (prd_fs (prd_fs (prd_fs (prd_fs (prd_fs (prd_fs (prd_fs (prd_fs (by rw [q30_]; exact (prd_u (prd_u (prd_u (prd_u (prd_u (prd_fs hps s7_ (fun _ _ _ => (by first | exact fs_c rfl | exact (fs_n (by omega) (fs_n (by omega) (fs_n (by omega) rfl)))))) (by omega)) (by omega)) (by omega)) (by omega)) (by omega))) s48_ (fun _ _ _ => (by first | exact fs_c rfl | exact (fs_n (by omega) rfl)))) s66_ (fun _ _ _ => (by first | exact fs_c rfl | exact (fs_n (by omega) rfl)))) s85_ (fun _ _ _ => (by first | exact fs_c rfl | exact (fs_n (by omega) rfl)))) s105_ (fun _ _ _ => (by first | exact fs_c rfl | exact (fs_n (by omega) rfl)))) s126_ (fun _ _ _ => (by first | exact fs_c rfl | exact (fs_n (by omega) rfl)))) s148_ (fun _ _ _ => (by first | exact fs_c rfl | exact (fs_n (by omega) rfl)))) s169_ (fun _ _ _ => (by first | exact fs_c rfl | exact (fs_n (by omega) rfl)))) s200_ (fun _ _ _ => (by first | exact fs_c rfl | exact (fs_n (by omega) (fs_n (by omega) rfl))))) (by omega)) (by omega))) s240_ (fun _ _ _ => (by first | exact fs_c rfl | exact (fs_n (by omega) rfl)))) s267_ (fun _ _ _ => (by first | exact fs_c rfl | exact (fs_n (by omega) rfl))))) (hpn) (cw_nil (e288_))) ?_ ?_
  ·
    rintro j_ A1_ ⟨F289_, ⟨hJ_, hA_⟩, g290_, s291_⟩
    subst hA_
    subst hJ_
    refine ⟨rfl, ?_⟩
    refine gw_v ?_
    have g292_ : fs [(1, 1, 1, 1), (1, 1, 6, 8), (3, 6, 0, 100000), (105, 117, 0, 100000), (119, 119, 2, 3)] F F289_ := fs_tr g268_ s291_ rfl
    have e293_ : F29_ 1 1 = F5_ 1 1 := by rw [q30_]; exact (fl_u_ne (by first | exact nc_ rfl | decide | omega)).trans ((fl_u_ne (by first | exact nc_ rfl | decide | omega)).trans ((fl_u_ne (by first | exact nc_ rfl | decide | omega)).trans ((fl_u_ne (by first | exact nc_ rfl | decide | omega)).trans (fl_u_ne (by first | exact nc_ rfl | decide | omega)))))
    have e294_ : F46_ 1 1 = F5_ 1 1 := (s48_ 1 1 rfl).trans (e293_)
    have e295_ : F64_ 1 1 = F5_ 1 1 := (s66_ 1 1 rfl).trans (e294_)
    have e296_ : F83_ 1 1 = F5_ 1 1 := (s85_ 1 1 rfl).trans (e295_)
    have e297_ : F103_ 1 1 = F5_ 1 1 := (s105_ 1 1 rfl).trans (e296_)
    have e298_ : F124_ 1 1 = F5_ 1 1 := (s126_ 1 1 rfl).trans (e297_)
    have e299_ : F146_ 1 1 = F5_ 1 1 := (s148_ 1 1 rfl).trans (e298_)
    have e300_ : F167_ 1 1 = F5_ 1 1 := (s169_ 1 1 rfl).trans (e299_)
    have e301_ : F198_ 1 1 = F5_ 1 1 := (s200_ 1 1 rfl).trans (e300_)
    have e302_ : F211_ 1 1 = F5_ 1 1 := by rw [q212_]; exact (fl_u_ne (by first | exact nc_ rfl | decide | omega)).trans ((fl_u_ne (by first | exact nc_ rfl | decide | omega)).trans (e301_))
    have e303_ : F238_ 1 1 = F5_ 1 1 := (s240_ 1 1 rfl).trans (e302_)
    have e304_ : F265_ 1 1 = F5_ 1 1 := (s267_ 1 1 rfl).trans (e303_)
    have e305_ : F289_ 1 1 = F5_ 1 1 := (s291_ 1 1 rfl).trans (e304_)
    have b306_ : 0 ≤ F5_ 1 1 ∧ F5_ 1 1 ≤ 600 := gi_g g6_ rfl
    exact ⟨F289_, ⟨rfl, rfl⟩, g290_, g292_, (by omega)⟩
  rintro A1_ ⟨F310_, hA_, g311_, s312_, c308_, c309_⟩
  subst hA_
  have g313_ : fs [(1, 1, 1, 1), (1, 1, 6, 8), (3, 6, 0, 100000), (105, 117, 0, 100000), (119, 119, 2, 3)] F F310_ := fs_tr g268_ s312_ rfl
  have tk314_ : tkh K F310_ := tkh_fs tk269_ s312_ (fs_rg rfl) rfl
  refine ga_aload_n (v := .ref 118) hm_125 rfl rfl rfl ?_
  refine ga_getr (b := 1) hm_125 rfl sc_118 rfl ?_
  refine fl_iconst hm_125 rfl ?_
  have b315_ : 0 ≤ F310_ 1 7 ∧ F310_ 1 7 ≤ 600 := gi_g g311_ rfl
  refine gVv (nY := 2) (F := 7) (L := 121) (As := [.int (Int32.ofInt 1)]) (b := 1) (rest := []) hm_125 rfl hm_24 rfl rfl (fl_ob sc_1) rfl rfl rfl rfl rfl (by omega) (by omega) (mc_24 hG F310_ X g311_ (K) (1) hgK tk314_ hko (⟨by omega, by omega⟩) (⟨by omega, by omega⟩)) ?_ ?_
  ·
    rintro j_ A1_ ⟨F317_, ⟨hJ_, hA_⟩, g318_, s319_, c316_⟩
    subst hA_
    subst hJ_
    refine ⟨rfl, ?_⟩
    refine gw_v ?_
    have g320_ : fs [(1, 1, 1, 1), (1, 1, 6, 8), (3, 6, 0, 100000), (105, 117, 0, 100000), (119, 119, 2, 3)] F F317_ := fs_tr g313_ s319_ rfl
    have e321_ : F29_ 1 1 = F5_ 1 1 := by rw [q30_]; exact (fl_u_ne (by first | exact nc_ rfl | decide | omega)).trans ((fl_u_ne (by first | exact nc_ rfl | decide | omega)).trans ((fl_u_ne (by first | exact nc_ rfl | decide | omega)).trans ((fl_u_ne (by first | exact nc_ rfl | decide | omega)).trans (fl_u_ne (by first | exact nc_ rfl | decide | omega)))))
    have e322_ : F46_ 1 1 = F5_ 1 1 := (s48_ 1 1 rfl).trans (e321_)
    have e323_ : F64_ 1 1 = F5_ 1 1 := (s66_ 1 1 rfl).trans (e322_)
    have e324_ : F83_ 1 1 = F5_ 1 1 := (s85_ 1 1 rfl).trans (e323_)
    have e325_ : F103_ 1 1 = F5_ 1 1 := (s105_ 1 1 rfl).trans (e324_)
    have e326_ : F124_ 1 1 = F5_ 1 1 := (s126_ 1 1 rfl).trans (e325_)
    have e327_ : F146_ 1 1 = F5_ 1 1 := (s148_ 1 1 rfl).trans (e326_)
    have e328_ : F167_ 1 1 = F5_ 1 1 := (s169_ 1 1 rfl).trans (e327_)
    have e329_ : F198_ 1 1 = F5_ 1 1 := (s200_ 1 1 rfl).trans (e328_)
    have e330_ : F211_ 1 1 = F5_ 1 1 := by rw [q212_]; exact (fl_u_ne (by first | exact nc_ rfl | decide | omega)).trans ((fl_u_ne (by first | exact nc_ rfl | decide | omega)).trans (e329_))
    have e331_ : F238_ 1 1 = F5_ 1 1 := (s240_ 1 1 rfl).trans (e330_)
    have e332_ : F265_ 1 1 = F5_ 1 1 := (s267_ 1 1 rfl).trans (e331_)
    have e333_ : F310_ 1 1 = F5_ 1 1 := (s312_ 1 1 rfl).trans (e332_)
    have e334_ : F317_ 1 1 = F5_ 1 1 := (s319_ 1 1 rfl).trans (e333_)
    have b335_ : 0 ≤ F5_ 1 1 ∧ F5_ 1 1 ≤ 600 := gi_g g6_ rfl
    exact ⟨F317_, ⟨rfl, rfl⟩, g318_, g320_, (by omega)⟩
  rintro A1_ ⟨F339_, hA_, g340_, s341_, c337_, c338_⟩
  subst hA_
  have g342_ : fs [(1, 1, 1, 1), (1, 1, 6, 8), (3, 6, 0, 100000), (105, 117, 0, 100000), (119, 119, 2, 3)] F F339_ := fs_tr g313_ s341_ rfl
  have tk343_ : tkh K F339_ := tkh_fs tk314_ s341_ (fs_rg rfl) rfl
  refine ga_aload_n (v := .ref 118) hm_125 rfl rfl rfl ?_
  refine ga_ldcs hm_125 rfl ?_
  refine gIv (nY := 2) (F := 8) (L := 144) (As := [.retAddr 20]) (b := 118) (rest := []) hm_125 rfl hm_118 rfl rfl (fl_ob sc_118) rfl rfl rfl rfl rfl (by omega) (by omega) ?_
  intro f344_ l345_ h346_ h347_
  show fl_R xi_ms 118 f344_ l345_ 0 [(0, .ref 118), (1, .retAddr 20)] [] _ _
  refine ga_aload_n (v := .ref 118) hm_118 rfl rfl rfl ?_
  refine ga_getr (b := 1) hm_118 rfl sc_118 rfl ?_
  refine fl_iconst hm_118 rfl ?_
  have b348_ : 0 ≤ F339_ 1 7 ∧ F339_ 1 7 ≤ 600 := gi_g g340_ rfl
  refine gVv (nY := 2) (F := 7) (L := 121) (As := [.int (Int32.ofInt 0)]) (b := 1) (rest := []) hm_118 rfl hm_24 rfl rfl (fl_ob sc_1) rfl rfl rfl rfl rfl (by omega) (by omega) (mc_24 hG F339_ X g340_ (K) (0) hgK tk343_ hko (⟨by omega, by omega⟩) (⟨by omega, by omega⟩)) ?_ ?_
  ·
    rintro j_ A1_ ⟨F350_, ⟨hJ_, hA_⟩, g351_, s352_, c349_⟩
    subst hA_
    subst hJ_
    refine ⟨rfl, ?_⟩
    refine gw_v ⟨rfl, ?_⟩
    refine gw_v ?_
    have g353_ : fs [(1, 1, 1, 1), (1, 1, 6, 8), (3, 6, 0, 100000), (105, 117, 0, 100000), (119, 119, 2, 3)] F F350_ := fs_tr g342_ s352_ rfl
    have e354_ : F29_ 1 1 = F5_ 1 1 := by rw [q30_]; exact (fl_u_ne (by first | exact nc_ rfl | decide | omega)).trans ((fl_u_ne (by first | exact nc_ rfl | decide | omega)).trans ((fl_u_ne (by first | exact nc_ rfl | decide | omega)).trans ((fl_u_ne (by first | exact nc_ rfl | decide | omega)).trans (fl_u_ne (by first | exact nc_ rfl | decide | omega)))))
    have e355_ : F46_ 1 1 = F5_ 1 1 := (s48_ 1 1 rfl).trans (e354_)
    have e356_ : F64_ 1 1 = F5_ 1 1 := (s66_ 1 1 rfl).trans (e355_)
    have e357_ : F83_ 1 1 = F5_ 1 1 := (s85_ 1 1 rfl).trans (e356_)
    have e358_ : F103_ 1 1 = F5_ 1 1 := (s105_ 1 1 rfl).trans (e357_)
    have e359_ : F124_ 1 1 = F5_ 1 1 := (s126_ 1 1 rfl).trans (e358_)
    have e360_ : F146_ 1 1 = F5_ 1 1 := (s148_ 1 1 rfl).trans (e359_)
    have e361_ : F167_ 1 1 = F5_ 1 1 := (s169_ 1 1 rfl).trans (e360_)
    have e362_ : F198_ 1 1 = F5_ 1 1 := (s200_ 1 1 rfl).trans (e361_)
    have e363_ : F211_ 1 1 = F5_ 1 1 := by rw [q212_]; exact (fl_u_ne (by first | exact nc_ rfl | decide | omega)).trans ((fl_u_ne (by first | exact nc_ rfl | decide | omega)).trans (e362_))
    have e364_ : F238_ 1 1 = F5_ 1 1 := (s240_ 1 1 rfl).trans (e363_)
    have e365_ : F265_ 1 1 = F5_ 1 1 := (s267_ 1 1 rfl).trans (e364_)
    have e366_ : F310_ 1 1 = F5_ 1 1 := (s312_ 1 1 rfl).trans (e365_)
    have e367_ : F339_ 1 1 = F5_ 1 1 := (s341_ 1 1 rfl).trans (e366_)
    have e368_ : F350_ 1 1 = F5_ 1 1 := (s352_ 1 1 rfl).trans (e367_)
    have b369_ : 0 ≤ F5_ 1 1 ∧ F5_ 1 1 ≤ 600 := gi_g g6_ rfl
    exact ⟨F350_, ⟨rfl, rfl⟩, g351_, g353_, (by omega)⟩
  rintro A1_ ⟨F373_, hA_, g374_, s375_, c371_, c372_⟩
  subst hA_
  have g376_ : fs [(1, 1, 1, 1), (1, 1, 6, 8), (3, 6, 0, 100000), (105, 117, 0, 100000), (119, 119, 2, 3)] F F373_ := fs_tr g342_ s375_ rfl
  have tk377_ : tkh K F373_ := tkh_fs tk343_ s375_ (fs_rg rfl) rfl
  refine ga_aload_n (v := .ref 118) hm_118 rfl rfl rfl ?_
  refine ga_getr (b := 1) hm_118 rfl sc_118 rfl ?_
  refine ga_aload_n (v := .retAddr 20) hm_118 rfl rfl rfl ?_
  have b378_ : 0 ≤ F373_ 1 7 ∧ F373_ 1 7 ≤ 600 := gi_g g374_ rfl
  refine gVv (nY := 2) (F := 7) (L := 123) (As := [.retAddr 20]) (b := 1) (rest := []) hm_118 rfl hm_155 rfl rfl (fl_ob sc_1) rfl rfl rfl rfl rfl (by omega) (by omega) (mc_155 hG F373_ X g374_ (K) (20) ([58, 103, 111, 97, 108]) hgK tk377_ hko (⟨by omega, by omega⟩) (rfl) (by decide)) ?_ ?_
  ·
    rintro j_ A1_ ⟨F380_, ⟨hJ_, hA_⟩, g381_, s382_, c379_⟩
    subst hA_
    subst hJ_
    refine ⟨rfl, ?_⟩
    refine gw_v ⟨rfl, ?_⟩
    refine gw_v ?_
    have g383_ : fs [(1, 1, 1, 1), (1, 1, 6, 8), (3, 6, 0, 100000), (105, 117, 0, 100000), (119, 119, 2, 3)] F F380_ := fs_tr g376_ s382_ rfl
    have e384_ : F29_ 1 1 = F5_ 1 1 := by rw [q30_]; exact (fl_u_ne (by first | exact nc_ rfl | decide | omega)).trans ((fl_u_ne (by first | exact nc_ rfl | decide | omega)).trans ((fl_u_ne (by first | exact nc_ rfl | decide | omega)).trans ((fl_u_ne (by first | exact nc_ rfl | decide | omega)).trans (fl_u_ne (by first | exact nc_ rfl | decide | omega)))))
    have e385_ : F46_ 1 1 = F5_ 1 1 := (s48_ 1 1 rfl).trans (e384_)
    have e386_ : F64_ 1 1 = F5_ 1 1 := (s66_ 1 1 rfl).trans (e385_)
    have e387_ : F83_ 1 1 = F5_ 1 1 := (s85_ 1 1 rfl).trans (e386_)
    have e388_ : F103_ 1 1 = F5_ 1 1 := (s105_ 1 1 rfl).trans (e387_)
    have e389_ : F124_ 1 1 = F5_ 1 1 := (s126_ 1 1 rfl).trans (e388_)
    have e390_ : F146_ 1 1 = F5_ 1 1 := (s148_ 1 1 rfl).trans (e389_)
    have e391_ : F167_ 1 1 = F5_ 1 1 := (s169_ 1 1 rfl).trans (e390_)
    have e392_ : F198_ 1 1 = F5_ 1 1 := (s200_ 1 1 rfl).trans (e391_)
    have e393_ : F211_ 1 1 = F5_ 1 1 := by rw [q212_]; exact (fl_u_ne (by first | exact nc_ rfl | decide | omega)).trans ((fl_u_ne (by first | exact nc_ rfl | decide | omega)).trans (e392_))
    have e394_ : F238_ 1 1 = F5_ 1 1 := (s240_ 1 1 rfl).trans (e393_)
    have e395_ : F265_ 1 1 = F5_ 1 1 := (s267_ 1 1 rfl).trans (e394_)
    have e396_ : F310_ 1 1 = F5_ 1 1 := (s312_ 1 1 rfl).trans (e395_)
    have e397_ : F339_ 1 1 = F5_ 1 1 := (s341_ 1 1 rfl).trans (e396_)
    have e398_ : F373_ 1 1 = F5_ 1 1 := (s375_ 1 1 rfl).trans (e397_)
    have e399_ : F380_ 1 1 = F5_ 1 1 := (s382_ 1 1 rfl).trans (e398_)
    have b400_ : 0 ≤ F5_ 1 1 ∧ F5_ 1 1 ≤ 600 := gi_g g6_ rfl
    exact ⟨F380_, ⟨rfl, rfl⟩, g381_, g383_, (by omega)⟩
  rintro A1_ ⟨F404_, hA_, g405_, s406_, c402_, c403_⟩
  subst hA_
  have g407_ : fs [(1, 1, 1, 1), (1, 1, 6, 8), (3, 6, 0, 100000), (105, 117, 0, 100000), (119, 119, 2, 3)] F F404_ := fs_tr g376_ s406_ rfl
  have tk408_ : tkh K F404_ := tkh_fs tk377_ s406_ (fs_rg rfl) rfl
  refine gr_v hm_118 rfl rfl ?_
  clear h346_ h347_ f344_ l345_
  refine ga_aload_n (v := .ref 118) hm_125 rfl rfl rfl ?_
  refine ga_getr (b := 119) hm_125 rfl sc_118 rfl ?_
  refine ga_aload_n (v := .ref 118) hm_125 rfl rfl rfl ?_
  refine ga_getr (b := 104) hm_125 rfl sc_118 rfl ?_
  refine ga_getr (b := 113) hm_125 rfl sc_104 rfl ?_
  refine fl_iconst hm_125 rfl ?_
  have b409_ : 0 ≤ F404_ 1 7 ∧ F404_ 1 7 ≤ 600 := gi_g g405_ rfl
  have e410_ : F310_ 119 2 = 105 := (s312_ 119 2 rfl).trans (e273_)
  have e411_ : F339_ 119 2 = 105 := (s341_ 119 2 rfl).trans (e410_)
  have e412_ : F373_ 119 2 = 105 := (s375_ 119 2 rfl).trans (e411_)
  have e413_ : F404_ 119 2 = 105 := (s406_ 119 2 rfl).trans (e412_)
  have e414_ : F310_ 119 3 = 2 := (s312_ 119 3 rfl).trans (e276_)
  have e415_ : F339_ 119 3 = 2 := (s341_ 119 3 rfl).trans (e414_)
  have e416_ : F373_ 119 3 = 2 := (s375_ 119 3 rfl).trans (e415_)
  have e417_ : F404_ 119 3 = 2 := (s406_ 119 3 rfl).trans (e416_)
  refine gVv (nY := 4) (F := 10) (L := 192) (As := [.ref 113, .int (Int32.ofInt 0)]) (b := 119) (rest := []) hm_125 rfl hm_90 rfl rfl (fl_ob sc_119) rfl rfl rfl rfl rfl (by omega) (by omega) (mc_90 hG F404_ X g405_ (K) (105) (6) (113) (4) (5) (-1) (2) (l) (tl) (pl) (ps) (false) (0) hgK tk408_ hko (⟨by omega, by omega⟩) nm_105 (by omega) (by omega) ((rep_fs (rep_fs (rep_fs (rep_fs (rep_fs (rep_fs (by rw [q212_]; exact (rep_u (rep_u hl (by omega) (by omega)) (by omega) (by omega))) s240_ (fun _ => (by first | exact fs_c rfl | exact (fs_n (by omega) rfl))) (by first | exact fs_c rfl | exact (fs_n (by omega) rfl))) s267_ (fun _ => (by first | exact fs_c rfl | exact (fs_n (by omega) rfl))) (by first | exact fs_c rfl | exact (fs_n (by omega) rfl))) s312_ (fun _ => (by first | exact fs_c rfl | exact (fs_n (by omega) (fs_n (by omega) (fs_n (by omega) rfl))))) (by first | exact fs_c rfl | exact (fs_n (by omega) (fs_n (by omega) (fs_n (by omega) rfl))))) s341_ (fun _ => (by first | exact fs_c rfl | exact (fs_n (by omega) rfl))) (by first | exact fs_c rfl | exact (fs_n (by omega) rfl))) s375_ (fun _ => (by first | exact fs_c rfl | exact (fs_n (by omega) rfl))) (by first | exact fs_c rfl | exact (fs_n (by omega) rfl))) s406_ (fun _ => (by first | exact fs_c rfl | exact (fs_n (by omega) rfl))) (by first | exact fs_c rfl | exact (fs_n (by omega) rfl)))) ((rep_fs (rep_fs (rep_fs (rep_fs (rep_fs (rep_fs (by rw [q212_]; exact (rep_u (rep_u htl (by omega) (by omega)) (by omega) (by omega))) s240_ (fun _ => (by first | exact fs_c rfl | exact (fs_n (by omega) rfl))) (by first | exact fs_c rfl | exact (fs_n (by omega) rfl))) s267_ (fun _ => (by first | exact fs_c rfl | exact (fs_n (by omega) rfl))) (by first | exact fs_c rfl | exact (fs_n (by omega) rfl))) s312_ (fun _ => (by first | exact fs_c rfl | exact (fs_n (by omega) (fs_n (by omega) (fs_n (by omega) rfl))))) (by first | exact fs_c rfl | exact (fs_n (by omega) (fs_n (by omega) (fs_n (by omega) rfl))))) s341_ (fun _ => (by first | exact fs_c rfl | exact (fs_n (by omega) rfl))) (by first | exact fs_c rfl | exact (fs_n (by omega) rfl))) s375_ (fun _ => (by first | exact fs_c rfl | exact (fs_n (by omega) rfl))) (by first | exact fs_c rfl | exact (fs_n (by omega) rfl))) s406_ (fun _ => (by first | exact fs_c rfl | exact (fs_n (by omega) rfl))) (by first | exact fs_c rfl | exact (fs_n (by omega) rfl)))) (⟨by omega, by omega⟩) cl_113 (by omega) (by omega) ((rep_fs (rep_fs (rep_fs (rep_fs (rep_fs (rep_fs (by rw [q212_]; exact (rep_u (rep_u (rep_fs (rep_fs (rep_fs (rep_fs (rep_fs (rep_fs (rep_fs (rep_fs (by rw [q30_]; exact (rep_u (rep_u (rep_u (rep_u (rep_u (rep_fs hpl s7_ (fun _ => (by first | exact fs_c rfl | exact (fs_n (by omega) (fs_n (by omega) (fs_n (by omega) rfl))))) (by first | exact fs_c rfl | exact (fs_n (by omega) (fs_n (by omega) (fs_n (by omega) rfl))))) (by omega) (by omega)) (by omega) (by omega)) (by omega) (by omega)) (by omega) (by omega)) (by omega) (by omega))) s48_ (fun _ => (by first | exact fs_c rfl | exact (fs_n (by omega) rfl))) (by first | exact fs_c rfl | exact (fs_n (by omega) rfl))) s66_ (fun _ => (by first | exact fs_c rfl | exact (fs_n (by omega) rfl))) (by first | exact fs_c rfl | exact (fs_n (by omega) rfl))) s85_ (fun _ => (by first | exact fs_c rfl | exact (fs_n (by omega) rfl))) (by first | exact fs_c rfl | exact (fs_n (by omega) rfl))) s105_ (fun _ => (by first | exact fs_c rfl | exact (fs_n (by omega) rfl))) (by first | exact fs_c rfl | exact (fs_n (by omega) rfl))) s126_ (fun _ => (by first | exact fs_c rfl | exact (fs_n (by omega) rfl))) (by first | exact fs_c rfl | exact (fs_n (by omega) rfl))) s148_ (fun _ => (by first | exact fs_c rfl | exact (fs_n (by omega) rfl))) (by first | exact fs_c rfl | exact (fs_n (by omega) rfl))) s169_ (fun _ => (by first | exact fs_c rfl | exact (fs_n (by omega) rfl))) (by first | exact fs_c rfl | exact (fs_n (by omega) rfl))) s200_ (fun _ => (by first | exact fs_c rfl | exact (fs_n (by omega) (fs_n (by omega) rfl)))) (by first | exact fs_c rfl | exact (fs_n (by omega) (fs_n (by omega) rfl)))) (by omega) (by omega)) (by omega) (by omega))) s240_ (fun _ => (by first | exact fs_c rfl | exact (fs_n (by omega) rfl))) (by first | exact fs_c rfl | exact (fs_n (by omega) rfl))) s267_ (fun _ => (by first | exact fs_c rfl | exact (fs_n (by omega) rfl))) (by first | exact fs_c rfl | exact (fs_n (by omega) rfl))) s312_ (fun _ => (by first | exact fs_c rfl | exact (fs_n (by omega) (fs_n (by omega) (fs_n (by omega) rfl))))) (by first | exact fs_c rfl | exact (fs_n (by omega) (fs_n (by omega) (fs_n (by omega) rfl))))) s341_ (fun _ => (by first | exact fs_c rfl | exact (fs_n (by omega) rfl))) (by first | exact fs_c rfl | exact (fs_n (by omega) rfl))) s375_ (fun _ => (by first | exact fs_c rfl | exact (fs_n (by omega) rfl))) (by first | exact fs_c rfl | exact (fs_n (by omega) rfl))) s406_ (fun _ => (by first | exact fs_c rfl | exact (fs_n (by omega) rfl))) (by first | exact fs_c rfl | exact (fs_n (by omega) rfl)))) ((prd_fs (prd_fs (prd_fs (prd_fs (prd_fs (prd_fs (by rw [q212_]; exact (prd_u (prd_u (prd_fs (prd_fs (prd_fs (prd_fs (prd_fs (prd_fs (prd_fs (prd_fs (by rw [q30_]; exact (prd_u (prd_u (prd_u (prd_u (prd_u (prd_fs hps s7_ (fun _ _ _ => (by first | exact fs_c rfl | exact (fs_n (by omega) (fs_n (by omega) (fs_n (by omega) rfl)))))) (by omega)) (by omega)) (by omega)) (by omega)) (by omega))) s48_ (fun _ _ _ => (by first | exact fs_c rfl | exact (fs_n (by omega) rfl)))) s66_ (fun _ _ _ => (by first | exact fs_c rfl | exact (fs_n (by omega) rfl)))) s85_ (fun _ _ _ => (by first | exact fs_c rfl | exact (fs_n (by omega) rfl)))) s105_ (fun _ _ _ => (by first | exact fs_c rfl | exact (fs_n (by omega) rfl)))) s126_ (fun _ _ _ => (by first | exact fs_c rfl | exact (fs_n (by omega) rfl)))) s148_ (fun _ _ _ => (by first | exact fs_c rfl | exact (fs_n (by omega) rfl)))) s169_ (fun _ _ _ => (by first | exact fs_c rfl | exact (fs_n (by omega) rfl)))) s200_ (fun _ _ _ => (by first | exact fs_c rfl | exact (fs_n (by omega) (fs_n (by omega) rfl))))) (by omega)) (by omega))) s240_ (fun _ _ _ => (by first | exact fs_c rfl | exact (fs_n (by omega) rfl)))) s267_ (fun _ _ _ => (by first | exact fs_c rfl | exact (fs_n (by omega) rfl)))) s312_ (fun _ _ _ => (by first | exact fs_c rfl | exact (fs_n (by omega) (fs_n (by omega) (fs_n (by omega) rfl)))))) s341_ (fun _ _ _ => (by first | exact fs_c rfl | exact (fs_n (by omega) rfl)))) s375_ (fun _ _ _ => (by first | exact fs_c rfl | exact (fs_n (by omega) rfl)))) s406_ (fun _ _ _ => (by first | exact fs_c rfl | exact (fs_n (by omega) rfl))))) (hpn) (by simp) (fun _ => rfl)) ?_ ?_
  ·
    rintro j_ A1_ ⟨F419_, ⟨hJ_, hA_⟩, g420_, s421_, c418_⟩
    subst hA_
    subst hJ_
    refine ⟨rfl, ?_⟩
    refine gw_v ?_
    have g422_ : fs [(1, 1, 1, 1), (1, 1, 6, 8), (3, 6, 0, 100000), (105, 117, 0, 100000), (119, 119, 2, 3)] F F419_ := fs_tr g407_ s421_ rfl
    have e423_ : F29_ 1 1 = F5_ 1 1 := by rw [q30_]; exact (fl_u_ne (by first | exact nc_ rfl | decide | omega)).trans ((fl_u_ne (by first | exact nc_ rfl | decide | omega)).trans ((fl_u_ne (by first | exact nc_ rfl | decide | omega)).trans ((fl_u_ne (by first | exact nc_ rfl | decide | omega)).trans (fl_u_ne (by first | exact nc_ rfl | decide | omega)))))
    have e424_ : F46_ 1 1 = F5_ 1 1 := (s48_ 1 1 rfl).trans (e423_)
    have e425_ : F64_ 1 1 = F5_ 1 1 := (s66_ 1 1 rfl).trans (e424_)
    have e426_ : F83_ 1 1 = F5_ 1 1 := (s85_ 1 1 rfl).trans (e425_)
    have e427_ : F103_ 1 1 = F5_ 1 1 := (s105_ 1 1 rfl).trans (e426_)
    have e428_ : F124_ 1 1 = F5_ 1 1 := (s126_ 1 1 rfl).trans (e427_)
    have e429_ : F146_ 1 1 = F5_ 1 1 := (s148_ 1 1 rfl).trans (e428_)
    have e430_ : F167_ 1 1 = F5_ 1 1 := (s169_ 1 1 rfl).trans (e429_)
    have e431_ : F198_ 1 1 = F5_ 1 1 := (s200_ 1 1 rfl).trans (e430_)
    have e432_ : F211_ 1 1 = F5_ 1 1 := by rw [q212_]; exact (fl_u_ne (by first | exact nc_ rfl | decide | omega)).trans ((fl_u_ne (by first | exact nc_ rfl | decide | omega)).trans (e431_))
    have e433_ : F238_ 1 1 = F5_ 1 1 := (s240_ 1 1 rfl).trans (e432_)
    have e434_ : F265_ 1 1 = F5_ 1 1 := (s267_ 1 1 rfl).trans (e433_)
    have e435_ : F310_ 1 1 = F5_ 1 1 := (s312_ 1 1 rfl).trans (e434_)
    have e436_ : F339_ 1 1 = F5_ 1 1 := (s341_ 1 1 rfl).trans (e435_)
    have e437_ : F373_ 1 1 = F5_ 1 1 := (s375_ 1 1 rfl).trans (e436_)
    have e438_ : F404_ 1 1 = F5_ 1 1 := (s406_ 1 1 rfl).trans (e437_)
    have e439_ : F419_ 1 1 = F5_ 1 1 := (s421_ 1 1 rfl).trans (e438_)
    have b440_ : 0 ≤ F5_ 1 1 ∧ F5_ 1 1 ≤ 600 := gi_g g6_ rfl
    exact ⟨F419_, ⟨rfl, rfl⟩, g420_, g422_, (by omega)⟩
  rintro A1_ ⟨F445_, hA_, g446_, s447_, c442_, c443_, c444_⟩
  subst hA_
  have g448_ : fs [(1, 1, 1, 1), (1, 1, 6, 8), (3, 6, 0, 100000), (105, 117, 0, 100000), (119, 119, 2, 3)] F F445_ := fs_tr g407_ s447_ rfl
  have tk449_ : tkh K F445_ := tkh_fs tk408_ s447_ (fs_rg rfl) rfl
  refine ga_aload_n (v := .ref 118) hm_125 rfl rfl rfl ?_
  refine ga_getr (b := 1) hm_125 rfl sc_118 rfl ?_
  refine fl_iconst hm_125 rfl ?_
  have b450_ : 0 ≤ F445_ 1 7 ∧ F445_ 1 7 ≤ 600 := gi_g g446_ rfl
  refine gVv (nY := 2) (F := 7) (L := 121) (As := [.int (Int32.ofInt 1)]) (b := 1) (rest := []) hm_125 rfl hm_24 rfl rfl (fl_ob sc_1) rfl rfl rfl rfl rfl (by omega) (by omega) (mc_24 hG F445_ X g446_ (K) (1) hgK tk449_ hko (⟨by omega, by omega⟩) (⟨by omega, by omega⟩)) ?_ ?_
  ·
    rintro j_ A1_ ⟨F452_, ⟨hJ_, hA_⟩, g453_, s454_, c451_⟩
    subst hA_
    subst hJ_
    refine ⟨rfl, ?_⟩
    refine gw_v ?_
    have g455_ : fs [(1, 1, 1, 1), (1, 1, 6, 8), (3, 6, 0, 100000), (105, 117, 0, 100000), (119, 119, 2, 3)] F F452_ := fs_tr g448_ s454_ rfl
    have e456_ : F29_ 1 1 = F5_ 1 1 := by rw [q30_]; exact (fl_u_ne (by first | exact nc_ rfl | decide | omega)).trans ((fl_u_ne (by first | exact nc_ rfl | decide | omega)).trans ((fl_u_ne (by first | exact nc_ rfl | decide | omega)).trans ((fl_u_ne (by first | exact nc_ rfl | decide | omega)).trans (fl_u_ne (by first | exact nc_ rfl | decide | omega)))))
    have e457_ : F46_ 1 1 = F5_ 1 1 := (s48_ 1 1 rfl).trans (e456_)
    have e458_ : F64_ 1 1 = F5_ 1 1 := (s66_ 1 1 rfl).trans (e457_)
    have e459_ : F83_ 1 1 = F5_ 1 1 := (s85_ 1 1 rfl).trans (e458_)
    have e460_ : F103_ 1 1 = F5_ 1 1 := (s105_ 1 1 rfl).trans (e459_)
    have e461_ : F124_ 1 1 = F5_ 1 1 := (s126_ 1 1 rfl).trans (e460_)
    have e462_ : F146_ 1 1 = F5_ 1 1 := (s148_ 1 1 rfl).trans (e461_)
    have e463_ : F167_ 1 1 = F5_ 1 1 := (s169_ 1 1 rfl).trans (e462_)
    have e464_ : F198_ 1 1 = F5_ 1 1 := (s200_ 1 1 rfl).trans (e463_)
    have e465_ : F211_ 1 1 = F5_ 1 1 := by rw [q212_]; exact (fl_u_ne (by first | exact nc_ rfl | decide | omega)).trans ((fl_u_ne (by first | exact nc_ rfl | decide | omega)).trans (e464_))
    have e466_ : F238_ 1 1 = F5_ 1 1 := (s240_ 1 1 rfl).trans (e465_)
    have e467_ : F265_ 1 1 = F5_ 1 1 := (s267_ 1 1 rfl).trans (e466_)
    have e468_ : F310_ 1 1 = F5_ 1 1 := (s312_ 1 1 rfl).trans (e467_)
    have e469_ : F339_ 1 1 = F5_ 1 1 := (s341_ 1 1 rfl).trans (e468_)
    have e470_ : F373_ 1 1 = F5_ 1 1 := (s375_ 1 1 rfl).trans (e469_)
    have e471_ : F404_ 1 1 = F5_ 1 1 := (s406_ 1 1 rfl).trans (e470_)
    have e472_ : F445_ 1 1 = F5_ 1 1 := (s447_ 1 1 rfl).trans (e471_)
    have e473_ : F452_ 1 1 = F5_ 1 1 := (s454_ 1 1 rfl).trans (e472_)
    have b474_ : 0 ≤ F5_ 1 1 ∧ F5_ 1 1 ≤ 600 := gi_g g6_ rfl
    exact ⟨F452_, ⟨rfl, rfl⟩, g453_, g455_, (by omega)⟩
  rintro A1_ ⟨F478_, hA_, g479_, s480_, c476_, c477_⟩
  subst hA_
  have g481_ : fs [(1, 1, 1, 1), (1, 1, 6, 8), (3, 6, 0, 100000), (105, 117, 0, 100000), (119, 119, 2, 3)] F F478_ := fs_tr g448_ s480_ rfl
  have tk482_ : tkh K F478_ := tkh_fs tk449_ s480_ (fs_rg rfl) rfl
  refine ga_aload_n (v := .ref 118) hm_125 rfl rfl rfl ?_
  refine gIv (nY := 1) (F := 8) (L := 142) (As := []) (b := 118) (rest := []) hm_125 rfl hm_117 rfl rfl (fl_ob sc_118) rfl rfl rfl rfl rfl (by omega) (by omega) ?_
  intro f483_ l484_ h485_ h486_
  show fl_R xi_ms 117 f483_ l484_ 0 [(0, .ref 118)] [] _ _
  refine ga_aload_n (v := .ref 118) hm_117 rfl rfl rfl ?_
  refine ga_getr (b := 1) hm_117 rfl sc_118 rfl ?_
  refine fl_iconst hm_117 rfl ?_
  have b487_ : 0 ≤ F478_ 1 7 ∧ F478_ 1 7 ≤ 600 := gi_g g479_ rfl
  refine gVv (nY := 2) (F := 7) (L := 121) (As := [.int (Int32.ofInt 1)]) (b := 1) (rest := []) hm_117 rfl hm_24 rfl rfl (fl_ob sc_1) rfl rfl rfl rfl rfl (by omega) (by omega) (mc_24 hG F478_ X g479_ (K) (1) hgK tk482_ hko (⟨by omega, by omega⟩) (⟨by omega, by omega⟩)) ?_ ?_
  ·
    rintro j_ A1_ ⟨F489_, ⟨hJ_, hA_⟩, g490_, s491_, c488_⟩
    subst hA_
    subst hJ_
    refine ⟨rfl, ?_⟩
    refine gw_v ⟨rfl, ?_⟩
    refine gw_v ?_
    have g492_ : fs [(1, 1, 1, 1), (1, 1, 6, 8), (3, 6, 0, 100000), (105, 117, 0, 100000), (119, 119, 2, 3)] F F489_ := fs_tr g481_ s491_ rfl
    have e493_ : F29_ 1 1 = F5_ 1 1 := by rw [q30_]; exact (fl_u_ne (by first | exact nc_ rfl | decide | omega)).trans ((fl_u_ne (by first | exact nc_ rfl | decide | omega)).trans ((fl_u_ne (by first | exact nc_ rfl | decide | omega)).trans ((fl_u_ne (by first | exact nc_ rfl | decide | omega)).trans (fl_u_ne (by first | exact nc_ rfl | decide | omega)))))
    have e494_ : F46_ 1 1 = F5_ 1 1 := (s48_ 1 1 rfl).trans (e493_)
    have e495_ : F64_ 1 1 = F5_ 1 1 := (s66_ 1 1 rfl).trans (e494_)
    have e496_ : F83_ 1 1 = F5_ 1 1 := (s85_ 1 1 rfl).trans (e495_)
    have e497_ : F103_ 1 1 = F5_ 1 1 := (s105_ 1 1 rfl).trans (e496_)
    have e498_ : F124_ 1 1 = F5_ 1 1 := (s126_ 1 1 rfl).trans (e497_)
    have e499_ : F146_ 1 1 = F5_ 1 1 := (s148_ 1 1 rfl).trans (e498_)
    have e500_ : F167_ 1 1 = F5_ 1 1 := (s169_ 1 1 rfl).trans (e499_)
    have e501_ : F198_ 1 1 = F5_ 1 1 := (s200_ 1 1 rfl).trans (e500_)
    have e502_ : F211_ 1 1 = F5_ 1 1 := by rw [q212_]; exact (fl_u_ne (by first | exact nc_ rfl | decide | omega)).trans ((fl_u_ne (by first | exact nc_ rfl | decide | omega)).trans (e501_))
    have e503_ : F238_ 1 1 = F5_ 1 1 := (s240_ 1 1 rfl).trans (e502_)
    have e504_ : F265_ 1 1 = F5_ 1 1 := (s267_ 1 1 rfl).trans (e503_)
    have e505_ : F310_ 1 1 = F5_ 1 1 := (s312_ 1 1 rfl).trans (e504_)
    have e506_ : F339_ 1 1 = F5_ 1 1 := (s341_ 1 1 rfl).trans (e505_)
    have e507_ : F373_ 1 1 = F5_ 1 1 := (s375_ 1 1 rfl).trans (e506_)
    have e508_ : F404_ 1 1 = F5_ 1 1 := (s406_ 1 1 rfl).trans (e507_)
    have e509_ : F445_ 1 1 = F5_ 1 1 := (s447_ 1 1 rfl).trans (e508_)
    have e510_ : F478_ 1 1 = F5_ 1 1 := (s480_ 1 1 rfl).trans (e509_)
    have e511_ : F489_ 1 1 = F5_ 1 1 := (s491_ 1 1 rfl).trans (e510_)
    have b512_ : 0 ≤ F5_ 1 1 ∧ F5_ 1 1 ≤ 600 := gi_g g6_ rfl
    exact ⟨F489_, ⟨rfl, rfl⟩, g490_, g492_, (by omega)⟩
  rintro A1_ ⟨F516_, hA_, g517_, s518_, c514_, c515_⟩
  subst hA_
  have g519_ : fs [(1, 1, 1, 1), (1, 1, 6, 8), (3, 6, 0, 100000), (105, 117, 0, 100000), (119, 119, 2, 3)] F F516_ := fs_tr g481_ s518_ rfl
  have tk520_ : tkh K F516_ := tkh_fs tk482_ s518_ (fs_rg rfl) rfl
  refine ga_aload_n (v := .ref 118) hm_117 rfl rfl rfl ?_
  refine ga_getr (b := 1) hm_117 rfl sc_118 rfl ?_
  refine fl_iconst hm_117 rfl ?_
  have b521_ : 0 ≤ F516_ 1 7 ∧ F516_ 1 7 ≤ 600 := gi_g g517_ rfl
  refine gVv (nY := 2) (F := 7) (L := 121) (As := [.int (Int32.ofInt 5)]) (b := 1) (rest := []) hm_117 rfl hm_24 rfl rfl (fl_ob sc_1) rfl rfl rfl rfl rfl (by omega) (by omega) (mc_24 hG F516_ X g517_ (K) (5) hgK tk520_ hko (⟨by omega, by omega⟩) (⟨by omega, by omega⟩)) ?_ ?_
  ·
    rintro j_ A1_ ⟨F523_, ⟨hJ_, hA_⟩, g524_, s525_, c522_⟩
    subst hA_
    subst hJ_
    refine ⟨rfl, ?_⟩
    refine gw_v ⟨rfl, ?_⟩
    refine gw_v ?_
    have g526_ : fs [(1, 1, 1, 1), (1, 1, 6, 8), (3, 6, 0, 100000), (105, 117, 0, 100000), (119, 119, 2, 3)] F F523_ := fs_tr g519_ s525_ rfl
    have e527_ : F29_ 1 1 = F5_ 1 1 := by rw [q30_]; exact (fl_u_ne (by first | exact nc_ rfl | decide | omega)).trans ((fl_u_ne (by first | exact nc_ rfl | decide | omega)).trans ((fl_u_ne (by first | exact nc_ rfl | decide | omega)).trans ((fl_u_ne (by first | exact nc_ rfl | decide | omega)).trans (fl_u_ne (by first | exact nc_ rfl | decide | omega)))))
    have e528_ : F46_ 1 1 = F5_ 1 1 := (s48_ 1 1 rfl).trans (e527_)
    have e529_ : F64_ 1 1 = F5_ 1 1 := (s66_ 1 1 rfl).trans (e528_)
    have e530_ : F83_ 1 1 = F5_ 1 1 := (s85_ 1 1 rfl).trans (e529_)
    have e531_ : F103_ 1 1 = F5_ 1 1 := (s105_ 1 1 rfl).trans (e530_)
    have e532_ : F124_ 1 1 = F5_ 1 1 := (s126_ 1 1 rfl).trans (e531_)
    have e533_ : F146_ 1 1 = F5_ 1 1 := (s148_ 1 1 rfl).trans (e532_)
    have e534_ : F167_ 1 1 = F5_ 1 1 := (s169_ 1 1 rfl).trans (e533_)
    have e535_ : F198_ 1 1 = F5_ 1 1 := (s200_ 1 1 rfl).trans (e534_)
    have e536_ : F211_ 1 1 = F5_ 1 1 := by rw [q212_]; exact (fl_u_ne (by first | exact nc_ rfl | decide | omega)).trans ((fl_u_ne (by first | exact nc_ rfl | decide | omega)).trans (e535_))
    have e537_ : F238_ 1 1 = F5_ 1 1 := (s240_ 1 1 rfl).trans (e536_)
    have e538_ : F265_ 1 1 = F5_ 1 1 := (s267_ 1 1 rfl).trans (e537_)
    have e539_ : F310_ 1 1 = F5_ 1 1 := (s312_ 1 1 rfl).trans (e538_)
    have e540_ : F339_ 1 1 = F5_ 1 1 := (s341_ 1 1 rfl).trans (e539_)
    have e541_ : F373_ 1 1 = F5_ 1 1 := (s375_ 1 1 rfl).trans (e540_)
    have e542_ : F404_ 1 1 = F5_ 1 1 := (s406_ 1 1 rfl).trans (e541_)
    have e543_ : F445_ 1 1 = F5_ 1 1 := (s447_ 1 1 rfl).trans (e542_)
    have e544_ : F478_ 1 1 = F5_ 1 1 := (s480_ 1 1 rfl).trans (e543_)
    have e545_ : F516_ 1 1 = F5_ 1 1 := (s518_ 1 1 rfl).trans (e544_)
    have e546_ : F523_ 1 1 = F5_ 1 1 := (s525_ 1 1 rfl).trans (e545_)
    have b547_ : 0 ≤ F5_ 1 1 ∧ F5_ 1 1 ≤ 600 := gi_g g6_ rfl
    exact ⟨F523_, ⟨rfl, rfl⟩, g524_, g526_, (by omega)⟩
  rintro A1_ ⟨F551_, hA_, g552_, s553_, c549_, c550_⟩
  subst hA_
  have g554_ : fs [(1, 1, 1, 1), (1, 1, 6, 8), (3, 6, 0, 100000), (105, 117, 0, 100000), (119, 119, 2, 3)] F F551_ := fs_tr g519_ s553_ rfl
  have tk555_ : tkh K F551_ := tkh_fs tk520_ s553_ (fs_rg rfl) rfl
  refine gr_v hm_117 rfl rfl ?_
  clear h485_ h486_ f483_ l484_
  refine gr_v hm_125 rfl rfl ?_
  have e556_ : F29_ 1 1 = F5_ 1 1 := by rw [q30_]; exact (fl_u_ne (by first | exact nc_ rfl | decide | omega)).trans ((fl_u_ne (by first | exact nc_ rfl | decide | omega)).trans ((fl_u_ne (by first | exact nc_ rfl | decide | omega)).trans ((fl_u_ne (by first | exact nc_ rfl | decide | omega)).trans (fl_u_ne (by first | exact nc_ rfl | decide | omega)))))
  have e557_ : F46_ 1 1 = F5_ 1 1 := (s48_ 1 1 rfl).trans (e556_)
  have e558_ : F64_ 1 1 = F5_ 1 1 := (s66_ 1 1 rfl).trans (e557_)
  have e559_ : F83_ 1 1 = F5_ 1 1 := (s85_ 1 1 rfl).trans (e558_)
  have e560_ : F103_ 1 1 = F5_ 1 1 := (s105_ 1 1 rfl).trans (e559_)
  have e561_ : F124_ 1 1 = F5_ 1 1 := (s126_ 1 1 rfl).trans (e560_)
  have e562_ : F146_ 1 1 = F5_ 1 1 := (s148_ 1 1 rfl).trans (e561_)
  have e563_ : F167_ 1 1 = F5_ 1 1 := (s169_ 1 1 rfl).trans (e562_)
  have e564_ : F198_ 1 1 = F5_ 1 1 := (s200_ 1 1 rfl).trans (e563_)
  have e565_ : F211_ 1 1 = F5_ 1 1 := by rw [q212_]; exact (fl_u_ne (by first | exact nc_ rfl | decide | omega)).trans ((fl_u_ne (by first | exact nc_ rfl | decide | omega)).trans (e564_))
  have e566_ : F238_ 1 1 = F5_ 1 1 := (s240_ 1 1 rfl).trans (e565_)
  have e567_ : F265_ 1 1 = F5_ 1 1 := (s267_ 1 1 rfl).trans (e566_)
  have e568_ : F310_ 1 1 = F5_ 1 1 := (s312_ 1 1 rfl).trans (e567_)
  have e569_ : F339_ 1 1 = F5_ 1 1 := (s341_ 1 1 rfl).trans (e568_)
  have e570_ : F373_ 1 1 = F5_ 1 1 := (s375_ 1 1 rfl).trans (e569_)
  have e571_ : F404_ 1 1 = F5_ 1 1 := (s406_ 1 1 rfl).trans (e570_)
  have e572_ : F445_ 1 1 = F5_ 1 1 := (s447_ 1 1 rfl).trans (e571_)
  have e573_ : F478_ 1 1 = F5_ 1 1 := (s480_ 1 1 rfl).trans (e572_)
  have e574_ : F516_ 1 1 = F5_ 1 1 := (s518_ 1 1 rfl).trans (e573_)
  have e575_ : F551_ 1 1 = F5_ 1 1 := (s553_ 1 1 rfl).trans (e574_)
  have b576_ : 0 ≤ F5_ 1 1 ∧ F5_ 1 1 ≤ 600 := gi_g g6_ rfl
  exact ⟨F551_, rfl, g552_, g554_, (by omega), (cw_le (cw_fs (cw_fs (cw_fs (cw_fs (cw_fs (cw_fs (cw_fs c309_ s341_ (by first | exact fs_rg rfl | exact fun r j hj => (fs_n (by omega) rfl))) s375_ (by first | exact fs_rg rfl | exact fun r j hj => (fs_n (by omega) rfl))) s406_ (by first | exact fs_rg rfl | exact fun r j hj => (fs_n (by omega) rfl))) s447_ (by first | exact fs_rg rfl | exact fun r j hj => (fs_n (by omega) (fs_n (by omega) (fs_n (by omega) rfl))))) s480_ (by first | exact fs_rg rfl | exact fun r j hj => (fs_n (by omega) rfl))) s518_ (by first | exact fs_rg rfl | exact fun r j hj => (fs_n (by omega) rfl))) s553_ (by first | exact fs_rg rfl | exact fun r j hj => (fs_n (by omega) rfl))) (by omega)), (cw_le (cw_fs (cw_fs (cw_fs c444_ s480_ (by first | exact fs_rg rfl | exact fun r j hj => (fs_n (by omega) rfl))) s518_ (by first | exact fs_rg rfl | exact fun r j hj => (fs_n (by omega) rfl))) s553_ (by first | exact fs_rg rfl | exact fun r j hj => (fs_n (by omega) rfl))) (by omega))⟩

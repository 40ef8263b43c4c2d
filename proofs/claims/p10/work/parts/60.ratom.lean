/- CheapPlannerModel.readAtom -/
abbrev pq_174 (G : Nat → Nat → Option Nat) (F : fl_N) (X : xi_H) (K : fl_N) (a ll k : Int) (l tl pl : List Int) (ps : List (List Int)) : Outcome → xi_H → Prop := gqv (fun A => (∃ F' : fl_N, fl_H sh_T G F' ++ X = A ∧ gi F' ∧ fs [(344, 344, 5, 5), (344, 344, 9, 10), (362, 363, 0, 100000)] F F' ∧ (¬ F' 344 9 = 0) ∧ ((F 344 9 = 0 → sp_atom K k l tl pl ps (F 344 5) = .inl (F' 344 9, F' 344 10)) ∧ (¬ F 344 9 = 0 → F' 344 9 = F 344 9 ∧ F' 344 10 = F 344 10)) ∧ (0 ≤ F' 344 5 ∧ F' 344 5 ≤ K 1 6 - 1)) ∨ (∃ F' : fl_N, fl_H sh_T G F' ++ X = A ∧ gi F' ∧ fs [(344, 344, 5, 5), (344, 344, 9, 10), (362, 363, 0, 100000)] F F' ∧ (F' 344 9 = 0 ∧ F 344 9 = 0) ∧ (sp_atom K k l tl pl ps (F 344 5) = .inr (F' 344 5)) ∧ (0 ≤ F' 344 5 ∧ F' 344 5 ≤ K 1 6 - 1) ∧ (lfr a.toNat ll.toNat (ll.toNat + 1) F F') ∧ (rat F' ll.toNat (at_d K l pl ps 0 (F 344 5))))) gqn
set_option maxHeartbeats 16000000 in
theorem mc_174 {G : Nat → Nat → Option Nat} (hG : gg G) (F : fl_N) (X : xi_H) (hgi : gi F) (K : fl_N) (a ll k : Int) (l tl pl : List Int) (ps : List (List Int)) (hgK : gi K) (hrk : rk K F) (hkt : rkt K) (hp : 0 ≤ F 344 5 ∧ F 344 5 ≤ K 1 6 - 1) (ht : trm F a k l tl) (hlt : l.length = tl.length) (ha : 0 ≤ a ∧ a ≤ 5) (hpl : rpn (F 350) (F 344 17) pl) (hps : rprd F ps ∧ ps.length = pl.length) (hll : 0 ≤ ll ∧ ll ≤ 43) (hla : rla a ll) : fl_M xi_ms 174 4 91 [.ref 344, .int (Int32.ofInt a), .int (Int32.ofInt ll)] (fl_H sh_T G F ++ X) (pq_174 G F X K a ll k l tl pl ps) := by
  intro fr lo hfr hlo
  show fl_R xi_ms 174 fr lo 0 [(0, .ref 344), (1, .int (Int32.ofInt a)), (2, .int (Int32.ofInt ll))] [] _ _
  have hP := (rkt_p hkt hp.1 hp.2 hgK).1
  have hK16 : 0 ≤ K 1 6 ∧ K 1 6 ≤ 601 := gi_g hgK rfl
  have hko := hkt.1
  have hpl1 := hpl.1
  have hb17 : 0 ≤ F 344 17 ∧ F 344 17 ≤ 6 := gi_g hgi rfl
  have b1_ : 0 ≤ F 344 9 ∧ F 344 9 ≤ 5 := gi_g hgi rfl
  by_cases h2_ : F 344 9 = 0
  ·
    refine ga_aload_n (v := .ref 344) hm_174 rfl rfl rfl ?_
    have b3_ : 0 ≤ F 344 5 ∧ F 344 5 ≤ 600 := gi_g hgi rfl
    refine gVl (nY := 3) (F := 2) (L := 46) (As := []) (b := 344) (rest := []) hm_174 rfl hm_58 rfl rfl (fl_ob sc_344) rfl rfl rfl rfl rfl (by omega) (by omega) (mc_58 hG F X hgi (K) hgK hrk hkt (by omega)) (fun _ _ h => False.elim h) ?_
    have b5_ : 0 ≤ F 344 10 ∧ F 344 10 ≤ 600 := gi_g hgi rfl
    rintro z4_ A1_ (⟨F10_, hA_, g11_, s12_, c6_, c7_, c8_, c9_⟩ | ⟨F20_, hA_, g21_, s22_, c13_, c14_, c15_, c16_, c17_, c18_, c19_⟩)
    ·
      subst hA_
      have g23_ : fs [(344, 344, 5, 5), (344, 344, 9, 10), (362, 363, 0, 100000)] F F10_ := fs_tr fs_refl s12_ rfl
      have rk24_ : rk K F10_ := rk_fs hrk s12_ (fun r k h => (fs_n (by omega) rfl)) (fs_n (by omega) rfl)
      have c7_s := c7_.1 (by omega)
      clear c7_
      refine ga_lstore_n (lv2 := [(3, .long (Int64.ofInt z4_)), (0, .ref 344), (1, .int (Int32.ofInt a)), (2, .int (Int32.ofInt ll))]) hm_174 rfl (Nat.le_of_ble_eq_true rfl) rfl ?_
      refine ga_aload_n (v := .ref 344) hm_174 rfl rfl rfl ?_
      refine ga_getr (b := 350) hm_174 rfl sc_344 rfl ?_
      refine fl_iconst hm_174 rfl ?_
      refine ga_aload_n (v := .ref 344) hm_174 rfl rfl rfl ?_
      have e25_ : F10_ 344 17 = F 344 17 := (s12_ 344 17 rfl).trans (rfl)
      have b26_ : 0 ≤ F 344 17 ∧ F 344 17 ≤ 6 := gi_g hgi rfl
      refine ga_geti (z := F 344 17) hm_174 rfl sc_344 rfl (e25_) ?_
      refine ga_lload_n (z := z4_) hm_174 rfl rfl ?_
      refine gSi (nY := 7) (F := 0) (L := 0) (As := [.ref 350, .int (Int32.ofInt 0), .int (Int32.ofInt (F 344 17)), .long (Int64.ofInt z4_)]) (rest := []) hm_174 rfl hm_162 rfl rfl (fl_pos sc_0) rfl rfl rfl rfl (by omega) (by omega) (mc_162 hG F10_ X g11_ (350) (6) (0) (F 344 17) (z4_) sc_350 (fun _ => rfl) (by omega) (by omega))  ?_
      rintro z27_ A1_ ⟨hA_, c28_, c29_, c30_⟩
      subst hA_
      refine ga_istore (lv2 := [(5, .int (Int32.ofInt z27_)), (3, .long (Int64.ofInt z4_)), (0, .ref 344), (1, .int (Int32.ofInt a)), (2, .int (Int32.ofInt ll))]) hm_174 rfl (Nat.le_of_ble_eq_true rfl) rfl ?_
      refine ga_aload_n (v := .ref 344) hm_174 rfl rfl rfl ?_
      refine gIi (nY := 1) (F := 0) (L := 0) (As := []) (b := 344) (rest := []) hm_174 rfl hm_59 rfl rfl (fl_ob sc_344) rfl rfl rfl rfl rfl (by omega) (by omega) ?_
      intro f31_ l32_ h33_ h34_
      show fl_R xi_ms 59 f31_ l32_ 0 [(0, .ref 344)] [] _ _
      refine ga_aload_n (v := .ref 344) hm_59 rfl rfl rfl ?_
      have b35_ : 0 ≤ F10_ 344 9 ∧ F10_ 344 9 ≤ 5 := gi_g g11_ rfl
      refine ga_geti (z := F10_ 344 9) hm_59 rfl sc_344 rfl (rfl) ?_
      refine fl_if_le (a := F10_ 344 9) hm_59 rfl ⟨by omega, by omega⟩ (fun h36_ => ?_) (fun h37_ => ?_)
      · exfalso; omega
      refine fl_iconst hm_59 rfl ?_
      refine fl_goto hm_59 rfl ?_
      refine gr_i hm_59 rfl rfl (ga_nb (by omega)) ?_
      clear h33_ h34_ f31_ l32_
      refine fl_if_ne hm_174 rfl ⟨by omega, by omega⟩ (fun _ => ?_) (fun h => absurd (by omega) h)
      refine ga_aload_n (v := .ref 344) hm_174 rfl rfl rfl ?_
      refine gIv (nY := 1) (F := 1) (L := 20) (As := []) (b := 344) (rest := []) hm_174 rfl hm_61 rfl rfl (fl_ob sc_344) rfl rfl rfl rfl rfl (by omega) (by omega) ?_
      intro f38_ l39_ h40_ h41_
      show fl_R xi_ms 61 f38_ l39_ 0 [(0, .ref 344)] [] _ _
      refine ga_aload_n (v := .ref 344) hm_61 rfl rfl rfl ?_
      refine ga_dup hm_61 rfl rfl ?_
      have e42_ : F10_ 344 5 = F 344 5 := (s12_ 344 5 rfl).trans (rfl)
      refine ga_geti (z := F 344 5) hm_61 rfl sc_344 rfl (e42_) ?_
      refine ga_aload_n (v := .ref 344) hm_61 rfl rfl rfl ?_
      refine gIi (nY := 1) (F := 0) (L := 0) (As := []) (b := 344) (rest := [.int (Int32.ofInt (F 344 5)), .ref 344]) hm_61 rfl hm_59 rfl rfl (fl_ob sc_344) rfl rfl rfl rfl rfl (by omega) (by omega) ?_
      intro f43_ l44_ h45_ h46_
      show fl_R xi_ms 59 f43_ l44_ 0 [(0, .ref 344)] [] _ _
      refine ga_aload_n (v := .ref 344) hm_59 rfl rfl rfl ?_
      refine ga_geti (z := F10_ 344 9) hm_59 rfl sc_344 rfl (rfl) ?_
      refine fl_if_le (a := F10_ 344 9) hm_59 rfl ⟨by omega, by omega⟩ (fun h47_ => ?_) (fun h48_ => ?_)
      · exfalso; omega
      refine fl_iconst hm_59 rfl ?_
      refine fl_goto hm_59 rfl ?_
      refine gr_i hm_59 rfl rfl (ga_nb (by omega)) ?_
      clear h45_ h46_ f43_ l44_
      refine fl_if_eq hm_61 rfl ⟨by omega, by omega⟩ (fun h => absurd h (by omega)) (fun _ => ?_)
      refine fl_iconst hm_61 rfl ?_
      refine fl_goto hm_61 rfl ?_
      refine ga_iadd (a := F 344 5) (b := 0) (c := F 344 5) hm_61 rfl (by omega) ?_
      refine ga_puti (z := F 344 5) hm_61 rfl sc_344 rfl rfl ?_
      refine gr_v hm_61 rfl rfl ?_
      clear h40_ h41_ f38_ l39_
      refine ga_aload_n (v := .ref 344) hm_174 rfl rfl rfl ?_
      refine gIi (nY := 1) (F := 0) (L := 0) (As := []) (b := 344) (rest := []) hm_174 rfl hm_59 rfl rfl (fl_ob sc_344) rfl rfl rfl rfl rfl (by omega) (by omega) ?_
      intro f49_ l50_ h51_ h52_
      show fl_R xi_ms 59 f49_ l50_ 0 [(0, .ref 344)] [] _ _
      refine ga_aload_n (v := .ref 344) hm_59 rfl rfl rfl ?_
      refine ga_geti (z := F10_ 344 9) hm_59 rfl sc_344 rfl (fl_u_ne (by omega)) ?_
      refine fl_if_le (a := F10_ 344 9) hm_59 rfl ⟨by omega, by omega⟩ (fun h53_ => ?_) (fun h54_ => ?_)
      · exfalso; omega
      refine fl_iconst hm_59 rfl ?_
      refine fl_goto hm_59 rfl ?_
      refine gr_i hm_59 rfl rfl (ga_nb (by omega)) ?_
      clear h51_ h52_ f49_ l50_
      refine fl_if_eq hm_174 rfl ⟨by omega, by omega⟩ (fun h => absurd h (by omega)) (fun _ => ?_)
      obtain ⟨F55_, q56_⟩ : ∃ F9_, F9_ = (fl_u F10_ 344 5 (F 344 5)) := ⟨_, rfl⟩
      rw [← q56_]
      have g57_ : gi F55_ := by rw [q56_]; exact gi_u (g11_) rfl (by omega) (by omega)
      have g58_ : fs [(344, 344, 5, 5), (344, 344, 9, 10), (362, 363, 0, 100000)] F F55_ := by rw [q56_]; exact fs_u (g23_) rfl
      have rk59_ : rk K F55_ := by rw [q56_]; exact rk_u (rk24_) (by omega) (by omega)
      refine gr_v hm_174 rfl rfl ?_
      have e60_ : F55_ 344 9 = F10_ 344 9 := by rw [q56_]; exact fl_u_ne (by omega)
      have e61_ : F55_ 344 10 = F10_ 344 10 := by rw [q56_]; exact fl_u_ne (by omega)
      have e62_ : F55_ 344 5 = F 344 5 := by rw [q56_]; exact fl_u_eq
      have b63_ : 0 ≤ F10_ 344 10 ∧ F10_ 344 10 ≤ 600 := gi_g g11_ rfl
      exact Or.inl ⟨F55_, rfl, g57_, g58_, (by omega), (⟨by intro h0_; have hs_ := c7_s; have h1_ := nm_no hs_; rw [sp_nm, if_neg h1_] at hs_; have h2_ := Prod.mk.inj (Sum.inl.inj hs_); rw [sp_atom, if_neg h1_]; show Sum.inl (1, K 4 _) = _; congr 2 <;> omega, fun h0_ => by exfalso; omega⟩), (by omega)⟩
    subst hA_
    have g64_ : fs [(344, 344, 5, 5), (344, 344, 9, 10), (362, 363, 0, 100000)] F F20_ := fs_tr fs_refl s22_ rfl
    have rk65_ : rk K F20_ := rk_fs hrk s22_ (fun r k h => (fs_n (by omega) rfl)) (fs_n (by omega) rfl)
    refine ga_lstore_n (lv2 := [(3, .long (Int64.ofInt z4_)), (0, .ref 344), (1, .int (Int32.ofInt a)), (2, .int (Int32.ofInt ll))]) hm_174 rfl (Nat.le_of_ble_eq_true rfl) rfl ?_
    refine ga_aload_n (v := .ref 344) hm_174 rfl rfl rfl ?_
    refine ga_getr (b := 350) hm_174 rfl sc_344 rfl ?_
    refine fl_iconst hm_174 rfl ?_
    refine ga_aload_n (v := .ref 344) hm_174 rfl rfl rfl ?_
    have e66_ : F20_ 344 17 = F 344 17 := (s22_ 344 17 rfl).trans (rfl)
    have b67_ : 0 ≤ F 344 17 ∧ F 344 17 ≤ 6 := gi_g hgi rfl
    refine ga_geti (z := F 344 17) hm_174 rfl sc_344 rfl (e66_) ?_
    refine ga_lload_n (z := z4_) hm_174 rfl rfl ?_
    refine gSi (nY := 7) (F := 0) (L := 0) (As := [.ref 350, .int (Int32.ofInt 0), .int (Int32.ofInt (F 344 17)), .long (Int64.ofInt z4_)]) (rest := []) hm_174 rfl hm_162 rfl rfl (fl_pos sc_0) rfl rfl rfl rfl (by omega) (by omega) (mc_162 hG F20_ X g21_ (350) (6) (0) (F 344 17) (z4_) sc_350 (fun _ => rfl) (by omega) (by omega))  ?_
    rintro z68_ A1_ ⟨hA_, c69_, c70_, c71_⟩
    subst hA_
    refine ga_istore (lv2 := [(5, .int (Int32.ofInt z68_)), (3, .long (Int64.ofInt z4_)), (0, .ref 344), (1, .int (Int32.ofInt a)), (2, .int (Int32.ofInt ll))]) hm_174 rfl (Nat.le_of_ble_eq_true rfl) rfl ?_
    refine ga_aload_n (v := .ref 344) hm_174 rfl rfl rfl ?_
    refine gIi (nY := 1) (F := 0) (L := 0) (As := []) (b := 344) (rest := []) hm_174 rfl hm_59 rfl rfl (fl_ob sc_344) rfl rfl rfl rfl rfl (by omega) (by omega) ?_
    intro f72_ l73_ h74_ h75_
    show fl_R xi_ms 59 f72_ l73_ 0 [(0, .ref 344)] [] _ _
    refine ga_aload_n (v := .ref 344) hm_59 rfl rfl rfl ?_
    have b76_ : 0 ≤ F20_ 344 9 ∧ F20_ 344 9 ≤ 5 := gi_g g21_ rfl
    refine ga_geti (z := F20_ 344 9) hm_59 rfl sc_344 rfl (rfl) ?_
    refine fl_if_le (a := F20_ 344 9) hm_59 rfl ⟨by omega, by omega⟩ (fun h77_ => ?_) (fun h78_ => ?_)
    ·
      refine fl_iconst hm_59 rfl ?_
      refine gr_i hm_59 rfl rfl (ga_nb (by omega)) ?_
      clear h74_ h75_ f72_ l73_
      refine fl_if_ne hm_174 rfl ⟨by omega, by omega⟩ (fun h => absurd h (by omega)) (fun _ => ?_)
      refine ga_iload (z := z68_) hm_174 rfl rfl ?_
      refine fl_iconst hm_174 rfl ?_
      refine fx_icmp_ne (a := z68_) (b := -1) hm_174 rfl ⟨by omega, by omega⟩ ⟨by omega, by omega⟩ (fun h79_ => ?_) (fun h80_ => ?_)
      ·
        refine ga_aload_n (v := .ref 344) hm_174 rfl rfl rfl ?_
        refine gIv (nY := 1) (F := 1) (L := 20) (As := []) (b := 344) (rest := []) hm_174 rfl hm_61 rfl rfl (fl_ob sc_344) rfl rfl rfl rfl rfl (by omega) (by omega) ?_
        intro f81_ l82_ h83_ h84_
        show fl_R xi_ms 61 f81_ l82_ 0 [(0, .ref 344)] [] _ _
        refine ga_aload_n (v := .ref 344) hm_61 rfl rfl rfl ?_
        refine ga_dup hm_61 rfl rfl ?_
        have e85_ : F20_ 344 5 = F 344 5 := (s22_ 344 5 rfl).trans (rfl)
        refine ga_geti (z := F 344 5) hm_61 rfl sc_344 rfl (e85_) ?_
        refine ga_aload_n (v := .ref 344) hm_61 rfl rfl rfl ?_
        refine gIi (nY := 1) (F := 0) (L := 0) (As := []) (b := 344) (rest := [.int (Int32.ofInt (F 344 5)), .ref 344]) hm_61 rfl hm_59 rfl rfl (fl_ob sc_344) rfl rfl rfl rfl rfl (by omega) (by omega) ?_
        intro f86_ l87_ h88_ h89_
        show fl_R xi_ms 59 f86_ l87_ 0 [(0, .ref 344)] [] _ _
        refine ga_aload_n (v := .ref 344) hm_59 rfl rfl rfl ?_
        refine ga_geti (z := F20_ 344 9) hm_59 rfl sc_344 rfl (rfl) ?_
        refine fl_if_le (a := F20_ 344 9) hm_59 rfl ⟨by omega, by omega⟩ (fun h90_ => ?_) (fun h91_ => ?_)
        ·
          refine fl_iconst hm_59 rfl ?_
          refine gr_i hm_59 rfl rfl (ga_nb (by omega)) ?_
          clear h88_ h89_ f86_ l87_
          refine fl_if_eq hm_61 rfl ⟨by omega, by omega⟩ (fun _ => ?_) (fun h => absurd (by omega) h)
          refine fl_iconst hm_61 rfl ?_
          refine ga_iadd (a := F 344 5) (b := 1) (c := F 344 5 + 1) hm_61 rfl (by omega) ?_
          refine ga_puti (z := F 344 5 + 1) hm_61 rfl sc_344 rfl rfl ?_
          refine gr_v hm_61 rfl rfl ?_
          clear h83_ h84_ f81_ l82_
          refine ga_aload_n (v := .ref 344) hm_174 rfl rfl rfl ?_
          refine gIi (nY := 1) (F := 0) (L := 0) (As := []) (b := 344) (rest := []) hm_174 rfl hm_59 rfl rfl (fl_ob sc_344) rfl rfl rfl rfl rfl (by omega) (by omega) ?_
          intro f92_ l93_ h94_ h95_
          show fl_R xi_ms 59 f92_ l93_ 0 [(0, .ref 344)] [] _ _
          refine ga_aload_n (v := .ref 344) hm_59 rfl rfl rfl ?_
          refine ga_geti (z := F20_ 344 9) hm_59 rfl sc_344 rfl (fl_u_ne (by omega)) ?_
          refine fl_if_le (a := F20_ 344 9) hm_59 rfl ⟨by omega, by omega⟩ (fun h96_ => ?_) (fun h97_ => ?_)
          ·
            refine fl_iconst hm_59 rfl ?_
            refine gr_i hm_59 rfl rfl (ga_nb (by omega)) ?_
            clear h94_ h95_ f92_ l93_
            refine fl_if_eq hm_174 rfl ⟨by omega, by omega⟩ (fun _ => ?_) (fun h => absurd (by omega) h)
            refine ga_aload_n (v := .ref 344) hm_174 rfl rfl rfl ?_
            refine ga_getr (b := 362) hm_174 rfl sc_344 rfl ?_
            refine ga_iload_n (z := ll) hm_174 rfl rfl ?_
            refine ga_iload (z := z68_) hm_174 rfl rfl ?_
            refine fl_iast (z := ll) (v := z68_) hm_174 rfl sc_362 (by omega) (by omega) (by omega) ?_
            obtain ⟨hz1_, hz2_, hz3_⟩ := hps.1 (z68_).toNat (by omega)
            have hg0 : 0 < (ps.getD (z68_).toNat []).length → F 352 (2 * z68_).toNat = (ps.getD (z68_).toNat []).getD 0 0 + 1 := fun h => by have h9 := rty_get hz2_ (j := 0) h; rwa [show 2 * (z68_).toNat + 0 = (2 * z68_).toNat by omega] at h9
            have hg1 : 1 < (ps.getD (z68_).toNat []).length → F 352 (2 * z68_ + 1).toNat = (ps.getD (z68_).toNat []).getD 1 0 + 1 := fun h => by have h9 := rty_get hz2_ (j := 1) h; rwa [show 2 * (z68_).toNat + 1 = (2 * z68_ + 1).toNat by omega] at h9
            refine fl_iconst hm_174 rfl ?_
            refine ga_istore (lv2 := [(6, .int (Int32.ofInt 0)), (5, .int (Int32.ofInt z68_)), (3, .long (Int64.ofInt z4_)), (0, .ref 344), (1, .int (Int32.ofInt a)), (2, .int (Int32.ofInt ll))]) hm_174 rfl (Nat.le_of_ble_eq_true rfl) rfl ?_
            refine ga_iload (z := 0) hm_174 rfl rfl ?_
            refine ga_aload_n (v := .ref 344) hm_174 rfl rfl rfl ?_
            refine ga_getr (b := 351) hm_174 rfl sc_344 rfl ?_
            refine ga_iload (z := z68_) hm_174 rfl rfl ?_
            have e98_ : F20_ 351 z68_.toNat = F 351 z68_.toNat := (s22_ 351 z68_.toNat (fs_n (by omega) rfl)).trans (rfl)
            have b99_ : 0 ≤ F 351 z68_.toNat ∧ F 351 z68_.toNat ≤ 2 := gi_g hgi rfl
            refine ga_iald (z := z68_) (w := F 351 z68_.toNat) hm_174 rfl sc_351 (by omega) (by omega) (by omega) ((fl_u_ne (by omega)).trans ((fl_u_ne (by omega)).trans (e98_))) ?_
            refine fl_icmp_ge (a := 0) (b := F 351 z68_.toNat) hm_174 rfl ⟨by omega, by omega⟩ ⟨by omega, by omega⟩ (fun h100_ => ?_) (fun h101_ => ?_)
            ·
              refine ga_aload_n (v := .ref 344) hm_174 rfl rfl rfl ?_
              refine fl_bipush hm_174 rfl rfl ?_
              obtain ⟨F102_, q103_⟩ : ∃ F9_, F9_ = (fl_u (fl_u F20_ 344 5 (F 344 5 + 1)) 362 ll.toNat z68_) := ⟨_, rfl⟩
              rw [← q103_]
              have g104_ : gi F102_ := by rw [q103_]; exact gi_u (gi_u (g21_) rfl (by omega) (by omega)) rfl (by omega) (by omega)
              have g105_ : fs [(344, 344, 5, 5), (344, 344, 9, 10), (362, 363, 0, 100000)] F F102_ := by rw [q103_]; exact fs_u (fs_u (g64_) rfl) (fs_z (fs_z (fs_y (by omega))))
              have rk106_ : rk K F102_ := by rw [q103_]; exact rk_u (rk_u (rk65_) (by omega) (by omega)) (by omega) (by omega)
              have e107_ : F102_ 344 5 = F 344 5 + 1 := by rw [q103_]; exact (fl_u_ne (by omega)).trans (fl_u_eq)
              refine gVv (nY := 2) (F := 2) (L := 41) (As := [.int (Int32.ofInt 41)]) (b := 344) (rest := []) hm_174 rfl hm_51 rfl rfl (fl_ob sc_344) rfl rfl rfl rfl rfl (by omega) (by omega) (mc_51 hG F102_ X g104_ (K) (41) (1) hgK rk106_ hkt (by omega) (by omega) (by omega)) (fun _ _ h => False.elim h) ?_
              have e109_ : F102_ 344 10 = F20_ 344 10 := by rw [q103_]; exact (fl_u_ne (by omega)).trans (fl_u_ne (by omega))
              have b110_ : 0 ≤ F20_ 344 10 ∧ F20_ 344 10 ≤ 600 := gi_g g21_ rfl
              have e111_ : F102_ 344 9 = F20_ 344 9 := by rw [q103_]; exact (fl_u_ne (by omega)).trans (fl_u_ne (by omega))
              rintro A1_ (⟨F115_, hA_, g116_, s117_, c112_, c113_, c114_⟩ | ⟨F121_, hA_, g122_, s123_, c118_, c119_, c120_⟩)
              ·
                subst hA_
                have g124_ : fs [(344, 344, 5, 5), (344, 344, 9, 10), (362, 363, 0, 100000)] F F115_ := fs_tr g105_ s117_ rfl
                have rk125_ : rk K F115_ := rk_fs rk106_ s117_ (fun r k h => (fs_n (by omega) (fs_n (by omega) rfl))) (fs_n (by omega) (fs_n (by omega) rfl))
                try simp only [e107_, e109_, e111_] at c113_
                have c113_s := c113_.1 (by omega)
                clear c113_
                refine gr_v hm_174 rfl rfl ?_
                have b126_ : 0 ≤ F115_ 344 9 ∧ F115_ 344 9 ≤ 5 := gi_g g116_ rfl
                have b127_ : 0 ≤ F115_ 344 10 ∧ F115_ 344 10 ≤ 600 := gi_g g116_ rfl
                have b128_ : 0 ≤ F115_ 344 5 ∧ F115_ 344 5 ≤ 600 := gi_g g116_ rfl
                exact Or.inl ⟨F115_, rfl, g116_, g124_, (by omega), (⟨by intro h0_; have hs_ := c113_s; rw [spa_go (by omega) (ra_fi (by have x_ := (rpn_fs hpl s22_ (fun _ => (fs_n (by omega) rfl)) (fs_n (by omega) rfl)); rw [e66_] at x_; exact x_) c16_ c69_ c70_ c71_) (by omega) rfl, (show sk K (F 344 5) = F 344 5 + 1 by rw [sk, if_pos (by omega)])]; rw [if_neg (by omega), pb_r]; rw [if_neg (by omega), pb_r]; rw [hs_]; try (congr 2 <;> omega), fun h0_ => by exfalso; omega⟩), (by omega)⟩
              subst hA_
              have g129_ : fs [(344, 344, 5, 5), (344, 344, 9, 10), (362, 363, 0, 100000)] F F121_ := fs_tr g105_ s123_ rfl
              have rk130_ : rk K F121_ := rk_fs rk106_ s123_ (fun r k h => (fs_n (by omega) (fs_n (by omega) rfl))) (fs_n (by omega) (fs_n (by omega) rfl))
              try simp only [e111_] at c118_
              try simp only [e107_] at c119_
              refine gr_v hm_174 rfl rfl ?_
              have b131_ : 0 ≤ F121_ 344 9 ∧ F121_ 344 9 ≤ 5 := gi_g g122_ rfl
              have b132_ : 0 ≤ F121_ 344 5 ∧ F121_ 344 5 ≤ 600 := gi_g g122_ rfl
              have e133_ : F102_ 362 ll.toNat = z68_ := by rw [q103_]; exact fl_u_eq
              have e134_ : F121_ 362 ll.toNat = z68_ := (s123_ 362 ll.toNat (fs_n (by omega) (fs_n (by omega) rfl))).trans (e133_)
              exact Or.inr (⟨F121_, rfl, g122_, g129_, (by omega), (by rw [spa_go (by omega) (ra_fi (by have x_ := (rpn_fs hpl s22_ (fun _ => (fs_n (by omega) rfl)) (fs_n (by omega) rfl)); rw [e66_] at x_; exact x_) c16_ c69_ c70_ c71_) (by omega) rfl, (show sk K (F 344 5) = F 344 5 + 1 by rw [sk, if_pos (by omega)])]; rw [if_neg (by omega), pb_r]; rw [if_neg (by omega), pb_r]; rw [c119_]), (by omega), ((lfr_fg (by rw [q103_]; exact (lfr_ul (lfr_uo (lfr_fg lfr_r s22_ rfl) rfl) rfl (by omega) (by omega))) s123_ rfl)), (by rw [at_dd (p2 := 0) (ra_fi (by have x_ := (rpn_fs hpl s22_ (fun _ => (fs_n (by omega) rfl)) (fs_n (by omega) rfl)); rw [e66_] at x_; exact x_) c16_ c69_ c70_ c71_) rfl (show sk K (F 344 5) = F 344 5 + 1 by rw [sk, if_pos (by omega)]) (Or.inr ⟨by omega, rfl⟩) (Or.inr ⟨by omega, rfl⟩)]; exact ⟨e134_, Or.inl rfl, Or.inl rfl⟩)⟩)
            refine ga_aload_n (v := .ref 344) hm_174 rfl rfl rfl ?_
            refine ga_getr (b := 363) hm_174 rfl sc_344 rfl ?_
            refine fl_iconst hm_174 rfl ?_
            refine ga_iload_n (z := ll) hm_174 rfl rfl ?_
            refine ga_imul (a := 2) (b := ll) (c := 2 * ll) hm_174 rfl (by omega) ?_
            refine ga_iload (z := 0) hm_174 rfl rfl ?_
            refine ga_iadd (a := 2 * ll) (b := 0) (c := 2 * ll) hm_174 rfl (by omega) ?_
            refine ga_aload_n (v := .ref 344) hm_174 rfl rfl rfl ?_
            refine ga_iload_n (z := a) hm_174 rfl rfl ?_
            refine ga_aload_n (v := .ref 344) hm_174 rfl rfl rfl ?_
            refine ga_getr (b := 352) hm_174 rfl sc_344 rfl ?_
            refine fl_iconst hm_174 rfl ?_
            refine ga_iload (z := z68_) hm_174 rfl rfl ?_
            refine ga_imul (a := 2) (b := z68_) (c := 2 * z68_) hm_174 rfl (by omega) ?_
            refine ga_iload (z := 0) hm_174 rfl rfl ?_
            refine ga_iadd (a := 2 * z68_) (b := 0) (c := 2 * z68_) hm_174 rfl (by omega) ?_
            have e135_ : F20_ 352 (2 * z68_).toNat = F 352 (2 * z68_).toNat := (s22_ 352 (2 * z68_).toNat (fs_n (by omega) rfl)).trans (rfl)
            have b136_ : 0 ≤ F 352 (2 * z68_).toNat ∧ F 352 (2 * z68_).toNat ≤ 4 := gi_g hgi rfl
            refine ga_iald (z := 2 * z68_) (w := F 352 (2 * z68_).toNat) hm_174 rfl sc_352 (by omega) (by omega) (by omega) ((fl_u_ne (by omega)).trans ((fl_u_ne (by omega)).trans (e135_))) ?_
            obtain ⟨F137_, q138_⟩ : ∃ F9_, F9_ = (fl_u (fl_u F20_ 344 5 (F 344 5 + 1)) 362 ll.toNat z68_) := ⟨_, rfl⟩
            rw [← q138_]
            have g139_ : gi F137_ := by rw [q138_]; exact gi_u (gi_u (g21_) rfl (by omega) (by omega)) rfl (by omega) (by omega)
            have g140_ : fs [(344, 344, 5, 5), (344, 344, 9, 10), (362, 363, 0, 100000)] F F137_ := by rw [q138_]; exact fs_u (fs_u (g64_) rfl) (fs_z (fs_z (fs_y (by omega))))
            have rk141_ : rk K F137_ := by rw [q138_]; exact rk_u (rk_u (rk65_) (by omega) (by omega)) (by omega) (by omega)
            have e142_ : F137_ 344 5 = F 344 5 + 1 := by rw [q138_]; exact (fl_u_ne (by omega)).trans (fl_u_eq)
            refine gVi (nY := 6) (F := 3) (L := 66) (As := [.int (Int32.ofInt a), .int (Int32.ofInt (F 352 (2 * z68_).toNat))]) (b := 344) (rest := [.int (Int32.ofInt (2 * ll)), .ref 363]) hm_174 rfl hm_185 rfl rfl (fl_ob sc_344) rfl rfl rfl rfl rfl (by omega) (by omega) (mc_185 hG F137_ X g139_ (K) (a) (F 352 (2 * z68_).toNat) (k) ((ps.getD (z68_).toNat []).getD 0 0) (l) (tl) hgK rk141_ hkt (by omega) ((by rw [q138_]; exact (trm_u (trm_u (trm_fs ht s22_ (fun r j hj => (fs_n (by omega) rfl))) (by omega)) (by omega)))) (hlt) (by have h9 := hg0 (by omega); omega) (by omega)) (fun _ _ h => False.elim h) ?_
            have e144_ : F137_ 344 10 = F20_ 344 10 := by rw [q138_]; exact (fl_u_ne (by omega)).trans (fl_u_ne (by omega))
            have b145_ : 0 ≤ F20_ 344 10 ∧ F20_ 344 10 ≤ 600 := gi_g g21_ rfl
            have e146_ : F137_ 344 9 = F20_ 344 9 := by rw [q138_]; exact (fl_u_ne (by omega)).trans (fl_u_ne (by omega))
            rintro z143_ A1_ (⟨F152_, hA_, g153_, s154_, c147_, c148_, c149_, c150_, c151_⟩ | ⟨F162_, hA_, g163_, s164_, c155_, c156_, c157_, c158_, c159_, c160_, c161_⟩)
            ·
              subst hA_
              have g165_ : fs [(344, 344, 5, 5), (344, 344, 9, 10), (362, 363, 0, 100000)] F F152_ := fs_tr g140_ s154_ rfl
              have rk166_ : rk K F152_ := rk_fs rk141_ s154_ (fun r k h => (fs_n (by omega) (fs_n (by omega) rfl))) (fs_n (by omega) (fs_n (by omega) rfl))
              try simp only [e142_, e144_, e146_] at c148_
              have c148_s := c148_.1 (by omega)
              clear c148_
              refine fl_iast (z := 2 * ll) (v := z143_) hm_174 rfl sc_363 (by omega) (by omega) (by omega) ?_
              refine ga_inc (a := 0) (c := 1) (lv2 := [(6, .int (Int32.ofInt 1)), (5, .int (Int32.ofInt z68_)), (3, .long (Int64.ofInt z4_)), (0, .ref 344), (1, .int (Int32.ofInt a)), (2, .int (Int32.ofInt ll))]) hm_174 rfl rfl (Nat.le_of_ble_eq_true rfl) (by omega) rfl ?_
              refine fl_goto hm_174 rfl ?_
              refine ga_iload (z := 1) hm_174 rfl rfl ?_
              refine ga_aload_n (v := .ref 344) hm_174 rfl rfl rfl ?_
              refine ga_getr (b := 351) hm_174 rfl sc_344 rfl ?_
              refine ga_iload (z := z68_) hm_174 rfl rfl ?_
              have e167_ : F137_ 351 z68_.toNat = F 351 z68_.toNat := by rw [q138_]; exact (fl_u_ne (by omega)).trans ((fl_u_ne (by omega)).trans (e98_))
              have e168_ : F152_ 351 z68_.toNat = F 351 z68_.toNat := (s154_ 351 z68_.toNat (fs_n (by omega) (fs_n (by omega) rfl))).trans (e167_)
              refine ga_iald (z := z68_) (w := F 351 z68_.toNat) hm_174 rfl sc_351 (by omega) (by omega) (by omega) ((fl_u_ne (by omega)).trans (e168_)) ?_
              refine fl_icmp_ge (a := 1) (b := F 351 z68_.toNat) hm_174 rfl ⟨by omega, by omega⟩ ⟨by omega, by omega⟩ (fun h169_ => ?_) (fun h170_ => ?_)
              ·
                refine ga_aload_n (v := .ref 344) hm_174 rfl rfl rfl ?_
                refine fl_bipush hm_174 rfl rfl ?_
                obtain ⟨F171_, q172_⟩ : ∃ F9_, F9_ = (fl_u F152_ 363 (2 * ll).toNat z143_) := ⟨_, rfl⟩
                rw [← q172_]
                have g173_ : gi F171_ := by rw [q172_]; exact gi_u363 (g153_) (by omega) (by omega) (rz_k hla c151_ (by omega) (by omega)) (by omega)
                have g174_ : fs [(344, 344, 5, 5), (344, 344, 9, 10), (362, 363, 0, 100000)] F F171_ := by rw [q172_]; exact fs_u (g165_) (fs_z (fs_z (fs_y (by omega))))
                have rk175_ : rk K F171_ := by rw [q172_]; exact rk_u (rk166_) (by omega) (by omega)
                have e176_ : F171_ 344 5 = F152_ 344 5 := by rw [q172_]; exact fl_u_ne (by omega)
                have b177_ : 0 ≤ F152_ 344 5 ∧ F152_ 344 5 ≤ 600 := gi_g g153_ rfl
                refine gVv (nY := 2) (F := 2) (L := 41) (As := [.int (Int32.ofInt 41)]) (b := 344) (rest := []) hm_174 rfl hm_51 rfl rfl (fl_ob sc_344) rfl rfl rfl rfl rfl (by omega) (by omega) (mc_51 hG F171_ X g173_ (K) (41) (1) hgK rk175_ hkt (by omega) (by omega) (by omega)) (fun _ _ h => False.elim h) ?_
                have e179_ : F171_ 344 10 = F152_ 344 10 := by rw [q172_]; exact fl_u_ne (by omega)
                have b180_ : 0 ≤ F152_ 344 10 ∧ F152_ 344 10 ≤ 600 := gi_g g153_ rfl
                have e181_ : F171_ 344 9 = F152_ 344 9 := by rw [q172_]; exact fl_u_ne (by omega)
                have b182_ : 0 ≤ F152_ 344 9 ∧ F152_ 344 9 ≤ 5 := gi_g g153_ rfl
                rintro A1_ (⟨F186_, hA_, g187_, s188_, c183_, c184_, c185_⟩ | ⟨F192_, hA_, g193_, s194_, c189_, c190_, c191_⟩)
                ·
                  subst hA_
                  have g195_ : fs [(344, 344, 5, 5), (344, 344, 9, 10), (362, 363, 0, 100000)] F F186_ := fs_tr g174_ s188_ rfl
                  have rk196_ : rk K F186_ := rk_fs rk175_ s188_ (fun r k h => (fs_n (by omega) (fs_n (by omega) rfl))) (fs_n (by omega) (fs_n (by omega) rfl))
                  try simp only [e176_, e179_, e181_] at c184_
                  have c184_k := c184_.2 (by omega)
                  clear c184_
                  refine gr_v hm_174 rfl rfl ?_
                  have b197_ : 0 ≤ F186_ 344 9 ∧ F186_ 344 9 ≤ 5 := gi_g g187_ rfl
                  have b198_ : 0 ≤ F186_ 344 10 ∧ F186_ 344 10 ≤ 600 := gi_g g187_ rfl
                  have b199_ : 0 ≤ F186_ 344 5 ∧ F186_ 344 5 ≤ 600 := gi_g g187_ rfl
                  exact Or.inl ⟨F186_, rfl, g187_, g195_, (by omega), (⟨by intro h0_; have hs_ := c148_s; rw [spa_go (by omega) (ra_fi (by have x_ := (rpn_fs hpl s22_ (fun _ => (fs_n (by omega) rfl)) (fs_n (by omega) rfl)); rw [e66_] at x_; exact x_) c16_ c69_ c70_ c71_) (by omega) rfl, (show sk K (F 344 5) = F 344 5 + 1 by rw [sk, if_pos (by omega)])]; rw [if_pos (by omega), hs_]; show Sum.inl _ = _; congr 2 <;> omega, fun h0_ => by exfalso; omega⟩), (by omega)⟩
                exfalso; omega
              refine ga_aload_n (v := .ref 344) hm_174 rfl rfl rfl ?_
              refine ga_getr (b := 363) hm_174 rfl sc_344 rfl ?_
              refine fl_iconst hm_174 rfl ?_
              refine ga_iload_n (z := ll) hm_174 rfl rfl ?_
              refine ga_imul (a := 2) (b := ll) (c := 2 * ll) hm_174 rfl (by omega) ?_
              refine ga_iload (z := 1) hm_174 rfl rfl ?_
              refine ga_iadd (a := 2 * ll) (b := 1) (c := 2 * ll + 1) hm_174 rfl (by omega) ?_
              refine ga_aload_n (v := .ref 344) hm_174 rfl rfl rfl ?_
              refine ga_iload_n (z := a) hm_174 rfl rfl ?_
              refine ga_aload_n (v := .ref 344) hm_174 rfl rfl rfl ?_
              refine ga_getr (b := 352) hm_174 rfl sc_344 rfl ?_
              refine fl_iconst hm_174 rfl ?_
              refine ga_iload (z := z68_) hm_174 rfl rfl ?_
              refine ga_imul (a := 2) (b := z68_) (c := 2 * z68_) hm_174 rfl (by omega) ?_
              refine ga_iload (z := 1) hm_174 rfl rfl ?_
              refine ga_iadd (a := 2 * z68_) (b := 1) (c := 2 * z68_ + 1) hm_174 rfl (by omega) ?_
              have e200_ : F20_ 352 (2 * z68_ + 1).toNat = F 352 (2 * z68_ + 1).toNat := (s22_ 352 (2 * z68_ + 1).toNat (fs_n (by omega) rfl)).trans (rfl)
              have e201_ : F137_ 352 (2 * z68_ + 1).toNat = F 352 (2 * z68_ + 1).toNat := by rw [q138_]; exact (fl_u_ne (by omega)).trans ((fl_u_ne (by omega)).trans (e200_))
              have e202_ : F152_ 352 (2 * z68_ + 1).toNat = F 352 (2 * z68_ + 1).toNat := (s154_ 352 (2 * z68_ + 1).toNat (fs_n (by omega) (fs_n (by omega) rfl))).trans (e201_)
              have b203_ : 0 ≤ F 352 (2 * z68_ + 1).toNat ∧ F 352 (2 * z68_ + 1).toNat ≤ 4 := gi_g hgi rfl
              refine ga_iald (z := 2 * z68_ + 1) (w := F 352 (2 * z68_ + 1).toNat) hm_174 rfl sc_352 (by omega) (by omega) (by omega) ((fl_u_ne (by omega)).trans (e202_)) ?_
              obtain ⟨F204_, q205_⟩ : ∃ F9_, F9_ = (fl_u F152_ 363 (2 * ll).toNat z143_) := ⟨_, rfl⟩
              rw [← q205_]
              have g206_ : gi F204_ := by rw [q205_]; exact gi_u363 (g153_) (by omega) (by omega) (rz_k hla c151_ (by omega) (by omega)) (by omega)
              have g207_ : fs [(344, 344, 5, 5), (344, 344, 9, 10), (362, 363, 0, 100000)] F F204_ := by rw [q205_]; exact fs_u (g165_) (fs_z (fs_z (fs_y (by omega))))
              have rk208_ : rk K F204_ := by rw [q205_]; exact rk_u (rk166_) (by omega) (by omega)
              have e209_ : F204_ 344 5 = F152_ 344 5 := by rw [q205_]; exact fl_u_ne (by omega)
              have b210_ : 0 ≤ F152_ 344 5 ∧ F152_ 344 5 ≤ 600 := gi_g g153_ rfl
              refine gVi (nY := 6) (F := 3) (L := 66) (As := [.int (Int32.ofInt a), .int (Int32.ofInt (F 352 (2 * z68_ + 1).toNat))]) (b := 344) (rest := [.int (Int32.ofInt (2 * ll + 1)), .ref 363]) hm_174 rfl hm_185 rfl rfl (fl_ob sc_344) rfl rfl rfl rfl rfl (by omega) (by omega) (mc_185 hG F204_ X g206_ (K) (a) (F 352 (2 * z68_ + 1).toNat) (k) ((ps.getD (z68_).toNat []).getD 1 0) (l) (tl) hgK rk208_ hkt (by omega) ((by rw [q205_]; exact (trm_u (trm_fs (by rw [q138_]; exact (trm_u (trm_u (trm_fs ht s22_ (fun r j hj => (fs_n (by omega) rfl))) (by omega)) (by omega))) s154_ (fun r j hj => (fs_n (by omega) (fs_n (by omega) rfl)))) (by omega)))) (hlt) (by have h9 := hg1 (by omega); omega) (by omega)) (fun _ _ h => False.elim h) ?_
              have e212_ : F204_ 344 10 = F152_ 344 10 := by rw [q205_]; exact fl_u_ne (by omega)
              have b213_ : 0 ≤ F152_ 344 10 ∧ F152_ 344 10 ≤ 600 := gi_g g153_ rfl
              have e214_ : F204_ 344 9 = F152_ 344 9 := by rw [q205_]; exact fl_u_ne (by omega)
              have b215_ : 0 ≤ F152_ 344 9 ∧ F152_ 344 9 ≤ 5 := gi_g g153_ rfl
              rintro z211_ A1_ (⟨F221_, hA_, g222_, s223_, c216_, c217_, c218_, c219_, c220_⟩ | ⟨F231_, hA_, g232_, s233_, c224_, c225_, c226_, c227_, c228_, c229_, c230_⟩)
              ·
                subst hA_
                have g234_ : fs [(344, 344, 5, 5), (344, 344, 9, 10), (362, 363, 0, 100000)] F F221_ := fs_tr g207_ s223_ rfl
                have rk235_ : rk K F221_ := rk_fs rk208_ s223_ (fun r k h => (fs_n (by omega) (fs_n (by omega) rfl))) (fs_n (by omega) (fs_n (by omega) rfl))
                try simp only [e209_, e212_, e214_] at c217_
                have c217_k := c217_.2 (by omega)
                clear c217_
                refine fl_iast (z := 2 * ll + 1) (v := z211_) hm_174 rfl sc_363 (by omega) (by omega) (by omega) ?_
                refine ga_inc (a := 1) (c := 2) (lv2 := [(6, .int (Int32.ofInt 2)), (5, .int (Int32.ofInt z68_)), (3, .long (Int64.ofInt z4_)), (0, .ref 344), (1, .int (Int32.ofInt a)), (2, .int (Int32.ofInt ll))]) hm_174 rfl rfl (Nat.le_of_ble_eq_true rfl) (by omega) rfl ?_
                refine fl_goto hm_174 rfl ?_
                refine ga_iload (z := 2) hm_174 rfl rfl ?_
                refine ga_aload_n (v := .ref 344) hm_174 rfl rfl rfl ?_
                refine ga_getr (b := 351) hm_174 rfl sc_344 rfl ?_
                refine ga_iload (z := z68_) hm_174 rfl rfl ?_
                have e236_ : F204_ 351 z68_.toNat = F 351 z68_.toNat := by rw [q205_]; exact (fl_u_ne (by omega)).trans (e168_)
                have e237_ : F221_ 351 z68_.toNat = F 351 z68_.toNat := (s223_ 351 z68_.toNat (fs_n (by omega) (fs_n (by omega) rfl))).trans (e236_)
                refine ga_iald (z := z68_) (w := F 351 z68_.toNat) hm_174 rfl sc_351 (by omega) (by omega) (by omega) ((fl_u_ne (by omega)).trans (e237_)) ?_
                refine fl_icmp_ge (a := 2) (b := F 351 z68_.toNat) hm_174 rfl ⟨by omega, by omega⟩ ⟨by omega, by omega⟩ (fun h238_ => ?_) (fun h239_ => ?_)
                ·
                  refine ga_aload_n (v := .ref 344) hm_174 rfl rfl rfl ?_
                  refine fl_bipush hm_174 rfl rfl ?_
                  obtain ⟨F240_, q241_⟩ : ∃ F9_, F9_ = (fl_u F221_ 363 (2 * ll + 1).toNat z211_) := ⟨_, rfl⟩
                  rw [← q241_]
                  have g242_ : gi F240_ := by rw [q241_]; exact gi_u363 (g222_) (by omega) (by omega) (rz_k hla c220_ (by omega) (by omega)) (by omega)
                  have g243_ : fs [(344, 344, 5, 5), (344, 344, 9, 10), (362, 363, 0, 100000)] F F240_ := by rw [q241_]; exact fs_u (g234_) (fs_z (fs_z (fs_y (by omega))))
                  have rk244_ : rk K F240_ := by rw [q241_]; exact rk_u (rk235_) (by omega) (by omega)
                  have e245_ : F240_ 344 5 = F221_ 344 5 := by rw [q241_]; exact fl_u_ne (by omega)
                  have b246_ : 0 ≤ F221_ 344 5 ∧ F221_ 344 5 ≤ 600 := gi_g g222_ rfl
                  refine gVv (nY := 2) (F := 2) (L := 41) (As := [.int (Int32.ofInt 41)]) (b := 344) (rest := []) hm_174 rfl hm_51 rfl rfl (fl_ob sc_344) rfl rfl rfl rfl rfl (by omega) (by omega) (mc_51 hG F240_ X g242_ (K) (41) (1) hgK rk244_ hkt (by omega) (by omega) (by omega)) (fun _ _ h => False.elim h) ?_
                  have e248_ : F240_ 344 10 = F221_ 344 10 := by rw [q241_]; exact fl_u_ne (by omega)
                  have b249_ : 0 ≤ F221_ 344 10 ∧ F221_ 344 10 ≤ 600 := gi_g g222_ rfl
                  have e250_ : F240_ 344 9 = F221_ 344 9 := by rw [q241_]; exact fl_u_ne (by omega)
                  have b251_ : 0 ≤ F221_ 344 9 ∧ F221_ 344 9 ≤ 5 := gi_g g222_ rfl
                  rintro A1_ (⟨F255_, hA_, g256_, s257_, c252_, c253_, c254_⟩ | ⟨F261_, hA_, g262_, s263_, c258_, c259_, c260_⟩)
                  ·
                    subst hA_
                    have g264_ : fs [(344, 344, 5, 5), (344, 344, 9, 10), (362, 363, 0, 100000)] F F255_ := fs_tr g243_ s257_ rfl
                    have rk265_ : rk K F255_ := rk_fs rk244_ s257_ (fun r k h => (fs_n (by omega) (fs_n (by omega) rfl))) (fs_n (by omega) (fs_n (by omega) rfl))
                    try simp only [e245_, e248_, e250_] at c253_
                    have c253_k := c253_.2 (by omega)
                    clear c253_
                    refine gr_v hm_174 rfl rfl ?_
                    have b266_ : 0 ≤ F255_ 344 9 ∧ F255_ 344 9 ≤ 5 := gi_g g256_ rfl
                    have b267_ : 0 ≤ F255_ 344 10 ∧ F255_ 344 10 ≤ 600 := gi_g g256_ rfl
                    have b268_ : 0 ≤ F255_ 344 5 ∧ F255_ 344 5 ≤ 600 := gi_g g256_ rfl
                    exact Or.inl ⟨F255_, rfl, g256_, g264_, (by omega), (⟨by intro h0_; have hs_ := c148_s; rw [spa_go (by omega) (ra_fi (by have x_ := (rpn_fs hpl s22_ (fun _ => (fs_n (by omega) rfl)) (fs_n (by omega) rfl)); rw [e66_] at x_; exact x_) c16_ c69_ c70_ c71_) (by omega) rfl, (show sk K (F 344 5) = F 344 5 + 1 by rw [sk, if_pos (by omega)])]; rw [if_pos (by omega), hs_]; show Sum.inl _ = _; congr 2 <;> omega, fun h0_ => by exfalso; omega⟩), (by omega)⟩
                  exfalso; omega
                exfalso; omega
              exfalso; omega
            subst hA_
            have g269_ : fs [(344, 344, 5, 5), (344, 344, 9, 10), (362, 363, 0, 100000)] F F162_ := fs_tr g140_ s164_ rfl
            have rk270_ : rk K F162_ := rk_fs rk141_ s164_ (fun r k h => (fs_n (by omega) (fs_n (by omega) rfl))) (fs_n (by omega) (fs_n (by omega) rfl))
            try simp only [e146_] at c155_
            try simp only [e142_] at c156_
            try simp only [e142_] at c160_
            try simp only [e142_] at c161_
            refine fl_iast (z := 2 * ll) (v := z143_) hm_174 rfl sc_363 (by omega) (by omega) (by omega) ?_
            refine ga_inc (a := 0) (c := 1) (lv2 := [(6, .int (Int32.ofInt 1)), (5, .int (Int32.ofInt z68_)), (3, .long (Int64.ofInt z4_)), (0, .ref 344), (1, .int (Int32.ofInt a)), (2, .int (Int32.ofInt ll))]) hm_174 rfl rfl (Nat.le_of_ble_eq_true rfl) (by omega) rfl ?_
            refine fl_goto hm_174 rfl ?_
            refine ga_iload (z := 1) hm_174 rfl rfl ?_
            refine ga_aload_n (v := .ref 344) hm_174 rfl rfl rfl ?_
            refine ga_getr (b := 351) hm_174 rfl sc_344 rfl ?_
            refine ga_iload (z := z68_) hm_174 rfl rfl ?_
            have e271_ : F137_ 351 z68_.toNat = F 351 z68_.toNat := by rw [q138_]; exact (fl_u_ne (by omega)).trans ((fl_u_ne (by omega)).trans (e98_))
            have e272_ : F162_ 351 z68_.toNat = F 351 z68_.toNat := (s164_ 351 z68_.toNat (fs_n (by omega) (fs_n (by omega) rfl))).trans (e271_)
            refine ga_iald (z := z68_) (w := F 351 z68_.toNat) hm_174 rfl sc_351 (by omega) (by omega) (by omega) ((fl_u_ne (by omega)).trans (e272_)) ?_
            refine fl_icmp_ge (a := 1) (b := F 351 z68_.toNat) hm_174 rfl ⟨by omega, by omega⟩ ⟨by omega, by omega⟩ (fun h273_ => ?_) (fun h274_ => ?_)
            ·
              refine ga_aload_n (v := .ref 344) hm_174 rfl rfl rfl ?_
              refine fl_bipush hm_174 rfl rfl ?_
              obtain ⟨F275_, q276_⟩ : ∃ F9_, F9_ = (fl_u F162_ 363 (2 * ll).toNat z143_) := ⟨_, rfl⟩
              rw [← q276_]
              have g277_ : gi F275_ := by rw [q276_]; exact gi_u363 (g163_) (by omega) (by omega) (rz_k hla c159_ (by omega) (by omega)) (by omega)
              have g278_ : fs [(344, 344, 5, 5), (344, 344, 9, 10), (362, 363, 0, 100000)] F F275_ := by rw [q276_]; exact fs_u (g269_) (fs_z (fs_z (fs_y (by omega))))
              have rk279_ : rk K F275_ := by rw [q276_]; exact rk_u (rk270_) (by omega) (by omega)
              have e280_ : F275_ 344 5 = F162_ 344 5 := by rw [q276_]; exact fl_u_ne (by omega)
              have b281_ : 0 ≤ F162_ 344 5 ∧ F162_ 344 5 ≤ 600 := gi_g g163_ rfl
              refine gVv (nY := 2) (F := 2) (L := 41) (As := [.int (Int32.ofInt 41)]) (b := 344) (rest := []) hm_174 rfl hm_51 rfl rfl (fl_ob sc_344) rfl rfl rfl rfl rfl (by omega) (by omega) (mc_51 hG F275_ X g277_ (K) (41) (1) hgK rk279_ hkt (by omega) (by omega) (by omega)) (fun _ _ h => False.elim h) ?_
              have e283_ : F275_ 344 10 = F162_ 344 10 := by rw [q276_]; exact fl_u_ne (by omega)
              have b284_ : 0 ≤ F162_ 344 10 ∧ F162_ 344 10 ≤ 600 := gi_g g163_ rfl
              have e285_ : F275_ 344 9 = F162_ 344 9 := by rw [q276_]; exact fl_u_ne (by omega)
              have b286_ : 0 ≤ F162_ 344 9 ∧ F162_ 344 9 ≤ 5 := gi_g g163_ rfl
              rintro A1_ (⟨F290_, hA_, g291_, s292_, c287_, c288_, c289_⟩ | ⟨F296_, hA_, g297_, s298_, c293_, c294_, c295_⟩)
              ·
                subst hA_
                have g299_ : fs [(344, 344, 5, 5), (344, 344, 9, 10), (362, 363, 0, 100000)] F F290_ := fs_tr g278_ s292_ rfl
                have rk300_ : rk K F290_ := rk_fs rk279_ s292_ (fun r k h => (fs_n (by omega) (fs_n (by omega) rfl))) (fs_n (by omega) (fs_n (by omega) rfl))
                try simp only [e280_, e283_, e285_] at c288_
                have c288_s := c288_.1 (by omega)
                clear c288_
                refine gr_v hm_174 rfl rfl ?_
                have b301_ : 0 ≤ F290_ 344 9 ∧ F290_ 344 9 ≤ 5 := gi_g g291_ rfl
                have b302_ : 0 ≤ F290_ 344 10 ∧ F290_ 344 10 ≤ 600 := gi_g g291_ rfl
                have b303_ : 0 ≤ F290_ 344 5 ∧ F290_ 344 5 ≤ 600 := gi_g g291_ rfl
                exact Or.inl ⟨F290_, rfl, g291_, g299_, (by omega), (⟨by intro h0_; have hs_ := c288_s; rw [spa_go (by omega) (ra_fi (by have x_ := (rpn_fs hpl s22_ (fun _ => (fs_n (by omega) rfl)) (fs_n (by omega) rfl)); rw [e66_] at x_; exact x_) c16_ c69_ c70_ c71_) (by omega) rfl, (show sk K (F 344 5) = F 344 5 + 1 by rw [sk, if_pos (by omega)])]; rw [if_pos (by omega), c156_, pb_r]; rw [if_neg (by omega), pb_r]; rw [hs_]; try (congr 2 <;> omega), fun h0_ => by exfalso; omega⟩), (by omega)⟩
              subst hA_
              have g304_ : fs [(344, 344, 5, 5), (344, 344, 9, 10), (362, 363, 0, 100000)] F F296_ := fs_tr g278_ s298_ rfl
              have rk305_ : rk K F296_ := rk_fs rk279_ s298_ (fun r k h => (fs_n (by omega) (fs_n (by omega) rfl))) (fs_n (by omega) (fs_n (by omega) rfl))
              try simp only [e285_] at c293_
              try simp only [e280_] at c294_
              refine gr_v hm_174 rfl rfl ?_
              have b306_ : 0 ≤ F296_ 344 9 ∧ F296_ 344 9 ≤ 5 := gi_g g297_ rfl
              have b307_ : 0 ≤ F296_ 344 5 ∧ F296_ 344 5 ≤ 600 := gi_g g297_ rfl
              have e308_ : F137_ 362 ll.toNat = z68_ := by rw [q138_]; exact fl_u_eq
              have e309_ : F162_ 362 ll.toNat = z68_ := (s164_ 362 ll.toNat (fs_n (by omega) (fs_n (by omega) rfl))).trans (e308_)
              have e310_ : F275_ 362 ll.toNat = z68_ := by rw [q276_]; exact (fl_u_ne (by omega)).trans (e309_)
              have e311_ : F296_ 362 ll.toNat = z68_ := (s298_ 362 ll.toNat (fs_n (by omega) (fs_n (by omega) rfl))).trans (e310_)
              have e312_ : F275_ 363 (2 * ll).toNat = z143_ := by rw [q276_]; exact fl_u_eq
              have e313_ : F296_ 363 (2 * ll).toNat = z143_ := (s298_ 363 (2 * ll).toNat (fs_n (by omega) (fs_n (by omega) rfl))).trans (e312_)
              exact Or.inr (⟨F296_, rfl, g297_, g304_, (by omega), (by rw [spa_go (by omega) (ra_fi (by have x_ := (rpn_fs hpl s22_ (fun _ => (fs_n (by omega) rfl)) (fs_n (by omega) rfl)); rw [e66_] at x_; exact x_) c16_ c69_ c70_ c71_) (by omega) rfl, (show sk K (F 344 5) = F 344 5 + 1 by rw [sk, if_pos (by omega)])]; rw [if_pos (by omega), c156_, pb_r]; rw [if_neg (by omega), pb_r]; rw [c294_]), (by omega), ((lfr_fg (by rw [q276_]; exact (lfr_ut (lfr_fg (by rw [q138_]; exact (lfr_ul (lfr_uo (lfr_fg lfr_r s22_ rfl) rfl) rfl (by omega) (by omega))) s164_ rfl) (by omega) (by omega))) s298_ rfl)), (by rw [at_dd (ra_fi (by have x_ := (rpn_fs hpl s22_ (fun _ => (fs_n (by omega) rfl)) (fs_n (by omega) rfl)); rw [e66_] at x_; exact x_) c16_ c69_ c70_ c71_) rfl (show sk K (F 344 5) = F 344 5 + 1 by rw [sk, if_pos (by omega)]) (Or.inl ⟨by omega, c160_, c161_⟩) (Or.inr ⟨by omega, rfl⟩)]; exact ⟨e311_, Or.inr (by rw [show 2 * ll.toNat = (2 * ll).toNat by omega]; exact e313_), Or.inl rfl⟩)⟩)
            refine ga_aload_n (v := .ref 344) hm_174 rfl rfl rfl ?_
            refine ga_getr (b := 363) hm_174 rfl sc_344 rfl ?_
            refine fl_iconst hm_174 rfl ?_
            refine ga_iload_n (z := ll) hm_174 rfl rfl ?_
            refine ga_imul (a := 2) (b := ll) (c := 2 * ll) hm_174 rfl (by omega) ?_
            refine ga_iload (z := 1) hm_174 rfl rfl ?_
            refine ga_iadd (a := 2 * ll) (b := 1) (c := 2 * ll + 1) hm_174 rfl (by omega) ?_
            refine ga_aload_n (v := .ref 344) hm_174 rfl rfl rfl ?_
            refine ga_iload_n (z := a) hm_174 rfl rfl ?_
            refine ga_aload_n (v := .ref 344) hm_174 rfl rfl rfl ?_
            refine ga_getr (b := 352) hm_174 rfl sc_344 rfl ?_
            refine fl_iconst hm_174 rfl ?_
            refine ga_iload (z := z68_) hm_174 rfl rfl ?_
            refine ga_imul (a := 2) (b := z68_) (c := 2 * z68_) hm_174 rfl (by omega) ?_
            refine ga_iload (z := 1) hm_174 rfl rfl ?_
            refine ga_iadd (a := 2 * z68_) (b := 1) (c := 2 * z68_ + 1) hm_174 rfl (by omega) ?_
            have e314_ : F20_ 352 (2 * z68_ + 1).toNat = F 352 (2 * z68_ + 1).toNat := (s22_ 352 (2 * z68_ + 1).toNat (fs_n (by omega) rfl)).trans (rfl)
            have e315_ : F137_ 352 (2 * z68_ + 1).toNat = F 352 (2 * z68_ + 1).toNat := by rw [q138_]; exact (fl_u_ne (by omega)).trans ((fl_u_ne (by omega)).trans (e314_))
            have e316_ : F162_ 352 (2 * z68_ + 1).toNat = F 352 (2 * z68_ + 1).toNat := (s164_ 352 (2 * z68_ + 1).toNat (fs_n (by omega) (fs_n (by omega) rfl))).trans (e315_)
            have b317_ : 0 ≤ F 352 (2 * z68_ + 1).toNat ∧ F 352 (2 * z68_ + 1).toNat ≤ 4 := gi_g hgi rfl
            refine ga_iald (z := 2 * z68_ + 1) (w := F 352 (2 * z68_ + 1).toNat) hm_174 rfl sc_352 (by omega) (by omega) (by omega) ((fl_u_ne (by omega)).trans (e316_)) ?_
            obtain ⟨F318_, q319_⟩ : ∃ F9_, F9_ = (fl_u F162_ 363 (2 * ll).toNat z143_) := ⟨_, rfl⟩
            rw [← q319_]
            have g320_ : gi F318_ := by rw [q319_]; exact gi_u363 (g163_) (by omega) (by omega) (rz_k hla c159_ (by omega) (by omega)) (by omega)
            have g321_ : fs [(344, 344, 5, 5), (344, 344, 9, 10), (362, 363, 0, 100000)] F F318_ := by rw [q319_]; exact fs_u (g269_) (fs_z (fs_z (fs_y (by omega))))
            have rk322_ : rk K F318_ := by rw [q319_]; exact rk_u (rk270_) (by omega) (by omega)
            have e323_ : F318_ 344 5 = F162_ 344 5 := by rw [q319_]; exact fl_u_ne (by omega)
            have b324_ : 0 ≤ F162_ 344 5 ∧ F162_ 344 5 ≤ 600 := gi_g g163_ rfl
            refine gVi (nY := 6) (F := 3) (L := 66) (As := [.int (Int32.ofInt a), .int (Int32.ofInt (F 352 (2 * z68_ + 1).toNat))]) (b := 344) (rest := [.int (Int32.ofInt (2 * ll + 1)), .ref 363]) hm_174 rfl hm_185 rfl rfl (fl_ob sc_344) rfl rfl rfl rfl rfl (by omega) (by omega) (mc_185 hG F318_ X g320_ (K) (a) (F 352 (2 * z68_ + 1).toNat) (k) ((ps.getD (z68_).toNat []).getD 1 0) (l) (tl) hgK rk322_ hkt (by omega) ((by rw [q319_]; exact (trm_u (trm_fs (by rw [q138_]; exact (trm_u (trm_u (trm_fs ht s22_ (fun r j hj => (fs_n (by omega) rfl))) (by omega)) (by omega))) s164_ (fun r j hj => (fs_n (by omega) (fs_n (by omega) rfl)))) (by omega)))) (hlt) (by have h9 := hg1 (by omega); omega) (by omega)) (fun _ _ h => False.elim h) ?_
            have e326_ : F318_ 344 10 = F162_ 344 10 := by rw [q319_]; exact fl_u_ne (by omega)
            have b327_ : 0 ≤ F162_ 344 10 ∧ F162_ 344 10 ≤ 600 := gi_g g163_ rfl
            have e328_ : F318_ 344 9 = F162_ 344 9 := by rw [q319_]; exact fl_u_ne (by omega)
            have b329_ : 0 ≤ F162_ 344 9 ∧ F162_ 344 9 ≤ 5 := gi_g g163_ rfl
            rintro z325_ A1_ (⟨F335_, hA_, g336_, s337_, c330_, c331_, c332_, c333_, c334_⟩ | ⟨F345_, hA_, g346_, s347_, c338_, c339_, c340_, c341_, c342_, c343_, c344_⟩)
            ·
              subst hA_
              have g348_ : fs [(344, 344, 5, 5), (344, 344, 9, 10), (362, 363, 0, 100000)] F F335_ := fs_tr g321_ s337_ rfl
              have rk349_ : rk K F335_ := rk_fs rk322_ s337_ (fun r k h => (fs_n (by omega) (fs_n (by omega) rfl))) (fs_n (by omega) (fs_n (by omega) rfl))
              try simp only [e323_, e326_, e328_] at c331_
              have c331_s := c331_.1 (by omega)
              clear c331_
              refine fl_iast (z := 2 * ll + 1) (v := z325_) hm_174 rfl sc_363 (by omega) (by omega) (by omega) ?_
              refine ga_inc (a := 1) (c := 2) (lv2 := [(6, .int (Int32.ofInt 2)), (5, .int (Int32.ofInt z68_)), (3, .long (Int64.ofInt z4_)), (0, .ref 344), (1, .int (Int32.ofInt a)), (2, .int (Int32.ofInt ll))]) hm_174 rfl rfl (Nat.le_of_ble_eq_true rfl) (by omega) rfl ?_
              refine fl_goto hm_174 rfl ?_
              refine ga_iload (z := 2) hm_174 rfl rfl ?_
              refine ga_aload_n (v := .ref 344) hm_174 rfl rfl rfl ?_
              refine ga_getr (b := 351) hm_174 rfl sc_344 rfl ?_
              refine ga_iload (z := z68_) hm_174 rfl rfl ?_
              have e350_ : F318_ 351 z68_.toNat = F 351 z68_.toNat := by rw [q319_]; exact (fl_u_ne (by omega)).trans (e272_)
              have e351_ : F335_ 351 z68_.toNat = F 351 z68_.toNat := (s337_ 351 z68_.toNat (fs_n (by omega) (fs_n (by omega) rfl))).trans (e350_)
              refine ga_iald (z := z68_) (w := F 351 z68_.toNat) hm_174 rfl sc_351 (by omega) (by omega) (by omega) ((fl_u_ne (by omega)).trans (e351_)) ?_
              refine fl_icmp_ge (a := 2) (b := F 351 z68_.toNat) hm_174 rfl ⟨by omega, by omega⟩ ⟨by omega, by omega⟩ (fun h352_ => ?_) (fun h353_ => ?_)
              ·
                refine ga_aload_n (v := .ref 344) hm_174 rfl rfl rfl ?_
                refine fl_bipush hm_174 rfl rfl ?_
                obtain ⟨F354_, q355_⟩ : ∃ F9_, F9_ = (fl_u F335_ 363 (2 * ll + 1).toNat z325_) := ⟨_, rfl⟩
                rw [← q355_]
                have g356_ : gi F354_ := by rw [q355_]; exact gi_u363 (g336_) (by omega) (by omega) (rz_k hla c334_ (by omega) (by omega)) (by omega)
                have g357_ : fs [(344, 344, 5, 5), (344, 344, 9, 10), (362, 363, 0, 100000)] F F354_ := by rw [q355_]; exact fs_u (g348_) (fs_z (fs_z (fs_y (by omega))))
                have rk358_ : rk K F354_ := by rw [q355_]; exact rk_u (rk349_) (by omega) (by omega)
                have e359_ : F354_ 344 5 = F335_ 344 5 := by rw [q355_]; exact fl_u_ne (by omega)
                have b360_ : 0 ≤ F335_ 344 5 ∧ F335_ 344 5 ≤ 600 := gi_g g336_ rfl
                refine gVv (nY := 2) (F := 2) (L := 41) (As := [.int (Int32.ofInt 41)]) (b := 344) (rest := []) hm_174 rfl hm_51 rfl rfl (fl_ob sc_344) rfl rfl rfl rfl rfl (by omega) (by omega) (mc_51 hG F354_ X g356_ (K) (41) (1) hgK rk358_ hkt (by omega) (by omega) (by omega)) (fun _ _ h => False.elim h) ?_
                have e362_ : F354_ 344 10 = F335_ 344 10 := by rw [q355_]; exact fl_u_ne (by omega)
                have b363_ : 0 ≤ F335_ 344 10 ∧ F335_ 344 10 ≤ 600 := gi_g g336_ rfl
                have e364_ : F354_ 344 9 = F335_ 344 9 := by rw [q355_]; exact fl_u_ne (by omega)
                have b365_ : 0 ≤ F335_ 344 9 ∧ F335_ 344 9 ≤ 5 := gi_g g336_ rfl
                rintro A1_ (⟨F369_, hA_, g370_, s371_, c366_, c367_, c368_⟩ | ⟨F375_, hA_, g376_, s377_, c372_, c373_, c374_⟩)
                ·
                  subst hA_
                  have g378_ : fs [(344, 344, 5, 5), (344, 344, 9, 10), (362, 363, 0, 100000)] F F369_ := fs_tr g357_ s371_ rfl
                  have rk379_ : rk K F369_ := rk_fs rk358_ s371_ (fun r k h => (fs_n (by omega) (fs_n (by omega) rfl))) (fs_n (by omega) (fs_n (by omega) rfl))
                  try simp only [e359_, e362_, e364_] at c367_
                  have c367_k := c367_.2 (by omega)
                  clear c367_
                  refine gr_v hm_174 rfl rfl ?_
                  have b380_ : 0 ≤ F369_ 344 9 ∧ F369_ 344 9 ≤ 5 := gi_g g370_ rfl
                  have b381_ : 0 ≤ F369_ 344 10 ∧ F369_ 344 10 ≤ 600 := gi_g g370_ rfl
                  have b382_ : 0 ≤ F369_ 344 5 ∧ F369_ 344 5 ≤ 600 := gi_g g370_ rfl
                  exact Or.inl ⟨F369_, rfl, g370_, g378_, (by omega), (⟨by intro h0_; have hs_ := c331_s; rw [spa_go (by omega) (ra_fi (by have x_ := (rpn_fs hpl s22_ (fun _ => (fs_n (by omega) rfl)) (fs_n (by omega) rfl)); rw [e66_] at x_; exact x_) c16_ c69_ c70_ c71_) (by omega) rfl, (show sk K (F 344 5) = F 344 5 + 1 by rw [sk, if_pos (by omega)])]; rw [if_pos (by omega), c156_, pb_r]; rw [if_pos (by omega), hs_]; show Sum.inl _ = _; congr 2 <;> omega, fun h0_ => by exfalso; omega⟩), (by omega)⟩
                exfalso; omega
              exfalso; omega
            subst hA_
            have g383_ : fs [(344, 344, 5, 5), (344, 344, 9, 10), (362, 363, 0, 100000)] F F345_ := fs_tr g321_ s347_ rfl
            have rk384_ : rk K F345_ := rk_fs rk322_ s347_ (fun r k h => (fs_n (by omega) (fs_n (by omega) rfl))) (fs_n (by omega) (fs_n (by omega) rfl))
            try simp only [e328_] at c338_
            try simp only [e323_] at c339_
            try simp only [e323_] at c343_
            try simp only [e323_] at c344_
            refine fl_iast (z := 2 * ll + 1) (v := z325_) hm_174 rfl sc_363 (by omega) (by omega) (by omega) ?_
            refine ga_inc (a := 1) (c := 2) (lv2 := [(6, .int (Int32.ofInt 2)), (5, .int (Int32.ofInt z68_)), (3, .long (Int64.ofInt z4_)), (0, .ref 344), (1, .int (Int32.ofInt a)), (2, .int (Int32.ofInt ll))]) hm_174 rfl rfl (Nat.le_of_ble_eq_true rfl) (by omega) rfl ?_
            refine fl_goto hm_174 rfl ?_
            refine ga_iload (z := 2) hm_174 rfl rfl ?_
            refine ga_aload_n (v := .ref 344) hm_174 rfl rfl rfl ?_
            refine ga_getr (b := 351) hm_174 rfl sc_344 rfl ?_
            refine ga_iload (z := z68_) hm_174 rfl rfl ?_
            have e385_ : F318_ 351 z68_.toNat = F 351 z68_.toNat := by rw [q319_]; exact (fl_u_ne (by omega)).trans (e272_)
            have e386_ : F345_ 351 z68_.toNat = F 351 z68_.toNat := (s347_ 351 z68_.toNat (fs_n (by omega) (fs_n (by omega) rfl))).trans (e385_)
            refine ga_iald (z := z68_) (w := F 351 z68_.toNat) hm_174 rfl sc_351 (by omega) (by omega) (by omega) ((fl_u_ne (by omega)).trans (e386_)) ?_
            refine fl_icmp_ge (a := 2) (b := F 351 z68_.toNat) hm_174 rfl ⟨by omega, by omega⟩ ⟨by omega, by omega⟩ (fun h387_ => ?_) (fun h388_ => ?_)
            ·
              refine ga_aload_n (v := .ref 344) hm_174 rfl rfl rfl ?_
              refine fl_bipush hm_174 rfl rfl ?_
              obtain ⟨F389_, q390_⟩ : ∃ F9_, F9_ = (fl_u F345_ 363 (2 * ll + 1).toNat z325_) := ⟨_, rfl⟩
              rw [← q390_]
              have g391_ : gi F389_ := by rw [q390_]; exact gi_u363 (g346_) (by omega) (by omega) (rz_k hla c342_ (by omega) (by omega)) (by omega)
              have g392_ : fs [(344, 344, 5, 5), (344, 344, 9, 10), (362, 363, 0, 100000)] F F389_ := by rw [q390_]; exact fs_u (g383_) (fs_z (fs_z (fs_y (by omega))))
              have rk393_ : rk K F389_ := by rw [q390_]; exact rk_u (rk384_) (by omega) (by omega)
              have e394_ : F389_ 344 5 = F345_ 344 5 := by rw [q390_]; exact fl_u_ne (by omega)
              have b395_ : 0 ≤ F345_ 344 5 ∧ F345_ 344 5 ≤ 600 := gi_g g346_ rfl
              refine gVv (nY := 2) (F := 2) (L := 41) (As := [.int (Int32.ofInt 41)]) (b := 344) (rest := []) hm_174 rfl hm_51 rfl rfl (fl_ob sc_344) rfl rfl rfl rfl rfl (by omega) (by omega) (mc_51 hG F389_ X g391_ (K) (41) (1) hgK rk393_ hkt (by omega) (by omega) (by omega)) (fun _ _ h => False.elim h) ?_
              have e397_ : F389_ 344 10 = F345_ 344 10 := by rw [q390_]; exact fl_u_ne (by omega)
              have b398_ : 0 ≤ F345_ 344 10 ∧ F345_ 344 10 ≤ 600 := gi_g g346_ rfl
              have e399_ : F389_ 344 9 = F345_ 344 9 := by rw [q390_]; exact fl_u_ne (by omega)
              have b400_ : 0 ≤ F345_ 344 9 ∧ F345_ 344 9 ≤ 5 := gi_g g346_ rfl
              rintro A1_ (⟨F404_, hA_, g405_, s406_, c401_, c402_, c403_⟩ | ⟨F410_, hA_, g411_, s412_, c407_, c408_, c409_⟩)
              ·
                subst hA_
                have g413_ : fs [(344, 344, 5, 5), (344, 344, 9, 10), (362, 363, 0, 100000)] F F404_ := fs_tr g392_ s406_ rfl
                have rk414_ : rk K F404_ := rk_fs rk393_ s406_ (fun r k h => (fs_n (by omega) (fs_n (by omega) rfl))) (fs_n (by omega) (fs_n (by omega) rfl))
                try simp only [e394_, e397_, e399_] at c402_
                have c402_s := c402_.1 (by omega)
                clear c402_
                refine gr_v hm_174 rfl rfl ?_
                have b415_ : 0 ≤ F404_ 344 9 ∧ F404_ 344 9 ≤ 5 := gi_g g405_ rfl
                have b416_ : 0 ≤ F404_ 344 10 ∧ F404_ 344 10 ≤ 600 := gi_g g405_ rfl
                have b417_ : 0 ≤ F404_ 344 5 ∧ F404_ 344 5 ≤ 600 := gi_g g405_ rfl
                exact Or.inl ⟨F404_, rfl, g405_, g413_, (by omega), (⟨by intro h0_; have hs_ := c402_s; rw [spa_go (by omega) (ra_fi (by have x_ := (rpn_fs hpl s22_ (fun _ => (fs_n (by omega) rfl)) (fs_n (by omega) rfl)); rw [e66_] at x_; exact x_) c16_ c69_ c70_ c71_) (by omega) rfl, (show sk K (F 344 5) = F 344 5 + 1 by rw [sk, if_pos (by omega)])]; rw [if_pos (by omega), c156_, pb_r]; rw [if_pos (by omega), c339_, pb_r]; rw [hs_]; try (congr 2 <;> omega), fun h0_ => by exfalso; omega⟩), (by omega)⟩
              subst hA_
              have g418_ : fs [(344, 344, 5, 5), (344, 344, 9, 10), (362, 363, 0, 100000)] F F410_ := fs_tr g392_ s412_ rfl
              have rk419_ : rk K F410_ := rk_fs rk393_ s412_ (fun r k h => (fs_n (by omega) (fs_n (by omega) rfl))) (fs_n (by omega) (fs_n (by omega) rfl))
              try simp only [e399_] at c407_
              try simp only [e394_] at c408_
              refine gr_v hm_174 rfl rfl ?_
              have b420_ : 0 ≤ F410_ 344 9 ∧ F410_ 344 9 ≤ 5 := gi_g g411_ rfl
              have b421_ : 0 ≤ F410_ 344 5 ∧ F410_ 344 5 ≤ 600 := gi_g g411_ rfl
              have e422_ : F137_ 362 ll.toNat = z68_ := by rw [q138_]; exact fl_u_eq
              have e423_ : F162_ 362 ll.toNat = z68_ := (s164_ 362 ll.toNat (fs_n (by omega) (fs_n (by omega) rfl))).trans (e422_)
              have e424_ : F318_ 362 ll.toNat = z68_ := by rw [q319_]; exact (fl_u_ne (by omega)).trans (e423_)
              have e425_ : F345_ 362 ll.toNat = z68_ := (s347_ 362 ll.toNat (fs_n (by omega) (fs_n (by omega) rfl))).trans (e424_)
              have e426_ : F389_ 362 ll.toNat = z68_ := by rw [q390_]; exact (fl_u_ne (by omega)).trans (e425_)
              have e427_ : F410_ 362 ll.toNat = z68_ := (s412_ 362 ll.toNat (fs_n (by omega) (fs_n (by omega) rfl))).trans (e426_)
              have e428_ : F318_ 363 (2 * ll).toNat = z143_ := by rw [q319_]; exact fl_u_eq
              have e429_ : F345_ 363 (2 * ll).toNat = z143_ := (s347_ 363 (2 * ll).toNat (fs_n (by omega) (fs_n (by omega) rfl))).trans (e428_)
              have e430_ : F389_ 363 (2 * ll).toNat = z143_ := by rw [q390_]; exact (fl_u_ne (by omega)).trans (e429_)
              have e431_ : F410_ 363 (2 * ll).toNat = z143_ := (s412_ 363 (2 * ll).toNat (fs_n (by omega) (fs_n (by omega) rfl))).trans (e430_)
              have e432_ : F389_ 363 (2 * ll + 1).toNat = z325_ := by rw [q390_]; exact fl_u_eq
              have e433_ : F410_ 363 (2 * ll + 1).toNat = z325_ := (s412_ 363 (2 * ll + 1).toNat (fs_n (by omega) (fs_n (by omega) rfl))).trans (e432_)
              exact Or.inr (⟨F410_, rfl, g411_, g418_, (by omega), (by rw [spa_go (by omega) (ra_fi (by have x_ := (rpn_fs hpl s22_ (fun _ => (fs_n (by omega) rfl)) (fs_n (by omega) rfl)); rw [e66_] at x_; exact x_) c16_ c69_ c70_ c71_) (by omega) rfl, (show sk K (F 344 5) = F 344 5 + 1 by rw [sk, if_pos (by omega)])]; rw [if_pos (by omega), c156_, pb_r]; rw [if_pos (by omega), c339_, pb_r]; rw [c408_]), (by omega), ((lfr_fg (by rw [q390_]; exact (lfr_ut (lfr_fg (by rw [q319_]; exact (lfr_ut (lfr_fg (by rw [q138_]; exact (lfr_ul (lfr_uo (lfr_fg lfr_r s22_ rfl) rfl) rfl (by omega) (by omega))) s164_ rfl) (by omega) (by omega))) s347_ rfl) (by omega) (by omega))) s412_ rfl)), (by rw [at_dd (ra_fi (by have x_ := (rpn_fs hpl s22_ (fun _ => (fs_n (by omega) rfl)) (fs_n (by omega) rfl)); rw [e66_] at x_; exact x_) c16_ c69_ c70_ c71_) rfl (show sk K (F 344 5) = F 344 5 + 1 by rw [sk, if_pos (by omega)]) (Or.inl ⟨by omega, c160_, c161_⟩) (Or.inl ⟨by omega, c343_⟩)]; exact ⟨e427_, Or.inr (by rw [show 2 * ll.toNat = (2 * ll).toNat by omega]; exact e431_), Or.inr (by rw [show 2 * ll.toNat + 1 = (2 * ll + 1).toNat by omega]; exact e433_)⟩)⟩)
            exfalso; omega
          exfalso; omega
        exfalso; omega
      refine ga_aload_n (v := .ref 344) hm_174 rfl rfl rfl ?_
      refine fl_iconst hm_174 rfl ?_
      have e434_ : F20_ 344 5 = F 344 5 := (s22_ 344 5 rfl).trans (rfl)
      refine gVv (nY := 2) (F := 0) (L := 0) (As := [.int (Int32.ofInt 3)]) (b := 344) (rest := []) hm_174 rfl hm_54 rfl rfl (fl_ob sc_344) rfl rfl rfl rfl rfl (by omega) (by omega) (mc_54 hG F20_ X g21_ (K) (3) hgK rk65_ hkt (by omega) (by omega)) (fun _ _ h => False.elim h) ?_
      have b436_ : 0 ≤ F20_ 344 10 ∧ F20_ 344 10 ≤ 600 := gi_g g21_ rfl
      rintro A1_ ⟨F440_, hA_, g441_, s442_, c437_, c438_, c439_⟩
      subst hA_
      have g443_ : fs [(344, 344, 5, 5), (344, 344, 9, 10), (362, 363, 0, 100000)] F F440_ := fs_tr g64_ s442_ rfl
      have rk444_ : rk K F440_ := rk_fs rk65_ s442_ (fun r k h => (fs_n (by omega) rfl)) (fs_n (by omega) rfl)
      try simp only [e434_] at c438_
      try simp only [e434_] at c439_
      have c438_s := c438_.1 (by omega)
      clear c438_
      refine ga_aload_n (v := .ref 344) hm_174 rfl rfl rfl ?_
      refine gIv (nY := 1) (F := 1) (L := 20) (As := []) (b := 344) (rest := []) hm_174 rfl hm_61 rfl rfl (fl_ob sc_344) rfl rfl rfl rfl rfl (by omega) (by omega) ?_
      intro f445_ l446_ h447_ h448_
      show fl_R xi_ms 61 f445_ l446_ 0 [(0, .ref 344)] [] _ _
      refine ga_aload_n (v := .ref 344) hm_61 rfl rfl rfl ?_
      refine ga_dup hm_61 rfl rfl ?_
      have e449_ : F440_ 344 5 = F 344 5 := (s442_ 344 5 rfl).trans (e434_)
      refine ga_geti (z := F 344 5) hm_61 rfl sc_344 rfl (e449_) ?_
      refine ga_aload_n (v := .ref 344) hm_61 rfl rfl rfl ?_
      refine gIi (nY := 1) (F := 0) (L := 0) (As := []) (b := 344) (rest := [.int (Int32.ofInt (F 344 5)), .ref 344]) hm_61 rfl hm_59 rfl rfl (fl_ob sc_344) rfl rfl rfl rfl rfl (by omega) (by omega) ?_
      intro f450_ l451_ h452_ h453_
      show fl_R xi_ms 59 f450_ l451_ 0 [(0, .ref 344)] [] _ _
      refine ga_aload_n (v := .ref 344) hm_59 rfl rfl rfl ?_
      have b454_ : 0 ≤ F440_ 344 9 ∧ F440_ 344 9 ≤ 5 := gi_g g441_ rfl
      refine ga_geti (z := F440_ 344 9) hm_59 rfl sc_344 rfl (rfl) ?_
      refine fl_if_le (a := F440_ 344 9) hm_59 rfl ⟨by omega, by omega⟩ (fun h455_ => ?_) (fun h456_ => ?_)
      · exfalso; omega
      refine fl_iconst hm_59 rfl ?_
      refine fl_goto hm_59 rfl ?_
      refine gr_i hm_59 rfl rfl (ga_nb (by omega)) ?_
      clear h452_ h453_ f450_ l451_
      refine fl_if_eq hm_61 rfl ⟨by omega, by omega⟩ (fun h => absurd h (by omega)) (fun _ => ?_)
      refine fl_iconst hm_61 rfl ?_
      refine fl_goto hm_61 rfl ?_
      refine ga_iadd (a := F 344 5) (b := 0) (c := F 344 5) hm_61 rfl (by omega) ?_
      refine ga_puti (z := F 344 5) hm_61 rfl sc_344 rfl rfl ?_
      refine gr_v hm_61 rfl rfl ?_
      clear h447_ h448_ f445_ l446_
      refine ga_aload_n (v := .ref 344) hm_174 rfl rfl rfl ?_
      refine gIi (nY := 1) (F := 0) (L := 0) (As := []) (b := 344) (rest := []) hm_174 rfl hm_59 rfl rfl (fl_ob sc_344) rfl rfl rfl rfl rfl (by omega) (by omega) ?_
      intro f457_ l458_ h459_ h460_
      show fl_R xi_ms 59 f457_ l458_ 0 [(0, .ref 344)] [] _ _
      refine ga_aload_n (v := .ref 344) hm_59 rfl rfl rfl ?_
      refine ga_geti (z := F440_ 344 9) hm_59 rfl sc_344 rfl (fl_u_ne (by omega)) ?_
      refine fl_if_le (a := F440_ 344 9) hm_59 rfl ⟨by omega, by omega⟩ (fun h461_ => ?_) (fun h462_ => ?_)
      · exfalso; omega
      refine fl_iconst hm_59 rfl ?_
      refine fl_goto hm_59 rfl ?_
      refine gr_i hm_59 rfl rfl (ga_nb (by omega)) ?_
      clear h459_ h460_ f457_ l458_
      refine fl_if_eq hm_174 rfl ⟨by omega, by omega⟩ (fun h => absurd h (by omega)) (fun _ => ?_)
      obtain ⟨F463_, q464_⟩ : ∃ F9_, F9_ = (fl_u F440_ 344 5 (F 344 5)) := ⟨_, rfl⟩
      rw [← q464_]
      have g465_ : gi F463_ := by rw [q464_]; exact gi_u (g441_) rfl (by omega) (by omega)
      have g466_ : fs [(344, 344, 5, 5), (344, 344, 9, 10), (362, 363, 0, 100000)] F F463_ := by rw [q464_]; exact fs_u (g443_) rfl
      have rk467_ : rk K F463_ := by rw [q464_]; exact rk_u (rk444_) (by omega) (by omega)
      refine gr_v hm_174 rfl rfl ?_
      have e468_ : F463_ 344 9 = F440_ 344 9 := by rw [q464_]; exact fl_u_ne (by omega)
      have e469_ : F463_ 344 10 = F440_ 344 10 := by rw [q464_]; exact fl_u_ne (by omega)
      have e470_ : F463_ 344 5 = F 344 5 := by rw [q464_]; exact fl_u_eq
      have b471_ : 0 ≤ F440_ 344 10 ∧ F440_ 344 10 ≤ 600 := gi_g g441_ rfl
      exact Or.inl ⟨F463_, rfl, g465_, g466_, (by omega), (⟨by intro h0_; have hs_ := c438_s; rw [sp_atom, if_pos (by omega), (ra_fi (by have x_ := (rpn_fs hpl s22_ (fun _ => (fs_n (by omega) rfl)) (fs_n (by omega) rfl)); rw [e66_] at x_; exact x_) c16_ c69_ c70_ c71_), if_pos (by omega)]; show Sum.inl (3, K 4 _) = _; congr 2 <;> omega, fun h0_ => by exfalso; omega⟩), (by omega)⟩
    exfalso; omega
  refine ga_aload_n (v := .ref 344) hm_174 rfl rfl rfl ?_
  have b472_ : 0 ≤ F 344 5 ∧ F 344 5 ≤ 600 := gi_g hgi rfl
  refine gVl (nY := 3) (F := 2) (L := 46) (As := []) (b := 344) (rest := []) hm_174 rfl hm_58 rfl rfl (fl_ob sc_344) rfl rfl rfl rfl rfl (by omega) (by omega) (mc_58 hG F X hgi (K) hgK hrk hkt (by omega)) (fun _ _ h => False.elim h) ?_
  have b474_ : 0 ≤ F 344 10 ∧ F 344 10 ≤ 600 := gi_g hgi rfl
  rintro z473_ A1_ (⟨F479_, hA_, g480_, s481_, c475_, c476_, c477_, c478_⟩ | ⟨F489_, hA_, g490_, s491_, c482_, c483_, c484_, c485_, c486_, c487_, c488_⟩)
  ·
    subst hA_
    have g492_ : fs [(344, 344, 5, 5), (344, 344, 9, 10), (362, 363, 0, 100000)] F F479_ := fs_tr fs_refl s481_ rfl
    have rk493_ : rk K F479_ := rk_fs hrk s481_ (fun r k h => (fs_n (by omega) rfl)) (fs_n (by omega) rfl)
    have c476_k := c476_.2 (by omega)
    clear c476_
    refine ga_lstore_n (lv2 := [(3, .long (Int64.ofInt z473_)), (0, .ref 344), (1, .int (Int32.ofInt a)), (2, .int (Int32.ofInt ll))]) hm_174 rfl (Nat.le_of_ble_eq_true rfl) rfl ?_
    refine ga_aload_n (v := .ref 344) hm_174 rfl rfl rfl ?_
    refine ga_getr (b := 350) hm_174 rfl sc_344 rfl ?_
    refine fl_iconst hm_174 rfl ?_
    refine ga_aload_n (v := .ref 344) hm_174 rfl rfl rfl ?_
    have e494_ : F479_ 344 17 = F 344 17 := (s481_ 344 17 rfl).trans (rfl)
    have b495_ : 0 ≤ F 344 17 ∧ F 344 17 ≤ 6 := gi_g hgi rfl
    refine ga_geti (z := F 344 17) hm_174 rfl sc_344 rfl (e494_) ?_
    refine ga_lload_n (z := z473_) hm_174 rfl rfl ?_
    refine gSi (nY := 7) (F := 0) (L := 0) (As := [.ref 350, .int (Int32.ofInt 0), .int (Int32.ofInt (F 344 17)), .long (Int64.ofInt z473_)]) (rest := []) hm_174 rfl hm_162 rfl rfl (fl_pos sc_0) rfl rfl rfl rfl (by omega) (by omega) (mc_162 hG F479_ X g480_ (350) (6) (0) (F 344 17) (z473_) sc_350 (fun _ => rfl) (by omega) (by omega))  ?_
    rintro z496_ A1_ ⟨hA_, c497_, c498_, c499_⟩
    subst hA_
    refine ga_istore (lv2 := [(5, .int (Int32.ofInt z496_)), (3, .long (Int64.ofInt z473_)), (0, .ref 344), (1, .int (Int32.ofInt a)), (2, .int (Int32.ofInt ll))]) hm_174 rfl (Nat.le_of_ble_eq_true rfl) rfl ?_
    refine ga_aload_n (v := .ref 344) hm_174 rfl rfl rfl ?_
    refine gIi (nY := 1) (F := 0) (L := 0) (As := []) (b := 344) (rest := []) hm_174 rfl hm_59 rfl rfl (fl_ob sc_344) rfl rfl rfl rfl rfl (by omega) (by omega) ?_
    intro f500_ l501_ h502_ h503_
    show fl_R xi_ms 59 f500_ l501_ 0 [(0, .ref 344)] [] _ _
    refine ga_aload_n (v := .ref 344) hm_59 rfl rfl rfl ?_
    have b504_ : 0 ≤ F479_ 344 9 ∧ F479_ 344 9 ≤ 5 := gi_g g480_ rfl
    refine ga_geti (z := F479_ 344 9) hm_59 rfl sc_344 rfl (rfl) ?_
    refine fl_if_le (a := F479_ 344 9) hm_59 rfl ⟨by omega, by omega⟩ (fun h505_ => ?_) (fun h506_ => ?_)
    · exfalso; omega
    refine fl_iconst hm_59 rfl ?_
    refine fl_goto hm_59 rfl ?_
    refine gr_i hm_59 rfl rfl (ga_nb (by omega)) ?_
    clear h502_ h503_ f500_ l501_
    refine fl_if_ne hm_174 rfl ⟨by omega, by omega⟩ (fun _ => ?_) (fun h => absurd (by omega) h)
    refine ga_aload_n (v := .ref 344) hm_174 rfl rfl rfl ?_
    refine gIv (nY := 1) (F := 1) (L := 20) (As := []) (b := 344) (rest := []) hm_174 rfl hm_61 rfl rfl (fl_ob sc_344) rfl rfl rfl rfl rfl (by omega) (by omega) ?_
    intro f507_ l508_ h509_ h510_
    show fl_R xi_ms 61 f507_ l508_ 0 [(0, .ref 344)] [] _ _
    refine ga_aload_n (v := .ref 344) hm_61 rfl rfl rfl ?_
    refine ga_dup hm_61 rfl rfl ?_
    have e511_ : F479_ 344 5 = F 344 5 := (s481_ 344 5 rfl).trans (rfl)
    refine ga_geti (z := F 344 5) hm_61 rfl sc_344 rfl (e511_) ?_
    refine ga_aload_n (v := .ref 344) hm_61 rfl rfl rfl ?_
    refine gIi (nY := 1) (F := 0) (L := 0) (As := []) (b := 344) (rest := [.int (Int32.ofInt (F 344 5)), .ref 344]) hm_61 rfl hm_59 rfl rfl (fl_ob sc_344) rfl rfl rfl rfl rfl (by omega) (by omega) ?_
    intro f512_ l513_ h514_ h515_
    show fl_R xi_ms 59 f512_ l513_ 0 [(0, .ref 344)] [] _ _
    refine ga_aload_n (v := .ref 344) hm_59 rfl rfl rfl ?_
    refine ga_geti (z := F479_ 344 9) hm_59 rfl sc_344 rfl (rfl) ?_
    refine fl_if_le (a := F479_ 344 9) hm_59 rfl ⟨by omega, by omega⟩ (fun h516_ => ?_) (fun h517_ => ?_)
    · exfalso; omega
    refine fl_iconst hm_59 rfl ?_
    refine fl_goto hm_59 rfl ?_
    refine gr_i hm_59 rfl rfl (ga_nb (by omega)) ?_
    clear h514_ h515_ f512_ l513_
    refine fl_if_eq hm_61 rfl ⟨by omega, by omega⟩ (fun h => absurd h (by omega)) (fun _ => ?_)
    refine fl_iconst hm_61 rfl ?_
    refine fl_goto hm_61 rfl ?_
    refine ga_iadd (a := F 344 5) (b := 0) (c := F 344 5) hm_61 rfl (by omega) ?_
    refine ga_puti (z := F 344 5) hm_61 rfl sc_344 rfl rfl ?_
    refine gr_v hm_61 rfl rfl ?_
    clear h509_ h510_ f507_ l508_
    refine ga_aload_n (v := .ref 344) hm_174 rfl rfl rfl ?_
    refine gIi (nY := 1) (F := 0) (L := 0) (As := []) (b := 344) (rest := []) hm_174 rfl hm_59 rfl rfl (fl_ob sc_344) rfl rfl rfl rfl rfl (by omega) (by omega) ?_
    intro f518_ l519_ h520_ h521_
    show fl_R xi_ms 59 f518_ l519_ 0 [(0, .ref 344)] [] _ _
    refine ga_aload_n (v := .ref 344) hm_59 rfl rfl rfl ?_
    refine ga_geti (z := F479_ 344 9) hm_59 rfl sc_344 rfl (fl_u_ne (by omega)) ?_
    refine fl_if_le (a := F479_ 344 9) hm_59 rfl ⟨by omega, by omega⟩ (fun h522_ => ?_) (fun h523_ => ?_)
    · exfalso; omega
    refine fl_iconst hm_59 rfl ?_
    refine fl_goto hm_59 rfl ?_
    refine gr_i hm_59 rfl rfl (ga_nb (by omega)) ?_
    clear h520_ h521_ f518_ l519_
    refine fl_if_eq hm_174 rfl ⟨by omega, by omega⟩ (fun h => absurd h (by omega)) (fun _ => ?_)
    obtain ⟨F524_, q525_⟩ : ∃ F9_, F9_ = (fl_u F479_ 344 5 (F 344 5)) := ⟨_, rfl⟩
    rw [← q525_]
    have g526_ : gi F524_ := by rw [q525_]; exact gi_u (g480_) rfl (by omega) (by omega)
    have g527_ : fs [(344, 344, 5, 5), (344, 344, 9, 10), (362, 363, 0, 100000)] F F524_ := by rw [q525_]; exact fs_u (g492_) rfl
    have rk528_ : rk K F524_ := by rw [q525_]; exact rk_u (rk493_) (by omega) (by omega)
    refine gr_v hm_174 rfl rfl ?_
    have e529_ : F524_ 344 9 = F479_ 344 9 := by rw [q525_]; exact fl_u_ne (by omega)
    have e530_ : F524_ 344 10 = F479_ 344 10 := by rw [q525_]; exact fl_u_ne (by omega)
    have e531_ : F524_ 344 5 = F 344 5 := by rw [q525_]; exact fl_u_eq
    have b532_ : 0 ≤ F479_ 344 10 ∧ F479_ 344 10 ≤ 600 := gi_g g480_ rfl
    exact Or.inl ⟨F524_, rfl, g526_, g527_, (by omega), (⟨fun h0_ => by exfalso; omega, fun h0_ => by constructor <;> omega⟩), (by omega)⟩
  exfalso; omega

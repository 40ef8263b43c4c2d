/- CheapPlannerModel.readAtom -/
abbrev pq_174 (G : Nat → Nat → Option Nat) (F : fl_N) (X : xi_H) (K : fl_N) (a ll k : Int) (l tl pl : List Int) (ps : List (List Int)) : Outcome → xi_H → Prop := gqv (fun A => (∃ F' : fl_N, fl_H sh_T G F' ++ X = A ∧ gi F' ∧ fs [(344, 344, 5, 5), (344, 344, 9, 10), (362, 363, 0, 100000)] F F' ∧ (¬ F' 344 9 = 0) ∧ ((F 344 9 = 0 → sp_atom K k l tl pl ps (F 344 5) = .inl (F' 344 9, F' 344 10)) ∧ (¬ F 344 9 = 0 → F' 344 9 = F 344 9 ∧ F' 344 10 = F 344 10)) ∧ (0 ≤ F' 344 5 ∧ F' 344 5 ≤ K 1 6 - 1)) ∨ (∃ F' : fl_N, fl_H sh_T G F' ++ X = A ∧ gi F' ∧ fs [(344, 344, 5, 5), (344, 344, 9, 10), (362, 363, 0, 100000)] F F' ∧ (F' 344 9 = 0 ∧ F 344 9 = 0) ∧ (sp_atom K k l tl pl ps (F 344 5) = .inr (F' 344 5)) ∧ (0 ≤ F' 344 5 ∧ F' 344 5 ≤ K 1 6 - 1))) gqn
set_option maxHeartbeats 16000000 in
theorem mc_174 {G : Nat → Nat → Option Nat} (hG : gg G) (F : fl_N) (X : xi_H) (hgi : gi F) (K : fl_N) (a ll k : Int) (l tl pl : List Int) (ps : List (List Int)) (hgK : gi K) (hrk : rk K F) (hkt : rkt K) (hp : 0 ≤ F 344 5 ∧ F 344 5 ≤ K 1 6 - 1) (ht : trm F a k l tl) (hlt : l.length = tl.length) (ha : 0 ≤ a ∧ a ≤ 5) (hpl : rpn (F 350) (F 344 17) pl) (hps : rprd F ps ∧ ps.length = pl.length) (hll : 0 ≤ ll ∧ ll ≤ 43) : fl_M xi_ms 174 4 91 [.ref 344, .int (Int32.ofInt a), .int (Int32.ofInt ll)] (fl_H sh_T G F ++ X) (pq_174 G F X K a ll k l tl pl ps) := by
  intro fr lo hfr hlo
  show fl_R xi_ms 174 fr lo 0 [(0, .ref 344), (1, .int (Int32.ofInt a)), (2, .int (Int32.ofInt ll))] [] _ _
  have hP := (rkt_p hkt hp.1 hp.2 hgK).1
  have hK16 : 0 ≤ K 1 6 ∧ K 1 6 ≤ 601 := gi_g hgK rfl
  have hko := hkt.1
  have hpl1 := hpl.1
  have hb17 : 0 ≤ F 344 17 ∧ F 344 17 ≤ 6 := gi_g hgi rfl
  have b1_ : 0 ≤ F 344 9 ∧ F 344 9 ≤ 5 := gi_g hgi rfl
  by_cases h2_ : F 344 9 = 0
  ·
    refine ga_aload_n (v := .ref 344) hm_174 rfl rfl rfl ?_
    have b3_ : 0 ≤ F 344 5 ∧ F 344 5 ≤ 600 := gi_g hgi rfl
    refine gVl (nY := 3) (F := 2) (L := 46) (As := []) (b := 344) (rest := []) hm_174 rfl hm_58 rfl rfl (fl_ob sc_344) rfl rfl rfl rfl rfl (by omega) (by omega) (mc_58 hG F X hgi (K) hgK hrk hkt (by omega)) (fun _ _ h => False.elim h) ?_
    have b5_ : 0 ≤ F 344 10 ∧ F 344 10 ≤ 600 := gi_g hgi rfl
    rintro z4_ A1_ (⟨F10_, hA_, g11_, s12_, c6_, c7_, c8_, c9_⟩ | ⟨F20_, hA_, g21_, s22_, c13_, c14_, c15_, c16_, c17_, c18_, c19_⟩)
    ·
      subst hA_
      have g23_ : fs [(344, 344, 5, 5), (344, 344, 9, 10), (362, 363, 0, 100000)] F F10_ := fs_tr fs_refl s12_ rfl
      have rk24_ : rk K F10_ := rk_fs hrk s12_ (fun r k h => (fs_n (by omega) rfl)) (fs_n (by omega) rfl)
      have c7_s := c7_.1 (by omega)
      clear c7_
      refine ga_lstore_n (lv2 := [(3, .long (Int64.ofInt z4_)), (0, .ref 344), (1, .int (Int32.ofInt a)), (2, .int (Int32.ofInt ll))]) hm_174 rfl (Nat.le_of_ble_eq_true rfl) rfl ?_
      refine ga_aload_n (v := .ref 344) hm_174 rfl rfl rfl ?_
      refine ga_getr (b := 350) hm_174 rfl sc_344 rfl ?_
      refine fl_iconst hm_174 rfl ?_
      refine ga_aload_n (v := .ref 344) hm_174 rfl rfl rfl ?_
      have e25_ : F10_ 344 17 = F 344 17 := (s12_ 344 17 rfl).trans (rfl)
      have b26_ : 0 ≤ F 344 17 ∧ F 344 17 ≤ 6 := gi_g hgi rfl
      refine ga_geti (z := F 344 17) hm_174 rfl sc_344 rfl (e25_) ?_
      refine ga_lload_n (z := z4_) hm_174 rfl rfl ?_
      refine gSi (nY := 7) (F := 0) (L := 0) (As := [.ref 350, .int (Int32.ofInt 0), .int (Int32.ofInt (F 344 17)), .long (Int64.ofInt z4_)]) (rest := []) hm_174 rfl hm_162 rfl rfl (fl_pos sc_0) rfl rfl rfl rfl (by omega) (by omega) (mc_162 hG F10_ X g11_ (350) (6) (0) (F 344 17) (z4_) sc_350 (fun _ => rfl) (by omega) (by omega))  ?_
      rintro z27_ A1_ ⟨hA_, c28_, c29_, c30_⟩
      subst hA_
      refine ga_istore (lv2 := [(5, .int (Int32.ofInt z27_)), (3, .long (Int64.ofInt z4_)), (0, .ref 344), (1, .int (Int32.ofInt a)), (2, .int (Int32.ofInt ll))]) hm_174 rfl (Nat.le_of_ble_eq_true rfl) rfl ?_
      refine ga_aload_n (v := .ref 344) hm_174 rfl rfl rfl ?_
      refine gIi (nY := 1) (F := 0) (L := 0) (As := []) (b := 344) (rest := []) hm_174 rfl hm_59 rfl rfl (fl_ob sc_344) rfl rfl rfl rfl rfl (by omega) (by omega) ?_
      intro f31_ l32_ h33_ h34_
      show fl_R xi_ms 59 f31_ l32_ 0 [(0, .ref 344)] [] _ _
      refine ga_aload_n (v := .ref 344) hm_59 rfl rfl rfl ?_
      have b35_ : 0 ≤ F10_ 344 9 ∧ F10_ 344 9 ≤ 5 := gi_g g11_ rfl
      refine ga_geti (z := F10_ 344 9) hm_59 rfl sc_344 rfl (rfl) ?_
      refine fl_if_le (a := F10_ 344 9) hm_59 rfl ⟨by omega, by omega⟩ (fun h36_ => ?_) (fun h37_ => ?_)
      · exfalso; omega
      refine fl_iconst hm_59 rfl ?_
      refine fl_goto hm_59 rfl ?_
      refine gr_i hm_59 rfl rfl (ga_nb (by omega)) ?_
      clear h33_ h34_ f31_ l32_
      refine fl_if_ne hm_174 rfl ⟨by omega, by omega⟩ (fun _ => ?_) (fun h => absurd (by omega) h)
      refine ga_aload_n (v := .ref 344) hm_174 rfl rfl rfl ?_
      refine gIv (nY := 1) (F := 1) (L := 20) (As := []) (b := 344) (rest := []) hm_174 rfl hm_61 rfl rfl (fl_ob sc_344) rfl rfl rfl rfl rfl (by omega) (by omega) ?_
      intro f38_ l39_ h40_ h41_
      show fl_R xi_ms 61 f38_ l39_ 0 [(0, .ref 344)] [] _ _
      refine ga_aload_n (v := .ref 344) hm_61 rfl rfl rfl ?_
      refine ga_dup hm_61 rfl rfl ?_
      have e42_ : F10_ 344 5 = F 344 5 := (s12_ 344 5 rfl).trans (rfl)
      refine ga_geti (z := F 344 5) hm_61 rfl sc_344 rfl (e42_) ?_
      refine ga_aload_n (v := .ref 344) hm_61 rfl rfl rfl ?_
      refine gIi (nY := 1) (F := 0) (L := 0) (As := []) (b := 344) (rest := [.int (Int32.ofInt (F 344 5)), .ref 344]) hm_61 rfl hm_59 rfl rfl (fl_ob sc_344) rfl rfl rfl rfl rfl (by omega) (by omega) ?_
      intro f43_ l44_ h45_ h46_
      show fl_R xi_ms 59 f43_ l44_ 0 [(0, .ref 344)] [] _ _
      refine ga_aload_n (v := .ref 344) hm_59 rfl rfl rfl ?_
      refine ga_geti (z := F10_ 344 9) hm_59 rfl sc_344 rfl (rfl) ?_
      refine fl_if_le (a := F10_ 344 9) hm_59 rfl ⟨by omega, by omega⟩ (fun h47_ => ?_) (fun h48_ => ?_)
      · exfalso; omega
      refine fl_iconst hm_59 rfl ?_
      refine fl_goto hm_59 rfl ?_
      refine gr_i hm_59 rfl rfl (ga_nb (by omega)) ?_
      clear h45_ h46_ f43_ l44_
      refine fl_if_eq hm_61 rfl ⟨by omega, by omega⟩ (fun h => absurd h (by omega)) (fun _ => ?_)
      refine fl_iconst hm_61 rfl ?_
      refine fl_goto hm_61 rfl ?_
      refine ga_iadd (a := F 344 5) (b := 0) (c := F 344 5) hm_61 rfl (by omega) ?_
      refine ga_puti (z := F 344 5) hm_61 rfl sc_344 rfl rfl ?_
      refine gr_v hm_61 rfl rfl ?_
      clear h40_ h41_ f38_ l39_
      refine ga_aload_n (v := .ref 344) hm_174 rfl rfl rfl ?_
      refine gIi (nY := 1) (F := 0) (L := 0) (As := []) (b := 344) (rest := []) hm_174 rfl hm_59 rfl rfl (fl_ob sc_344) rfl rfl rfl rfl rfl (by omega) (by omega) ?_
      intro f49_ l50_ h51_ h52_
      show fl_R xi_ms 59 f49_ l50_ 0 [(0, .ref 344)] [] _ _
      refine ga_aload_n (v := .ref 344) hm_59 rfl rfl rfl ?_
      refine ga_geti (z := F10_ 344 9) hm_59 rfl sc_344 rfl (fl_u_ne (by omega)) ?_
      refine fl_if_le (a := F10_ 344 9) hm_59 rfl ⟨by omega, by omega⟩ (fun h53_ => ?_) (fun h54_ => ?_)
      · exfalso; omega
      refine fl_iconst hm_59 rfl ?_
      refine fl_goto hm_59 rfl ?_
      refine gr_i hm_59 rfl rfl (ga_nb (by omega)) ?_
      clear h51_ h52_ f49_ l50_
      refine fl_if_eq hm_174 rfl ⟨by omega, by omega⟩ (fun h => absurd h (by omega)) (fun _ => ?_)
      obtain ⟨F55_, q56_⟩ : ∃ F9_, F9_ = (fl_u F10_ 344 5 (F 344 5)) := ⟨_, rfl⟩
      rw [← q56_]
      have g57_ : gi F55_ := by rw [q56_]; exact gi_u (g11_) rfl (by omega) (by omega)
      have g58_ : fs [(344, 344, 5, 5), (344, 344, 9, 10), (362, 363, 0, 100000)] F F55_ := by rw [q56_]; exact fs_u (g23_) rfl
      have rk59_ : rk K F55_ := by rw [q56_]; exact rk_u (rk24_) (by omega) (by omega)
      refine gr_v hm_174 rfl rfl ?_
      have e60_ : F55_ 344 9 = F10_ 344 9 := by rw [q56_]; exact fl_u_ne (by omega)
      have e61_ : F55_ 344 10 = F10_ 344 10 := by rw [q56_]; exact fl_u_ne (by omega)
      have e62_ : F55_ 344 5 = F 344 5 := by rw [q56_]; exact fl_u_eq
      have b63_ : 0 ≤ F10_ 344 10 ∧ F10_ 344 10 ≤ 600 := gi_g g11_ rfl
      exact Or.inl ⟨F55_, rfl, g57_, g58_, (by omega), (⟨by intro h0_; have hs_ := c7_s; have h1_ := nm_no hs_; rw [sp_nm, if_neg h1_] at hs_; have h2_ := Prod.mk.inj (Sum.inl.inj hs_); rw [sp_atom, if_neg h1_]; show Sum.inl (1, K 4 _) = _; congr 2 <;> omega, fun h0_ => by exfalso; omega⟩), (by omega)⟩
    subst hA_
    have g64_ : fs [(344, 344, 5, 5), (344, 344, 9, 10), (362, 363, 0, 100000)] F F20_ := fs_tr fs_refl s22_ rfl
    have rk65_ : rk K F20_ := rk_fs hrk s22_ (fun r k h => (fs_n (by omega) rfl)) (fs_n (by omega) rfl)
    refine ga_lstore_n (lv2 := [(3, .long (Int64.ofInt z4_)), (0, .ref 344), (1, .int (Int32.ofInt a)), (2, .int (Int32.ofInt ll))]) hm_174 rfl (Nat.le_of_ble_eq_true rfl) rfl ?_
    refine ga_aload_n (v := .ref 344) hm_174 rfl rfl rfl ?_
    refine ga_getr (b := 350) hm_174 rfl sc_344 rfl ?_
    refine fl_iconst hm_174 rfl ?_
    refine ga_aload_n (v := .ref 344) hm_174 rfl rfl rfl ?_
    have e66_ : F20_ 344 17 = F 344 17 := (s22_ 344 17 rfl).trans (rfl)
    have b67_ : 0 ≤ F 344 17 ∧ F 344 17 ≤ 6 := gi_g hgi rfl
    refine ga_geti (z := F 344 17) hm_174 rfl sc_344 rfl (e66_) ?_
    refine ga_lload_n (z := z4_) hm_174 rfl rfl ?_
    refine gSi (nY := 7) (F := 0) (L := 0) (As := [.ref 350, .int (Int32.ofInt 0), .int (Int32.ofInt (F 344 17)), .long (Int64.ofInt z4_)]) (rest := []) hm_174 rfl hm_162 rfl rfl (fl_pos sc_0) rfl rfl rfl rfl (by omega) (by omega) (mc_162 hG F20_ X g21_ (350) (6) (0) (F 344 17) (z4_) sc_350 (fun _ => rfl) (by omega) (by omega))  ?_
    rintro z68_ A1_ ⟨hA_, c69_, c70_, c71_⟩
    subst hA_
    refine ga_istore (lv2 := [(5, .int (Int32.ofInt z68_)), (3, .long (Int64.ofInt z4_)), (0, .ref 344), (1, .int (Int32.ofInt a)), (2, .int (Int32.ofInt ll))]) hm_174 rfl (Nat.le_of_ble_eq_true rfl) rfl ?_
    refine ga_aload_n (v := .ref 344) hm_174 rfl rfl rfl ?_
    refine gIi (nY := 1) (F := 0) (L := 0) (As := []) (b := 344) (rest := []) hm_174 rfl hm_59 rfl rfl (fl_ob sc_344) rfl rfl rfl rfl rfl (by omega) (by omega) ?_
    intro f72_ l73_ h74_ h75_
    show fl_R xi_ms 59 f72_ l73_ 0 [(0, .ref 344)] [] _ _
    refine ga_aload_n (v := .ref 344) hm_59 rfl rfl rfl ?_
    have b76_ : 0 ≤ F20_ 344 9 ∧ F20_ 344 9 ≤ 5 := gi_g g21_ rfl
    refine ga_geti (z := F20_ 344 9) hm_59 rfl sc_344 rfl (rfl) ?_
    refine fl_if_le (a := F20_ 344 9) hm_59 rfl ⟨by omega, by omega⟩ (fun h77_ => ?_) (fun h78_ => ?_)
    ·
      refine fl_iconst hm_59 rfl ?_
      refine gr_i hm_59 rfl rfl (ga_nb (by omega)) ?_
      clear h74_ h75_ f72_ l73_
      refine fl_if_ne hm_174 rfl ⟨by omega, by omega⟩ (fun h => absurd h (by omega)) (fun _ => ?_)
      refine ga_iload (z := z68_) hm_174 rfl rfl ?_
      refine fl_iconst hm_174 rfl ?_
      refine fx_icmp_ne (a := z68_) (b := -1) hm_174 rfl ⟨by omega, by omega⟩ ⟨by omega, by omega⟩ (fun h79_ => ?_) (fun h80_ => ?_)
      ·
        refine ga_aload_n (v := .ref 344) hm_174 rfl rfl rfl ?_
        refine gIv (nY := 1) (F := 1) (L := 20) (As := []) (b := 344) (rest := []) hm_174 rfl hm_61 rfl rfl (fl_ob sc_344) rfl rfl rfl rfl rfl (by omega) (by omega) ?_
        intro f81_ l82_ h83_ h84_
        show fl_R xi_ms 61 f81_ l82_ 0 [(0, .ref 344)] [] _ _
        refine ga_aload_n (v := .ref 344) hm_61 rfl rfl rfl ?_
        refine ga_dup hm_61 rfl rfl ?_
        have e85_ : F20_ 344 5 = F 344 5 := (s22_ 344 5 rfl).trans (rfl)
        refine ga_geti (z := F 344 5) hm_61 rfl sc_344 rfl (e85_) ?_
        refine ga_aload_n (v := .ref 344) hm_61 rfl rfl rfl ?_
        refine gIi (nY := 1) (F := 0) (L := 0) (As := []) (b := 344) (rest := [.int (Int32.ofInt (F 344 5)), .ref 344]) hm_61 rfl hm_59 rfl rfl (fl_ob sc_344) rfl rfl rfl rfl rfl (by omega) (by omega) ?_
        intro f86_ l87_ h88_ h89_
        show fl_R xi_ms 59 f86_ l87_ 0 [(0, .ref 344)] [] _ _
        refine ga_aload_n (v := .ref 344) hm_59 rfl rfl rfl ?_
        refine ga_geti (z := F20_ 344 9) hm_59 rfl sc_344 rfl (rfl) ?_
        refine fl_if_le (a := F20_ 344 9) hm_59 rfl ⟨by omega, by omega⟩ (fun h90_ => ?_) (fun h91_ => ?_)
        ·
          refine fl_iconst hm_59 rfl ?_
          refine gr_i hm_59 rfl rfl (ga_nb (by omega)) ?_
          clear h88_ h89_ f86_ l87_
          refine fl_if_eq hm_61 rfl ⟨by omega, by omega⟩ (fun _ => ?_) (fun h => absurd (by omega) h)
          refine fl_iconst hm_61 rfl ?_
          refine ga_iadd (a := F 344 5) (b := 1) (c := F 344 5 + 1) hm_61 rfl (by omega) ?_
          refine ga_puti (z := F 344 5 + 1) hm_61 rfl sc_344 rfl rfl ?_
          refine gr_v hm_61 rfl rfl ?_
          clear h83_ h84_ f81_ l82_
          refine ga_aload_n (v := .ref 344) hm_174 rfl rfl rfl ?_
          refine gIi (nY := 1) (F := 0) (L := 0) (As := []) (b := 344) (rest := []) hm_174 rfl hm_59 rfl rfl (fl_ob sc_344) rfl rfl rfl rfl rfl (by omega) (by omega) ?_
          intro f92_ l93_ h94_ h95_
          show fl_R xi_ms 59 f92_ l93_ 0 [(0, .ref 344)] [] _ _
          refine ga_aload_n (v := .ref 344) hm_59 rfl rfl rfl ?_
          refine ga_geti (z := F20_ 344 9) hm_59 rfl sc_344 rfl (fl_u_ne (by omega)) ?_
          refine fl_if_le (a := F20_ 344 9) hm_59 rfl ⟨by omega, by omega⟩ (fun h96_ => ?_) (fun h97_ => ?_)
          ·
            refine fl_iconst hm_59 rfl ?_
            refine gr_i hm_59 rfl rfl (ga_nb (by omega)) ?_
            clear h94_ h95_ f92_ l93_
            refine fl_if_eq hm_174 rfl ⟨by omega, by omega⟩ (fun _ => ?_) (fun h => absurd (by omega) h)
            refine ga_aload_n (v := .ref 344) hm_174 rfl rfl rfl ?_
            refine ga_getr (b := 362) hm_174 rfl sc_344 rfl ?_
            refine ga_iload_n (z := ll) hm_174 rfl rfl ?_
            refine ga_iload (z := z68_) hm_174 rfl rfl ?_
            refine fl_iast (z := ll) (v := z68_) hm_174 rfl sc_362 (by omega) (by omega) (by omega) ?_
            obtain ⟨hz1_, hz2_, hz3_⟩ := hps.1 (z68_).toNat (by omega)
            have hg0 : 0 < (ps.getD (z68_).toNat []).length → F 352 (2 * z68_).toNat = (ps.getD (z68_).toNat []).getD 0 0 + 1 := fun h => by have h9 := rty_get hz2_ (j := 0) h; rwa [show 2 * (z68_).toNat + 0 = (2 * z68_).toNat by omega] at h9
            have hg1 : 1 < (ps.getD (z68_).toNat []).length → F 352 (2 * z68_ + 1).toNat = (ps.getD (z68_).toNat []).getD 1 0 + 1 := fun h => by have h9 := rty_get hz2_ (j := 1) h; rwa [show 2 * (z68_).toNat + 1 = (2 * z68_ + 1).toNat by omega] at h9
            refine fl_iconst hm_174 rfl ?_
            refine ga_istore (lv2 := [(6, .int (Int32.ofInt 0)), (5, .int (Int32.ofInt z68_)), (3, .long (Int64.ofInt z4_)), (0, .ref 344), (1, .int (Int32.ofInt a)), (2, .int (Int32.ofInt ll))]) hm_174 rfl (Nat.le_of_ble_eq_true rfl) rfl ?_
            refine ga_iload (z := 0) hm_174 rfl rfl ?_
            refine ga_aload_n (v := .ref 344) hm_174 rfl rfl rfl ?_
            refine ga_getr (b := 351) hm_174 rfl sc_344 rfl ?_
            refine ga_iload (z := z68_) hm_174 rfl rfl ?_
            have e98_ : F20_ 351 z68_.toNat = F 351 z68_.toNat := (s22_ 351 z68_.toNat (fs_n (by omega) rfl)).trans (rfl)
            have b99_ : 0 ≤ F 351 z68_.toNat ∧ F 351 z68_.toNat ≤ 2 := gi_g hgi rfl
            refine ga_iald (z := z68_) (w := F 351 z68_.toNat) hm_174 rfl sc_351 (by omega) (by omega) (by omega) ((fl_u_ne (by omega)).trans ((fl_u_ne (by omega)).trans (e98_))) ?_
            refine fl_icmp_ge (a := 0) (b := F 351 z68_.toNat) hm_174 rfl ⟨by omega, by omega⟩ ⟨by omega, by omega⟩ (fun h100_ => ?_) (fun h101_ => ?_)
            ·
              refine ga_aload_n (v := .ref 344) hm_174 rfl rfl rfl ?_
              refine fl_bipush hm_174 rfl rfl ?_
              obtain ⟨F102_, q103_⟩ : ∃ F9_, F9_ = (fl_u (fl_u F20_ 344 5 (F 344 5 + 1)) 362 ll.toNat z68_) := ⟨_, rfl⟩
              rw [← q103_]
              have g104_ : gi F102_ := by rw [q103_]; exact gi_u (gi_u (g21_) rfl (by omega) (by omega)) rfl (by omega) (by omega)
              have g105_ : fs [(344, 344, 5, 5), (344, 344, 9, 10), (362, 363, 0, 100000)] F F102_ := by rw [q103_]; exact fs_u (fs_u (g64_) rfl) (fs_z (fs_z (fs_y (by omega))))
              have rk106_ : rk K F102_ := by rw [q103_]; exact rk_u (rk_u (rk65_) (by omega) (by omega)) (by omega) (by omega)
              have e107_ : F102_ 344 5 = F 344 5 + 1 := by rw [q103_]; exact (fl_u_ne (by omega)).trans (fl_u_eq)
              refine gVv (nY := 2) (F := 2) (L := 41) (As := [.int (Int32.ofInt 41)]) (b := 344) (rest := []) hm_174 rfl hm_51 rfl rfl (fl_ob sc_344) rfl rfl rfl rfl rfl (by omega) (by omega) (mc_51 hG F102_ X g104_ (K) (41) (1) hgK rk106_ hkt (by omega) (by omega) (by omega)) (fun _ _ h => False.elim h) ?_
              have e109_ : F102_ 344 10 = F20_ 344 10 := by rw [q103_]; exact (fl_u_ne (by omega)).trans (fl_u_ne (by omega))
              have b110_ : 0 ≤ F20_ 344 10 ∧ F20_ 344 10 ≤ 600 := gi_g g21_ rfl
              have e111_ : F102_ 344 9 = F20_ 344 9 := by rw [q103_]; exact (fl_u_ne (by omega)).trans (fl_u_ne (by omega))
              rintro A1_ (⟨F115_, hA_, g116_, s117_, c112_, c113_, c114_⟩ | ⟨F121_, hA_, g122_, s123_, c118_, c119_, c120_⟩)
              ·
                subst hA_
                have g124_ : fs [(344, 344, 5, 5), (344, 344, 9, 10), (362, 363, 0, 100000)] F F115_ := fs_tr g105_ s117_ rfl
                have rk125_ : rk K F115_ := rk_fs rk106_ s117_ (fun r k h => (fs_n (by omega) (fs_n (by omega) rfl))) (fs_n (by omega) (fs_n (by omega) rfl))
                try simp only [e107_, e109_, e111_] at c113_
                have c113_s := c113_.1 (by omega)
                clear c113_
                refine gr_v hm_174 rfl rfl ?_
                have b126_ : 0 ≤ F115_ 344 9 ∧ F115_ 344 9 ≤ 5 := gi_g g116_ rfl
                have b127_ : 0 ≤ F115_ 344 10 ∧ F115_ 344 10 ≤ 600 := gi_g g116_ rfl
                have b128_ : 0 ≤ F115_ 344 5 ∧ F115_ 344 5 ≤ 600 := gi_g g116_ rfl
                exact Or.inl ⟨F115_, rfl, g116_, g124_, (by omega), (⟨by intro h0_; have hs_ := c113_s; rw [spa_go (by omega) (ra_fi (by have x_ := (rpn_fs hpl s22_ (fun _ => (fs_n (by omega) rfl)) (fs_n (by omega) rfl)); rw [e66_] at x_; exact x_) c16_ c69_ c70_ c71_) (by omega) rfl, (show sk K (F 344 5) = F 344 5 + 1 by rw [sk, if_pos (by omega)])]; rw [if_neg (by omega), pb_r]; rw [if_neg (by omega), pb_r]; rw [hs_]; try (congr 2 <;> omega), fun h0_ => by exfalso; omega⟩), (by omega)⟩
              subst hA_
              have g129_ : fs [(344, 344, 5, 5), (344, 344, 9, 10), (362, 363, 0, 100000)] F F121_ := fs_tr g105_ s123_ rfl
              have rk130_ : rk K F121_ := rk_fs rk106_ s123_ (fun r k h => (fs_n (by omega) (fs_n (by omega) rfl))) (fs_n (by omega) (fs_n (by omega) rfl))
              try simp only [e111_] at c118_
              try simp only [e107_] at c119_
              refine gr_v hm_174 rfl rfl ?_
              have b131_ : 0 ≤ F121_ 344 9 ∧ F121_ 344 9 ≤ 5 := gi_g g122_ rfl
              have b132_ : 0 ≤ F121_ 344 5 ∧ F121_ 344 5 ≤ 600 := gi_g g122_ rfl
              exact Or.inr (⟨F121_, rfl, g122_, g129_, (by omega), (by rw [spa_go (by omega) (ra_fi (by have x_ := (rpn_fs hpl s22_ (fun _ => (fs_n (by omega) rfl)) (fs_n (by omega) rfl)); rw [e66_] at x_; exact x_) c16_ c69_ c70_ c71_) (by omega) rfl, (show sk K (F 344 5) = F 344 5 + 1 by rw [sk, if_pos (by omega)])]; rw [if_neg (by omega), pb_r]; rw [if_neg (by omega), pb_r]; rw [c119_]), (by omega)⟩)
            refine ga_aload_n (v := .ref 344) hm_174 rfl rfl rfl ?_
            refine ga_getr (b := 363) hm_174 rfl sc_344 rfl ?_
            refine fl_iconst hm_174 rfl ?_
            refine ga_iload_n (z := ll) hm_174 rfl rfl ?_
            refine ga_imul (a := 2) (b := ll) (c := 2 * ll) hm_174 rfl (by omega) ?_
            refine ga_iload (z := 0) hm_174 rfl rfl ?_
            refine ga_iadd (a := 2 * ll) (b := 0) (c := 2 * ll) hm_174 rfl (by omega) ?_
            refine ga_aload_n (v := .ref 344) hm_174 rfl rfl rfl ?_
            refine ga_iload_n (z := a) hm_174 rfl rfl ?_
            refine ga_aload_n (v := .ref 344) hm_174 rfl rfl rfl ?_
            refine ga_getr (b := 352) hm_174 rfl sc_344 rfl ?_
            refine fl_iconst hm_174 rfl ?_
            refine ga_iload (z := z68_) hm_174 rfl rfl ?_
            refine ga_imul (a := 2) (b := z68_) (c := 2 * z68_) hm_174 rfl (by omega) ?_
            refine ga_iload (z := 0) hm_174 rfl rfl ?_
            refine ga_iadd (a := 2 * z68_) (b := 0) (c := 2 * z68_) hm_174 rfl (by omega) ?_
            have e133_ : F20_ 352 (2 * z68_).toNat = F 352 (2 * z68_).toNat := (s22_ 352 (2 * z68_).toNat (fs_n (by omega) rfl)).trans (rfl)
            have b134_ : 0 ≤ F 352 (2 * z68_).toNat ∧ F 352 (2 * z68_).toNat ≤ 4 := gi_g hgi rfl
            refine ga_iald (z := 2 * z68_) (w := F 352 (2 * z68_).toNat) hm_174 rfl sc_352 (by omega) (by omega) (by omega) ((fl_u_ne (by omega)).trans ((fl_u_ne (by omega)).trans (e133_))) ?_
            obtain ⟨F135_, q136_⟩ : ∃ F9_, F9_ = (fl_u (fl_u F20_ 344 5 (F 344 5 + 1)) 362 ll.toNat z68_) := ⟨_, rfl⟩
            rw [← q136_]
            have g137_ : gi F135_ := by rw [q136_]; exact gi_u (gi_u (g21_) rfl (by omega) (by omega)) rfl (by omega) (by omega)
            have g138_ : fs [(344, 344, 5, 5), (344, 344, 9, 10), (362, 363, 0, 100000)] F F135_ := by rw [q136_]; exact fs_u (fs_u (g64_) rfl) (fs_z (fs_z (fs_y (by omega))))
            have rk139_ : rk K F135_ := by rw [q136_]; exact rk_u (rk_u (rk65_) (by omega) (by omega)) (by omega) (by omega)
            have e140_ : F135_ 344 5 = F 344 5 + 1 := by rw [q136_]; exact (fl_u_ne (by omega)).trans (fl_u_eq)
            refine gVi (nY := 6) (F := 3) (L := 66) (As := [.int (Int32.ofInt a), .int (Int32.ofInt (F 352 (2 * z68_).toNat))]) (b := 344) (rest := [.int (Int32.ofInt (2 * ll)), .ref 363]) hm_174 rfl hm_185 rfl rfl (fl_ob sc_344) rfl rfl rfl rfl rfl (by omega) (by omega) (mc_185 hG F135_ X g137_ (K) (a) (F 352 (2 * z68_).toNat) (k) ((ps.getD (z68_).toNat []).getD 0 0) (l) (tl) hgK rk139_ hkt (by omega) ((by rw [q136_]; exact (trm_u (trm_u (trm_fs ht s22_ (fun r j hj => (fs_n (by omega) rfl))) (by omega)) (by omega)))) (hlt) (by have h9 := hg0 (by omega); omega) (by omega)) (fun _ _ h => False.elim h) ?_
            have e142_ : F135_ 344 10 = F20_ 344 10 := by rw [q136_]; exact (fl_u_ne (by omega)).trans (fl_u_ne (by omega))
            have b143_ : 0 ≤ F20_ 344 10 ∧ F20_ 344 10 ≤ 600 := gi_g g21_ rfl
            have e144_ : F135_ 344 9 = F20_ 344 9 := by rw [q136_]; exact (fl_u_ne (by omega)).trans (fl_u_ne (by omega))
            rintro z141_ A1_ (⟨F149_, hA_, g150_, s151_, c145_, c146_, c147_, c148_⟩ | ⟨F156_, hA_, g157_, s158_, c152_, c153_, c154_, c155_⟩)
            ·
              subst hA_
              have g159_ : fs [(344, 344, 5, 5), (344, 344, 9, 10), (362, 363, 0, 100000)] F F149_ := fs_tr g138_ s151_ rfl
              have rk160_ : rk K F149_ := rk_fs rk139_ s151_ (fun r k h => (fs_n (by omega) (fs_n (by omega) rfl))) (fs_n (by omega) (fs_n (by omega) rfl))
              try simp only [e140_, e142_, e144_] at c146_
              have c146_s := c146_.1 (by omega)
              clear c146_
              refine fl_iast (z := 2 * ll) (v := z141_) hm_174 rfl sc_363 (by omega) (by omega) (by omega) ?_
              refine ga_inc (a := 0) (c := 1) (lv2 := [(6, .int (Int32.ofInt 1)), (5, .int (Int32.ofInt z68_)), (3, .long (Int64.ofInt z4_)), (0, .ref 344), (1, .int (Int32.ofInt a)), (2, .int (Int32.ofInt ll))]) hm_174 rfl rfl (Nat.le_of_ble_eq_true rfl) (by omega) rfl ?_
              refine fl_goto hm_174 rfl ?_
              refine ga_iload (z := 1) hm_174 rfl rfl ?_
              refine ga_aload_n (v := .ref 344) hm_174 rfl rfl rfl ?_
              refine ga_getr (b := 351) hm_174 rfl sc_344 rfl ?_
              refine ga_iload (z := z68_) hm_174 rfl rfl ?_
              have e161_ : F135_ 351 z68_.toNat = F 351 z68_.toNat := by rw [q136_]; exact (fl_u_ne (by omega)).trans ((fl_u_ne (by omega)).trans (e98_))
              have e162_ : F149_ 351 z68_.toNat = F 351 z68_.toNat := (s151_ 351 z68_.toNat (fs_n (by omega) (fs_n (by omega) rfl))).trans (e161_)
              refine ga_iald (z := z68_) (w := F 351 z68_.toNat) hm_174 rfl sc_351 (by omega) (by omega) (by omega) ((fl_u_ne (by omega)).trans (e162_)) ?_
              refine fl_icmp_ge (a := 1) (b := F 351 z68_.toNat) hm_174 rfl ⟨by omega, by omega⟩ ⟨by omega, by omega⟩ (fun h163_ => ?_) (fun h164_ => ?_)
              ·
                refine ga_aload_n (v := .ref 344) hm_174 rfl rfl rfl ?_
                refine fl_bipush hm_174 rfl rfl ?_
                obtain ⟨F165_, q166_⟩ : ∃ F9_, F9_ = (fl_u F149_ 363 (2 * ll).toNat z141_) := ⟨_, rfl⟩
                rw [← q166_]
                have g167_ : gi F165_ := by rw [q166_]; exact gi_u (g150_) rfl (by omega) (by omega)
                have g168_ : fs [(344, 344, 5, 5), (344, 344, 9, 10), (362, 363, 0, 100000)] F F165_ := by rw [q166_]; exact fs_u (g159_) (fs_z (fs_z (fs_y (by omega))))
                have rk169_ : rk K F165_ := by rw [q166_]; exact rk_u (rk160_) (by omega) (by omega)
                have e170_ : F165_ 344 5 = F149_ 344 5 := by rw [q166_]; exact fl_u_ne (by omega)
                have b171_ : 0 ≤ F149_ 344 5 ∧ F149_ 344 5 ≤ 600 := gi_g g150_ rfl
                refine gVv (nY := 2) (F := 2) (L := 41) (As := [.int (Int32.ofInt 41)]) (b := 344) (rest := []) hm_174 rfl hm_51 rfl rfl (fl_ob sc_344) rfl rfl rfl rfl rfl (by omega) (by omega) (mc_51 hG F165_ X g167_ (K) (41) (1) hgK rk169_ hkt (by omega) (by omega) (by omega)) (fun _ _ h => False.elim h) ?_
                have e173_ : F165_ 344 10 = F149_ 344 10 := by rw [q166_]; exact fl_u_ne (by omega)
                have b174_ : 0 ≤ F149_ 344 10 ∧ F149_ 344 10 ≤ 600 := gi_g g150_ rfl
                have e175_ : F165_ 344 9 = F149_ 344 9 := by rw [q166_]; exact fl_u_ne (by omega)
                have b176_ : 0 ≤ F149_ 344 9 ∧ F149_ 344 9 ≤ 5 := gi_g g150_ rfl
                rintro A1_ (⟨F180_, hA_, g181_, s182_, c177_, c178_, c179_⟩ | ⟨F186_, hA_, g187_, s188_, c183_, c184_, c185_⟩)
                ·
                  subst hA_
                  have g189_ : fs [(344, 344, 5, 5), (344, 344, 9, 10), (362, 363, 0, 100000)] F F180_ := fs_tr g168_ s182_ rfl
                  have rk190_ : rk K F180_ := rk_fs rk169_ s182_ (fun r k h => (fs_n (by omega) (fs_n (by omega) rfl))) (fs_n (by omega) (fs_n (by omega) rfl))
                  try simp only [e170_, e173_, e175_] at c178_
                  have c178_k := c178_.2 (by omega)
                  clear c178_
                  refine gr_v hm_174 rfl rfl ?_
                  have b191_ : 0 ≤ F180_ 344 9 ∧ F180_ 344 9 ≤ 5 := gi_g g181_ rfl
                  have b192_ : 0 ≤ F180_ 344 10 ∧ F180_ 344 10 ≤ 600 := gi_g g181_ rfl
                  have b193_ : 0 ≤ F180_ 344 5 ∧ F180_ 344 5 ≤ 600 := gi_g g181_ rfl
                  exact Or.inl ⟨F180_, rfl, g181_, g189_, (by omega), (⟨by intro h0_; have hs_ := c146_s; rw [spa_go (by omega) (ra_fi (by have x_ := (rpn_fs hpl s22_ (fun _ => (fs_n (by omega) rfl)) (fs_n (by omega) rfl)); rw [e66_] at x_; exact x_) c16_ c69_ c70_ c71_) (by omega) rfl, (show sk K (F 344 5) = F 344 5 + 1 by rw [sk, if_pos (by omega)])]; rw [if_pos (by omega), hs_]; show Sum.inl _ = _; congr 2 <;> omega, fun h0_ => by exfalso; omega⟩), (by omega)⟩
                exfalso; omega
              refine ga_aload_n (v := .ref 344) hm_174 rfl rfl rfl ?_
              refine ga_getr (b := 363) hm_174 rfl sc_344 rfl ?_
              refine fl_iconst hm_174 rfl ?_
              refine ga_iload_n (z := ll) hm_174 rfl rfl ?_
              refine ga_imul (a := 2) (b := ll) (c := 2 * ll) hm_174 rfl (by omega) ?_
              refine ga_iload (z := 1) hm_174 rfl rfl ?_
              refine ga_iadd (a := 2 * ll) (b := 1) (c := 2 * ll + 1) hm_174 rfl (by omega) ?_
              refine ga_aload_n (v := .ref 344) hm_174 rfl rfl rfl ?_
              refine ga_iload_n (z := a) hm_174 rfl rfl ?_
              refine ga_aload_n (v := .ref 344) hm_174 rfl rfl rfl ?_
              refine ga_getr (b := 352) hm_174 rfl sc_344 rfl ?_
              refine fl_iconst hm_174 rfl ?_
              refine ga_iload (z := z68_) hm_174 rfl rfl ?_
              refine ga_imul (a := 2) (b := z68_) (c := 2 * z68_) hm_174 rfl (by omega) ?_
              refine ga_iload (z := 1) hm_174 rfl rfl ?_
              refine ga_iadd (a := 2 * z68_) (b := 1) (c := 2 * z68_ + 1) hm_174 rfl (by omega) ?_
              have e194_ : F20_ 352 (2 * z68_ + 1).toNat = F 352 (2 * z68_ + 1).toNat := (s22_ 352 (2 * z68_ + 1).toNat (fs_n (by omega) rfl)).trans (rfl)
              have e195_ : F135_ 352 (2 * z68_ + 1).toNat = F 352 (2 * z68_ + 1).toNat := by rw [q136_]; exact (fl_u_ne (by omega)).trans ((fl_u_ne (by omega)).trans (e194_))
              have e196_ : F149_ 352 (2 * z68_ + 1).toNat = F 352 (2 * z68_ + 1).toNat := (s151_ 352 (2 * z68_ + 1).toNat (fs_n (by omega) (fs_n (by omega) rfl))).trans (e195_)
              have b197_ : 0 ≤ F 352 (2 * z68_ + 1).toNat ∧ F 352 (2 * z68_ + 1).toNat ≤ 4 := gi_g hgi rfl
              refine ga_iald (z := 2 * z68_ + 1) (w := F 352 (2 * z68_ + 1).toNat) hm_174 rfl sc_352 (by omega) (by omega) (by omega) ((fl_u_ne (by omega)).trans (e196_)) ?_
              obtain ⟨F198_, q199_⟩ : ∃ F9_, F9_ = (fl_u F149_ 363 (2 * ll).toNat z141_) := ⟨_, rfl⟩
              rw [← q199_]
              have g200_ : gi F198_ := by rw [q199_]; exact gi_u (g150_) rfl (by omega) (by omega)
              have g201_ : fs [(344, 344, 5, 5), (344, 344, 9, 10), (362, 363, 0, 100000)] F F198_ := by rw [q199_]; exact fs_u (g159_) (fs_z (fs_z (fs_y (by omega))))
              have rk202_ : rk K F198_ := by rw [q199_]; exact rk_u (rk160_) (by omega) (by omega)
              have e203_ : F198_ 344 5 = F149_ 344 5 := by rw [q199_]; exact fl_u_ne (by omega)
              have b204_ : 0 ≤ F149_ 344 5 ∧ F149_ 344 5 ≤ 600 := gi_g g150_ rfl
              refine gVi (nY := 6) (F := 3) (L := 66) (As := [.int (Int32.ofInt a), .int (Int32.ofInt (F 352 (2 * z68_ + 1).toNat))]) (b := 344) (rest := [.int (Int32.ofInt (2 * ll + 1)), .ref 363]) hm_174 rfl hm_185 rfl rfl (fl_ob sc_344) rfl rfl rfl rfl rfl (by omega) (by omega) (mc_185 hG F198_ X g200_ (K) (a) (F 352 (2 * z68_ + 1).toNat) (k) ((ps.getD (z68_).toNat []).getD 1 0) (l) (tl) hgK rk202_ hkt (by omega) ((by rw [q199_]; exact (trm_u (trm_fs (by rw [q136_]; exact (trm_u (trm_u (trm_fs ht s22_ (fun r j hj => (fs_n (by omega) rfl))) (by omega)) (by omega))) s151_ (fun r j hj => (fs_n (by omega) (fs_n (by omega) rfl)))) (by omega)))) (hlt) (by have h9 := hg1 (by omega); omega) (by omega)) (fun _ _ h => False.elim h) ?_
              have e206_ : F198_ 344 10 = F149_ 344 10 := by rw [q199_]; exact fl_u_ne (by omega)
              have b207_ : 0 ≤ F149_ 344 10 ∧ F149_ 344 10 ≤ 600 := gi_g g150_ rfl
              have e208_ : F198_ 344 9 = F149_ 344 9 := by rw [q199_]; exact fl_u_ne (by omega)
              have b209_ : 0 ≤ F149_ 344 9 ∧ F149_ 344 9 ≤ 5 := gi_g g150_ rfl
              rintro z205_ A1_ (⟨F214_, hA_, g215_, s216_, c210_, c211_, c212_, c213_⟩ | ⟨F221_, hA_, g222_, s223_, c217_, c218_, c219_, c220_⟩)
              ·
                subst hA_
                have g224_ : fs [(344, 344, 5, 5), (344, 344, 9, 10), (362, 363, 0, 100000)] F F214_ := fs_tr g201_ s216_ rfl
                have rk225_ : rk K F214_ := rk_fs rk202_ s216_ (fun r k h => (fs_n (by omega) (fs_n (by omega) rfl))) (fs_n (by omega) (fs_n (by omega) rfl))
                try simp only [e203_, e206_, e208_] at c211_
                have c211_k := c211_.2 (by omega)
                clear c211_
                refine fl_iast (z := 2 * ll + 1) (v := z205_) hm_174 rfl sc_363 (by omega) (by omega) (by omega) ?_
                refine ga_inc (a := 1) (c := 2) (lv2 := [(6, .int (Int32.ofInt 2)), (5, .int (Int32.ofInt z68_)), (3, .long (Int64.ofInt z4_)), (0, .ref 344), (1, .int (Int32.ofInt a)), (2, .int (Int32.ofInt ll))]) hm_174 rfl rfl (Nat.le_of_ble_eq_true rfl) (by omega) rfl ?_
                refine fl_goto hm_174 rfl ?_
                refine ga_iload (z := 2) hm_174 rfl rfl ?_
                refine ga_aload_n (v := .ref 344) hm_174 rfl rfl rfl ?_
                refine ga_getr (b := 351) hm_174 rfl sc_344 rfl ?_
                refine ga_iload (z := z68_) hm_174 rfl rfl ?_
                have e226_ : F198_ 351 z68_.toNat = F 351 z68_.toNat := by rw [q199_]; exact (fl_u_ne (by omega)).trans (e162_)
                have e227_ : F214_ 351 z68_.toNat = F 351 z68_.toNat := (s216_ 351 z68_.toNat (fs_n (by omega) (fs_n (by omega) rfl))).trans (e226_)
                refine ga_iald (z := z68_) (w := F 351 z68_.toNat) hm_174 rfl sc_351 (by omega) (by omega) (by omega) ((fl_u_ne (by omega)).trans (e227_)) ?_
                refine fl_icmp_ge (a := 2) (b := F 351 z68_.toNat) hm_174 rfl ⟨by omega, by omega⟩ ⟨by omega, by omega⟩ (fun h228_ => ?_) (fun h229_ => ?_)
                ·
                  refine ga_aload_n (v := .ref 344) hm_174 rfl rfl rfl ?_
                  refine fl_bipush hm_174 rfl rfl ?_
                  obtain ⟨F230_, q231_⟩ : ∃ F9_, F9_ = (fl_u F214_ 363 (2 * ll + 1).toNat z205_) := ⟨_, rfl⟩
                  rw [← q231_]
                  have g232_ : gi F230_ := by rw [q231_]; exact gi_u (g215_) rfl (by omega) (by omega)
                  have g233_ : fs [(344, 344, 5, 5), (344, 344, 9, 10), (362, 363, 0, 100000)] F F230_ := by rw [q231_]; exact fs_u (g224_) (fs_z (fs_z (fs_y (by omega))))
                  have rk234_ : rk K F230_ := by rw [q231_]; exact rk_u (rk225_) (by omega) (by omega)
                  have e235_ : F230_ 344 5 = F214_ 344 5 := by rw [q231_]; exact fl_u_ne (by omega)
                  have b236_ : 0 ≤ F214_ 344 5 ∧ F214_ 344 5 ≤ 600 := gi_g g215_ rfl
                  refine gVv (nY := 2) (F := 2) (L := 41) (As := [.int (Int32.ofInt 41)]) (b := 344) (rest := []) hm_174 rfl hm_51 rfl rfl (fl_ob sc_344) rfl rfl rfl rfl rfl (by omega) (by omega) (mc_51 hG F230_ X g232_ (K) (41) (1) hgK rk234_ hkt (by omega) (by omega) (by omega)) (fun _ _ h => False.elim h) ?_
                  have e238_ : F230_ 344 10 = F214_ 344 10 := by rw [q231_]; exact fl_u_ne (by omega)
                  have b239_ : 0 ≤ F214_ 344 10 ∧ F214_ 344 10 ≤ 600 := gi_g g215_ rfl
                  have e240_ : F230_ 344 9 = F214_ 344 9 := by rw [q231_]; exact fl_u_ne (by omega)
                  have b241_ : 0 ≤ F214_ 344 9 ∧ F214_ 344 9 ≤ 5 := gi_g g215_ rfl
                  rintro A1_ (⟨F245_, hA_, g246_, s247_, c242_, c243_, c244_⟩ | ⟨F251_, hA_, g252_, s253_, c248_, c249_, c250_⟩)
                  ·
                    subst hA_
                    have g254_ : fs [(344, 344, 5, 5), (344, 344, 9, 10), (362, 363, 0, 100000)] F F245_ := fs_tr g233_ s247_ rfl
                    have rk255_ : rk K F245_ := rk_fs rk234_ s247_ (fun r k h => (fs_n (by omega) (fs_n (by omega) rfl))) (fs_n (by omega) (fs_n (by omega) rfl))
                    try simp only [e235_, e238_, e240_] at c243_
                    have c243_k := c243_.2 (by omega)
                    clear c243_
                    refine gr_v hm_174 rfl rfl ?_
                    have b256_ : 0 ≤ F245_ 344 9 ∧ F245_ 344 9 ≤ 5 := gi_g g246_ rfl
                    have b257_ : 0 ≤ F245_ 344 10 ∧ F245_ 344 10 ≤ 600 := gi_g g246_ rfl
                    have b258_ : 0 ≤ F245_ 344 5 ∧ F245_ 344 5 ≤ 600 := gi_g g246_ rfl
                    exact Or.inl ⟨F245_, rfl, g246_, g254_, (by omega), (⟨by intro h0_; have hs_ := c146_s; rw [spa_go (by omega) (ra_fi (by have x_ := (rpn_fs hpl s22_ (fun _ => (fs_n (by omega) rfl)) (fs_n (by omega) rfl)); rw [e66_] at x_; exact x_) c16_ c69_ c70_ c71_) (by omega) rfl, (show sk K (F 344 5) = F 344 5 + 1 by rw [sk, if_pos (by omega)])]; rw [if_pos (by omega), hs_]; show Sum.inl _ = _; congr 2 <;> omega, fun h0_ => by exfalso; omega⟩), (by omega)⟩
                  exfalso; omega
                exfalso; omega
              exfalso; omega
            subst hA_
            have g259_ : fs [(344, 344, 5, 5), (344, 344, 9, 10), (362, 363, 0, 100000)] F F156_ := fs_tr g138_ s158_ rfl
            have rk260_ : rk K F156_ := rk_fs rk139_ s158_ (fun r k h => (fs_n (by omega) (fs_n (by omega) rfl))) (fs_n (by omega) (fs_n (by omega) rfl))
            try simp only [e144_] at c152_
            try simp only [e140_] at c153_
            refine fl_iast (z := 2 * ll) (v := z141_) hm_174 rfl sc_363 (by omega) (by omega) (by omega) ?_
            refine ga_inc (a := 0) (c := 1) (lv2 := [(6, .int (Int32.ofInt 1)), (5, .int (Int32.ofInt z68_)), (3, .long (Int64.ofInt z4_)), (0, .ref 344), (1, .int (Int32.ofInt a)), (2, .int (Int32.ofInt ll))]) hm_174 rfl rfl (Nat.le_of_ble_eq_true rfl) (by omega) rfl ?_
            refine fl_goto hm_174 rfl ?_
            refine ga_iload (z := 1) hm_174 rfl rfl ?_
            refine ga_aload_n (v := .ref 344) hm_174 rfl rfl rfl ?_
            refine ga_getr (b := 351) hm_174 rfl sc_344 rfl ?_
            refine ga_iload (z := z68_) hm_174 rfl rfl ?_
            have e261_ : F135_ 351 z68_.toNat = F 351 z68_.toNat := by rw [q136_]; exact (fl_u_ne (by omega)).trans ((fl_u_ne (by omega)).trans (e98_))
            have e262_ : F156_ 351 z68_.toNat = F 351 z68_.toNat := (s158_ 351 z68_.toNat (fs_n (by omega) (fs_n (by omega) rfl))).trans (e261_)
            refine ga_iald (z := z68_) (w := F 351 z68_.toNat) hm_174 rfl sc_351 (by omega) (by omega) (by omega) ((fl_u_ne (by omega)).trans (e262_)) ?_
            refine fl_icmp_ge (a := 1) (b := F 351 z68_.toNat) hm_174 rfl ⟨by omega, by omega⟩ ⟨by omega, by omega⟩ (fun h263_ => ?_) (fun h264_ => ?_)
            ·
              refine ga_aload_n (v := .ref 344) hm_174 rfl rfl rfl ?_
              refine fl_bipush hm_174 rfl rfl ?_
              obtain ⟨F265_, q266_⟩ : ∃ F9_, F9_ = (fl_u F156_ 363 (2 * ll).toNat z141_) := ⟨_, rfl⟩
              rw [← q266_]
              have g267_ : gi F265_ := by rw [q266_]; exact gi_u (g157_) rfl (by omega) (by omega)
              have g268_ : fs [(344, 344, 5, 5), (344, 344, 9, 10), (362, 363, 0, 100000)] F F265_ := by rw [q266_]; exact fs_u (g259_) (fs_z (fs_z (fs_y (by omega))))
              have rk269_ : rk K F265_ := by rw [q266_]; exact rk_u (rk260_) (by omega) (by omega)
              have e270_ : F265_ 344 5 = F156_ 344 5 := by rw [q266_]; exact fl_u_ne (by omega)
              have b271_ : 0 ≤ F156_ 344 5 ∧ F156_ 344 5 ≤ 600 := gi_g g157_ rfl
              refine gVv (nY := 2) (F := 2) (L := 41) (As := [.int (Int32.ofInt 41)]) (b := 344) (rest := []) hm_174 rfl hm_51 rfl rfl (fl_ob sc_344) rfl rfl rfl rfl rfl (by omega) (by omega) (mc_51 hG F265_ X g267_ (K) (41) (1) hgK rk269_ hkt (by omega) (by omega) (by omega)) (fun _ _ h => False.elim h) ?_
              have e273_ : F265_ 344 10 = F156_ 344 10 := by rw [q266_]; exact fl_u_ne (by omega)
              have b274_ : 0 ≤ F156_ 344 10 ∧ F156_ 344 10 ≤ 600 := gi_g g157_ rfl
              have e275_ : F265_ 344 9 = F156_ 344 9 := by rw [q266_]; exact fl_u_ne (by omega)
              have b276_ : 0 ≤ F156_ 344 9 ∧ F156_ 344 9 ≤ 5 := gi_g g157_ rfl
              rintro A1_ (⟨F280_, hA_, g281_, s282_, c277_, c278_, c279_⟩ | ⟨F286_, hA_, g287_, s288_, c283_, c284_, c285_⟩)
              ·
                subst hA_
                have g289_ : fs [(344, 344, 5, 5), (344, 344, 9, 10), (362, 363, 0, 100000)] F F280_ := fs_tr g268_ s282_ rfl
                have rk290_ : rk K F280_ := rk_fs rk269_ s282_ (fun r k h => (fs_n (by omega) (fs_n (by omega) rfl))) (fs_n (by omega) (fs_n (by omega) rfl))
                try simp only [e270_, e273_, e275_] at c278_
                have c278_s := c278_.1 (by omega)
                clear c278_
                refine gr_v hm_174 rfl rfl ?_
                have b291_ : 0 ≤ F280_ 344 9 ∧ F280_ 344 9 ≤ 5 := gi_g g281_ rfl
                have b292_ : 0 ≤ F280_ 344 10 ∧ F280_ 344 10 ≤ 600 := gi_g g281_ rfl
                have b293_ : 0 ≤ F280_ 344 5 ∧ F280_ 344 5 ≤ 600 := gi_g g281_ rfl
                exact Or.inl ⟨F280_, rfl, g281_, g289_, (by omega), (⟨by intro h0_; have hs_ := c278_s; rw [spa_go (by omega) (ra_fi (by have x_ := (rpn_fs hpl s22_ (fun _ => (fs_n (by omega) rfl)) (fs_n (by omega) rfl)); rw [e66_] at x_; exact x_) c16_ c69_ c70_ c71_) (by omega) rfl, (show sk K (F 344 5) = F 344 5 + 1 by rw [sk, if_pos (by omega)])]; rw [if_pos (by omega), c153_, pb_r]; rw [if_neg (by omega), pb_r]; rw [hs_]; try (congr 2 <;> omega), fun h0_ => by exfalso; omega⟩), (by omega)⟩
              subst hA_
              have g294_ : fs [(344, 344, 5, 5), (344, 344, 9, 10), (362, 363, 0, 100000)] F F286_ := fs_tr g268_ s288_ rfl
              have rk295_ : rk K F286_ := rk_fs rk269_ s288_ (fun r k h => (fs_n (by omega) (fs_n (by omega) rfl))) (fs_n (by omega) (fs_n (by omega) rfl))
              try simp only [e275_] at c283_
              try simp only [e270_] at c284_
              refine gr_v hm_174 rfl rfl ?_
              have b296_ : 0 ≤ F286_ 344 9 ∧ F286_ 344 9 ≤ 5 := gi_g g287_ rfl
              have b297_ : 0 ≤ F286_ 344 5 ∧ F286_ 344 5 ≤ 600 := gi_g g287_ rfl
              exact Or.inr (⟨F286_, rfl, g287_, g294_, (by omega), (by rw [spa_go (by omega) (ra_fi (by have x_ := (rpn_fs hpl s22_ (fun _ => (fs_n (by omega) rfl)) (fs_n (by omega) rfl)); rw [e66_] at x_; exact x_) c16_ c69_ c70_ c71_) (by omega) rfl, (show sk K (F 344 5) = F 344 5 + 1 by rw [sk, if_pos (by omega)])]; rw [if_pos (by omega), c153_, pb_r]; rw [if_neg (by omega), pb_r]; rw [c284_]), (by omega)⟩)
            refine ga_aload_n (v := .ref 344) hm_174 rfl rfl rfl ?_
            refine ga_getr (b := 363) hm_174 rfl sc_344 rfl ?_
            refine fl_iconst hm_174 rfl ?_
            refine ga_iload_n (z := ll) hm_174 rfl rfl ?_
            refine ga_imul (a := 2) (b := ll) (c := 2 * ll) hm_174 rfl (by omega) ?_
            refine ga_iload (z := 1) hm_174 rfl rfl ?_
            refine ga_iadd (a := 2 * ll) (b := 1) (c := 2 * ll + 1) hm_174 rfl (by omega) ?_
            refine ga_aload_n (v := .ref 344) hm_174 rfl rfl rfl ?_
            refine ga_iload_n (z := a) hm_174 rfl rfl ?_
            refine ga_aload_n (v := .ref 344) hm_174 rfl rfl rfl ?_
            refine ga_getr (b := 352) hm_174 rfl sc_344 rfl ?_
            refine fl_iconst hm_174 rfl ?_
            refine ga_iload (z := z68_) hm_174 rfl rfl ?_
            refine ga_imul (a := 2) (b := z68_) (c := 2 * z68_) hm_174 rfl (by omega) ?_
            refine ga_iload (z := 1) hm_174 rfl rfl ?_
            refine ga_iadd (a := 2 * z68_) (b := 1) (c := 2 * z68_ + 1) hm_174 rfl (by omega) ?_
            have e298_ : F20_ 352 (2 * z68_ + 1).toNat = F 352 (2 * z68_ + 1).toNat := (s22_ 352 (2 * z68_ + 1).toNat (fs_n (by omega) rfl)).trans (rfl)
            have e299_ : F135_ 352 (2 * z68_ + 1).toNat = F 352 (2 * z68_ + 1).toNat := by rw [q136_]; exact (fl_u_ne (by omega)).trans ((fl_u_ne (by omega)).trans (e298_))
            have e300_ : F156_ 352 (2 * z68_ + 1).toNat = F 352 (2 * z68_ + 1).toNat := (s158_ 352 (2 * z68_ + 1).toNat (fs_n (by omega) (fs_n (by omega) rfl))).trans (e299_)
            have b301_ : 0 ≤ F 352 (2 * z68_ + 1).toNat ∧ F 352 (2 * z68_ + 1).toNat ≤ 4 := gi_g hgi rfl
            refine ga_iald (z := 2 * z68_ + 1) (w := F 352 (2 * z68_ + 1).toNat) hm_174 rfl sc_352 (by omega) (by omega) (by omega) ((fl_u_ne (by omega)).trans (e300_)) ?_
            obtain ⟨F302_, q303_⟩ : ∃ F9_, F9_ = (fl_u F156_ 363 (2 * ll).toNat z141_) := ⟨_, rfl⟩
            rw [← q303_]
            have g304_ : gi F302_ := by rw [q303_]; exact gi_u (g157_) rfl (by omega) (by omega)
            have g305_ : fs [(344, 344, 5, 5), (344, 344, 9, 10), (362, 363, 0, 100000)] F F302_ := by rw [q303_]; exact fs_u (g259_) (fs_z (fs_z (fs_y (by omega))))
            have rk306_ : rk K F302_ := by rw [q303_]; exact rk_u (rk260_) (by omega) (by omega)
            have e307_ : F302_ 344 5 = F156_ 344 5 := by rw [q303_]; exact fl_u_ne (by omega)
            have b308_ : 0 ≤ F156_ 344 5 ∧ F156_ 344 5 ≤ 600 := gi_g g157_ rfl
            refine gVi (nY := 6) (F := 3) (L := 66) (As := [.int (Int32.ofInt a), .int (Int32.ofInt (F 352 (2 * z68_ + 1).toNat))]) (b := 344) (rest := [.int (Int32.ofInt (2 * ll + 1)), .ref 363]) hm_174 rfl hm_185 rfl rfl (fl_ob sc_344) rfl rfl rfl rfl rfl (by omega) (by omega) (mc_185 hG F302_ X g304_ (K) (a) (F 352 (2 * z68_ + 1).toNat) (k) ((ps.getD (z68_).toNat []).getD 1 0) (l) (tl) hgK rk306_ hkt (by omega) ((by rw [q303_]; exact (trm_u (trm_fs (by rw [q136_]; exact (trm_u (trm_u (trm_fs ht s22_ (fun r j hj => (fs_n (by omega) rfl))) (by omega)) (by omega))) s158_ (fun r j hj => (fs_n (by omega) (fs_n (by omega) rfl)))) (by omega)))) (hlt) (by have h9 := hg1 (by omega); omega) (by omega)) (fun _ _ h => False.elim h) ?_
            have e310_ : F302_ 344 10 = F156_ 344 10 := by rw [q303_]; exact fl_u_ne (by omega)
            have b311_ : 0 ≤ F156_ 344 10 ∧ F156_ 344 10 ≤ 600 := gi_g g157_ rfl
            have e312_ : F302_ 344 9 = F156_ 344 9 := by rw [q303_]; exact fl_u_ne (by omega)
            have b313_ : 0 ≤ F156_ 344 9 ∧ F156_ 344 9 ≤ 5 := gi_g g157_ rfl
            rintro z309_ A1_ (⟨F318_, hA_, g319_, s320_, c314_, c315_, c316_, c317_⟩ | ⟨F325_, hA_, g326_, s327_, c321_, c322_, c323_, c324_⟩)
            ·
              subst hA_
              have g328_ : fs [(344, 344, 5, 5), (344, 344, 9, 10), (362, 363, 0, 100000)] F F318_ := fs_tr g305_ s320_ rfl
              have rk329_ : rk K F318_ := rk_fs rk306_ s320_ (fun r k h => (fs_n (by omega) (fs_n (by omega) rfl))) (fs_n (by omega) (fs_n (by omega) rfl))
              try simp only [e307_, e310_, e312_] at c315_
              have c315_s := c315_.1 (by omega)
              clear c315_
              refine fl_iast (z := 2 * ll + 1) (v := z309_) hm_174 rfl sc_363 (by omega) (by omega) (by omega) ?_
              refine ga_inc (a := 1) (c := 2) (lv2 := [(6, .int (Int32.ofInt 2)), (5, .int (Int32.ofInt z68_)), (3, .long (Int64.ofInt z4_)), (0, .ref 344), (1, .int (Int32.ofInt a)), (2, .int (Int32.ofInt ll))]) hm_174 rfl rfl (Nat.le_of_ble_eq_true rfl) (by omega) rfl ?_
              refine fl_goto hm_174 rfl ?_
              refine ga_iload (z := 2) hm_174 rfl rfl ?_
              refine ga_aload_n (v := .ref 344) hm_174 rfl rfl rfl ?_
              refine ga_getr (b := 351) hm_174 rfl sc_344 rfl ?_
              refine ga_iload (z := z68_) hm_174 rfl rfl ?_
              have e330_ : F302_ 351 z68_.toNat = F 351 z68_.toNat := by rw [q303_]; exact (fl_u_ne (by omega)).trans (e262_)
              have e331_ : F318_ 351 z68_.toNat = F 351 z68_.toNat := (s320_ 351 z68_.toNat (fs_n (by omega) (fs_n (by omega) rfl))).trans (e330_)
              refine ga_iald (z := z68_) (w := F 351 z68_.toNat) hm_174 rfl sc_351 (by omega) (by omega) (by omega) ((fl_u_ne (by omega)).trans (e331_)) ?_
              refine fl_icmp_ge (a := 2) (b := F 351 z68_.toNat) hm_174 rfl ⟨by omega, by omega⟩ ⟨by omega, by omega⟩ (fun h332_ => ?_) (fun h333_ => ?_)
              ·
                refine ga_aload_n (v := .ref 344) hm_174 rfl rfl rfl ?_
                refine fl_bipush hm_174 rfl rfl ?_
                obtain ⟨F334_, q335_⟩ : ∃ F9_, F9_ = (fl_u F318_ 363 (2 * ll + 1).toNat z309_) := ⟨_, rfl⟩
                rw [← q335_]
                have g336_ : gi F334_ := by rw [q335_]; exact gi_u (g319_) rfl (by omega) (by omega)
                have g337_ : fs [(344, 344, 5, 5), (344, 344, 9, 10), (362, 363, 0, 100000)] F F334_ := by rw [q335_]; exact fs_u (g328_) (fs_z (fs_z (fs_y (by omega))))
                have rk338_ : rk K F334_ := by rw [q335_]; exact rk_u (rk329_) (by omega) (by omega)
                have e339_ : F334_ 344 5 = F318_ 344 5 := by rw [q335_]; exact fl_u_ne (by omega)
                have b340_ : 0 ≤ F318_ 344 5 ∧ F318_ 344 5 ≤ 600 := gi_g g319_ rfl
                refine gVv (nY := 2) (F := 2) (L := 41) (As := [.int (Int32.ofInt 41)]) (b := 344) (rest := []) hm_174 rfl hm_51 rfl rfl (fl_ob sc_344) rfl rfl rfl rfl rfl (by omega) (by omega) (mc_51 hG F334_ X g336_ (K) (41) (1) hgK rk338_ hkt (by omega) (by omega) (by omega)) (fun _ _ h => False.elim h) ?_
                have e342_ : F334_ 344 10 = F318_ 344 10 := by rw [q335_]; exact fl_u_ne (by omega)
                have b343_ : 0 ≤ F318_ 344 10 ∧ F318_ 344 10 ≤ 600 := gi_g g319_ rfl
                have e344_ : F334_ 344 9 = F318_ 344 9 := by rw [q335_]; exact fl_u_ne (by omega)
                have b345_ : 0 ≤ F318_ 344 9 ∧ F318_ 344 9 ≤ 5 := gi_g g319_ rfl
                rintro A1_ (⟨F349_, hA_, g350_, s351_, c346_, c347_, c348_⟩ | ⟨F355_, hA_, g356_, s357_, c352_, c353_, c354_⟩)
                ·
                  subst hA_
                  have g358_ : fs [(344, 344, 5, 5), (344, 344, 9, 10), (362, 363, 0, 100000)] F F349_ := fs_tr g337_ s351_ rfl
                  have rk359_ : rk K F349_ := rk_fs rk338_ s351_ (fun r k h => (fs_n (by omega) (fs_n (by omega) rfl))) (fs_n (by omega) (fs_n (by omega) rfl))
                  try simp only [e339_, e342_, e344_] at c347_
                  have c347_k := c347_.2 (by omega)
                  clear c347_
                  refine gr_v hm_174 rfl rfl ?_
                  have b360_ : 0 ≤ F349_ 344 9 ∧ F349_ 344 9 ≤ 5 := gi_g g350_ rfl
                  have b361_ : 0 ≤ F349_ 344 10 ∧ F349_ 344 10 ≤ 600 := gi_g g350_ rfl
                  have b362_ : 0 ≤ F349_ 344 5 ∧ F349_ 344 5 ≤ 600 := gi_g g350_ rfl
                  exact Or.inl ⟨F349_, rfl, g350_, g358_, (by omega), (⟨by intro h0_; have hs_ := c315_s; rw [spa_go (by omega) (ra_fi (by have x_ := (rpn_fs hpl s22_ (fun _ => (fs_n (by omega) rfl)) (fs_n (by omega) rfl)); rw [e66_] at x_; exact x_) c16_ c69_ c70_ c71_) (by omega) rfl, (show sk K (F 344 5) = F 344 5 + 1 by rw [sk, if_pos (by omega)])]; rw [if_pos (by omega), c153_, pb_r]; rw [if_pos (by omega), hs_]; show Sum.inl _ = _; congr 2 <;> omega, fun h0_ => by exfalso; omega⟩), (by omega)⟩
                exfalso; omega
              exfalso; omega
            subst hA_
            have g363_ : fs [(344, 344, 5, 5), (344, 344, 9, 10), (362, 363, 0, 100000)] F F325_ := fs_tr g305_ s327_ rfl
            have rk364_ : rk K F325_ := rk_fs rk306_ s327_ (fun r k h => (fs_n (by omega) (fs_n (by omega) rfl))) (fs_n (by omega) (fs_n (by omega) rfl))
            try simp only [e312_] at c321_
            try simp only [e307_] at c322_
            refine fl_iast (z := 2 * ll + 1) (v := z309_) hm_174 rfl sc_363 (by omega) (by omega) (by omega) ?_
            refine ga_inc (a := 1) (c := 2) (lv2 := [(6, .int (Int32.ofInt 2)), (5, .int (Int32.ofInt z68_)), (3, .long (Int64.ofInt z4_)), (0, .ref 344), (1, .int (Int32.ofInt a)), (2, .int (Int32.ofInt ll))]) hm_174 rfl rfl (Nat.le_of_ble_eq_true rfl) (by omega) rfl ?_
            refine fl_goto hm_174 rfl ?_
            refine ga_iload (z := 2) hm_174 rfl rfl ?_
            refine ga_aload_n (v := .ref 344) hm_174 rfl rfl rfl ?_
            refine ga_getr (b := 351) hm_174 rfl sc_344 rfl ?_
            refine ga_iload (z := z68_) hm_174 rfl rfl ?_
            have e365_ : F302_ 351 z68_.toNat = F 351 z68_.toNat := by rw [q303_]; exact (fl_u_ne (by omega)).trans (e262_)
            have e366_ : F325_ 351 z68_.toNat = F 351 z68_.toNat := (s327_ 351 z68_.toNat (fs_n (by omega) (fs_n (by omega) rfl))).trans (e365_)
            refine ga_iald (z := z68_) (w := F 351 z68_.toNat) hm_174 rfl sc_351 (by omega) (by omega) (by omega) ((fl_u_ne (by omega)).trans (e366_)) ?_
            refine fl_icmp_ge (a := 2) (b := F 351 z68_.toNat) hm_174 rfl ⟨by omega, by omega⟩ ⟨by omega, by omega⟩ (fun h367_ => ?_) (fun h368_ => ?_)
            ·
              refine ga_aload_n (v := .ref 344) hm_174 rfl rfl rfl ?_
              refine fl_bipush hm_174 rfl rfl ?_
              obtain ⟨F369_, q370_⟩ : ∃ F9_, F9_ = (fl_u F325_ 363 (2 * ll + 1).toNat z309_) := ⟨_, rfl⟩
              rw [← q370_]
              have g371_ : gi F369_ := by rw [q370_]; exact gi_u (g326_) rfl (by omega) (by omega)
              have g372_ : fs [(344, 344, 5, 5), (344, 344, 9, 10), (362, 363, 0, 100000)] F F369_ := by rw [q370_]; exact fs_u (g363_) (fs_z (fs_z (fs_y (by omega))))
              have rk373_ : rk K F369_ := by rw [q370_]; exact rk_u (rk364_) (by omega) (by omega)
              have e374_ : F369_ 344 5 = F325_ 344 5 := by rw [q370_]; exact fl_u_ne (by omega)
              have b375_ : 0 ≤ F325_ 344 5 ∧ F325_ 344 5 ≤ 600 := gi_g g326_ rfl
              refine gVv (nY := 2) (F := 2) (L := 41) (As := [.int (Int32.ofInt 41)]) (b := 344) (rest := []) hm_174 rfl hm_51 rfl rfl (fl_ob sc_344) rfl rfl rfl rfl rfl (by omega) (by omega) (mc_51 hG F369_ X g371_ (K) (41) (1) hgK rk373_ hkt (by omega) (by omega) (by omega)) (fun _ _ h => False.elim h) ?_
              have e377_ : F369_ 344 10 = F325_ 344 10 := by rw [q370_]; exact fl_u_ne (by omega)
              have b378_ : 0 ≤ F325_ 344 10 ∧ F325_ 344 10 ≤ 600 := gi_g g326_ rfl
              have e379_ : F369_ 344 9 = F325_ 344 9 := by rw [q370_]; exact fl_u_ne (by omega)
              have b380_ : 0 ≤ F325_ 344 9 ∧ F325_ 344 9 ≤ 5 := gi_g g326_ rfl
              rintro A1_ (⟨F384_, hA_, g385_, s386_, c381_, c382_, c383_⟩ | ⟨F390_, hA_, g391_, s392_, c387_, c388_, c389_⟩)
              ·
                subst hA_
                have g393_ : fs [(344, 344, 5, 5), (344, 344, 9, 10), (362, 363, 0, 100000)] F F384_ := fs_tr g372_ s386_ rfl
                have rk394_ : rk K F384_ := rk_fs rk373_ s386_ (fun r k h => (fs_n (by omega) (fs_n (by omega) rfl))) (fs_n (by omega) (fs_n (by omega) rfl))
                try simp only [e374_, e377_, e379_] at c382_
                have c382_s := c382_.1 (by omega)
                clear c382_
                refine gr_v hm_174 rfl rfl ?_
                have b395_ : 0 ≤ F384_ 344 9 ∧ F384_ 344 9 ≤ 5 := gi_g g385_ rfl
                have b396_ : 0 ≤ F384_ 344 10 ∧ F384_ 344 10 ≤ 600 := gi_g g385_ rfl
                have b397_ : 0 ≤ F384_ 344 5 ∧ F384_ 344 5 ≤ 600 := gi_g g385_ rfl
                exact Or.inl ⟨F384_, rfl, g385_, g393_, (by omega), (⟨by intro h0_; have hs_ := c382_s; rw [spa_go (by omega) (ra_fi (by have x_ := (rpn_fs hpl s22_ (fun _ => (fs_n (by omega) rfl)) (fs_n (by omega) rfl)); rw [e66_] at x_; exact x_) c16_ c69_ c70_ c71_) (by omega) rfl, (show sk K (F 344 5) = F 344 5 + 1 by rw [sk, if_pos (by omega)])]; rw [if_pos (by omega), c153_, pb_r]; rw [if_pos (by omega), c322_, pb_r]; rw [hs_]; try (congr 2 <;> omega), fun h0_ => by exfalso; omega⟩), (by omega)⟩
              subst hA_
              have g398_ : fs [(344, 344, 5, 5), (344, 344, 9, 10), (362, 363, 0, 100000)] F F390_ := fs_tr g372_ s392_ rfl
              have rk399_ : rk K F390_ := rk_fs rk373_ s392_ (fun r k h => (fs_n (by omega) (fs_n (by omega) rfl))) (fs_n (by omega) (fs_n (by omega) rfl))
              try simp only [e379_] at c387_
              try simp only [e374_] at c388_
              refine gr_v hm_174 rfl rfl ?_
              have b400_ : 0 ≤ F390_ 344 9 ∧ F390_ 344 9 ≤ 5 := gi_g g391_ rfl
              have b401_ : 0 ≤ F390_ 344 5 ∧ F390_ 344 5 ≤ 600 := gi_g g391_ rfl
              exact Or.inr (⟨F390_, rfl, g391_, g398_, (by omega), (by rw [spa_go (by omega) (ra_fi (by have x_ := (rpn_fs hpl s22_ (fun _ => (fs_n (by omega) rfl)) (fs_n (by omega) rfl)); rw [e66_] at x_; exact x_) c16_ c69_ c70_ c71_) (by omega) rfl, (show sk K (F 344 5) = F 344 5 + 1 by rw [sk, if_pos (by omega)])]; rw [if_pos (by omega), c153_, pb_r]; rw [if_pos (by omega), c322_, pb_r]; rw [c388_]), (by omega)⟩)
            exfalso; omega
          exfalso; omega
        exfalso; omega
      refine ga_aload_n (v := .ref 344) hm_174 rfl rfl rfl ?_
      refine fl_iconst hm_174 rfl ?_
      have e402_ : F20_ 344 5 = F 344 5 := (s22_ 344 5 rfl).trans (rfl)
      refine gVv (nY := 2) (F := 0) (L := 0) (As := [.int (Int32.ofInt 3)]) (b := 344) (rest := []) hm_174 rfl hm_54 rfl rfl (fl_ob sc_344) rfl rfl rfl rfl rfl (by omega) (by omega) (mc_54 hG F20_ X g21_ (K) (3) hgK rk65_ hkt (by omega) (by omega)) (fun _ _ h => False.elim h) ?_
      have b404_ : 0 ≤ F20_ 344 10 ∧ F20_ 344 10 ≤ 600 := gi_g g21_ rfl
      rintro A1_ ⟨F408_, hA_, g409_, s410_, c405_, c406_, c407_⟩
      subst hA_
      have g411_ : fs [(344, 344, 5, 5), (344, 344, 9, 10), (362, 363, 0, 100000)] F F408_ := fs_tr g64_ s410_ rfl
      have rk412_ : rk K F408_ := rk_fs rk65_ s410_ (fun r k h => (fs_n (by omega) rfl)) (fs_n (by omega) rfl)
      try simp only [e402_] at c406_
      try simp only [e402_] at c407_
      have c406_s := c406_.1 (by omega)
      clear c406_
      refine ga_aload_n (v := .ref 344) hm_174 rfl rfl rfl ?_
      refine gIv (nY := 1) (F := 1) (L := 20) (As := []) (b := 344) (rest := []) hm_174 rfl hm_61 rfl rfl (fl_ob sc_344) rfl rfl rfl rfl rfl (by omega) (by omega) ?_
      intro f413_ l414_ h415_ h416_
      show fl_R xi_ms 61 f413_ l414_ 0 [(0, .ref 344)] [] _ _
      refine ga_aload_n (v := .ref 344) hm_61 rfl rfl rfl ?_
      refine ga_dup hm_61 rfl rfl ?_
      have e417_ : F408_ 344 5 = F 344 5 := (s410_ 344 5 rfl).trans (e402_)
      refine ga_geti (z := F 344 5) hm_61 rfl sc_344 rfl (e417_) ?_
      refine ga_aload_n (v := .ref 344) hm_61 rfl rfl rfl ?_
      refine gIi (nY := 1) (F := 0) (L := 0) (As := []) (b := 344) (rest := [.int (Int32.ofInt (F 344 5)), .ref 344]) hm_61 rfl hm_59 rfl rfl (fl_ob sc_344) rfl rfl rfl rfl rfl (by omega) (by omega) ?_
      intro f418_ l419_ h420_ h421_
      show fl_R xi_ms 59 f418_ l419_ 0 [(0, .ref 344)] [] _ _
      refine ga_aload_n (v := .ref 344) hm_59 rfl rfl rfl ?_
      have b422_ : 0 ≤ F408_ 344 9 ∧ F408_ 344 9 ≤ 5 := gi_g g409_ rfl
      refine ga_geti (z := F408_ 344 9) hm_59 rfl sc_344 rfl (rfl) ?_
      refine fl_if_le (a := F408_ 344 9) hm_59 rfl ⟨by omega, by omega⟩ (fun h423_ => ?_) (fun h424_ => ?_)
      · exfalso; omega
      refine fl_iconst hm_59 rfl ?_
      refine fl_goto hm_59 rfl ?_
      refine gr_i hm_59 rfl rfl (ga_nb (by omega)) ?_
      clear h420_ h421_ f418_ l419_
      refine fl_if_eq hm_61 rfl ⟨by omega, by omega⟩ (fun h => absurd h (by omega)) (fun _ => ?_)
      refine fl_iconst hm_61 rfl ?_
      refine fl_goto hm_61 rfl ?_
      refine ga_iadd (a := F 344 5) (b := 0) (c := F 344 5) hm_61 rfl (by omega) ?_
      refine ga_puti (z := F 344 5) hm_61 rfl sc_344 rfl rfl ?_
      refine gr_v hm_61 rfl rfl ?_
      clear h415_ h416_ f413_ l414_
      refine ga_aload_n (v := .ref 344) hm_174 rfl rfl rfl ?_
      refine gIi (nY := 1) (F := 0) (L := 0) (As := []) (b := 344) (rest := []) hm_174 rfl hm_59 rfl rfl (fl_ob sc_344) rfl rfl rfl rfl rfl (by omega) (by omega) ?_
      intro f425_ l426_ h427_ h428_
      show fl_R xi_ms 59 f425_ l426_ 0 [(0, .ref 344)] [] _ _
      refine ga_aload_n (v := .ref 344) hm_59 rfl rfl rfl ?_
      refine ga_geti (z := F408_ 344 9) hm_59 rfl sc_344 rfl (fl_u_ne (by omega)) ?_
      refine fl_if_le (a := F408_ 344 9) hm_59 rfl ⟨by omega, by omega⟩ (fun h429_ => ?_) (fun h430_ => ?_)
      · exfalso; omega
      refine fl_iconst hm_59 rfl ?_
      refine fl_goto hm_59 rfl ?_
      refine gr_i hm_59 rfl rfl (ga_nb (by omega)) ?_
      clear h427_ h428_ f425_ l426_
      refine fl_if_eq hm_174 rfl ⟨by omega, by omega⟩ (fun h => absurd h (by omega)) (fun _ => ?_)
      obtain ⟨F431_, q432_⟩ : ∃ F9_, F9_ = (fl_u F408_ 344 5 (F 344 5)) := ⟨_, rfl⟩
      rw [← q432_]
      have g433_ : gi F431_ := by rw [q432_]; exact gi_u (g409_) rfl (by omega) (by omega)
      have g434_ : fs [(344, 344, 5, 5), (344, 344, 9, 10), (362, 363, 0, 100000)] F F431_ := by rw [q432_]; exact fs_u (g411_) rfl
      have rk435_ : rk K F431_ := by rw [q432_]; exact rk_u (rk412_) (by omega) (by omega)
      refine gr_v hm_174 rfl rfl ?_
      have e436_ : F431_ 344 9 = F408_ 344 9 := by rw [q432_]; exact fl_u_ne (by omega)
      have e437_ : F431_ 344 10 = F408_ 344 10 := by rw [q432_]; exact fl_u_ne (by omega)
      have e438_ : F431_ 344 5 = F 344 5 := by rw [q432_]; exact fl_u_eq
      have b439_ : 0 ≤ F408_ 344 10 ∧ F408_ 344 10 ≤ 600 := gi_g g409_ rfl
      exact Or.inl ⟨F431_, rfl, g433_, g434_, (by omega), (⟨by intro h0_; have hs_ := c406_s; rw [sp_atom, if_pos (by omega), (ra_fi (by have x_ := (rpn_fs hpl s22_ (fun _ => (fs_n (by omega) rfl)) (fs_n (by omega) rfl)); rw [e66_] at x_; exact x_) c16_ c69_ c70_ c71_), if_pos (by omega)]; show Sum.inl (3, K 4 _) = _; congr 2 <;> omega, fun h0_ => by exfalso; omega⟩), (by omega)⟩
    exfalso; omega
  refine ga_aload_n (v := .ref 344) hm_174 rfl rfl rfl ?_
  have b440_ : 0 ≤ F 344 5 ∧ F 344 5 ≤ 600 := gi_g hgi rfl
  refine gVl (nY := 3) (F := 2) (L := 46) (As := []) (b := 344) (rest := []) hm_174 rfl hm_58 rfl rfl (fl_ob sc_344) rfl rfl rfl rfl rfl (by omega) (by omega) (mc_58 hG F X hgi (K) hgK hrk hkt (by omega)) (fun _ _ h => False.elim h) ?_
  have b442_ : 0 ≤ F 344 10 ∧ F 344 10 ≤ 600 := gi_g hgi rfl
  rintro z441_ A1_ (⟨F447_, hA_, g448_, s449_, c443_, c444_, c445_, c446_⟩ | ⟨F457_, hA_, g458_, s459_, c450_, c451_, c452_, c453_, c454_, c455_, c456_⟩)
  ·
    subst hA_
    have g460_ : fs [(344, 344, 5, 5), (344, 344, 9, 10), (362, 363, 0, 100000)] F F447_ := fs_tr fs_refl s449_ rfl
    have rk461_ : rk K F447_ := rk_fs hrk s449_ (fun r k h => (fs_n (by omega) rfl)) (fs_n (by omega) rfl)
    have c444_k := c444_.2 (by omega)
    clear c444_
    refine ga_lstore_n (lv2 := [(3, .long (Int64.ofInt z441_)), (0, .ref 344), (1, .int (Int32.ofInt a)), (2, .int (Int32.ofInt ll))]) hm_174 rfl (Nat.le_of_ble_eq_true rfl) rfl ?_
    refine ga_aload_n (v := .ref 344) hm_174 rfl rfl rfl ?_
    refine ga_getr (b := 350) hm_174 rfl sc_344 rfl ?_
    refine fl_iconst hm_174 rfl ?_
    refine ga_aload_n (v := .ref 344) hm_174 rfl rfl rfl ?_
    have e462_ : F447_ 344 17 = F 344 17 := (s449_ 344 17 rfl).trans (rfl)
    have b463_ : 0 ≤ F 344 17 ∧ F 344 17 ≤ 6 := gi_g hgi rfl
    refine ga_geti (z := F 344 17) hm_174 rfl sc_344 rfl (e462_) ?_
    refine ga_lload_n (z := z441_) hm_174 rfl rfl ?_
    refine gSi (nY := 7) (F := 0) (L := 0) (As := [.ref 350, .int (Int32.ofInt 0), .int (Int32.ofInt (F 344 17)), .long (Int64.ofInt z441_)]) (rest := []) hm_174 rfl hm_162 rfl rfl (fl_pos sc_0) rfl rfl rfl rfl (by omega) (by omega) (mc_162 hG F447_ X g448_ (350) (6) (0) (F 344 17) (z441_) sc_350 (fun _ => rfl) (by omega) (by omega))  ?_
    rintro z464_ A1_ ⟨hA_, c465_, c466_, c467_⟩
    subst hA_
    refine ga_istore (lv2 := [(5, .int (Int32.ofInt z464_)), (3, .long (Int64.ofInt z441_)), (0, .ref 344), (1, .int (Int32.ofInt a)), (2, .int (Int32.ofInt ll))]) hm_174 rfl (Nat.le_of_ble_eq_true rfl) rfl ?_
    refine ga_aload_n (v := .ref 344) hm_174 rfl rfl rfl ?_
    refine gIi (nY := 1) (F := 0) (L := 0) (As := []) (b := 344) (rest := []) hm_174 rfl hm_59 rfl rfl (fl_ob sc_344) rfl rfl rfl rfl rfl (by omega) (by omega) ?_
    intro f468_ l469_ h470_ h471_
    show fl_R xi_ms 59 f468_ l469_ 0 [(0, .ref 344)] [] _ _
    refine ga_aload_n (v := .ref 344) hm_59 rfl rfl rfl ?_
    have b472_ : 0 ≤ F447_ 344 9 ∧ F447_ 344 9 ≤ 5 := gi_g g448_ rfl
    refine ga_geti (z := F447_ 344 9) hm_59 rfl sc_344 rfl (rfl) ?_
    refine fl_if_le (a := F447_ 344 9) hm_59 rfl ⟨by omega, by omega⟩ (fun h473_ => ?_) (fun h474_ => ?_)
    · exfalso; omega
    refine fl_iconst hm_59 rfl ?_
    refine fl_goto hm_59 rfl ?_
    refine gr_i hm_59 rfl rfl (ga_nb (by omega)) ?_
    clear h470_ h471_ f468_ l469_
    refine fl_if_ne hm_174 rfl ⟨by omega, by omega⟩ (fun _ => ?_) (fun h => absurd (by omega) h)
    refine ga_aload_n (v := .ref 344) hm_174 rfl rfl rfl ?_
    refine gIv (nY := 1) (F := 1) (L := 20) (As := []) (b := 344) (rest := []) hm_174 rfl hm_61 rfl rfl (fl_ob sc_344) rfl rfl rfl rfl rfl (by omega) (by omega) ?_
    intro f475_ l476_ h477_ h478_
    show fl_R xi_ms 61 f475_ l476_ 0 [(0, .ref 344)] [] _ _
    refine ga_aload_n (v := .ref 344) hm_61 rfl rfl rfl ?_
    refine ga_dup hm_61 rfl rfl ?_
    have e479_ : F447_ 344 5 = F 344 5 := (s449_ 344 5 rfl).trans (rfl)
    refine ga_geti (z := F 344 5) hm_61 rfl sc_344 rfl (e479_) ?_
    refine ga_aload_n (v := .ref 344) hm_61 rfl rfl rfl ?_
    refine gIi (nY := 1) (F := 0) (L := 0) (As := []) (b := 344) (rest := [.int (Int32.ofInt (F 344 5)), .ref 344]) hm_61 rfl hm_59 rfl rfl (fl_ob sc_344) rfl rfl rfl rfl rfl (by omega) (by omega) ?_
    intro f480_ l481_ h482_ h483_
    show fl_R xi_ms 59 f480_ l481_ 0 [(0, .ref 344)] [] _ _
    refine ga_aload_n (v := .ref 344) hm_59 rfl rfl rfl ?_
    refine ga_geti (z := F447_ 344 9) hm_59 rfl sc_344 rfl (rfl) ?_
    refine fl_if_le (a := F447_ 344 9) hm_59 rfl ⟨by omega, by omega⟩ (fun h484_ => ?_) (fun h485_ => ?_)
    · exfalso; omega
    refine fl_iconst hm_59 rfl ?_
    refine fl_goto hm_59 rfl ?_
    refine gr_i hm_59 rfl rfl (ga_nb (by omega)) ?_
    clear h482_ h483_ f480_ l481_
    refine fl_if_eq hm_61 rfl ⟨by omega, by omega⟩ (fun h => absurd h (by omega)) (fun _ => ?_)
    refine fl_iconst hm_61 rfl ?_
    refine fl_goto hm_61 rfl ?_
    refine ga_iadd (a := F 344 5) (b := 0) (c := F 344 5) hm_61 rfl (by omega) ?_
    refine ga_puti (z := F 344 5) hm_61 rfl sc_344 rfl rfl ?_
    refine gr_v hm_61 rfl rfl ?_
    clear h477_ h478_ f475_ l476_
    refine ga_aload_n (v := .ref 344) hm_174 rfl rfl rfl ?_
    refine gIi (nY := 1) (F := 0) (L := 0) (As := []) (b := 344) (rest := []) hm_174 rfl hm_59 rfl rfl (fl_ob sc_344) rfl rfl rfl rfl rfl (by omega) (by omega) ?_
    intro f486_ l487_ h488_ h489_
    show fl_R xi_ms 59 f486_ l487_ 0 [(0, .ref 344)] [] _ _
    refine ga_aload_n (v := .ref 344) hm_59 rfl rfl rfl ?_
    refine ga_geti (z := F447_ 344 9) hm_59 rfl sc_344 rfl (fl_u_ne (by omega)) ?_
    refine fl_if_le (a := F447_ 344 9) hm_59 rfl ⟨by omega, by omega⟩ (fun h490_ => ?_) (fun h491_ => ?_)
    · exfalso; omega
    refine fl_iconst hm_59 rfl ?_
    refine fl_goto hm_59 rfl ?_
    refine gr_i hm_59 rfl rfl (ga_nb (by omega)) ?_
    clear h488_ h489_ f486_ l487_
    refine fl_if_eq hm_174 rfl ⟨by omega, by omega⟩ (fun h => absurd h (by omega)) (fun _ => ?_)
    obtain ⟨F492_, q493_⟩ : ∃ F9_, F9_ = (fl_u F447_ 344 5 (F 344 5)) := ⟨_, rfl⟩
    rw [← q493_]
    have g494_ : gi F492_ := by rw [q493_]; exact gi_u (g448_) rfl (by omega) (by omega)
    have g495_ : fs [(344, 344, 5, 5), (344, 344, 9, 10), (362, 363, 0, 100000)] F F492_ := by rw [q493_]; exact fs_u (g460_) rfl
    have rk496_ : rk K F492_ := by rw [q493_]; exact rk_u (rk461_) (by omega) (by omega)
    refine gr_v hm_174 rfl rfl ?_
    have e497_ : F492_ 344 9 = F447_ 344 9 := by rw [q493_]; exact fl_u_ne (by omega)
    have e498_ : F492_ 344 10 = F447_ 344 10 := by rw [q493_]; exact fl_u_ne (by omega)
    have e499_ : F492_ 344 5 = F 344 5 := by rw [q493_]; exact fl_u_eq
    have b500_ : 0 ≤ F447_ 344 10 ∧ F447_ 344 10 ≤ 600 := gi_g g448_ rfl
    exact Or.inl ⟨F492_, rfl, g494_, g495_, (by omega), (⟨fun h0_ => by exfalso; omega, fun h0_ => by constructor <;> omega⟩), (by omega)⟩
  exfalso; omega

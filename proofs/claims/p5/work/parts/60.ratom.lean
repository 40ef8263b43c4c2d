/- CheapPlannerModel.readAtom -/
abbrev pq_174 (G : Nat → Nat → Option Nat) (F : fl_N) (X : xi_H) (K : fl_N) (a ll k : Int) (l tl pl : List Int) (ps : List (List Int)) : Outcome → xi_H → Prop := gqv (fun A => (∃ F' : fl_N, fl_H sh_T G F' ++ X = A ∧ gi F' ∧ fs [(344, 344, 5, 5), (344, 344, 9, 10), (362, 363, 0, 100000)] F F' ∧ (¬ F' 344 9 = 0) ∧ ((F 344 9 = 0 → sp_atom K k l tl pl ps (F 344 5) = .inl (F' 344 9, F' 344 10)) ∧ (¬ F 344 9 = 0 → F' 344 9 = F 344 9 ∧ F' 344 10 = F 344 10)) ∧ (0 ≤ F' 344 5 ∧ F' 344 5 ≤ K 1 6 - 1)) ∨ (∃ F' : fl_N, fl_H sh_T G F' ++ X = A ∧ gi F' ∧ fs [(344, 344, 5, 5), (344, 344, 9, 10), (362, 363, 0, 100000)] F F' ∧ (F' 344 9 = 0 ∧ F 344 9 = 0) ∧ (sp_atom K k l tl pl ps (F 344 5) = .inr (F' 344 5)) ∧ (0 ≤ F' 344 5 ∧ F' 344 5 ≤ K 1 6 - 1))) gqn
set_option maxHeartbeats 16000000 in
theorem mc_174 {G : Nat → Nat → Option Nat} (hG : gg G) (F : fl_N) (X : xi_H) (hgi : gi F) (K : fl_N) (a ll k : Int) (l tl pl : List Int) (ps : List (List Int)) (hgK : gi K) (hrk : rk K F) (hkt : rkt K) (hp : 0 ≤ F 344 5 ∧ F 344 5 ≤ K 1 6 - 1) (ht : trm F a k l tl) (hlt : l.length = tl.length) (ha : 0 ≤ a ∧ a ≤ 5) (hpl : rpn (F 350) (F 344 17) pl) (hps : rprd F ps ∧ ps.length = pl.length) (hll : 0 ≤ ll ∧ ll ≤ 43) (hla : rla a ll) : fl_M xi_ms 174 4 91 [.ref 344, .int (Int32.ofInt a), .int (Int32.ofInt ll)] (fl_H sh_T G F ++ X) (pq_174 G F X K a ll k l tl pl ps) := by
  intro fr lo hfr hlo
  show fl_R xi_ms 174 fr lo 0 [(0, .ref 344), (1, .int (Int32.ofInt a)), (2, .int (Int32.ofInt ll))] [] _ _
  have hP := (rkt_p hkt hp.1 hp.2 hgK).1
  have hK16 : 0 ≤ K 1 6 ∧ K 1 6 ≤ 601 := gi_g hgK rfl
  have hko := hkt.1
  have hpl1 := hpl.1
  have hb17 : 0 ≤ F 344 17 ∧ F 344 17 ≤ 6 := gi_g hgi rfl
  have b1_ : 0 ≤ F 344 9 ∧ F 344 9 ≤ 5 := gi_g hgi rfl
  by_cases h2_ : F 344 9 = 0
  ·
    refine ga_aload_n (v := .ref 344) hm_174 rfl rfl rfl ?_
    have b3_ : 0 ≤ F 344 5 ∧ F 344 5 ≤ 600 := gi_g hgi rfl
    refine gVl (nY := 3) (F := 2) (L := 46) (As := []) (b := 344) (rest := []) hm_174 rfl hm_58 rfl rfl (fl_ob sc_344) rfl rfl rfl rfl rfl (by omega) (by omega) (mc_58 hG F X hgi (K) hgK hrk hkt (by omega)) (fun _ _ h => False.elim h) ?_
    have b5_ : 0 ≤ F 344 10 ∧ F 344 10 ≤ 600 := gi_g hgi rfl
    rintro z4_ A1_ (⟨F10_, hA_, g11_, s12_, c6_, c7_, c8_, c9_⟩ | ⟨F20_, hA_, g21_, s22_, c13_, c14_, c15_, c16_, c17_, c18_, c19_⟩)
    ·
      subst hA_
      have g23_ : fs [(344, 344, 5, 5), (344, 344, 9, 10), (362, 363, 0, 100000)] F F10_ := fs_tr fs_refl s12_ rfl
      have rk24_ : rk K F10_ := rk_fs hrk s12_ (fun r k h => (fs_n (by omega) rfl)) (fs_n (by omega) rfl)
      have c7_s := c7_.1 (by omega)
      clear c7_
      refine ga_lstore_n (lv2 := [(3, .long (Int64.ofInt z4_)), (0, .ref 344), (1, .int (Int32.ofInt a)), (2, .int (Int32.ofInt ll))]) hm_174 rfl (Nat.le_of_ble_eq_true rfl) rfl ?_
      refine ga_aload_n (v := .ref 344) hm_174 rfl rfl rfl ?_
      refine ga_getr (b := 350) hm_174 rfl sc_344 rfl ?_
      refine fl_iconst hm_174 rfl ?_
      refine ga_aload_n (v := .ref 344) hm_174 rfl rfl rfl ?_
      have e25_ : F10_ 344 17 = F 344 17 := (s12_ 344 17 rfl).trans (rfl)
      have b26_ : 0 ≤ F 344 17 ∧ F 344 17 ≤ 6 := gi_g hgi rfl
      refine ga_geti (z := F 344 17) hm_174 rfl sc_344 rfl (e25_) ?_
      refine ga_lload_n (z := z4_) hm_174 rfl rfl ?_
      refine gSi (nY := 7) (F := 0) (L := 0) (As := [.ref 350, .int (Int32.ofInt 0), .int (Int32.ofInt (F 344 17)), .long (Int64.ofInt z4_)]) (rest := []) hm_174 rfl hm_162 rfl rfl (fl_pos sc_0) rfl rfl rfl rfl (by omega) (by omega) (mc_162 hG F10_ X g11_ (350) (6) (0) (F 344 17) (z4_) sc_350 (fun _ => rfl) (by omega) (by omega))  ?_
      rintro z27_ A1_ ⟨hA_, c28_, c29_, c30_⟩
      subst hA_
      refine ga_istore (lv2 := [(5, .int (Int32.ofInt z27_)), (3, .long (Int64.ofInt z4_)), (0, .ref 344), (1, .int (Int32.ofInt a)), (2, .int (Int32.ofInt ll))]) hm_174 rfl (Nat.le_of_ble_eq_true rfl) rfl ?_
      refine ga_aload_n (v := .ref 344) hm_174 rfl rfl rfl ?_
      refine gIi (nY := 1) (F := 0) (L := 0) (As := []) (b := 344) (rest := []) hm_174 rfl hm_59 rfl rfl (fl_ob sc_344) rfl rfl rfl rfl rfl (by omega) (by omega) ?_
      intro f31_ l32_ h33_ h34_
      show fl_R xi_ms 59 f31_ l32_ 0 [(0, .ref 344)] [] _ _
      refine ga_aload_n (v := .ref 344) hm_59 rfl rfl rfl ?_
      have b35_ : 0 ≤ F10_ 344 9 ∧ F10_ 344 9 ≤ 5 := gi_g g11_ rfl
      refine ga_geti (z := F10_ 344 9) hm_59 rfl sc_344 rfl (rfl) ?_
      refine fl_if_le (a := F10_ 344 9) hm_59 rfl ⟨by omega, by omega⟩ (fun h36_ => ?_) (fun h37_ => ?_)
      · exfalso; omega
      refine fl_iconst hm_59 rfl ?_
      refine fl_goto hm_59 rfl ?_
      refine gr_i hm_59 rfl rfl (ga_nb (by omega)) ?_
      clear h33_ h34_ f31_ l32_
      refine fl_if_ne hm_174 rfl ⟨by omega, by omega⟩ (fun _ => ?_) (fun h => absurd (by omega) h)
      refine ga_aload_n (v := .ref 344) hm_174 rfl rfl rfl ?_
      refine gIv (nY := 1) (F := 1) (L := 20) (As := []) (b := 344) (rest := []) hm_174 rfl hm_61 rfl rfl (fl_ob sc_344) rfl rfl rfl rfl rfl (by omega) (by omega) ?_
      intro f38_ l39_ h40_ h41_
      show fl_R xi_ms 61 f38_ l39_ 0 [(0, .ref 344)] [] _ _
      refine ga_aload_n (v := .ref 344) hm_61 rfl rfl rfl ?_
      refine ga_dup hm_61 rfl rfl ?_
      have e42_ : F10_ 344 5 = F 344 5 := (s12_ 344 5 rfl).trans (rfl)
      refine ga_geti (z := F 344 5) hm_61 rfl sc_344 rfl (e42_) ?_
      refine ga_aload_n (v := .ref 344) hm_61 rfl rfl rfl ?_
      refine gIi (nY := 1) (F := 0) (L := 0) (As := []) (b := 344) (rest := [.int (Int32.ofInt (F 344 5)), .ref 344]) hm_61 rfl hm_59 rfl rfl (fl_ob sc_344) rfl rfl rfl rfl rfl (by omega) (by omega) ?_
      intro f43_ l44_ h45_ h46_
      show fl_R xi_ms 59 f43_ l44_ 0 [(0, .ref 344)] [] _ _
      refine ga_aload_n (v := .ref 344) hm_59 rfl rfl rfl ?_
      refine ga_geti (z := F10_ 344 9) hm_59 rfl sc_344 rfl (rfl) ?_
      refine fl_if_le (a := F10_ 344 9) hm_59 rfl ⟨by omega, by omega⟩ (fun h47_ => ?_) (fun h48_ => ?_)
      · exfalso; omega
      refine fl_iconst hm_59 rfl ?_
      refine fl_goto hm_59 rfl ?_
      refine gr_i hm_59 rfl rfl (ga_nb (by omega)) ?_
      clear h45_ h46_ f43_ l44_
      refine fl_if_eq hm_61 rfl ⟨by omega, by omega⟩ (fun h => absurd h (by omega)) (fun _ => ?_)
      refine fl_iconst hm_61 rfl ?_
      refine fl_goto hm_61 rfl ?_
      refine ga_iadd (a := F 344 5) (b := 0) (c := F 344 5) hm_61 rfl (by omega) ?_
      refine ga_puti (z := F 344 5) hm_61 rfl sc_344 rfl rfl ?_
      refine gr_v hm_61 rfl rfl ?_
      clear h40_ h41_ f38_ l39_
      refine ga_aload_n (v := .ref 344) hm_174 rfl rfl rfl ?_
      refine gIi (nY := 1) (F := 0) (L := 0) (As := []) (b := 344) (rest := []) hm_174 rfl hm_59 rfl rfl (fl_ob sc_344) rfl rfl rfl rfl rfl (by omega) (by omega) ?_
      intro f49_ l50_ h51_ h52_
      show fl_R xi_ms 59 f49_ l50_ 0 [(0, .ref 344)] [] _ _
      refine ga_aload_n (v := .ref 344) hm_59 rfl rfl rfl ?_
      refine ga_geti (z := F10_ 344 9) hm_59 rfl sc_344 rfl (fl_u_ne (by omega)) ?_
      refine fl_if_le (a := F10_ 344 9) hm_59 rfl ⟨by omega, by omega⟩ (fun h53_ => ?_) (fun h54_ => ?_)
      · exfalso; omega
      refine fl_iconst hm_59 rfl ?_
      refine fl_goto hm_59 rfl ?_
      refine gr_i hm_59 rfl rfl (ga_nb (by omega)) ?_
      clear h51_ h52_ f49_ l50_
      refine fl_if_eq hm_174 rfl ⟨by omega, by omega⟩ (fun h => absurd h (by omega)) (fun _ => ?_)
      obtain ⟨F55_, q56_⟩ : ∃ F9_, F9_ = (fl_u F10_ 344 5 (F 344 5)) := ⟨_, rfl⟩
      rw [← q56_]
      have g57_ : gi F55_ := by rw [q56_]; exact gi_u (g11_) rfl (by omega) (by omega)
      have g58_ : fs [(344, 344, 5, 5), (344, 344, 9, 10), (362, 363, 0, 100000)] F F55_ := by rw [q56_]; exact fs_u (g23_) rfl
      have rk59_ : rk K F55_ := by rw [q56_]; exact rk_u (rk24_) (by omega) (by omega)
      refine gr_v hm_174 rfl rfl ?_
      have e60_ : F55_ 344 9 = F10_ 344 9 := by rw [q56_]; exact fl_u_ne (by omega)
      have e61_ : F55_ 344 10 = F10_ 344 10 := by rw [q56_]; exact fl_u_ne (by omega)
      have e62_ : F55_ 344 5 = F 344 5 := by rw [q56_]; exact fl_u_eq
      have b63_ : 0 ≤ F10_ 344 10 ∧ F10_ 344 10 ≤ 600 := gi_g g11_ rfl
      exact Or.inl ⟨F55_, rfl, g57_, g58_, (by omega), (⟨by intro h0_; have hs_ := c7_s; have h1_ := nm_no hs_; rw [sp_nm, if_neg h1_] at hs_; have h2_ := Prod.mk.inj (Sum.inl.inj hs_); rw [sp_atom, if_neg h1_]; show Sum.inl (1, K 4 _) = _; congr 2 <;> omega, fun h0_ => by exfalso; omega⟩), (by omega)⟩
    subst hA_
    have g64_ : fs [(344, 344, 5, 5), (344, 344, 9, 10), (362, 363, 0, 100000)] F F20_ := fs_tr fs_refl s22_ rfl
    have rk65_ : rk K F20_ := rk_fs hrk s22_ (fun r k h => (fs_n (by omega) rfl)) (fs_n (by omega) rfl)
    refine ga_lstore_n (lv2 := [(3, .long (Int64.ofInt z4_)), (0, .ref 344), (1, .int (Int32.ofInt a)), (2, .int (Int32.ofInt ll))]) hm_174 rfl (Nat.le_of_ble_eq_true rfl) rfl ?_
    refine ga_aload_n (v := .ref 344) hm_174 rfl rfl rfl ?_
    refine ga_getr (b := 350) hm_174 rfl sc_344 rfl ?_
    refine fl_iconst hm_174 rfl ?_
    refine ga_aload_n (v := .ref 344) hm_174 rfl rfl rfl ?_
    have e66_ : F20_ 344 17 = F 344 17 := (s22_ 344 17 rfl).trans (rfl)
    have b67_ : 0 ≤ F 344 17 ∧ F 344 17 ≤ 6 := gi_g hgi rfl
    refine ga_geti (z := F 344 17) hm_174 rfl sc_344 rfl (e66_) ?_
    refine ga_lload_n (z := z4_) hm_174 rfl rfl ?_
    refine gSi (nY := 7) (F := 0) (L := 0) (As := [.ref 350, .int (Int32.ofInt 0), .int (Int32.ofInt (F 344 17)), .long (Int64.ofInt z4_)]) (rest := []) hm_174 rfl hm_162 rfl rfl (fl_pos sc_0) rfl rfl rfl rfl (by omega) (by omega) (mc_162 hG F20_ X g21_ (350) (6) (0) (F 344 17) (z4_) sc_350 (fun _ => rfl) (by omega) (by omega))  ?_
    rintro z68_ A1_ ⟨hA_, c69_, c70_, c71_⟩
    subst hA_
    refine ga_istore (lv2 := [(5, .int (Int32.ofInt z68_)), (3, .long (Int64.ofInt z4_)), (0, .ref 344), (1, .int (Int32.ofInt a)), (2, .int (Int32.ofInt ll))]) hm_174 rfl (Nat.le_of_ble_eq_true rfl) rfl ?_
    refine ga_aload_n (v := .ref 344) hm_174 rfl rfl rfl ?_
    refine gIi (nY := 1) (F := 0) (L := 0) (As := []) (b := 344) (rest := []) hm_174 rfl hm_59 rfl rfl (fl_ob sc_344) rfl rfl rfl rfl rfl (by omega) (by omega) ?_
    intro f72_ l73_ h74_ h75_
    show fl_R xi_ms 59 f72_ l73_ 0 [(0, .ref 344)] [] _ _
    refine ga_aload_n (v := .ref 344) hm_59 rfl rfl rfl ?_
    have b76_ : 0 ≤ F20_ 344 9 ∧ F20_ 344 9 ≤ 5 := gi_g g21_ rfl
    refine ga_geti (z := F20_ 344 9) hm_59 rfl sc_344 rfl (rfl) ?_
    refine fl_if_le (a := F20_ 344 9) hm_59 rfl ⟨by omega, by omega⟩ (fun h77_ => ?_) (fun h78_ => ?_)
    ·
      refine fl_iconst hm_59 rfl ?_
      refine gr_i hm_59 rfl rfl (ga_nb (by omega)) ?_
      clear h74_ h75_ f72_ l73_
      refine fl_if_ne hm_174 rfl ⟨by omega, by omega⟩ (fun h => absurd h (by omega)) (fun _ => ?_)
      refine ga_iload (z := z68_) hm_174 rfl rfl ?_
      refine fl_iconst hm_174 rfl ?_
      refine fx_icmp_ne (a := z68_) (b := -1) hm_174 rfl ⟨by omega, by omega⟩ ⟨by omega, by omega⟩ (fun h79_ => ?_) (fun h80_ => ?_)
      ·
        refine ga_aload_n (v := .ref 344) hm_174 rfl rfl rfl ?_
        refine gIv (nY := 1) (F := 1) (L := 20) (As := []) (b := 344) (rest := []) hm_174 rfl hm_61 rfl rfl (fl_ob sc_344) rfl rfl rfl rfl rfl (by omega) (by omega) ?_
        intro f81_ l82_ h83_ h84_
        show fl_R xi_ms 61 f81_ l82_ 0 [(0, .ref 344)] [] _ _
        refine ga_aload_n (v := .ref 344) hm_61 rfl rfl rfl ?_
        refine ga_dup hm_61 rfl rfl ?_
        have e85_ : F20_ 344 5 = F 344 5 := (s22_ 344 5 rfl).trans (rfl)
        refine ga_geti (z := F 344 5) hm_61 rfl sc_344 rfl (e85_) ?_
        refine ga_aload_n (v := .ref 344) hm_61 rfl rfl rfl ?_
        refine gIi (nY := 1) (F := 0) (L := 0) (As := []) (b := 344) (rest := [.int (Int32.ofInt (F 344 5)), .ref 344]) hm_61 rfl hm_59 rfl rfl (fl_ob sc_344) rfl rfl rfl rfl rfl (by omega) (by omega) ?_
        intro f86_ l87_ h88_ h89_
        show fl_R xi_ms 59 f86_ l87_ 0 [(0, .ref 344)] [] _ _
        refine ga_aload_n (v := .ref 344) hm_59 rfl rfl rfl ?_
        refine ga_geti (z := F20_ 344 9) hm_59 rfl sc_344 rfl (rfl) ?_
        refine fl_if_le (a := F20_ 344 9) hm_59 rfl ⟨by omega, by omega⟩ (fun h90_ => ?_) (fun h91_ => ?_)
        ·
          refine fl_iconst hm_59 rfl ?_
          refine gr_i hm_59 rfl rfl (ga_nb (by omega)) ?_
          clear h88_ h89_ f86_ l87_
          refine fl_if_eq hm_61 rfl ⟨by omega, by omega⟩ (fun _ => ?_) (fun h => absurd (by omega) h)
          refine fl_iconst hm_61 rfl ?_
          refine ga_iadd (a := F 344 5) (b := 1) (c := F 344 5 + 1) hm_61 rfl (by omega) ?_
          refine ga_puti (z := F 344 5 + 1) hm_61 rfl sc_344 rfl rfl ?_
          refine gr_v hm_61 rfl rfl ?_
          clear h83_ h84_ f81_ l82_
          refine ga_aload_n (v := .ref 344) hm_174 rfl rfl rfl ?_
          refine gIi (nY := 1) (F := 0) (L := 0) (As := []) (b := 344) (rest := []) hm_174 rfl hm_59 rfl rfl (fl_ob sc_344) rfl rfl rfl rfl rfl (by omega) (by omega) ?_
          intro f92_ l93_ h94_ h95_
          show fl_R xi_ms 59 f92_ l93_ 0 [(0, .ref 344)] [] _ _
          refine ga_aload_n (v := .ref 344) hm_59 rfl rfl rfl ?_
          refine ga_geti (z := F20_ 344 9) hm_59 rfl sc_344 rfl (fl_u_ne (by omega)) ?_
          refine fl_if_le (a := F20_ 344 9) hm_59 rfl ⟨by omega, by omega⟩ (fun h96_ => ?_) (fun h97_ => ?_)
          ·
            refine fl_iconst hm_59 rfl ?_
            refine gr_i hm_59 rfl rfl (ga_nb (by omega)) ?_
            clear h94_ h95_ f92_ l93_
            refine fl_if_eq hm_174 rfl ⟨by omega, by omega⟩ (fun _ => ?_) (fun h => absurd (by omega) h)
            refine ga_aload_n (v := .ref 344) hm_174 rfl rfl rfl ?_
            refine ga_getr (b := 362) hm_174 rfl sc_344 rfl ?_
            refine ga_iload_n (z := ll) hm_174 rfl rfl ?_
            refine ga_iload (z := z68_) hm_174 rfl rfl ?_
            refine fl_iast (z := ll) (v := z68_) hm_174 rfl sc_362 (by omega) (by omega) (by omega) ?_
            obtain ⟨hz1_, hz2_, hz3_⟩ := hps.1 (z68_).toNat (by omega)
            have hg0 : 0 < (ps.getD (z68_).toNat []).length → F 352 (2 * z68_).toNat = (ps.getD (z68_).toNat []).getD 0 0 + 1 := fun h => by have h9 := rty_get hz2_ (j := 0) h; rwa [show 2 * (z68_).toNat + 0 = (2 * z68_).toNat by omega] at h9
            have hg1 : 1 < (ps.getD (z68_).toNat []).length → F 352 (2 * z68_ + 1).toNat = (ps.getD (z68_).toNat []).getD 1 0 + 1 := fun h => by have h9 := rty_get hz2_ (j := 1) h; rwa [show 2 * (z68_).toNat + 1 = (2 * z68_ + 1).toNat by omega] at h9
            refine fl_iconst hm_174 rfl ?_
            refine ga_istore (lv2 := [(6, .int (Int32.ofInt 0)), (5, .int (Int32.ofInt z68_)), (3, .long (Int64.ofInt z4_)), (0, .ref 344), (1, .int (Int32.ofInt a)), (2, .int (Int32.ofInt ll))]) hm_174 rfl (Nat.le_of_ble_eq_true rfl) rfl ?_
            refine ga_iload (z := 0) hm_174 rfl rfl ?_
            refine ga_aload_n (v := .ref 344) hm_174 rfl rfl rfl ?_
            refine ga_getr (b := 351) hm_174 rfl sc_344 rfl ?_
            refine ga_iload (z := z68_) hm_174 rfl rfl ?_
            have e98_ : F20_ 351 z68_.toNat = F 351 z68_.toNat := (s22_ 351 z68_.toNat (fs_n (by omega) rfl)).trans (rfl)
            have b99_ : 0 ≤ F 351 z68_.toNat ∧ F 351 z68_.toNat ≤ 2 := gi_g hgi rfl
            refine ga_iald (z := z68_) (w := F 351 z68_.toNat) hm_174 rfl sc_351 (by omega) (by omega) (by omega) ((fl_u_ne (by omega)).trans ((fl_u_ne (by omega)).trans (e98_))) ?_
            refine fl_icmp_ge (a := 0) (b := F 351 z68_.toNat) hm_174 rfl ⟨by omega, by omega⟩ ⟨by omega, by omega⟩ (fun h100_ => ?_) (fun h101_ => ?_)
            ·
              refine ga_aload_n (v := .ref 344) hm_174 rfl rfl rfl ?_
              refine fl_bipush hm_174 rfl rfl ?_
              obtain ⟨F102_, q103_⟩ : ∃ F9_, F9_ = (fl_u (fl_u F20_ 344 5 (F 344 5 + 1)) 362 ll.toNat z68_) := ⟨_, rfl⟩
              rw [← q103_]
              have g104_ : gi F102_ := by rw [q103_]; exact gi_u (gi_u (g21_) rfl (by omega) (by omega)) rfl (by omega) (by omega)
              have g105_ : fs [(344, 344, 5, 5), (344, 344, 9, 10), (362, 363, 0, 100000)] F F102_ := by rw [q103_]; exact fs_u (fs_u (g64_) rfl) (fs_z (fs_z (fs_y (by omega))))
              have rk106_ : rk K F102_ := by rw [q103_]; exact rk_u (rk_u (rk65_) (by omega) (by omega)) (by omega) (by omega)
              have e107_ : F102_ 344 5 = F 344 5 + 1 := by rw [q103_]; exact (fl_u_ne (by omega)).trans (fl_u_eq)
              refine gVv (nY := 2) (F := 2) (L := 41) (As := [.int (Int32.ofInt 41)]) (b := 344) (rest := []) hm_174 rfl hm_51 rfl rfl (fl_ob sc_344) rfl rfl rfl rfl rfl (by omega) (by omega) (mc_51 hG F102_ X g104_ (K) (41) (1) hgK rk106_ hkt (by omega) (by omega) (by omega)) (fun _ _ h => False.elim h) ?_
              have e109_ : F102_ 344 10 = F20_ 344 10 := by rw [q103_]; exact (fl_u_ne (by omega)).trans (fl_u_ne (by omega))
              have b110_ : 0 ≤ F20_ 344 10 ∧ F20_ 344 10 ≤ 600 := gi_g g21_ rfl
              have e111_ : F102_ 344 9 = F20_ 344 9 := by rw [q103_]; exact (fl_u_ne (by omega)).trans (fl_u_ne (by omega))
              rintro A1_ (⟨F115_, hA_, g116_, s117_, c112_, c113_, c114_⟩ | ⟨F121_, hA_, g122_, s123_, c118_, c119_, c120_⟩)
              ·
                subst hA_
                have g124_ : fs [(344, 344, 5, 5), (344, 344, 9, 10), (362, 363, 0, 100000)] F F115_ := fs_tr g105_ s117_ rfl
                have rk125_ : rk K F115_ := rk_fs rk106_ s117_ (fun r k h => (fs_n (by omega) (fs_n (by omega) rfl))) (fs_n (by omega) (fs_n (by omega) rfl))
                try simp only [e107_, e109_, e111_] at c113_
                have c113_s := c113_.1 (by omega)
                clear c113_
                refine gr_v hm_174 rfl rfl ?_
                have b126_ : 0 ≤ F115_ 344 9 ∧ F115_ 344 9 ≤ 5 := gi_g g116_ rfl
                have b127_ : 0 ≤ F115_ 344 10 ∧ F115_ 344 10 ≤ 600 := gi_g g116_ rfl
                have b128_ : 0 ≤ F115_ 344 5 ∧ F115_ 344 5 ≤ 600 := gi_g g116_ rfl
                exact Or.inl ⟨F115_, rfl, g116_, g124_, (by omega), (⟨by intro h0_; have hs_ := c113_s; rw [spa_go (by omega) (ra_fi (by have x_ := (rpn_fs hpl s22_ (fun _ => (fs_n (by omega) rfl)) (fs_n (by omega) rfl)); rw [e66_] at x_; exact x_) c16_ c69_ c70_ c71_) (by omega) rfl, (show sk K (F 344 5) = F 344 5 + 1 by rw [sk, if_pos (by omega)])]; rw [if_neg (by omega), pb_r]; rw [if_neg (by omega), pb_r]; rw [hs_]; try (congr 2 <;> omega), fun h0_ => by exfalso; omega⟩), (by omega)⟩
              subst hA_
              have g129_ : fs [(344, 344, 5, 5), (344, 344, 9, 10), (362, 363, 0, 100000)] F F121_ := fs_tr g105_ s123_ rfl
              have rk130_ : rk K F121_ := rk_fs rk106_ s123_ (fun r k h => (fs_n (by omega) (fs_n (by omega) rfl))) (fs_n (by omega) (fs_n (by omega) rfl))
              try simp only [e111_] at c118_
              try simp only [e107_] at c119_
              refine gr_v hm_174 rfl rfl ?_
              have b131_ : 0 ≤ F121_ 344 9 ∧ F121_ 344 9 ≤ 5 := gi_g g122_ rfl
              have b132_ : 0 ≤ F121_ 344 5 ∧ F121_ 344 5 ≤ 600 := gi_g g122_ rfl
              exact Or.inr (⟨F121_, rfl, g122_, g129_, (by omega), (by rw [spa_go (by omega) (ra_fi (by have x_ := (rpn_fs hpl s22_ (fun _ => (fs_n (by omega) rfl)) (fs_n (by omega) rfl)); rw [e66_] at x_; exact x_) c16_ c69_ c70_ c71_) (by omega) rfl, (show sk K (F 344 5) = F 344 5 + 1 by rw [sk, if_pos (by omega)])]; rw [if_neg (by omega), pb_r]; rw [if_neg (by omega), pb_r]; rw [c119_]), (by omega)⟩)
            refine ga_aload_n (v := .ref 344) hm_174 rfl rfl rfl ?_
            refine ga_getr (b := 363) hm_174 rfl sc_344 rfl ?_
            refine fl_iconst hm_174 rfl ?_
            refine ga_iload_n (z := ll) hm_174 rfl rfl ?_
            refine ga_imul (a := 2) (b := ll) (c := 2 * ll) hm_174 rfl (by omega) ?_
            refine ga_iload (z := 0) hm_174 rfl rfl ?_
            refine ga_iadd (a := 2 * ll) (b := 0) (c := 2 * ll) hm_174 rfl (by omega) ?_
            refine ga_aload_n (v := .ref 344) hm_174 rfl rfl rfl ?_
            refine ga_iload_n (z := a) hm_174 rfl rfl ?_
            refine ga_aload_n (v := .ref 344) hm_174 rfl rfl rfl ?_
            refine ga_getr (b := 352) hm_174 rfl sc_344 rfl ?_
            refine fl_iconst hm_174 rfl ?_
            refine ga_iload (z := z68_) hm_174 rfl rfl ?_
            refine ga_imul (a := 2) (b := z68_) (c := 2 * z68_) hm_174 rfl (by omega) ?_
            refine ga_iload (z := 0) hm_174 rfl rfl ?_
            refine ga_iadd (a := 2 * z68_) (b := 0) (c := 2 * z68_) hm_174 rfl (by omega) ?_
            have e133_ : F20_ 352 (2 * z68_).toNat = F 352 (2 * z68_).toNat := (s22_ 352 (2 * z68_).toNat (fs_n (by omega) rfl)).trans (rfl)
            have b134_ : 0 ≤ F 352 (2 * z68_).toNat ∧ F 352 (2 * z68_).toNat ≤ 4 := gi_g hgi rfl
            refine ga_iald (z := 2 * z68_) (w := F 352 (2 * z68_).toNat) hm_174 rfl sc_352 (by omega) (by omega) (by omega) ((fl_u_ne (by omega)).trans ((fl_u_ne (by omega)).trans (e133_))) ?_
            obtain ⟨F135_, q136_⟩ : ∃ F9_, F9_ = (fl_u (fl_u F20_ 344 5 (F 344 5 + 1)) 362 ll.toNat z68_) := ⟨_, rfl⟩
            rw [← q136_]
            have g137_ : gi F135_ := by rw [q136_]; exact gi_u (gi_u (g21_) rfl (by omega) (by omega)) rfl (by omega) (by omega)
            have g138_ : fs [(344, 344, 5, 5), (344, 344, 9, 10), (362, 363, 0, 100000)] F F135_ := by rw [q136_]; exact fs_u (fs_u (g64_) rfl) (fs_z (fs_z (fs_y (by omega))))
            have rk139_ : rk K F135_ := by rw [q136_]; exact rk_u (rk_u (rk65_) (by omega) (by omega)) (by omega) (by omega)
            have e140_ : F135_ 344 5 = F 344 5 + 1 := by rw [q136_]; exact (fl_u_ne (by omega)).trans (fl_u_eq)
            refine gVi (nY := 6) (F := 3) (L := 66) (As := [.int (Int32.ofInt a), .int (Int32.ofInt (F 352 (2 * z68_).toNat))]) (b := 344) (rest := [.int (Int32.ofInt (2 * ll)), .ref 363]) hm_174 rfl hm_185 rfl rfl (fl_ob sc_344) rfl rfl rfl rfl rfl (by omega) (by omega) (mc_185 hG F135_ X g137_ (K) (a) (F 352 (2 * z68_).toNat) (k) ((ps.getD (z68_).toNat []).getD 0 0) (l) (tl) hgK rk139_ hkt (by omega) ((by rw [q136_]; exact (trm_u (trm_u (trm_fs ht s22_ (fun r j hj => (fs_n (by omega) rfl))) (by omega)) (by omega)))) (hlt) (by have h9 := hg0 (by omega); omega) (by omega)) (fun _ _ h => False.elim h) ?_
            have e142_ : F135_ 344 10 = F20_ 344 10 := by rw [q136_]; exact (fl_u_ne (by omega)).trans (fl_u_ne (by omega))
            have b143_ : 0 ≤ F20_ 344 10 ∧ F20_ 344 10 ≤ 600 := gi_g g21_ rfl
            have e144_ : F135_ 344 9 = F20_ 344 9 := by rw [q136_]; exact (fl_u_ne (by omega)).trans (fl_u_ne (by omega))
            rintro z141_ A1_ (⟨F150_, hA_, g151_, s152_, c145_, c146_, c147_, c148_, c149_⟩ | ⟨F158_, hA_, g159_, s160_, c153_, c154_, c155_, c156_, c157_⟩)
            ·
              subst hA_
              have g161_ : fs [(344, 344, 5, 5), (344, 344, 9, 10), (362, 363, 0, 100000)] F F150_ := fs_tr g138_ s152_ rfl
              have rk162_ : rk K F150_ := rk_fs rk139_ s152_ (fun r k h => (fs_n (by omega) (fs_n (by omega) rfl))) (fs_n (by omega) (fs_n (by omega) rfl))
              try simp only [e140_, e142_, e144_] at c146_
              have c146_s := c146_.1 (by omega)
              clear c146_
              refine fl_iast (z := 2 * ll) (v := z141_) hm_174 rfl sc_363 (by omega) (by omega) (by omega) ?_
              refine ga_inc (a := 0) (c := 1) (lv2 := [(6, .int (Int32.ofInt 1)), (5, .int (Int32.ofInt z68_)), (3, .long (Int64.ofInt z4_)), (0, .ref 344), (1, .int (Int32.ofInt a)), (2, .int (Int32.ofInt ll))]) hm_174 rfl rfl (Nat.le_of_ble_eq_true rfl) (by omega) rfl ?_
              refine fl_goto hm_174 rfl ?_
              refine ga_iload (z := 1) hm_174 rfl rfl ?_
              refine ga_aload_n (v := .ref 344) hm_174 rfl rfl rfl ?_
              refine ga_getr (b := 351) hm_174 rfl sc_344 rfl ?_
              refine ga_iload (z := z68_) hm_174 rfl rfl ?_
              have e163_ : F135_ 351 z68_.toNat = F 351 z68_.toNat := by rw [q136_]; exact (fl_u_ne (by omega)).trans ((fl_u_ne (by omega)).trans (e98_))
              have e164_ : F150_ 351 z68_.toNat = F 351 z68_.toNat := (s152_ 351 z68_.toNat (fs_n (by omega) (fs_n (by omega) rfl))).trans (e163_)
              refine ga_iald (z := z68_) (w := F 351 z68_.toNat) hm_174 rfl sc_351 (by omega) (by omega) (by omega) ((fl_u_ne (by omega)).trans (e164_)) ?_
              refine fl_icmp_ge (a := 1) (b := F 351 z68_.toNat) hm_174 rfl ⟨by omega, by omega⟩ ⟨by omega, by omega⟩ (fun h165_ => ?_) (fun h166_ => ?_)
              ·
                refine ga_aload_n (v := .ref 344) hm_174 rfl rfl rfl ?_
                refine fl_bipush hm_174 rfl rfl ?_
                obtain ⟨F167_, q168_⟩ : ∃ F9_, F9_ = (fl_u F150_ 363 (2 * ll).toNat z141_) := ⟨_, rfl⟩
                rw [← q168_]
                have g169_ : gi F167_ := by rw [q168_]; exact gi_u363 (g151_) (by omega) (by omega) (rz_k hla c149_ (by omega) (by omega)) (by omega)
                have g170_ : fs [(344, 344, 5, 5), (344, 344, 9, 10), (362, 363, 0, 100000)] F F167_ := by rw [q168_]; exact fs_u (g161_) (fs_z (fs_z (fs_y (by omega))))
                have rk171_ : rk K F167_ := by rw [q168_]; exact rk_u (rk162_) (by omega) (by omega)
                have e172_ : F167_ 344 5 = F150_ 344 5 := by rw [q168_]; exact fl_u_ne (by omega)
                have b173_ : 0 ≤ F150_ 344 5 ∧ F150_ 344 5 ≤ 600 := gi_g g151_ rfl
                refine gVv (nY := 2) (F := 2) (L := 41) (As := [.int (Int32.ofInt 41)]) (b := 344) (rest := []) hm_174 rfl hm_51 rfl rfl (fl_ob sc_344) rfl rfl rfl rfl rfl (by omega) (by omega) (mc_51 hG F167_ X g169_ (K) (41) (1) hgK rk171_ hkt (by omega) (by omega) (by omega)) (fun _ _ h => False.elim h) ?_
                have e175_ : F167_ 344 10 = F150_ 344 10 := by rw [q168_]; exact fl_u_ne (by omega)
                have b176_ : 0 ≤ F150_ 344 10 ∧ F150_ 344 10 ≤ 600 := gi_g g151_ rfl
                have e177_ : F167_ 344 9 = F150_ 344 9 := by rw [q168_]; exact fl_u_ne (by omega)
                have b178_ : 0 ≤ F150_ 344 9 ∧ F150_ 344 9 ≤ 5 := gi_g g151_ rfl
                rintro A1_ (⟨F182_, hA_, g183_, s184_, c179_, c180_, c181_⟩ | ⟨F188_, hA_, g189_, s190_, c185_, c186_, c187_⟩)
                ·
                  subst hA_
                  have g191_ : fs [(344, 344, 5, 5), (344, 344, 9, 10), (362, 363, 0, 100000)] F F182_ := fs_tr g170_ s184_ rfl
                  have rk192_ : rk K F182_ := rk_fs rk171_ s184_ (fun r k h => (fs_n (by omega) (fs_n (by omega) rfl))) (fs_n (by omega) (fs_n (by omega) rfl))
                  try simp only [e172_, e175_, e177_] at c180_
                  have c180_k := c180_.2 (by omega)
                  clear c180_
                  refine gr_v hm_174 rfl rfl ?_
                  have b193_ : 0 ≤ F182_ 344 9 ∧ F182_ 344 9 ≤ 5 := gi_g g183_ rfl
                  have b194_ : 0 ≤ F182_ 344 10 ∧ F182_ 344 10 ≤ 600 := gi_g g183_ rfl
                  have b195_ : 0 ≤ F182_ 344 5 ∧ F182_ 344 5 ≤ 600 := gi_g g183_ rfl
                  exact Or.inl ⟨F182_, rfl, g183_, g191_, (by omega), (⟨by intro h0_; have hs_ := c146_s; rw [spa_go (by omega) (ra_fi (by have x_ := (rpn_fs hpl s22_ (fun _ => (fs_n (by omega) rfl)) (fs_n (by omega) rfl)); rw [e66_] at x_; exact x_) c16_ c69_ c70_ c71_) (by omega) rfl, (show sk K (F 344 5) = F 344 5 + 1 by rw [sk, if_pos (by omega)])]; rw [if_pos (by omega), hs_]; show Sum.inl _ = _; congr 2 <;> omega, fun h0_ => by exfalso; omega⟩), (by omega)⟩
                exfalso; omega
              refine ga_aload_n (v := .ref 344) hm_174 rfl rfl rfl ?_
              refine ga_getr (b := 363) hm_174 rfl sc_344 rfl ?_
              refine fl_iconst hm_174 rfl ?_
              refine ga_iload_n (z := ll) hm_174 rfl rfl ?_
              refine ga_imul (a := 2) (b := ll) (c := 2 * ll) hm_174 rfl (by omega) ?_
              refine ga_iload (z := 1) hm_174 rfl rfl ?_
              refine ga_iadd (a := 2 * ll) (b := 1) (c := 2 * ll + 1) hm_174 rfl (by omega) ?_
              refine ga_aload_n (v := .ref 344) hm_174 rfl rfl rfl ?_
              refine ga_iload_n (z := a) hm_174 rfl rfl ?_
              refine ga_aload_n (v := .ref 344) hm_174 rfl rfl rfl ?_
              refine ga_getr (b := 352) hm_174 rfl sc_344 rfl ?_
              refine fl_iconst hm_174 rfl ?_
              refine ga_iload (z := z68_) hm_174 rfl rfl ?_
              refine ga_imul (a := 2) (b := z68_) (c := 2 * z68_) hm_174 rfl (by omega) ?_
              refine ga_iload (z := 1) hm_174 rfl rfl ?_
              refine ga_iadd (a := 2 * z68_) (b := 1) (c := 2 * z68_ + 1) hm_174 rfl (by omega) ?_
              have e196_ : F20_ 352 (2 * z68_ + 1).toNat = F 352 (2 * z68_ + 1).toNat := (s22_ 352 (2 * z68_ + 1).toNat (fs_n (by omega) rfl)).trans (rfl)
              have e197_ : F135_ 352 (2 * z68_ + 1).toNat = F 352 (2 * z68_ + 1).toNat := by rw [q136_]; exact (fl_u_ne (by omega)).trans ((fl_u_ne (by omega)).trans (e196_))
              have e198_ : F150_ 352 (2 * z68_ + 1).toNat = F 352 (2 * z68_ + 1).toNat := (s152_ 352 (2 * z68_ + 1).toNat (fs_n (by omega) (fs_n (by omega) rfl))).trans (e197_)
              have b199_ : 0 ≤ F 352 (2 * z68_ + 1).toNat ∧ F 352 (2 * z68_ + 1).toNat ≤ 4 := gi_g hgi rfl
              refine ga_iald (z := 2 * z68_ + 1) (w := F 352 (2 * z68_ + 1).toNat) hm_174 rfl sc_352 (by omega) (by omega) (by omega) ((fl_u_ne (by omega)).trans (e198_)) ?_
              obtain ⟨F200_, q201_⟩ : ∃ F9_, F9_ = (fl_u F150_ 363 (2 * ll).toNat z141_) := ⟨_, rfl⟩
              rw [← q201_]
              have g202_ : gi F200_ := by rw [q201_]; exact gi_u363 (g151_) (by omega) (by omega) (rz_k hla c149_ (by omega) (by omega)) (by omega)
              have g203_ : fs [(344, 344, 5, 5), (344, 344, 9, 10), (362, 363, 0, 100000)] F F200_ := by rw [q201_]; exact fs_u (g161_) (fs_z (fs_z (fs_y (by omega))))
              have rk204_ : rk K F200_ := by rw [q201_]; exact rk_u (rk162_) (by omega) (by omega)
              have e205_ : F200_ 344 5 = F150_ 344 5 := by rw [q201_]; exact fl_u_ne (by omega)
              have b206_ : 0 ≤ F150_ 344 5 ∧ F150_ 344 5 ≤ 600 := gi_g g151_ rfl
              refine gVi (nY := 6) (F := 3) (L := 66) (As := [.int (Int32.ofInt a), .int (Int32.ofInt (F 352 (2 * z68_ + 1).toNat))]) (b := 344) (rest := [.int (Int32.ofInt (2 * ll + 1)), .ref 363]) hm_174 rfl hm_185 rfl rfl (fl_ob sc_344) rfl rfl rfl rfl rfl (by omega) (by omega) (mc_185 hG F200_ X g202_ (K) (a) (F 352 (2 * z68_ + 1).toNat) (k) ((ps.getD (z68_).toNat []).getD 1 0) (l) (tl) hgK rk204_ hkt (by omega) ((by rw [q201_]; exact (trm_u (trm_fs (by rw [q136_]; exact (trm_u (trm_u (trm_fs ht s22_ (fun r j hj => (fs_n (by omega) rfl))) (by omega)) (by omega))) s152_ (fun r j hj => (fs_n (by omega) (fs_n (by omega) rfl)))) (by omega)))) (hlt) (by have h9 := hg1 (by omega); omega) (by omega)) (fun _ _ h => False.elim h) ?_
              have e208_ : F200_ 344 10 = F150_ 344 10 := by rw [q201_]; exact fl_u_ne (by omega)
              have b209_ : 0 ≤ F150_ 344 10 ∧ F150_ 344 10 ≤ 600 := gi_g g151_ rfl
              have e210_ : F200_ 344 9 = F150_ 344 9 := by rw [q201_]; exact fl_u_ne (by omega)
              have b211_ : 0 ≤ F150_ 344 9 ∧ F150_ 344 9 ≤ 5 := gi_g g151_ rfl
              rintro z207_ A1_ (⟨F217_, hA_, g218_, s219_, c212_, c213_, c214_, c215_, c216_⟩ | ⟨F225_, hA_, g226_, s227_, c220_, c221_, c222_, c223_, c224_⟩)
              ·
                subst hA_
                have g228_ : fs [(344, 344, 5, 5), (344, 344, 9, 10), (362, 363, 0, 100000)] F F217_ := fs_tr g203_ s219_ rfl
                have rk229_ : rk K F217_ := rk_fs rk204_ s219_ (fun r k h => (fs_n (by omega) (fs_n (by omega) rfl))) (fs_n (by omega) (fs_n (by omega) rfl))
                try simp only [e205_, e208_, e210_] at c213_
                have c213_k := c213_.2 (by omega)
                clear c213_
                refine fl_iast (z := 2 * ll + 1) (v := z207_) hm_174 rfl sc_363 (by omega) (by omega) (by omega) ?_
                refine ga_inc (a := 1) (c := 2) (lv2 := [(6, .int (Int32.ofInt 2)), (5, .int (Int32.ofInt z68_)), (3, .long (Int64.ofInt z4_)), (0, .ref 344), (1, .int (Int32.ofInt a)), (2, .int (Int32.ofInt ll))]) hm_174 rfl rfl (Nat.le_of_ble_eq_true rfl) (by omega) rfl ?_
                refine fl_goto hm_174 rfl ?_
                refine ga_iload (z := 2) hm_174 rfl rfl ?_
                refine ga_aload_n (v := .ref 344) hm_174 rfl rfl rfl ?_
                refine ga_getr (b := 351) hm_174 rfl sc_344 rfl ?_
                refine ga_iload (z := z68_) hm_174 rfl rfl ?_
                have e230_ : F200_ 351 z68_.toNat = F 351 z68_.toNat := by rw [q201_]; exact (fl_u_ne (by omega)).trans (e164_)
                have e231_ : F217_ 351 z68_.toNat = F 351 z68_.toNat := (s219_ 351 z68_.toNat (fs_n (by omega) (fs_n (by omega) rfl))).trans (e230_)
                refine ga_iald (z := z68_) (w := F 351 z68_.toNat) hm_174 rfl sc_351 (by omega) (by omega) (by omega) ((fl_u_ne (by omega)).trans (e231_)) ?_
                refine fl_icmp_ge (a := 2) (b := F 351 z68_.toNat) hm_174 rfl ⟨by omega, by omega⟩ ⟨by omega, by omega⟩ (fun h232_ => ?_) (fun h233_ => ?_)
                ·
                  refine ga_aload_n (v := .ref 344) hm_174 rfl rfl rfl ?_
                  refine fl_bipush hm_174 rfl rfl ?_
                  obtain ⟨F234_, q235_⟩ : ∃ F9_, F9_ = (fl_u F217_ 363 (2 * ll + 1).toNat z207_) := ⟨_, rfl⟩
                  rw [← q235_]
                  have g236_ : gi F234_ := by rw [q235_]; exact gi_u363 (g218_) (by omega) (by omega) (rz_k hla c216_ (by omega) (by omega)) (by omega)
                  have g237_ : fs [(344, 344, 5, 5), (344, 344, 9, 10), (362, 363, 0, 100000)] F F234_ := by rw [q235_]; exact fs_u (g228_) (fs_z (fs_z (fs_y (by omega))))
                  have rk238_ : rk K F234_ := by rw [q235_]; exact rk_u (rk229_) (by omega) (by omega)
                  have e239_ : F234_ 344 5 = F217_ 344 5 := by rw [q235_]; exact fl_u_ne (by omega)
                  have b240_ : 0 ≤ F217_ 344 5 ∧ F217_ 344 5 ≤ 600 := gi_g g218_ rfl
                  refine gVv (nY := 2) (F := 2) (L := 41) (As := [.int (Int32.ofInt 41)]) (b := 344) (rest := []) hm_174 rfl hm_51 rfl rfl (fl_ob sc_344) rfl rfl rfl rfl rfl (by omega) (by omega) (mc_51 hG F234_ X g236_ (K) (41) (1) hgK rk238_ hkt (by omega) (by omega) (by omega)) (fun _ _ h => False.elim h) ?_
                  have e242_ : F234_ 344 10 = F217_ 344 10 := by rw [q235_]; exact fl_u_ne (by omega)
                  have b243_ : 0 ≤ F217_ 344 10 ∧ F217_ 344 10 ≤ 600 := gi_g g218_ rfl
                  have e244_ : F234_ 344 9 = F217_ 344 9 := by rw [q235_]; exact fl_u_ne (by omega)
                  have b245_ : 0 ≤ F217_ 344 9 ∧ F217_ 344 9 ≤ 5 := gi_g g218_ rfl
                  rintro A1_ (⟨F249_, hA_, g250_, s251_, c246_, c247_, c248_⟩ | ⟨F255_, hA_, g256_, s257_, c252_, c253_, c254_⟩)
                  ·
                    subst hA_
                    have g258_ : fs [(344, 344, 5, 5), (344, 344, 9, 10), (362, 363, 0, 100000)] F F249_ := fs_tr g237_ s251_ rfl
                    have rk259_ : rk K F249_ := rk_fs rk238_ s251_ (fun r k h => (fs_n (by omega) (fs_n (by omega) rfl))) (fs_n (by omega) (fs_n (by omega) rfl))
                    try simp only [e239_, e242_, e244_] at c247_
                    have c247_k := c247_.2 (by omega)
                    clear c247_
                    refine gr_v hm_174 rfl rfl ?_
                    have b260_ : 0 ≤ F249_ 344 9 ∧ F249_ 344 9 ≤ 5 := gi_g g250_ rfl
                    have b261_ : 0 ≤ F249_ 344 10 ∧ F249_ 344 10 ≤ 600 := gi_g g250_ rfl
                    have b262_ : 0 ≤ F249_ 344 5 ∧ F249_ 344 5 ≤ 600 := gi_g g250_ rfl
                    exact Or.inl ⟨F249_, rfl, g250_, g258_, (by omega), (⟨by intro h0_; have hs_ := c146_s; rw [spa_go (by omega) (ra_fi (by have x_ := (rpn_fs hpl s22_ (fun _ => (fs_n (by omega) rfl)) (fs_n (by omega) rfl)); rw [e66_] at x_; exact x_) c16_ c69_ c70_ c71_) (by omega) rfl, (show sk K (F 344 5) = F 344 5 + 1 by rw [sk, if_pos (by omega)])]; rw [if_pos (by omega), hs_]; show Sum.inl _ = _; congr 2 <;> omega, fun h0_ => by exfalso; omega⟩), (by omega)⟩
                  exfalso; omega
                exfalso; omega
              exfalso; omega
            subst hA_
            have g263_ : fs [(344, 344, 5, 5), (344, 344, 9, 10), (362, 363, 0, 100000)] F F158_ := fs_tr g138_ s160_ rfl
            have rk264_ : rk K F158_ := rk_fs rk139_ s160_ (fun r k h => (fs_n (by omega) (fs_n (by omega) rfl))) (fs_n (by omega) (fs_n (by omega) rfl))
            try simp only [e144_] at c153_
            try simp only [e140_] at c154_
            refine fl_iast (z := 2 * ll) (v := z141_) hm_174 rfl sc_363 (by omega) (by omega) (by omega) ?_
            refine ga_inc (a := 0) (c := 1) (lv2 := [(6, .int (Int32.ofInt 1)), (5, .int (Int32.ofInt z68_)), (3, .long (Int64.ofInt z4_)), (0, .ref 344), (1, .int (Int32.ofInt a)), (2, .int (Int32.ofInt ll))]) hm_174 rfl rfl (Nat.le_of_ble_eq_true rfl) (by omega) rfl ?_
            refine fl_goto hm_174 rfl ?_
            refine ga_iload (z := 1) hm_174 rfl rfl ?_
            refine ga_aload_n (v := .ref 344) hm_174 rfl rfl rfl ?_
            refine ga_getr (b := 351) hm_174 rfl sc_344 rfl ?_
            refine ga_iload (z := z68_) hm_174 rfl rfl ?_
            have e265_ : F135_ 351 z68_.toNat = F 351 z68_.toNat := by rw [q136_]; exact (fl_u_ne (by omega)).trans ((fl_u_ne (by omega)).trans (e98_))
            have e266_ : F158_ 351 z68_.toNat = F 351 z68_.toNat := (s160_ 351 z68_.toNat (fs_n (by omega) (fs_n (by omega) rfl))).trans (e265_)
            refine ga_iald (z := z68_) (w := F 351 z68_.toNat) hm_174 rfl sc_351 (by omega) (by omega) (by omega) ((fl_u_ne (by omega)).trans (e266_)) ?_
            refine fl_icmp_ge (a := 1) (b := F 351 z68_.toNat) hm_174 rfl ⟨by omega, by omega⟩ ⟨by omega, by omega⟩ (fun h267_ => ?_) (fun h268_ => ?_)
            ·
              refine ga_aload_n (v := .ref 344) hm_174 rfl rfl rfl ?_
              refine fl_bipush hm_174 rfl rfl ?_
              obtain ⟨F269_, q270_⟩ : ∃ F9_, F9_ = (fl_u F158_ 363 (2 * ll).toNat z141_) := ⟨_, rfl⟩
              rw [← q270_]
              have g271_ : gi F269_ := by rw [q270_]; exact gi_u363 (g159_) (by omega) (by omega) (rz_k hla c157_ (by omega) (by omega)) (by omega)
              have g272_ : fs [(344, 344, 5, 5), (344, 344, 9, 10), (362, 363, 0, 100000)] F F269_ := by rw [q270_]; exact fs_u (g263_) (fs_z (fs_z (fs_y (by omega))))
              have rk273_ : rk K F269_ := by rw [q270_]; exact rk_u (rk264_) (by omega) (by omega)
              have e274_ : F269_ 344 5 = F158_ 344 5 := by rw [q270_]; exact fl_u_ne (by omega)
              have b275_ : 0 ≤ F158_ 344 5 ∧ F158_ 344 5 ≤ 600 := gi_g g159_ rfl
              refine gVv (nY := 2) (F := 2) (L := 41) (As := [.int (Int32.ofInt 41)]) (b := 344) (rest := []) hm_174 rfl hm_51 rfl rfl (fl_ob sc_344) rfl rfl rfl rfl rfl (by omega) (by omega) (mc_51 hG F269_ X g271_ (K) (41) (1) hgK rk273_ hkt (by omega) (by omega) (by omega)) (fun _ _ h => False.elim h) ?_
              have e277_ : F269_ 344 10 = F158_ 344 10 := by rw [q270_]; exact fl_u_ne (by omega)
              have b278_ : 0 ≤ F158_ 344 10 ∧ F158_ 344 10 ≤ 600 := gi_g g159_ rfl
              have e279_ : F269_ 344 9 = F158_ 344 9 := by rw [q270_]; exact fl_u_ne (by omega)
              have b280_ : 0 ≤ F158_ 344 9 ∧ F158_ 344 9 ≤ 5 := gi_g g159_ rfl
              rintro A1_ (⟨F284_, hA_, g285_, s286_, c281_, c282_, c283_⟩ | ⟨F290_, hA_, g291_, s292_, c287_, c288_, c289_⟩)
              ·
                subst hA_
                have g293_ : fs [(344, 344, 5, 5), (344, 344, 9, 10), (362, 363, 0, 100000)] F F284_ := fs_tr g272_ s286_ rfl
                have rk294_ : rk K F284_ := rk_fs rk273_ s286_ (fun r k h => (fs_n (by omega) (fs_n (by omega) rfl))) (fs_n (by omega) (fs_n (by omega) rfl))
                try simp only [e274_, e277_, e279_] at c282_
                have c282_s := c282_.1 (by omega)
                clear c282_
                refine gr_v hm_174 rfl rfl ?_
                have b295_ : 0 ≤ F284_ 344 9 ∧ F284_ 344 9 ≤ 5 := gi_g g285_ rfl
                have b296_ : 0 ≤ F284_ 344 10 ∧ F284_ 344 10 ≤ 600 := gi_g g285_ rfl
                have b297_ : 0 ≤ F284_ 344 5 ∧ F284_ 344 5 ≤ 600 := gi_g g285_ rfl
                exact Or.inl ⟨F284_, rfl, g285_, g293_, (by omega), (⟨by intro h0_; have hs_ := c282_s; rw [spa_go (by omega) (ra_fi (by have x_ := (rpn_fs hpl s22_ (fun _ => (fs_n (by omega) rfl)) (fs_n (by omega) rfl)); rw [e66_] at x_; exact x_) c16_ c69_ c70_ c71_) (by omega) rfl, (show sk K (F 344 5) = F 344 5 + 1 by rw [sk, if_pos (by omega)])]; rw [if_pos (by omega), c154_, pb_r]; rw [if_neg (by omega), pb_r]; rw [hs_]; try (congr 2 <;> omega), fun h0_ => by exfalso; omega⟩), (by omega)⟩
              subst hA_
              have g298_ : fs [(344, 344, 5, 5), (344, 344, 9, 10), (362, 363, 0, 100000)] F F290_ := fs_tr g272_ s292_ rfl
              have rk299_ : rk K F290_ := rk_fs rk273_ s292_ (fun r k h => (fs_n (by omega) (fs_n (by omega) rfl))) (fs_n (by omega) (fs_n (by omega) rfl))
              try simp only [e279_] at c287_
              try simp only [e274_] at c288_
              refine gr_v hm_174 rfl rfl ?_
              have b300_ : 0 ≤ F290_ 344 9 ∧ F290_ 344 9 ≤ 5 := gi_g g291_ rfl
              have b301_ : 0 ≤ F290_ 344 5 ∧ F290_ 344 5 ≤ 600 := gi_g g291_ rfl
              exact Or.inr (⟨F290_, rfl, g291_, g298_, (by omega), (by rw [spa_go (by omega) (ra_fi (by have x_ := (rpn_fs hpl s22_ (fun _ => (fs_n (by omega) rfl)) (fs_n (by omega) rfl)); rw [e66_] at x_; exact x_) c16_ c69_ c70_ c71_) (by omega) rfl, (show sk K (F 344 5) = F 344 5 + 1 by rw [sk, if_pos (by omega)])]; rw [if_pos (by omega), c154_, pb_r]; rw [if_neg (by omega), pb_r]; rw [c288_]), (by omega)⟩)
            refine ga_aload_n (v := .ref 344) hm_174 rfl rfl rfl ?_
            refine ga_getr (b := 363) hm_174 rfl sc_344 rfl ?_
            refine fl_iconst hm_174 rfl ?_
            refine ga_iload_n (z := ll) hm_174 rfl rfl ?_
            refine ga_imul (a := 2) (b := ll) (c := 2 * ll) hm_174 rfl (by omega) ?_
            refine ga_iload (z := 1) hm_174 rfl rfl ?_
            refine ga_iadd (a := 2 * ll) (b := 1) (c := 2 * ll + 1) hm_174 rfl (by omega) ?_
            refine ga_aload_n (v := .ref 344) hm_174 rfl rfl rfl ?_
            refine ga_iload_n (z := a) hm_174 rfl rfl ?_
            refine ga_aload_n (v := .ref 344) hm_174 rfl rfl rfl ?_
            refine ga_getr (b := 352) hm_174 rfl sc_344 rfl ?_
            refine fl_iconst hm_174 rfl ?_
            refine ga_iload (z := z68_) hm_174 rfl rfl ?_
            refine ga_imul (a := 2) (b := z68_) (c := 2 * z68_) hm_174 rfl (by omega) ?_
            refine ga_iload (z := 1) hm_174 rfl rfl ?_
            refine ga_iadd (a := 2 * z68_) (b := 1) (c := 2 * z68_ + 1) hm_174 rfl (by omega) ?_
            have e302_ : F20_ 352 (2 * z68_ + 1).toNat = F 352 (2 * z68_ + 1).toNat := (s22_ 352 (2 * z68_ + 1).toNat (fs_n (by omega) rfl)).trans (rfl)
            have e303_ : F135_ 352 (2 * z68_ + 1).toNat = F 352 (2 * z68_ + 1).toNat := by rw [q136_]; exact (fl_u_ne (by omega)).trans ((fl_u_ne (by omega)).trans (e302_))
            have e304_ : F158_ 352 (2 * z68_ + 1).toNat = F 352 (2 * z68_ + 1).toNat := (s160_ 352 (2 * z68_ + 1).toNat (fs_n (by omega) (fs_n (by omega) rfl))).trans (e303_)
            have b305_ : 0 ≤ F 352 (2 * z68_ + 1).toNat ∧ F 352 (2 * z68_ + 1).toNat ≤ 4 := gi_g hgi rfl
            refine ga_iald (z := 2 * z68_ + 1) (w := F 352 (2 * z68_ + 1).toNat) hm_174 rfl sc_352 (by omega) (by omega) (by omega) ((fl_u_ne (by omega)).trans (e304_)) ?_
            obtain ⟨F306_, q307_⟩ : ∃ F9_, F9_ = (fl_u F158_ 363 (2 * ll).toNat z141_) := ⟨_, rfl⟩
            rw [← q307_]
            have g308_ : gi F306_ := by rw [q307_]; exact gi_u363 (g159_) (by omega) (by omega) (rz_k hla c157_ (by omega) (by omega)) (by omega)
            have g309_ : fs [(344, 344, 5, 5), (344, 344, 9, 10), (362, 363, 0, 100000)] F F306_ := by rw [q307_]; exact fs_u (g263_) (fs_z (fs_z (fs_y (by omega))))
            have rk310_ : rk K F306_ := by rw [q307_]; exact rk_u (rk264_) (by omega) (by omega)
            have e311_ : F306_ 344 5 = F158_ 344 5 := by rw [q307_]; exact fl_u_ne (by omega)
            have b312_ : 0 ≤ F158_ 344 5 ∧ F158_ 344 5 ≤ 600 := gi_g g159_ rfl
            refine gVi (nY := 6) (F := 3) (L := 66) (As := [.int (Int32.ofInt a), .int (Int32.ofInt (F 352 (2 * z68_ + 1).toNat))]) (b := 344) (rest := [.int (Int32.ofInt (2 * ll + 1)), .ref 363]) hm_174 rfl hm_185 rfl rfl (fl_ob sc_344) rfl rfl rfl rfl rfl (by omega) (by omega) (mc_185 hG F306_ X g308_ (K) (a) (F 352 (2 * z68_ + 1).toNat) (k) ((ps.getD (z68_).toNat []).getD 1 0) (l) (tl) hgK rk310_ hkt (by omega) ((by rw [q307_]; exact (trm_u (trm_fs (by rw [q136_]; exact (trm_u (trm_u (trm_fs ht s22_ (fun r j hj => (fs_n (by omega) rfl))) (by omega)) (by omega))) s160_ (fun r j hj => (fs_n (by omega) (fs_n (by omega) rfl)))) (by omega)))) (hlt) (by have h9 := hg1 (by omega); omega) (by omega)) (fun _ _ h => False.elim h) ?_
            have e314_ : F306_ 344 10 = F158_ 344 10 := by rw [q307_]; exact fl_u_ne (by omega)
            have b315_ : 0 ≤ F158_ 344 10 ∧ F158_ 344 10 ≤ 600 := gi_g g159_ rfl
            have e316_ : F306_ 344 9 = F158_ 344 9 := by rw [q307_]; exact fl_u_ne (by omega)
            have b317_ : 0 ≤ F158_ 344 9 ∧ F158_ 344 9 ≤ 5 := gi_g g159_ rfl
            rintro z313_ A1_ (⟨F323_, hA_, g324_, s325_, c318_, c319_, c320_, c321_, c322_⟩ | ⟨F331_, hA_, g332_, s333_, c326_, c327_, c328_, c329_, c330_⟩)
            ·
              subst hA_
              have g334_ : fs [(344, 344, 5, 5), (344, 344, 9, 10), (362, 363, 0, 100000)] F F323_ := fs_tr g309_ s325_ rfl
              have rk335_ : rk K F323_ := rk_fs rk310_ s325_ (fun r k h => (fs_n (by omega) (fs_n (by omega) rfl))) (fs_n (by omega) (fs_n (by omega) rfl))
              try simp only [e311_, e314_, e316_] at c319_
              have c319_s := c319_.1 (by omega)
              clear c319_
              refine fl_iast (z := 2 * ll + 1) (v := z313_) hm_174 rfl sc_363 (by omega) (by omega) (by omega) ?_
              refine ga_inc (a := 1) (c := 2) (lv2 := [(6, .int (Int32.ofInt 2)), (5, .int (Int32.ofInt z68_)), (3, .long (Int64.ofInt z4_)), (0, .ref 344), (1, .int (Int32.ofInt a)), (2, .int (Int32.ofInt ll))]) hm_174 rfl rfl (Nat.le_of_ble_eq_true rfl) (by omega) rfl ?_
              refine fl_goto hm_174 rfl ?_
              refine ga_iload (z := 2) hm_174 rfl rfl ?_
              refine ga_aload_n (v := .ref 344) hm_174 rfl rfl rfl ?_
              refine ga_getr (b := 351) hm_174 rfl sc_344 rfl ?_
              refine ga_iload (z := z68_) hm_174 rfl rfl ?_
              have e336_ : F306_ 351 z68_.toNat = F 351 z68_.toNat := by rw [q307_]; exact (fl_u_ne (by omega)).trans (e266_)
              have e337_ : F323_ 351 z68_.toNat = F 351 z68_.toNat := (s325_ 351 z68_.toNat (fs_n (by omega) (fs_n (by omega) rfl))).trans (e336_)
              refine ga_iald (z := z68_) (w := F 351 z68_.toNat) hm_174 rfl sc_351 (by omega) (by omega) (by omega) ((fl_u_ne (by omega)).trans (e337_)) ?_
              refine fl_icmp_ge (a := 2) (b := F 351 z68_.toNat) hm_174 rfl ⟨by omega, by omega⟩ ⟨by omega, by omega⟩ (fun h338_ => ?_) (fun h339_ => ?_)
              ·
                refine ga_aload_n (v := .ref 344) hm_174 rfl rfl rfl ?_
                refine fl_bipush hm_174 rfl rfl ?_
                obtain ⟨F340_, q341_⟩ : ∃ F9_, F9_ = (fl_u F323_ 363 (2 * ll + 1).toNat z313_) := ⟨_, rfl⟩
                rw [← q341_]
                have g342_ : gi F340_ := by rw [q341_]; exact gi_u363 (g324_) (by omega) (by omega) (rz_k hla c322_ (by omega) (by omega)) (by omega)
                have g343_ : fs [(344, 344, 5, 5), (344, 344, 9, 10), (362, 363, 0, 100000)] F F340_ := by rw [q341_]; exact fs_u (g334_) (fs_z (fs_z (fs_y (by omega))))
                have rk344_ : rk K F340_ := by rw [q341_]; exact rk_u (rk335_) (by omega) (by omega)
                have e345_ : F340_ 344 5 = F323_ 344 5 := by rw [q341_]; exact fl_u_ne (by omega)
                have b346_ : 0 ≤ F323_ 344 5 ∧ F323_ 344 5 ≤ 600 := gi_g g324_ rfl
                refine gVv (nY := 2) (F := 2) (L := 41) (As := [.int (Int32.ofInt 41)]) (b := 344) (rest := []) hm_174 rfl hm_51 rfl rfl (fl_ob sc_344) rfl rfl rfl rfl rfl (by omega) (by omega) (mc_51 hG F340_ X g342_ (K) (41) (1) hgK rk344_ hkt (by omega) (by omega) (by omega)) (fun _ _ h => False.elim h) ?_
                have e348_ : F340_ 344 10 = F323_ 344 10 := by rw [q341_]; exact fl_u_ne (by omega)
                have b349_ : 0 ≤ F323_ 344 10 ∧ F323_ 344 10 ≤ 600 := gi_g g324_ rfl
                have e350_ : F340_ 344 9 = F323_ 344 9 := by rw [q341_]; exact fl_u_ne (by omega)
                have b351_ : 0 ≤ F323_ 344 9 ∧ F323_ 344 9 ≤ 5 := gi_g g324_ rfl
                rintro A1_ (⟨F355_, hA_, g356_, s357_, c352_, c353_, c354_⟩ | ⟨F361_, hA_, g362_, s363_, c358_, c359_, c360_⟩)
                ·
                  subst hA_
                  have g364_ : fs [(344, 344, 5, 5), (344, 344, 9, 10), (362, 363, 0, 100000)] F F355_ := fs_tr g343_ s357_ rfl
                  have rk365_ : rk K F355_ := rk_fs rk344_ s357_ (fun r k h => (fs_n (by omega) (fs_n (by omega) rfl))) (fs_n (by omega) (fs_n (by omega) rfl))
                  try simp only [e345_, e348_, e350_] at c353_
                  have c353_k := c353_.2 (by omega)
                  clear c353_
                  refine gr_v hm_174 rfl rfl ?_
                  have b366_ : 0 ≤ F355_ 344 9 ∧ F355_ 344 9 ≤ 5 := gi_g g356_ rfl
                  have b367_ : 0 ≤ F355_ 344 10 ∧ F355_ 344 10 ≤ 600 := gi_g g356_ rfl
                  have b368_ : 0 ≤ F355_ 344 5 ∧ F355_ 344 5 ≤ 600 := gi_g g356_ rfl
                  exact Or.inl ⟨F355_, rfl, g356_, g364_, (by omega), (⟨by intro h0_; have hs_ := c319_s; rw [spa_go (by omega) (ra_fi (by have x_ := (rpn_fs hpl s22_ (fun _ => (fs_n (by omega) rfl)) (fs_n (by omega) rfl)); rw [e66_] at x_; exact x_) c16_ c69_ c70_ c71_) (by omega) rfl, (show sk K (F 344 5) = F 344 5 + 1 by rw [sk, if_pos (by omega)])]; rw [if_pos (by omega), c154_, pb_r]; rw [if_pos (by omega), hs_]; show Sum.inl _ = _; congr 2 <;> omega, fun h0_ => by exfalso; omega⟩), (by omega)⟩
                exfalso; omega
              exfalso; omega
            subst hA_
            have g369_ : fs [(344, 344, 5, 5), (344, 344, 9, 10), (362, 363, 0, 100000)] F F331_ := fs_tr g309_ s333_ rfl
            have rk370_ : rk K F331_ := rk_fs rk310_ s333_ (fun r k h => (fs_n (by omega) (fs_n (by omega) rfl))) (fs_n (by omega) (fs_n (by omega) rfl))
            try simp only [e316_] at c326_
            try simp only [e311_] at c327_
            refine fl_iast (z := 2 * ll + 1) (v := z313_) hm_174 rfl sc_363 (by omega) (by omega) (by omega) ?_
            refine ga_inc (a := 1) (c := 2) (lv2 := [(6, .int (Int32.ofInt 2)), (5, .int (Int32.ofInt z68_)), (3, .long (Int64.ofInt z4_)), (0, .ref 344), (1, .int (Int32.ofInt a)), (2, .int (Int32.ofInt ll))]) hm_174 rfl rfl (Nat.le_of_ble_eq_true rfl) (by omega) rfl ?_
            refine fl_goto hm_174 rfl ?_
            refine ga_iload (z := 2) hm_174 rfl rfl ?_
            refine ga_aload_n (v := .ref 344) hm_174 rfl rfl rfl ?_
            refine ga_getr (b := 351) hm_174 rfl sc_344 rfl ?_
            refine ga_iload (z := z68_) hm_174 rfl rfl ?_
            have e371_ : F306_ 351 z68_.toNat = F 351 z68_.toNat := by rw [q307_]; exact (fl_u_ne (by omega)).trans (e266_)
            have e372_ : F331_ 351 z68_.toNat = F 351 z68_.toNat := (s333_ 351 z68_.toNat (fs_n (by omega) (fs_n (by omega) rfl))).trans (e371_)
            refine ga_iald (z := z68_) (w := F 351 z68_.toNat) hm_174 rfl sc_351 (by omega) (by omega) (by omega) ((fl_u_ne (by omega)).trans (e372_)) ?_
            refine fl_icmp_ge (a := 2) (b := F 351 z68_.toNat) hm_174 rfl ⟨by omega, by omega⟩ ⟨by omega, by omega⟩ (fun h373_ => ?_) (fun h374_ => ?_)
            ·
              refine ga_aload_n (v := .ref 344) hm_174 rfl rfl rfl ?_
              refine fl_bipush hm_174 rfl rfl ?_
              obtain ⟨F375_, q376_⟩ : ∃ F9_, F9_ = (fl_u F331_ 363 (2 * ll + 1).toNat z313_) := ⟨_, rfl⟩
              rw [← q376_]
              have g377_ : gi F375_ := by rw [q376_]; exact gi_u363 (g332_) (by omega) (by omega) (rz_k hla c330_ (by omega) (by omega)) (by omega)
              have g378_ : fs [(344, 344, 5, 5), (344, 344, 9, 10), (362, 363, 0, 100000)] F F375_ := by rw [q376_]; exact fs_u (g369_) (fs_z (fs_z (fs_y (by omega))))
              have rk379_ : rk K F375_ := by rw [q376_]; exact rk_u (rk370_) (by omega) (by omega)
              have e380_ : F375_ 344 5 = F331_ 344 5 := by rw [q376_]; exact fl_u_ne (by omega)
              have b381_ : 0 ≤ F331_ 344 5 ∧ F331_ 344 5 ≤ 600 := gi_g g332_ rfl
              refine gVv (nY := 2) (F := 2) (L := 41) (As := [.int (Int32.ofInt 41)]) (b := 344) (rest := []) hm_174 rfl hm_51 rfl rfl (fl_ob sc_344) rfl rfl rfl rfl rfl (by omega) (by omega) (mc_51 hG F375_ X g377_ (K) (41) (1) hgK rk379_ hkt (by omega) (by omega) (by omega)) (fun _ _ h => False.elim h) ?_
              have e383_ : F375_ 344 10 = F331_ 344 10 := by rw [q376_]; exact fl_u_ne (by omega)
              have b384_ : 0 ≤ F331_ 344 10 ∧ F331_ 344 10 ≤ 600 := gi_g g332_ rfl
              have e385_ : F375_ 344 9 = F331_ 344 9 := by rw [q376_]; exact fl_u_ne (by omega)
              have b386_ : 0 ≤ F331_ 344 9 ∧ F331_ 344 9 ≤ 5 := gi_g g332_ rfl
              rintro A1_ (⟨F390_, hA_, g391_, s392_, c387_, c388_, c389_⟩ | ⟨F396_, hA_, g397_, s398_, c393_, c394_, c395_⟩)
              ·
                subst hA_
                have g399_ : fs [(344, 344, 5, 5), (344, 344, 9, 10), (362, 363, 0, 100000)] F F390_ := fs_tr g378_ s392_ rfl
                have rk400_ : rk K F390_ := rk_fs rk379_ s392_ (fun r k h => (fs_n (by omega) (fs_n (by omega) rfl))) (fs_n (by omega) (fs_n (by omega) rfl))
                try simp only [e380_, e383_, e385_] at c388_
                have c388_s := c388_.1 (by omega)
                clear c388_
                refine gr_v hm_174 rfl rfl ?_
                have b401_ : 0 ≤ F390_ 344 9 ∧ F390_ 344 9 ≤ 5 := gi_g g391_ rfl
                have b402_ : 0 ≤ F390_ 344 10 ∧ F390_ 344 10 ≤ 600 := gi_g g391_ rfl
                have b403_ : 0 ≤ F390_ 344 5 ∧ F390_ 344 5 ≤ 600 := gi_g g391_ rfl
                exact Or.inl ⟨F390_, rfl, g391_, g399_, (by omega), (⟨by intro h0_; have hs_ := c388_s; rw [spa_go (by omega) (ra_fi (by have x_ := (rpn_fs hpl s22_ (fun _ => (fs_n (by omega) rfl)) (fs_n (by omega) rfl)); rw [e66_] at x_; exact x_) c16_ c69_ c70_ c71_) (by omega) rfl, (show sk K (F 344 5) = F 344 5 + 1 by rw [sk, if_pos (by omega)])]; rw [if_pos (by omega), c154_, pb_r]; rw [if_pos (by omega), c327_, pb_r]; rw [hs_]; try (congr 2 <;> omega), fun h0_ => by exfalso; omega⟩), (by omega)⟩
              subst hA_
              have g404_ : fs [(344, 344, 5, 5), (344, 344, 9, 10), (362, 363, 0, 100000)] F F396_ := fs_tr g378_ s398_ rfl
              have rk405_ : rk K F396_ := rk_fs rk379_ s398_ (fun r k h => (fs_n (by omega) (fs_n (by omega) rfl))) (fs_n (by omega) (fs_n (by omega) rfl))
              try simp only [e385_] at c393_
              try simp only [e380_] at c394_
              refine gr_v hm_174 rfl rfl ?_
              have b406_ : 0 ≤ F396_ 344 9 ∧ F396_ 344 9 ≤ 5 := gi_g g397_ rfl
              have b407_ : 0 ≤ F396_ 344 5 ∧ F396_ 344 5 ≤ 600 := gi_g g397_ rfl
              exact Or.inr (⟨F396_, rfl, g397_, g404_, (by omega), (by rw [spa_go (by omega) (ra_fi (by have x_ := (rpn_fs hpl s22_ (fun _ => (fs_n (by omega) rfl)) (fs_n (by omega) rfl)); rw [e66_] at x_; exact x_) c16_ c69_ c70_ c71_) (by omega) rfl, (show sk K (F 344 5) = F 344 5 + 1 by rw [sk, if_pos (by omega)])]; rw [if_pos (by omega), c154_, pb_r]; rw [if_pos (by omega), c327_, pb_r]; rw [c394_]), (by omega)⟩)
            exfalso; omega
          exfalso; omega
        exfalso; omega
      refine ga_aload_n (v := .ref 344) hm_174 rfl rfl rfl ?_
      refine fl_iconst hm_174 rfl ?_
      have e408_ : F20_ 344 5 = F 344 5 := (s22_ 344 5 rfl).trans (rfl)
      refine gVv (nY := 2) (F := 0) (L := 0) (As := [.int (Int32.ofInt 3)]) (b := 344) (rest := []) hm_174 rfl hm_54 rfl rfl (fl_ob sc_344) rfl rfl rfl rfl rfl (by omega) (by omega) (mc_54 hG F20_ X g21_ (K) (3) hgK rk65_ hkt (by omega) (by omega)) (fun _ _ h => False.elim h) ?_
      have b410_ : 0 ≤ F20_ 344 10 ∧ F20_ 344 10 ≤ 600 := gi_g g21_ rfl
      rintro A1_ ⟨F414_, hA_, g415_, s416_, c411_, c412_, c413_⟩
      subst hA_
      have g417_ : fs [(344, 344, 5, 5), (344, 344, 9, 10), (362, 363, 0, 100000)] F F414_ := fs_tr g64_ s416_ rfl
      have rk418_ : rk K F414_ := rk_fs rk65_ s416_ (fun r k h => (fs_n (by omega) rfl)) (fs_n (by omega) rfl)
      try simp only [e408_] at c412_
      try simp only [e408_] at c413_
      have c412_s := c412_.1 (by omega)
      clear c412_
      refine ga_aload_n (v := .ref 344) hm_174 rfl rfl rfl ?_
      refine gIv (nY := 1) (F := 1) (L := 20) (As := []) (b := 344) (rest := []) hm_174 rfl hm_61 rfl rfl (fl_ob sc_344) rfl rfl rfl rfl rfl (by omega) (by omega) ?_
      intro f419_ l420_ h421_ h422_
      show fl_R xi_ms 61 f419_ l420_ 0 [(0, .ref 344)] [] _ _
      refine ga_aload_n (v := .ref 344) hm_61 rfl rfl rfl ?_
      refine ga_dup hm_61 rfl rfl ?_
      have e423_ : F414_ 344 5 = F 344 5 := (s416_ 344 5 rfl).trans (e408_)
      refine ga_geti (z := F 344 5) hm_61 rfl sc_344 rfl (e423_) ?_
      refine ga_aload_n (v := .ref 344) hm_61 rfl rfl rfl ?_
      refine gIi (nY := 1) (F := 0) (L := 0) (As := []) (b := 344) (rest := [.int (Int32.ofInt (F 344 5)), .ref 344]) hm_61 rfl hm_59 rfl rfl (fl_ob sc_344) rfl rfl rfl rfl rfl (by omega) (by omega) ?_
      intro f424_ l425_ h426_ h427_
      show fl_R xi_ms 59 f424_ l425_ 0 [(0, .ref 344)] [] _ _
      refine ga_aload_n (v := .ref 344) hm_59 rfl rfl rfl ?_
      have b428_ : 0 ≤ F414_ 344 9 ∧ F414_ 344 9 ≤ 5 := gi_g g415_ rfl
      refine ga_geti (z := F414_ 344 9) hm_59 rfl sc_344 rfl (rfl) ?_
      refine fl_if_le (a := F414_ 344 9) hm_59 rfl ⟨by omega, by omega⟩ (fun h429_ => ?_) (fun h430_ => ?_)
      · exfalso; omega
      refine fl_iconst hm_59 rfl ?_
      refine fl_goto hm_59 rfl ?_
      refine gr_i hm_59 rfl rfl (ga_nb (by omega)) ?_
      clear h426_ h427_ f424_ l425_
      refine fl_if_eq hm_61 rfl ⟨by omega, by omega⟩ (fun h => absurd h (by omega)) (fun _ => ?_)
      refine fl_iconst hm_61 rfl ?_
      refine fl_goto hm_61 rfl ?_
      refine ga_iadd (a := F 344 5) (b := 0) (c := F 344 5) hm_61 rfl (by omega) ?_
      refine ga_puti (z := F 344 5) hm_61 rfl sc_344 rfl rfl ?_
      refine gr_v hm_61 rfl rfl ?_
      clear h421_ h422_ f419_ l420_
      refine ga_aload_n (v := .ref 344) hm_174 rfl rfl rfl ?_
      refine gIi (nY := 1) (F := 0) (L := 0) (As := []) (b := 344) (rest := []) hm_174 rfl hm_59 rfl rfl (fl_ob sc_344) rfl rfl rfl rfl rfl (by omega) (by omega) ?_
      intro f431_ l432_ h433_ h434_
      show fl_R xi_ms 59 f431_ l432_ 0 [(0, .ref 344)] [] _ _
      refine ga_aload_n (v := .ref 344) hm_59 rfl rfl rfl ?_
      refine ga_geti (z := F414_ 344 9) hm_59 rfl sc_344 rfl (fl_u_ne (by omega)) ?_
      refine fl_if_le (a := F414_ 344 9) hm_59 rfl ⟨by omega, by omega⟩ (fun h435_ => ?_) (fun h436_ => ?_)
      · exfalso; omega
      refine fl_iconst hm_59 rfl ?_
      refine fl_goto hm_59 rfl ?_
      refine gr_i hm_59 rfl rfl (ga_nb (by omega)) ?_
      clear h433_ h434_ f431_ l432_
      refine fl_if_eq hm_174 rfl ⟨by omega, by omega⟩ (fun h => absurd h (by omega)) (fun _ => ?_)
      obtain ⟨F437_, q438_⟩ : ∃ F9_, F9_ = (fl_u F414_ 344 5 (F 344 5)) := ⟨_, rfl⟩
      rw [← q438_]
      have g439_ : gi F437_ := by rw [q438_]; exact gi_u (g415_) rfl (by omega) (by omega)
      have g440_ : fs [(344, 344, 5, 5), (344, 344, 9, 10), (362, 363, 0, 100000)] F F437_ := by rw [q438_]; exact fs_u (g417_) rfl
      have rk441_ : rk K F437_ := by rw [q438_]; exact rk_u (rk418_) (by omega) (by omega)
      refine gr_v hm_174 rfl rfl ?_
      have e442_ : F437_ 344 9 = F414_ 344 9 := by rw [q438_]; exact fl_u_ne (by omega)
      have e443_ : F437_ 344 10 = F414_ 344 10 := by rw [q438_]; exact fl_u_ne (by omega)
      have e444_ : F437_ 344 5 = F 344 5 := by rw [q438_]; exact fl_u_eq
      have b445_ : 0 ≤ F414_ 344 10 ∧ F414_ 344 10 ≤ 600 := gi_g g415_ rfl
      exact Or.inl ⟨F437_, rfl, g439_, g440_, (by omega), (⟨by intro h0_; have hs_ := c412_s; rw [sp_atom, if_pos (by omega), (ra_fi (by have x_ := (rpn_fs hpl s22_ (fun _ => (fs_n (by omega) rfl)) (fs_n (by omega) rfl)); rw [e66_] at x_; exact x_) c16_ c69_ c70_ c71_), if_pos (by omega)]; show Sum.inl (3, K 4 _) = _; congr 2 <;> omega, fun h0_ => by exfalso; omega⟩), (by omega)⟩
    exfalso; omega
  refine ga_aload_n (v := .ref 344) hm_174 rfl rfl rfl ?_
  have b446_ : 0 ≤ F 344 5 ∧ F 344 5 ≤ 600 := gi_g hgi rfl
  refine gVl (nY := 3) (F := 2) (L := 46) (As := []) (b := 344) (rest := []) hm_174 rfl hm_58 rfl rfl (fl_ob sc_344) rfl rfl rfl rfl rfl (by omega) (by omega) (mc_58 hG F X hgi (K) hgK hrk hkt (by omega)) (fun _ _ h => False.elim h) ?_
  have b448_ : 0 ≤ F 344 10 ∧ F 344 10 ≤ 600 := gi_g hgi rfl
  rintro z447_ A1_ (⟨F453_, hA_, g454_, s455_, c449_, c450_, c451_, c452_⟩ | ⟨F463_, hA_, g464_, s465_, c456_, c457_, c458_, c459_, c460_, c461_, c462_⟩)
  ·
    subst hA_
    have g466_ : fs [(344, 344, 5, 5), (344, 344, 9, 10), (362, 363, 0, 100000)] F F453_ := fs_tr fs_refl s455_ rfl
    have rk467_ : rk K F453_ := rk_fs hrk s455_ (fun r k h => (fs_n (by omega) rfl)) (fs_n (by omega) rfl)
    have c450_k := c450_.2 (by omega)
    clear c450_
    refine ga_lstore_n (lv2 := [(3, .long (Int64.ofInt z447_)), (0, .ref 344), (1, .int (Int32.ofInt a)), (2, .int (Int32.ofInt ll))]) hm_174 rfl (Nat.le_of_ble_eq_true rfl) rfl ?_
    refine ga_aload_n (v := .ref 344) hm_174 rfl rfl rfl ?_
    refine ga_getr (b := 350) hm_174 rfl sc_344 rfl ?_
    refine fl_iconst hm_174 rfl ?_
    refine ga_aload_n (v := .ref 344) hm_174 rfl rfl rfl ?_
    have e468_ : F453_ 344 17 = F 344 17 := (s455_ 344 17 rfl).trans (rfl)
    have b469_ : 0 ≤ F 344 17 ∧ F 344 17 ≤ 6 := gi_g hgi rfl
    refine ga_geti (z := F 344 17) hm_174 rfl sc_344 rfl (e468_) ?_
    refine ga_lload_n (z := z447_) hm_174 rfl rfl ?_
    refine gSi (nY := 7) (F := 0) (L := 0) (As := [.ref 350, .int (Int32.ofInt 0), .int (Int32.ofInt (F 344 17)), .long (Int64.ofInt z447_)]) (rest := []) hm_174 rfl hm_162 rfl rfl (fl_pos sc_0) rfl rfl rfl rfl (by omega) (by omega) (mc_162 hG F453_ X g454_ (350) (6) (0) (F 344 17) (z447_) sc_350 (fun _ => rfl) (by omega) (by omega))  ?_
    rintro z470_ A1_ ⟨hA_, c471_, c472_, c473_⟩
    subst hA_
    refine ga_istore (lv2 := [(5, .int (Int32.ofInt z470_)), (3, .long (Int64.ofInt z447_)), (0, .ref 344), (1, .int (Int32.ofInt a)), (2, .int (Int32.ofInt ll))]) hm_174 rfl (Nat.le_of_ble_eq_true rfl) rfl ?_
    refine ga_aload_n (v := .ref 344) hm_174 rfl rfl rfl ?_
    refine gIi (nY := 1) (F := 0) (L := 0) (As := []) (b := 344) (rest := []) hm_174 rfl hm_59 rfl rfl (fl_ob sc_344) rfl rfl rfl rfl rfl (by omega) (by omega) ?_
    intro f474_ l475_ h476_ h477_
    show fl_R xi_ms 59 f474_ l475_ 0 [(0, .ref 344)] [] _ _
    refine ga_aload_n (v := .ref 344) hm_59 rfl rfl rfl ?_
    have b478_ : 0 ≤ F453_ 344 9 ∧ F453_ 344 9 ≤ 5 := gi_g g454_ rfl
    refine ga_geti (z := F453_ 344 9) hm_59 rfl sc_344 rfl (rfl) ?_
    refine fl_if_le (a := F453_ 344 9) hm_59 rfl ⟨by omega, by omega⟩ (fun h479_ => ?_) (fun h480_ => ?_)
    · exfalso; omega
    refine fl_iconst hm_59 rfl ?_
    refine fl_goto hm_59 rfl ?_
    refine gr_i hm_59 rfl rfl (ga_nb (by omega)) ?_
    clear h476_ h477_ f474_ l475_
    refine fl_if_ne hm_174 rfl ⟨by omega, by omega⟩ (fun _ => ?_) (fun h => absurd (by omega) h)
    refine ga_aload_n (v := .ref 344) hm_174 rfl rfl rfl ?_
    refine gIv (nY := 1) (F := 1) (L := 20) (As := []) (b := 344) (rest := []) hm_174 rfl hm_61 rfl rfl (fl_ob sc_344) rfl rfl rfl rfl rfl (by omega) (by omega) ?_
    intro f481_ l482_ h483_ h484_
    show fl_R xi_ms 61 f481_ l482_ 0 [(0, .ref 344)] [] _ _
    refine ga_aload_n (v := .ref 344) hm_61 rfl rfl rfl ?_
    refine ga_dup hm_61 rfl rfl ?_
    have e485_ : F453_ 344 5 = F 344 5 := (s455_ 344 5 rfl).trans (rfl)
    refine ga_geti (z := F 344 5) hm_61 rfl sc_344 rfl (e485_) ?_
    refine ga_aload_n (v := .ref 344) hm_61 rfl rfl rfl ?_
    refine gIi (nY := 1) (F := 0) (L := 0) (As := []) (b := 344) (rest := [.int (Int32.ofInt (F 344 5)), .ref 344]) hm_61 rfl hm_59 rfl rfl (fl_ob sc_344) rfl rfl rfl rfl rfl (by omega) (by omega) ?_
    intro f486_ l487_ h488_ h489_
    show fl_R xi_ms 59 f486_ l487_ 0 [(0, .ref 344)] [] _ _
    refine ga_aload_n (v := .ref 344) hm_59 rfl rfl rfl ?_
    refine ga_geti (z := F453_ 344 9) hm_59 rfl sc_344 rfl (rfl) ?_
    refine fl_if_le (a := F453_ 344 9) hm_59 rfl ⟨by omega, by omega⟩ (fun h490_ => ?_) (fun h491_ => ?_)
    · exfalso; omega
    refine fl_iconst hm_59 rfl ?_
    refine fl_goto hm_59 rfl ?_
    refine gr_i hm_59 rfl rfl (ga_nb (by omega)) ?_
    clear h488_ h489_ f486_ l487_
    refine fl_if_eq hm_61 rfl ⟨by omega, by omega⟩ (fun h => absurd h (by omega)) (fun _ => ?_)
    refine fl_iconst hm_61 rfl ?_
    refine fl_goto hm_61 rfl ?_
    refine ga_iadd (a := F 344 5) (b := 0) (c := F 344 5) hm_61 rfl (by omega) ?_
    refine ga_puti (z := F 344 5) hm_61 rfl sc_344 rfl rfl ?_
    refine gr_v hm_61 rfl rfl ?_
    clear h483_ h484_ f481_ l482_
    refine ga_aload_n (v := .ref 344) hm_174 rfl rfl rfl ?_
    refine gIi (nY := 1) (F := 0) (L := 0) (As := []) (b := 344) (rest := []) hm_174 rfl hm_59 rfl rfl (fl_ob sc_344) rfl rfl rfl rfl rfl (by omega) (by omega) ?_
    intro f492_ l493_ h494_ h495_
    show fl_R xi_ms 59 f492_ l493_ 0 [(0, .ref 344)] [] _ _
    refine ga_aload_n (v := .ref 344) hm_59 rfl rfl rfl ?_
    refine ga_geti (z := F453_ 344 9) hm_59 rfl sc_344 rfl (fl_u_ne (by omega)) ?_
    refine fl_if_le (a := F453_ 344 9) hm_59 rfl ⟨by omega, by omega⟩ (fun h496_ => ?_) (fun h497_ => ?_)
    · exfalso; omega
    refine fl_iconst hm_59 rfl ?_
    refine fl_goto hm_59 rfl ?_
    refine gr_i hm_59 rfl rfl (ga_nb (by omega)) ?_
    clear h494_ h495_ f492_ l493_
    refine fl_if_eq hm_174 rfl ⟨by omega, by omega⟩ (fun h => absurd h (by omega)) (fun _ => ?_)
    obtain ⟨F498_, q499_⟩ : ∃ F9_, F9_ = (fl_u F453_ 344 5 (F 344 5)) := ⟨_, rfl⟩
    rw [← q499_]
    have g500_ : gi F498_ := by rw [q499_]; exact gi_u (g454_) rfl (by omega) (by omega)
    have g501_ : fs [(344, 344, 5, 5), (344, 344, 9, 10), (362, 363, 0, 100000)] F F498_ := by rw [q499_]; exact fs_u (g466_) rfl
    have rk502_ : rk K F498_ := by rw [q499_]; exact rk_u (rk467_) (by omega) (by omega)
    refine gr_v hm_174 rfl rfl ?_
    have e503_ : F498_ 344 9 = F453_ 344 9 := by rw [q499_]; exact fl_u_ne (by omega)
    have e504_ : F498_ 344 10 = F453_ 344 10 := by rw [q499_]; exact fl_u_ne (by omega)
    have e505_ : F498_ 344 5 = F 344 5 := by rw [q499_]; exact fl_u_eq
    have b506_ : 0 ≤ F453_ 344 10 ∧ F453_ 344 10 ≤ 600 := gi_g g454_ rfl
    exact Or.inl ⟨F498_, rfl, g500_, g501_, (by omega), (⟨fun h0_ => by exfalso; omega, fun h0_ => by constructor <;> omega⟩), (by omega)⟩
  exfalso; omega

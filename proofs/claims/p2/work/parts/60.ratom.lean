/- CheapPlannerModel.readAtom -/
abbrev pq_174 (G : Nat → Nat → Option Nat) (F : fl_N) (X : xi_H) (K : fl_N) (a ll k : Int) (l tl pl : List Int) (ps : List (List Int)) : Outcome → xi_H → Prop := gqv (fun A => (∃ F' : fl_N, fl_H sh_T G F' ++ X = A ∧ gi F' ∧ fs [(344, 344, 5, 5), (344, 344, 9, 10), (362, 363, 0, 100000)] F F' ∧ (¬ F' 344 9 = 0) ∧ ((F 344 9 = 0 → sp_atom K k l tl pl ps (F 344 5) = .inl (F' 344 9, F' 344 10)) ∧ (¬ F 344 9 = 0 → F' 344 9 = F 344 9 ∧ F' 344 10 = F 344 10)) ∧ (0 ≤ F' 344 5 ∧ F' 344 5 ≤ K 1 6 - 1)) ∨ (∃ F' : fl_N, fl_H sh_T G F' ++ X = A ∧ gi F' ∧ fs [(344, 344, 5, 5), (344, 344, 9, 10), (362, 363, 0, 100000)] F F' ∧ (F' 344 9 = 0 ∧ F 344 9 = 0) ∧ (sp_atom K k l tl pl ps (F 344 5) = .inr (F' 344 5)) ∧ (0 ≤ F' 344 5 ∧ F' 344 5 ≤ K 1 6 - 1))) gqn
set_option maxHeartbeats 16000000 in
theorem mc_174 {G : Nat → Nat → Option Nat} (hG : gg G) (F : fl_N) (X : xi_H) (hgi : gi F) (K : fl_N) (a ll k : Int) (l tl pl : List Int) (ps : List (List Int)) (hgK : gi K) (hrk : rk K F) (hkt : rkt K) (hp : 0 ≤ F 344 5 ∧ F 344 5 ≤ K 1 6 - 1) (ht : trm F a k l tl) (hlt : l.length = tl.length) (ha : 0 ≤ a ∧ a ≤ 5) (hpl : rpn (F 350) (F 344 17) pl) (hps : rprd F ps ∧ ps.length = pl.length) (hll : 0 ≤ ll ∧ ll ≤ 43) : fl_M xi_ms 174 4 91 [.ref 344, .int (Int32.ofInt a), .int (Int32.ofInt ll)] (fl_H sh_T G F ++ X) (pq_174 G F X K a ll k l tl pl ps) := by
  intro fr lo hfr hlo
  show fl_R xi_ms 174 fr lo 0 [(0, .ref 344), (1, .int (Int32.ofInt a)), (2, .int (Int32.ofInt ll))] [] _ _
  have hP := rkt_p hkt hp.1 hp.2 hgK
  have hK16 : 0 ≤ K 1 6 ∧ K 1 6 ≤ 601 := gi_g hgK rfl
  have hko := hkt.1
  have hpl1 := hpl.1
  have hb17 : 0 ≤ F 344 17 ∧ F 344 17 ≤ 6 := gi_g hgi rfl
  have b1_ : 0 ≤ F 344 9 ∧ F 344 9 ≤ 5 := gi_g hgi rfl
  by_cases h2_ : F 344 9 = 0
  ·
    refine ga_aload_n (v := .ref 344) hm_174 rfl rfl rfl ?_
    have b3_ : 0 ≤ F 344 5 ∧ F 344 5 ≤ 600 := gi_g hgi rfl
    refine gVl (nY := 3) (F := 2) (L := 46) (As := []) (b := 344) (rest := []) hm_174 rfl hm_58 rfl rfl (fl_ob sc_344) rfl rfl rfl rfl rfl (by omega) (by omega) (mc_58 hG F X hgi (K) hgK hrk hkt (by omega)) (fun _ _ h => False.elim h) ?_
    have b5_ : 0 ≤ F 344 10 ∧ F 344 10 ≤ 600 := gi_g hgi rfl
    rintro z4_ A1_ (⟨F10_, hA_, g11_, s12_, c6_, c7_, c8_, c9_⟩ | ⟨F19_, hA_, g20_, s21_, c13_, c14_, c15_, c16_, c17_, c18_⟩)
    ·
      subst hA_
      have g22_ : fs [(344, 344, 5, 5), (344, 344, 9, 10), (362, 363, 0, 100000)] F F10_ := fs_tr fs_refl s12_ rfl
      have rk23_ : rk K F10_ := rk_fs hrk s12_ (fun r k h => (fs_n (by omega) rfl)) (fs_n (by omega) rfl)
      have e24_ : F10_ 344 5 = F 344 5 := (s12_ 344 5 rfl).trans (rfl)
      refine ga_lstore_n (lv2 := [(3, .long (Int64.ofInt z4_)), (0, .ref 344), (1, .int (Int32.ofInt a)), (2, .int (Int32.ofInt ll))]) hm_174 rfl (Nat.le_of_ble_eq_true rfl) rfl ?_
      refine ga_aload_n (v := .ref 344) hm_174 rfl rfl rfl ?_
      refine ga_getr (b := 350) hm_174 rfl sc_344 rfl ?_
      refine fl_iconst hm_174 rfl ?_
      refine ga_aload_n (v := .ref 344) hm_174 rfl rfl rfl ?_
      have e25_ : F10_ 344 17 = F 344 17 := (s12_ 344 17 rfl).trans (rfl)
      have b26_ : 0 ≤ F 344 17 ∧ F 344 17 ≤ 6 := gi_g hgi rfl
      refine ga_geti (z := F 344 17) hm_174 rfl sc_344 rfl (e25_) ?_
      refine ga_lload_n (z := z4_) hm_174 rfl rfl ?_
      refine gSi (nY := 7) (F := 0) (L := 0) (As := [.ref 350, .int (Int32.ofInt 0), .int (Int32.ofInt (F 344 17)), .long (Int64.ofInt z4_)]) (rest := []) hm_174 rfl hm_162 rfl rfl (fl_pos sc_0) rfl rfl rfl rfl (by omega) (by omega) (mc_162 hG F10_ X g11_ (350) (6) (0) (F 344 17) (z4_) sc_350 (fun _ => rfl) (by omega) (by omega))  ?_
      rintro z27_ A1_ ⟨hA_, c28_, c29_, c30_⟩
      subst hA_
      refine ga_istore (lv2 := [(5, .int (Int32.ofInt z27_)), (3, .long (Int64.ofInt z4_)), (0, .ref 344), (1, .int (Int32.ofInt a)), (2, .int (Int32.ofInt ll))]) hm_174 rfl (Nat.le_of_ble_eq_true rfl) rfl ?_
      refine ga_aload_n (v := .ref 344) hm_174 rfl rfl rfl ?_
      refine gIi (nY := 1) (F := 0) (L := 0) (As := []) (b := 344) (rest := []) hm_174 rfl hm_59 rfl rfl (fl_ob sc_344) rfl rfl rfl rfl rfl (by omega) (by omega) ?_
      intro f31_ l32_ h33_ h34_
      show fl_R xi_ms 59 f31_ l32_ 0 [(0, .ref 344)] [] _ _
      refine ga_aload_n (v := .ref 344) hm_59 rfl rfl rfl ?_
      have b35_ : 0 ≤ F10_ 344 9 ∧ F10_ 344 9 ≤ 5 := gi_g g11_ rfl
      refine ga_geti (z := F10_ 344 9) hm_59 rfl sc_344 rfl (rfl) ?_
      refine fl_if_le (a := F10_ 344 9) hm_59 rfl ⟨by omega, by omega⟩ (fun h36_ => ?_) (fun h37_ => ?_)
      · exfalso; omega
      refine fl_iconst hm_59 rfl ?_
      refine fl_goto hm_59 rfl ?_
      refine gr_i hm_59 rfl rfl (ga_nb (by omega)) ?_
      refine fl_if_ne hm_174 rfl ⟨by omega, by omega⟩ (fun _ => ?_) (fun h => absurd (by omega) h)
      refine ga_aload_n (v := .ref 344) hm_174 rfl rfl rfl ?_
      refine gIv (nY := 1) (F := 1) (L := 20) (As := []) (b := 344) (rest := []) hm_174 rfl hm_61 rfl rfl (fl_ob sc_344) rfl rfl rfl rfl rfl (by omega) (by omega) ?_
      intro f38_ l39_ h40_ h41_
      show fl_R xi_ms 61 f38_ l39_ 0 [(0, .ref 344)] [] _ _
      refine ga_aload_n (v := .ref 344) hm_61 rfl rfl rfl ?_
      refine ga_dup hm_61 rfl rfl ?_
      refine ga_geti (z := F 344 5) hm_61 rfl sc_344 rfl (e24_) ?_
      refine ga_aload_n (v := .ref 344) hm_61 rfl rfl rfl ?_
      refine gIi (nY := 1) (F := 0) (L := 0) (As := []) (b := 344) (rest := [.int (Int32.ofInt (F 344 5)), .ref 344]) hm_61 rfl hm_59 rfl rfl (fl_ob sc_344) rfl rfl rfl rfl rfl (by omega) (by omega) ?_
      intro f42_ l43_ h44_ h45_
      show fl_R xi_ms 59 f42_ l43_ 0 [(0, .ref 344)] [] _ _
      refine ga_aload_n (v := .ref 344) hm_59 rfl rfl rfl ?_
      refine ga_geti (z := F10_ 344 9) hm_59 rfl sc_344 rfl (rfl) ?_
      refine fl_if_le (a := F10_ 344 9) hm_59 rfl ⟨by omega, by omega⟩ (fun h46_ => ?_) (fun h47_ => ?_)
      · exfalso; omega
      refine fl_iconst hm_59 rfl ?_
      refine fl_goto hm_59 rfl ?_
      refine gr_i hm_59 rfl rfl (ga_nb (by omega)) ?_
      refine fl_if_eq hm_61 rfl ⟨by omega, by omega⟩ (fun h => absurd h (by omega)) (fun _ => ?_)
      refine fl_iconst hm_61 rfl ?_
      refine fl_goto hm_61 rfl ?_
      refine ga_iadd (a := F 344 5) (b := 0) (c := F 344 5) hm_61 rfl (by omega) ?_
      refine ga_puti (z := F 344 5) hm_61 rfl sc_344 rfl rfl ?_
      refine gr_v hm_61 rfl rfl ?_
      refine ga_aload_n (v := .ref 344) hm_174 rfl rfl rfl ?_
      refine gIi (nY := 1) (F := 0) (L := 0) (As := []) (b := 344) (rest := []) hm_174 rfl hm_59 rfl rfl (fl_ob sc_344) rfl rfl rfl rfl rfl (by omega) (by omega) ?_
      intro f48_ l49_ h50_ h51_
      show fl_R xi_ms 59 f48_ l49_ 0 [(0, .ref 344)] [] _ _
      refine ga_aload_n (v := .ref 344) hm_59 rfl rfl rfl ?_
      refine ga_geti (z := F10_ 344 9) hm_59 rfl sc_344 rfl (fl_u_ne (by omega)) ?_
      refine fl_if_le (a := F10_ 344 9) hm_59 rfl ⟨by omega, by omega⟩ (fun h52_ => ?_) (fun h53_ => ?_)
      · exfalso; omega
      refine fl_iconst hm_59 rfl ?_
      refine fl_goto hm_59 rfl ?_
      refine gr_i hm_59 rfl rfl (ga_nb (by omega)) ?_
      refine fl_if_eq hm_174 rfl ⟨by omega, by omega⟩ (fun h => absurd h (by omega)) (fun _ => ?_)
      obtain ⟨F54_, q55_⟩ : ∃ F9_, F9_ = (fl_u F10_ 344 5 (F 344 5)) := ⟨_, rfl⟩
      rw [← q55_]
      have g56_ : gi F54_ := by rw [q55_]; exact gi_u (g11_) rfl (by omega) (by omega)
      have g57_ : fs [(344, 344, 5, 5), (344, 344, 9, 10), (362, 363, 0, 100000)] F F54_ := by rw [q55_]; exact fs_u (g22_) rfl
      have rk58_ : rk K F54_ := by rw [q55_]; exact rk_u (rk23_) (by omega) (by omega)
      refine gr_v hm_174 rfl rfl ?_
      have e59_ : F54_ 344 9 = F10_ 344 9 := by rw [q55_]; exact fl_u_ne (by omega)
      have e60_ : F54_ 344 10 = F10_ 344 10 := by rw [q55_]; exact fl_u_ne (by omega)
      have e61_ : F54_ 344 5 = F 344 5 := by rw [q55_]; exact fl_u_eq
      have b62_ : 0 ≤ F10_ 344 10 ∧ F10_ 344 10 ≤ 600 := gi_g g11_ rfl
      exact Or.inl ⟨F54_, rfl, g56_, g57_, (by omega), (⟨by intro h0_; have hs_ := c7_.1 (by omega); have h1_ := nm_no hs_; rw [sp_nm, if_neg h1_] at hs_; have h2_ := Prod.mk.inj (Sum.inl.inj hs_); rw [sp_atom, if_neg h1_]; show Sum.inl (1, K 4 _) = _; congr 2 <;> omega, fun h0_ => by exfalso; omega⟩), (by omega)⟩
    subst hA_
    have g63_ : fs [(344, 344, 5, 5), (344, 344, 9, 10), (362, 363, 0, 100000)] F F19_ := fs_tr fs_refl s21_ rfl
    have rk64_ : rk K F19_ := rk_fs hrk s21_ (fun r k h => (fs_n (by omega) rfl)) (fs_n (by omega) rfl)
    have e65_ : F19_ 344 5 = F 344 5 := (s21_ 344 5 rfl).trans (rfl)
    refine ga_lstore_n (lv2 := [(3, .long (Int64.ofInt z4_)), (0, .ref 344), (1, .int (Int32.ofInt a)), (2, .int (Int32.ofInt ll))]) hm_174 rfl (Nat.le_of_ble_eq_true rfl) rfl ?_
    refine ga_aload_n (v := .ref 344) hm_174 rfl rfl rfl ?_
    refine ga_getr (b := 350) hm_174 rfl sc_344 rfl ?_
    refine fl_iconst hm_174 rfl ?_
    refine ga_aload_n (v := .ref 344) hm_174 rfl rfl rfl ?_
    have e66_ : F19_ 344 17 = F 344 17 := (s21_ 344 17 rfl).trans (rfl)
    have b67_ : 0 ≤ F 344 17 ∧ F 344 17 ≤ 6 := gi_g hgi rfl
    refine ga_geti (z := F 344 17) hm_174 rfl sc_344 rfl (e66_) ?_
    refine ga_lload_n (z := z4_) hm_174 rfl rfl ?_
    refine gSi (nY := 7) (F := 0) (L := 0) (As := [.ref 350, .int (Int32.ofInt 0), .int (Int32.ofInt (F 344 17)), .long (Int64.ofInt z4_)]) (rest := []) hm_174 rfl hm_162 rfl rfl (fl_pos sc_0) rfl rfl rfl rfl (by omega) (by omega) (mc_162 hG F19_ X g20_ (350) (6) (0) (F 344 17) (z4_) sc_350 (fun _ => rfl) (by omega) (by omega))  ?_
    rintro z68_ A1_ ⟨hA_, c69_, c70_, c71_⟩
    subst hA_
    refine ga_istore (lv2 := [(5, .int (Int32.ofInt z68_)), (3, .long (Int64.ofInt z4_)), (0, .ref 344), (1, .int (Int32.ofInt a)), (2, .int (Int32.ofInt ll))]) hm_174 rfl (Nat.le_of_ble_eq_true rfl) rfl ?_
    refine ga_aload_n (v := .ref 344) hm_174 rfl rfl rfl ?_
    refine gIi (nY := 1) (F := 0) (L := 0) (As := []) (b := 344) (rest := []) hm_174 rfl hm_59 rfl rfl (fl_ob sc_344) rfl rfl rfl rfl rfl (by omega) (by omega) ?_
    intro f72_ l73_ h74_ h75_
    show fl_R xi_ms 59 f72_ l73_ 0 [(0, .ref 344)] [] _ _
    refine ga_aload_n (v := .ref 344) hm_59 rfl rfl rfl ?_
    have b76_ : 0 ≤ F19_ 344 9 ∧ F19_ 344 9 ≤ 5 := gi_g g20_ rfl
    refine ga_geti (z := F19_ 344 9) hm_59 rfl sc_344 rfl (rfl) ?_
    refine fl_if_le (a := F19_ 344 9) hm_59 rfl ⟨by omega, by omega⟩ (fun h77_ => ?_) (fun h78_ => ?_)
    ·
      refine fl_iconst hm_59 rfl ?_
      refine gr_i hm_59 rfl rfl (ga_nb (by omega)) ?_
      refine fl_if_ne hm_174 rfl ⟨by omega, by omega⟩ (fun h => absurd h (by omega)) (fun _ => ?_)
      refine ga_iload (z := z68_) hm_174 rfl rfl ?_
      refine fl_iconst hm_174 rfl ?_
      refine fx_icmp_ne (a := z68_) (b := -1) hm_174 rfl ⟨by omega, by omega⟩ ⟨by omega, by omega⟩ (fun h79_ => ?_) (fun h80_ => ?_)
      ·
        refine ga_aload_n (v := .ref 344) hm_174 rfl rfl rfl ?_
        refine gIv (nY := 1) (F := 1) (L := 20) (As := []) (b := 344) (rest := []) hm_174 rfl hm_61 rfl rfl (fl_ob sc_344) rfl rfl rfl rfl rfl (by omega) (by omega) ?_
        intro f81_ l82_ h83_ h84_
        show fl_R xi_ms 61 f81_ l82_ 0 [(0, .ref 344)] [] _ _
        refine ga_aload_n (v := .ref 344) hm_61 rfl rfl rfl ?_
        refine ga_dup hm_61 rfl rfl ?_
        refine ga_geti (z := F 344 5) hm_61 rfl sc_344 rfl (e65_) ?_
        refine ga_aload_n (v := .ref 344) hm_61 rfl rfl rfl ?_
        refine gIi (nY := 1) (F := 0) (L := 0) (As := []) (b := 344) (rest := [.int (Int32.ofInt (F 344 5)), .ref 344]) hm_61 rfl hm_59 rfl rfl (fl_ob sc_344) rfl rfl rfl rfl rfl (by omega) (by omega) ?_
        intro f85_ l86_ h87_ h88_
        show fl_R xi_ms 59 f85_ l86_ 0 [(0, .ref 344)] [] _ _
        refine ga_aload_n (v := .ref 344) hm_59 rfl rfl rfl ?_
        refine ga_geti (z := F19_ 344 9) hm_59 rfl sc_344 rfl (rfl) ?_
        refine fl_if_le (a := F19_ 344 9) hm_59 rfl ⟨by omega, by omega⟩ (fun h89_ => ?_) (fun h90_ => ?_)
        ·
          refine fl_iconst hm_59 rfl ?_
          refine gr_i hm_59 rfl rfl (ga_nb (by omega)) ?_
          refine fl_if_eq hm_61 rfl ⟨by omega, by omega⟩ (fun _ => ?_) (fun h => absurd (by omega) h)
          refine fl_iconst hm_61 rfl ?_
          refine ga_iadd (a := F 344 5) (b := 1) (c := F 344 5 + 1) hm_61 rfl (by omega) ?_
          refine ga_puti (z := F 344 5 + 1) hm_61 rfl sc_344 rfl rfl ?_
          refine gr_v hm_61 rfl rfl ?_
          refine ga_aload_n (v := .ref 344) hm_174 rfl rfl rfl ?_
          refine gIi (nY := 1) (F := 0) (L := 0) (As := []) (b := 344) (rest := []) hm_174 rfl hm_59 rfl rfl (fl_ob sc_344) rfl rfl rfl rfl rfl (by omega) (by omega) ?_
          intro f91_ l92_ h93_ h94_
          show fl_R xi_ms 59 f91_ l92_ 0 [(0, .ref 344)] [] _ _
          refine ga_aload_n (v := .ref 344) hm_59 rfl rfl rfl ?_
          refine ga_geti (z := F19_ 344 9) hm_59 rfl sc_344 rfl (fl_u_ne (by omega)) ?_
          refine fl_if_le (a := F19_ 344 9) hm_59 rfl ⟨by omega, by omega⟩ (fun h95_ => ?_) (fun h96_ => ?_)
          ·
            refine fl_iconst hm_59 rfl ?_
            refine gr_i hm_59 rfl rfl (ga_nb (by omega)) ?_
            refine fl_if_eq hm_174 rfl ⟨by omega, by omega⟩ (fun _ => ?_) (fun h => absurd (by omega) h)
            refine ga_aload_n (v := .ref 344) hm_174 rfl rfl rfl ?_
            refine ga_getr (b := 362) hm_174 rfl sc_344 rfl ?_
            refine ga_iload_n (z := ll) hm_174 rfl rfl ?_
            refine ga_iload (z := z68_) hm_174 rfl rfl ?_
            refine fl_iast (z := ll) (v := z68_) hm_174 rfl sc_362 (by omega) (by omega) (by omega) ?_
            obtain ⟨hz1_, hz2_, hz3_⟩ := hps.1 (z68_).toNat (by omega)
            have hg0 : 0 < (ps.getD (z68_).toNat []).length → F 352 (2 * z68_).toNat = (ps.getD (z68_).toNat []).getD 0 0 + 1 := fun h => by have h9 := rty_get hz2_ (j := 0) h; rwa [show 2 * (z68_).toNat + 0 = (2 * z68_).toNat by omega] at h9
            have hg1 : 1 < (ps.getD (z68_).toNat []).length → F 352 (2 * z68_ + 1).toNat = (ps.getD (z68_).toNat []).getD 1 0 + 1 := fun h => by have h9 := rty_get hz2_ (j := 1) h; rwa [show 2 * (z68_).toNat + 1 = (2 * z68_ + 1).toNat by omega] at h9
            refine fl_iconst hm_174 rfl ?_
            refine ga_istore (lv2 := [(6, .int (Int32.ofInt 0)), (5, .int (Int32.ofInt z68_)), (3, .long (Int64.ofInt z4_)), (0, .ref 344), (1, .int (Int32.ofInt a)), (2, .int (Int32.ofInt ll))]) hm_174 rfl (Nat.le_of_ble_eq_true rfl) rfl ?_
            refine ga_iload (z := 0) hm_174 rfl rfl ?_
            refine ga_aload_n (v := .ref 344) hm_174 rfl rfl rfl ?_
            refine ga_getr (b := 351) hm_174 rfl sc_344 rfl ?_
            refine ga_iload (z := z68_) hm_174 rfl rfl ?_
            have e97_ : F19_ 351 z68_.toNat = F 351 z68_.toNat := (s21_ 351 z68_.toNat (fs_n (by omega) rfl)).trans (rfl)
            have b98_ : 0 ≤ F 351 z68_.toNat ∧ F 351 z68_.toNat ≤ 2 := gi_g hgi rfl
            refine ga_iald (z := z68_) (w := F 351 z68_.toNat) hm_174 rfl sc_351 (by omega) (by omega) (by omega) ((fl_u_ne (by omega)).trans ((fl_u_ne (by omega)).trans (e97_))) ?_
            refine fl_icmp_ge (a := 0) (b := F 351 z68_.toNat) hm_174 rfl ⟨by omega, by omega⟩ ⟨by omega, by omega⟩ (fun h99_ => ?_) (fun h100_ => ?_)
            ·
              refine ga_aload_n (v := .ref 344) hm_174 rfl rfl rfl ?_
              refine fl_bipush hm_174 rfl rfl ?_
              obtain ⟨F101_, q102_⟩ : ∃ F9_, F9_ = (fl_u (fl_u F19_ 344 5 (F 344 5 + 1)) 362 ll.toNat z68_) := ⟨_, rfl⟩
              rw [← q102_]
              have g103_ : gi F101_ := by rw [q102_]; exact gi_u (gi_u (g20_) rfl (by omega) (by omega)) rfl (by omega) (by omega)
              have g104_ : fs [(344, 344, 5, 5), (344, 344, 9, 10), (362, 363, 0, 100000)] F F101_ := by rw [q102_]; exact fs_u (fs_u (g63_) rfl) (fs_z (fs_z (fs_y (by omega))))
              have rk105_ : rk K F101_ := by rw [q102_]; exact rk_u (rk_u (rk64_) (by omega) (by omega)) (by omega) (by omega)
              have e106_ : F101_ 344 5 = F 344 5 + 1 := by rw [q102_]; exact (fl_u_ne (by omega)).trans (fl_u_eq)
              refine gVv (nY := 2) (F := 2) (L := 41) (As := [.int (Int32.ofInt 41)]) (b := 344) (rest := []) hm_174 rfl hm_51 rfl rfl (fl_ob sc_344) rfl rfl rfl rfl rfl (by omega) (by omega) (mc_51 hG F101_ X g103_ (K) (41) (1) hgK rk105_ hkt (by omega) (by omega) (by omega)) (fun _ _ h => False.elim h) ?_
              have e108_ : F101_ 344 10 = F19_ 344 10 := by rw [q102_]; exact (fl_u_ne (by omega)).trans (fl_u_ne (by omega))
              have b109_ : 0 ≤ F19_ 344 10 ∧ F19_ 344 10 ≤ 600 := gi_g g20_ rfl
              have e110_ : F101_ 344 9 = F19_ 344 9 := by rw [q102_]; exact (fl_u_ne (by omega)).trans (fl_u_ne (by omega))
              rintro A1_ (⟨F114_, hA_, g115_, s116_, c111_, c112_, c113_⟩ | ⟨F120_, hA_, g121_, s122_, c117_, c118_, c119_⟩)
              ·
                subst hA_
                have g123_ : fs [(344, 344, 5, 5), (344, 344, 9, 10), (362, 363, 0, 100000)] F F114_ := fs_tr g104_ s116_ rfl
                have rk124_ : rk K F114_ := rk_fs rk105_ s116_ (fun r k h => (fs_n (by omega) (fs_n (by omega) rfl))) (fs_n (by omega) (fs_n (by omega) rfl))
                try simp only [e106_, e108_, e110_] at c112_
                have hP125_ := rkt_p hkt (p := F 344 5 + 1) (by omega) (by omega) hgK
                have hP126_ := rkt_p hkt (p := F114_ 344 5) (by omega) (by omega) hgK
                refine gr_v hm_174 rfl rfl ?_
                have b127_ : 0 ≤ F114_ 344 9 ∧ F114_ 344 9 ≤ 5 := gi_g g115_ rfl
                have b128_ : 0 ≤ F114_ 344 10 ∧ F114_ 344 10 ≤ 600 := gi_g g115_ rfl
                have b129_ : 0 ≤ F114_ 344 5 ∧ F114_ 344 5 ≤ 600 := gi_g g115_ rfl
                exact Or.inl ⟨F114_, rfl, g115_, g123_, (by omega), (⟨by intro h0_; have hs_ := c112_.1 (by omega); rw [spa_go (by omega) (ra_fi (by have x_ := (rpn_fs hpl s21_ (fun _ => (fs_n (by omega) rfl)) (fs_n (by omega) rfl)); rw [e66_] at x_; exact x_) c16_ c69_ c70_ c71_) (by omega) rfl, (show sk K (F 344 5) = F 344 5 + 1 by rw [sk, if_pos (by omega)])]; rw [if_neg (by omega), pb_r]; rw [if_neg (by omega), pb_r]; rw [hs_]; try (congr 2 <;> omega), fun h0_ => by exfalso; omega⟩), (by omega)⟩
              subst hA_
              have g130_ : fs [(344, 344, 5, 5), (344, 344, 9, 10), (362, 363, 0, 100000)] F F120_ := fs_tr g104_ s122_ rfl
              have rk131_ : rk K F120_ := rk_fs rk105_ s122_ (fun r k h => (fs_n (by omega) (fs_n (by omega) rfl))) (fs_n (by omega) (fs_n (by omega) rfl))
              try simp only [e110_] at c117_
              try simp only [e106_] at c118_
              have hP132_ := rkt_p hkt (p := F 344 5 + 1) (by omega) (by omega) hgK
              have hP133_ := rkt_p hkt (p := F120_ 344 5) (by omega) (by omega) hgK
              refine gr_v hm_174 rfl rfl ?_
              have b134_ : 0 ≤ F120_ 344 9 ∧ F120_ 344 9 ≤ 5 := gi_g g121_ rfl
              have b135_ : 0 ≤ F120_ 344 5 ∧ F120_ 344 5 ≤ 600 := gi_g g121_ rfl
              exact Or.inr (⟨F120_, rfl, g121_, g130_, (by omega), (by rw [spa_go (by omega) (ra_fi (by have x_ := (rpn_fs hpl s21_ (fun _ => (fs_n (by omega) rfl)) (fs_n (by omega) rfl)); rw [e66_] at x_; exact x_) c16_ c69_ c70_ c71_) (by omega) rfl, (show sk K (F 344 5) = F 344 5 + 1 by rw [sk, if_pos (by omega)])]; rw [if_neg (by omega), pb_r]; rw [if_neg (by omega), pb_r]; rw [c118_]), (by omega)⟩)
            refine ga_aload_n (v := .ref 344) hm_174 rfl rfl rfl ?_
            refine ga_getr (b := 363) hm_174 rfl sc_344 rfl ?_
            refine fl_iconst hm_174 rfl ?_
            refine ga_iload_n (z := ll) hm_174 rfl rfl ?_
            refine ga_imul (a := 2) (b := ll) (c := 2 * ll) hm_174 rfl (by omega) ?_
            refine ga_iload (z := 0) hm_174 rfl rfl ?_
            refine ga_iadd (a := 2 * ll) (b := 0) (c := 2 * ll) hm_174 rfl (by omega) ?_
            refine ga_aload_n (v := .ref 344) hm_174 rfl rfl rfl ?_
            refine ga_iload_n (z := a) hm_174 rfl rfl ?_
            refine ga_aload_n (v := .ref 344) hm_174 rfl rfl rfl ?_
            refine ga_getr (b := 352) hm_174 rfl sc_344 rfl ?_
            refine fl_iconst hm_174 rfl ?_
            refine ga_iload (z := z68_) hm_174 rfl rfl ?_
            refine ga_imul (a := 2) (b := z68_) (c := 2 * z68_) hm_174 rfl (by omega) ?_
            refine ga_iload (z := 0) hm_174 rfl rfl ?_
            refine ga_iadd (a := 2 * z68_) (b := 0) (c := 2 * z68_) hm_174 rfl (by omega) ?_
            have e136_ : F19_ 352 (2 * z68_).toNat = F 352 (2 * z68_).toNat := (s21_ 352 (2 * z68_).toNat (fs_n (by omega) rfl)).trans (rfl)
            have b137_ : 0 ≤ F 352 (2 * z68_).toNat ∧ F 352 (2 * z68_).toNat ≤ 4 := gi_g hgi rfl
            refine ga_iald (z := 2 * z68_) (w := F 352 (2 * z68_).toNat) hm_174 rfl sc_352 (by omega) (by omega) (by omega) ((fl_u_ne (by omega)).trans ((fl_u_ne (by omega)).trans (e136_))) ?_
            obtain ⟨F138_, q139_⟩ : ∃ F9_, F9_ = (fl_u (fl_u F19_ 344 5 (F 344 5 + 1)) 362 ll.toNat z68_) := ⟨_, rfl⟩
            rw [← q139_]
            have g140_ : gi F138_ := by rw [q139_]; exact gi_u (gi_u (g20_) rfl (by omega) (by omega)) rfl (by omega) (by omega)
            have g141_ : fs [(344, 344, 5, 5), (344, 344, 9, 10), (362, 363, 0, 100000)] F F138_ := by rw [q139_]; exact fs_u (fs_u (g63_) rfl) (fs_z (fs_z (fs_y (by omega))))
            have rk142_ : rk K F138_ := by rw [q139_]; exact rk_u (rk_u (rk64_) (by omega) (by omega)) (by omega) (by omega)
            have e143_ : F138_ 344 5 = F 344 5 + 1 := by rw [q139_]; exact (fl_u_ne (by omega)).trans (fl_u_eq)
            refine gVi (nY := 6) (F := 3) (L := 66) (As := [.int (Int32.ofInt a), .int (Int32.ofInt (F 352 (2 * z68_).toNat))]) (b := 344) (rest := [.int (Int32.ofInt (2 * ll)), .ref 363]) hm_174 rfl hm_185 rfl rfl (fl_ob sc_344) rfl rfl rfl rfl rfl (by omega) (by omega) (mc_185 hG F138_ X g140_ (K) (a) (F 352 (2 * z68_).toNat) (k) ((ps.getD (z68_).toNat []).getD 0 0) (l) (tl) hgK rk142_ hkt (by omega) ((by rw [q139_]; exact (trm_u (trm_u (trm_fs ht s21_ (fun r j hj => (fs_n (by omega) rfl))) (by omega)) (by omega)))) (hlt) (by have h9 := hg0 (by omega); omega) (by omega)) (fun _ _ h => False.elim h) ?_
            have e145_ : F138_ 344 10 = F19_ 344 10 := by rw [q139_]; exact (fl_u_ne (by omega)).trans (fl_u_ne (by omega))
            have b146_ : 0 ≤ F19_ 344 10 ∧ F19_ 344 10 ≤ 600 := gi_g g20_ rfl
            have e147_ : F138_ 344 9 = F19_ 344 9 := by rw [q139_]; exact (fl_u_ne (by omega)).trans (fl_u_ne (by omega))
            rintro z144_ A1_ (⟨F152_, hA_, g153_, s154_, c148_, c149_, c150_, c151_⟩ | ⟨F159_, hA_, g160_, s161_, c155_, c156_, c157_, c158_⟩)
            ·
              subst hA_
              have g162_ : fs [(344, 344, 5, 5), (344, 344, 9, 10), (362, 363, 0, 100000)] F F152_ := fs_tr g141_ s154_ rfl
              have rk163_ : rk K F152_ := rk_fs rk142_ s154_ (fun r k h => (fs_n (by omega) (fs_n (by omega) rfl))) (fs_n (by omega) (fs_n (by omega) rfl))
              try simp only [e143_, e145_, e147_] at c149_
              have hP164_ := rkt_p hkt (p := F 344 5 + 1) (by omega) (by omega) hgK
              have hP165_ := rkt_p hkt (p := F152_ 344 5) (by omega) (by omega) hgK
              refine fl_iast (z := 2 * ll) (v := z144_) hm_174 rfl sc_363 (by omega) (by omega) (by omega) ?_
              refine ga_inc (a := 0) (c := 1) (lv2 := [(6, .int (Int32.ofInt 1)), (5, .int (Int32.ofInt z68_)), (3, .long (Int64.ofInt z4_)), (0, .ref 344), (1, .int (Int32.ofInt a)), (2, .int (Int32.ofInt ll))]) hm_174 rfl rfl (Nat.le_of_ble_eq_true rfl) (by omega) rfl ?_
              refine fl_goto hm_174 rfl ?_
              refine ga_iload (z := 1) hm_174 rfl rfl ?_
              refine ga_aload_n (v := .ref 344) hm_174 rfl rfl rfl ?_
              refine ga_getr (b := 351) hm_174 rfl sc_344 rfl ?_
              refine ga_iload (z := z68_) hm_174 rfl rfl ?_
              have e166_ : F138_ 351 z68_.toNat = F 351 z68_.toNat := by rw [q139_]; exact (fl_u_ne (by omega)).trans ((fl_u_ne (by omega)).trans (e97_))
              have e167_ : F152_ 351 z68_.toNat = F 351 z68_.toNat := (s154_ 351 z68_.toNat (fs_n (by omega) (fs_n (by omega) rfl))).trans (e166_)
              refine ga_iald (z := z68_) (w := F 351 z68_.toNat) hm_174 rfl sc_351 (by omega) (by omega) (by omega) ((fl_u_ne (by omega)).trans (e167_)) ?_
              refine fl_icmp_ge (a := 1) (b := F 351 z68_.toNat) hm_174 rfl ⟨by omega, by omega⟩ ⟨by omega, by omega⟩ (fun h168_ => ?_) (fun h169_ => ?_)
              ·
                refine ga_aload_n (v := .ref 344) hm_174 rfl rfl rfl ?_
                refine fl_bipush hm_174 rfl rfl ?_
                obtain ⟨F170_, q171_⟩ : ∃ F9_, F9_ = (fl_u F152_ 363 (2 * ll).toNat z144_) := ⟨_, rfl⟩
                rw [← q171_]
                have g172_ : gi F170_ := by rw [q171_]; exact gi_u (g153_) rfl (by omega) (by omega)
                have g173_ : fs [(344, 344, 5, 5), (344, 344, 9, 10), (362, 363, 0, 100000)] F F170_ := by rw [q171_]; exact fs_u (g162_) (fs_z (fs_z (fs_y (by omega))))
                have rk174_ : rk K F170_ := by rw [q171_]; exact rk_u (rk163_) (by omega) (by omega)
                have e175_ : F170_ 344 5 = F152_ 344 5 := by rw [q171_]; exact fl_u_ne (by omega)
                have b176_ : 0 ≤ F152_ 344 5 ∧ F152_ 344 5 ≤ 600 := gi_g g153_ rfl
                refine gVv (nY := 2) (F := 2) (L := 41) (As := [.int (Int32.ofInt 41)]) (b := 344) (rest := []) hm_174 rfl hm_51 rfl rfl (fl_ob sc_344) rfl rfl rfl rfl rfl (by omega) (by omega) (mc_51 hG F170_ X g172_ (K) (41) (1) hgK rk174_ hkt (by omega) (by omega) (by omega)) (fun _ _ h => False.elim h) ?_
                have e178_ : F170_ 344 10 = F152_ 344 10 := by rw [q171_]; exact fl_u_ne (by omega)
                have b179_ : 0 ≤ F152_ 344 10 ∧ F152_ 344 10 ≤ 600 := gi_g g153_ rfl
                have e180_ : F170_ 344 9 = F152_ 344 9 := by rw [q171_]; exact fl_u_ne (by omega)
                have b181_ : 0 ≤ F152_ 344 9 ∧ F152_ 344 9 ≤ 5 := gi_g g153_ rfl
                rintro A1_ (⟨F185_, hA_, g186_, s187_, c182_, c183_, c184_⟩ | ⟨F191_, hA_, g192_, s193_, c188_, c189_, c190_⟩)
                ·
                  subst hA_
                  have g194_ : fs [(344, 344, 5, 5), (344, 344, 9, 10), (362, 363, 0, 100000)] F F185_ := fs_tr g173_ s187_ rfl
                  have rk195_ : rk K F185_ := rk_fs rk174_ s187_ (fun r k h => (fs_n (by omega) (fs_n (by omega) rfl))) (fs_n (by omega) (fs_n (by omega) rfl))
                  try simp only [e175_, e178_, e180_] at c183_
                  have hP196_ := rkt_p hkt (p := F185_ 344 5) (by omega) (by omega) hgK
                  refine gr_v hm_174 rfl rfl ?_
                  have b197_ : 0 ≤ F185_ 344 9 ∧ F185_ 344 9 ≤ 5 := gi_g g186_ rfl
                  have b198_ : 0 ≤ F185_ 344 10 ∧ F185_ 344 10 ≤ 600 := gi_g g186_ rfl
                  have b199_ : 0 ≤ F185_ 344 5 ∧ F185_ 344 5 ≤ 600 := gi_g g186_ rfl
                  exact Or.inl ⟨F185_, rfl, g186_, g194_, (by omega), (⟨by intro h0_; have hs_ := c149_.1 (by omega); have c183__k := c183_.2 (by omega); rw [spa_go (by omega) (ra_fi (by have x_ := (rpn_fs hpl s21_ (fun _ => (fs_n (by omega) rfl)) (fs_n (by omega) rfl)); rw [e66_] at x_; exact x_) c16_ c69_ c70_ c71_) (by omega) rfl, (show sk K (F 344 5) = F 344 5 + 1 by rw [sk, if_pos (by omega)])]; rw [if_pos (by omega), hs_]; show Sum.inl _ = _; congr 2 <;> omega, fun h0_ => by exfalso; omega⟩), (by omega)⟩
                exfalso; omega
              refine ga_aload_n (v := .ref 344) hm_174 rfl rfl rfl ?_
              refine ga_getr (b := 363) hm_174 rfl sc_344 rfl ?_
              refine fl_iconst hm_174 rfl ?_
              refine ga_iload_n (z := ll) hm_174 rfl rfl ?_
              refine ga_imul (a := 2) (b := ll) (c := 2 * ll) hm_174 rfl (by omega) ?_
              refine ga_iload (z := 1) hm_174 rfl rfl ?_
              refine ga_iadd (a := 2 * ll) (b := 1) (c := 2 * ll + 1) hm_174 rfl (by omega) ?_
              refine ga_aload_n (v := .ref 344) hm_174 rfl rfl rfl ?_
              refine ga_iload_n (z := a) hm_174 rfl rfl ?_
              refine ga_aload_n (v := .ref 344) hm_174 rfl rfl rfl ?_
              refine ga_getr (b := 352) hm_174 rfl sc_344 rfl ?_
              refine fl_iconst hm_174 rfl ?_
              refine ga_iload (z := z68_) hm_174 rfl rfl ?_
              refine ga_imul (a := 2) (b := z68_) (c := 2 * z68_) hm_174 rfl (by omega) ?_
              refine ga_iload (z := 1) hm_174 rfl rfl ?_
              refine ga_iadd (a := 2 * z68_) (b := 1) (c := 2 * z68_ + 1) hm_174 rfl (by omega) ?_
              have e200_ : F19_ 352 (2 * z68_ + 1).toNat = F 352 (2 * z68_ + 1).toNat := (s21_ 352 (2 * z68_ + 1).toNat (fs_n (by omega) rfl)).trans (rfl)
              have e201_ : F138_ 352 (2 * z68_ + 1).toNat = F 352 (2 * z68_ + 1).toNat := by rw [q139_]; exact (fl_u_ne (by omega)).trans ((fl_u_ne (by omega)).trans (e200_))
              have e202_ : F152_ 352 (2 * z68_ + 1).toNat = F 352 (2 * z68_ + 1).toNat := (s154_ 352 (2 * z68_ + 1).toNat (fs_n (by omega) (fs_n (by omega) rfl))).trans (e201_)
              have b203_ : 0 ≤ F 352 (2 * z68_ + 1).toNat ∧ F 352 (2 * z68_ + 1).toNat ≤ 4 := gi_g hgi rfl
              refine ga_iald (z := 2 * z68_ + 1) (w := F 352 (2 * z68_ + 1).toNat) hm_174 rfl sc_352 (by omega) (by omega) (by omega) ((fl_u_ne (by omega)).trans (e202_)) ?_
              obtain ⟨F204_, q205_⟩ : ∃ F9_, F9_ = (fl_u F152_ 363 (2 * ll).toNat z144_) := ⟨_, rfl⟩
              rw [← q205_]
              have g206_ : gi F204_ := by rw [q205_]; exact gi_u (g153_) rfl (by omega) (by omega)
              have g207_ : fs [(344, 344, 5, 5), (344, 344, 9, 10), (362, 363, 0, 100000)] F F204_ := by rw [q205_]; exact fs_u (g162_) (fs_z (fs_z (fs_y (by omega))))
              have rk208_ : rk K F204_ := by rw [q205_]; exact rk_u (rk163_) (by omega) (by omega)
              have e209_ : F204_ 344 5 = F152_ 344 5 := by rw [q205_]; exact fl_u_ne (by omega)
              have b210_ : 0 ≤ F152_ 344 5 ∧ F152_ 344 5 ≤ 600 := gi_g g153_ rfl
              refine gVi (nY := 6) (F := 3) (L := 66) (As := [.int (Int32.ofInt a), .int (Int32.ofInt (F 352 (2 * z68_ + 1).toNat))]) (b := 344) (rest := [.int (Int32.ofInt (2 * ll + 1)), .ref 363]) hm_174 rfl hm_185 rfl rfl (fl_ob sc_344) rfl rfl rfl rfl rfl (by omega) (by omega) (mc_185 hG F204_ X g206_ (K) (a) (F 352 (2 * z68_ + 1).toNat) (k) ((ps.getD (z68_).toNat []).getD 1 0) (l) (tl) hgK rk208_ hkt (by omega) ((by rw [q205_]; exact (trm_u (trm_fs (by rw [q139_]; exact (trm_u (trm_u (trm_fs ht s21_ (fun r j hj => (fs_n (by omega) rfl))) (by omega)) (by omega))) s154_ (fun r j hj => (fs_n (by omega) (fs_n (by omega) rfl)))) (by omega)))) (hlt) (by have h9 := hg1 (by omega); omega) (by omega)) (fun _ _ h => False.elim h) ?_
              have e212_ : F204_ 344 10 = F152_ 344 10 := by rw [q205_]; exact fl_u_ne (by omega)
              have b213_ : 0 ≤ F152_ 344 10 ∧ F152_ 344 10 ≤ 600 := gi_g g153_ rfl
              have e214_ : F204_ 344 9 = F152_ 344 9 := by rw [q205_]; exact fl_u_ne (by omega)
              have b215_ : 0 ≤ F152_ 344 9 ∧ F152_ 344 9 ≤ 5 := gi_g g153_ rfl
              rintro z211_ A1_ (⟨F220_, hA_, g221_, s222_, c216_, c217_, c218_, c219_⟩ | ⟨F227_, hA_, g228_, s229_, c223_, c224_, c225_, c226_⟩)
              ·
                subst hA_
                have g230_ : fs [(344, 344, 5, 5), (344, 344, 9, 10), (362, 363, 0, 100000)] F F220_ := fs_tr g207_ s222_ rfl
                have rk231_ : rk K F220_ := rk_fs rk208_ s222_ (fun r k h => (fs_n (by omega) (fs_n (by omega) rfl))) (fs_n (by omega) (fs_n (by omega) rfl))
                try simp only [e209_, e212_, e214_] at c217_
                have hP232_ := rkt_p hkt (p := F220_ 344 5) (by omega) (by omega) hgK
                refine fl_iast (z := 2 * ll + 1) (v := z211_) hm_174 rfl sc_363 (by omega) (by omega) (by omega) ?_
                refine ga_inc (a := 1) (c := 2) (lv2 := [(6, .int (Int32.ofInt 2)), (5, .int (Int32.ofInt z68_)), (3, .long (Int64.ofInt z4_)), (0, .ref 344), (1, .int (Int32.ofInt a)), (2, .int (Int32.ofInt ll))]) hm_174 rfl rfl (Nat.le_of_ble_eq_true rfl) (by omega) rfl ?_
                refine fl_goto hm_174 rfl ?_
                refine ga_iload (z := 2) hm_174 rfl rfl ?_
                refine ga_aload_n (v := .ref 344) hm_174 rfl rfl rfl ?_
                refine ga_getr (b := 351) hm_174 rfl sc_344 rfl ?_
                refine ga_iload (z := z68_) hm_174 rfl rfl ?_
                have e233_ : F204_ 351 z68_.toNat = F 351 z68_.toNat := by rw [q205_]; exact (fl_u_ne (by omega)).trans (e167_)
                have e234_ : F220_ 351 z68_.toNat = F 351 z68_.toNat := (s222_ 351 z68_.toNat (fs_n (by omega) (fs_n (by omega) rfl))).trans (e233_)
                refine ga_iald (z := z68_) (w := F 351 z68_.toNat) hm_174 rfl sc_351 (by omega) (by omega) (by omega) ((fl_u_ne (by omega)).trans (e234_)) ?_
                refine fl_icmp_ge (a := 2) (b := F 351 z68_.toNat) hm_174 rfl ⟨by omega, by omega⟩ ⟨by omega, by omega⟩ (fun h235_ => ?_) (fun h236_ => ?_)
                ·
                  refine ga_aload_n (v := .ref 344) hm_174 rfl rfl rfl ?_
                  refine fl_bipush hm_174 rfl rfl ?_
                  obtain ⟨F237_, q238_⟩ : ∃ F9_, F9_ = (fl_u F220_ 363 (2 * ll + 1).toNat z211_) := ⟨_, rfl⟩
                  rw [← q238_]
                  have g239_ : gi F237_ := by rw [q238_]; exact gi_u (g221_) rfl (by omega) (by omega)
                  have g240_ : fs [(344, 344, 5, 5), (344, 344, 9, 10), (362, 363, 0, 100000)] F F237_ := by rw [q238_]; exact fs_u (g230_) (fs_z (fs_z (fs_y (by omega))))
                  have rk241_ : rk K F237_ := by rw [q238_]; exact rk_u (rk231_) (by omega) (by omega)
                  have e242_ : F237_ 344 5 = F220_ 344 5 := by rw [q238_]; exact fl_u_ne (by omega)
                  have b243_ : 0 ≤ F220_ 344 5 ∧ F220_ 344 5 ≤ 600 := gi_g g221_ rfl
                  refine gVv (nY := 2) (F := 2) (L := 41) (As := [.int (Int32.ofInt 41)]) (b := 344) (rest := []) hm_174 rfl hm_51 rfl rfl (fl_ob sc_344) rfl rfl rfl rfl rfl (by omega) (by omega) (mc_51 hG F237_ X g239_ (K) (41) (1) hgK rk241_ hkt (by omega) (by omega) (by omega)) (fun _ _ h => False.elim h) ?_
                  have e245_ : F237_ 344 10 = F220_ 344 10 := by rw [q238_]; exact fl_u_ne (by omega)
                  have b246_ : 0 ≤ F220_ 344 10 ∧ F220_ 344 10 ≤ 600 := gi_g g221_ rfl
                  have e247_ : F237_ 344 9 = F220_ 344 9 := by rw [q238_]; exact fl_u_ne (by omega)
                  have b248_ : 0 ≤ F220_ 344 9 ∧ F220_ 344 9 ≤ 5 := gi_g g221_ rfl
                  rintro A1_ (⟨F252_, hA_, g253_, s254_, c249_, c250_, c251_⟩ | ⟨F258_, hA_, g259_, s260_, c255_, c256_, c257_⟩)
                  ·
                    subst hA_
                    have g261_ : fs [(344, 344, 5, 5), (344, 344, 9, 10), (362, 363, 0, 100000)] F F252_ := fs_tr g240_ s254_ rfl
                    have rk262_ : rk K F252_ := rk_fs rk241_ s254_ (fun r k h => (fs_n (by omega) (fs_n (by omega) rfl))) (fs_n (by omega) (fs_n (by omega) rfl))
                    try simp only [e242_, e245_, e247_] at c250_
                    have hP263_ := rkt_p hkt (p := F252_ 344 5) (by omega) (by omega) hgK
                    refine gr_v hm_174 rfl rfl ?_
                    have b264_ : 0 ≤ F252_ 344 9 ∧ F252_ 344 9 ≤ 5 := gi_g g253_ rfl
                    have b265_ : 0 ≤ F252_ 344 10 ∧ F252_ 344 10 ≤ 600 := gi_g g253_ rfl
                    have b266_ : 0 ≤ F252_ 344 5 ∧ F252_ 344 5 ≤ 600 := gi_g g253_ rfl
                    exact Or.inl ⟨F252_, rfl, g253_, g261_, (by omega), (⟨by intro h0_; have hs_ := c149_.1 (by omega); have c217__k := c217_.2 (by omega); have c250__k := c250_.2 (by omega); rw [spa_go (by omega) (ra_fi (by have x_ := (rpn_fs hpl s21_ (fun _ => (fs_n (by omega) rfl)) (fs_n (by omega) rfl)); rw [e66_] at x_; exact x_) c16_ c69_ c70_ c71_) (by omega) rfl, (show sk K (F 344 5) = F 344 5 + 1 by rw [sk, if_pos (by omega)])]; rw [if_pos (by omega), hs_]; show Sum.inl _ = _; congr 2 <;> omega, fun h0_ => by exfalso; omega⟩), (by omega)⟩
                  exfalso; omega
                exfalso; omega
              exfalso; omega
            subst hA_
            have g267_ : fs [(344, 344, 5, 5), (344, 344, 9, 10), (362, 363, 0, 100000)] F F159_ := fs_tr g141_ s161_ rfl
            have rk268_ : rk K F159_ := rk_fs rk142_ s161_ (fun r k h => (fs_n (by omega) (fs_n (by omega) rfl))) (fs_n (by omega) (fs_n (by omega) rfl))
            try simp only [e147_] at c155_
            try simp only [e143_] at c156_
            have hP269_ := rkt_p hkt (p := F 344 5 + 1) (by omega) (by omega) hgK
            have hP270_ := rkt_p hkt (p := F159_ 344 5) (by omega) (by omega) hgK
            refine fl_iast (z := 2 * ll) (v := z144_) hm_174 rfl sc_363 (by omega) (by omega) (by omega) ?_
            refine ga_inc (a := 0) (c := 1) (lv2 := [(6, .int (Int32.ofInt 1)), (5, .int (Int32.ofInt z68_)), (3, .long (Int64.ofInt z4_)), (0, .ref 344), (1, .int (Int32.ofInt a)), (2, .int (Int32.ofInt ll))]) hm_174 rfl rfl (Nat.le_of_ble_eq_true rfl) (by omega) rfl ?_
            refine fl_goto hm_174 rfl ?_
            refine ga_iload (z := 1) hm_174 rfl rfl ?_
            refine ga_aload_n (v := .ref 344) hm_174 rfl rfl rfl ?_
            refine ga_getr (b := 351) hm_174 rfl sc_344 rfl ?_
            refine ga_iload (z := z68_) hm_174 rfl rfl ?_
            have e271_ : F138_ 351 z68_.toNat = F 351 z68_.toNat := by rw [q139_]; exact (fl_u_ne (by omega)).trans ((fl_u_ne (by omega)).trans (e97_))
            have e272_ : F159_ 351 z68_.toNat = F 351 z68_.toNat := (s161_ 351 z68_.toNat (fs_n (by omega) (fs_n (by omega) rfl))).trans (e271_)
            refine ga_iald (z := z68_) (w := F 351 z68_.toNat) hm_174 rfl sc_351 (by omega) (by omega) (by omega) ((fl_u_ne (by omega)).trans (e272_)) ?_
            refine fl_icmp_ge (a := 1) (b := F 351 z68_.toNat) hm_174 rfl ⟨by omega, by omega⟩ ⟨by omega, by omega⟩ (fun h273_ => ?_) (fun h274_ => ?_)
            ·
              refine ga_aload_n (v := .ref 344) hm_174 rfl rfl rfl ?_
              refine fl_bipush hm_174 rfl rfl ?_
              obtain ⟨F275_, q276_⟩ : ∃ F9_, F9_ = (fl_u F159_ 363 (2 * ll).toNat z144_) := ⟨_, rfl⟩
              rw [← q276_]
              have g277_ : gi F275_ := by rw [q276_]; exact gi_u (g160_) rfl (by omega) (by omega)
              have g278_ : fs [(344, 344, 5, 5), (344, 344, 9, 10), (362, 363, 0, 100000)] F F275_ := by rw [q276_]; exact fs_u (g267_) (fs_z (fs_z (fs_y (by omega))))
              have rk279_ : rk K F275_ := by rw [q276_]; exact rk_u (rk268_) (by omega) (by omega)
              have e280_ : F275_ 344 5 = F159_ 344 5 := by rw [q276_]; exact fl_u_ne (by omega)
              have b281_ : 0 ≤ F159_ 344 5 ∧ F159_ 344 5 ≤ 600 := gi_g g160_ rfl
              refine gVv (nY := 2) (F := 2) (L := 41) (As := [.int (Int32.ofInt 41)]) (b := 344) (rest := []) hm_174 rfl hm_51 rfl rfl (fl_ob sc_344) rfl rfl rfl rfl rfl (by omega) (by omega) (mc_51 hG F275_ X g277_ (K) (41) (1) hgK rk279_ hkt (by omega) (by omega) (by omega)) (fun _ _ h => False.elim h) ?_
              have e283_ : F275_ 344 10 = F159_ 344 10 := by rw [q276_]; exact fl_u_ne (by omega)
              have b284_ : 0 ≤ F159_ 344 10 ∧ F159_ 344 10 ≤ 600 := gi_g g160_ rfl
              have e285_ : F275_ 344 9 = F159_ 344 9 := by rw [q276_]; exact fl_u_ne (by omega)
              have b286_ : 0 ≤ F159_ 344 9 ∧ F159_ 344 9 ≤ 5 := gi_g g160_ rfl
              rintro A1_ (⟨F290_, hA_, g291_, s292_, c287_, c288_, c289_⟩ | ⟨F296_, hA_, g297_, s298_, c293_, c294_, c295_⟩)
              ·
                subst hA_
                have g299_ : fs [(344, 344, 5, 5), (344, 344, 9, 10), (362, 363, 0, 100000)] F F290_ := fs_tr g278_ s292_ rfl
                have rk300_ : rk K F290_ := rk_fs rk279_ s292_ (fun r k h => (fs_n (by omega) (fs_n (by omega) rfl))) (fs_n (by omega) (fs_n (by omega) rfl))
                try simp only [e280_, e283_, e285_] at c288_
                have hP301_ := rkt_p hkt (p := F290_ 344 5) (by omega) (by omega) hgK
                refine gr_v hm_174 rfl rfl ?_
                have b302_ : 0 ≤ F290_ 344 9 ∧ F290_ 344 9 ≤ 5 := gi_g g291_ rfl
                have b303_ : 0 ≤ F290_ 344 10 ∧ F290_ 344 10 ≤ 600 := gi_g g291_ rfl
                have b304_ : 0 ≤ F290_ 344 5 ∧ F290_ 344 5 ≤ 600 := gi_g g291_ rfl
                exact Or.inl ⟨F290_, rfl, g291_, g299_, (by omega), (⟨by intro h0_; have hs_ := c288_.1 (by omega); rw [spa_go (by omega) (ra_fi (by have x_ := (rpn_fs hpl s21_ (fun _ => (fs_n (by omega) rfl)) (fs_n (by omega) rfl)); rw [e66_] at x_; exact x_) c16_ c69_ c70_ c71_) (by omega) rfl, (show sk K (F 344 5) = F 344 5 + 1 by rw [sk, if_pos (by omega)])]; rw [if_pos (by omega), c156_, pb_r]; rw [if_neg (by omega), pb_r]; rw [hs_]; try (congr 2 <;> omega), fun h0_ => by exfalso; omega⟩), (by omega)⟩
              subst hA_
              have g305_ : fs [(344, 344, 5, 5), (344, 344, 9, 10), (362, 363, 0, 100000)] F F296_ := fs_tr g278_ s298_ rfl
              have rk306_ : rk K F296_ := rk_fs rk279_ s298_ (fun r k h => (fs_n (by omega) (fs_n (by omega) rfl))) (fs_n (by omega) (fs_n (by omega) rfl))
              try simp only [e285_] at c293_
              try simp only [e280_] at c294_
              have hP307_ := rkt_p hkt (p := F296_ 344 5) (by omega) (by omega) hgK
              refine gr_v hm_174 rfl rfl ?_
              have b308_ : 0 ≤ F296_ 344 9 ∧ F296_ 344 9 ≤ 5 := gi_g g297_ rfl
              have b309_ : 0 ≤ F296_ 344 5 ∧ F296_ 344 5 ≤ 600 := gi_g g297_ rfl
              exact Or.inr (⟨F296_, rfl, g297_, g305_, (by omega), (by rw [spa_go (by omega) (ra_fi (by have x_ := (rpn_fs hpl s21_ (fun _ => (fs_n (by omega) rfl)) (fs_n (by omega) rfl)); rw [e66_] at x_; exact x_) c16_ c69_ c70_ c71_) (by omega) rfl, (show sk K (F 344 5) = F 344 5 + 1 by rw [sk, if_pos (by omega)])]; rw [if_pos (by omega), c156_, pb_r]; rw [if_neg (by omega), pb_r]; rw [c294_]), (by omega)⟩)
            refine ga_aload_n (v := .ref 344) hm_174 rfl rfl rfl ?_
            refine ga_getr (b := 363) hm_174 rfl sc_344 rfl ?_
            refine fl_iconst hm_174 rfl ?_
            refine ga_iload_n (z := ll) hm_174 rfl rfl ?_
            refine ga_imul (a := 2) (b := ll) (c := 2 * ll) hm_174 rfl (by omega) ?_
            refine ga_iload (z := 1) hm_174 rfl rfl ?_
            refine ga_iadd (a := 2 * ll) (b := 1) (c := 2 * ll + 1) hm_174 rfl (by omega) ?_
            refine ga_aload_n (v := .ref 344) hm_174 rfl rfl rfl ?_
            refine ga_iload_n (z := a) hm_174 rfl rfl ?_
            refine ga_aload_n (v := .ref 344) hm_174 rfl rfl rfl ?_
            refine ga_getr (b := 352) hm_174 rfl sc_344 rfl ?_
            refine fl_iconst hm_174 rfl ?_
            refine ga_iload (z := z68_) hm_174 rfl rfl ?_
            refine ga_imul (a := 2) (b := z68_) (c := 2 * z68_) hm_174 rfl (by omega) ?_
            refine ga_iload (z := 1) hm_174 rfl rfl ?_
            refine ga_iadd (a := 2 * z68_) (b := 1) (c := 2 * z68_ + 1) hm_174 rfl (by omega) ?_
            have e310_ : F19_ 352 (2 * z68_ + 1).toNat = F 352 (2 * z68_ + 1).toNat := (s21_ 352 (2 * z68_ + 1).toNat (fs_n (by omega) rfl)).trans (rfl)
            have e311_ : F138_ 352 (2 * z68_ + 1).toNat = F 352 (2 * z68_ + 1).toNat := by rw [q139_]; exact (fl_u_ne (by omega)).trans ((fl_u_ne (by omega)).trans (e310_))
            have e312_ : F159_ 352 (2 * z68_ + 1).toNat = F 352 (2 * z68_ + 1).toNat := (s161_ 352 (2 * z68_ + 1).toNat (fs_n (by omega) (fs_n (by omega) rfl))).trans (e311_)
            have b313_ : 0 ≤ F 352 (2 * z68_ + 1).toNat ∧ F 352 (2 * z68_ + 1).toNat ≤ 4 := gi_g hgi rfl
            refine ga_iald (z := 2 * z68_ + 1) (w := F 352 (2 * z68_ + 1).toNat) hm_174 rfl sc_352 (by omega) (by omega) (by omega) ((fl_u_ne (by omega)).trans (e312_)) ?_
            obtain ⟨F314_, q315_⟩ : ∃ F9_, F9_ = (fl_u F159_ 363 (2 * ll).toNat z144_) := ⟨_, rfl⟩
            rw [← q315_]
            have g316_ : gi F314_ := by rw [q315_]; exact gi_u (g160_) rfl (by omega) (by omega)
            have g317_ : fs [(344, 344, 5, 5), (344, 344, 9, 10), (362, 363, 0, 100000)] F F314_ := by rw [q315_]; exact fs_u (g267_) (fs_z (fs_z (fs_y (by omega))))
            have rk318_ : rk K F314_ := by rw [q315_]; exact rk_u (rk268_) (by omega) (by omega)
            have e319_ : F314_ 344 5 = F159_ 344 5 := by rw [q315_]; exact fl_u_ne (by omega)
            have b320_ : 0 ≤ F159_ 344 5 ∧ F159_ 344 5 ≤ 600 := gi_g g160_ rfl
            refine gVi (nY := 6) (F := 3) (L := 66) (As := [.int (Int32.ofInt a), .int (Int32.ofInt (F 352 (2 * z68_ + 1).toNat))]) (b := 344) (rest := [.int (Int32.ofInt (2 * ll + 1)), .ref 363]) hm_174 rfl hm_185 rfl rfl (fl_ob sc_344) rfl rfl rfl rfl rfl (by omega) (by omega) (mc_185 hG F314_ X g316_ (K) (a) (F 352 (2 * z68_ + 1).toNat) (k) ((ps.getD (z68_).toNat []).getD 1 0) (l) (tl) hgK rk318_ hkt (by omega) ((by rw [q315_]; exact (trm_u (trm_fs (by rw [q139_]; exact (trm_u (trm_u (trm_fs ht s21_ (fun r j hj => (fs_n (by omega) rfl))) (by omega)) (by omega))) s161_ (fun r j hj => (fs_n (by omega) (fs_n (by omega) rfl)))) (by omega)))) (hlt) (by have h9 := hg1 (by omega); omega) (by omega)) (fun _ _ h => False.elim h) ?_
            have e322_ : F314_ 344 10 = F159_ 344 10 := by rw [q315_]; exact fl_u_ne (by omega)
            have b323_ : 0 ≤ F159_ 344 10 ∧ F159_ 344 10 ≤ 600 := gi_g g160_ rfl
            have e324_ : F314_ 344 9 = F159_ 344 9 := by rw [q315_]; exact fl_u_ne (by omega)
            have b325_ : 0 ≤ F159_ 344 9 ∧ F159_ 344 9 ≤ 5 := gi_g g160_ rfl
            rintro z321_ A1_ (⟨F330_, hA_, g331_, s332_, c326_, c327_, c328_, c329_⟩ | ⟨F337_, hA_, g338_, s339_, c333_, c334_, c335_, c336_⟩)
            ·
              subst hA_
              have g340_ : fs [(344, 344, 5, 5), (344, 344, 9, 10), (362, 363, 0, 100000)] F F330_ := fs_tr g317_ s332_ rfl
              have rk341_ : rk K F330_ := rk_fs rk318_ s332_ (fun r k h => (fs_n (by omega) (fs_n (by omega) rfl))) (fs_n (by omega) (fs_n (by omega) rfl))
              try simp only [e319_, e322_, e324_] at c327_
              have hP342_ := rkt_p hkt (p := F330_ 344 5) (by omega) (by omega) hgK
              refine fl_iast (z := 2 * ll + 1) (v := z321_) hm_174 rfl sc_363 (by omega) (by omega) (by omega) ?_
              refine ga_inc (a := 1) (c := 2) (lv2 := [(6, .int (Int32.ofInt 2)), (5, .int (Int32.ofInt z68_)), (3, .long (Int64.ofInt z4_)), (0, .ref 344), (1, .int (Int32.ofInt a)), (2, .int (Int32.ofInt ll))]) hm_174 rfl rfl (Nat.le_of_ble_eq_true rfl) (by omega) rfl ?_
              refine fl_goto hm_174 rfl ?_
              refine ga_iload (z := 2) hm_174 rfl rfl ?_
              refine ga_aload_n (v := .ref 344) hm_174 rfl rfl rfl ?_
              refine ga_getr (b := 351) hm_174 rfl sc_344 rfl ?_
              refine ga_iload (z := z68_) hm_174 rfl rfl ?_
              have e343_ : F314_ 351 z68_.toNat = F 351 z68_.toNat := by rw [q315_]; exact (fl_u_ne (by omega)).trans (e272_)
              have e344_ : F330_ 351 z68_.toNat = F 351 z68_.toNat := (s332_ 351 z68_.toNat (fs_n (by omega) (fs_n (by omega) rfl))).trans (e343_)
              refine ga_iald (z := z68_) (w := F 351 z68_.toNat) hm_174 rfl sc_351 (by omega) (by omega) (by omega) ((fl_u_ne (by omega)).trans (e344_)) ?_
              refine fl_icmp_ge (a := 2) (b := F 351 z68_.toNat) hm_174 rfl ⟨by omega, by omega⟩ ⟨by omega, by omega⟩ (fun h345_ => ?_) (fun h346_ => ?_)
              ·
                refine ga_aload_n (v := .ref 344) hm_174 rfl rfl rfl ?_
                refine fl_bipush hm_174 rfl rfl ?_
                obtain ⟨F347_, q348_⟩ : ∃ F9_, F9_ = (fl_u F330_ 363 (2 * ll + 1).toNat z321_) := ⟨_, rfl⟩
                rw [← q348_]
                have g349_ : gi F347_ := by rw [q348_]; exact gi_u (g331_) rfl (by omega) (by omega)
                have g350_ : fs [(344, 344, 5, 5), (344, 344, 9, 10), (362, 363, 0, 100000)] F F347_ := by rw [q348_]; exact fs_u (g340_) (fs_z (fs_z (fs_y (by omega))))
                have rk351_ : rk K F347_ := by rw [q348_]; exact rk_u (rk341_) (by omega) (by omega)
                have e352_ : F347_ 344 5 = F330_ 344 5 := by rw [q348_]; exact fl_u_ne (by omega)
                have b353_ : 0 ≤ F330_ 344 5 ∧ F330_ 344 5 ≤ 600 := gi_g g331_ rfl
                refine gVv (nY := 2) (F := 2) (L := 41) (As := [.int (Int32.ofInt 41)]) (b := 344) (rest := []) hm_174 rfl hm_51 rfl rfl (fl_ob sc_344) rfl rfl rfl rfl rfl (by omega) (by omega) (mc_51 hG F347_ X g349_ (K) (41) (1) hgK rk351_ hkt (by omega) (by omega) (by omega)) (fun _ _ h => False.elim h) ?_
                have e355_ : F347_ 344 10 = F330_ 344 10 := by rw [q348_]; exact fl_u_ne (by omega)
                have b356_ : 0 ≤ F330_ 344 10 ∧ F330_ 344 10 ≤ 600 := gi_g g331_ rfl
                have e357_ : F347_ 344 9 = F330_ 344 9 := by rw [q348_]; exact fl_u_ne (by omega)
                have b358_ : 0 ≤ F330_ 344 9 ∧ F330_ 344 9 ≤ 5 := gi_g g331_ rfl
                rintro A1_ (⟨F362_, hA_, g363_, s364_, c359_, c360_, c361_⟩ | ⟨F368_, hA_, g369_, s370_, c365_, c366_, c367_⟩)
                ·
                  subst hA_
                  have g371_ : fs [(344, 344, 5, 5), (344, 344, 9, 10), (362, 363, 0, 100000)] F F362_ := fs_tr g350_ s364_ rfl
                  have rk372_ : rk K F362_ := rk_fs rk351_ s364_ (fun r k h => (fs_n (by omega) (fs_n (by omega) rfl))) (fs_n (by omega) (fs_n (by omega) rfl))
                  try simp only [e352_, e355_, e357_] at c360_
                  have hP373_ := rkt_p hkt (p := F362_ 344 5) (by omega) (by omega) hgK
                  refine gr_v hm_174 rfl rfl ?_
                  have b374_ : 0 ≤ F362_ 344 9 ∧ F362_ 344 9 ≤ 5 := gi_g g363_ rfl
                  have b375_ : 0 ≤ F362_ 344 10 ∧ F362_ 344 10 ≤ 600 := gi_g g363_ rfl
                  have b376_ : 0 ≤ F362_ 344 5 ∧ F362_ 344 5 ≤ 600 := gi_g g363_ rfl
                  exact Or.inl ⟨F362_, rfl, g363_, g371_, (by omega), (⟨by intro h0_; have hs_ := c327_.1 (by omega); have c360__k := c360_.2 (by omega); rw [spa_go (by omega) (ra_fi (by have x_ := (rpn_fs hpl s21_ (fun _ => (fs_n (by omega) rfl)) (fs_n (by omega) rfl)); rw [e66_] at x_; exact x_) c16_ c69_ c70_ c71_) (by omega) rfl, (show sk K (F 344 5) = F 344 5 + 1 by rw [sk, if_pos (by omega)])]; rw [if_pos (by omega), c156_, pb_r]; rw [if_pos (by omega), hs_]; show Sum.inl _ = _; congr 2 <;> omega, fun h0_ => by exfalso; omega⟩), (by omega)⟩
                exfalso; omega
              exfalso; omega
            subst hA_
            have g377_ : fs [(344, 344, 5, 5), (344, 344, 9, 10), (362, 363, 0, 100000)] F F337_ := fs_tr g317_ s339_ rfl
            have rk378_ : rk K F337_ := rk_fs rk318_ s339_ (fun r k h => (fs_n (by omega) (fs_n (by omega) rfl))) (fs_n (by omega) (fs_n (by omega) rfl))
            try simp only [e324_] at c333_
            try simp only [e319_] at c334_
            have hP379_ := rkt_p hkt (p := F337_ 344 5) (by omega) (by omega) hgK
            refine fl_iast (z := 2 * ll + 1) (v := z321_) hm_174 rfl sc_363 (by omega) (by omega) (by omega) ?_
            refine ga_inc (a := 1) (c := 2) (lv2 := [(6, .int (Int32.ofInt 2)), (5, .int (Int32.ofInt z68_)), (3, .long (Int64.ofInt z4_)), (0, .ref 344), (1, .int (Int32.ofInt a)), (2, .int (Int32.ofInt ll))]) hm_174 rfl rfl (Nat.le_of_ble_eq_true rfl) (by omega) rfl ?_
            refine fl_goto hm_174 rfl ?_
            refine ga_iload (z := 2) hm_174 rfl rfl ?_
            refine ga_aload_n (v := .ref 344) hm_174 rfl rfl rfl ?_
            refine ga_getr (b := 351) hm_174 rfl sc_344 rfl ?_
            refine ga_iload (z := z68_) hm_174 rfl rfl ?_
            have e380_ : F314_ 351 z68_.toNat = F 351 z68_.toNat := by rw [q315_]; exact (fl_u_ne (by omega)).trans (e272_)
            have e381_ : F337_ 351 z68_.toNat = F 351 z68_.toNat := (s339_ 351 z68_.toNat (fs_n (by omega) (fs_n (by omega) rfl))).trans (e380_)
            refine ga_iald (z := z68_) (w := F 351 z68_.toNat) hm_174 rfl sc_351 (by omega) (by omega) (by omega) ((fl_u_ne (by omega)).trans (e381_)) ?_
            refine fl_icmp_ge (a := 2) (b := F 351 z68_.toNat) hm_174 rfl ⟨by omega, by omega⟩ ⟨by omega, by omega⟩ (fun h382_ => ?_) (fun h383_ => ?_)
            ·
              refine ga_aload_n (v := .ref 344) hm_174 rfl rfl rfl ?_
              refine fl_bipush hm_174 rfl rfl ?_
              obtain ⟨F384_, q385_⟩ : ∃ F9_, F9_ = (fl_u F337_ 363 (2 * ll + 1).toNat z321_) := ⟨_, rfl⟩
              rw [← q385_]
              have g386_ : gi F384_ := by rw [q385_]; exact gi_u (g338_) rfl (by omega) (by omega)
              have g387_ : fs [(344, 344, 5, 5), (344, 344, 9, 10), (362, 363, 0, 100000)] F F384_ := by rw [q385_]; exact fs_u (g377_) (fs_z (fs_z (fs_y (by omega))))
              have rk388_ : rk K F384_ := by rw [q385_]; exact rk_u (rk378_) (by omega) (by omega)
              have e389_ : F384_ 344 5 = F337_ 344 5 := by rw [q385_]; exact fl_u_ne (by omega)
              have b390_ : 0 ≤ F337_ 344 5 ∧ F337_ 344 5 ≤ 600 := gi_g g338_ rfl
              refine gVv (nY := 2) (F := 2) (L := 41) (As := [.int (Int32.ofInt 41)]) (b := 344) (rest := []) hm_174 rfl hm_51 rfl rfl (fl_ob sc_344) rfl rfl rfl rfl rfl (by omega) (by omega) (mc_51 hG F384_ X g386_ (K) (41) (1) hgK rk388_ hkt (by omega) (by omega) (by omega)) (fun _ _ h => False.elim h) ?_
              have e392_ : F384_ 344 10 = F337_ 344 10 := by rw [q385_]; exact fl_u_ne (by omega)
              have b393_ : 0 ≤ F337_ 344 10 ∧ F337_ 344 10 ≤ 600 := gi_g g338_ rfl
              have e394_ : F384_ 344 9 = F337_ 344 9 := by rw [q385_]; exact fl_u_ne (by omega)
              have b395_ : 0 ≤ F337_ 344 9 ∧ F337_ 344 9 ≤ 5 := gi_g g338_ rfl
              rintro A1_ (⟨F399_, hA_, g400_, s401_, c396_, c397_, c398_⟩ | ⟨F405_, hA_, g406_, s407_, c402_, c403_, c404_⟩)
              ·
                subst hA_
                have g408_ : fs [(344, 344, 5, 5), (344, 344, 9, 10), (362, 363, 0, 100000)] F F399_ := fs_tr g387_ s401_ rfl
                have rk409_ : rk K F399_ := rk_fs rk388_ s401_ (fun r k h => (fs_n (by omega) (fs_n (by omega) rfl))) (fs_n (by omega) (fs_n (by omega) rfl))
                try simp only [e389_, e392_, e394_] at c397_
                have hP410_ := rkt_p hkt (p := F399_ 344 5) (by omega) (by omega) hgK
                refine gr_v hm_174 rfl rfl ?_
                have b411_ : 0 ≤ F399_ 344 9 ∧ F399_ 344 9 ≤ 5 := gi_g g400_ rfl
                have b412_ : 0 ≤ F399_ 344 10 ∧ F399_ 344 10 ≤ 600 := gi_g g400_ rfl
                have b413_ : 0 ≤ F399_ 344 5 ∧ F399_ 344 5 ≤ 600 := gi_g g400_ rfl
                exact Or.inl ⟨F399_, rfl, g400_, g408_, (by omega), (⟨by intro h0_; have hs_ := c397_.1 (by omega); rw [spa_go (by omega) (ra_fi (by have x_ := (rpn_fs hpl s21_ (fun _ => (fs_n (by omega) rfl)) (fs_n (by omega) rfl)); rw [e66_] at x_; exact x_) c16_ c69_ c70_ c71_) (by omega) rfl, (show sk K (F 344 5) = F 344 5 + 1 by rw [sk, if_pos (by omega)])]; rw [if_pos (by omega), c156_, pb_r]; rw [if_pos (by omega), c334_, pb_r]; rw [hs_]; try (congr 2 <;> omega), fun h0_ => by exfalso; omega⟩), (by omega)⟩
              subst hA_
              have g414_ : fs [(344, 344, 5, 5), (344, 344, 9, 10), (362, 363, 0, 100000)] F F405_ := fs_tr g387_ s407_ rfl
              have rk415_ : rk K F405_ := rk_fs rk388_ s407_ (fun r k h => (fs_n (by omega) (fs_n (by omega) rfl))) (fs_n (by omega) (fs_n (by omega) rfl))
              try simp only [e394_] at c402_
              try simp only [e389_] at c403_
              have hP416_ := rkt_p hkt (p := F405_ 344 5) (by omega) (by omega) hgK
              refine gr_v hm_174 rfl rfl ?_
              have b417_ : 0 ≤ F405_ 344 9 ∧ F405_ 344 9 ≤ 5 := gi_g g406_ rfl
              have b418_ : 0 ≤ F405_ 344 5 ∧ F405_ 344 5 ≤ 600 := gi_g g406_ rfl
              exact Or.inr (⟨F405_, rfl, g406_, g414_, (by omega), (by rw [spa_go (by omega) (ra_fi (by have x_ := (rpn_fs hpl s21_ (fun _ => (fs_n (by omega) rfl)) (fs_n (by omega) rfl)); rw [e66_] at x_; exact x_) c16_ c69_ c70_ c71_) (by omega) rfl, (show sk K (F 344 5) = F 344 5 + 1 by rw [sk, if_pos (by omega)])]; rw [if_pos (by omega), c156_, pb_r]; rw [if_pos (by omega), c334_, pb_r]; rw [c403_]), (by omega)⟩)
            exfalso; omega
          exfalso; omega
        exfalso; omega
      refine ga_aload_n (v := .ref 344) hm_174 rfl rfl rfl ?_
      refine fl_iconst hm_174 rfl ?_
      refine gVv (nY := 2) (F := 0) (L := 0) (As := [.int (Int32.ofInt 3)]) (b := 344) (rest := []) hm_174 rfl hm_54 rfl rfl (fl_ob sc_344) rfl rfl rfl rfl rfl (by omega) (by omega) (mc_54 hG F19_ X g20_ (K) (3) hgK rk64_ hkt (by omega) (by omega)) (fun _ _ h => False.elim h) ?_
      have b420_ : 0 ≤ F19_ 344 10 ∧ F19_ 344 10 ≤ 600 := gi_g g20_ rfl
      rintro A1_ ⟨F424_, hA_, g425_, s426_, c421_, c422_, c423_⟩
      subst hA_
      have g427_ : fs [(344, 344, 5, 5), (344, 344, 9, 10), (362, 363, 0, 100000)] F F424_ := fs_tr g63_ s426_ rfl
      have rk428_ : rk K F424_ := rk_fs rk64_ s426_ (fun r k h => (fs_n (by omega) rfl)) (fs_n (by omega) rfl)
      try simp only [e65_] at c422_
      try simp only [e65_] at c423_
      refine ga_aload_n (v := .ref 344) hm_174 rfl rfl rfl ?_
      refine gIv (nY := 1) (F := 1) (L := 20) (As := []) (b := 344) (rest := []) hm_174 rfl hm_61 rfl rfl (fl_ob sc_344) rfl rfl rfl rfl rfl (by omega) (by omega) ?_
      intro f429_ l430_ h431_ h432_
      show fl_R xi_ms 61 f429_ l430_ 0 [(0, .ref 344)] [] _ _
      refine ga_aload_n (v := .ref 344) hm_61 rfl rfl rfl ?_
      refine ga_dup hm_61 rfl rfl ?_
      have e433_ : F424_ 344 5 = F 344 5 := (s426_ 344 5 rfl).trans (e65_)
      refine ga_geti (z := F 344 5) hm_61 rfl sc_344 rfl (e433_) ?_
      refine ga_aload_n (v := .ref 344) hm_61 rfl rfl rfl ?_
      refine gIi (nY := 1) (F := 0) (L := 0) (As := []) (b := 344) (rest := [.int (Int32.ofInt (F 344 5)), .ref 344]) hm_61 rfl hm_59 rfl rfl (fl_ob sc_344) rfl rfl rfl rfl rfl (by omega) (by omega) ?_
      intro f434_ l435_ h436_ h437_
      show fl_R xi_ms 59 f434_ l435_ 0 [(0, .ref 344)] [] _ _
      refine ga_aload_n (v := .ref 344) hm_59 rfl rfl rfl ?_
      have b438_ : 0 ≤ F424_ 344 9 ∧ F424_ 344 9 ≤ 5 := gi_g g425_ rfl
      refine ga_geti (z := F424_ 344 9) hm_59 rfl sc_344 rfl (rfl) ?_
      refine fl_if_le (a := F424_ 344 9) hm_59 rfl ⟨by omega, by omega⟩ (fun h439_ => ?_) (fun h440_ => ?_)
      · exfalso; omega
      refine fl_iconst hm_59 rfl ?_
      refine fl_goto hm_59 rfl ?_
      refine gr_i hm_59 rfl rfl (ga_nb (by omega)) ?_
      refine fl_if_eq hm_61 rfl ⟨by omega, by omega⟩ (fun h => absurd h (by omega)) (fun _ => ?_)
      refine fl_iconst hm_61 rfl ?_
      refine fl_goto hm_61 rfl ?_
      refine ga_iadd (a := F 344 5) (b := 0) (c := F 344 5) hm_61 rfl (by omega) ?_
      refine ga_puti (z := F 344 5) hm_61 rfl sc_344 rfl rfl ?_
      refine gr_v hm_61 rfl rfl ?_
      refine ga_aload_n (v := .ref 344) hm_174 rfl rfl rfl ?_
      refine gIi (nY := 1) (F := 0) (L := 0) (As := []) (b := 344) (rest := []) hm_174 rfl hm_59 rfl rfl (fl_ob sc_344) rfl rfl rfl rfl rfl (by omega) (by omega) ?_
      intro f441_ l442_ h443_ h444_
      show fl_R xi_ms 59 f441_ l442_ 0 [(0, .ref 344)] [] _ _
      refine ga_aload_n (v := .ref 344) hm_59 rfl rfl rfl ?_
      refine ga_geti (z := F424_ 344 9) hm_59 rfl sc_344 rfl (fl_u_ne (by omega)) ?_
      refine fl_if_le (a := F424_ 344 9) hm_59 rfl ⟨by omega, by omega⟩ (fun h445_ => ?_) (fun h446_ => ?_)
      · exfalso; omega
      refine fl_iconst hm_59 rfl ?_
      refine fl_goto hm_59 rfl ?_
      refine gr_i hm_59 rfl rfl (ga_nb (by omega)) ?_
      refine fl_if_eq hm_174 rfl ⟨by omega, by omega⟩ (fun h => absurd h (by omega)) (fun _ => ?_)
      obtain ⟨F447_, q448_⟩ : ∃ F9_, F9_ = (fl_u F424_ 344 5 (F 344 5)) := ⟨_, rfl⟩
      rw [← q448_]
      have g449_ : gi F447_ := by rw [q448_]; exact gi_u (g425_) rfl (by omega) (by omega)
      have g450_ : fs [(344, 344, 5, 5), (344, 344, 9, 10), (362, 363, 0, 100000)] F F447_ := by rw [q448_]; exact fs_u (g427_) rfl
      have rk451_ : rk K F447_ := by rw [q448_]; exact rk_u (rk428_) (by omega) (by omega)
      refine gr_v hm_174 rfl rfl ?_
      have e452_ : F447_ 344 9 = F424_ 344 9 := by rw [q448_]; exact fl_u_ne (by omega)
      have e453_ : F447_ 344 10 = F424_ 344 10 := by rw [q448_]; exact fl_u_ne (by omega)
      have e454_ : F447_ 344 5 = F 344 5 := by rw [q448_]; exact fl_u_eq
      have b455_ : 0 ≤ F424_ 344 10 ∧ F424_ 344 10 ≤ 600 := gi_g g425_ rfl
      exact Or.inl ⟨F447_, rfl, g449_, g450_, (by omega), (⟨by intro h0_; have hs_ := c422_.1 (by omega); rw [sp_atom, if_pos (by omega), (ra_fi (by have x_ := (rpn_fs hpl s21_ (fun _ => (fs_n (by omega) rfl)) (fs_n (by omega) rfl)); rw [e66_] at x_; exact x_) c16_ c69_ c70_ c71_), if_pos (by omega)]; show Sum.inl (3, K 4 _) = _; congr 2 <;> omega, fun h0_ => by exfalso; omega⟩), (by omega)⟩
    exfalso; omega
  refine ga_aload_n (v := .ref 344) hm_174 rfl rfl rfl ?_
  have b456_ : 0 ≤ F 344 5 ∧ F 344 5 ≤ 600 := gi_g hgi rfl
  refine gVl (nY := 3) (F := 2) (L := 46) (As := []) (b := 344) (rest := []) hm_174 rfl hm_58 rfl rfl (fl_ob sc_344) rfl rfl rfl rfl rfl (by omega) (by omega) (mc_58 hG F X hgi (K) hgK hrk hkt (by omega)) (fun _ _ h => False.elim h) ?_
  have b458_ : 0 ≤ F 344 10 ∧ F 344 10 ≤ 600 := gi_g hgi rfl
  rintro z457_ A1_ (⟨F463_, hA_, g464_, s465_, c459_, c460_, c461_, c462_⟩ | ⟨F472_, hA_, g473_, s474_, c466_, c467_, c468_, c469_, c470_, c471_⟩)
  ·
    subst hA_
    have g475_ : fs [(344, 344, 5, 5), (344, 344, 9, 10), (362, 363, 0, 100000)] F F463_ := fs_tr fs_refl s465_ rfl
    have rk476_ : rk K F463_ := rk_fs hrk s465_ (fun r k h => (fs_n (by omega) rfl)) (fs_n (by omega) rfl)
    have e477_ : F463_ 344 5 = F 344 5 := (s465_ 344 5 rfl).trans (rfl)
    refine ga_lstore_n (lv2 := [(3, .long (Int64.ofInt z457_)), (0, .ref 344), (1, .int (Int32.ofInt a)), (2, .int (Int32.ofInt ll))]) hm_174 rfl (Nat.le_of_ble_eq_true rfl) rfl ?_
    refine ga_aload_n (v := .ref 344) hm_174 rfl rfl rfl ?_
    refine ga_getr (b := 350) hm_174 rfl sc_344 rfl ?_
    refine fl_iconst hm_174 rfl ?_
    refine ga_aload_n (v := .ref 344) hm_174 rfl rfl rfl ?_
    have e478_ : F463_ 344 17 = F 344 17 := (s465_ 344 17 rfl).trans (rfl)
    have b479_ : 0 ≤ F 344 17 ∧ F 344 17 ≤ 6 := gi_g hgi rfl
    refine ga_geti (z := F 344 17) hm_174 rfl sc_344 rfl (e478_) ?_
    refine ga_lload_n (z := z457_) hm_174 rfl rfl ?_
    refine gSi (nY := 7) (F := 0) (L := 0) (As := [.ref 350, .int (Int32.ofInt 0), .int (Int32.ofInt (F 344 17)), .long (Int64.ofInt z457_)]) (rest := []) hm_174 rfl hm_162 rfl rfl (fl_pos sc_0) rfl rfl rfl rfl (by omega) (by omega) (mc_162 hG F463_ X g464_ (350) (6) (0) (F 344 17) (z457_) sc_350 (fun _ => rfl) (by omega) (by omega))  ?_
    rintro z480_ A1_ ⟨hA_, c481_, c482_, c483_⟩
    subst hA_
    refine ga_istore (lv2 := [(5, .int (Int32.ofInt z480_)), (3, .long (Int64.ofInt z457_)), (0, .ref 344), (1, .int (Int32.ofInt a)), (2, .int (Int32.ofInt ll))]) hm_174 rfl (Nat.le_of_ble_eq_true rfl) rfl ?_
    refine ga_aload_n (v := .ref 344) hm_174 rfl rfl rfl ?_
    refine gIi (nY := 1) (F := 0) (L := 0) (As := []) (b := 344) (rest := []) hm_174 rfl hm_59 rfl rfl (fl_ob sc_344) rfl rfl rfl rfl rfl (by omega) (by omega) ?_
    intro f484_ l485_ h486_ h487_
    show fl_R xi_ms 59 f484_ l485_ 0 [(0, .ref 344)] [] _ _
    refine ga_aload_n (v := .ref 344) hm_59 rfl rfl rfl ?_
    have b488_ : 0 ≤ F463_ 344 9 ∧ F463_ 344 9 ≤ 5 := gi_g g464_ rfl
    refine ga_geti (z := F463_ 344 9) hm_59 rfl sc_344 rfl (rfl) ?_
    refine fl_if_le (a := F463_ 344 9) hm_59 rfl ⟨by omega, by omega⟩ (fun h489_ => ?_) (fun h490_ => ?_)
    · exfalso; omega
    refine fl_iconst hm_59 rfl ?_
    refine fl_goto hm_59 rfl ?_
    refine gr_i hm_59 rfl rfl (ga_nb (by omega)) ?_
    refine fl_if_ne hm_174 rfl ⟨by omega, by omega⟩ (fun _ => ?_) (fun h => absurd (by omega) h)
    refine ga_aload_n (v := .ref 344) hm_174 rfl rfl rfl ?_
    refine gIv (nY := 1) (F := 1) (L := 20) (As := []) (b := 344) (rest := []) hm_174 rfl hm_61 rfl rfl (fl_ob sc_344) rfl rfl rfl rfl rfl (by omega) (by omega) ?_
    intro f491_ l492_ h493_ h494_
    show fl_R xi_ms 61 f491_ l492_ 0 [(0, .ref 344)] [] _ _
    refine ga_aload_n (v := .ref 344) hm_61 rfl rfl rfl ?_
    refine ga_dup hm_61 rfl rfl ?_
    refine ga_geti (z := F 344 5) hm_61 rfl sc_344 rfl (e477_) ?_
    refine ga_aload_n (v := .ref 344) hm_61 rfl rfl rfl ?_
    refine gIi (nY := 1) (F := 0) (L := 0) (As := []) (b := 344) (rest := [.int (Int32.ofInt (F 344 5)), .ref 344]) hm_61 rfl hm_59 rfl rfl (fl_ob sc_344) rfl rfl rfl rfl rfl (by omega) (by omega) ?_
    intro f495_ l496_ h497_ h498_
    show fl_R xi_ms 59 f495_ l496_ 0 [(0, .ref 344)] [] _ _
    refine ga_aload_n (v := .ref 344) hm_59 rfl rfl rfl ?_
    refine ga_geti (z := F463_ 344 9) hm_59 rfl sc_344 rfl (rfl) ?_
    refine fl_if_le (a := F463_ 344 9) hm_59 rfl ⟨by omega, by omega⟩ (fun h499_ => ?_) (fun h500_ => ?_)
    · exfalso; omega
    refine fl_iconst hm_59 rfl ?_
    refine fl_goto hm_59 rfl ?_
    refine gr_i hm_59 rfl rfl (ga_nb (by omega)) ?_
    refine fl_if_eq hm_61 rfl ⟨by omega, by omega⟩ (fun h => absurd h (by omega)) (fun _ => ?_)
    refine fl_iconst hm_61 rfl ?_
    refine fl_goto hm_61 rfl ?_
    refine ga_iadd (a := F 344 5) (b := 0) (c := F 344 5) hm_61 rfl (by omega) ?_
    refine ga_puti (z := F 344 5) hm_61 rfl sc_344 rfl rfl ?_
    refine gr_v hm_61 rfl rfl ?_
    refine ga_aload_n (v := .ref 344) hm_174 rfl rfl rfl ?_
    refine gIi (nY := 1) (F := 0) (L := 0) (As := []) (b := 344) (rest := []) hm_174 rfl hm_59 rfl rfl (fl_ob sc_344) rfl rfl rfl rfl rfl (by omega) (by omega) ?_
    intro f501_ l502_ h503_ h504_
    show fl_R xi_ms 59 f501_ l502_ 0 [(0, .ref 344)] [] _ _
    refine ga_aload_n (v := .ref 344) hm_59 rfl rfl rfl ?_
    refine ga_geti (z := F463_ 344 9) hm_59 rfl sc_344 rfl (fl_u_ne (by omega)) ?_
    refine fl_if_le (a := F463_ 344 9) hm_59 rfl ⟨by omega, by omega⟩ (fun h505_ => ?_) (fun h506_ => ?_)
    · exfalso; omega
    refine fl_iconst hm_59 rfl ?_
    refine fl_goto hm_59 rfl ?_
    refine gr_i hm_59 rfl rfl (ga_nb (by omega)) ?_
    refine fl_if_eq hm_174 rfl ⟨by omega, by omega⟩ (fun h => absurd h (by omega)) (fun _ => ?_)
    obtain ⟨F507_, q508_⟩ : ∃ F9_, F9_ = (fl_u F463_ 344 5 (F 344 5)) := ⟨_, rfl⟩
    rw [← q508_]
    have g509_ : gi F507_ := by rw [q508_]; exact gi_u (g464_) rfl (by omega) (by omega)
    have g510_ : fs [(344, 344, 5, 5), (344, 344, 9, 10), (362, 363, 0, 100000)] F F507_ := by rw [q508_]; exact fs_u (g475_) rfl
    have rk511_ : rk K F507_ := by rw [q508_]; exact rk_u (rk476_) (by omega) (by omega)
    refine gr_v hm_174 rfl rfl ?_
    have e512_ : F507_ 344 9 = F463_ 344 9 := by rw [q508_]; exact fl_u_ne (by omega)
    have e513_ : F507_ 344 10 = F463_ 344 10 := by rw [q508_]; exact fl_u_ne (by omega)
    have e514_ : F507_ 344 5 = F 344 5 := by rw [q508_]; exact fl_u_eq
    have b515_ : 0 ≤ F463_ 344 10 ∧ F463_ 344 10 ≤ 600 := gi_g g464_ rfl
    exact Or.inl ⟨F507_, rfl, g509_, g510_, (by omega), (⟨by intro h0_; have hs_ := c460_.1 (by omega); have h1_ := nm_no hs_; rw [sp_nm, if_neg h1_] at hs_; have h2_ := Prod.mk.inj (Sum.inl.inj hs_); rw [sp_atom, if_neg h1_]; show Sum.inl (1, K 4 _) = _; congr 2 <;> omega, fun h0_ => by have hs_ := c460_.2 (by omega); omega⟩), (by omega)⟩
  exfalso; omega

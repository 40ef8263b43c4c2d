set_option maxHeartbeats 16000000 in
theorem mc_179 {G : Nat → Nat → Option Nat} (hG : gg G) (F : fl_N) (X : xi_H) (hgi : gi F) (K : fl_N) (a at_ k : Int) (l tl pl : List Int) (ps : List (List Int)) (hgK : gi K) (hrk : rk K F) (hkt : rkt K) (hp : 0 ≤ F 344 5 ∧ F 344 5 ≤ K 1 6 - 1) (ht : trm F a k l tl) (hlt : l.length = tl.length) (ha : 0 ≤ a ∧ a ≤ 5) (hpl : rpn (F 350) (F 344 17) pl) (hps : rprd F ps ∧ ps.length = pl.length) (hat : 0 ≤ at_ ∧ at_ ≤ 40) (hla : rla a at_) (hcd : F 344 9 = 0 → F 358 a.toNat ≤ 3) : fl_M xi_ms 179 5 117 [.ref 344, .int (Int32.ofInt a), .int (Int32.ofInt at_)] (fl_H sh_T G F ++ X) (pq_179 G F X K a at_ k l tl pl ps) := by
  intro fr lo hfr hlo
  show fl_R xi_ms 179 fr lo 0 [(0, .ref 344), (1, .int (Int32.ofInt a)), (2, .int (Int32.ofInt at_))] [] _ _
  have hP := (rkt_p hkt hp.1 hp.2 hgK).1
  have hK16 : 0 ≤ K 1 6 ∧ K 1 6 ≤ 601 := gi_g hgK rfl
  have hko := hkt.1
  have hbL : 0 ≤ F 358 a.toNat ∧ F 358 a.toNat ≤ 4 := gi_g hgi rfl
  have h2L : (2 * at_ + 2 * (F 358 a.toNat)).toNat = 2 * (at_ + F 358 a.toNat).toNat := by omega
  have h2L1 : (2 * at_ + 2 * (F 358 a.toNat) + 1).toNat = 2 * (at_ + F 358 a.toNat).toNat + 1 := by omega
  have hL2a : 2 * (at_ + F 358 a.toNat).toNat < 2 * ((at_ + F 358 a.toNat).toNat + 1) := by omega
  have hL2c : 2 * (at_ + F 358 a.toNat).toNat + 1 < 2 * ((at_ + F 358 a.toNat).toNat + 1) := by omega
  have b1_ : 0 ≤ F 344 9 ∧ F 344 9 ≤ 5 := gi_g hgi rfl
  by_cases h2_ : F 344 9 = 0
  ·
    refine ga_iload_n (z := at_) hm_179 rfl rfl ?_
    refine ga_aload_n (v := .ref 344) hm_179 rfl rfl rfl ?_
    refine gIi (nY := 1) (F := 0) (L := 0) (As := []) (b := 344) (rest := [.int (Int32.ofInt at_)]) hm_179 rfl hm_59 rfl rfl (fl_ob sc_344) rfl rfl rfl rfl rfl (by omega) (by omega) ?_
    intro f3_ l4_ h5_ h6_
    show fl_R xi_ms 59 f3_ l4_ 0 [(0, .ref 344)] [] _ _
    refine ga_aload_n (v := .ref 344) hm_59 rfl rfl rfl ?_
    refine ga_geti (z := F 344 9) hm_59 rfl sc_344 rfl (rfl) ?_
    refine fl_if_le (a := F 344 9) hm_59 rfl ⟨by omega, by omega⟩ (fun h7_ => ?_) (fun h8_ => ?_)
    ·
      refine fl_iconst hm_59 rfl ?_
      refine gr_i hm_59 rfl rfl (ga_nb (by omega)) ?_
      clear h5_ h6_ f3_ l4_
      refine fl_if_eq hm_179 rfl ⟨by omega, by omega⟩ (fun _ => ?_) (fun h => absurd (by omega) h)
      refine ga_aload_n (v := .ref 344) hm_179 rfl rfl rfl ?_
      refine ga_getr (b := 358) hm_179 rfl sc_344 rfl ?_
      refine ga_iload_n (z := a) hm_179 rfl rfl ?_
      have b9_ : 0 ≤ F 358 a.toNat ∧ F 358 a.toNat ≤ 4 := gi_g hgi rfl
      refine ga_iald (z := a) (w := F 358 a.toNat) hm_179 rfl sc_358 (by omega) (by omega) (by omega) (rfl) ?_
      refine ga_iadd (a := at_) (b := F 358 a.toNat) (c := at_ + F 358 a.toNat) hm_179 rfl (by omega) ?_
      refine ga_istore_n (lv2 := [(3, .int (Int32.ofInt (at_ + F 358 a.toNat))), (0, .ref 344), (1, .int (Int32.ofInt a)), (2, .int (Int32.ofInt at_))]) hm_179 rfl (Nat.le_of_ble_eq_true rfl) rfl ?_
      refine ga_aload_n (v := .ref 344) hm_179 rfl rfl rfl ?_
      refine fl_bipush hm_179 rfl rfl ?_
      have b10_ : 0 ≤ F 344 5 ∧ F 344 5 ≤ 600 := gi_g hgi rfl
      refine gVi (nY := 4) (F := 1) (L := 21) (As := [.int (Int32.ofInt 9)]) (b := 344) (rest := []) hm_179 rfl hm_56 rfl rfl (fl_ob sc_344) rfl rfl rfl rfl rfl (by omega) (by omega) (mc_56 hG F X hgi (K) (9) ([110, 111, 116]) hgK hrk hkt (⟨by omega, by omega⟩) (⟨by omega, by omega⟩) (by decide) (kw_9 hrk)) (fun _ _ h => False.elim h) ?_
      rintro z11_ A1_ (⟨hA_, hz_, c12_⟩ | ⟨hA_, hz_, c13_, c14_⟩)
      ·
        subst hA_
        subst hz_
        refine ga_istore (lv2 := [(4, .int (Int32.ofInt 0)), (3, .int (Int32.ofInt (at_ + F 358 a.toNat))), (0, .ref 344), (1, .int (Int32.ofInt a)), (2, .int (Int32.ofInt at_))]) hm_179 rfl (Nat.le_of_ble_eq_true rfl) rfl ?_
        refine ga_iload (z := 0) hm_179 rfl rfl ?_
        refine fl_if_eq hm_179 rfl ⟨by omega, by omega⟩ (fun _ => ?_) (fun h => absurd (by omega) h)
        refine ga_aload_n (v := .ref 344) hm_179 rfl rfl rfl ?_
        refine gIi (nY := 1) (F := 0) (L := 0) (As := []) (b := 344) (rest := []) hm_179 rfl hm_59 rfl rfl (fl_ob sc_344) rfl rfl rfl rfl rfl (by omega) (by omega) ?_
        intro f15_ l16_ h17_ h18_
        show fl_R xi_ms 59 f15_ l16_ 0 [(0, .ref 344)] [] _ _
        refine ga_aload_n (v := .ref 344) hm_59 rfl rfl rfl ?_
        refine ga_geti (z := F 344 9) hm_59 rfl sc_344 rfl (rfl) ?_
        refine fl_if_le (a := F 344 9) hm_59 rfl ⟨by omega, by omega⟩ (fun h19_ => ?_) (fun h20_ => ?_)
        ·
          refine fl_iconst hm_59 rfl ?_
          refine gr_i hm_59 rfl rfl (ga_nb (by omega)) ?_
          clear h17_ h18_ f15_ l16_
          refine fl_if_eq hm_179 rfl ⟨by omega, by omega⟩ (fun _ => ?_) (fun h => absurd (by omega) h)
          have b21_ : 0 ≤ F 344 10 ∧ F 344 10 ≤ 600 := gi_g hgi rfl
          exact mg_179_57 hG F X hgi K a at_ k l tl pl ps hgK hrk hkt hp ht hlt ha hpl hps hat hla hcd fr lo hfr hlo F (0) hgi fs_refl hrk ⟨by omega, by omega⟩ ⟨by omega, by omega⟩ (by omega) (by omega) (by rw [sp_lit, if_neg (fun h8_ => c12_ ⟨by omega, h8_⟩), sp_l2, if_neg (by decide)]) (mm_o (Or.inl rfl) (Bool.eq_false_iff.mpr (fun h8_ => c12_ ⟨by omega, h8_⟩))) (lfr_r)
        exfalso; omega
      subst hA_
      subst hz_
      refine ga_istore (lv2 := [(4, .int (Int32.ofInt 1)), (3, .int (Int32.ofInt (at_ + F 358 a.toNat))), (0, .ref 344), (1, .int (Int32.ofInt a)), (2, .int (Int32.ofInt at_))]) hm_179 rfl (Nat.le_of_ble_eq_true rfl) rfl ?_
      refine ga_iload (z := 1) hm_179 rfl rfl ?_
      refine fl_if_eq hm_179 rfl ⟨by omega, by omega⟩ (fun h => absurd h (by omega)) (fun _ => ?_)
      have hsz0 := (kw_iff (w := [110, 111, 116]) hkt hgK hp.1 hp.2 (by decide) (by decide)).mp c13_.2
      refine ga_aload_n (v := .ref 344) hm_179 rfl rfl rfl ?_
      refine ga_dup hm_179 rfl rfl ?_
      refine ga_geti (z := F 344 5) hm_179 rfl sc_344 rfl (rfl) ?_
      refine fl_iconst hm_179 rfl ?_
      refine ga_iadd (a := F 344 5) (b := 1) (c := F 344 5 + 1) hm_179 rfl (by omega) ?_
      refine ga_puti (z := F 344 5 + 1) hm_179 rfl sc_344 rfl rfl ?_
      refine ga_aload_n (v := .ref 344) hm_179 rfl rfl rfl ?_
      refine fl_bipush hm_179 rfl rfl ?_
      obtain ⟨F22_, q23_⟩ : ∃ Fq_, Fq_ = (fl_u F 344 5 (F 344 5 + 1)) := ⟨_, rfl⟩
      rw [← q23_]
      have g24_ : gi F22_ := by rw [q23_]; exact gi_u (hgi) rfl (by omega) (by omega)
      have g25_ : fs [(344, 344, 5, 5), (344, 344, 9, 10), (358, 358, 0, 100000), (360, 363, 0, 100000)] F F22_ := by rw [q23_]; exact fs_u (fs_refl) rfl
      have rk26_ : rk K F22_ := by rw [q23_]; exact rk_u (hrk) (by first | decide | exact nc_ rfl | omega) (by first | decide | exact nc_ rfl | omega)
      have e27_ : F22_ 344 5 = F 344 5 + 1 := by rw [q23_]; exact fl_u_eq
      refine gVv (nY := 2) (F := 2) (L := 41) (As := [.int (Int32.ofInt 40)]) (b := 344) (rest := []) hm_179 rfl hm_51 rfl rfl (fl_ob sc_344) rfl rfl rfl rfl rfl (by omega) (by omega) (mc_51 hG F22_ X g24_ (K) (40) (0) hgK rk26_ hkt (⟨by omega, by omega⟩) (by omega) (by omega)) (fun _ _ h => False.elim h) ?_
      have e29_ : F22_ 344 10 = F 344 10 := by rw [q23_]; exact fl_u_ne (by first | exact nc_ rfl | decide | omega)
      have b30_ : 0 ≤ F 344 10 ∧ F 344 10 ≤ 600 := gi_g hgi rfl
      have e31_ : F22_ 344 9 = F 344 9 := by rw [q23_]; exact fl_u_ne (by first | exact nc_ rfl | decide | omega)
      rintro A1_ (⟨F35_, hA_, g36_, s37_, c32_, c33_, c34_⟩ | ⟨F41_, hA_, g42_, s43_, c38_, c39_, c40_⟩)
      ·
        subst hA_
        have g44_ : fs [(344, 344, 5, 5), (344, 344, 9, 10), (358, 358, 0, 100000), (360, 363, 0, 100000)] F F35_ := fs_tr g25_ s37_ rfl
        have rk45_ : rk K F35_ := rk_fs rk26_ s37_ (fs_rg rfl) rfl
        try simp only [e27_, e29_, e31_] at c33_
        have c33_s := c33_.1 (by omega)
        clear c33_
        refine ga_aload_n (v := .ref 344) hm_179 rfl rfl rfl ?_
        refine gIi (nY := 1) (F := 0) (L := 0) (As := []) (b := 344) (rest := []) hm_179 rfl hm_59 rfl rfl (fl_ob sc_344) rfl rfl rfl rfl rfl (by omega) (by omega) ?_
        intro f46_ l47_ h48_ h49_
        show fl_R xi_ms 59 f46_ l47_ 0 [(0, .ref 344)] [] _ _
        refine ga_aload_n (v := .ref 344) hm_59 rfl rfl rfl ?_
        have b50_ : 0 ≤ F35_ 344 9 ∧ F35_ 344 9 ≤ 5 := gi_g g36_ rfl
        refine ga_geti (z := F35_ 344 9) hm_59 rfl sc_344 rfl (rfl) ?_
        refine fl_if_le (a := F35_ 344 9) hm_59 rfl ⟨by omega, by omega⟩ (fun h51_ => ?_) (fun h52_ => ?_)
        · exfalso; omega
        refine fl_iconst hm_59 rfl ?_
        refine fl_goto hm_59 rfl ?_
        refine gr_i hm_59 rfl rfl (ga_nb (by omega)) ?_
        clear h48_ h49_ f46_ l47_
        refine fl_if_eq hm_179 rfl ⟨by omega, by omega⟩ (fun h => absurd h (by omega)) (fun _ => ?_)
        refine gr_v hm_179 rfl rfl ?_
        have b53_ : 0 ≤ F35_ 344 10 ∧ F35_ 344 10 ≤ 600 := gi_g g36_ rfl
        have b54_ : 0 ≤ F35_ 344 5 ∧ F35_ 344 5 ≤ 600 := gi_g g36_ rfl
        exact Or.inl ⟨F35_, rfl, g36_, g44_, (by omega), (⟨by intro h0_; have hs_ := c33_s; rw [sp_lit, if_pos c13_.2, (show sk K (F 344 5) = F 344 5 + 1 by rw [sk, if_pos (by omega)])]; rw [hs_]; try (show Sum.inl _ = _); try (congr 2 <;> omega), fun h0_ => by exfalso; omega⟩), (⟨by omega, by omega⟩)⟩
      subst hA_
      have g55_ : fs [(344, 344, 5, 5), (344, 344, 9, 10), (358, 358, 0, 100000), (360, 363, 0, 100000)] F F41_ := fs_tr g25_ s43_ rfl
      have rk56_ : rk K F41_ := rk_fs rk26_ s43_ (fs_rg rfl) rfl
      try simp only [e31_] at c38_
      try simp only [e27_] at c39_
      refine ga_aload_n (v := .ref 344) hm_179 rfl rfl rfl ?_
      refine gIi (nY := 1) (F := 0) (L := 0) (As := []) (b := 344) (rest := []) hm_179 rfl hm_59 rfl rfl (fl_ob sc_344) rfl rfl rfl rfl rfl (by omega) (by omega) ?_
      intro f57_ l58_ h59_ h60_
      show fl_R xi_ms 59 f57_ l58_ 0 [(0, .ref 344)] [] _ _
      refine ga_aload_n (v := .ref 344) hm_59 rfl rfl rfl ?_
      have b61_ : 0 ≤ F41_ 344 9 ∧ F41_ 344 9 ≤ 5 := gi_g g42_ rfl
      refine ga_geti (z := F41_ 344 9) hm_59 rfl sc_344 rfl (rfl) ?_
      refine fl_if_le (a := F41_ 344 9) hm_59 rfl ⟨by omega, by omega⟩ (fun h62_ => ?_) (fun h63_ => ?_)
      ·
        refine fl_iconst hm_59 rfl ?_
        refine gr_i hm_59 rfl rfl (ga_nb (by omega)) ?_
        clear h59_ h60_ f57_ l58_
        refine fl_if_eq hm_179 rfl ⟨by omega, by omega⟩ (fun _ => ?_) (fun h => absurd (by omega) h)
        have b64_ : 0 ≤ F41_ 344 10 ∧ F41_ 344 10 ≤ 600 := gi_g g42_ rfl
        have b65_ : 0 ≤ F41_ 344 5 ∧ F41_ 344 5 ≤ 600 := gi_g g42_ rfl
        have e66_ : F22_ 358 a.toNat = F 358 a.toNat := by rw [q23_]; exact fl_u_ne (by first | exact nc_ rfl | decide | omega)
        have e67_ : F41_ 358 a.toNat = F 358 a.toNat := (s43_ 358 a.toNat (by first | exact fs_c rfl | exact (fs_n (by omega) (fs_n (by omega) rfl)))).trans (e66_)
        exact mg_179_57 hG F X hgi K a at_ k l tl pl ps hgK hrk hkt hp ht hlt ha hpl hps hat hla hcd fr lo hfr hlo F41_ (1) g42_ g55_ rk56_ ⟨by omega, by omega⟩ ⟨by omega, by omega⟩ (by omega) (by omega) (by rw [sp_lit, if_pos c13_.2, (show sk K (F 344 5) = F 344 5 + 1 by rw [sk, if_pos (by omega)]), c39_, pb_r, sp_l2, if_pos rfl]) (mm_n (Or.inl rfl) c13_.2 (show sk K (F 344 5) = F 344 5 + 1 by rw [sk, if_pos (by omega)]) c39_) ((lfr_fg (by rw [q23_]; exact (lfr_uo lfr_r rfl)) s43_ rfl))
      exfalso; omega
    exfalso; omega
  refine ga_iload_n (z := at_) hm_179 rfl rfl ?_
  refine ga_aload_n (v := .ref 344) hm_179 rfl rfl rfl ?_
  refine gIi (nY := 1) (F := 0) (L := 0) (As := []) (b := 344) (rest := [.int (Int32.ofInt at_)]) hm_179 rfl hm_59 rfl rfl (fl_ob sc_344) rfl rfl rfl rfl rfl (by omega) (by omega) ?_
  intro f68_ l69_ h70_ h71_
  show fl_R xi_ms 59 f68_ l69_ 0 [(0, .ref 344)] [] _ _
  refine ga_aload_n (v := .ref 344) hm_59 rfl rfl rfl ?_
  refine ga_geti (z := F 344 9) hm_59 rfl sc_344 rfl (rfl) ?_
  refine fl_if_le (a := F 344 9) hm_59 rfl ⟨by omega, by omega⟩ (fun h72_ => ?_) (fun h73_ => ?_)
  · exfalso; omega
  refine fl_iconst hm_59 rfl ?_
  refine fl_goto hm_59 rfl ?_
  refine gr_i hm_59 rfl rfl (ga_nb (by omega)) ?_
  clear h70_ h71_ f68_ l69_
  refine fl_if_eq hm_179 rfl ⟨by omega, by omega⟩ (fun h => absurd h (by omega)) (fun _ => ?_)
  refine fl_iconst hm_179 rfl ?_
  refine fl_goto hm_179 rfl ?_
  refine ga_iadd (a := at_) (b := 0) (c := at_) hm_179 rfl (by omega) ?_
  refine ga_istore_n (lv2 := [(3, .int (Int32.ofInt at_)), (0, .ref 344), (1, .int (Int32.ofInt a)), (2, .int (Int32.ofInt at_))]) hm_179 rfl (Nat.le_of_ble_eq_true rfl) rfl ?_
  refine ga_aload_n (v := .ref 344) hm_179 rfl rfl rfl ?_
  refine fl_bipush hm_179 rfl rfl ?_
  have b74_ : 0 ≤ F 344 5 ∧ F 344 5 ≤ 600 := gi_g hgi rfl
  refine gVi (nY := 4) (F := 1) (L := 21) (As := [.int (Int32.ofInt 9)]) (b := 344) (rest := []) hm_179 rfl hm_56 rfl rfl (fl_ob sc_344) rfl rfl rfl rfl rfl (by omega) (by omega) (mc_56 hG F X hgi (K) (9) ([110, 111, 116]) hgK hrk hkt (⟨by omega, by omega⟩) (⟨by omega, by omega⟩) (by decide) (kw_9 hrk)) (fun _ _ h => False.elim h) ?_
  rintro z75_ A1_ (⟨hA_, hz_, c76_⟩ | ⟨hA_, hz_, c77_, c78_⟩)
  ·
    subst hA_
    subst hz_
    refine ga_istore (lv2 := [(4, .int (Int32.ofInt 0)), (3, .int (Int32.ofInt at_)), (0, .ref 344), (1, .int (Int32.ofInt a)), (2, .int (Int32.ofInt at_))]) hm_179 rfl (Nat.le_of_ble_eq_true rfl) rfl ?_
    refine ga_iload (z := 0) hm_179 rfl rfl ?_
    refine fl_if_eq hm_179 rfl ⟨by omega, by omega⟩ (fun _ => ?_) (fun h => absurd (by omega) h)
    refine ga_aload_n (v := .ref 344) hm_179 rfl rfl rfl ?_
    refine gIi (nY := 1) (F := 0) (L := 0) (As := []) (b := 344) (rest := []) hm_179 rfl hm_59 rfl rfl (fl_ob sc_344) rfl rfl rfl rfl rfl (by omega) (by omega) ?_
    intro f79_ l80_ h81_ h82_
    show fl_R xi_ms 59 f79_ l80_ 0 [(0, .ref 344)] [] _ _
    refine ga_aload_n (v := .ref 344) hm_59 rfl rfl rfl ?_
    refine ga_geti (z := F 344 9) hm_59 rfl sc_344 rfl (rfl) ?_
    refine fl_if_le (a := F 344 9) hm_59 rfl ⟨by omega, by omega⟩ (fun h83_ => ?_) (fun h84_ => ?_)
    · exfalso; omega
    refine fl_iconst hm_59 rfl ?_
    refine fl_goto hm_59 rfl ?_
    refine gr_i hm_59 rfl rfl (ga_nb (by omega)) ?_
    clear h81_ h82_ f79_ l80_
    refine fl_if_eq hm_179 rfl ⟨by omega, by omega⟩ (fun h => absurd h (by omega)) (fun _ => ?_)
    refine gr_v hm_179 rfl rfl ?_
    have b85_ : 0 ≤ F 344 10 ∧ F 344 10 ≤ 600 := gi_g hgi rfl
    exact Or.inl ⟨F, rfl, hgi, fs_refl, (by omega), (⟨fun h0_ => by exfalso; omega, fun h0_ => by constructor <;> omega⟩), (⟨by omega, by omega⟩)⟩
  exfalso; omega

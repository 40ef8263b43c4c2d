/- CheapPlannerModel.readOneEffect -/
abbrev pq_181 (G : Nat → Nat → Option Nat) (F : fl_N) (X : xi_H) (K : fl_N) (a k c : Int) (l tl pl : List Int) (ps : List (List Int)) (L : List lt_T) : Outcome → xi_H → Prop := gqv (fun A => (∃ F' : fl_N, fl_H sh_T G F' ++ X = A ∧ gi F' ∧ fs [(344, 344, 5, 5), (344, 344, 9, 10), (344, 344, 63, 63), (357, 357, 0, 100000), (359, 363, 0, 100000)] F F' ∧ (¬ F' 344 9 = 0) ∧ ((F 344 9 = 0 → sp_mem K true k l tl pl ps c (F 344 5) = .inl (F' 344 9, F' 344 10)) ∧ (¬ F 344 9 = 0 → F' 344 9 = F 344 9 ∧ F' 344 10 = F 344 10)) ∧ (0 ≤ F' 344 5 ∧ F' 344 5 ≤ K 1 6 - 1)) ∨ (∃ F' : fl_N, fl_H sh_T G F' ++ X = A ∧ gi F' ∧ fs [(344, 344, 5, 5), (344, 344, 9, 10), (344, 344, 63, 63), (357, 357, 0, 100000), (359, 363, 0, 100000)] F F' ∧ (F' 344 9 = 0 ∧ F 344 9 = 0) ∧ (∃ c2, sp_mem K true k l tl pl ps c (F 344 5) = .inr (F' 344 5, c2) ∧ ((F' 344 63 = 0 ∧ c2 = 0) ∨ (F' 344 63 = 1 ∧ ¬ c2 = 0)) ∧ F' 357 a.toNat = (if c2 = 0 then 1 else c2)) ∧ (0 ≤ F' 344 5 ∧ F' 344 5 ≤ K 1 6 - 1) ∧ (F' 359 a.toNat ≤ F 359 a.toNat + 1) ∧ (cst a.toNat F F') ∧ (lfr a.toNat (8 * a.toNat + 4 + L.length) (8 * a.toNat + 4 + L.length + 1) F F') ∧ (rcl F' (8 * a.toNat + 4) (L ++ mem_d K true l pl ps (F 344 5)) ∧ ((L ++ mem_d K true l pl ps (F 344 5)).length : Int) = F' 359 a.toNat))) gqn
set_option maxHeartbeats 16000000 in
theorem mc_181 {G : Nat → Nat → Option Nat} (hG : gg G) (F : fl_N) (X : xi_H) (hgi : gi F) (K : fl_N) (a k c : Int) (l tl pl : List Int) (ps : List (List Int)) (L : List lt_T) (hgK : gi K) (hrk : rk K F) (hkt : rkt K) (hp : 0 ≤ F 344 5 ∧ F 344 5 ≤ K 1 6 - 1) (ht9 : F 344 9 = 0 → trm F a k l tl ∧ l.length = tl.length) (ha : 0 ≤ a ∧ a ≤ 4) (hpl : rpn (F 350) (F 344 17) pl) (hps : rprd F ps ∧ ps.length = pl.length) (hi : (F 344 63 = 0 ∧ c = 0) ∨ (F 344 63 = 1 ∧ ¬ c = 0)) (hce : F 344 9 = 0 → F 359 a.toNat ≤ 3) (hL : F 344 9 = 0 → rcl F (8 * a.toNat + 4) L ∧ (L.length : Int) = F 359 a.toNat ∧ F 357 a.toNat = (if c = 0 then 1 else c)) : fl_M xi_ms 181 5 117 [.ref 344, .int (Int32.ofInt a)] (fl_H sh_T G F ++ X) (pq_181 G F X K a k c l tl pl ps L) := by
  intro fr lo hfr hlo
  show fl_R xi_ms 181 fr lo 0 [(0, .ref 344), (1, .int (Int32.ofInt a))] [] _ _
  have hP := (rkt_p hkt hp.1 hp.2 hgK).1
  have hK16 : 0 ≤ K 1 6 ∧ K 1 6 ≤ 601 := gi_g hgK rfl
  have hko := hkt.1
  have b1_ : 0 ≤ F 344 9 ∧ F 344 9 ≤ 5 := gi_g hgi rfl
  by_cases h2_ : F 344 9 = 0
  ·
    refine ga_aload_n (v := .ref 344) hm_181 rfl rfl rfl ?_
    refine gIi (nY := 1) (F := 0) (L := 0) (As := []) (b := 344) (rest := []) hm_181 rfl hm_59 rfl rfl (fl_ob sc_344) rfl rfl rfl rfl rfl (by omega) (by omega) ?_
    intro f3_ l4_ h5_ h6_
    show fl_R xi_ms 59 f3_ l4_ 0 [(0, .ref 344)] [] _ _
    refine ga_aload_n (v := .ref 344) hm_59 rfl rfl rfl ?_
    refine ga_geti (z := F 344 9) hm_59 rfl sc_344 rfl (rfl) ?_
    refine fl_if_le (a := F 344 9) hm_59 rfl ⟨by omega, by omega⟩ (fun h7_ => ?_) (fun h8_ => ?_)
    ·
      refine fl_iconst hm_59 rfl ?_
      refine gr_i hm_59 rfl rfl (ga_nb (by omega)) ?_
      clear h5_ h6_ f3_ l4_
      refine fl_if_eq hm_181 rfl ⟨by omega, by omega⟩ (fun _ => ?_) (fun h => absurd (by omega) h)
      have ht := (ht9 (by omega)).1
      have hlt := (ht9 (by omega)).2
      obtain ⟨hL1, hL2, hL3⟩ := hL (by omega)
      refine ga_aload_n (v := .ref 344) hm_181 rfl rfl rfl ?_
      refine fl_bipush hm_181 rfl rfl ?_
      have b9_ : 0 ≤ F 344 5 ∧ F 344 5 ≤ 600 := gi_g hgi rfl
      refine gVi (nY := 4) (F := 1) (L := 21) (As := [.int (Int32.ofInt 11)]) (b := 344) (rest := []) hm_181 rfl hm_56 rfl rfl (fl_ob sc_344) rfl rfl rfl rfl rfl (by omega) (by omega) (mc_56 hG F X hgi (K) (11) ([105, 110, 99, 114, 101, 97, 115, 101]) hgK hrk hkt (by omega) (by omega) (by decide) (kw_11 hrk)) (fun _ _ h => False.elim h) ?_
      rintro z10_ A1_ (⟨hA_, hz_, c11_⟩ | ⟨hA_, hz_, c12_, c13_⟩)
      ·
        subst hA_
        subst hz_
        refine fl_if_eq hm_181 rfl ⟨by omega, by omega⟩ (fun _ => ?_) (fun h => absurd (by omega) h)
        refine fl_bipush hm_181 rfl rfl ?_
        refine ga_iload_n (z := a) hm_181 rfl rfl ?_
        refine ga_imul (a := 8) (b := a) (c := 8 * a) hm_181 rfl (by omega) ?_
        refine fl_iconst hm_181 rfl ?_
        refine ga_iadd (a := 8 * a) (b := 4) (c := 8 * a + 4) hm_181 rfl (by omega) ?_
        refine ga_aload_n (v := .ref 344) hm_181 rfl rfl rfl ?_
        refine ga_getr (b := 359) hm_181 rfl sc_344 rfl ?_
        refine ga_iload_n (z := a) hm_181 rfl rfl ?_
        have b14_ : 0 ≤ F 359 a.toNat ∧ F 359 a.toNat ≤ 4 := gi_g hgi rfl
        refine ga_iald (z := a) (w := F 359 a.toNat) hm_181 rfl sc_359 (by omega) (by omega) (by omega) (rfl) ?_
        refine ga_iadd (a := 8 * a + 4) (b := F 359 a.toNat) (c := 8 * a + F 359 a.toNat + 4) hm_181 rfl (by omega) ?_
        refine ga_istore_n (lv2 := [(2, .int (Int32.ofInt (8 * a + F 359 a.toNat + 4))), (0, .ref 344), (1, .int (Int32.ofInt a))]) hm_181 rfl (Nat.le_of_ble_eq_true rfl) rfl ?_
        refine ga_aload_n (v := .ref 344) hm_181 rfl rfl rfl ?_
        refine fl_bipush hm_181 rfl rfl ?_
        refine gVi (nY := 4) (F := 1) (L := 21) (As := [.int (Int32.ofInt 9)]) (b := 344) (rest := []) hm_181 rfl hm_56 rfl rfl (fl_ob sc_344) rfl rfl rfl rfl rfl (by omega) (by omega) (mc_56 hG F X hgi (K) (9) ([110, 111, 116]) hgK hrk hkt (by omega) (by omega) (by decide) (kw_9 hrk)) (fun _ _ h => False.elim h) ?_
        rintro z15_ A1_ (⟨hA_, hz_, c16_⟩ | ⟨hA_, hz_, c17_, c18_⟩)
        ·
          subst hA_
          subst hz_
          refine ga_istore_n (lv2 := [(3, .int (Int32.ofInt 0)), (2, .int (Int32.ofInt (8 * a + F 359 a.toNat + 4))), (0, .ref 344), (1, .int (Int32.ofInt a))]) hm_181 rfl (Nat.le_of_ble_eq_true rfl) rfl ?_
          refine ga_iload_n (z := 0) hm_181 rfl rfl ?_
          refine fl_if_eq hm_181 rfl ⟨by omega, by omega⟩ (fun _ => ?_) (fun h => absurd (by omega) h)
          refine ga_aload_n (v := .ref 344) hm_181 rfl rfl rfl ?_
          refine ga_getr (b := 361) hm_181 rfl sc_344 rfl ?_
          refine ga_iload_n (z := 8 * a + F 359 a.toNat + 4) hm_181 rfl rfl ?_
          refine ga_iload_n (z := 0) hm_181 rfl rfl ?_
          refine fl_zast (z := 8 * a + F 359 a.toNat + 4) (v := 0) hm_181 rfl sc_361 (by omega) (by omega) (by omega) (ga_vb (by omega)) ?_
          refine ga_aload_n (v := .ref 344) hm_181 rfl rfl rfl ?_
          refine ga_getr (b := 360) hm_181 rfl sc_344 rfl ?_
          refine ga_iload_n (z := 8 * a + F 359 a.toNat + 4) hm_181 rfl rfl ?_
          refine fl_iconst hm_181 rfl ?_
          refine fl_zast (z := 8 * a + F 359 a.toNat + 4) (v := 0) hm_181 rfl sc_360 (by omega) (by omega) (by omega) (ga_vb (by omega)) ?_
          refine ga_aload_n (v := .ref 344) hm_181 rfl rfl rfl ?_
          refine ga_iload_n (z := a) hm_181 rfl rfl ?_
          refine ga_iload_n (z := 8 * a + F 359 a.toNat + 4) hm_181 rfl rfl ?_
          obtain ⟨F19_, q20_⟩ : ∃ F9_, F9_ = (fl_u (fl_u F 361 (8 * a + F 359 a.toNat + 4).toNat 0) 360 (8 * a + F 359 a.toNat + 4).toNat 0) := ⟨_, rfl⟩
          rw [← q20_]
          have g21_ : gi F19_ := by rw [q20_]; exact gi_u (gi_u (hgi) rfl (by omega) (by omega)) rfl (by omega) (by omega)
          have g22_ : fs [(344, 344, 5, 5), (344, 344, 9, 10), (344, 344, 63, 63), (357, 357, 0, 100000), (359, 363, 0, 100000)] F F19_ := by rw [q20_]; exact fs_u (fs_u (fs_refl) (fs_z (fs_z (fs_z (fs_z (fs_y (by omega))))))) (fs_z (fs_z (fs_z (fs_z (fs_y (by omega))))))
          have rk23_ : rk K F19_ := by rw [q20_]; exact rk_u (rk_u (hrk) (by omega) (by omega)) (by omega) (by omega)
          have e24_ : F19_ 344 5 = F 344 5 := by rw [q20_]; exact (fl_u_ne (by omega)).trans (fl_u_ne (by omega))
          refine gVv (nY := 7) (F := 4) (L := 91) (As := [.int (Int32.ofInt a), .int (Int32.ofInt (8 * a + F 359 a.toNat + 4))]) (b := 344) (rest := []) hm_181 rfl hm_174 rfl rfl (fl_ob sc_344) rfl rfl rfl rfl rfl (by omega) (by omega) (mc_174 hG F19_ X g21_ (K) (a) (8 * a + F 359 a.toNat + 4) (k) (l) (tl) (pl) (ps) hgK rk23_ hkt (by omega) ((by rw [q20_]; exact (trm_u (trm_u ht (by omega)) (by omega)))) (hlt) (by omega) ((by rw [q20_]; exact (rpn_u (rpn_u hpl (by omega) (by omega)) (by omega) (by omega)))) (⟨(by rw [q20_]; exact (rprd_u (rprd_u hps.1 (by omega)) (by omega))), hps.2⟩) (by omega) (Or.inl (by omega))) (fun _ _ h => False.elim h) ?_
          have e26_ : F19_ 344 10 = F 344 10 := by rw [q20_]; exact (fl_u_ne (by omega)).trans (fl_u_ne (by omega))
          have b27_ : 0 ≤ F 344 10 ∧ F 344 10 ≤ 600 := gi_g hgi rfl
          have e28_ : F19_ 344 9 = F 344 9 := by rw [q20_]; exact (fl_u_ne (by omega)).trans (fl_u_ne (by omega))
          rintro A1_ (⟨F32_, hA_, g33_, s34_, c29_, c30_, c31_⟩ | ⟨F40_, hA_, g41_, s42_, c35_, c36_, c37_, c38_, c39_⟩)
          ·
            subst hA_
            have g43_ : fs [(344, 344, 5, 5), (344, 344, 9, 10), (344, 344, 63, 63), (357, 357, 0, 100000), (359, 363, 0, 100000)] F F32_ := fs_tr g22_ s34_ rfl
            have rk44_ : rk K F32_ := rk_fs rk23_ s34_ (fun r k h => (fs_n (by omega) (fs_n (by omega) (fs_n (by omega) rfl)))) (fs_n (by omega) (fs_n (by omega) (fs_n (by omega) rfl)))
            try simp only [e24_, e26_, e28_] at c30_
            have c30_s := c30_.1 (by omega)
            clear c30_
            refine ga_iload_n (z := 0) hm_181 rfl rfl ?_
            refine fl_if_eq hm_181 rfl ⟨by omega, by omega⟩ (fun _ => ?_) (fun h => absurd (by omega) h)
            refine ga_aload_n (v := .ref 344) hm_181 rfl rfl rfl ?_
            refine ga_getr (b := 359) hm_181 rfl sc_344 rfl ?_
            refine ga_iload_n (z := a) hm_181 rfl rfl ?_
            refine ga_dup2 hm_181 rfl ⟨rfl, rfl⟩ ?_
            have e45_ : F19_ 359 a.toNat = F 359 a.toNat := by rw [q20_]; exact (fl_u_ne (by omega)).trans (fl_u_ne (by omega))
            have e46_ : F32_ 359 a.toNat = F 359 a.toNat := (s34_ 359 a.toNat (fs_n (by omega) (fs_n (by omega) (fs_n (by omega) rfl)))).trans (e45_)
            refine ga_iald (z := a) (w := F 359 a.toNat) hm_181 rfl sc_359 (by omega) (by omega) (by omega) (e46_) ?_
            refine fl_iconst hm_181 rfl ?_
            refine ga_iadd (a := F 359 a.toNat) (b := 1) (c := F 359 a.toNat + 1) hm_181 rfl (by omega) ?_
            refine fl_iast (z := a) (v := F 359 a.toNat + 1) hm_181 rfl sc_359 (by omega) (by omega) (by omega) ?_
            obtain ⟨F47_, q48_⟩ : ∃ F9_, F9_ = (fl_u F32_ 359 a.toNat (F 359 a.toNat + 1)) := ⟨_, rfl⟩
            rw [← q48_]
            have g49_ : gi F47_ := by rw [q48_]; exact gi_u (g33_) rfl (by omega) (by omega)
            have g50_ : fs [(344, 344, 5, 5), (344, 344, 9, 10), (344, 344, 63, 63), (357, 357, 0, 100000), (359, 363, 0, 100000)] F F47_ := by rw [q48_]; exact fs_u (g43_) (fs_z (fs_z (fs_z (fs_z (fs_y (by omega))))))
            have rk51_ : rk K F47_ := by rw [q48_]; exact rk_u (rk44_) (by omega) (by omega)
            refine gr_v hm_181 rfl rfl ?_
            have e52_ : F47_ 344 9 = F32_ 344 9 := by rw [q48_]; exact fl_u_ne (by omega)
            have b53_ : 0 ≤ F32_ 344 9 ∧ F32_ 344 9 ≤ 5 := gi_g g33_ rfl
            have e54_ : F47_ 344 10 = F32_ 344 10 := by rw [q48_]; exact fl_u_ne (by omega)
            have e55_ : F47_ 344 5 = F32_ 344 5 := by rw [q48_]; exact fl_u_ne (by omega)
            have b56_ : 0 ≤ F32_ 344 10 ∧ F32_ 344 10 ≤ 600 := gi_g g33_ rfl
            have b57_ : 0 ≤ F32_ 344 5 ∧ F32_ 344 5 ≤ 600 := gi_g g33_ rfl
            exact Or.inl ⟨F47_, rfl, g49_, g50_, (by omega), (⟨by intro h0_; have hs_ := c30_s; rw [sp_mem_ef (fun h8_ => c11_ ⟨by omega, h8_⟩)]; rw [sp_ef, if_neg (fun h8_ => c16_ ⟨by omega, h8_⟩)]; rw [hs_]; show Sum.inl _ = _; try (congr 2 <;> omega), fun h0_ => by exfalso; omega⟩), (by omega)⟩
          subst hA_
          have g58_ : fs [(344, 344, 5, 5), (344, 344, 9, 10), (344, 344, 63, 63), (357, 357, 0, 100000), (359, 363, 0, 100000)] F F40_ := fs_tr g22_ s42_ rfl
          have rk59_ : rk K F40_ := rk_fs rk23_ s42_ (fun r k h => (fs_n (by omega) (fs_n (by omega) (fs_n (by omega) rfl)))) (fs_n (by omega) (fs_n (by omega) (fs_n (by omega) rfl)))
          try simp only [e28_] at c35_
          try simp only [e24_] at c36_
          try simp only [e24_] at c39_
          refine ga_iload_n (z := 0) hm_181 rfl rfl ?_
          refine fl_if_eq hm_181 rfl ⟨by omega, by omega⟩ (fun _ => ?_) (fun h => absurd (by omega) h)
          refine ga_aload_n (v := .ref 344) hm_181 rfl rfl rfl ?_
          refine ga_getr (b := 359) hm_181 rfl sc_344 rfl ?_
          refine ga_iload_n (z := a) hm_181 rfl rfl ?_
          refine ga_dup2 hm_181 rfl ⟨rfl, rfl⟩ ?_
          have e60_ : F19_ 359 a.toNat = F 359 a.toNat := by rw [q20_]; exact (fl_u_ne (by omega)).trans (fl_u_ne (by omega))
          have e61_ : F40_ 359 a.toNat = F 359 a.toNat := (s42_ 359 a.toNat (fs_n (by omega) (fs_n (by omega) (fs_n (by omega) rfl)))).trans (e60_)
          refine ga_iald (z := a) (w := F 359 a.toNat) hm_181 rfl sc_359 (by omega) (by omega) (by omega) (e61_) ?_
          refine fl_iconst hm_181 rfl ?_
          refine ga_iadd (a := F 359 a.toNat) (b := 1) (c := F 359 a.toNat + 1) hm_181 rfl (by omega) ?_
          refine fl_iast (z := a) (v := F 359 a.toNat + 1) hm_181 rfl sc_359 (by omega) (by omega) (by omega) ?_
          obtain ⟨F62_, q63_⟩ : ∃ F9_, F9_ = (fl_u F40_ 359 a.toNat (F 359 a.toNat + 1)) := ⟨_, rfl⟩
          rw [← q63_]
          have g64_ : gi F62_ := by rw [q63_]; exact gi_u (g41_) rfl (by omega) (by omega)
          have g65_ : fs [(344, 344, 5, 5), (344, 344, 9, 10), (344, 344, 63, 63), (357, 357, 0, 100000), (359, 363, 0, 100000)] F F62_ := by rw [q63_]; exact fs_u (g58_) (fs_z (fs_z (fs_z (fs_z (fs_y (by omega))))))
          have rk66_ : rk K F62_ := by rw [q63_]; exact rk_u (rk59_) (by omega) (by omega)
          refine gr_v hm_181 rfl rfl ?_
          have e67_ : F62_ 344 9 = F40_ 344 9 := by rw [q63_]; exact fl_u_ne (by omega)
          have b68_ : 0 ≤ F40_ 344 9 ∧ F40_ 344 9 ≤ 5 := gi_g g41_ rfl
          have e69_ : F62_ 344 10 = F40_ 344 10 := by rw [q63_]; exact fl_u_ne (by omega)
          have e70_ : F62_ 344 5 = F40_ 344 5 := by rw [q63_]; exact fl_u_ne (by omega)
          have b71_ : 0 ≤ F40_ 344 5 ∧ F40_ 344 5 ≤ 600 := gi_g g41_ rfl
          have e72_ : F19_ 344 63 = F 344 63 := by rw [q20_]; exact (fl_u_ne (by omega)).trans (fl_u_ne (by omega))
          have e73_ : F40_ 344 63 = F 344 63 := (s42_ 344 63 rfl).trans (e72_)
          have e74_ : F62_ 344 63 = F 344 63 := by rw [q63_]; exact (fl_u_ne (by omega)).trans (e73_)
          have b75_ : 0 ≤ F 344 63 ∧ F 344 63 ≤ 1 := gi_g hgi rfl
          have e76_ : F19_ 357 a.toNat = F 357 a.toNat := by rw [q20_]; exact (fl_u_ne (by omega)).trans (fl_u_ne (by omega))
          have e77_ : F40_ 357 a.toNat = F 357 a.toNat := (s42_ 357 a.toNat (fs_n (by omega) (fs_n (by omega) (fs_n (by omega) rfl)))).trans (e76_)
          have e78_ : F62_ 357 a.toNat = F 357 a.toNat := by rw [q63_]; exact (fl_u_ne (by omega)).trans (e77_)
          have e79_ : F62_ 359 a.toNat = F 359 a.toNat + 1 := by rw [q63_]; exact fl_u_eq
          have e80_ : F19_ 361 (8 * a + F 359 a.toNat + 4).toNat = 0 := by rw [q20_]; exact (fl_u_ne (by omega)).trans (fl_u_eq)
          have e81_ : F40_ 361 (8 * a + F 359 a.toNat + 4).toNat = 0 := (s42_ 361 (8 * a + F 359 a.toNat + 4).toNat (fs_n (by omega) (fs_n (by omega) (fs_n (by omega) rfl)))).trans (e80_)
          have e82_ : F62_ 361 (8 * a + F 359 a.toNat + 4).toNat = 0 := by rw [q63_]; exact (fl_u_ne (by omega)).trans (e81_)
          have e83_ : F19_ 360 (8 * a + F 359 a.toNat + 4).toNat = 0 := by rw [q20_]; exact fl_u_eq
          have e84_ : F40_ 360 (8 * a + F 359 a.toNat + 4).toNat = 0 := (s42_ 360 (8 * a + F 359 a.toNat + 4).toNat (fs_n (by omega) (fs_n (by omega) (fs_n (by omega) rfl)))).trans (e83_)
          have e85_ : F62_ 360 (8 * a + F 359 a.toNat + 4).toNat = 0 := by rw [q63_]; exact (fl_u_ne (by omega)).trans (e84_)
          exact Or.inr (⟨F62_, rfl, g64_, g65_, (by omega), (⟨c, by rw [sp_mem_ef (fun h8_ => c11_ ⟨by omega, h8_⟩)]; rw [sp_ef, if_neg (fun h8_ => c16_ ⟨by omega, h8_⟩)]; rw [c36_, pb_r]; congr 2 <;> omega, by omega, Eq.trans (e78_) hL3⟩), (by omega), (by omega), ((by rw [q63_]; exact (cst_u (cst_fs (by rw [q20_]; exact (cst_u (cst_u cst_r (by decide)) (by decide))) s42_ (fun _ => (fs_n (by omega) (fs_n (by omega) (fs_n (by omega) rfl))))) (by decide)))), ((by rw [q63_]; exact (lfr_ua (lfr_tr (by rw [q20_]; exact (lfr_ul (lfr_ul lfr_r rfl (by omega) (by omega)) rfl (by omega) (by omega))) c38_ (by first | omega | (simp <;> omega)) (by first | omega | (simp <;> omega))) rfl rfl))), (by rw [mm_o (Or.inr (Bool.eq_false_iff.mpr (fun h8_ => c11_ ⟨by omega, h8_⟩))) (Bool.eq_false_iff.mpr (fun h8_ => c16_ ⟨by omega, h8_⟩)), mb_a (Or.inl rfl)]; exact ⟨rcl_add (rcl_lfr hL1 (show lfr a.toNat (8 * a.toNat + 4 + L.length) (8 * a.toNat + 4 + L.length + 1) F F62_ from (by rw [q63_]; exact (lfr_ua (lfr_tr (by rw [q20_]; exact (lfr_ul (lfr_ul lfr_r rfl (by omega) (by omega)) rfl (by omega) (by omega))) c38_ (by first | omega | (simp <;> omega)) (by first | omega | (simp <;> omega))) rfl rfl))) (by omega)) (ll := (8 * a + F 359 a.toNat + 4).toNat) (by omega) ⟨e82_, Or.inr ⟨at_ge c36_, e85_, rat_cg c39_ (show F62_ 362 (8 * a + F 359 a.toNat + 4).toNat = F40_ 362 (8 * a + F 359 a.toNat + 4).toNat from (by rw [q63_]; exact (fl_u_ne (by omega)))) (show F62_ 363 (2 * (8 * a + F 359 a.toNat + 4).toNat) = F40_ 363 (2 * (8 * a + F 359 a.toNat + 4).toNat) from (by rw [q63_]; exact (fl_u_ne (by omega)))) (show F62_ 363 (2 * (8 * a + F 359 a.toNat + 4).toNat + 1) = F40_ 363 (2 * (8 * a + F 359 a.toNat + 4).toNat + 1) from (by rw [q63_]; exact (fl_u_ne (by omega))))⟩⟩, by simp only [List.length_append, List.length_singleton]; omega⟩)⟩)
        subst hA_
        subst hz_
        refine ga_istore_n (lv2 := [(3, .int (Int32.ofInt 1)), (2, .int (Int32.ofInt (8 * a + F 359 a.toNat + 4))), (0, .ref 344), (1, .int (Int32.ofInt a))]) hm_181 rfl (Nat.le_of_ble_eq_true rfl) rfl ?_
        refine ga_iload_n (z := 1) hm_181 rfl rfl ?_
        refine fl_if_eq hm_181 rfl ⟨by omega, by omega⟩ (fun h => absurd h (by omega)) (fun _ => ?_)
        have hsz0 := (kw_iff (w := [110, 111, 116]) hkt hgK hp.1 hp.2 (by decide) (by decide)).mp c17_.2
        refine ga_aload_n (v := .ref 344) hm_181 rfl rfl rfl ?_
        refine ga_dup hm_181 rfl rfl ?_
        refine ga_geti (z := F 344 5) hm_181 rfl sc_344 rfl (rfl) ?_
        refine fl_iconst hm_181 rfl ?_
        refine ga_iadd (a := F 344 5) (b := 1) (c := F 344 5 + 1) hm_181 rfl (by omega) ?_
        refine ga_puti (z := F 344 5 + 1) hm_181 rfl sc_344 rfl rfl ?_
        refine ga_aload_n (v := .ref 344) hm_181 rfl rfl rfl ?_
        refine fl_bipush hm_181 rfl rfl ?_
        obtain ⟨F86_, q87_⟩ : ∃ F9_, F9_ = (fl_u F 344 5 (F 344 5 + 1)) := ⟨_, rfl⟩
        rw [← q87_]
        have g88_ : gi F86_ := by rw [q87_]; exact gi_u (hgi) rfl (by omega) (by omega)
        have g89_ : fs [(344, 344, 5, 5), (344, 344, 9, 10), (344, 344, 63, 63), (357, 357, 0, 100000), (359, 363, 0, 100000)] F F86_ := by rw [q87_]; exact fs_u (fs_refl) rfl
        have rk90_ : rk K F86_ := by rw [q87_]; exact rk_u (hrk) (by omega) (by omega)
        have e91_ : F86_ 344 5 = F 344 5 + 1 := by rw [q87_]; exact fl_u_eq
        refine gVv (nY := 2) (F := 2) (L := 41) (As := [.int (Int32.ofInt 40)]) (b := 344) (rest := []) hm_181 rfl hm_51 rfl rfl (fl_ob sc_344) rfl rfl rfl rfl rfl (by omega) (by omega) (mc_51 hG F86_ X g88_ (K) (40) (0) hgK rk90_ hkt (by omega) (by omega) (by omega)) (fun _ _ h => False.elim h) ?_
        have e93_ : F86_ 344 10 = F 344 10 := by rw [q87_]; exact fl_u_ne (by omega)
        have b94_ : 0 ≤ F 344 10 ∧ F 344 10 ≤ 600 := gi_g hgi rfl
        have e95_ : F86_ 344 9 = F 344 9 := by rw [q87_]; exact fl_u_ne (by omega)
        rintro A1_ (⟨F99_, hA_, g100_, s101_, c96_, c97_, c98_⟩ | ⟨F105_, hA_, g106_, s107_, c102_, c103_, c104_⟩)
        ·
          subst hA_
          have g108_ : fs [(344, 344, 5, 5), (344, 344, 9, 10), (344, 344, 63, 63), (357, 357, 0, 100000), (359, 363, 0, 100000)] F F99_ := fs_tr g89_ s101_ rfl
          have rk109_ : rk K F99_ := rk_fs rk90_ s101_ (fun r k h => (fs_n (by omega) (fs_n (by omega) rfl))) (fs_n (by omega) (fs_n (by omega) rfl))
          try simp only [e91_, e93_, e95_] at c97_
          have c97_s := c97_.1 (by omega)
          clear c97_
          refine ga_aload_n (v := .ref 344) hm_181 rfl rfl rfl ?_
          refine ga_getr (b := 361) hm_181 rfl sc_344 rfl ?_
          refine ga_iload_n (z := 8 * a + F 359 a.toNat + 4) hm_181 rfl rfl ?_
          refine ga_iload_n (z := 1) hm_181 rfl rfl ?_
          refine fl_zast (z := 8 * a + F 359 a.toNat + 4) (v := 1) hm_181 rfl sc_361 (by omega) (by omega) (by omega) (ga_vb (by omega)) ?_
          refine ga_aload_n (v := .ref 344) hm_181 rfl rfl rfl ?_
          refine ga_getr (b := 360) hm_181 rfl sc_344 rfl ?_
          refine ga_iload_n (z := 8 * a + F 359 a.toNat + 4) hm_181 rfl rfl ?_
          refine fl_iconst hm_181 rfl ?_
          refine fl_zast (z := 8 * a + F 359 a.toNat + 4) (v := 0) hm_181 rfl sc_360 (by omega) (by omega) (by omega) (ga_vb (by omega)) ?_
          refine ga_aload_n (v := .ref 344) hm_181 rfl rfl rfl ?_
          refine ga_iload_n (z := a) hm_181 rfl rfl ?_
          refine ga_iload_n (z := 8 * a + F 359 a.toNat + 4) hm_181 rfl rfl ?_
          obtain ⟨F110_, q111_⟩ : ∃ F9_, F9_ = (fl_u (fl_u F99_ 361 (8 * a + F 359 a.toNat + 4).toNat 1) 360 (8 * a + F 359 a.toNat + 4).toNat 0) := ⟨_, rfl⟩
          rw [← q111_]
          have g112_ : gi F110_ := by rw [q111_]; exact gi_u (gi_u (g100_) rfl (by omega) (by omega)) rfl (by omega) (by omega)
          have g113_ : fs [(344, 344, 5, 5), (344, 344, 9, 10), (344, 344, 63, 63), (357, 357, 0, 100000), (359, 363, 0, 100000)] F F110_ := by rw [q111_]; exact fs_u (fs_u (g108_) (fs_z (fs_z (fs_z (fs_z (fs_y (by omega))))))) (fs_z (fs_z (fs_z (fs_z (fs_y (by omega))))))
          have rk114_ : rk K F110_ := by rw [q111_]; exact rk_u (rk_u (rk109_) (by omega) (by omega)) (by omega) (by omega)
          have e115_ : F110_ 344 5 = F99_ 344 5 := by rw [q111_]; exact (fl_u_ne (by omega)).trans (fl_u_ne (by omega))
          have b116_ : 0 ≤ F99_ 344 5 ∧ F99_ 344 5 ≤ 600 := gi_g g100_ rfl
          refine gVv (nY := 7) (F := 4) (L := 91) (As := [.int (Int32.ofInt a), .int (Int32.ofInt (8 * a + F 359 a.toNat + 4))]) (b := 344) (rest := []) hm_181 rfl hm_174 rfl rfl (fl_ob sc_344) rfl rfl rfl rfl rfl (by omega) (by omega) (mc_174 hG F110_ X g112_ (K) (a) (8 * a + F 359 a.toNat + 4) (k) (l) (tl) (pl) (ps) hgK rk114_ hkt (by omega) ((by rw [q111_]; exact (trm_u (trm_u (trm_fs (by rw [q87_]; exact (trm_u ht (by omega))) s101_ (fun r j hj => (fs_n (by omega) (fs_n (by omega) rfl)))) (by omega)) (by omega)))) (hlt) (by omega) ((by rw [q111_]; exact (rpn_u (rpn_u (rpn_fs (by rw [q87_]; exact (rpn_u hpl (by omega) (by omega))) s101_ (fun _ => (fs_n (by omega) (fs_n (by omega) rfl))) (fs_n (by omega) (fs_n (by omega) rfl))) (by omega) (by omega)) (by omega) (by omega)))) (⟨(by rw [q111_]; exact (rprd_u (rprd_u (rprd_fs (by rw [q87_]; exact (rprd_u hps.1 (by omega))) s101_ (fun r j hj => (fs_n (by omega) (fs_n (by omega) rfl)))) (by omega)) (by omega))), hps.2⟩) (by omega) (Or.inl (by omega))) (fun _ _ h => False.elim h) ?_
          have e118_ : F110_ 344 10 = F99_ 344 10 := by rw [q111_]; exact (fl_u_ne (by omega)).trans (fl_u_ne (by omega))
          have b119_ : 0 ≤ F99_ 344 10 ∧ F99_ 344 10 ≤ 600 := gi_g g100_ rfl
          have e120_ : F110_ 344 9 = F99_ 344 9 := by rw [q111_]; exact (fl_u_ne (by omega)).trans (fl_u_ne (by omega))
          have b121_ : 0 ≤ F99_ 344 9 ∧ F99_ 344 9 ≤ 5 := gi_g g100_ rfl
          rintro A1_ (⟨F125_, hA_, g126_, s127_, c122_, c123_, c124_⟩ | ⟨F133_, hA_, g134_, s135_, c128_, c129_, c130_, c131_, c132_⟩)
          ·
            subst hA_
            have g136_ : fs [(344, 344, 5, 5), (344, 344, 9, 10), (344, 344, 63, 63), (357, 357, 0, 100000), (359, 363, 0, 100000)] F F125_ := fs_tr g113_ s127_ rfl
            have rk137_ : rk K F125_ := rk_fs rk114_ s127_ (fun r k h => (fs_n (by omega) (fs_n (by omega) (fs_n (by omega) rfl)))) (fs_n (by omega) (fs_n (by omega) (fs_n (by omega) rfl)))
            try simp only [e115_, e118_, e120_] at c123_
            have c123_k := c123_.2 (by omega)
            clear c123_
            refine ga_iload_n (z := 1) hm_181 rfl rfl ?_
            refine fl_if_eq hm_181 rfl ⟨by omega, by omega⟩ (fun h => absurd h (by omega)) (fun _ => ?_)
            refine ga_aload_n (v := .ref 344) hm_181 rfl rfl rfl ?_
            refine fl_bipush hm_181 rfl rfl ?_
            have b138_ : 0 ≤ F125_ 344 5 ∧ F125_ 344 5 ≤ 600 := gi_g g126_ rfl
            refine gVv (nY := 2) (F := 2) (L := 41) (As := [.int (Int32.ofInt 41)]) (b := 344) (rest := []) hm_181 rfl hm_51 rfl rfl (fl_ob sc_344) rfl rfl rfl rfl rfl (by omega) (by omega) (mc_51 hG F125_ X g126_ (K) (41) (1) hgK rk137_ hkt (by omega) (by omega) (by omega)) (fun _ _ h => False.elim h) ?_
            have b140_ : 0 ≤ F125_ 344 10 ∧ F125_ 344 10 ≤ 600 := gi_g g126_ rfl
            have b141_ : 0 ≤ F125_ 344 9 ∧ F125_ 344 9 ≤ 5 := gi_g g126_ rfl
            rintro A1_ (⟨F145_, hA_, g146_, s147_, c142_, c143_, c144_⟩ | ⟨F151_, hA_, g152_, s153_, c148_, c149_, c150_⟩)
            ·
              subst hA_
              have g154_ : fs [(344, 344, 5, 5), (344, 344, 9, 10), (344, 344, 63, 63), (357, 357, 0, 100000), (359, 363, 0, 100000)] F F145_ := fs_tr g136_ s147_ rfl
              have rk155_ : rk K F145_ := rk_fs rk137_ s147_ (fun r k h => (fs_n (by omega) (fs_n (by omega) rfl))) (fs_n (by omega) (fs_n (by omega) rfl))
              have c143_k := c143_.2 (by omega)
              clear c143_
              refine ga_aload_n (v := .ref 344) hm_181 rfl rfl rfl ?_
              refine ga_getr (b := 359) hm_181 rfl sc_344 rfl ?_
              refine ga_iload_n (z := a) hm_181 rfl rfl ?_
              refine ga_dup2 hm_181 rfl ⟨rfl, rfl⟩ ?_
              have e156_ : F86_ 359 a.toNat = F 359 a.toNat := by rw [q87_]; exact fl_u_ne (by omega)
              have e157_ : F99_ 359 a.toNat = F 359 a.toNat := (s101_ 359 a.toNat (fs_n (by omega) (fs_n (by omega) rfl))).trans (e156_)
              have e158_ : F110_ 359 a.toNat = F 359 a.toNat := by rw [q111_]; exact (fl_u_ne (by omega)).trans ((fl_u_ne (by omega)).trans (e157_))
              have e159_ : F125_ 359 a.toNat = F 359 a.toNat := (s127_ 359 a.toNat (fs_n (by omega) (fs_n (by omega) (fs_n (by omega) rfl)))).trans (e158_)
              have e160_ : F145_ 359 a.toNat = F 359 a.toNat := (s147_ 359 a.toNat (fs_n (by omega) (fs_n (by omega) rfl))).trans (e159_)
              refine ga_iald (z := a) (w := F 359 a.toNat) hm_181 rfl sc_359 (by omega) (by omega) (by omega) (e160_) ?_
              refine fl_iconst hm_181 rfl ?_
              refine ga_iadd (a := F 359 a.toNat) (b := 1) (c := F 359 a.toNat + 1) hm_181 rfl (by omega) ?_
              refine fl_iast (z := a) (v := F 359 a.toNat + 1) hm_181 rfl sc_359 (by omega) (by omega) (by omega) ?_
              obtain ⟨F161_, q162_⟩ : ∃ F9_, F9_ = (fl_u F145_ 359 a.toNat (F 359 a.toNat + 1)) := ⟨_, rfl⟩
              rw [← q162_]
              have g163_ : gi F161_ := by rw [q162_]; exact gi_u (g146_) rfl (by omega) (by omega)
              have g164_ : fs [(344, 344, 5, 5), (344, 344, 9, 10), (344, 344, 63, 63), (357, 357, 0, 100000), (359, 363, 0, 100000)] F F161_ := by rw [q162_]; exact fs_u (g154_) (fs_z (fs_z (fs_z (fs_z (fs_y (by omega))))))
              have rk165_ : rk K F161_ := by rw [q162_]; exact rk_u (rk155_) (by omega) (by omega)
              refine gr_v hm_181 rfl rfl ?_
              have e166_ : F161_ 344 9 = F145_ 344 9 := by rw [q162_]; exact fl_u_ne (by omega)
              have b167_ : 0 ≤ F145_ 344 9 ∧ F145_ 344 9 ≤ 5 := gi_g g146_ rfl
              have e168_ : F161_ 344 10 = F145_ 344 10 := by rw [q162_]; exact fl_u_ne (by omega)
              have e169_ : F161_ 344 5 = F145_ 344 5 := by rw [q162_]; exact fl_u_ne (by omega)
              have b170_ : 0 ≤ F145_ 344 10 ∧ F145_ 344 10 ≤ 600 := gi_g g146_ rfl
              have b171_ : 0 ≤ F145_ 344 5 ∧ F145_ 344 5 ≤ 600 := gi_g g146_ rfl
              exact Or.inl ⟨F161_, rfl, g163_, g164_, (by omega), (⟨by intro h0_; have hs_ := c97_s; rw [sp_mem_ef (fun h8_ => c11_ ⟨by omega, h8_⟩)]; rw [sp_ef, if_pos c17_.2, (show sk K (F 344 5) = F 344 5 + 1 by rw [sk, if_pos (by omega)])]; rw [hs_]; show Sum.inl _ = _; try (congr 2 <;> omega), fun h0_ => by exfalso; omega⟩), (by omega)⟩
            exfalso; omega
          exfalso; omega
        subst hA_
        have g172_ : fs [(344, 344, 5, 5), (344, 344, 9, 10), (344, 344, 63, 63), (357, 357, 0, 100000), (359, 363, 0, 100000)] F F105_ := fs_tr g89_ s107_ rfl
        have rk173_ : rk K F105_ := rk_fs rk90_ s107_ (fun r k h => (fs_n (by omega) (fs_n (by omega) rfl))) (fs_n (by omega) (fs_n (by omega) rfl))
        try simp only [e95_] at c102_
        try simp only [e91_] at c103_
        refine ga_aload_n (v := .ref 344) hm_181 rfl rfl rfl ?_
        refine ga_getr (b := 361) hm_181 rfl sc_344 rfl ?_
        refine ga_iload_n (z := 8 * a + F 359 a.toNat + 4) hm_181 rfl rfl ?_
        refine ga_iload_n (z := 1) hm_181 rfl rfl ?_
        refine fl_zast (z := 8 * a + F 359 a.toNat + 4) (v := 1) hm_181 rfl sc_361 (by omega) (by omega) (by omega) (ga_vb (by omega)) ?_
        refine ga_aload_n (v := .ref 344) hm_181 rfl rfl rfl ?_
        refine ga_getr (b := 360) hm_181 rfl sc_344 rfl ?_
        refine ga_iload_n (z := 8 * a + F 359 a.toNat + 4) hm_181 rfl rfl ?_
        refine fl_iconst hm_181 rfl ?_
        refine fl_zast (z := 8 * a + F 359 a.toNat + 4) (v := 0) hm_181 rfl sc_360 (by omega) (by omega) (by omega) (ga_vb (by omega)) ?_
        refine ga_aload_n (v := .ref 344) hm_181 rfl rfl rfl ?_
        refine ga_iload_n (z := a) hm_181 rfl rfl ?_
        refine ga_iload_n (z := 8 * a + F 359 a.toNat + 4) hm_181 rfl rfl ?_
        obtain ⟨F174_, q175_⟩ : ∃ F9_, F9_ = (fl_u (fl_u F105_ 361 (8 * a + F 359 a.toNat + 4).toNat 1) 360 (8 * a + F 359 a.toNat + 4).toNat 0) := ⟨_, rfl⟩
        rw [← q175_]
        have g176_ : gi F174_ := by rw [q175_]; exact gi_u (gi_u (g106_) rfl (by omega) (by omega)) rfl (by omega) (by omega)
        have g177_ : fs [(344, 344, 5, 5), (344, 344, 9, 10), (344, 344, 63, 63), (357, 357, 0, 100000), (359, 363, 0, 100000)] F F174_ := by rw [q175_]; exact fs_u (fs_u (g172_) (fs_z (fs_z (fs_z (fs_z (fs_y (by omega))))))) (fs_z (fs_z (fs_z (fs_z (fs_y (by omega))))))
        have rk178_ : rk K F174_ := by rw [q175_]; exact rk_u (rk_u (rk173_) (by omega) (by omega)) (by omega) (by omega)
        have e179_ : F174_ 344 5 = F105_ 344 5 := by rw [q175_]; exact (fl_u_ne (by omega)).trans (fl_u_ne (by omega))
        have b180_ : 0 ≤ F105_ 344 5 ∧ F105_ 344 5 ≤ 600 := gi_g g106_ rfl
        refine gVv (nY := 7) (F := 4) (L := 91) (As := [.int (Int32.ofInt a), .int (Int32.ofInt (8 * a + F 359 a.toNat + 4))]) (b := 344) (rest := []) hm_181 rfl hm_174 rfl rfl (fl_ob sc_344) rfl rfl rfl rfl rfl (by omega) (by omega) (mc_174 hG F174_ X g176_ (K) (a) (8 * a + F 359 a.toNat + 4) (k) (l) (tl) (pl) (ps) hgK rk178_ hkt (by omega) ((by rw [q175_]; exact (trm_u (trm_u (trm_fs (by rw [q87_]; exact (trm_u ht (by omega))) s107_ (fun r j hj => (fs_n (by omega) (fs_n (by omega) rfl)))) (by omega)) (by omega)))) (hlt) (by omega) ((by rw [q175_]; exact (rpn_u (rpn_u (rpn_fs (by rw [q87_]; exact (rpn_u hpl (by omega) (by omega))) s107_ (fun _ => (fs_n (by omega) (fs_n (by omega) rfl))) (fs_n (by omega) (fs_n (by omega) rfl))) (by omega) (by omega)) (by omega) (by omega)))) (⟨(by rw [q175_]; exact (rprd_u (rprd_u (rprd_fs (by rw [q87_]; exact (rprd_u hps.1 (by omega))) s107_ (fun r j hj => (fs_n (by omega) (fs_n (by omega) rfl)))) (by omega)) (by omega))), hps.2⟩) (by omega) (Or.inl (by omega))) (fun _ _ h => False.elim h) ?_
        have e182_ : F174_ 344 10 = F105_ 344 10 := by rw [q175_]; exact (fl_u_ne (by omega)).trans (fl_u_ne (by omega))
        have b183_ : 0 ≤ F105_ 344 10 ∧ F105_ 344 10 ≤ 600 := gi_g g106_ rfl
        have e184_ : F174_ 344 9 = F105_ 344 9 := by rw [q175_]; exact (fl_u_ne (by omega)).trans (fl_u_ne (by omega))
        have b185_ : 0 ≤ F105_ 344 9 ∧ F105_ 344 9 ≤ 5 := gi_g g106_ rfl
        rintro A1_ (⟨F189_, hA_, g190_, s191_, c186_, c187_, c188_⟩ | ⟨F197_, hA_, g198_, s199_, c192_, c193_, c194_, c195_, c196_⟩)
        ·
          subst hA_
          have g200_ : fs [(344, 344, 5, 5), (344, 344, 9, 10), (344, 344, 63, 63), (357, 357, 0, 100000), (359, 363, 0, 100000)] F F189_ := fs_tr g177_ s191_ rfl
          have rk201_ : rk K F189_ := rk_fs rk178_ s191_ (fun r k h => (fs_n (by omega) (fs_n (by omega) (fs_n (by omega) rfl)))) (fs_n (by omega) (fs_n (by omega) (fs_n (by omega) rfl)))
          try simp only [e179_, e182_, e184_] at c187_
          have c187_s := c187_.1 (by omega)
          clear c187_
          refine ga_iload_n (z := 1) hm_181 rfl rfl ?_
          refine fl_if_eq hm_181 rfl ⟨by omega, by omega⟩ (fun h => absurd h (by omega)) (fun _ => ?_)
          refine ga_aload_n (v := .ref 344) hm_181 rfl rfl rfl ?_
          refine fl_bipush hm_181 rfl rfl ?_
          have b202_ : 0 ≤ F189_ 344 5 ∧ F189_ 344 5 ≤ 600 := gi_g g190_ rfl
          refine gVv (nY := 2) (F := 2) (L := 41) (As := [.int (Int32.ofInt 41)]) (b := 344) (rest := []) hm_181 rfl hm_51 rfl rfl (fl_ob sc_344) rfl rfl rfl rfl rfl (by omega) (by omega) (mc_51 hG F189_ X g190_ (K) (41) (1) hgK rk201_ hkt (by omega) (by omega) (by omega)) (fun _ _ h => False.elim h) ?_
          have b204_ : 0 ≤ F189_ 344 10 ∧ F189_ 344 10 ≤ 600 := gi_g g190_ rfl
          have b205_ : 0 ≤ F189_ 344 9 ∧ F189_ 344 9 ≤ 5 := gi_g g190_ rfl
          rintro A1_ (⟨F209_, hA_, g210_, s211_, c206_, c207_, c208_⟩ | ⟨F215_, hA_, g216_, s217_, c212_, c213_, c214_⟩)
          ·
            subst hA_
            have g218_ : fs [(344, 344, 5, 5), (344, 344, 9, 10), (344, 344, 63, 63), (357, 357, 0, 100000), (359, 363, 0, 100000)] F F209_ := fs_tr g200_ s211_ rfl
            have rk219_ : rk K F209_ := rk_fs rk201_ s211_ (fun r k h => (fs_n (by omega) (fs_n (by omega) rfl))) (fs_n (by omega) (fs_n (by omega) rfl))
            have c207_k := c207_.2 (by omega)
            clear c207_
            refine ga_aload_n (v := .ref 344) hm_181 rfl rfl rfl ?_
            refine ga_getr (b := 359) hm_181 rfl sc_344 rfl ?_
            refine ga_iload_n (z := a) hm_181 rfl rfl ?_
            refine ga_dup2 hm_181 rfl ⟨rfl, rfl⟩ ?_
            have e220_ : F86_ 359 a.toNat = F 359 a.toNat := by rw [q87_]; exact fl_u_ne (by omega)
            have e221_ : F105_ 359 a.toNat = F 359 a.toNat := (s107_ 359 a.toNat (fs_n (by omega) (fs_n (by omega) rfl))).trans (e220_)
            have e222_ : F174_ 359 a.toNat = F 359 a.toNat := by rw [q175_]; exact (fl_u_ne (by omega)).trans ((fl_u_ne (by omega)).trans (e221_))
            have e223_ : F189_ 359 a.toNat = F 359 a.toNat := (s191_ 359 a.toNat (fs_n (by omega) (fs_n (by omega) (fs_n (by omega) rfl)))).trans (e222_)
            have e224_ : F209_ 359 a.toNat = F 359 a.toNat := (s211_ 359 a.toNat (fs_n (by omega) (fs_n (by omega) rfl))).trans (e223_)
            refine ga_iald (z := a) (w := F 359 a.toNat) hm_181 rfl sc_359 (by omega) (by omega) (by omega) (e224_) ?_
            refine fl_iconst hm_181 rfl ?_
            refine ga_iadd (a := F 359 a.toNat) (b := 1) (c := F 359 a.toNat + 1) hm_181 rfl (by omega) ?_
            refine fl_iast (z := a) (v := F 359 a.toNat + 1) hm_181 rfl sc_359 (by omega) (by omega) (by omega) ?_
            obtain ⟨F225_, q226_⟩ : ∃ F9_, F9_ = (fl_u F209_ 359 a.toNat (F 359 a.toNat + 1)) := ⟨_, rfl⟩
            rw [← q226_]
            have g227_ : gi F225_ := by rw [q226_]; exact gi_u (g210_) rfl (by omega) (by omega)
            have g228_ : fs [(344, 344, 5, 5), (344, 344, 9, 10), (344, 344, 63, 63), (357, 357, 0, 100000), (359, 363, 0, 100000)] F F225_ := by rw [q226_]; exact fs_u (g218_) (fs_z (fs_z (fs_z (fs_z (fs_y (by omega))))))
            have rk229_ : rk K F225_ := by rw [q226_]; exact rk_u (rk219_) (by omega) (by omega)
            refine gr_v hm_181 rfl rfl ?_
            have e230_ : F225_ 344 9 = F209_ 344 9 := by rw [q226_]; exact fl_u_ne (by omega)
            have b231_ : 0 ≤ F209_ 344 9 ∧ F209_ 344 9 ≤ 5 := gi_g g210_ rfl
            have e232_ : F225_ 344 10 = F209_ 344 10 := by rw [q226_]; exact fl_u_ne (by omega)
            have e233_ : F225_ 344 5 = F209_ 344 5 := by rw [q226_]; exact fl_u_ne (by omega)
            have b234_ : 0 ≤ F209_ 344 10 ∧ F209_ 344 10 ≤ 600 := gi_g g210_ rfl
            have b235_ : 0 ≤ F209_ 344 5 ∧ F209_ 344 5 ≤ 600 := gi_g g210_ rfl
            exact Or.inl ⟨F225_, rfl, g227_, g228_, (by omega), (⟨by intro h0_; have hs_ := c187_s; rw [sp_mem_ef (fun h8_ => c11_ ⟨by omega, h8_⟩)]; rw [sp_ef, if_pos c17_.2, (show sk K (F 344 5) = F 344 5 + 1 by rw [sk, if_pos (by omega)])]; rw [c103_, pb_r]; rw [hs_]; show Sum.inl _ = _; try (congr 2 <;> omega), fun h0_ => by exfalso; omega⟩), (by omega)⟩
          exfalso; omega
        subst hA_
        have g236_ : fs [(344, 344, 5, 5), (344, 344, 9, 10), (344, 344, 63, 63), (357, 357, 0, 100000), (359, 363, 0, 100000)] F F197_ := fs_tr g177_ s199_ rfl
        have rk237_ : rk K F197_ := rk_fs rk178_ s199_ (fun r k h => (fs_n (by omega) (fs_n (by omega) (fs_n (by omega) rfl)))) (fs_n (by omega) (fs_n (by omega) (fs_n (by omega) rfl)))
        try simp only [e184_] at c192_
        try simp only [e179_] at c193_
        try simp only [e179_] at c196_
        refine ga_iload_n (z := 1) hm_181 rfl rfl ?_
        refine fl_if_eq hm_181 rfl ⟨by omega, by omega⟩ (fun h => absurd h (by omega)) (fun _ => ?_)
        refine ga_aload_n (v := .ref 344) hm_181 rfl rfl rfl ?_
        refine fl_bipush hm_181 rfl rfl ?_
        have b238_ : 0 ≤ F197_ 344 5 ∧ F197_ 344 5 ≤ 600 := gi_g g198_ rfl
        refine gVv (nY := 2) (F := 2) (L := 41) (As := [.int (Int32.ofInt 41)]) (b := 344) (rest := []) hm_181 rfl hm_51 rfl rfl (fl_ob sc_344) rfl rfl rfl rfl rfl (by omega) (by omega) (mc_51 hG F197_ X g198_ (K) (41) (1) hgK rk237_ hkt (by omega) (by omega) (by omega)) (fun _ _ h => False.elim h) ?_
        have b240_ : 0 ≤ F197_ 344 10 ∧ F197_ 344 10 ≤ 600 := gi_g g198_ rfl
        have b241_ : 0 ≤ F197_ 344 9 ∧ F197_ 344 9 ≤ 5 := gi_g g198_ rfl
        rintro A1_ (⟨F245_, hA_, g246_, s247_, c242_, c243_, c244_⟩ | ⟨F251_, hA_, g252_, s253_, c248_, c249_, c250_⟩)
        ·
          subst hA_
          have g254_ : fs [(344, 344, 5, 5), (344, 344, 9, 10), (344, 344, 63, 63), (357, 357, 0, 100000), (359, 363, 0, 100000)] F F245_ := fs_tr g236_ s247_ rfl
          have rk255_ : rk K F245_ := rk_fs rk237_ s247_ (fun r k h => (fs_n (by omega) (fs_n (by omega) rfl))) (fs_n (by omega) (fs_n (by omega) rfl))
          have c243_s := c243_.1 (by omega)
          clear c243_
          refine ga_aload_n (v := .ref 344) hm_181 rfl rfl rfl ?_
          refine ga_getr (b := 359) hm_181 rfl sc_344 rfl ?_
          refine ga_iload_n (z := a) hm_181 rfl rfl ?_
          refine ga_dup2 hm_181 rfl ⟨rfl, rfl⟩ ?_
          have e256_ : F86_ 359 a.toNat = F 359 a.toNat := by rw [q87_]; exact fl_u_ne (by omega)
          have e257_ : F105_ 359 a.toNat = F 359 a.toNat := (s107_ 359 a.toNat (fs_n (by omega) (fs_n (by omega) rfl))).trans (e256_)
          have e258_ : F174_ 359 a.toNat = F 359 a.toNat := by rw [q175_]; exact (fl_u_ne (by omega)).trans ((fl_u_ne (by omega)).trans (e257_))
          have e259_ : F197_ 359 a.toNat = F 359 a.toNat := (s199_ 359 a.toNat (fs_n (by omega) (fs_n (by omega) (fs_n (by omega) rfl)))).trans (e258_)
          have e260_ : F245_ 359 a.toNat = F 359 a.toNat := (s247_ 359 a.toNat (fs_n (by omega) (fs_n (by omega) rfl))).trans (e259_)
          refine ga_iald (z := a) (w := F 359 a.toNat) hm_181 rfl sc_359 (by omega) (by omega) (by omega) (e260_) ?_
          refine fl_iconst hm_181 rfl ?_
          refine ga_iadd (a := F 359 a.toNat) (b := 1) (c := F 359 a.toNat + 1) hm_181 rfl (by omega) ?_
          refine fl_iast (z := a) (v := F 359 a.toNat + 1) hm_181 rfl sc_359 (by omega) (by omega) (by omega) ?_
          obtain ⟨F261_, q262_⟩ : ∃ F9_, F9_ = (fl_u F245_ 359 a.toNat (F 359 a.toNat + 1)) := ⟨_, rfl⟩
          rw [← q262_]
          have g263_ : gi F261_ := by rw [q262_]; exact gi_u (g246_) rfl (by omega) (by omega)
          have g264_ : fs [(344, 344, 5, 5), (344, 344, 9, 10), (344, 344, 63, 63), (357, 357, 0, 100000), (359, 363, 0, 100000)] F F261_ := by rw [q262_]; exact fs_u (g254_) (fs_z (fs_z (fs_z (fs_z (fs_y (by omega))))))
          have rk265_ : rk K F261_ := by rw [q262_]; exact rk_u (rk255_) (by omega) (by omega)
          refine gr_v hm_181 rfl rfl ?_
          have e266_ : F261_ 344 9 = F245_ 344 9 := by rw [q262_]; exact fl_u_ne (by omega)
          have b267_ : 0 ≤ F245_ 344 9 ∧ F245_ 344 9 ≤ 5 := gi_g g246_ rfl
          have e268_ : F261_ 344 10 = F245_ 344 10 := by rw [q262_]; exact fl_u_ne (by omega)
          have e269_ : F261_ 344 5 = F245_ 344 5 := by rw [q262_]; exact fl_u_ne (by omega)
          have b270_ : 0 ≤ F245_ 344 10 ∧ F245_ 344 10 ≤ 600 := gi_g g246_ rfl
          have b271_ : 0 ≤ F245_ 344 5 ∧ F245_ 344 5 ≤ 600 := gi_g g246_ rfl
          exact Or.inl ⟨F261_, rfl, g263_, g264_, (by omega), (⟨by intro h0_; have hs_ := c243_s; rw [sp_mem_ef (fun h8_ => c11_ ⟨by omega, h8_⟩)]; rw [sp_ef, if_pos c17_.2, (show sk K (F 344 5) = F 344 5 + 1 by rw [sk, if_pos (by omega)])]; rw [c103_, pb_r]; rw [c193_, pb_r]; rw [hs_]; show Sum.inl _ = _; try (congr 2 <;> omega), fun h0_ => by exfalso; omega⟩), (by omega)⟩
        subst hA_
        have g272_ : fs [(344, 344, 5, 5), (344, 344, 9, 10), (344, 344, 63, 63), (357, 357, 0, 100000), (359, 363, 0, 100000)] F F251_ := fs_tr g236_ s253_ rfl
        have rk273_ : rk K F251_ := rk_fs rk237_ s253_ (fun r k h => (fs_n (by omega) (fs_n (by omega) rfl))) (fs_n (by omega) (fs_n (by omega) rfl))
        refine ga_aload_n (v := .ref 344) hm_181 rfl rfl rfl ?_
        refine ga_getr (b := 359) hm_181 rfl sc_344 rfl ?_
        refine ga_iload_n (z := a) hm_181 rfl rfl ?_
        refine ga_dup2 hm_181 rfl ⟨rfl, rfl⟩ ?_
        have e274_ : F86_ 359 a.toNat = F 359 a.toNat := by rw [q87_]; exact fl_u_ne (by omega)
        have e275_ : F105_ 359 a.toNat = F 359 a.toNat := (s107_ 359 a.toNat (fs_n (by omega) (fs_n (by omega) rfl))).trans (e274_)
        have e276_ : F174_ 359 a.toNat = F 359 a.toNat := by rw [q175_]; exact (fl_u_ne (by omega)).trans ((fl_u_ne (by omega)).trans (e275_))
        have e277_ : F197_ 359 a.toNat = F 359 a.toNat := (s199_ 359 a.toNat (fs_n (by omega) (fs_n (by omega) (fs_n (by omega) rfl)))).trans (e276_)
        have e278_ : F251_ 359 a.toNat = F 359 a.toNat := (s253_ 359 a.toNat (fs_n (by omega) (fs_n (by omega) rfl))).trans (e277_)
        refine ga_iald (z := a) (w := F 359 a.toNat) hm_181 rfl sc_359 (by omega) (by omega) (by omega) (e278_) ?_
        refine fl_iconst hm_181 rfl ?_
        refine ga_iadd (a := F 359 a.toNat) (b := 1) (c := F 359 a.toNat + 1) hm_181 rfl (by omega) ?_
        refine fl_iast (z := a) (v := F 359 a.toNat + 1) hm_181 rfl sc_359 (by omega) (by omega) (by omega) ?_
        obtain ⟨F279_, q280_⟩ : ∃ F9_, F9_ = (fl_u F251_ 359 a.toNat (F 359 a.toNat + 1)) := ⟨_, rfl⟩
        rw [← q280_]
        have g281_ : gi F279_ := by rw [q280_]; exact gi_u (g252_) rfl (by omega) (by omega)
        have g282_ : fs [(344, 344, 5, 5), (344, 344, 9, 10), (344, 344, 63, 63), (357, 357, 0, 100000), (359, 363, 0, 100000)] F F279_ := by rw [q280_]; exact fs_u (g272_) (fs_z (fs_z (fs_z (fs_z (fs_y (by omega))))))
        have rk283_ : rk K F279_ := by rw [q280_]; exact rk_u (rk273_) (by omega) (by omega)
        refine gr_v hm_181 rfl rfl ?_
        have e284_ : F279_ 344 9 = F251_ 344 9 := by rw [q280_]; exact fl_u_ne (by omega)
        have b285_ : 0 ≤ F251_ 344 9 ∧ F251_ 344 9 ≤ 5 := gi_g g252_ rfl
        have e286_ : F279_ 344 10 = F251_ 344 10 := by rw [q280_]; exact fl_u_ne (by omega)
        have e287_ : F279_ 344 5 = F251_ 344 5 := by rw [q280_]; exact fl_u_ne (by omega)
        have b288_ : 0 ≤ F251_ 344 5 ∧ F251_ 344 5 ≤ 600 := gi_g g252_ rfl
        have e289_ : F86_ 344 63 = F 344 63 := by rw [q87_]; exact fl_u_ne (by omega)
        have e290_ : F105_ 344 63 = F 344 63 := (s107_ 344 63 rfl).trans (e289_)
        have e291_ : F174_ 344 63 = F 344 63 := by rw [q175_]; exact (fl_u_ne (by omega)).trans ((fl_u_ne (by omega)).trans (e290_))
        have e292_ : F197_ 344 63 = F 344 63 := (s199_ 344 63 rfl).trans (e291_)
        have e293_ : F251_ 344 63 = F 344 63 := (s253_ 344 63 rfl).trans (e292_)
        have e294_ : F279_ 344 63 = F 344 63 := by rw [q280_]; exact (fl_u_ne (by omega)).trans (e293_)
        have b295_ : 0 ≤ F 344 63 ∧ F 344 63 ≤ 1 := gi_g hgi rfl
        have e296_ : F86_ 357 a.toNat = F 357 a.toNat := by rw [q87_]; exact fl_u_ne (by omega)
        have e297_ : F105_ 357 a.toNat = F 357 a.toNat := (s107_ 357 a.toNat (fs_n (by omega) (fs_n (by omega) rfl))).trans (e296_)
        have e298_ : F174_ 357 a.toNat = F 357 a.toNat := by rw [q175_]; exact (fl_u_ne (by omega)).trans ((fl_u_ne (by omega)).trans (e297_))
        have e299_ : F197_ 357 a.toNat = F 357 a.toNat := (s199_ 357 a.toNat (fs_n (by omega) (fs_n (by omega) (fs_n (by omega) rfl)))).trans (e298_)
        have e300_ : F251_ 357 a.toNat = F 357 a.toNat := (s253_ 357 a.toNat (fs_n (by omega) (fs_n (by omega) rfl))).trans (e299_)
        have e301_ : F279_ 357 a.toNat = F 357 a.toNat := by rw [q280_]; exact (fl_u_ne (by omega)).trans (e300_)
        have e302_ : F279_ 359 a.toNat = F 359 a.toNat + 1 := by rw [q280_]; exact fl_u_eq
        have e303_ : F174_ 361 (8 * a + F 359 a.toNat + 4).toNat = 1 := by rw [q175_]; exact (fl_u_ne (by omega)).trans (fl_u_eq)
        have e304_ : F197_ 361 (8 * a + F 359 a.toNat + 4).toNat = 1 := (s199_ 361 (8 * a + F 359 a.toNat + 4).toNat (fs_n (by omega) (fs_n (by omega) (fs_n (by omega) rfl)))).trans (e303_)
        have e305_ : F251_ 361 (8 * a + F 359 a.toNat + 4).toNat = 1 := (s253_ 361 (8 * a + F 359 a.toNat + 4).toNat (fs_n (by omega) (fs_n (by omega) rfl))).trans (e304_)
        have e306_ : F279_ 361 (8 * a + F 359 a.toNat + 4).toNat = 1 := by rw [q280_]; exact (fl_u_ne (by omega)).trans (e305_)
        have e307_ : F174_ 360 (8 * a + F 359 a.toNat + 4).toNat = 0 := by rw [q175_]; exact fl_u_eq
        have e308_ : F197_ 360 (8 * a + F 359 a.toNat + 4).toNat = 0 := (s199_ 360 (8 * a + F 359 a.toNat + 4).toNat (fs_n (by omega) (fs_n (by omega) (fs_n (by omega) rfl)))).trans (e307_)
        have e309_ : F251_ 360 (8 * a + F 359 a.toNat + 4).toNat = 0 := (s253_ 360 (8 * a + F 359 a.toNat + 4).toNat (fs_n (by omega) (fs_n (by omega) rfl))).trans (e308_)
        have e310_ : F279_ 360 (8 * a + F 359 a.toNat + 4).toNat = 0 := by rw [q280_]; exact (fl_u_ne (by omega)).trans (e309_)
        exact Or.inr (⟨F279_, rfl, g281_, g282_, (by omega), (⟨c, by rw [sp_mem_ef (fun h8_ => c11_ ⟨by omega, h8_⟩)]; rw [sp_ef, if_pos c17_.2, (show sk K (F 344 5) = F 344 5 + 1 by rw [sk, if_pos (by omega)])]; rw [c103_, pb_r]; rw [c193_, pb_r]; rw [c249_, pb_r]; congr 2 <;> omega, by omega, Eq.trans (e301_) hL3⟩), (by omega), (by omega), ((by rw [q280_]; exact (cst_u (cst_fs (cst_fs (by rw [q175_]; exact (cst_u (cst_u (cst_fs (by rw [q87_]; exact (cst_u cst_r (by decide))) s107_ (fun _ => (fs_n (by omega) (fs_n (by omega) rfl)))) (by decide)) (by decide))) s199_ (fun _ => (fs_n (by omega) (fs_n (by omega) (fs_n (by omega) rfl))))) s253_ (fun _ => (fs_n (by omega) (fs_n (by omega) rfl)))) (by decide)))), ((by rw [q280_]; exact (lfr_ua (lfr_fg (lfr_tr (by rw [q175_]; exact (lfr_ul (lfr_ul (lfr_fg (by rw [q87_]; exact (lfr_uo lfr_r rfl)) s107_ rfl) rfl (by omega) (by omega)) rfl (by omega) (by omega))) c195_ (by first | omega | (simp <;> omega)) (by first | omega | (simp <;> omega))) s253_ rfl) rfl rfl))), (by rw [mm_n (Or.inr (Bool.eq_false_iff.mpr (fun h8_ => c11_ ⟨by omega, h8_⟩))) c17_.2 (show sk K (F 344 5) = F 344 5 + 1 by rw [sk, if_pos (by omega)]) c103_, mb_a (Or.inl rfl)]; exact ⟨rcl_add (rcl_lfr hL1 (show lfr a.toNat (8 * a.toNat + 4 + L.length) (8 * a.toNat + 4 + L.length + 1) F F279_ from (by rw [q280_]; exact (lfr_ua (lfr_fg (lfr_tr (by rw [q175_]; exact (lfr_ul (lfr_ul (lfr_fg (by rw [q87_]; exact (lfr_uo lfr_r rfl)) s107_ rfl) rfl (by omega) (by omega)) rfl (by omega) (by omega))) c195_ (by first | omega | (simp <;> omega)) (by first | omega | (simp <;> omega))) s253_ rfl) rfl rfl))) (by omega)) (ll := (8 * a + F 359 a.toNat + 4).toNat) (by omega) ⟨e306_, Or.inr ⟨at_ge c193_, e310_, rat_cg c196_ (Eq.trans (a := F279_ 362 (8 * a + F 359 a.toNat + 4).toNat) (b := F251_ 362 (8 * a + F 359 a.toNat + 4).toNat) (by rw [q280_]; exact (fl_u_ne (by omega))) (show F251_ 362 (8 * a + F 359 a.toNat + 4).toNat = F197_ 362 (8 * a + F 359 a.toNat + 4).toNat from (s253_ 362 (8 * a + F 359 a.toNat + 4).toNat (fs_n (by omega) (fs_n (by omega) rfl))))) (Eq.trans (a := F279_ 363 (2 * (8 * a + F 359 a.toNat + 4).toNat)) (b := F251_ 363 (2 * (8 * a + F 359 a.toNat + 4).toNat)) (by rw [q280_]; exact (fl_u_ne (by omega))) (show F251_ 363 (2 * (8 * a + F 359 a.toNat + 4).toNat) = F197_ 363 (2 * (8 * a + F 359 a.toNat + 4).toNat) from (s253_ 363 (2 * (8 * a + F 359 a.toNat + 4).toNat) (fs_n (by omega) (fs_n (by omega) rfl))))) (Eq.trans (a := F279_ 363 (2 * (8 * a + F 359 a.toNat + 4).toNat + 1)) (b := F251_ 363 (2 * (8 * a + F 359 a.toNat + 4).toNat + 1)) (by rw [q280_]; exact (fl_u_ne (by omega))) (show F251_ 363 (2 * (8 * a + F 359 a.toNat + 4).toNat + 1) = F197_ 363 (2 * (8 * a + F 359 a.toNat + 4).toNat + 1) from (s253_ 363 (2 * (8 * a + F 359 a.toNat + 4).toNat + 1) (fs_n (by omega) (fs_n (by omega) rfl)))))⟩⟩, by simp only [List.length_append, List.length_singleton]; omega⟩)⟩)
      subst hA_
      subst hz_
      refine fl_if_eq hm_181 rfl ⟨by omega, by omega⟩ (fun h => absurd h (by omega)) (fun _ => ?_)
      refine ga_aload_n (v := .ref 344) hm_181 rfl rfl rfl ?_
      refine ga_iload_n (z := a) hm_181 rfl rfl ?_
      refine gVv (nY := 5) (F := 3) (L := 65) (As := [.int (Int32.ofInt a)]) (b := 344) (rest := []) hm_181 rfl hm_177 rfl rfl (fl_ob sc_344) rfl rfl rfl rfl rfl (by omega) (by omega) (mc_177 hG F X hgi (K) (a) (c) hgK hrk hkt (by omega) (by omega) (hi) (by omega) (by omega)) (fun _ _ h => False.elim h) ?_
      have b312_ : 0 ≤ F 344 10 ∧ F 344 10 ≤ 600 := gi_g hgi rfl
      rintro A1_ (⟨F316_, hA_, g317_, s318_, c313_, c314_, c315_⟩ | ⟨F325_, hA_, g326_, s327_, c319_, c320_, c321_, c322_, c323_, c324_⟩)
      ·
        subst hA_
        have g328_ : fs [(344, 344, 5, 5), (344, 344, 9, 10), (344, 344, 63, 63), (357, 357, 0, 100000), (359, 363, 0, 100000)] F F316_ := fs_tr fs_refl s318_ rfl
        have rk329_ : rk K F316_ := rk_fs hrk s318_ (fun r k h => (fs_n (by omega) (fs_n (by omega) (fs_n (by omega) (fs_n (by omega) rfl))))) (fs_n (by omega) (fs_n (by omega) (fs_n (by omega) (fs_n (by omega) rfl))))
        have c314_s := c314_.1 (by omega)
        clear c314_
        refine gr_v hm_181 rfl rfl ?_
        have b330_ : 0 ≤ F316_ 344 9 ∧ F316_ 344 9 ≤ 5 := gi_g g317_ rfl
        have b331_ : 0 ≤ F316_ 344 10 ∧ F316_ 344 10 ≤ 600 := gi_g g317_ rfl
        have b332_ : 0 ≤ F316_ 344 5 ∧ F316_ 344 5 ≤ 600 := gi_g g317_ rfl
        exact Or.inl ⟨F316_, rfl, g317_, g328_, (by omega), (⟨by intro h0_; have hs_ := c314_s; rw [sp_mem_inc c12_.2, hs_]; try (congr 2 <;> omega), fun h0_ => by exfalso; omega⟩), (by omega)⟩
      subst hA_
      have g333_ : fs [(344, 344, 5, 5), (344, 344, 9, 10), (344, 344, 63, 63), (357, 357, 0, 100000), (359, 363, 0, 100000)] F F325_ := fs_tr fs_refl s327_ rfl
      have rk334_ : rk K F325_ := rk_fs hrk s327_ (fun r k h => (fs_n (by omega) (fs_n (by omega) (fs_n (by omega) (fs_n (by omega) rfl))))) (fs_n (by omega) (fs_n (by omega) (fs_n (by omega) (fs_n (by omega) rfl))))
      refine gr_v hm_181 rfl rfl ?_
      have b335_ : 0 ≤ F325_ 344 9 ∧ F325_ 344 9 ≤ 5 := gi_g g326_ rfl
      have b336_ : 0 ≤ F325_ 344 5 ∧ F325_ 344 5 ≤ 600 := gi_g g326_ rfl
      have b337_ : 0 ≤ F325_ 344 63 ∧ F325_ 344 63 ≤ 1 := gi_g g326_ rfl
      have e338_ : F325_ 359 a.toNat = F 359 a.toNat := (s327_ 359 a.toNat (fs_n (by omega) (fs_n (by omega) (fs_n (by omega) (fs_n (by omega) rfl))))).trans (rfl)
      exact Or.inr (⟨F325_, rfl, g326_, g333_, (by omega), (by obtain ⟨c2_, h1_, h2_, h3_⟩ := c320_; exact ⟨c2_, by rw [sp_mem_inc c12_.2]; exact h1_, Or.inr ⟨by omega, h2_⟩, by rw [if_neg h2_]; exact Eq.trans (rfl) h3_⟩), (by omega), (by omega), ((cst_tr cst_r c323_)), ((lfr_tz lfr_r c324_)), (by rw [mm_i rfl c12_.2, List.append_nil]; exact ⟨rcl_lfr hL1 (show lfr a.toNat 0 0 F F325_ from (lfr_tz lfr_r c324_)) (by omega), by omega⟩)⟩)
    exfalso; omega
  refine ga_aload_n (v := .ref 344) hm_181 rfl rfl rfl ?_
  refine gIi (nY := 1) (F := 0) (L := 0) (As := []) (b := 344) (rest := []) hm_181 rfl hm_59 rfl rfl (fl_ob sc_344) rfl rfl rfl rfl rfl (by omega) (by omega) ?_
  intro f339_ l340_ h341_ h342_
  show fl_R xi_ms 59 f339_ l340_ 0 [(0, .ref 344)] [] _ _
  refine ga_aload_n (v := .ref 344) hm_59 rfl rfl rfl ?_
  refine ga_geti (z := F 344 9) hm_59 rfl sc_344 rfl (rfl) ?_
  refine fl_if_le (a := F 344 9) hm_59 rfl ⟨by omega, by omega⟩ (fun h343_ => ?_) (fun h344_ => ?_)
  · exfalso; omega
  refine fl_iconst hm_59 rfl ?_
  refine fl_goto hm_59 rfl ?_
  refine gr_i hm_59 rfl rfl (ga_nb (by omega)) ?_
  clear h341_ h342_ f339_ l340_
  refine fl_if_eq hm_181 rfl ⟨by omega, by omega⟩ (fun h => absurd h (by omega)) (fun _ => ?_)
  refine gr_v hm_181 rfl rfl ?_
  have b345_ : 0 ≤ F 344 10 ∧ F 344 10 ≤ 600 := gi_g hgi rfl
  have b346_ : 0 ≤ F 344 5 ∧ F 344 5 ≤ 600 := gi_g hgi rfl
  exact Or.inl ⟨F, rfl, hgi, fs_refl, (by omega), (⟨fun h0_ => by exfalso; omega, fun h0_ => by constructor <;> omega⟩), (by omega)⟩

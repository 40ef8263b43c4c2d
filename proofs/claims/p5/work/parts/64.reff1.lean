/- CheapPlannerModel.readOneEffect -/
abbrev pq_181 (G : Nat → Nat → Option Nat) (F : fl_N) (X : xi_H) (K : fl_N) (a k c : Int) (l tl pl : List Int) (ps : List (List Int)) : Outcome → xi_H → Prop := gqv (fun A => (∃ F' : fl_N, fl_H sh_T G F' ++ X = A ∧ gi F' ∧ fs [(344, 344, 5, 5), (344, 344, 9, 10), (344, 344, 63, 63), (357, 357, 0, 100000), (359, 363, 0, 100000)] F F' ∧ (¬ F' 344 9 = 0) ∧ ((F 344 9 = 0 → sp_mem K true k l tl pl ps c (F 344 5) = .inl (F' 344 9, F' 344 10)) ∧ (¬ F 344 9 = 0 → F' 344 9 = F 344 9 ∧ F' 344 10 = F 344 10)) ∧ (0 ≤ F' 344 5 ∧ F' 344 5 ≤ K 1 6 - 1)) ∨ (∃ F' : fl_N, fl_H sh_T G F' ++ X = A ∧ gi F' ∧ fs [(344, 344, 5, 5), (344, 344, 9, 10), (344, 344, 63, 63), (357, 357, 0, 100000), (359, 363, 0, 100000)] F F' ∧ (F' 344 9 = 0 ∧ F 344 9 = 0) ∧ (∃ c2, sp_mem K true k l tl pl ps c (F 344 5) = .inr (F' 344 5, c2) ∧ ((F' 344 63 = 0 ∧ c2 = 0) ∨ (F' 344 63 = 1 ∧ ¬ c2 = 0))) ∧ (0 ≤ F' 344 5 ∧ F' 344 5 ≤ K 1 6 - 1) ∧ (F' 359 a.toNat ≤ F 359 a.toNat + 1) ∧ (cst a.toNat F F'))) gqn
set_option maxHeartbeats 16000000 in
theorem mc_181 {G : Nat → Nat → Option Nat} (hG : gg G) (F : fl_N) (X : xi_H) (hgi : gi F) (K : fl_N) (a k c : Int) (l tl pl : List Int) (ps : List (List Int)) (hgK : gi K) (hrk : rk K F) (hkt : rkt K) (hp : 0 ≤ F 344 5 ∧ F 344 5 ≤ K 1 6 - 1) (ht9 : F 344 9 = 0 → trm F a k l tl ∧ l.length = tl.length) (ha : 0 ≤ a ∧ a ≤ 4) (hpl : rpn (F 350) (F 344 17) pl) (hps : rprd F ps ∧ ps.length = pl.length) (hi : (F 344 63 = 0 ∧ c = 0) ∨ (F 344 63 = 1 ∧ ¬ c = 0)) (hce : F 344 9 = 0 → F 359 a.toNat ≤ 3) : fl_M xi_ms 181 5 117 [.ref 344, .int (Int32.ofInt a)] (fl_H sh_T G F ++ X) (pq_181 G F X K a k c l tl pl ps) := by
  intro fr lo hfr hlo
  show fl_R xi_ms 181 fr lo 0 [(0, .ref 344), (1, .int (Int32.ofInt a))] [] _ _
  have hP := (rkt_p hkt hp.1 hp.2 hgK).1
  have hK16 : 0 ≤ K 1 6 ∧ K 1 6 ≤ 601 := gi_g hgK rfl
  have hko := hkt.1
  have b1_ : 0 ≤ F 344 9 ∧ F 344 9 ≤ 5 := gi_g hgi rfl
  by_cases h2_ : F 344 9 = 0
  ·
    refine ga_aload_n (v := .ref 344) hm_181 rfl rfl rfl ?_
    refine gIi (nY := 1) (F := 0) (L := 0) (As := []) (b := 344) (rest := []) hm_181 rfl hm_59 rfl rfl (fl_ob sc_344) rfl rfl rfl rfl rfl (by omega) (by omega) ?_
    intro f3_ l4_ h5_ h6_
    show fl_R xi_ms 59 f3_ l4_ 0 [(0, .ref 344)] [] _ _
    refine ga_aload_n (v := .ref 344) hm_59 rfl rfl rfl ?_
    refine ga_geti (z := F 344 9) hm_59 rfl sc_344 rfl (rfl) ?_
    refine fl_if_le (a := F 344 9) hm_59 rfl ⟨by omega, by omega⟩ (fun h7_ => ?_) (fun h8_ => ?_)
    ·
      refine fl_iconst hm_59 rfl ?_
      refine gr_i hm_59 rfl rfl (ga_nb (by omega)) ?_
      clear h5_ h6_ f3_ l4_
      refine fl_if_eq hm_181 rfl ⟨by omega, by omega⟩ (fun _ => ?_) (fun h => absurd (by omega) h)
      have ht := (ht9 (by omega)).1
      have hlt := (ht9 (by omega)).2
      refine ga_aload_n (v := .ref 344) hm_181 rfl rfl rfl ?_
      refine fl_bipush hm_181 rfl rfl ?_
      have b9_ : 0 ≤ F 344 5 ∧ F 344 5 ≤ 600 := gi_g hgi rfl
      refine gVi (nY := 4) (F := 1) (L := 21) (As := [.int (Int32.ofInt 11)]) (b := 344) (rest := []) hm_181 rfl hm_56 rfl rfl (fl_ob sc_344) rfl rfl rfl rfl rfl (by omega) (by omega) (mc_56 hG F X hgi (K) (11) ([105, 110, 99, 114, 101, 97, 115, 101]) hgK hrk hkt (by omega) (by omega) (by decide) (kw_11 hrk)) (fun _ _ h => False.elim h) ?_
      rintro z10_ A1_ (⟨hA_, hz_, c11_⟩ | ⟨hA_, hz_, c12_, c13_⟩)
      ·
        subst hA_
        subst hz_
        refine fl_if_eq hm_181 rfl ⟨by omega, by omega⟩ (fun _ => ?_) (fun h => absurd (by omega) h)
        refine fl_bipush hm_181 rfl rfl ?_
        refine ga_iload_n (z := a) hm_181 rfl rfl ?_
        refine ga_imul (a := 8) (b := a) (c := 8 * a) hm_181 rfl (by omega) ?_
        refine fl_iconst hm_181 rfl ?_
        refine ga_iadd (a := 8 * a) (b := 4) (c := 8 * a + 4) hm_181 rfl (by omega) ?_
        refine ga_aload_n (v := .ref 344) hm_181 rfl rfl rfl ?_
        refine ga_getr (b := 359) hm_181 rfl sc_344 rfl ?_
        refine ga_iload_n (z := a) hm_181 rfl rfl ?_
        have b14_ : 0 ≤ F 359 a.toNat ∧ F 359 a.toNat ≤ 4 := gi_g hgi rfl
        refine ga_iald (z := a) (w := F 359 a.toNat) hm_181 rfl sc_359 (by omega) (by omega) (by omega) (rfl) ?_
        refine ga_iadd (a := 8 * a + 4) (b := F 359 a.toNat) (c := 8 * a + F 359 a.toNat + 4) hm_181 rfl (by omega) ?_
        refine ga_istore_n (lv2 := [(2, .int (Int32.ofInt (8 * a + F 359 a.toNat + 4))), (0, .ref 344), (1, .int (Int32.ofInt a))]) hm_181 rfl (Nat.le_of_ble_eq_true rfl) rfl ?_
        refine ga_aload_n (v := .ref 344) hm_181 rfl rfl rfl ?_
        refine fl_bipush hm_181 rfl rfl ?_
        refine gVi (nY := 4) (F := 1) (L := 21) (As := [.int (Int32.ofInt 9)]) (b := 344) (rest := []) hm_181 rfl hm_56 rfl rfl (fl_ob sc_344) rfl rfl rfl rfl rfl (by omega) (by omega) (mc_56 hG F X hgi (K) (9) ([110, 111, 116]) hgK hrk hkt (by omega) (by omega) (by decide) (kw_9 hrk)) (fun _ _ h => False.elim h) ?_
        rintro z15_ A1_ (⟨hA_, hz_, c16_⟩ | ⟨hA_, hz_, c17_, c18_⟩)
        ·
          subst hA_
          subst hz_
          refine ga_istore_n (lv2 := [(3, .int (Int32.ofInt 0)), (2, .int (Int32.ofInt (8 * a + F 359 a.toNat + 4))), (0, .ref 344), (1, .int (Int32.ofInt a))]) hm_181 rfl (Nat.le_of_ble_eq_true rfl) rfl ?_
          refine ga_iload_n (z := 0) hm_181 rfl rfl ?_
          refine fl_if_eq hm_181 rfl ⟨by omega, by omega⟩ (fun _ => ?_) (fun h => absurd (by omega) h)
          refine ga_aload_n (v := .ref 344) hm_181 rfl rfl rfl ?_
          refine ga_getr (b := 361) hm_181 rfl sc_344 rfl ?_
          refine ga_iload_n (z := 8 * a + F 359 a.toNat + 4) hm_181 rfl rfl ?_
          refine ga_iload_n (z := 0) hm_181 rfl rfl ?_
          refine fl_zast (z := 8 * a + F 359 a.toNat + 4) (v := 0) hm_181 rfl sc_361 (by omega) (by omega) (by omega) (ga_vb (by omega)) ?_
          refine ga_aload_n (v := .ref 344) hm_181 rfl rfl rfl ?_
          refine ga_getr (b := 360) hm_181 rfl sc_344 rfl ?_
          refine ga_iload_n (z := 8 * a + F 359 a.toNat + 4) hm_181 rfl rfl ?_
          refine fl_iconst hm_181 rfl ?_
          refine fl_zast (z := 8 * a + F 359 a.toNat + 4) (v := 0) hm_181 rfl sc_360 (by omega) (by omega) (by omega) (ga_vb (by omega)) ?_
          refine ga_aload_n (v := .ref 344) hm_181 rfl rfl rfl ?_
          refine ga_iload_n (z := a) hm_181 rfl rfl ?_
          refine ga_iload_n (z := 8 * a + F 359 a.toNat + 4) hm_181 rfl rfl ?_
          obtain ⟨F19_, q20_⟩ : ∃ F9_, F9_ = (fl_u (fl_u F 361 (8 * a + F 359 a.toNat + 4).toNat 0) 360 (8 * a + F 359 a.toNat + 4).toNat 0) := ⟨_, rfl⟩
          rw [← q20_]
          have g21_ : gi F19_ := by rw [q20_]; exact gi_u (gi_u (hgi) rfl (by omega) (by omega)) rfl (by omega) (by omega)
          have g22_ : fs [(344, 344, 5, 5), (344, 344, 9, 10), (344, 344, 63, 63), (357, 357, 0, 100000), (359, 363, 0, 100000)] F F19_ := by rw [q20_]; exact fs_u (fs_u (fs_refl) (fs_z (fs_z (fs_z (fs_z (fs_y (by omega))))))) (fs_z (fs_z (fs_z (fs_z (fs_y (by omega))))))
          have rk23_ : rk K F19_ := by rw [q20_]; exact rk_u (rk_u (hrk) (by omega) (by omega)) (by omega) (by omega)
          have e24_ : F19_ 344 5 = F 344 5 := by rw [q20_]; exact (fl_u_ne (by omega)).trans (fl_u_ne (by omega))
          refine gVv (nY := 7) (F := 4) (L := 91) (As := [.int (Int32.ofInt a), .int (Int32.ofInt (8 * a + F 359 a.toNat + 4))]) (b := 344) (rest := []) hm_181 rfl hm_174 rfl rfl (fl_ob sc_344) rfl rfl rfl rfl rfl (by omega) (by omega) (mc_174 hG F19_ X g21_ (K) (a) (8 * a + F 359 a.toNat + 4) (k) (l) (tl) (pl) (ps) hgK rk23_ hkt (by omega) ((by rw [q20_]; exact (trm_u (trm_u ht (by omega)) (by omega)))) (hlt) (by omega) ((by rw [q20_]; exact (rpn_u (rpn_u hpl (by omega) (by omega)) (by omega) (by omega)))) (⟨(by rw [q20_]; exact (rprd_u (rprd_u hps.1 (by omega)) (by omega))), hps.2⟩) (by omega) (Or.inl (by omega))) (fun _ _ h => False.elim h) ?_
          have e26_ : F19_ 344 10 = F 344 10 := by rw [q20_]; exact (fl_u_ne (by omega)).trans (fl_u_ne (by omega))
          have b27_ : 0 ≤ F 344 10 ∧ F 344 10 ≤ 600 := gi_g hgi rfl
          have e28_ : F19_ 344 9 = F 344 9 := by rw [q20_]; exact (fl_u_ne (by omega)).trans (fl_u_ne (by omega))
          rintro A1_ (⟨F32_, hA_, g33_, s34_, c29_, c30_, c31_⟩ | ⟨F38_, hA_, g39_, s40_, c35_, c36_, c37_⟩)
          ·
            subst hA_
            have g41_ : fs [(344, 344, 5, 5), (344, 344, 9, 10), (344, 344, 63, 63), (357, 357, 0, 100000), (359, 363, 0, 100000)] F F32_ := fs_tr g22_ s34_ rfl
            have rk42_ : rk K F32_ := rk_fs rk23_ s34_ (fun r k h => (fs_n (by omega) (fs_n (by omega) (fs_n (by omega) rfl)))) (fs_n (by omega) (fs_n (by omega) (fs_n (by omega) rfl)))
            try simp only [e24_, e26_, e28_] at c30_
            have c30_s := c30_.1 (by omega)
            clear c30_
            refine ga_iload_n (z := 0) hm_181 rfl rfl ?_
            refine fl_if_eq hm_181 rfl ⟨by omega, by omega⟩ (fun _ => ?_) (fun h => absurd (by omega) h)
            refine ga_aload_n (v := .ref 344) hm_181 rfl rfl rfl ?_
            refine ga_getr (b := 359) hm_181 rfl sc_344 rfl ?_
            refine ga_iload_n (z := a) hm_181 rfl rfl ?_
            refine ga_dup2 hm_181 rfl ⟨rfl, rfl⟩ ?_
            have e43_ : F19_ 359 a.toNat = F 359 a.toNat := by rw [q20_]; exact (fl_u_ne (by omega)).trans (fl_u_ne (by omega))
            have e44_ : F32_ 359 a.toNat = F 359 a.toNat := (s34_ 359 a.toNat (fs_n (by omega) (fs_n (by omega) (fs_n (by omega) rfl)))).trans (e43_)
            refine ga_iald (z := a) (w := F 359 a.toNat) hm_181 rfl sc_359 (by omega) (by omega) (by omega) (e44_) ?_
            refine fl_iconst hm_181 rfl ?_
            refine ga_iadd (a := F 359 a.toNat) (b := 1) (c := F 359 a.toNat + 1) hm_181 rfl (by omega) ?_
            refine fl_iast (z := a) (v := F 359 a.toNat + 1) hm_181 rfl sc_359 (by omega) (by omega) (by omega) ?_
            obtain ⟨F45_, q46_⟩ : ∃ F9_, F9_ = (fl_u F32_ 359 a.toNat (F 359 a.toNat + 1)) := ⟨_, rfl⟩
            rw [← q46_]
            have g47_ : gi F45_ := by rw [q46_]; exact gi_u (g33_) rfl (by omega) (by omega)
            have g48_ : fs [(344, 344, 5, 5), (344, 344, 9, 10), (344, 344, 63, 63), (357, 357, 0, 100000), (359, 363, 0, 100000)] F F45_ := by rw [q46_]; exact fs_u (g41_) (fs_z (fs_z (fs_z (fs_z (fs_y (by omega))))))
            have rk49_ : rk K F45_ := by rw [q46_]; exact rk_u (rk42_) (by omega) (by omega)
            refine gr_v hm_181 rfl rfl ?_
            have e50_ : F45_ 344 9 = F32_ 344 9 := by rw [q46_]; exact fl_u_ne (by omega)
            have b51_ : 0 ≤ F32_ 344 9 ∧ F32_ 344 9 ≤ 5 := gi_g g33_ rfl
            have e52_ : F45_ 344 10 = F32_ 344 10 := by rw [q46_]; exact fl_u_ne (by omega)
            have e53_ : F45_ 344 5 = F32_ 344 5 := by rw [q46_]; exact fl_u_ne (by omega)
            have b54_ : 0 ≤ F32_ 344 10 ∧ F32_ 344 10 ≤ 600 := gi_g g33_ rfl
            have b55_ : 0 ≤ F32_ 344 5 ∧ F32_ 344 5 ≤ 600 := gi_g g33_ rfl
            exact Or.inl ⟨F45_, rfl, g47_, g48_, (by omega), (⟨by intro h0_; have hs_ := c30_s; rw [sp_mem_ef (fun h8_ => c11_ ⟨by omega, h8_⟩)]; rw [sp_ef, if_neg (fun h8_ => c16_ ⟨by omega, h8_⟩)]; rw [hs_]; show Sum.inl _ = _; try (congr 2 <;> omega), fun h0_ => by exfalso; omega⟩), (by omega)⟩
          subst hA_
          have g56_ : fs [(344, 344, 5, 5), (344, 344, 9, 10), (344, 344, 63, 63), (357, 357, 0, 100000), (359, 363, 0, 100000)] F F38_ := fs_tr g22_ s40_ rfl
          have rk57_ : rk K F38_ := rk_fs rk23_ s40_ (fun r k h => (fs_n (by omega) (fs_n (by omega) (fs_n (by omega) rfl)))) (fs_n (by omega) (fs_n (by omega) (fs_n (by omega) rfl)))
          try simp only [e28_] at c35_
          try simp only [e24_] at c36_
          refine ga_iload_n (z := 0) hm_181 rfl rfl ?_
          refine fl_if_eq hm_181 rfl ⟨by omega, by omega⟩ (fun _ => ?_) (fun h => absurd (by omega) h)
          refine ga_aload_n (v := .ref 344) hm_181 rfl rfl rfl ?_
          refine ga_getr (b := 359) hm_181 rfl sc_344 rfl ?_
          refine ga_iload_n (z := a) hm_181 rfl rfl ?_
          refine ga_dup2 hm_181 rfl ⟨rfl, rfl⟩ ?_
          have e58_ : F19_ 359 a.toNat = F 359 a.toNat := by rw [q20_]; exact (fl_u_ne (by omega)).trans (fl_u_ne (by omega))
          have e59_ : F38_ 359 a.toNat = F 359 a.toNat := (s40_ 359 a.toNat (fs_n (by omega) (fs_n (by omega) (fs_n (by omega) rfl)))).trans (e58_)
          refine ga_iald (z := a) (w := F 359 a.toNat) hm_181 rfl sc_359 (by omega) (by omega) (by omega) (e59_) ?_
          refine fl_iconst hm_181 rfl ?_
          refine ga_iadd (a := F 359 a.toNat) (b := 1) (c := F 359 a.toNat + 1) hm_181 rfl (by omega) ?_
          refine fl_iast (z := a) (v := F 359 a.toNat + 1) hm_181 rfl sc_359 (by omega) (by omega) (by omega) ?_
          obtain ⟨F60_, q61_⟩ : ∃ F9_, F9_ = (fl_u F38_ 359 a.toNat (F 359 a.toNat + 1)) := ⟨_, rfl⟩
          rw [← q61_]
          have g62_ : gi F60_ := by rw [q61_]; exact gi_u (g39_) rfl (by omega) (by omega)
          have g63_ : fs [(344, 344, 5, 5), (344, 344, 9, 10), (344, 344, 63, 63), (357, 357, 0, 100000), (359, 363, 0, 100000)] F F60_ := by rw [q61_]; exact fs_u (g56_) (fs_z (fs_z (fs_z (fs_z (fs_y (by omega))))))
          have rk64_ : rk K F60_ := by rw [q61_]; exact rk_u (rk57_) (by omega) (by omega)
          refine gr_v hm_181 rfl rfl ?_
          have e65_ : F60_ 344 9 = F38_ 344 9 := by rw [q61_]; exact fl_u_ne (by omega)
          have b66_ : 0 ≤ F38_ 344 9 ∧ F38_ 344 9 ≤ 5 := gi_g g39_ rfl
          have e67_ : F60_ 344 10 = F38_ 344 10 := by rw [q61_]; exact fl_u_ne (by omega)
          have e68_ : F60_ 344 5 = F38_ 344 5 := by rw [q61_]; exact fl_u_ne (by omega)
          have b69_ : 0 ≤ F38_ 344 5 ∧ F38_ 344 5 ≤ 600 := gi_g g39_ rfl
          have e70_ : F19_ 344 63 = F 344 63 := by rw [q20_]; exact (fl_u_ne (by omega)).trans (fl_u_ne (by omega))
          have e71_ : F38_ 344 63 = F 344 63 := (s40_ 344 63 rfl).trans (e70_)
          have e72_ : F60_ 344 63 = F 344 63 := by rw [q61_]; exact (fl_u_ne (by omega)).trans (e71_)
          have b73_ : 0 ≤ F 344 63 ∧ F 344 63 ≤ 1 := gi_g hgi rfl
          have e74_ : F60_ 359 a.toNat = F 359 a.toNat + 1 := by rw [q61_]; exact fl_u_eq
          exact Or.inr (⟨F60_, rfl, g62_, g63_, (by omega), (⟨c, by rw [sp_mem_ef (fun h8_ => c11_ ⟨by omega, h8_⟩)]; rw [sp_ef, if_neg (fun h8_ => c16_ ⟨by omega, h8_⟩)]; rw [c36_, pb_r]; congr 2 <;> omega, by omega⟩), (by omega), (by omega), ((by rw [q61_]; exact (cst_u (cst_fs (by rw [q20_]; exact (cst_u (cst_u cst_r (by decide)) (by decide))) s40_ (fun _ => (fs_n (by omega) (fs_n (by omega) (fs_n (by omega) rfl))))) (by decide))))⟩)
        subst hA_
        subst hz_
        refine ga_istore_n (lv2 := [(3, .int (Int32.ofInt 1)), (2, .int (Int32.ofInt (8 * a + F 359 a.toNat + 4))), (0, .ref 344), (1, .int (Int32.ofInt a))]) hm_181 rfl (Nat.le_of_ble_eq_true rfl) rfl ?_
        refine ga_iload_n (z := 1) hm_181 rfl rfl ?_
        refine fl_if_eq hm_181 rfl ⟨by omega, by omega⟩ (fun h => absurd h (by omega)) (fun _ => ?_)
        have hsz0 := (kw_iff (w := [110, 111, 116]) hkt hgK hp.1 hp.2 (by decide) (by decide)).mp c17_.2
        refine ga_aload_n (v := .ref 344) hm_181 rfl rfl rfl ?_
        refine ga_dup hm_181 rfl rfl ?_
        refine ga_geti (z := F 344 5) hm_181 rfl sc_344 rfl (rfl) ?_
        refine fl_iconst hm_181 rfl ?_
        refine ga_iadd (a := F 344 5) (b := 1) (c := F 344 5 + 1) hm_181 rfl (by omega) ?_
        refine ga_puti (z := F 344 5 + 1) hm_181 rfl sc_344 rfl rfl ?_
        refine ga_aload_n (v := .ref 344) hm_181 rfl rfl rfl ?_
        refine fl_bipush hm_181 rfl rfl ?_
        obtain ⟨F75_, q76_⟩ : ∃ F9_, F9_ = (fl_u F 344 5 (F 344 5 + 1)) := ⟨_, rfl⟩
        rw [← q76_]
        have g77_ : gi F75_ := by rw [q76_]; exact gi_u (hgi) rfl (by omega) (by omega)
        have g78_ : fs [(344, 344, 5, 5), (344, 344, 9, 10), (344, 344, 63, 63), (357, 357, 0, 100000), (359, 363, 0, 100000)] F F75_ := by rw [q76_]; exact fs_u (fs_refl) rfl
        have rk79_ : rk K F75_ := by rw [q76_]; exact rk_u (hrk) (by omega) (by omega)
        have e80_ : F75_ 344 5 = F 344 5 + 1 := by rw [q76_]; exact fl_u_eq
        refine gVv (nY := 2) (F := 2) (L := 41) (As := [.int (Int32.ofInt 40)]) (b := 344) (rest := []) hm_181 rfl hm_51 rfl rfl (fl_ob sc_344) rfl rfl rfl rfl rfl (by omega) (by omega) (mc_51 hG F75_ X g77_ (K) (40) (0) hgK rk79_ hkt (by omega) (by omega) (by omega)) (fun _ _ h => False.elim h) ?_
        have e82_ : F75_ 344 10 = F 344 10 := by rw [q76_]; exact fl_u_ne (by omega)
        have b83_ : 0 ≤ F 344 10 ∧ F 344 10 ≤ 600 := gi_g hgi rfl
        have e84_ : F75_ 344 9 = F 344 9 := by rw [q76_]; exact fl_u_ne (by omega)
        rintro A1_ (⟨F88_, hA_, g89_, s90_, c85_, c86_, c87_⟩ | ⟨F94_, hA_, g95_, s96_, c91_, c92_, c93_⟩)
        ·
          subst hA_
          have g97_ : fs [(344, 344, 5, 5), (344, 344, 9, 10), (344, 344, 63, 63), (357, 357, 0, 100000), (359, 363, 0, 100000)] F F88_ := fs_tr g78_ s90_ rfl
          have rk98_ : rk K F88_ := rk_fs rk79_ s90_ (fun r k h => (fs_n (by omega) (fs_n (by omega) rfl))) (fs_n (by omega) (fs_n (by omega) rfl))
          try simp only [e80_, e82_, e84_] at c86_
          have c86_s := c86_.1 (by omega)
          clear c86_
          refine ga_aload_n (v := .ref 344) hm_181 rfl rfl rfl ?_
          refine ga_getr (b := 361) hm_181 rfl sc_344 rfl ?_
          refine ga_iload_n (z := 8 * a + F 359 a.toNat + 4) hm_181 rfl rfl ?_
          refine ga_iload_n (z := 1) hm_181 rfl rfl ?_
          refine fl_zast (z := 8 * a + F 359 a.toNat + 4) (v := 1) hm_181 rfl sc_361 (by omega) (by omega) (by omega) (ga_vb (by omega)) ?_
          refine ga_aload_n (v := .ref 344) hm_181 rfl rfl rfl ?_
          refine ga_getr (b := 360) hm_181 rfl sc_344 rfl ?_
          refine ga_iload_n (z := 8 * a + F 359 a.toNat + 4) hm_181 rfl rfl ?_
          refine fl_iconst hm_181 rfl ?_
          refine fl_zast (z := 8 * a + F 359 a.toNat + 4) (v := 0) hm_181 rfl sc_360 (by omega) (by omega) (by omega) (ga_vb (by omega)) ?_
          refine ga_aload_n (v := .ref 344) hm_181 rfl rfl rfl ?_
          refine ga_iload_n (z := a) hm_181 rfl rfl ?_
          refine ga_iload_n (z := 8 * a + F 359 a.toNat + 4) hm_181 rfl rfl ?_
          obtain ⟨F99_, q100_⟩ : ∃ F9_, F9_ = (fl_u (fl_u F88_ 361 (8 * a + F 359 a.toNat + 4).toNat 1) 360 (8 * a + F 359 a.toNat + 4).toNat 0) := ⟨_, rfl⟩
          rw [← q100_]
          have g101_ : gi F99_ := by rw [q100_]; exact gi_u (gi_u (g89_) rfl (by omega) (by omega)) rfl (by omega) (by omega)
          have g102_ : fs [(344, 344, 5, 5), (344, 344, 9, 10), (344, 344, 63, 63), (357, 357, 0, 100000), (359, 363, 0, 100000)] F F99_ := by rw [q100_]; exact fs_u (fs_u (g97_) (fs_z (fs_z (fs_z (fs_z (fs_y (by omega))))))) (fs_z (fs_z (fs_z (fs_z (fs_y (by omega))))))
          have rk103_ : rk K F99_ := by rw [q100_]; exact rk_u (rk_u (rk98_) (by omega) (by omega)) (by omega) (by omega)
          have e104_ : F99_ 344 5 = F88_ 344 5 := by rw [q100_]; exact (fl_u_ne (by omega)).trans (fl_u_ne (by omega))
          have b105_ : 0 ≤ F88_ 344 5 ∧ F88_ 344 5 ≤ 600 := gi_g g89_ rfl
          refine gVv (nY := 7) (F := 4) (L := 91) (As := [.int (Int32.ofInt a), .int (Int32.ofInt (8 * a + F 359 a.toNat + 4))]) (b := 344) (rest := []) hm_181 rfl hm_174 rfl rfl (fl_ob sc_344) rfl rfl rfl rfl rfl (by omega) (by omega) (mc_174 hG F99_ X g101_ (K) (a) (8 * a + F 359 a.toNat + 4) (k) (l) (tl) (pl) (ps) hgK rk103_ hkt (by omega) ((by rw [q100_]; exact (trm_u (trm_u (trm_fs (by rw [q76_]; exact (trm_u ht (by omega))) s90_ (fun r j hj => (fs_n (by omega) (fs_n (by omega) rfl)))) (by omega)) (by omega)))) (hlt) (by omega) ((by rw [q100_]; exact (rpn_u (rpn_u (rpn_fs (by rw [q76_]; exact (rpn_u hpl (by omega) (by omega))) s90_ (fun _ => (fs_n (by omega) (fs_n (by omega) rfl))) (fs_n (by omega) (fs_n (by omega) rfl))) (by omega) (by omega)) (by omega) (by omega)))) (⟨(by rw [q100_]; exact (rprd_u (rprd_u (rprd_fs (by rw [q76_]; exact (rprd_u hps.1 (by omega))) s90_ (fun r j hj => (fs_n (by omega) (fs_n (by omega) rfl)))) (by omega)) (by omega))), hps.2⟩) (by omega) (Or.inl (by omega))) (fun _ _ h => False.elim h) ?_
          have e107_ : F99_ 344 10 = F88_ 344 10 := by rw [q100_]; exact (fl_u_ne (by omega)).trans (fl_u_ne (by omega))
          have b108_ : 0 ≤ F88_ 344 10 ∧ F88_ 344 10 ≤ 600 := gi_g g89_ rfl
          have e109_ : F99_ 344 9 = F88_ 344 9 := by rw [q100_]; exact (fl_u_ne (by omega)).trans (fl_u_ne (by omega))
          have b110_ : 0 ≤ F88_ 344 9 ∧ F88_ 344 9 ≤ 5 := gi_g g89_ rfl
          rintro A1_ (⟨F114_, hA_, g115_, s116_, c111_, c112_, c113_⟩ | ⟨F120_, hA_, g121_, s122_, c117_, c118_, c119_⟩)
          ·
            subst hA_
            have g123_ : fs [(344, 344, 5, 5), (344, 344, 9, 10), (344, 344, 63, 63), (357, 357, 0, 100000), (359, 363, 0, 100000)] F F114_ := fs_tr g102_ s116_ rfl
            have rk124_ : rk K F114_ := rk_fs rk103_ s116_ (fun r k h => (fs_n (by omega) (fs_n (by omega) (fs_n (by omega) rfl)))) (fs_n (by omega) (fs_n (by omega) (fs_n (by omega) rfl)))
            try simp only [e104_, e107_, e109_] at c112_
            have c112_k := c112_.2 (by omega)
            clear c112_
            refine ga_iload_n (z := 1) hm_181 rfl rfl ?_
            refine fl_if_eq hm_181 rfl ⟨by omega, by omega⟩ (fun h => absurd h (by omega)) (fun _ => ?_)
            refine ga_aload_n (v := .ref 344) hm_181 rfl rfl rfl ?_
            refine fl_bipush hm_181 rfl rfl ?_
            have b125_ : 0 ≤ F114_ 344 5 ∧ F114_ 344 5 ≤ 600 := gi_g g115_ rfl
            refine gVv (nY := 2) (F := 2) (L := 41) (As := [.int (Int32.ofInt 41)]) (b := 344) (rest := []) hm_181 rfl hm_51 rfl rfl (fl_ob sc_344) rfl rfl rfl rfl rfl (by omega) (by omega) (mc_51 hG F114_ X g115_ (K) (41) (1) hgK rk124_ hkt (by omega) (by omega) (by omega)) (fun _ _ h => False.elim h) ?_
            have b127_ : 0 ≤ F114_ 344 10 ∧ F114_ 344 10 ≤ 600 := gi_g g115_ rfl
            have b128_ : 0 ≤ F114_ 344 9 ∧ F114_ 344 9 ≤ 5 := gi_g g115_ rfl
            rintro A1_ (⟨F132_, hA_, g133_, s134_, c129_, c130_, c131_⟩ | ⟨F138_, hA_, g139_, s140_, c135_, c136_, c137_⟩)
            ·
              subst hA_
              have g141_ : fs [(344, 344, 5, 5), (344, 344, 9, 10), (344, 344, 63, 63), (357, 357, 0, 100000), (359, 363, 0, 100000)] F F132_ := fs_tr g123_ s134_ rfl
              have rk142_ : rk K F132_ := rk_fs rk124_ s134_ (fun r k h => (fs_n (by omega) (fs_n (by omega) rfl))) (fs_n (by omega) (fs_n (by omega) rfl))
              have c130_k := c130_.2 (by omega)
              clear c130_
              refine ga_aload_n (v := .ref 344) hm_181 rfl rfl rfl ?_
              refine ga_getr (b := 359) hm_181 rfl sc_344 rfl ?_
              refine ga_iload_n (z := a) hm_181 rfl rfl ?_
              refine ga_dup2 hm_181 rfl ⟨rfl, rfl⟩ ?_
              have e143_ : F75_ 359 a.toNat = F 359 a.toNat := by rw [q76_]; exact fl_u_ne (by omega)
              have e144_ : F88_ 359 a.toNat = F 359 a.toNat := (s90_ 359 a.toNat (fs_n (by omega) (fs_n (by omega) rfl))).trans (e143_)
              have e145_ : F99_ 359 a.toNat = F 359 a.toNat := by rw [q100_]; exact (fl_u_ne (by omega)).trans ((fl_u_ne (by omega)).trans (e144_))
              have e146_ : F114_ 359 a.toNat = F 359 a.toNat := (s116_ 359 a.toNat (fs_n (by omega) (fs_n (by omega) (fs_n (by omega) rfl)))).trans (e145_)
              have e147_ : F132_ 359 a.toNat = F 359 a.toNat := (s134_ 359 a.toNat (fs_n (by omega) (fs_n (by omega) rfl))).trans (e146_)
              refine ga_iald (z := a) (w := F 359 a.toNat) hm_181 rfl sc_359 (by omega) (by omega) (by omega) (e147_) ?_
              refine fl_iconst hm_181 rfl ?_
              refine ga_iadd (a := F 359 a.toNat) (b := 1) (c := F 359 a.toNat + 1) hm_181 rfl (by omega) ?_
              refine fl_iast (z := a) (v := F 359 a.toNat + 1) hm_181 rfl sc_359 (by omega) (by omega) (by omega) ?_
              obtain ⟨F148_, q149_⟩ : ∃ F9_, F9_ = (fl_u F132_ 359 a.toNat (F 359 a.toNat + 1)) := ⟨_, rfl⟩
              rw [← q149_]
              have g150_ : gi F148_ := by rw [q149_]; exact gi_u (g133_) rfl (by omega) (by omega)
              have g151_ : fs [(344, 344, 5, 5), (344, 344, 9, 10), (344, 344, 63, 63), (357, 357, 0, 100000), (359, 363, 0, 100000)] F F148_ := by rw [q149_]; exact fs_u (g141_) (fs_z (fs_z (fs_z (fs_z (fs_y (by omega))))))
              have rk152_ : rk K F148_ := by rw [q149_]; exact rk_u (rk142_) (by omega) (by omega)
              refine gr_v hm_181 rfl rfl ?_
              have e153_ : F148_ 344 9 = F132_ 344 9 := by rw [q149_]; exact fl_u_ne (by omega)
              have b154_ : 0 ≤ F132_ 344 9 ∧ F132_ 344 9 ≤ 5 := gi_g g133_ rfl
              have e155_ : F148_ 344 10 = F132_ 344 10 := by rw [q149_]; exact fl_u_ne (by omega)
              have e156_ : F148_ 344 5 = F132_ 344 5 := by rw [q149_]; exact fl_u_ne (by omega)
              have b157_ : 0 ≤ F132_ 344 10 ∧ F132_ 344 10 ≤ 600 := gi_g g133_ rfl
              have b158_ : 0 ≤ F132_ 344 5 ∧ F132_ 344 5 ≤ 600 := gi_g g133_ rfl
              exact Or.inl ⟨F148_, rfl, g150_, g151_, (by omega), (⟨by intro h0_; have hs_ := c86_s; rw [sp_mem_ef (fun h8_ => c11_ ⟨by omega, h8_⟩)]; rw [sp_ef, if_pos c17_.2, (show sk K (F 344 5) = F 344 5 + 1 by rw [sk, if_pos (by omega)])]; rw [hs_]; show Sum.inl _ = _; try (congr 2 <;> omega), fun h0_ => by exfalso; omega⟩), (by omega)⟩
            exfalso; omega
          exfalso; omega
        subst hA_
        have g159_ : fs [(344, 344, 5, 5), (344, 344, 9, 10), (344, 344, 63, 63), (357, 357, 0, 100000), (359, 363, 0, 100000)] F F94_ := fs_tr g78_ s96_ rfl
        have rk160_ : rk K F94_ := rk_fs rk79_ s96_ (fun r k h => (fs_n (by omega) (fs_n (by omega) rfl))) (fs_n (by omega) (fs_n (by omega) rfl))
        try simp only [e84_] at c91_
        try simp only [e80_] at c92_
        refine ga_aload_n (v := .ref 344) hm_181 rfl rfl rfl ?_
        refine ga_getr (b := 361) hm_181 rfl sc_344 rfl ?_
        refine ga_iload_n (z := 8 * a + F 359 a.toNat + 4) hm_181 rfl rfl ?_
        refine ga_iload_n (z := 1) hm_181 rfl rfl ?_
        refine fl_zast (z := 8 * a + F 359 a.toNat + 4) (v := 1) hm_181 rfl sc_361 (by omega) (by omega) (by omega) (ga_vb (by omega)) ?_
        refine ga_aload_n (v := .ref 344) hm_181 rfl rfl rfl ?_
        refine ga_getr (b := 360) hm_181 rfl sc_344 rfl ?_
        refine ga_iload_n (z := 8 * a + F 359 a.toNat + 4) hm_181 rfl rfl ?_
        refine fl_iconst hm_181 rfl ?_
        refine fl_zast (z := 8 * a + F 359 a.toNat + 4) (v := 0) hm_181 rfl sc_360 (by omega) (by omega) (by omega) (ga_vb (by omega)) ?_
        refine ga_aload_n (v := .ref 344) hm_181 rfl rfl rfl ?_
        refine ga_iload_n (z := a) hm_181 rfl rfl ?_
        refine ga_iload_n (z := 8 * a + F 359 a.toNat + 4) hm_181 rfl rfl ?_
        obtain ⟨F161_, q162_⟩ : ∃ F9_, F9_ = (fl_u (fl_u F94_ 361 (8 * a + F 359 a.toNat + 4).toNat 1) 360 (8 * a + F 359 a.toNat + 4).toNat 0) := ⟨_, rfl⟩
        rw [← q162_]
        have g163_ : gi F161_ := by rw [q162_]; exact gi_u (gi_u (g95_) rfl (by omega) (by omega)) rfl (by omega) (by omega)
        have g164_ : fs [(344, 344, 5, 5), (344, 344, 9, 10), (344, 344, 63, 63), (357, 357, 0, 100000), (359, 363, 0, 100000)] F F161_ := by rw [q162_]; exact fs_u (fs_u (g159_) (fs_z (fs_z (fs_z (fs_z (fs_y (by omega))))))) (fs_z (fs_z (fs_z (fs_z (fs_y (by omega))))))
        have rk165_ : rk K F161_ := by rw [q162_]; exact rk_u (rk_u (rk160_) (by omega) (by omega)) (by omega) (by omega)
        have e166_ : F161_ 344 5 = F94_ 344 5 := by rw [q162_]; exact (fl_u_ne (by omega)).trans (fl_u_ne (by omega))
        have b167_ : 0 ≤ F94_ 344 5 ∧ F94_ 344 5 ≤ 600 := gi_g g95_ rfl
        refine gVv (nY := 7) (F := 4) (L := 91) (As := [.int (Int32.ofInt a), .int (Int32.ofInt (8 * a + F 359 a.toNat + 4))]) (b := 344) (rest := []) hm_181 rfl hm_174 rfl rfl (fl_ob sc_344) rfl rfl rfl rfl rfl (by omega) (by omega) (mc_174 hG F161_ X g163_ (K) (a) (8 * a + F 359 a.toNat + 4) (k) (l) (tl) (pl) (ps) hgK rk165_ hkt (by omega) ((by rw [q162_]; exact (trm_u (trm_u (trm_fs (by rw [q76_]; exact (trm_u ht (by omega))) s96_ (fun r j hj => (fs_n (by omega) (fs_n (by omega) rfl)))) (by omega)) (by omega)))) (hlt) (by omega) ((by rw [q162_]; exact (rpn_u (rpn_u (rpn_fs (by rw [q76_]; exact (rpn_u hpl (by omega) (by omega))) s96_ (fun _ => (fs_n (by omega) (fs_n (by omega) rfl))) (fs_n (by omega) (fs_n (by omega) rfl))) (by omega) (by omega)) (by omega) (by omega)))) (⟨(by rw [q162_]; exact (rprd_u (rprd_u (rprd_fs (by rw [q76_]; exact (rprd_u hps.1 (by omega))) s96_ (fun r j hj => (fs_n (by omega) (fs_n (by omega) rfl)))) (by omega)) (by omega))), hps.2⟩) (by omega) (Or.inl (by omega))) (fun _ _ h => False.elim h) ?_
        have e169_ : F161_ 344 10 = F94_ 344 10 := by rw [q162_]; exact (fl_u_ne (by omega)).trans (fl_u_ne (by omega))
        have b170_ : 0 ≤ F94_ 344 10 ∧ F94_ 344 10 ≤ 600 := gi_g g95_ rfl
        have e171_ : F161_ 344 9 = F94_ 344 9 := by rw [q162_]; exact (fl_u_ne (by omega)).trans (fl_u_ne (by omega))
        have b172_ : 0 ≤ F94_ 344 9 ∧ F94_ 344 9 ≤ 5 := gi_g g95_ rfl
        rintro A1_ (⟨F176_, hA_, g177_, s178_, c173_, c174_, c175_⟩ | ⟨F182_, hA_, g183_, s184_, c179_, c180_, c181_⟩)
        ·
          subst hA_
          have g185_ : fs [(344, 344, 5, 5), (344, 344, 9, 10), (344, 344, 63, 63), (357, 357, 0, 100000), (359, 363, 0, 100000)] F F176_ := fs_tr g164_ s178_ rfl
          have rk186_ : rk K F176_ := rk_fs rk165_ s178_ (fun r k h => (fs_n (by omega) (fs_n (by omega) (fs_n (by omega) rfl)))) (fs_n (by omega) (fs_n (by omega) (fs_n (by omega) rfl)))
          try simp only [e166_, e169_, e171_] at c174_
          have c174_s := c174_.1 (by omega)
          clear c174_
          refine ga_iload_n (z := 1) hm_181 rfl rfl ?_
          refine fl_if_eq hm_181 rfl ⟨by omega, by omega⟩ (fun h => absurd h (by omega)) (fun _ => ?_)
          refine ga_aload_n (v := .ref 344) hm_181 rfl rfl rfl ?_
          refine fl_bipush hm_181 rfl rfl ?_
          have b187_ : 0 ≤ F176_ 344 5 ∧ F176_ 344 5 ≤ 600 := gi_g g177_ rfl
          refine gVv (nY := 2) (F := 2) (L := 41) (As := [.int (Int32.ofInt 41)]) (b := 344) (rest := []) hm_181 rfl hm_51 rfl rfl (fl_ob sc_344) rfl rfl rfl rfl rfl (by omega) (by omega) (mc_51 hG F176_ X g177_ (K) (41) (1) hgK rk186_ hkt (by omega) (by omega) (by omega)) (fun _ _ h => False.elim h) ?_
          have b189_ : 0 ≤ F176_ 344 10 ∧ F176_ 344 10 ≤ 600 := gi_g g177_ rfl
          have b190_ : 0 ≤ F176_ 344 9 ∧ F176_ 344 9 ≤ 5 := gi_g g177_ rfl
          rintro A1_ (⟨F194_, hA_, g195_, s196_, c191_, c192_, c193_⟩ | ⟨F200_, hA_, g201_, s202_, c197_, c198_, c199_⟩)
          ·
            subst hA_
            have g203_ : fs [(344, 344, 5, 5), (344, 344, 9, 10), (344, 344, 63, 63), (357, 357, 0, 100000), (359, 363, 0, 100000)] F F194_ := fs_tr g185_ s196_ rfl
            have rk204_ : rk K F194_ := rk_fs rk186_ s196_ (fun r k h => (fs_n (by omega) (fs_n (by omega) rfl))) (fs_n (by omega) (fs_n (by omega) rfl))
            have c192_k := c192_.2 (by omega)
            clear c192_
            refine ga_aload_n (v := .ref 344) hm_181 rfl rfl rfl ?_
            refine ga_getr (b := 359) hm_181 rfl sc_344 rfl ?_
            refine ga_iload_n (z := a) hm_181 rfl rfl ?_
            refine ga_dup2 hm_181 rfl ⟨rfl, rfl⟩ ?_
            have e205_ : F75_ 359 a.toNat = F 359 a.toNat := by rw [q76_]; exact fl_u_ne (by omega)
            have e206_ : F94_ 359 a.toNat = F 359 a.toNat := (s96_ 359 a.toNat (fs_n (by omega) (fs_n (by omega) rfl))).trans (e205_)
            have e207_ : F161_ 359 a.toNat = F 359 a.toNat := by rw [q162_]; exact (fl_u_ne (by omega)).trans ((fl_u_ne (by omega)).trans (e206_))
            have e208_ : F176_ 359 a.toNat = F 359 a.toNat := (s178_ 359 a.toNat (fs_n (by omega) (fs_n (by omega) (fs_n (by omega) rfl)))).trans (e207_)
            have e209_ : F194_ 359 a.toNat = F 359 a.toNat := (s196_ 359 a.toNat (fs_n (by omega) (fs_n (by omega) rfl))).trans (e208_)
            refine ga_iald (z := a) (w := F 359 a.toNat) hm_181 rfl sc_359 (by omega) (by omega) (by omega) (e209_) ?_
            refine fl_iconst hm_181 rfl ?_
            refine ga_iadd (a := F 359 a.toNat) (b := 1) (c := F 359 a.toNat + 1) hm_181 rfl (by omega) ?_
            refine fl_iast (z := a) (v := F 359 a.toNat + 1) hm_181 rfl sc_359 (by omega) (by omega) (by omega) ?_
            obtain ⟨F210_, q211_⟩ : ∃ F9_, F9_ = (fl_u F194_ 359 a.toNat (F 359 a.toNat + 1)) := ⟨_, rfl⟩
            rw [← q211_]
            have g212_ : gi F210_ := by rw [q211_]; exact gi_u (g195_) rfl (by omega) (by omega)
            have g213_ : fs [(344, 344, 5, 5), (344, 344, 9, 10), (344, 344, 63, 63), (357, 357, 0, 100000), (359, 363, 0, 100000)] F F210_ := by rw [q211_]; exact fs_u (g203_) (fs_z (fs_z (fs_z (fs_z (fs_y (by omega))))))
            have rk214_ : rk K F210_ := by rw [q211_]; exact rk_u (rk204_) (by omega) (by omega)
            refine gr_v hm_181 rfl rfl ?_
            have e215_ : F210_ 344 9 = F194_ 344 9 := by rw [q211_]; exact fl_u_ne (by omega)
            have b216_ : 0 ≤ F194_ 344 9 ∧ F194_ 344 9 ≤ 5 := gi_g g195_ rfl
            have e217_ : F210_ 344 10 = F194_ 344 10 := by rw [q211_]; exact fl_u_ne (by omega)
            have e218_ : F210_ 344 5 = F194_ 344 5 := by rw [q211_]; exact fl_u_ne (by omega)
            have b219_ : 0 ≤ F194_ 344 10 ∧ F194_ 344 10 ≤ 600 := gi_g g195_ rfl
            have b220_ : 0 ≤ F194_ 344 5 ∧ F194_ 344 5 ≤ 600 := gi_g g195_ rfl
            exact Or.inl ⟨F210_, rfl, g212_, g213_, (by omega), (⟨by intro h0_; have hs_ := c174_s; rw [sp_mem_ef (fun h8_ => c11_ ⟨by omega, h8_⟩)]; rw [sp_ef, if_pos c17_.2, (show sk K (F 344 5) = F 344 5 + 1 by rw [sk, if_pos (by omega)])]; rw [c92_, pb_r]; rw [hs_]; show Sum.inl _ = _; try (congr 2 <;> omega), fun h0_ => by exfalso; omega⟩), (by omega)⟩
          exfalso; omega
        subst hA_
        have g221_ : fs [(344, 344, 5, 5), (344, 344, 9, 10), (344, 344, 63, 63), (357, 357, 0, 100000), (359, 363, 0, 100000)] F F182_ := fs_tr g164_ s184_ rfl
        have rk222_ : rk K F182_ := rk_fs rk165_ s184_ (fun r k h => (fs_n (by omega) (fs_n (by omega) (fs_n (by omega) rfl)))) (fs_n (by omega) (fs_n (by omega) (fs_n (by omega) rfl)))
        try simp only [e171_] at c179_
        try simp only [e166_] at c180_
        refine ga_iload_n (z := 1) hm_181 rfl rfl ?_
        refine fl_if_eq hm_181 rfl ⟨by omega, by omega⟩ (fun h => absurd h (by omega)) (fun _ => ?_)
        refine ga_aload_n (v := .ref 344) hm_181 rfl rfl rfl ?_
        refine fl_bipush hm_181 rfl rfl ?_
        have b223_ : 0 ≤ F182_ 344 5 ∧ F182_ 344 5 ≤ 600 := gi_g g183_ rfl
        refine gVv (nY := 2) (F := 2) (L := 41) (As := [.int (Int32.ofInt 41)]) (b := 344) (rest := []) hm_181 rfl hm_51 rfl rfl (fl_ob sc_344) rfl rfl rfl rfl rfl (by omega) (by omega) (mc_51 hG F182_ X g183_ (K) (41) (1) hgK rk222_ hkt (by omega) (by omega) (by omega)) (fun _ _ h => False.elim h) ?_
        have b225_ : 0 ≤ F182_ 344 10 ∧ F182_ 344 10 ≤ 600 := gi_g g183_ rfl
        have b226_ : 0 ≤ F182_ 344 9 ∧ F182_ 344 9 ≤ 5 := gi_g g183_ rfl
        rintro A1_ (⟨F230_, hA_, g231_, s232_, c227_, c228_, c229_⟩ | ⟨F236_, hA_, g237_, s238_, c233_, c234_, c235_⟩)
        ·
          subst hA_
          have g239_ : fs [(344, 344, 5, 5), (344, 344, 9, 10), (344, 344, 63, 63), (357, 357, 0, 100000), (359, 363, 0, 100000)] F F230_ := fs_tr g221_ s232_ rfl
          have rk240_ : rk K F230_ := rk_fs rk222_ s232_ (fun r k h => (fs_n (by omega) (fs_n (by omega) rfl))) (fs_n (by omega) (fs_n (by omega) rfl))
          have c228_s := c228_.1 (by omega)
          clear c228_
          refine ga_aload_n (v := .ref 344) hm_181 rfl rfl rfl ?_
          refine ga_getr (b := 359) hm_181 rfl sc_344 rfl ?_
          refine ga_iload_n (z := a) hm_181 rfl rfl ?_
          refine ga_dup2 hm_181 rfl ⟨rfl, rfl⟩ ?_
          have e241_ : F75_ 359 a.toNat = F 359 a.toNat := by rw [q76_]; exact fl_u_ne (by omega)
          have e242_ : F94_ 359 a.toNat = F 359 a.toNat := (s96_ 359 a.toNat (fs_n (by omega) (fs_n (by omega) rfl))).trans (e241_)
          have e243_ : F161_ 359 a.toNat = F 359 a.toNat := by rw [q162_]; exact (fl_u_ne (by omega)).trans ((fl_u_ne (by omega)).trans (e242_))
          have e244_ : F182_ 359 a.toNat = F 359 a.toNat := (s184_ 359 a.toNat (fs_n (by omega) (fs_n (by omega) (fs_n (by omega) rfl)))).trans (e243_)
          have e245_ : F230_ 359 a.toNat = F 359 a.toNat := (s232_ 359 a.toNat (fs_n (by omega) (fs_n (by omega) rfl))).trans (e244_)
          refine ga_iald (z := a) (w := F 359 a.toNat) hm_181 rfl sc_359 (by omega) (by omega) (by omega) (e245_) ?_
          refine fl_iconst hm_181 rfl ?_
          refine ga_iadd (a := F 359 a.toNat) (b := 1) (c := F 359 a.toNat + 1) hm_181 rfl (by omega) ?_
          refine fl_iast (z := a) (v := F 359 a.toNat + 1) hm_181 rfl sc_359 (by omega) (by omega) (by omega) ?_
          obtain ⟨F246_, q247_⟩ : ∃ F9_, F9_ = (fl_u F230_ 359 a.toNat (F 359 a.toNat + 1)) := ⟨_, rfl⟩
          rw [← q247_]
          have g248_ : gi F246_ := by rw [q247_]; exact gi_u (g231_) rfl (by omega) (by omega)
          have g249_ : fs [(344, 344, 5, 5), (344, 344, 9, 10), (344, 344, 63, 63), (357, 357, 0, 100000), (359, 363, 0, 100000)] F F246_ := by rw [q247_]; exact fs_u (g239_) (fs_z (fs_z (fs_z (fs_z (fs_y (by omega))))))
          have rk250_ : rk K F246_ := by rw [q247_]; exact rk_u (rk240_) (by omega) (by omega)
          refine gr_v hm_181 rfl rfl ?_
          have e251_ : F246_ 344 9 = F230_ 344 9 := by rw [q247_]; exact fl_u_ne (by omega)
          have b252_ : 0 ≤ F230_ 344 9 ∧ F230_ 344 9 ≤ 5 := gi_g g231_ rfl
          have e253_ : F246_ 344 10 = F230_ 344 10 := by rw [q247_]; exact fl_u_ne (by omega)
          have e254_ : F246_ 344 5 = F230_ 344 5 := by rw [q247_]; exact fl_u_ne (by omega)
          have b255_ : 0 ≤ F230_ 344 10 ∧ F230_ 344 10 ≤ 600 := gi_g g231_ rfl
          have b256_ : 0 ≤ F230_ 344 5 ∧ F230_ 344 5 ≤ 600 := gi_g g231_ rfl
          exact Or.inl ⟨F246_, rfl, g248_, g249_, (by omega), (⟨by intro h0_; have hs_ := c228_s; rw [sp_mem_ef (fun h8_ => c11_ ⟨by omega, h8_⟩)]; rw [sp_ef, if_pos c17_.2, (show sk K (F 344 5) = F 344 5 + 1 by rw [sk, if_pos (by omega)])]; rw [c92_, pb_r]; rw [c180_, pb_r]; rw [hs_]; show Sum.inl _ = _; try (congr 2 <;> omega), fun h0_ => by exfalso; omega⟩), (by omega)⟩
        subst hA_
        have g257_ : fs [(344, 344, 5, 5), (344, 344, 9, 10), (344, 344, 63, 63), (357, 357, 0, 100000), (359, 363, 0, 100000)] F F236_ := fs_tr g221_ s238_ rfl
        have rk258_ : rk K F236_ := rk_fs rk222_ s238_ (fun r k h => (fs_n (by omega) (fs_n (by omega) rfl))) (fs_n (by omega) (fs_n (by omega) rfl))
        refine ga_aload_n (v := .ref 344) hm_181 rfl rfl rfl ?_
        refine ga_getr (b := 359) hm_181 rfl sc_344 rfl ?_
        refine ga_iload_n (z := a) hm_181 rfl rfl ?_
        refine ga_dup2 hm_181 rfl ⟨rfl, rfl⟩ ?_
        have e259_ : F75_ 359 a.toNat = F 359 a.toNat := by rw [q76_]; exact fl_u_ne (by omega)
        have e260_ : F94_ 359 a.toNat = F 359 a.toNat := (s96_ 359 a.toNat (fs_n (by omega) (fs_n (by omega) rfl))).trans (e259_)
        have e261_ : F161_ 359 a.toNat = F 359 a.toNat := by rw [q162_]; exact (fl_u_ne (by omega)).trans ((fl_u_ne (by omega)).trans (e260_))
        have e262_ : F182_ 359 a.toNat = F 359 a.toNat := (s184_ 359 a.toNat (fs_n (by omega) (fs_n (by omega) (fs_n (by omega) rfl)))).trans (e261_)
        have e263_ : F236_ 359 a.toNat = F 359 a.toNat := (s238_ 359 a.toNat (fs_n (by omega) (fs_n (by omega) rfl))).trans (e262_)
        refine ga_iald (z := a) (w := F 359 a.toNat) hm_181 rfl sc_359 (by omega) (by omega) (by omega) (e263_) ?_
        refine fl_iconst hm_181 rfl ?_
        refine ga_iadd (a := F 359 a.toNat) (b := 1) (c := F 359 a.toNat + 1) hm_181 rfl (by omega) ?_
        refine fl_iast (z := a) (v := F 359 a.toNat + 1) hm_181 rfl sc_359 (by omega) (by omega) (by omega) ?_
        obtain ⟨F264_, q265_⟩ : ∃ F9_, F9_ = (fl_u F236_ 359 a.toNat (F 359 a.toNat + 1)) := ⟨_, rfl⟩
        rw [← q265_]
        have g266_ : gi F264_ := by rw [q265_]; exact gi_u (g237_) rfl (by omega) (by omega)
        have g267_ : fs [(344, 344, 5, 5), (344, 344, 9, 10), (344, 344, 63, 63), (357, 357, 0, 100000), (359, 363, 0, 100000)] F F264_ := by rw [q265_]; exact fs_u (g257_) (fs_z (fs_z (fs_z (fs_z (fs_y (by omega))))))
        have rk268_ : rk K F264_ := by rw [q265_]; exact rk_u (rk258_) (by omega) (by omega)
        refine gr_v hm_181 rfl rfl ?_
        have e269_ : F264_ 344 9 = F236_ 344 9 := by rw [q265_]; exact fl_u_ne (by omega)
        have b270_ : 0 ≤ F236_ 344 9 ∧ F236_ 344 9 ≤ 5 := gi_g g237_ rfl
        have e271_ : F264_ 344 10 = F236_ 344 10 := by rw [q265_]; exact fl_u_ne (by omega)
        have e272_ : F264_ 344 5 = F236_ 344 5 := by rw [q265_]; exact fl_u_ne (by omega)
        have b273_ : 0 ≤ F236_ 344 5 ∧ F236_ 344 5 ≤ 600 := gi_g g237_ rfl
        have e274_ : F75_ 344 63 = F 344 63 := by rw [q76_]; exact fl_u_ne (by omega)
        have e275_ : F94_ 344 63 = F 344 63 := (s96_ 344 63 rfl).trans (e274_)
        have e276_ : F161_ 344 63 = F 344 63 := by rw [q162_]; exact (fl_u_ne (by omega)).trans ((fl_u_ne (by omega)).trans (e275_))
        have e277_ : F182_ 344 63 = F 344 63 := (s184_ 344 63 rfl).trans (e276_)
        have e278_ : F236_ 344 63 = F 344 63 := (s238_ 344 63 rfl).trans (e277_)
        have e279_ : F264_ 344 63 = F 344 63 := by rw [q265_]; exact (fl_u_ne (by omega)).trans (e278_)
        have b280_ : 0 ≤ F 344 63 ∧ F 344 63 ≤ 1 := gi_g hgi rfl
        have e281_ : F264_ 359 a.toNat = F 359 a.toNat + 1 := by rw [q265_]; exact fl_u_eq
        exact Or.inr (⟨F264_, rfl, g266_, g267_, (by omega), (⟨c, by rw [sp_mem_ef (fun h8_ => c11_ ⟨by omega, h8_⟩)]; rw [sp_ef, if_pos c17_.2, (show sk K (F 344 5) = F 344 5 + 1 by rw [sk, if_pos (by omega)])]; rw [c92_, pb_r]; rw [c180_, pb_r]; rw [c234_, pb_r]; congr 2 <;> omega, by omega⟩), (by omega), (by omega), ((by rw [q265_]; exact (cst_u (cst_fs (cst_fs (by rw [q162_]; exact (cst_u (cst_u (cst_fs (by rw [q76_]; exact (cst_u cst_r (by decide))) s96_ (fun _ => (fs_n (by omega) (fs_n (by omega) rfl)))) (by decide)) (by decide))) s184_ (fun _ => (fs_n (by omega) (fs_n (by omega) (fs_n (by omega) rfl))))) s238_ (fun _ => (fs_n (by omega) (fs_n (by omega) rfl)))) (by decide))))⟩)
      subst hA_
      subst hz_
      refine fl_if_eq hm_181 rfl ⟨by omega, by omega⟩ (fun h => absurd h (by omega)) (fun _ => ?_)
      refine ga_aload_n (v := .ref 344) hm_181 rfl rfl rfl ?_
      refine ga_iload_n (z := a) hm_181 rfl rfl ?_
      refine gVv (nY := 5) (F := 3) (L := 65) (As := [.int (Int32.ofInt a)]) (b := 344) (rest := []) hm_181 rfl hm_177 rfl rfl (fl_ob sc_344) rfl rfl rfl rfl rfl (by omega) (by omega) (mc_177 hG F X hgi (K) (a) (c) hgK hrk hkt (by omega) (by omega) (hi) (by omega) (by omega)) (fun _ _ h => False.elim h) ?_
      have b283_ : 0 ≤ F 344 10 ∧ F 344 10 ≤ 600 := gi_g hgi rfl
      rintro A1_ (⟨F287_, hA_, g288_, s289_, c284_, c285_, c286_⟩ | ⟨F295_, hA_, g296_, s297_, c290_, c291_, c292_, c293_, c294_⟩)
      ·
        subst hA_
        have g298_ : fs [(344, 344, 5, 5), (344, 344, 9, 10), (344, 344, 63, 63), (357, 357, 0, 100000), (359, 363, 0, 100000)] F F287_ := fs_tr fs_refl s289_ rfl
        have rk299_ : rk K F287_ := rk_fs hrk s289_ (fun r k h => (fs_n (by omega) (fs_n (by omega) (fs_n (by omega) (fs_n (by omega) rfl))))) (fs_n (by omega) (fs_n (by omega) (fs_n (by omega) (fs_n (by omega) rfl))))
        have c285_s := c285_.1 (by omega)
        clear c285_
        refine gr_v hm_181 rfl rfl ?_
        have b300_ : 0 ≤ F287_ 344 9 ∧ F287_ 344 9 ≤ 5 := gi_g g288_ rfl
        have b301_ : 0 ≤ F287_ 344 10 ∧ F287_ 344 10 ≤ 600 := gi_g g288_ rfl
        have b302_ : 0 ≤ F287_ 344 5 ∧ F287_ 344 5 ≤ 600 := gi_g g288_ rfl
        exact Or.inl ⟨F287_, rfl, g288_, g298_, (by omega), (⟨by intro h0_; have hs_ := c285_s; rw [sp_mem_inc c12_.2, hs_]; try (congr 2 <;> omega), fun h0_ => by exfalso; omega⟩), (by omega)⟩
      subst hA_
      have g303_ : fs [(344, 344, 5, 5), (344, 344, 9, 10), (344, 344, 63, 63), (357, 357, 0, 100000), (359, 363, 0, 100000)] F F295_ := fs_tr fs_refl s297_ rfl
      have rk304_ : rk K F295_ := rk_fs hrk s297_ (fun r k h => (fs_n (by omega) (fs_n (by omega) (fs_n (by omega) (fs_n (by omega) rfl))))) (fs_n (by omega) (fs_n (by omega) (fs_n (by omega) (fs_n (by omega) rfl))))
      refine gr_v hm_181 rfl rfl ?_
      have b305_ : 0 ≤ F295_ 344 9 ∧ F295_ 344 9 ≤ 5 := gi_g g296_ rfl
      have b306_ : 0 ≤ F295_ 344 5 ∧ F295_ 344 5 ≤ 600 := gi_g g296_ rfl
      have b307_ : 0 ≤ F295_ 344 63 ∧ F295_ 344 63 ≤ 1 := gi_g g296_ rfl
      have e308_ : F295_ 359 a.toNat = F 359 a.toNat := (s297_ 359 a.toNat (fs_n (by omega) (fs_n (by omega) (fs_n (by omega) (fs_n (by omega) rfl))))).trans (rfl)
      exact Or.inr (⟨F295_, rfl, g296_, g303_, (by omega), (by obtain ⟨c2_, h1_, h2_⟩ := c291_; exact ⟨c2_, by rw [sp_mem_inc c12_.2]; exact h1_, Or.inr ⟨by omega, h2_⟩⟩), (by omega), (by omega), ((cst_tr cst_r c294_))⟩)
    exfalso; omega
  refine ga_aload_n (v := .ref 344) hm_181 rfl rfl rfl ?_
  refine gIi (nY := 1) (F := 0) (L := 0) (As := []) (b := 344) (rest := []) hm_181 rfl hm_59 rfl rfl (fl_ob sc_344) rfl rfl rfl rfl rfl (by omega) (by omega) ?_
  intro f309_ l310_ h311_ h312_
  show fl_R xi_ms 59 f309_ l310_ 0 [(0, .ref 344)] [] _ _
  refine ga_aload_n (v := .ref 344) hm_59 rfl rfl rfl ?_
  refine ga_geti (z := F 344 9) hm_59 rfl sc_344 rfl (rfl) ?_
  refine fl_if_le (a := F 344 9) hm_59 rfl ⟨by omega, by omega⟩ (fun h313_ => ?_) (fun h314_ => ?_)
  · exfalso; omega
  refine fl_iconst hm_59 rfl ?_
  refine fl_goto hm_59 rfl ?_
  refine gr_i hm_59 rfl rfl (ga_nb (by omega)) ?_
  clear h311_ h312_ f309_ l310_
  refine fl_if_eq hm_181 rfl ⟨by omega, by omega⟩ (fun h => absurd h (by omega)) (fun _ => ?_)
  refine gr_v hm_181 rfl rfl ?_
  have b315_ : 0 ≤ F 344 10 ∧ F 344 10 ≤ 600 := gi_g hgi rfl
  have b316_ : 0 ≤ F 344 5 ∧ F 344 5 ≤ 600 := gi_g hgi rfl
  exact Or.inl ⟨F, rfl, hgi, fs_refl, (by omega), (⟨fun h0_ => by exfalso; omega, fun h0_ => by constructor <;> omega⟩), (by omega)⟩

def sp_lx (K : fl_N) (k : Int) (l tl pl : List Int) (ps : List (List Int)) (p : Int) : PR Int := if isw K p [61] = true then sp_eq K k l tl p else sp_atom K k l tl pl ps p
def sp_lit (K : fl_N) (k : Int) (l tl pl : List Int) (ps : List (List Int)) (p : Int) : PR Int := if isw K p [110, 111, 116] = true then pb (sp_kind K 0 (sk K p)) fun p => pb (sp_lx K k l tl pl ps p) fun p => sp_kind K 1 p else sp_lx K k l tl pl ps p
theorem sp_mem_lit {K : fl_N} {k : Int} {l tl pl : List Int} {ps : List (List Int)} {c p : Int} : sp_mem K false k l tl pl ps c p = pb (sp_lit K k l tl pl ps p) (fun p => .inr (p, c)) := by
  rw [sp_mem, if_neg (by simp), sp_lit]
  by_cases h : isw K p [110, 111, 116] = true
  · rw [if_pos h, if_pos h, pb_as]
    congr 1
    funext q
    rw [pb_as]
    simp only [true_and]
    rfl
  · rw [if_neg h, if_neg h]
    simp only [true_and]
    rfl
theorem rprd_fs {F F' : fl_N} {S : List (Nat × Nat × Nat × Nat)} {ps : List (List Int)} (h : rprd F ps) (hf : fs S F F') (hS : ∀ r j, 351 ≤ r ∧ r ≤ 352 → fs_in S r j = false) : rprd F' ps := by
  have e1 : F' 351 = F 351 := funext (fun j => hf _ _ (hS _ _ (by omega)))
  have e2 : F' 352 = F 352 := funext (fun j => hf _ _ (hS _ _ (by omega)))
  intro i hi
  rw [e1, e2]
  exact h i hi
theorem rprd_u {F : fl_N} {ps : List (List Int)} {c j : Nat} {z : Int} (h : rprd F ps) (hc : ¬ (351 ≤ c ∧ c ≤ 352)) : rprd (fl_u F c j z) ps := by
  intro i hi
  rw [fl_u_r (r' := 351) (by omega), fl_u_r (r' := 352) (by omega)]
  exact h i hi

/- CheapPlannerModel.readLiteral -/
abbrev pq_179 (G : Nat → Nat → Option Nat) (F : fl_N) (X : xi_H) (K : fl_N) (a at_ k : Int) (l tl pl : List Int) (ps : List (List Int)) : Outcome → xi_H → Prop := gqv (fun A => (∃ F' : fl_N, fl_H sh_T G F' ++ X = A ∧ gi F' ∧ fs [(344, 344, 5, 5), (344, 344, 9, 10), (358, 358, 0, 100000), (360, 363, 0, 100000)] F F' ∧ (¬ F' 344 9 = 0) ∧ ((F 344 9 = 0 → sp_lit K k l tl pl ps (F 344 5) = .inl (F' 344 9, F' 344 10)) ∧ (¬ F 344 9 = 0 → F' 344 9 = F 344 9 ∧ F' 344 10 = F 344 10)) ∧ (0 ≤ F' 344 5 ∧ F' 344 5 ≤ K 1 6 - 1)) ∨ (∃ F' : fl_N, fl_H sh_T G F' ++ X = A ∧ gi F' ∧ fs [(344, 344, 5, 5), (344, 344, 9, 10), (358, 358, 0, 100000), (360, 363, 0, 100000)] F F' ∧ (F' 344 9 = 0 ∧ F 344 9 = 0) ∧ (sp_lit K k l tl pl ps (F 344 5) = .inr (F' 344 5)) ∧ (0 ≤ F' 344 5 ∧ F' 344 5 ≤ K 1 6 - 1) ∧ (F' 358 a.toNat = F 358 a.toNat + 1))) gqn
set_option maxHeartbeats 16000000 in
theorem mc_179 {G : Nat → Nat → Option Nat} (hG : gg G) (F : fl_N) (X : xi_H) (hgi : gi F) (K : fl_N) (a at_ k : Int) (l tl pl : List Int) (ps : List (List Int)) (hgK : gi K) (hrk : rk K F) (hkt : rkt K) (hp : 0 ≤ F 344 5 ∧ F 344 5 ≤ K 1 6 - 1) (ht : trm F a k l tl) (hlt : l.length = tl.length) (ha : 0 ≤ a ∧ a ≤ 5) (hpl : rpn (F 350) (F 344 17) pl) (hps : rprd F ps ∧ ps.length = pl.length) (hat : 0 ≤ at_ ∧ at_ ≤ 40) (hcd : F 344 9 = 0 → F 358 a.toNat ≤ 3) : fl_M xi_ms 179 5 117 [.ref 344, .int (Int32.ofInt a), .int (Int32.ofInt at_)] (fl_H sh_T G F ++ X) (pq_179 G F X K a at_ k l tl pl ps) := by
  intro fr lo hfr hlo
  show fl_R xi_ms 179 fr lo 0 [(0, .ref 344), (1, .int (Int32.ofInt a)), (2, .int (Int32.ofInt at_))] [] _ _
  have hP := (rkt_p hkt hp.1 hp.2 hgK).1
  have hK16 : 0 ≤ K 1 6 ∧ K 1 6 ≤ 601 := gi_g hgK rfl
  have hko := hkt.1
  have b1_ : 0 ≤ F 344 9 ∧ F 344 9 ≤ 5 := gi_g hgi rfl
  by_cases h2_ : F 344 9 = 0
  ·
    refine ga_iload_n (z := at_) hm_179 rfl rfl ?_
    refine ga_aload_n (v := .ref 344) hm_179 rfl rfl rfl ?_
    refine gIi (nY := 1) (F := 0) (L := 0) (As := []) (b := 344) (rest := [.int (Int32.ofInt at_)]) hm_179 rfl hm_59 rfl rfl (fl_ob sc_344) rfl rfl rfl rfl rfl (by omega) (by omega) ?_
    intro f3_ l4_ h5_ h6_
    show fl_R xi_ms 59 f3_ l4_ 0 [(0, .ref 344)] [] _ _
    refine ga_aload_n (v := .ref 344) hm_59 rfl rfl rfl ?_
    refine ga_geti (z := F 344 9) hm_59 rfl sc_344 rfl (rfl) ?_
    refine fl_if_le (a := F 344 9) hm_59 rfl ⟨by omega, by omega⟩ (fun h7_ => ?_) (fun h8_ => ?_)
    ·
      refine fl_iconst hm_59 rfl ?_
      refine gr_i hm_59 rfl rfl (ga_nb (by omega)) ?_
      clear h5_ h6_ f3_ l4_
      refine fl_if_eq hm_179 rfl ⟨by omega, by omega⟩ (fun _ => ?_) (fun h => absurd (by omega) h)
      refine ga_aload_n (v := .ref 344) hm_179 rfl rfl rfl ?_
      refine ga_getr (b := 358) hm_179 rfl sc_344 rfl ?_
      refine ga_iload_n (z := a) hm_179 rfl rfl ?_
      have b9_ : 0 ≤ F 358 a.toNat ∧ F 358 a.toNat ≤ 4 := gi_g hgi rfl
      refine ga_iald (z := a) (w := F 358 a.toNat) hm_179 rfl sc_358 (by omega) (by omega) (by omega) (rfl) ?_
      refine ga_iadd (a := at_) (b := F 358 a.toNat) (c := at_ + F 358 a.toNat) hm_179 rfl (by omega) ?_
      refine ga_istore_n (lv2 := [(3, .int (Int32.ofInt (at_ + F 358 a.toNat))), (0, .ref 344), (1, .int (Int32.ofInt a)), (2, .int (Int32.ofInt at_))]) hm_179 rfl (Nat.le_of_ble_eq_true rfl) rfl ?_
      refine ga_aload_n (v := .ref 344) hm_179 rfl rfl rfl ?_
      refine fl_bipush hm_179 rfl rfl ?_
      have b10_ : 0 ≤ F 344 5 ∧ F 344 5 ≤ 600 := gi_g hgi rfl
      refine gVi (nY := 4) (F := 1) (L := 21) (As := [.int (Int32.ofInt 9)]) (b := 344) (rest := []) hm_179 rfl hm_56 rfl rfl (fl_ob sc_344) rfl rfl rfl rfl rfl (by omega) (by omega) (mc_56 hG F X hgi (K) (9) ([110, 111, 116]) hgK hrk hkt (by omega) (by omega) (by decide) (kw_9 hrk)) (fun _ _ h => False.elim h) ?_
      rintro z11_ A1_ (⟨hA_, hz_, c12_⟩ | ⟨hA_, hz_, c13_, c14_⟩)
      ·
        subst hA_
        subst hz_
        refine ga_istore (lv2 := [(4, .int (Int32.ofInt 0)), (3, .int (Int32.ofInt (at_ + F 358 a.toNat))), (0, .ref 344), (1, .int (Int32.ofInt a)), (2, .int (Int32.ofInt at_))]) hm_179 rfl (Nat.le_of_ble_eq_true rfl) rfl ?_
        refine ga_iload (z := 0) hm_179 rfl rfl ?_
        refine fl_if_eq hm_179 rfl ⟨by omega, by omega⟩ (fun _ => ?_) (fun h => absurd (by omega) h)
        refine ga_aload_n (v := .ref 344) hm_179 rfl rfl rfl ?_
        refine gIi (nY := 1) (F := 0) (L := 0) (As := []) (b := 344) (rest := []) hm_179 rfl hm_59 rfl rfl (fl_ob sc_344) rfl rfl rfl rfl rfl (by omega) (by omega) ?_
        intro f15_ l16_ h17_ h18_
        show fl_R xi_ms 59 f15_ l16_ 0 [(0, .ref 344)] [] _ _
        refine ga_aload_n (v := .ref 344) hm_59 rfl rfl rfl ?_
        refine ga_geti (z := F 344 9) hm_59 rfl sc_344 rfl (rfl) ?_
        refine fl_if_le (a := F 344 9) hm_59 rfl ⟨by omega, by omega⟩ (fun h19_ => ?_) (fun h20_ => ?_)
        ·
          refine fl_iconst hm_59 rfl ?_
          refine gr_i hm_59 rfl rfl (ga_nb (by omega)) ?_
          clear h17_ h18_ f15_ l16_
          refine fl_if_eq hm_179 rfl ⟨by omega, by omega⟩ (fun _ => ?_) (fun h => absurd (by omega) h)
          refine ga_aload_n (v := .ref 344) hm_179 rfl rfl rfl ?_
          refine ga_getr (b := 361) hm_179 rfl sc_344 rfl ?_
          refine ga_iload_n (z := at_ + F 358 a.toNat) hm_179 rfl rfl ?_
          refine ga_iload (z := 0) hm_179 rfl rfl ?_
          refine fl_zast (z := at_ + F 358 a.toNat) (v := 0) hm_179 rfl sc_361 (by omega) (by omega) (by omega) (ga_vb (by omega)) ?_
          refine ga_aload_n (v := .ref 344) hm_179 rfl rfl rfl ?_
          refine ga_getr (b := 360) hm_179 rfl sc_344 rfl ?_
          refine ga_iload_n (z := at_ + F 358 a.toNat) hm_179 rfl rfl ?_
          refine ga_aload_n (v := .ref 344) hm_179 rfl rfl rfl ?_
          refine fl_bipush hm_179 rfl rfl ?_
          obtain ⟨F21_, q22_⟩ : ∃ F9_, F9_ = (fl_u F 361 (at_ + F 358 a.toNat).toNat 0) := ⟨_, rfl⟩
          rw [← q22_]
          have g23_ : gi F21_ := by rw [q22_]; exact gi_u (hgi) rfl (by omega) (by omega)
          have g24_ : fs [(344, 344, 5, 5), (344, 344, 9, 10), (358, 358, 0, 100000), (360, 363, 0, 100000)] F F21_ := by rw [q22_]; exact fs_u (fs_refl) (fs_z (fs_z (fs_z (fs_y (by omega)))))
          have rk25_ : rk K F21_ := by rw [q22_]; exact rk_u (hrk) (by omega) (by omega)
          have e26_ : F21_ 344 5 = F 344 5 := by rw [q22_]; exact fl_u_ne (by omega)
          refine gVi (nY := 4) (F := 1) (L := 21) (As := [.int (Int32.ofInt 10)]) (b := 344) (rest := [.int (Int32.ofInt (at_ + F 358 a.toNat)), .ref 360]) hm_179 rfl hm_56 rfl rfl (fl_ob sc_344) rfl rfl rfl rfl rfl (by omega) (by omega) (mc_56 hG F21_ X g23_ (K) (10) ([61]) hgK rk25_ hkt (by omega) (by omega) (by decide) (kw_10 rk25_)) (fun _ _ h => False.elim h) ?_
          have e28_ : F21_ 344 9 = F 344 9 := by rw [q22_]; exact fl_u_ne (by omega)
          rintro z27_ A1_ (⟨hA_, hz_, c29_⟩ | ⟨hA_, hz_, c30_, c31_⟩)
          ·
            subst hA_
            subst hz_
            try simp only [e26_, e28_] at c29_
            refine fl_zast (z := at_ + F 358 a.toNat) (v := 0) hm_179 rfl sc_360 (by omega) (by omega) (by omega) (ga_vb (by omega)) ?_
            refine ga_aload_n (v := .ref 344) hm_179 rfl rfl rfl ?_
            refine ga_getr (b := 360) hm_179 rfl sc_344 rfl ?_
            refine ga_iload_n (z := at_ + F 358 a.toNat) hm_179 rfl rfl ?_
            refine ga_zald (z := at_ + F 358 a.toNat) (w := 0) hm_179 rfl sc_360 (by omega) (by omega) (by omega) (fl_u_eq) ?_
            refine fl_if_eq hm_179 rfl ⟨by omega, by omega⟩ (fun _ => ?_) (fun h => absurd (by omega) h)
            refine ga_aload_n (v := .ref 344) hm_179 rfl rfl rfl ?_
            refine ga_iload_n (z := a) hm_179 rfl rfl ?_
            refine ga_iload_n (z := at_ + F 358 a.toNat) hm_179 rfl rfl ?_
            obtain ⟨F32_, q33_⟩ : ∃ F9_, F9_ = (fl_u F21_ 360 (at_ + F 358 a.toNat).toNat 0) := ⟨_, rfl⟩
            rw [← q33_]
            have g34_ : gi F32_ := by rw [q33_]; exact gi_u (g23_) rfl (by omega) (by omega)
            have g35_ : fs [(344, 344, 5, 5), (344, 344, 9, 10), (358, 358, 0, 100000), (360, 363, 0, 100000)] F F32_ := by rw [q33_]; exact fs_u (g24_) (fs_z (fs_z (fs_z (fs_y (by omega)))))
            have rk36_ : rk K F32_ := by rw [q33_]; exact rk_u (rk25_) (by omega) (by omega)
            have e37_ : F32_ 344 5 = F 344 5 := by rw [q33_]; exact (fl_u_ne (by omega)).trans (e26_)
            refine gVv (nY := 7) (F := 4) (L := 91) (As := [.int (Int32.ofInt a), .int (Int32.ofInt (at_ + F 358 a.toNat))]) (b := 344) (rest := []) hm_179 rfl hm_174 rfl rfl (fl_ob sc_344) rfl rfl rfl rfl rfl (by omega) (by omega) (mc_174 hG F32_ X g34_ (K) (a) (at_ + F 358 a.toNat) (k) (l) (tl) (pl) (ps) hgK rk36_ hkt (by omega) ((by rw [q33_]; exact (trm_u (by rw [q22_]; exact (trm_u ht (by omega))) (by omega)))) (hlt) (by omega) ((by rw [q33_]; exact (rpn_u (by rw [q22_]; exact (rpn_u hpl (by omega) (by omega))) (by omega) (by omega)))) (⟨(by rw [q33_]; exact (rprd_u (by rw [q22_]; exact (rprd_u hps.1 (by omega))) (by omega))), hps.2⟩) (by omega)) (fun _ _ h => False.elim h) ?_
            have e39_ : F21_ 344 10 = F 344 10 := by rw [q22_]; exact fl_u_ne (by omega)
            have e40_ : F32_ 344 10 = F 344 10 := by rw [q33_]; exact (fl_u_ne (by omega)).trans (e39_)
            have b41_ : 0 ≤ F 344 10 ∧ F 344 10 ≤ 600 := gi_g hgi rfl
            have e42_ : F32_ 344 9 = F 344 9 := by rw [q33_]; exact (fl_u_ne (by omega)).trans (e28_)
            rintro A1_ (⟨F46_, hA_, g47_, s48_, c43_, c44_, c45_⟩ | ⟨F52_, hA_, g53_, s54_, c49_, c50_, c51_⟩)
            ·
              subst hA_
              have g55_ : fs [(344, 344, 5, 5), (344, 344, 9, 10), (358, 358, 0, 100000), (360, 363, 0, 100000)] F F46_ := fs_tr g35_ s48_ rfl
              have rk56_ : rk K F46_ := rk_fs rk36_ s48_ (fun r k h => (fs_n (by omega) (fs_n (by omega) (fs_n (by omega) rfl)))) (fs_n (by omega) (fs_n (by omega) (fs_n (by omega) rfl)))
              try simp only [e37_, e40_, e42_] at c44_
              have c44_s := c44_.1 (by omega)
              clear c44_
              refine ga_iload (z := 0) hm_179 rfl rfl ?_
              refine fl_if_eq hm_179 rfl ⟨by omega, by omega⟩ (fun _ => ?_) (fun h => absurd (by omega) h)
              refine ga_aload_n (v := .ref 344) hm_179 rfl rfl rfl ?_
              refine ga_getr (b := 358) hm_179 rfl sc_344 rfl ?_
              refine ga_iload_n (z := a) hm_179 rfl rfl ?_
              refine ga_dup2 hm_179 rfl ⟨rfl, rfl⟩ ?_
              have e57_ : F21_ 358 a.toNat = F 358 a.toNat := by rw [q22_]; exact fl_u_ne (by omega)
              have e58_ : F32_ 358 a.toNat = F 358 a.toNat := by rw [q33_]; exact (fl_u_ne (by omega)).trans (e57_)
              have e59_ : F46_ 358 a.toNat = F 358 a.toNat := (s48_ 358 a.toNat (fs_n (by omega) (fs_n (by omega) (fs_n (by omega) rfl)))).trans (e58_)
              refine ga_iald (z := a) (w := F 358 a.toNat) hm_179 rfl sc_358 (by omega) (by omega) (by omega) (e59_) ?_
              refine fl_iconst hm_179 rfl ?_
              refine ga_iadd (a := F 358 a.toNat) (b := 1) (c := F 358 a.toNat + 1) hm_179 rfl (by omega) ?_
              refine fl_iast (z := a) (v := F 358 a.toNat + 1) hm_179 rfl sc_358 (by omega) (by omega) (by omega) ?_
              obtain ⟨F60_, q61_⟩ : ∃ F9_, F9_ = (fl_u F46_ 358 a.toNat (F 358 a.toNat + 1)) := ⟨_, rfl⟩
              rw [← q61_]
              have g62_ : gi F60_ := by rw [q61_]; exact gi_u (g47_) rfl (by omega) (by omega)
              have g63_ : fs [(344, 344, 5, 5), (344, 344, 9, 10), (358, 358, 0, 100000), (360, 363, 0, 100000)] F F60_ := by rw [q61_]; exact fs_u (g55_) (fs_z (fs_z (fs_y (by omega))))
              have rk64_ : rk K F60_ := by rw [q61_]; exact rk_u (rk56_) (by omega) (by omega)
              refine gr_v hm_179 rfl rfl ?_
              have e65_ : F60_ 344 9 = F46_ 344 9 := by rw [q61_]; exact fl_u_ne (by omega)
              have b66_ : 0 ≤ F46_ 344 9 ∧ F46_ 344 9 ≤ 5 := gi_g g47_ rfl
              have e67_ : F60_ 344 10 = F46_ 344 10 := by rw [q61_]; exact fl_u_ne (by omega)
              have e68_ : F60_ 344 5 = F46_ 344 5 := by rw [q61_]; exact fl_u_ne (by omega)
              have b69_ : 0 ≤ F46_ 344 10 ∧ F46_ 344 10 ≤ 600 := gi_g g47_ rfl
              have b70_ : 0 ≤ F46_ 344 5 ∧ F46_ 344 5 ≤ 600 := gi_g g47_ rfl
              exact Or.inl ⟨F60_, rfl, g62_, g63_, (by omega), (⟨by intro h0_; have hs_ := c44_s; rw [sp_lit, if_neg (fun h8_ => c12_ ⟨by omega, h8_⟩)]; rw [sp_lx, if_neg (fun h8_ => c29_ ⟨by omega, h8_⟩)]; rw [hs_]; try (show Sum.inl _ = _); try (congr 2 <;> omega), fun h0_ => by exfalso; omega⟩), (by omega)⟩
            subst hA_
            have g71_ : fs [(344, 344, 5, 5), (344, 344, 9, 10), (358, 358, 0, 100000), (360, 363, 0, 100000)] F F52_ := fs_tr g35_ s54_ rfl
            have rk72_ : rk K F52_ := rk_fs rk36_ s54_ (fun r k h => (fs_n (by omega) (fs_n (by omega) (fs_n (by omega) rfl)))) (fs_n (by omega) (fs_n (by omega) (fs_n (by omega) rfl)))
            try simp only [e42_] at c49_
            try simp only [e37_] at c50_
            refine ga_iload (z := 0) hm_179 rfl rfl ?_
            refine fl_if_eq hm_179 rfl ⟨by omega, by omega⟩ (fun _ => ?_) (fun h => absurd (by omega) h)
            refine ga_aload_n (v := .ref 344) hm_179 rfl rfl rfl ?_
            refine ga_getr (b := 358) hm_179 rfl sc_344 rfl ?_
            refine ga_iload_n (z := a) hm_179 rfl rfl ?_
            refine ga_dup2 hm_179 rfl ⟨rfl, rfl⟩ ?_
            have e73_ : F21_ 358 a.toNat = F 358 a.toNat := by rw [q22_]; exact fl_u_ne (by omega)
            have e74_ : F32_ 358 a.toNat = F 358 a.toNat := by rw [q33_]; exact (fl_u_ne (by omega)).trans (e73_)
            have e75_ : F52_ 358 a.toNat = F 358 a.toNat := (s54_ 358 a.toNat (fs_n (by omega) (fs_n (by omega) (fs_n (by omega) rfl)))).trans (e74_)
            refine ga_iald (z := a) (w := F 358 a.toNat) hm_179 rfl sc_358 (by omega) (by omega) (by omega) (e75_) ?_
            refine fl_iconst hm_179 rfl ?_
            refine ga_iadd (a := F 358 a.toNat) (b := 1) (c := F 358 a.toNat + 1) hm_179 rfl (by omega) ?_
            refine fl_iast (z := a) (v := F 358 a.toNat + 1) hm_179 rfl sc_358 (by omega) (by omega) (by omega) ?_
            obtain ⟨F76_, q77_⟩ : ∃ F9_, F9_ = (fl_u F52_ 358 a.toNat (F 358 a.toNat + 1)) := ⟨_, rfl⟩
            rw [← q77_]
            have g78_ : gi F76_ := by rw [q77_]; exact gi_u (g53_) rfl (by omega) (by omega)
            have g79_ : fs [(344, 344, 5, 5), (344, 344, 9, 10), (358, 358, 0, 100000), (360, 363, 0, 100000)] F F76_ := by rw [q77_]; exact fs_u (g71_) (fs_z (fs_z (fs_y (by omega))))
            have rk80_ : rk K F76_ := by rw [q77_]; exact rk_u (rk72_) (by omega) (by omega)
            refine gr_v hm_179 rfl rfl ?_
            have e81_ : F76_ 344 9 = F52_ 344 9 := by rw [q77_]; exact fl_u_ne (by omega)
            have b82_ : 0 ≤ F52_ 344 9 ∧ F52_ 344 9 ≤ 5 := gi_g g53_ rfl
            have e83_ : F76_ 344 10 = F52_ 344 10 := by rw [q77_]; exact fl_u_ne (by omega)
            have e84_ : F76_ 344 5 = F52_ 344 5 := by rw [q77_]; exact fl_u_ne (by omega)
            have b85_ : 0 ≤ F52_ 344 5 ∧ F52_ 344 5 ≤ 600 := gi_g g53_ rfl
            have e86_ : F76_ 358 a.toNat = F 358 a.toNat + 1 := by rw [q77_]; exact fl_u_eq
            exact Or.inr (⟨F76_, rfl, g78_, g79_, (by omega), (by rw [sp_lit, if_neg (fun h8_ => c12_ ⟨by omega, h8_⟩)]; rw [sp_lx, if_neg (fun h8_ => c29_ ⟨by omega, h8_⟩)]; rw [c50_]; try (congr 1; omega)), (by omega), (by omega)⟩)
          subst hA_
          subst hz_
          try simp only [e26_, e28_] at c30_
          try simp only [e26_] at c31_
          refine fl_zast (z := at_ + F 358 a.toNat) (v := 1) hm_179 rfl sc_360 (by omega) (by omega) (by omega) (ga_vb (by omega)) ?_
          refine ga_aload_n (v := .ref 344) hm_179 rfl rfl rfl ?_
          refine ga_getr (b := 360) hm_179 rfl sc_344 rfl ?_
          refine ga_iload_n (z := at_ + F 358 a.toNat) hm_179 rfl rfl ?_
          refine ga_zald (z := at_ + F 358 a.toNat) (w := 1) hm_179 rfl sc_360 (by omega) (by omega) (by omega) (fl_u_eq) ?_
          refine fl_if_eq hm_179 rfl ⟨by omega, by omega⟩ (fun h => absurd h (by omega)) (fun _ => ?_)
          have hszE := (kw_iff (w := [61]) hkt hgK (p := F 344 5) (by omega) (by omega) (by decide) (by decide)).mp c30_.2
          refine ga_aload_n (v := .ref 344) hm_179 rfl rfl rfl ?_
          refine ga_dup hm_179 rfl rfl ?_
          refine ga_geti (z := F 344 5) hm_179 rfl sc_344 rfl ((fl_u_ne (by omega)).trans (e26_)) ?_
          refine fl_iconst hm_179 rfl ?_
          refine ga_iadd (a := F 344 5) (b := 1) (c := F 344 5 + 1) hm_179 rfl (by omega) ?_
          refine ga_puti (z := F 344 5 + 1) hm_179 rfl sc_344 rfl rfl ?_
          refine fl_iconst hm_179 rfl ?_
          refine ga_istore (lv2 := [(5, .int (Int32.ofInt 0)), (4, .int (Int32.ofInt 0)), (3, .int (Int32.ofInt (at_ + F 358 a.toNat))), (0, .ref 344), (1, .int (Int32.ofInt a)), (2, .int (Int32.ofInt at_))]) hm_179 rfl (Nat.le_of_ble_eq_true rfl) rfl ?_
          refine ga_iload (z := 0) hm_179 rfl rfl ?_
          refine fl_iconst hm_179 rfl ?_
          refine fl_icmp_ge hm_179 rfl ⟨by omega, by omega⟩ ⟨by omega, by omega⟩ (fun h => absurd h (by omega)) (fun _ => ?_)
          refine ga_aload_n (v := .ref 344) hm_179 rfl rfl rfl ?_
          refine ga_getr (b := 363) hm_179 rfl sc_344 rfl ?_
          refine fl_iconst hm_179 rfl ?_
          refine ga_iload_n (z := at_ + F 358 a.toNat) hm_179 rfl rfl ?_
          refine ga_imul (a := 2) (b := at_ + F 358 a.toNat) (c := 2 * at_ + 2 * (F 358 a.toNat)) hm_179 rfl (by omega) ?_
          refine ga_iload (z := 0) hm_179 rfl rfl ?_
          refine ga_iadd (a := 2 * at_ + 2 * (F 358 a.toNat)) (b := 0) (c := 2 * at_ + 2 * (F 358 a.toNat)) hm_179 rfl (by omega) ?_
          refine ga_aload_n (v := .ref 344) hm_179 rfl rfl rfl ?_
          refine ga_iload_n (z := a) hm_179 rfl rfl ?_
          refine fl_iconst hm_179 rfl ?_
          obtain ⟨F87_, q88_⟩ : ∃ F9_, F9_ = (fl_u (fl_u F21_ 360 (at_ + F 358 a.toNat).toNat 1) 344 5 (F 344 5 + 1)) := ⟨_, rfl⟩
          rw [← q88_]
          have g89_ : gi F87_ := by rw [q88_]; exact gi_u (gi_u (g23_) rfl (by omega) (by omega)) rfl (by omega) (by omega)
          have g90_ : fs [(344, 344, 5, 5), (344, 344, 9, 10), (358, 358, 0, 100000), (360, 363, 0, 100000)] F F87_ := by rw [q88_]; exact fs_u (fs_u (g24_) (fs_z (fs_z (fs_z (fs_y (by omega)))))) rfl
          have rk91_ : rk K F87_ := by rw [q88_]; exact rk_u (rk_u (rk25_) (by omega) (by omega)) (by omega) (by omega)
          have e92_ : F87_ 344 5 = F 344 5 + 1 := by rw [q88_]; exact fl_u_eq
          refine gVi (nY := 6) (F := 3) (L := 66) (As := [.int (Int32.ofInt a), .int (Int32.ofInt (-1))]) (b := 344) (rest := [.int (Int32.ofInt (2 * at_ + 2 * (F 358 a.toNat))), .ref 363]) hm_179 rfl hm_185 rfl rfl (fl_ob sc_344) rfl rfl rfl rfl rfl (by omega) (by omega) (mc_185 hG F87_ X g89_ (K) (a) (-1) (k) (-1) (l) (tl) hgK rk91_ hkt (by omega) ((by rw [q88_]; exact (trm_u (trm_u (by rw [q22_]; exact (trm_u ht (by omega))) (by omega)) (by omega)))) (hlt) (Or.inl ⟨by omega, by omega, rfl⟩) (by omega)) (fun _ _ h => False.elim h) ?_
          have e94_ : F21_ 344 10 = F 344 10 := by rw [q22_]; exact fl_u_ne (by omega)
          have e95_ : F87_ 344 10 = F 344 10 := by rw [q88_]; exact (fl_u_ne (by omega)).trans ((fl_u_ne (by omega)).trans (e94_))
          have b96_ : 0 ≤ F 344 10 ∧ F 344 10 ≤ 600 := gi_g hgi rfl
          have e97_ : F87_ 344 9 = F 344 9 := by rw [q88_]; exact (fl_u_ne (by omega)).trans ((fl_u_ne (by omega)).trans (e28_))
          rintro z93_ A1_ (⟨F102_, hA_, g103_, s104_, c98_, c99_, c100_, c101_⟩ | ⟨F109_, hA_, g110_, s111_, c105_, c106_, c107_, c108_⟩)
          ·
            subst hA_
            have g112_ : fs [(344, 344, 5, 5), (344, 344, 9, 10), (358, 358, 0, 100000), (360, 363, 0, 100000)] F F102_ := fs_tr g90_ s104_ rfl
            have rk113_ : rk K F102_ := rk_fs rk91_ s104_ (fun r k h => (fs_n (by omega) (fs_n (by omega) rfl))) (fs_n (by omega) (fs_n (by omega) rfl))
            try simp only [e92_, e95_, e97_] at c99_
            have c99_s := c99_.1 (by omega)
            clear c99_
            refine fl_iast (z := 2 * at_ + 2 * (F 358 a.toNat)) (v := z93_) hm_179 rfl sc_363 (by omega) (by omega) (by omega) ?_
            refine ga_inc (a := 0) (c := 1) (lv2 := [(5, .int (Int32.ofInt 1)), (4, .int (Int32.ofInt 0)), (3, .int (Int32.ofInt (at_ + F 358 a.toNat))), (0, .ref 344), (1, .int (Int32.ofInt a)), (2, .int (Int32.ofInt at_))]) hm_179 rfl rfl (Nat.le_of_ble_eq_true rfl) (by omega) rfl ?_
            refine fl_goto hm_179 rfl ?_
            refine ga_iload (z := 1) hm_179 rfl rfl ?_
            refine fl_iconst hm_179 rfl ?_
            refine fl_icmp_ge hm_179 rfl ⟨by omega, by omega⟩ ⟨by omega, by omega⟩ (fun h => absurd h (by omega)) (fun _ => ?_)
            refine ga_aload_n (v := .ref 344) hm_179 rfl rfl rfl ?_
            refine ga_getr (b := 363) hm_179 rfl sc_344 rfl ?_
            refine fl_iconst hm_179 rfl ?_
            refine ga_iload_n (z := at_ + F 358 a.toNat) hm_179 rfl rfl ?_
            refine ga_imul (a := 2) (b := at_ + F 358 a.toNat) (c := 2 * at_ + 2 * (F 358 a.toNat)) hm_179 rfl (by omega) ?_
            refine ga_iload (z := 1) hm_179 rfl rfl ?_
            refine ga_iadd (a := 2 * at_ + 2 * (F 358 a.toNat)) (b := 1) (c := 2 * at_ + 2 * (F 358 a.toNat) + 1) hm_179 rfl (by omega) ?_
            refine ga_aload_n (v := .ref 344) hm_179 rfl rfl rfl ?_
            refine ga_iload_n (z := a) hm_179 rfl rfl ?_
            refine fl_iconst hm_179 rfl ?_
            obtain ⟨F114_, q115_⟩ : ∃ F9_, F9_ = (fl_u F102_ 363 (2 * at_ + 2 * (F 358 a.toNat)).toNat z93_) := ⟨_, rfl⟩
            rw [← q115_]
            have g116_ : gi F114_ := by rw [q115_]; exact gi_u (g103_) rfl (by omega) (by omega)
            have g117_ : fs [(344, 344, 5, 5), (344, 344, 9, 10), (358, 358, 0, 100000), (360, 363, 0, 100000)] F F114_ := by rw [q115_]; exact fs_u (g112_) (fs_z (fs_z (fs_z (fs_y (by omega)))))
            have rk118_ : rk K F114_ := by rw [q115_]; exact rk_u (rk113_) (by omega) (by omega)
            have e119_ : F114_ 344 5 = F102_ 344 5 := by rw [q115_]; exact fl_u_ne (by omega)
            have b120_ : 0 ≤ F102_ 344 5 ∧ F102_ 344 5 ≤ 600 := gi_g g103_ rfl
            refine gVi (nY := 6) (F := 3) (L := 66) (As := [.int (Int32.ofInt a), .int (Int32.ofInt (-1))]) (b := 344) (rest := [.int (Int32.ofInt (2 * at_ + 2 * (F 358 a.toNat) + 1)), .ref 363]) hm_179 rfl hm_185 rfl rfl (fl_ob sc_344) rfl rfl rfl rfl rfl (by omega) (by omega) (mc_185 hG F114_ X g116_ (K) (a) (-1) (k) (-1) (l) (tl) hgK rk118_ hkt (by omega) ((by rw [q115_]; exact (trm_u (trm_fs (by rw [q88_]; exact (trm_u (trm_u (by rw [q22_]; exact (trm_u ht (by omega))) (by omega)) (by omega))) s104_ (fun r j hj => (fs_n (by omega) (fs_n (by omega) rfl)))) (by omega)))) (hlt) (Or.inl ⟨by omega, by omega, rfl⟩) (by omega)) (fun _ _ h => False.elim h) ?_
            have e122_ : F114_ 344 10 = F102_ 344 10 := by rw [q115_]; exact fl_u_ne (by omega)
            have b123_ : 0 ≤ F102_ 344 10 ∧ F102_ 344 10 ≤ 600 := gi_g g103_ rfl
            have e124_ : F114_ 344 9 = F102_ 344 9 := by rw [q115_]; exact fl_u_ne (by omega)
            have b125_ : 0 ≤ F102_ 344 9 ∧ F102_ 344 9 ≤ 5 := gi_g g103_ rfl
            rintro z121_ A1_ (⟨F130_, hA_, g131_, s132_, c126_, c127_, c128_, c129_⟩ | ⟨F137_, hA_, g138_, s139_, c133_, c134_, c135_, c136_⟩)
            ·
              subst hA_
              have g140_ : fs [(344, 344, 5, 5), (344, 344, 9, 10), (358, 358, 0, 100000), (360, 363, 0, 100000)] F F130_ := fs_tr g117_ s132_ rfl
              have rk141_ : rk K F130_ := rk_fs rk118_ s132_ (fun r k h => (fs_n (by omega) (fs_n (by omega) rfl))) (fs_n (by omega) (fs_n (by omega) rfl))
              try simp only [e119_, e122_, e124_] at c127_
              have c127_k := c127_.2 (by omega)
              clear c127_
              refine fl_iast (z := 2 * at_ + 2 * (F 358 a.toNat) + 1) (v := z121_) hm_179 rfl sc_363 (by omega) (by omega) (by omega) ?_
              refine ga_inc (a := 1) (c := 2) (lv2 := [(5, .int (Int32.ofInt 2)), (4, .int (Int32.ofInt 0)), (3, .int (Int32.ofInt (at_ + F 358 a.toNat))), (0, .ref 344), (1, .int (Int32.ofInt a)), (2, .int (Int32.ofInt at_))]) hm_179 rfl rfl (Nat.le_of_ble_eq_true rfl) (by omega) rfl ?_
              refine fl_goto hm_179 rfl ?_
              refine ga_iload (z := 2) hm_179 rfl rfl ?_
              refine fl_iconst hm_179 rfl ?_
              refine fl_icmp_ge hm_179 rfl ⟨by omega, by omega⟩ ⟨by omega, by omega⟩ (fun _ => ?_) (fun h => absurd (by omega) h)
              refine ga_aload_n (v := .ref 344) hm_179 rfl rfl rfl ?_
              refine fl_bipush hm_179 rfl rfl ?_
              obtain ⟨F142_, q143_⟩ : ∃ F9_, F9_ = (fl_u F130_ 363 (2 * at_ + 2 * (F 358 a.toNat) + 1).toNat z121_) := ⟨_, rfl⟩
              rw [← q143_]
              have g144_ : gi F142_ := by rw [q143_]; exact gi_u (g131_) rfl (by omega) (by omega)
              have g145_ : fs [(344, 344, 5, 5), (344, 344, 9, 10), (358, 358, 0, 100000), (360, 363, 0, 100000)] F F142_ := by rw [q143_]; exact fs_u (g140_) (fs_z (fs_z (fs_z (fs_y (by omega)))))
              have rk146_ : rk K F142_ := by rw [q143_]; exact rk_u (rk141_) (by omega) (by omega)
              have e147_ : F142_ 344 5 = F130_ 344 5 := by rw [q143_]; exact fl_u_ne (by omega)
              have b148_ : 0 ≤ F130_ 344 5 ∧ F130_ 344 5 ≤ 600 := gi_g g131_ rfl
              refine gVv (nY := 2) (F := 2) (L := 41) (As := [.int (Int32.ofInt 41)]) (b := 344) (rest := []) hm_179 rfl hm_51 rfl rfl (fl_ob sc_344) rfl rfl rfl rfl rfl (by omega) (by omega) (mc_51 hG F142_ X g144_ (K) (41) (1) hgK rk146_ hkt (by omega) (by omega) (by omega)) (fun _ _ h => False.elim h) ?_
              have e150_ : F142_ 344 10 = F130_ 344 10 := by rw [q143_]; exact fl_u_ne (by omega)
              have b151_ : 0 ≤ F130_ 344 10 ∧ F130_ 344 10 ≤ 600 := gi_g g131_ rfl
              have e152_ : F142_ 344 9 = F130_ 344 9 := by rw [q143_]; exact fl_u_ne (by omega)
              have b153_ : 0 ≤ F130_ 344 9 ∧ F130_ 344 9 ≤ 5 := gi_g g131_ rfl
              rintro A1_ (⟨F157_, hA_, g158_, s159_, c154_, c155_, c156_⟩ | ⟨F163_, hA_, g164_, s165_, c160_, c161_, c162_⟩)
              ·
                subst hA_
                have g166_ : fs [(344, 344, 5, 5), (344, 344, 9, 10), (358, 358, 0, 100000), (360, 363, 0, 100000)] F F157_ := fs_tr g145_ s159_ rfl
                have rk167_ : rk K F157_ := rk_fs rk146_ s159_ (fun r k h => (fs_n (by omega) (fs_n (by omega) rfl))) (fs_n (by omega) (fs_n (by omega) rfl))
                try simp only [e147_, e150_, e152_] at c155_
                have c155_k := c155_.2 (by omega)
                clear c155_
                refine fl_goto hm_179 rfl ?_
                refine ga_iload (z := 0) hm_179 rfl rfl ?_
                refine fl_if_eq hm_179 rfl ⟨by omega, by omega⟩ (fun _ => ?_) (fun h => absurd (by omega) h)
                refine ga_aload_n (v := .ref 344) hm_179 rfl rfl rfl ?_
                refine ga_getr (b := 358) hm_179 rfl sc_344 rfl ?_
                refine ga_iload_n (z := a) hm_179 rfl rfl ?_
                refine ga_dup2 hm_179 rfl ⟨rfl, rfl⟩ ?_
                have e168_ : F21_ 358 a.toNat = F 358 a.toNat := by rw [q22_]; exact fl_u_ne (by omega)
                have e169_ : F87_ 358 a.toNat = F 358 a.toNat := by rw [q88_]; exact (fl_u_ne (by omega)).trans ((fl_u_ne (by omega)).trans (e168_))
                have e170_ : F102_ 358 a.toNat = F 358 a.toNat := (s104_ 358 a.toNat (fs_n (by omega) (fs_n (by omega) rfl))).trans (e169_)
                have e171_ : F114_ 358 a.toNat = F 358 a.toNat := by rw [q115_]; exact (fl_u_ne (by omega)).trans (e170_)
                have e172_ : F130_ 358 a.toNat = F 358 a.toNat := (s132_ 358 a.toNat (fs_n (by omega) (fs_n (by omega) rfl))).trans (e171_)
                have e173_ : F142_ 358 a.toNat = F 358 a.toNat := by rw [q143_]; exact (fl_u_ne (by omega)).trans (e172_)
                have e174_ : F157_ 358 a.toNat = F 358 a.toNat := (s159_ 358 a.toNat (fs_n (by omega) (fs_n (by omega) rfl))).trans (e173_)
                refine ga_iald (z := a) (w := F 358 a.toNat) hm_179 rfl sc_358 (by omega) (by omega) (by omega) (e174_) ?_
                refine fl_iconst hm_179 rfl ?_
                refine ga_iadd (a := F 358 a.toNat) (b := 1) (c := F 358 a.toNat + 1) hm_179 rfl (by omega) ?_
                refine fl_iast (z := a) (v := F 358 a.toNat + 1) hm_179 rfl sc_358 (by omega) (by omega) (by omega) ?_
                obtain ⟨F175_, q176_⟩ : ∃ F9_, F9_ = (fl_u F157_ 358 a.toNat (F 358 a.toNat + 1)) := ⟨_, rfl⟩
                rw [← q176_]
                have g177_ : gi F175_ := by rw [q176_]; exact gi_u (g158_) rfl (by omega) (by omega)
                have g178_ : fs [(344, 344, 5, 5), (344, 344, 9, 10), (358, 358, 0, 100000), (360, 363, 0, 100000)] F F175_ := by rw [q176_]; exact fs_u (g166_) (fs_z (fs_z (fs_y (by omega))))
                have rk179_ : rk K F175_ := by rw [q176_]; exact rk_u (rk167_) (by omega) (by omega)
                refine gr_v hm_179 rfl rfl ?_
                have e180_ : F175_ 344 9 = F157_ 344 9 := by rw [q176_]; exact fl_u_ne (by omega)
                have b181_ : 0 ≤ F157_ 344 9 ∧ F157_ 344 9 ≤ 5 := gi_g g158_ rfl
                have e182_ : F175_ 344 10 = F157_ 344 10 := by rw [q176_]; exact fl_u_ne (by omega)
                have e183_ : F175_ 344 5 = F157_ 344 5 := by rw [q176_]; exact fl_u_ne (by omega)
                have b184_ : 0 ≤ F157_ 344 10 ∧ F157_ 344 10 ≤ 600 := gi_g g158_ rfl
                have b185_ : 0 ≤ F157_ 344 5 ∧ F157_ 344 5 ≤ 600 := gi_g g158_ rfl
                exact Or.inl ⟨F175_, rfl, g177_, g178_, (by omega), (⟨by intro h0_; have hs_ := c99_s; rw [sp_lit, if_neg (fun h8_ => c12_ ⟨by omega, h8_⟩)]; rw [sp_lx, if_pos c30_.2, sp_eq, (show sk K (F 344 5) = F 344 5 + 1 by rw [sk, if_pos (by omega)])]; rw [hs_]; try (show Sum.inl _ = _); try (congr 2 <;> omega), fun h0_ => by exfalso; omega⟩), (by omega)⟩
              exfalso; omega
            exfalso; omega
          subst hA_
          have g186_ : fs [(344, 344, 5, 5), (344, 344, 9, 10), (358, 358, 0, 100000), (360, 363, 0, 100000)] F F109_ := fs_tr g90_ s111_ rfl
          have rk187_ : rk K F109_ := rk_fs rk91_ s111_ (fun r k h => (fs_n (by omega) (fs_n (by omega) rfl))) (fs_n (by omega) (fs_n (by omega) rfl))
          try simp only [e97_] at c105_
          try simp only [e92_] at c106_
          refine fl_iast (z := 2 * at_ + 2 * (F 358 a.toNat)) (v := z93_) hm_179 rfl sc_363 (by omega) (by omega) (by omega) ?_
          refine ga_inc (a := 0) (c := 1) (lv2 := [(5, .int (Int32.ofInt 1)), (4, .int (Int32.ofInt 0)), (3, .int (Int32.ofInt (at_ + F 358 a.toNat))), (0, .ref 344), (1, .int (Int32.ofInt a)), (2, .int (Int32.ofInt at_))]) hm_179 rfl rfl (Nat.le_of_ble_eq_true rfl) (by omega) rfl ?_
          refine fl_goto hm_179 rfl ?_
          refine ga_iload (z := 1) hm_179 rfl rfl ?_
          refine fl_iconst hm_179 rfl ?_
          refine fl_icmp_ge hm_179 rfl ⟨by omega, by omega⟩ ⟨by omega, by omega⟩ (fun h => absurd h (by omega)) (fun _ => ?_)
          refine ga_aload_n (v := .ref 344) hm_179 rfl rfl rfl ?_
          refine ga_getr (b := 363) hm_179 rfl sc_344 rfl ?_
          refine fl_iconst hm_179 rfl ?_
          refine ga_iload_n (z := at_ + F 358 a.toNat) hm_179 rfl rfl ?_
          refine ga_imul (a := 2) (b := at_ + F 358 a.toNat) (c := 2 * at_ + 2 * (F 358 a.toNat)) hm_179 rfl (by omega) ?_
          refine ga_iload (z := 1) hm_179 rfl rfl ?_
          refine ga_iadd (a := 2 * at_ + 2 * (F 358 a.toNat)) (b := 1) (c := 2 * at_ + 2 * (F 358 a.toNat) + 1) hm_179 rfl (by omega) ?_
          refine ga_aload_n (v := .ref 344) hm_179 rfl rfl rfl ?_
          refine ga_iload_n (z := a) hm_179 rfl rfl ?_
          refine fl_iconst hm_179 rfl ?_
          obtain ⟨F188_, q189_⟩ : ∃ F9_, F9_ = (fl_u F109_ 363 (2 * at_ + 2 * (F 358 a.toNat)).toNat z93_) := ⟨_, rfl⟩
          rw [← q189_]
          have g190_ : gi F188_ := by rw [q189_]; exact gi_u (g110_) rfl (by omega) (by omega)
          have g191_ : fs [(344, 344, 5, 5), (344, 344, 9, 10), (358, 358, 0, 100000), (360, 363, 0, 100000)] F F188_ := by rw [q189_]; exact fs_u (g186_) (fs_z (fs_z (fs_z (fs_y (by omega)))))
          have rk192_ : rk K F188_ := by rw [q189_]; exact rk_u (rk187_) (by omega) (by omega)
          have e193_ : F188_ 344 5 = F109_ 344 5 := by rw [q189_]; exact fl_u_ne (by omega)
          have b194_ : 0 ≤ F109_ 344 5 ∧ F109_ 344 5 ≤ 600 := gi_g g110_ rfl
          refine gVi (nY := 6) (F := 3) (L := 66) (As := [.int (Int32.ofInt a), .int (Int32.ofInt (-1))]) (b := 344) (rest := [.int (Int32.ofInt (2 * at_ + 2 * (F 358 a.toNat) + 1)), .ref 363]) hm_179 rfl hm_185 rfl rfl (fl_ob sc_344) rfl rfl rfl rfl rfl (by omega) (by omega) (mc_185 hG F188_ X g190_ (K) (a) (-1) (k) (-1) (l) (tl) hgK rk192_ hkt (by omega) ((by rw [q189_]; exact (trm_u (trm_fs (by rw [q88_]; exact (trm_u (trm_u (by rw [q22_]; exact (trm_u ht (by omega))) (by omega)) (by omega))) s111_ (fun r j hj => (fs_n (by omega) (fs_n (by omega) rfl)))) (by omega)))) (hlt) (Or.inl ⟨by omega, by omega, rfl⟩) (by omega)) (fun _ _ h => False.elim h) ?_
          have e196_ : F188_ 344 10 = F109_ 344 10 := by rw [q189_]; exact fl_u_ne (by omega)
          have b197_ : 0 ≤ F109_ 344 10 ∧ F109_ 344 10 ≤ 600 := gi_g g110_ rfl
          have e198_ : F188_ 344 9 = F109_ 344 9 := by rw [q189_]; exact fl_u_ne (by omega)
          have b199_ : 0 ≤ F109_ 344 9 ∧ F109_ 344 9 ≤ 5 := gi_g g110_ rfl
          rintro z195_ A1_ (⟨F204_, hA_, g205_, s206_, c200_, c201_, c202_, c203_⟩ | ⟨F211_, hA_, g212_, s213_, c207_, c208_, c209_, c210_⟩)
          ·
            subst hA_
            have g214_ : fs [(344, 344, 5, 5), (344, 344, 9, 10), (358, 358, 0, 100000), (360, 363, 0, 100000)] F F204_ := fs_tr g191_ s206_ rfl
            have rk215_ : rk K F204_ := rk_fs rk192_ s206_ (fun r k h => (fs_n (by omega) (fs_n (by omega) rfl))) (fs_n (by omega) (fs_n (by omega) rfl))
            try simp only [e193_, e196_, e198_] at c201_
            have c201_s := c201_.1 (by omega)
            clear c201_
            refine fl_iast (z := 2 * at_ + 2 * (F 358 a.toNat) + 1) (v := z195_) hm_179 rfl sc_363 (by omega) (by omega) (by omega) ?_
            refine ga_inc (a := 1) (c := 2) (lv2 := [(5, .int (Int32.ofInt 2)), (4, .int (Int32.ofInt 0)), (3, .int (Int32.ofInt (at_ + F 358 a.toNat))), (0, .ref 344), (1, .int (Int32.ofInt a)), (2, .int (Int32.ofInt at_))]) hm_179 rfl rfl (Nat.le_of_ble_eq_true rfl) (by omega) rfl ?_
            refine fl_goto hm_179 rfl ?_
            refine ga_iload (z := 2) hm_179 rfl rfl ?_
            refine fl_iconst hm_179 rfl ?_
            refine fl_icmp_ge hm_179 rfl ⟨by omega, by omega⟩ ⟨by omega, by omega⟩ (fun _ => ?_) (fun h => absurd (by omega) h)
            refine ga_aload_n (v := .ref 344) hm_179 rfl rfl rfl ?_
            refine fl_bipush hm_179 rfl rfl ?_
            obtain ⟨F216_, q217_⟩ : ∃ F9_, F9_ = (fl_u F204_ 363 (2 * at_ + 2 * (F 358 a.toNat) + 1).toNat z195_) := ⟨_, rfl⟩
            rw [← q217_]
            have g218_ : gi F216_ := by rw [q217_]; exact gi_u (g205_) rfl (by omega) (by omega)
            have g219_ : fs [(344, 344, 5, 5), (344, 344, 9, 10), (358, 358, 0, 100000), (360, 363, 0, 100000)] F F216_ := by rw [q217_]; exact fs_u (g214_) (fs_z (fs_z (fs_z (fs_y (by omega)))))
            have rk220_ : rk K F216_ := by rw [q217_]; exact rk_u (rk215_) (by omega) (by omega)
            have e221_ : F216_ 344 5 = F204_ 344 5 := by rw [q217_]; exact fl_u_ne (by omega)
            have b222_ : 0 ≤ F204_ 344 5 ∧ F204_ 344 5 ≤ 600 := gi_g g205_ rfl
            refine gVv (nY := 2) (F := 2) (L := 41) (As := [.int (Int32.ofInt 41)]) (b := 344) (rest := []) hm_179 rfl hm_51 rfl rfl (fl_ob sc_344) rfl rfl rfl rfl rfl (by omega) (by omega) (mc_51 hG F216_ X g218_ (K) (41) (1) hgK rk220_ hkt (by omega) (by omega) (by omega)) (fun _ _ h => False.elim h) ?_
            have e224_ : F216_ 344 10 = F204_ 344 10 := by rw [q217_]; exact fl_u_ne (by omega)
            have b225_ : 0 ≤ F204_ 344 10 ∧ F204_ 344 10 ≤ 600 := gi_g g205_ rfl
            have e226_ : F216_ 344 9 = F204_ 344 9 := by rw [q217_]; exact fl_u_ne (by omega)
            have b227_ : 0 ≤ F204_ 344 9 ∧ F204_ 344 9 ≤ 5 := gi_g g205_ rfl
            rintro A1_ (⟨F231_, hA_, g232_, s233_, c228_, c229_, c230_⟩ | ⟨F237_, hA_, g238_, s239_, c234_, c235_, c236_⟩)
            ·
              subst hA_
              have g240_ : fs [(344, 344, 5, 5), (344, 344, 9, 10), (358, 358, 0, 100000), (360, 363, 0, 100000)] F F231_ := fs_tr g219_ s233_ rfl
              have rk241_ : rk K F231_ := rk_fs rk220_ s233_ (fun r k h => (fs_n (by omega) (fs_n (by omega) rfl))) (fs_n (by omega) (fs_n (by omega) rfl))
              try simp only [e221_, e224_, e226_] at c229_
              have c229_k := c229_.2 (by omega)
              clear c229_
              refine fl_goto hm_179 rfl ?_
              refine ga_iload (z := 0) hm_179 rfl rfl ?_
              refine fl_if_eq hm_179 rfl ⟨by omega, by omega⟩ (fun _ => ?_) (fun h => absurd (by omega) h)
              refine ga_aload_n (v := .ref 344) hm_179 rfl rfl rfl ?_
              refine ga_getr (b := 358) hm_179 rfl sc_344 rfl ?_
              refine ga_iload_n (z := a) hm_179 rfl rfl ?_
              refine ga_dup2 hm_179 rfl ⟨rfl, rfl⟩ ?_
              have e242_ : F21_ 358 a.toNat = F 358 a.toNat := by rw [q22_]; exact fl_u_ne (by omega)
              have e243_ : F87_ 358 a.toNat = F 358 a.toNat := by rw [q88_]; exact (fl_u_ne (by omega)).trans ((fl_u_ne (by omega)).trans (e242_))
              have e244_ : F109_ 358 a.toNat = F 358 a.toNat := (s111_ 358 a.toNat (fs_n (by omega) (fs_n (by omega) rfl))).trans (e243_)
              have e245_ : F188_ 358 a.toNat = F 358 a.toNat := by rw [q189_]; exact (fl_u_ne (by omega)).trans (e244_)
              have e246_ : F204_ 358 a.toNat = F 358 a.toNat := (s206_ 358 a.toNat (fs_n (by omega) (fs_n (by omega) rfl))).trans (e245_)
              have e247_ : F216_ 358 a.toNat = F 358 a.toNat := by rw [q217_]; exact (fl_u_ne (by omega)).trans (e246_)
              have e248_ : F231_ 358 a.toNat = F 358 a.toNat := (s233_ 358 a.toNat (fs_n (by omega) (fs_n (by omega) rfl))).trans (e247_)
              refine ga_iald (z := a) (w := F 358 a.toNat) hm_179 rfl sc_358 (by omega) (by omega) (by omega) (e248_) ?_
              refine fl_iconst hm_179 rfl ?_
              refine ga_iadd (a := F 358 a.toNat) (b := 1) (c := F 358 a.toNat + 1) hm_179 rfl (by omega) ?_
              refine fl_iast (z := a) (v := F 358 a.toNat + 1) hm_179 rfl sc_358 (by omega) (by omega) (by omega) ?_
              obtain ⟨F249_, q250_⟩ : ∃ F9_, F9_ = (fl_u F231_ 358 a.toNat (F 358 a.toNat + 1)) := ⟨_, rfl⟩
              rw [← q250_]
              have g251_ : gi F249_ := by rw [q250_]; exact gi_u (g232_) rfl (by omega) (by omega)
              have g252_ : fs [(344, 344, 5, 5), (344, 344, 9, 10), (358, 358, 0, 100000), (360, 363, 0, 100000)] F F249_ := by rw [q250_]; exact fs_u (g240_) (fs_z (fs_z (fs_y (by omega))))
              have rk253_ : rk K F249_ := by rw [q250_]; exact rk_u (rk241_) (by omega) (by omega)
              refine gr_v hm_179 rfl rfl ?_
              have e254_ : F249_ 344 9 = F231_ 344 9 := by rw [q250_]; exact fl_u_ne (by omega)
              have b255_ : 0 ≤ F231_ 344 9 ∧ F231_ 344 9 ≤ 5 := gi_g g232_ rfl
              have e256_ : F249_ 344 10 = F231_ 344 10 := by rw [q250_]; exact fl_u_ne (by omega)
              have e257_ : F249_ 344 5 = F231_ 344 5 := by rw [q250_]; exact fl_u_ne (by omega)
              have b258_ : 0 ≤ F231_ 344 10 ∧ F231_ 344 10 ≤ 600 := gi_g g232_ rfl
              have b259_ : 0 ≤ F231_ 344 5 ∧ F231_ 344 5 ≤ 600 := gi_g g232_ rfl
              exact Or.inl ⟨F249_, rfl, g251_, g252_, (by omega), (⟨by intro h0_; have hs_ := c201_s; rw [sp_lit, if_neg (fun h8_ => c12_ ⟨by omega, h8_⟩)]; rw [sp_lx, if_pos c30_.2, sp_eq, (show sk K (F 344 5) = F 344 5 + 1 by rw [sk, if_pos (by omega)])]; rw [c106_, pb_r]; rw [hs_]; try (show Sum.inl _ = _); try (congr 2 <;> omega), fun h0_ => by exfalso; omega⟩), (by omega)⟩
            exfalso; omega
          subst hA_
          have g260_ : fs [(344, 344, 5, 5), (344, 344, 9, 10), (358, 358, 0, 100000), (360, 363, 0, 100000)] F F211_ := fs_tr g191_ s213_ rfl
          have rk261_ : rk K F211_ := rk_fs rk192_ s213_ (fun r k h => (fs_n (by omega) (fs_n (by omega) rfl))) (fs_n (by omega) (fs_n (by omega) rfl))
          try simp only [e198_] at c207_
          try simp only [e193_] at c208_
          refine fl_iast (z := 2 * at_ + 2 * (F 358 a.toNat) + 1) (v := z195_) hm_179 rfl sc_363 (by omega) (by omega) (by omega) ?_
          refine ga_inc (a := 1) (c := 2) (lv2 := [(5, .int (Int32.ofInt 2)), (4, .int (Int32.ofInt 0)), (3, .int (Int32.ofInt (at_ + F 358 a.toNat))), (0, .ref 344), (1, .int (Int32.ofInt a)), (2, .int (Int32.ofInt at_))]) hm_179 rfl rfl (Nat.le_of_ble_eq_true rfl) (by omega) rfl ?_
          refine fl_goto hm_179 rfl ?_
          refine ga_iload (z := 2) hm_179 rfl rfl ?_
          refine fl_iconst hm_179 rfl ?_
          refine fl_icmp_ge hm_179 rfl ⟨by omega, by omega⟩ ⟨by omega, by omega⟩ (fun _ => ?_) (fun h => absurd (by omega) h)
          refine ga_aload_n (v := .ref 344) hm_179 rfl rfl rfl ?_
          refine fl_bipush hm_179 rfl rfl ?_
          obtain ⟨F262_, q263_⟩ : ∃ F9_, F9_ = (fl_u F211_ 363 (2 * at_ + 2 * (F 358 a.toNat) + 1).toNat z195_) := ⟨_, rfl⟩
          rw [← q263_]
          have g264_ : gi F262_ := by rw [q263_]; exact gi_u (g212_) rfl (by omega) (by omega)
          have g265_ : fs [(344, 344, 5, 5), (344, 344, 9, 10), (358, 358, 0, 100000), (360, 363, 0, 100000)] F F262_ := by rw [q263_]; exact fs_u (g260_) (fs_z (fs_z (fs_z (fs_y (by omega)))))
          have rk266_ : rk K F262_ := by rw [q263_]; exact rk_u (rk261_) (by omega) (by omega)
          have e267_ : F262_ 344 5 = F211_ 344 5 := by rw [q263_]; exact fl_u_ne (by omega)
          have b268_ : 0 ≤ F211_ 344 5 ∧ F211_ 344 5 ≤ 600 := gi_g g212_ rfl
          refine gVv (nY := 2) (F := 2) (L := 41) (As := [.int (Int32.ofInt 41)]) (b := 344) (rest := []) hm_179 rfl hm_51 rfl rfl (fl_ob sc_344) rfl rfl rfl rfl rfl (by omega) (by omega) (mc_51 hG F262_ X g264_ (K) (41) (1) hgK rk266_ hkt (by omega) (by omega) (by omega)) (fun _ _ h => False.elim h) ?_
          have e270_ : F262_ 344 10 = F211_ 344 10 := by rw [q263_]; exact fl_u_ne (by omega)
          have b271_ : 0 ≤ F211_ 344 10 ∧ F211_ 344 10 ≤ 600 := gi_g g212_ rfl
          have e272_ : F262_ 344 9 = F211_ 344 9 := by rw [q263_]; exact fl_u_ne (by omega)
          have b273_ : 0 ≤ F211_ 344 9 ∧ F211_ 344 9 ≤ 5 := gi_g g212_ rfl
          rintro A1_ (⟨F277_, hA_, g278_, s279_, c274_, c275_, c276_⟩ | ⟨F283_, hA_, g284_, s285_, c280_, c281_, c282_⟩)
          ·
            subst hA_
            have g286_ : fs [(344, 344, 5, 5), (344, 344, 9, 10), (358, 358, 0, 100000), (360, 363, 0, 100000)] F F277_ := fs_tr g265_ s279_ rfl
            have rk287_ : rk K F277_ := rk_fs rk266_ s279_ (fun r k h => (fs_n (by omega) (fs_n (by omega) rfl))) (fs_n (by omega) (fs_n (by omega) rfl))
            try simp only [e267_, e270_, e272_] at c275_
            have c275_s := c275_.1 (by omega)
            clear c275_
            refine fl_goto hm_179 rfl ?_
            refine ga_iload (z := 0) hm_179 rfl rfl ?_
            refine fl_if_eq hm_179 rfl ⟨by omega, by omega⟩ (fun _ => ?_) (fun h => absurd (by omega) h)
            refine ga_aload_n (v := .ref 344) hm_179 rfl rfl rfl ?_
            refine ga_getr (b := 358) hm_179 rfl sc_344 rfl ?_
            refine ga_iload_n (z := a) hm_179 rfl rfl ?_
            refine ga_dup2 hm_179 rfl ⟨rfl, rfl⟩ ?_
            have e288_ : F21_ 358 a.toNat = F 358 a.toNat := by rw [q22_]; exact fl_u_ne (by omega)
            have e289_ : F87_ 358 a.toNat = F 358 a.toNat := by rw [q88_]; exact (fl_u_ne (by omega)).trans ((fl_u_ne (by omega)).trans (e288_))
            have e290_ : F109_ 358 a.toNat = F 358 a.toNat := (s111_ 358 a.toNat (fs_n (by omega) (fs_n (by omega) rfl))).trans (e289_)
            have e291_ : F188_ 358 a.toNat = F 358 a.toNat := by rw [q189_]; exact (fl_u_ne (by omega)).trans (e290_)
            have e292_ : F211_ 358 a.toNat = F 358 a.toNat := (s213_ 358 a.toNat (fs_n (by omega) (fs_n (by omega) rfl))).trans (e291_)
            have e293_ : F262_ 358 a.toNat = F 358 a.toNat := by rw [q263_]; exact (fl_u_ne (by omega)).trans (e292_)
            have e294_ : F277_ 358 a.toNat = F 358 a.toNat := (s279_ 358 a.toNat (fs_n (by omega) (fs_n (by omega) rfl))).trans (e293_)
            refine ga_iald (z := a) (w := F 358 a.toNat) hm_179 rfl sc_358 (by omega) (by omega) (by omega) (e294_) ?_
            refine fl_iconst hm_179 rfl ?_
            refine ga_iadd (a := F 358 a.toNat) (b := 1) (c := F 358 a.toNat + 1) hm_179 rfl (by omega) ?_
            refine fl_iast (z := a) (v := F 358 a.toNat + 1) hm_179 rfl sc_358 (by omega) (by omega) (by omega) ?_
            obtain ⟨F295_, q296_⟩ : ∃ F9_, F9_ = (fl_u F277_ 358 a.toNat (F 358 a.toNat + 1)) := ⟨_, rfl⟩
            rw [← q296_]
            have g297_ : gi F295_ := by rw [q296_]; exact gi_u (g278_) rfl (by omega) (by omega)
            have g298_ : fs [(344, 344, 5, 5), (344, 344, 9, 10), (358, 358, 0, 100000), (360, 363, 0, 100000)] F F295_ := by rw [q296_]; exact fs_u (g286_) (fs_z (fs_z (fs_y (by omega))))
            have rk299_ : rk K F295_ := by rw [q296_]; exact rk_u (rk287_) (by omega) (by omega)
            refine gr_v hm_179 rfl rfl ?_
            have e300_ : F295_ 344 9 = F277_ 344 9 := by rw [q296_]; exact fl_u_ne (by omega)
            have b301_ : 0 ≤ F277_ 344 9 ∧ F277_ 344 9 ≤ 5 := gi_g g278_ rfl
            have e302_ : F295_ 344 10 = F277_ 344 10 := by rw [q296_]; exact fl_u_ne (by omega)
            have e303_ : F295_ 344 5 = F277_ 344 5 := by rw [q296_]; exact fl_u_ne (by omega)
            have b304_ : 0 ≤ F277_ 344 10 ∧ F277_ 344 10 ≤ 600 := gi_g g278_ rfl
            have b305_ : 0 ≤ F277_ 344 5 ∧ F277_ 344 5 ≤ 600 := gi_g g278_ rfl
            exact Or.inl ⟨F295_, rfl, g297_, g298_, (by omega), (⟨by intro h0_; have hs_ := c275_s; rw [sp_lit, if_neg (fun h8_ => c12_ ⟨by omega, h8_⟩)]; rw [sp_lx, if_pos c30_.2, sp_eq, (show sk K (F 344 5) = F 344 5 + 1 by rw [sk, if_pos (by omega)])]; rw [c106_, pb_r]; rw [c208_, pb_r]; rw [hs_]; try (show Sum.inl _ = _); try (congr 2 <;> omega), fun h0_ => by exfalso; omega⟩), (by omega)⟩
          subst hA_
          have g306_ : fs [(344, 344, 5, 5), (344, 344, 9, 10), (358, 358, 0, 100000), (360, 363, 0, 100000)] F F283_ := fs_tr g265_ s285_ rfl
          have rk307_ : rk K F283_ := rk_fs rk266_ s285_ (fun r k h => (fs_n (by omega) (fs_n (by omega) rfl))) (fs_n (by omega) (fs_n (by omega) rfl))
          try simp only [e272_] at c280_
          try simp only [e267_] at c281_
          refine fl_goto hm_179 rfl ?_
          refine ga_iload (z := 0) hm_179 rfl rfl ?_
          refine fl_if_eq hm_179 rfl ⟨by omega, by omega⟩ (fun _ => ?_) (fun h => absurd (by omega) h)
          refine ga_aload_n (v := .ref 344) hm_179 rfl rfl rfl ?_
          refine ga_getr (b := 358) hm_179 rfl sc_344 rfl ?_
          refine ga_iload_n (z := a) hm_179 rfl rfl ?_
          refine ga_dup2 hm_179 rfl ⟨rfl, rfl⟩ ?_
          have e308_ : F21_ 358 a.toNat = F 358 a.toNat := by rw [q22_]; exact fl_u_ne (by omega)
          have e309_ : F87_ 358 a.toNat = F 358 a.toNat := by rw [q88_]; exact (fl_u_ne (by omega)).trans ((fl_u_ne (by omega)).trans (e308_))
          have e310_ : F109_ 358 a.toNat = F 358 a.toNat := (s111_ 358 a.toNat (fs_n (by omega) (fs_n (by omega) rfl))).trans (e309_)
          have e311_ : F188_ 358 a.toNat = F 358 a.toNat := by rw [q189_]; exact (fl_u_ne (by omega)).trans (e310_)
          have e312_ : F211_ 358 a.toNat = F 358 a.toNat := (s213_ 358 a.toNat (fs_n (by omega) (fs_n (by omega) rfl))).trans (e311_)
          have e313_ : F262_ 358 a.toNat = F 358 a.toNat := by rw [q263_]; exact (fl_u_ne (by omega)).trans (e312_)
          have e314_ : F283_ 358 a.toNat = F 358 a.toNat := (s285_ 358 a.toNat (fs_n (by omega) (fs_n (by omega) rfl))).trans (e313_)
          refine ga_iald (z := a) (w := F 358 a.toNat) hm_179 rfl sc_358 (by omega) (by omega) (by omega) (e314_) ?_
          refine fl_iconst hm_179 rfl ?_
          refine ga_iadd (a := F 358 a.toNat) (b := 1) (c := F 358 a.toNat + 1) hm_179 rfl (by omega) ?_
          refine fl_iast (z := a) (v := F 358 a.toNat + 1) hm_179 rfl sc_358 (by omega) (by omega) (by omega) ?_
          obtain ⟨F315_, q316_⟩ : ∃ F9_, F9_ = (fl_u F283_ 358 a.toNat (F 358 a.toNat + 1)) := ⟨_, rfl⟩
          rw [← q316_]
          have g317_ : gi F315_ := by rw [q316_]; exact gi_u (g284_) rfl (by omega) (by omega)
          have g318_ : fs [(344, 344, 5, 5), (344, 344, 9, 10), (358, 358, 0, 100000), (360, 363, 0, 100000)] F F315_ := by rw [q316_]; exact fs_u (g306_) (fs_z (fs_z (fs_y (by omega))))
          have rk319_ : rk K F315_ := by rw [q316_]; exact rk_u (rk307_) (by omega) (by omega)
          refine gr_v hm_179 rfl rfl ?_
          have e320_ : F315_ 344 9 = F283_ 344 9 := by rw [q316_]; exact fl_u_ne (by omega)
          have b321_ : 0 ≤ F283_ 344 9 ∧ F283_ 344 9 ≤ 5 := gi_g g284_ rfl
          have e322_ : F315_ 344 10 = F283_ 344 10 := by rw [q316_]; exact fl_u_ne (by omega)
          have e323_ : F315_ 344 5 = F283_ 344 5 := by rw [q316_]; exact fl_u_ne (by omega)
          have b324_ : 0 ≤ F283_ 344 5 ∧ F283_ 344 5 ≤ 600 := gi_g g284_ rfl
          have e325_ : F315_ 358 a.toNat = F 358 a.toNat + 1 := by rw [q316_]; exact fl_u_eq
          exact Or.inr (⟨F315_, rfl, g317_, g318_, (by omega), (by rw [sp_lit, if_neg (fun h8_ => c12_ ⟨by omega, h8_⟩)]; rw [sp_lx, if_pos c30_.2, sp_eq, (show sk K (F 344 5) = F 344 5 + 1 by rw [sk, if_pos (by omega)])]; rw [c106_, pb_r]; rw [c208_, pb_r]; rw [c281_]; try (congr 1; omega)), (by omega), (by omega)⟩)
        exfalso; omega
      subst hA_
      subst hz_
      refine ga_istore (lv2 := [(4, .int (Int32.ofInt 1)), (3, .int (Int32.ofInt (at_ + F 358 a.toNat))), (0, .ref 344), (1, .int (Int32.ofInt a)), (2, .int (Int32.ofInt at_))]) hm_179 rfl (Nat.le_of_ble_eq_true rfl) rfl ?_
      refine ga_iload (z := 1) hm_179 rfl rfl ?_
      refine fl_if_eq hm_179 rfl ⟨by omega, by omega⟩ (fun h => absurd h (by omega)) (fun _ => ?_)
      have hsz0 := (kw_iff (w := [110, 111, 116]) hkt hgK hp.1 hp.2 (by decide) (by decide)).mp c13_.2
      refine ga_aload_n (v := .ref 344) hm_179 rfl rfl rfl ?_
      refine ga_dup hm_179 rfl rfl ?_
      refine ga_geti (z := F 344 5) hm_179 rfl sc_344 rfl (rfl) ?_
      refine fl_iconst hm_179 rfl ?_
      refine ga_iadd (a := F 344 5) (b := 1) (c := F 344 5 + 1) hm_179 rfl (by omega) ?_
      refine ga_puti (z := F 344 5 + 1) hm_179 rfl sc_344 rfl rfl ?_
      refine ga_aload_n (v := .ref 344) hm_179 rfl rfl rfl ?_
      refine fl_bipush hm_179 rfl rfl ?_
      obtain ⟨F326_, q327_⟩ : ∃ F9_, F9_ = (fl_u F 344 5 (F 344 5 + 1)) := ⟨_, rfl⟩
      rw [← q327_]
      have g328_ : gi F326_ := by rw [q327_]; exact gi_u (hgi) rfl (by omega) (by omega)
      have g329_ : fs [(344, 344, 5, 5), (344, 344, 9, 10), (358, 358, 0, 100000), (360, 363, 0, 100000)] F F326_ := by rw [q327_]; exact fs_u (fs_refl) rfl
      have rk330_ : rk K F326_ := by rw [q327_]; exact rk_u (hrk) (by omega) (by omega)
      have e331_ : F326_ 344 5 = F 344 5 + 1 := by rw [q327_]; exact fl_u_eq
      refine gVv (nY := 2) (F := 2) (L := 41) (As := [.int (Int32.ofInt 40)]) (b := 344) (rest := []) hm_179 rfl hm_51 rfl rfl (fl_ob sc_344) rfl rfl rfl rfl rfl (by omega) (by omega) (mc_51 hG F326_ X g328_ (K) (40) (0) hgK rk330_ hkt (by omega) (by omega) (by omega)) (fun _ _ h => False.elim h) ?_
      have e333_ : F326_ 344 10 = F 344 10 := by rw [q327_]; exact fl_u_ne (by omega)
      have b334_ : 0 ≤ F 344 10 ∧ F 344 10 ≤ 600 := gi_g hgi rfl
      have e335_ : F326_ 344 9 = F 344 9 := by rw [q327_]; exact fl_u_ne (by omega)
      rintro A1_ (⟨F339_, hA_, g340_, s341_, c336_, c337_, c338_⟩ | ⟨F345_, hA_, g346_, s347_, c342_, c343_, c344_⟩)
      ·
        subst hA_
        have g348_ : fs [(344, 344, 5, 5), (344, 344, 9, 10), (358, 358, 0, 100000), (360, 363, 0, 100000)] F F339_ := fs_tr g329_ s341_ rfl
        have rk349_ : rk K F339_ := rk_fs rk330_ s341_ (fun r k h => (fs_n (by omega) (fs_n (by omega) rfl))) (fs_n (by omega) (fs_n (by omega) rfl))
        try simp only [e331_, e333_, e335_] at c337_
        have c337_s := c337_.1 (by omega)
        clear c337_
        refine ga_aload_n (v := .ref 344) hm_179 rfl rfl rfl ?_
        refine gIi (nY := 1) (F := 0) (L := 0) (As := []) (b := 344) (rest := []) hm_179 rfl hm_59 rfl rfl (fl_ob sc_344) rfl rfl rfl rfl rfl (by omega) (by omega) ?_
        intro f350_ l351_ h352_ h353_
        show fl_R xi_ms 59 f350_ l351_ 0 [(0, .ref 344)] [] _ _
        refine ga_aload_n (v := .ref 344) hm_59 rfl rfl rfl ?_
        have b354_ : 0 ≤ F339_ 344 9 ∧ F339_ 344 9 ≤ 5 := gi_g g340_ rfl
        refine ga_geti (z := F339_ 344 9) hm_59 rfl sc_344 rfl (rfl) ?_
        refine fl_if_le (a := F339_ 344 9) hm_59 rfl ⟨by omega, by omega⟩ (fun h355_ => ?_) (fun h356_ => ?_)
        · exfalso; omega
        refine fl_iconst hm_59 rfl ?_
        refine fl_goto hm_59 rfl ?_
        refine gr_i hm_59 rfl rfl (ga_nb (by omega)) ?_
        clear h352_ h353_ f350_ l351_
        refine fl_if_eq hm_179 rfl ⟨by omega, by omega⟩ (fun h => absurd h (by omega)) (fun _ => ?_)
        refine gr_v hm_179 rfl rfl ?_
        have b357_ : 0 ≤ F339_ 344 10 ∧ F339_ 344 10 ≤ 600 := gi_g g340_ rfl
        have b358_ : 0 ≤ F339_ 344 5 ∧ F339_ 344 5 ≤ 600 := gi_g g340_ rfl
        exact Or.inl ⟨F339_, rfl, g340_, g348_, (by omega), (⟨by intro h0_; have hs_ := c337_s; rw [sp_lit, if_pos c13_.2, (show sk K (F 344 5) = F 344 5 + 1 by rw [sk, if_pos (by omega)])]; rw [hs_]; try (show Sum.inl _ = _); try (congr 2 <;> omega), fun h0_ => by exfalso; omega⟩), (by omega)⟩
      subst hA_
      have g359_ : fs [(344, 344, 5, 5), (344, 344, 9, 10), (358, 358, 0, 100000), (360, 363, 0, 100000)] F F345_ := fs_tr g329_ s347_ rfl
      have rk360_ : rk K F345_ := rk_fs rk330_ s347_ (fun r k h => (fs_n (by omega) (fs_n (by omega) rfl))) (fs_n (by omega) (fs_n (by omega) rfl))
      try simp only [e335_] at c342_
      try simp only [e331_] at c343_
      refine ga_aload_n (v := .ref 344) hm_179 rfl rfl rfl ?_
      refine gIi (nY := 1) (F := 0) (L := 0) (As := []) (b := 344) (rest := []) hm_179 rfl hm_59 rfl rfl (fl_ob sc_344) rfl rfl rfl rfl rfl (by omega) (by omega) ?_
      intro f361_ l362_ h363_ h364_
      show fl_R xi_ms 59 f361_ l362_ 0 [(0, .ref 344)] [] _ _
      refine ga_aload_n (v := .ref 344) hm_59 rfl rfl rfl ?_
      have b365_ : 0 ≤ F345_ 344 9 ∧ F345_ 344 9 ≤ 5 := gi_g g346_ rfl
      refine ga_geti (z := F345_ 344 9) hm_59 rfl sc_344 rfl (rfl) ?_
      refine fl_if_le (a := F345_ 344 9) hm_59 rfl ⟨by omega, by omega⟩ (fun h366_ => ?_) (fun h367_ => ?_)
      ·
        refine fl_iconst hm_59 rfl ?_
        refine gr_i hm_59 rfl rfl (ga_nb (by omega)) ?_
        clear h363_ h364_ f361_ l362_
        refine fl_if_eq hm_179 rfl ⟨by omega, by omega⟩ (fun _ => ?_) (fun h => absurd (by omega) h)
        refine ga_aload_n (v := .ref 344) hm_179 rfl rfl rfl ?_
        refine ga_getr (b := 361) hm_179 rfl sc_344 rfl ?_
        refine ga_iload_n (z := at_ + F 358 a.toNat) hm_179 rfl rfl ?_
        refine ga_iload (z := 1) hm_179 rfl rfl ?_
        refine fl_zast (z := at_ + F 358 a.toNat) (v := 1) hm_179 rfl sc_361 (by omega) (by omega) (by omega) (ga_vb (by omega)) ?_
        refine ga_aload_n (v := .ref 344) hm_179 rfl rfl rfl ?_
        refine ga_getr (b := 360) hm_179 rfl sc_344 rfl ?_
        refine ga_iload_n (z := at_ + F 358 a.toNat) hm_179 rfl rfl ?_
        refine ga_aload_n (v := .ref 344) hm_179 rfl rfl rfl ?_
        refine fl_bipush hm_179 rfl rfl ?_
        obtain ⟨F368_, q369_⟩ : ∃ F9_, F9_ = (fl_u F345_ 361 (at_ + F 358 a.toNat).toNat 1) := ⟨_, rfl⟩
        rw [← q369_]
        have g370_ : gi F368_ := by rw [q369_]; exact gi_u (g346_) rfl (by omega) (by omega)
        have g371_ : fs [(344, 344, 5, 5), (344, 344, 9, 10), (358, 358, 0, 100000), (360, 363, 0, 100000)] F F368_ := by rw [q369_]; exact fs_u (g359_) (fs_z (fs_z (fs_z (fs_y (by omega)))))
        have rk372_ : rk K F368_ := by rw [q369_]; exact rk_u (rk360_) (by omega) (by omega)
        have e373_ : F368_ 344 5 = F345_ 344 5 := by rw [q369_]; exact fl_u_ne (by omega)
        have b374_ : 0 ≤ F345_ 344 5 ∧ F345_ 344 5 ≤ 600 := gi_g g346_ rfl
        refine gVi (nY := 4) (F := 1) (L := 21) (As := [.int (Int32.ofInt 10)]) (b := 344) (rest := [.int (Int32.ofInt (at_ + F 358 a.toNat)), .ref 360]) hm_179 rfl hm_56 rfl rfl (fl_ob sc_344) rfl rfl rfl rfl rfl (by omega) (by omega) (mc_56 hG F368_ X g370_ (K) (10) ([61]) hgK rk372_ hkt (by omega) (by omega) (by decide) (kw_10 rk372_)) (fun _ _ h => False.elim h) ?_
        have e376_ : F368_ 344 9 = F345_ 344 9 := by rw [q369_]; exact fl_u_ne (by omega)
        rintro z375_ A1_ (⟨hA_, hz_, c377_⟩ | ⟨hA_, hz_, c378_, c379_⟩)
        ·
          subst hA_
          subst hz_
          try simp only [e373_, e376_] at c377_
          refine fl_zast (z := at_ + F 358 a.toNat) (v := 0) hm_179 rfl sc_360 (by omega) (by omega) (by omega) (ga_vb (by omega)) ?_
          refine ga_aload_n (v := .ref 344) hm_179 rfl rfl rfl ?_
          refine ga_getr (b := 360) hm_179 rfl sc_344 rfl ?_
          refine ga_iload_n (z := at_ + F 358 a.toNat) hm_179 rfl rfl ?_
          refine ga_zald (z := at_ + F 358 a.toNat) (w := 0) hm_179 rfl sc_360 (by omega) (by omega) (by omega) (fl_u_eq) ?_
          refine fl_if_eq hm_179 rfl ⟨by omega, by omega⟩ (fun _ => ?_) (fun h => absurd (by omega) h)
          refine ga_aload_n (v := .ref 344) hm_179 rfl rfl rfl ?_
          refine ga_iload_n (z := a) hm_179 rfl rfl ?_
          refine ga_iload_n (z := at_ + F 358 a.toNat) hm_179 rfl rfl ?_
          obtain ⟨F380_, q381_⟩ : ∃ F9_, F9_ = (fl_u F368_ 360 (at_ + F 358 a.toNat).toNat 0) := ⟨_, rfl⟩
          rw [← q381_]
          have g382_ : gi F380_ := by rw [q381_]; exact gi_u (g370_) rfl (by omega) (by omega)
          have g383_ : fs [(344, 344, 5, 5), (344, 344, 9, 10), (358, 358, 0, 100000), (360, 363, 0, 100000)] F F380_ := by rw [q381_]; exact fs_u (g371_) (fs_z (fs_z (fs_z (fs_y (by omega)))))
          have rk384_ : rk K F380_ := by rw [q381_]; exact rk_u (rk372_) (by omega) (by omega)
          have e385_ : F380_ 344 5 = F345_ 344 5 := by rw [q381_]; exact (fl_u_ne (by omega)).trans (e373_)
          refine gVv (nY := 7) (F := 4) (L := 91) (As := [.int (Int32.ofInt a), .int (Int32.ofInt (at_ + F 358 a.toNat))]) (b := 344) (rest := []) hm_179 rfl hm_174 rfl rfl (fl_ob sc_344) rfl rfl rfl rfl rfl (by omega) (by omega) (mc_174 hG F380_ X g382_ (K) (a) (at_ + F 358 a.toNat) (k) (l) (tl) (pl) (ps) hgK rk384_ hkt (by omega) ((by rw [q381_]; exact (trm_u (by rw [q369_]; exact (trm_u (trm_fs (by rw [q327_]; exact (trm_u ht (by omega))) s347_ (fun r j hj => (fs_n (by omega) (fs_n (by omega) rfl)))) (by omega))) (by omega)))) (hlt) (by omega) ((by rw [q381_]; exact (rpn_u (by rw [q369_]; exact (rpn_u (rpn_fs (by rw [q327_]; exact (rpn_u hpl (by omega) (by omega))) s347_ (fun _ => (fs_n (by omega) (fs_n (by omega) rfl))) (fs_n (by omega) (fs_n (by omega) rfl))) (by omega) (by omega))) (by omega) (by omega)))) (⟨(by rw [q381_]; exact (rprd_u (by rw [q369_]; exact (rprd_u (rprd_fs (by rw [q327_]; exact (rprd_u hps.1 (by omega))) s347_ (fun r j hj => (fs_n (by omega) (fs_n (by omega) rfl)))) (by omega))) (by omega))), hps.2⟩) (by omega)) (fun _ _ h => False.elim h) ?_
          have e387_ : F368_ 344 10 = F345_ 344 10 := by rw [q369_]; exact fl_u_ne (by omega)
          have e388_ : F380_ 344 10 = F345_ 344 10 := by rw [q381_]; exact (fl_u_ne (by omega)).trans (e387_)
          have b389_ : 0 ≤ F345_ 344 10 ∧ F345_ 344 10 ≤ 600 := gi_g g346_ rfl
          have e390_ : F380_ 344 9 = F345_ 344 9 := by rw [q381_]; exact (fl_u_ne (by omega)).trans (e376_)
          rintro A1_ (⟨F394_, hA_, g395_, s396_, c391_, c392_, c393_⟩ | ⟨F400_, hA_, g401_, s402_, c397_, c398_, c399_⟩)
          ·
            subst hA_
            have g403_ : fs [(344, 344, 5, 5), (344, 344, 9, 10), (358, 358, 0, 100000), (360, 363, 0, 100000)] F F394_ := fs_tr g383_ s396_ rfl
            have rk404_ : rk K F394_ := rk_fs rk384_ s396_ (fun r k h => (fs_n (by omega) (fs_n (by omega) (fs_n (by omega) rfl)))) (fs_n (by omega) (fs_n (by omega) (fs_n (by omega) rfl)))
            try simp only [e385_, e388_, e390_] at c392_
            have c392_s := c392_.1 (by omega)
            clear c392_
            refine ga_iload (z := 1) hm_179 rfl rfl ?_
            refine fl_if_eq hm_179 rfl ⟨by omega, by omega⟩ (fun h => absurd h (by omega)) (fun _ => ?_)
            refine ga_aload_n (v := .ref 344) hm_179 rfl rfl rfl ?_
            refine fl_bipush hm_179 rfl rfl ?_
            have b405_ : 0 ≤ F394_ 344 5 ∧ F394_ 344 5 ≤ 600 := gi_g g395_ rfl
            refine gVv (nY := 2) (F := 2) (L := 41) (As := [.int (Int32.ofInt 41)]) (b := 344) (rest := []) hm_179 rfl hm_51 rfl rfl (fl_ob sc_344) rfl rfl rfl rfl rfl (by omega) (by omega) (mc_51 hG F394_ X g395_ (K) (41) (1) hgK rk404_ hkt (by omega) (by omega) (by omega)) (fun _ _ h => False.elim h) ?_
            have b407_ : 0 ≤ F394_ 344 10 ∧ F394_ 344 10 ≤ 600 := gi_g g395_ rfl
            have b408_ : 0 ≤ F394_ 344 9 ∧ F394_ 344 9 ≤ 5 := gi_g g395_ rfl
            rintro A1_ (⟨F412_, hA_, g413_, s414_, c409_, c410_, c411_⟩ | ⟨F418_, hA_, g419_, s420_, c415_, c416_, c417_⟩)
            ·
              subst hA_
              have g421_ : fs [(344, 344, 5, 5), (344, 344, 9, 10), (358, 358, 0, 100000), (360, 363, 0, 100000)] F F412_ := fs_tr g403_ s414_ rfl
              have rk422_ : rk K F412_ := rk_fs rk404_ s414_ (fun r k h => (fs_n (by omega) (fs_n (by omega) rfl))) (fs_n (by omega) (fs_n (by omega) rfl))
              have c410_k := c410_.2 (by omega)
              clear c410_
              refine ga_aload_n (v := .ref 344) hm_179 rfl rfl rfl ?_
              refine ga_getr (b := 358) hm_179 rfl sc_344 rfl ?_
              refine ga_iload_n (z := a) hm_179 rfl rfl ?_
              refine ga_dup2 hm_179 rfl ⟨rfl, rfl⟩ ?_
              have e423_ : F326_ 358 a.toNat = F 358 a.toNat := by rw [q327_]; exact fl_u_ne (by omega)
              have e424_ : F345_ 358 a.toNat = F 358 a.toNat := (s347_ 358 a.toNat (fs_n (by omega) (fs_n (by omega) rfl))).trans (e423_)
              have e425_ : F368_ 358 a.toNat = F 358 a.toNat := by rw [q369_]; exact (fl_u_ne (by omega)).trans (e424_)
              have e426_ : F380_ 358 a.toNat = F 358 a.toNat := by rw [q381_]; exact (fl_u_ne (by omega)).trans (e425_)
              have e427_ : F394_ 358 a.toNat = F 358 a.toNat := (s396_ 358 a.toNat (fs_n (by omega) (fs_n (by omega) (fs_n (by omega) rfl)))).trans (e426_)
              have e428_ : F412_ 358 a.toNat = F 358 a.toNat := (s414_ 358 a.toNat (fs_n (by omega) (fs_n (by omega) rfl))).trans (e427_)
              refine ga_iald (z := a) (w := F 358 a.toNat) hm_179 rfl sc_358 (by omega) (by omega) (by omega) (e428_) ?_
              refine fl_iconst hm_179 rfl ?_
              refine ga_iadd (a := F 358 a.toNat) (b := 1) (c := F 358 a.toNat + 1) hm_179 rfl (by omega) ?_
              refine fl_iast (z := a) (v := F 358 a.toNat + 1) hm_179 rfl sc_358 (by omega) (by omega) (by omega) ?_
              obtain ⟨F429_, q430_⟩ : ∃ F9_, F9_ = (fl_u F412_ 358 a.toNat (F 358 a.toNat + 1)) := ⟨_, rfl⟩
              rw [← q430_]
              have g431_ : gi F429_ := by rw [q430_]; exact gi_u (g413_) rfl (by omega) (by omega)
              have g432_ : fs [(344, 344, 5, 5), (344, 344, 9, 10), (358, 358, 0, 100000), (360, 363, 0, 100000)] F F429_ := by rw [q430_]; exact fs_u (g421_) (fs_z (fs_z (fs_y (by omega))))
              have rk433_ : rk K F429_ := by rw [q430_]; exact rk_u (rk422_) (by omega) (by omega)
              refine gr_v hm_179 rfl rfl ?_
              have e434_ : F429_ 344 9 = F412_ 344 9 := by rw [q430_]; exact fl_u_ne (by omega)
              have b435_ : 0 ≤ F412_ 344 9 ∧ F412_ 344 9 ≤ 5 := gi_g g413_ rfl
              have e436_ : F429_ 344 10 = F412_ 344 10 := by rw [q430_]; exact fl_u_ne (by omega)
              have e437_ : F429_ 344 5 = F412_ 344 5 := by rw [q430_]; exact fl_u_ne (by omega)
              have b438_ : 0 ≤ F412_ 344 10 ∧ F412_ 344 10 ≤ 600 := gi_g g413_ rfl
              have b439_ : 0 ≤ F412_ 344 5 ∧ F412_ 344 5 ≤ 600 := gi_g g413_ rfl
              exact Or.inl ⟨F429_, rfl, g431_, g432_, (by omega), (⟨by intro h0_; have hs_ := c392_s; rw [sp_lit, if_pos c13_.2, (show sk K (F 344 5) = F 344 5 + 1 by rw [sk, if_pos (by omega)])]; rw [c343_, pb_r]; rw [sp_lx, if_neg (fun h8_ => c377_ ⟨by omega, h8_⟩)]; rw [hs_]; try (show Sum.inl _ = _); try (congr 2 <;> omega), fun h0_ => by exfalso; omega⟩), (by omega)⟩
            exfalso; omega
          subst hA_
          have g440_ : fs [(344, 344, 5, 5), (344, 344, 9, 10), (358, 358, 0, 100000), (360, 363, 0, 100000)] F F400_ := fs_tr g383_ s402_ rfl
          have rk441_ : rk K F400_ := rk_fs rk384_ s402_ (fun r k h => (fs_n (by omega) (fs_n (by omega) (fs_n (by omega) rfl)))) (fs_n (by omega) (fs_n (by omega) (fs_n (by omega) rfl)))
          try simp only [e390_] at c397_
          try simp only [e385_] at c398_
          refine ga_iload (z := 1) hm_179 rfl rfl ?_
          refine fl_if_eq hm_179 rfl ⟨by omega, by omega⟩ (fun h => absurd h (by omega)) (fun _ => ?_)
          refine ga_aload_n (v := .ref 344) hm_179 rfl rfl rfl ?_
          refine fl_bipush hm_179 rfl rfl ?_
          have b442_ : 0 ≤ F400_ 344 5 ∧ F400_ 344 5 ≤ 600 := gi_g g401_ rfl
          refine gVv (nY := 2) (F := 2) (L := 41) (As := [.int (Int32.ofInt 41)]) (b := 344) (rest := []) hm_179 rfl hm_51 rfl rfl (fl_ob sc_344) rfl rfl rfl rfl rfl (by omega) (by omega) (mc_51 hG F400_ X g401_ (K) (41) (1) hgK rk441_ hkt (by omega) (by omega) (by omega)) (fun _ _ h => False.elim h) ?_
          have b444_ : 0 ≤ F400_ 344 10 ∧ F400_ 344 10 ≤ 600 := gi_g g401_ rfl
          have b445_ : 0 ≤ F400_ 344 9 ∧ F400_ 344 9 ≤ 5 := gi_g g401_ rfl
          rintro A1_ (⟨F449_, hA_, g450_, s451_, c446_, c447_, c448_⟩ | ⟨F455_, hA_, g456_, s457_, c452_, c453_, c454_⟩)
          ·
            subst hA_
            have g458_ : fs [(344, 344, 5, 5), (344, 344, 9, 10), (358, 358, 0, 100000), (360, 363, 0, 100000)] F F449_ := fs_tr g440_ s451_ rfl
            have rk459_ : rk K F449_ := rk_fs rk441_ s451_ (fun r k h => (fs_n (by omega) (fs_n (by omega) rfl))) (fs_n (by omega) (fs_n (by omega) rfl))
            have c447_s := c447_.1 (by omega)
            clear c447_
            refine ga_aload_n (v := .ref 344) hm_179 rfl rfl rfl ?_
            refine ga_getr (b := 358) hm_179 rfl sc_344 rfl ?_
            refine ga_iload_n (z := a) hm_179 rfl rfl ?_
            refine ga_dup2 hm_179 rfl ⟨rfl, rfl⟩ ?_
            have e460_ : F326_ 358 a.toNat = F 358 a.toNat := by rw [q327_]; exact fl_u_ne (by omega)
            have e461_ : F345_ 358 a.toNat = F 358 a.toNat := (s347_ 358 a.toNat (fs_n (by omega) (fs_n (by omega) rfl))).trans (e460_)
            have e462_ : F368_ 358 a.toNat = F 358 a.toNat := by rw [q369_]; exact (fl_u_ne (by omega)).trans (e461_)
            have e463_ : F380_ 358 a.toNat = F 358 a.toNat := by rw [q381_]; exact (fl_u_ne (by omega)).trans (e462_)
            have e464_ : F400_ 358 a.toNat = F 358 a.toNat := (s402_ 358 a.toNat (fs_n (by omega) (fs_n (by omega) (fs_n (by omega) rfl)))).trans (e463_)
            have e465_ : F449_ 358 a.toNat = F 358 a.toNat := (s451_ 358 a.toNat (fs_n (by omega) (fs_n (by omega) rfl))).trans (e464_)
            refine ga_iald (z := a) (w := F 358 a.toNat) hm_179 rfl sc_358 (by omega) (by omega) (by omega) (e465_) ?_
            refine fl_iconst hm_179 rfl ?_
            refine ga_iadd (a := F 358 a.toNat) (b := 1) (c := F 358 a.toNat + 1) hm_179 rfl (by omega) ?_
            refine fl_iast (z := a) (v := F 358 a.toNat + 1) hm_179 rfl sc_358 (by omega) (by omega) (by omega) ?_
            obtain ⟨F466_, q467_⟩ : ∃ F9_, F9_ = (fl_u F449_ 358 a.toNat (F 358 a.toNat + 1)) := ⟨_, rfl⟩
            rw [← q467_]
            have g468_ : gi F466_ := by rw [q467_]; exact gi_u (g450_) rfl (by omega) (by omega)
            have g469_ : fs [(344, 344, 5, 5), (344, 344, 9, 10), (358, 358, 0, 100000), (360, 363, 0, 100000)] F F466_ := by rw [q467_]; exact fs_u (g458_) (fs_z (fs_z (fs_y (by omega))))
            have rk470_ : rk K F466_ := by rw [q467_]; exact rk_u (rk459_) (by omega) (by omega)
            refine gr_v hm_179 rfl rfl ?_
            have e471_ : F466_ 344 9 = F449_ 344 9 := by rw [q467_]; exact fl_u_ne (by omega)
            have b472_ : 0 ≤ F449_ 344 9 ∧ F449_ 344 9 ≤ 5 := gi_g g450_ rfl
            have e473_ : F466_ 344 10 = F449_ 344 10 := by rw [q467_]; exact fl_u_ne (by omega)
            have e474_ : F466_ 344 5 = F449_ 344 5 := by rw [q467_]; exact fl_u_ne (by omega)
            have b475_ : 0 ≤ F449_ 344 10 ∧ F449_ 344 10 ≤ 600 := gi_g g450_ rfl
            have b476_ : 0 ≤ F449_ 344 5 ∧ F449_ 344 5 ≤ 600 := gi_g g450_ rfl
            exact Or.inl ⟨F466_, rfl, g468_, g469_, (by omega), (⟨by intro h0_; have hs_ := c447_s; rw [sp_lit, if_pos c13_.2, (show sk K (F 344 5) = F 344 5 + 1 by rw [sk, if_pos (by omega)])]; rw [c343_, pb_r]; rw [sp_lx, if_neg (fun h8_ => c377_ ⟨by omega, h8_⟩)]; rw [c398_]; rw [pb_r]; rw [hs_]; try (show Sum.inl _ = _); try (congr 2 <;> omega), fun h0_ => by exfalso; omega⟩), (by omega)⟩
          subst hA_
          have g477_ : fs [(344, 344, 5, 5), (344, 344, 9, 10), (358, 358, 0, 100000), (360, 363, 0, 100000)] F F455_ := fs_tr g440_ s457_ rfl
          have rk478_ : rk K F455_ := rk_fs rk441_ s457_ (fun r k h => (fs_n (by omega) (fs_n (by omega) rfl))) (fs_n (by omega) (fs_n (by omega) rfl))
          refine ga_aload_n (v := .ref 344) hm_179 rfl rfl rfl ?_
          refine ga_getr (b := 358) hm_179 rfl sc_344 rfl ?_
          refine ga_iload_n (z := a) hm_179 rfl rfl ?_
          refine ga_dup2 hm_179 rfl ⟨rfl, rfl⟩ ?_
          have e479_ : F326_ 358 a.toNat = F 358 a.toNat := by rw [q327_]; exact fl_u_ne (by omega)
          have e480_ : F345_ 358 a.toNat = F 358 a.toNat := (s347_ 358 a.toNat (fs_n (by omega) (fs_n (by omega) rfl))).trans (e479_)
          have e481_ : F368_ 358 a.toNat = F 358 a.toNat := by rw [q369_]; exact (fl_u_ne (by omega)).trans (e480_)
          have e482_ : F380_ 358 a.toNat = F 358 a.toNat := by rw [q381_]; exact (fl_u_ne (by omega)).trans (e481_)
          have e483_ : F400_ 358 a.toNat = F 358 a.toNat := (s402_ 358 a.toNat (fs_n (by omega) (fs_n (by omega) (fs_n (by omega) rfl)))).trans (e482_)
          have e484_ : F455_ 358 a.toNat = F 358 a.toNat := (s457_ 358 a.toNat (fs_n (by omega) (fs_n (by omega) rfl))).trans (e483_)
          refine ga_iald (z := a) (w := F 358 a.toNat) hm_179 rfl sc_358 (by omega) (by omega) (by omega) (e484_) ?_
          refine fl_iconst hm_179 rfl ?_
          refine ga_iadd (a := F 358 a.toNat) (b := 1) (c := F 358 a.toNat + 1) hm_179 rfl (by omega) ?_
          refine fl_iast (z := a) (v := F 358 a.toNat + 1) hm_179 rfl sc_358 (by omega) (by omega) (by omega) ?_
          obtain ⟨F485_, q486_⟩ : ∃ F9_, F9_ = (fl_u F455_ 358 a.toNat (F 358 a.toNat + 1)) := ⟨_, rfl⟩
          rw [← q486_]
          have g487_ : gi F485_ := by rw [q486_]; exact gi_u (g456_) rfl (by omega) (by omega)
          have g488_ : fs [(344, 344, 5, 5), (344, 344, 9, 10), (358, 358, 0, 100000), (360, 363, 0, 100000)] F F485_ := by rw [q486_]; exact fs_u (g477_) (fs_z (fs_z (fs_y (by omega))))
          have rk489_ : rk K F485_ := by rw [q486_]; exact rk_u (rk478_) (by omega) (by omega)
          refine gr_v hm_179 rfl rfl ?_
          have e490_ : F485_ 344 9 = F455_ 344 9 := by rw [q486_]; exact fl_u_ne (by omega)
          have b491_ : 0 ≤ F455_ 344 9 ∧ F455_ 344 9 ≤ 5 := gi_g g456_ rfl
          have e492_ : F485_ 344 10 = F455_ 344 10 := by rw [q486_]; exact fl_u_ne (by omega)
          have e493_ : F485_ 344 5 = F455_ 344 5 := by rw [q486_]; exact fl_u_ne (by omega)
          have b494_ : 0 ≤ F455_ 344 5 ∧ F455_ 344 5 ≤ 600 := gi_g g456_ rfl
          have e495_ : F485_ 358 a.toNat = F 358 a.toNat + 1 := by rw [q486_]; exact fl_u_eq
          exact Or.inr (⟨F485_, rfl, g487_, g488_, (by omega), (by rw [sp_lit, if_pos c13_.2, (show sk K (F 344 5) = F 344 5 + 1 by rw [sk, if_pos (by omega)])]; rw [c343_, pb_r]; rw [sp_lx, if_neg (fun h8_ => c377_ ⟨by omega, h8_⟩)]; rw [c398_]; rw [pb_r]; rw [c453_]; try (congr 1; omega)), (by omega), (by omega)⟩)
        subst hA_
        subst hz_
        try simp only [e373_, e376_] at c378_
        try simp only [e373_] at c379_
        refine fl_zast (z := at_ + F 358 a.toNat) (v := 1) hm_179 rfl sc_360 (by omega) (by omega) (by omega) (ga_vb (by omega)) ?_
        refine ga_aload_n (v := .ref 344) hm_179 rfl rfl rfl ?_
        refine ga_getr (b := 360) hm_179 rfl sc_344 rfl ?_
        refine ga_iload_n (z := at_ + F 358 a.toNat) hm_179 rfl rfl ?_
        refine ga_zald (z := at_ + F 358 a.toNat) (w := 1) hm_179 rfl sc_360 (by omega) (by omega) (by omega) (fl_u_eq) ?_
        refine fl_if_eq hm_179 rfl ⟨by omega, by omega⟩ (fun h => absurd h (by omega)) (fun _ => ?_)
        have hszE := (kw_iff (w := [61]) hkt hgK (p := F345_ 344 5) (by omega) (by omega) (by decide) (by decide)).mp c378_.2
        refine ga_aload_n (v := .ref 344) hm_179 rfl rfl rfl ?_
        refine ga_dup hm_179 rfl rfl ?_
        refine ga_geti (z := F345_ 344 5) hm_179 rfl sc_344 rfl ((fl_u_ne (by omega)).trans (e373_)) ?_
        refine fl_iconst hm_179 rfl ?_
        refine ga_iadd (a := F345_ 344 5) (b := 1) (c := F345_ 344 5 + 1) hm_179 rfl (by omega) ?_
        refine ga_puti (z := F345_ 344 5 + 1) hm_179 rfl sc_344 rfl rfl ?_
        refine fl_iconst hm_179 rfl ?_
        refine ga_istore (lv2 := [(5, .int (Int32.ofInt 0)), (4, .int (Int32.ofInt 1)), (3, .int (Int32.ofInt (at_ + F 358 a.toNat))), (0, .ref 344), (1, .int (Int32.ofInt a)), (2, .int (Int32.ofInt at_))]) hm_179 rfl (Nat.le_of_ble_eq_true rfl) rfl ?_
        refine ga_iload (z := 0) hm_179 rfl rfl ?_
        refine fl_iconst hm_179 rfl ?_
        refine fl_icmp_ge hm_179 rfl ⟨by omega, by omega⟩ ⟨by omega, by omega⟩ (fun h => absurd h (by omega)) (fun _ => ?_)
        refine ga_aload_n (v := .ref 344) hm_179 rfl rfl rfl ?_
        refine ga_getr (b := 363) hm_179 rfl sc_344 rfl ?_
        refine fl_iconst hm_179 rfl ?_
        refine ga_iload_n (z := at_ + F 358 a.toNat) hm_179 rfl rfl ?_
        refine ga_imul (a := 2) (b := at_ + F 358 a.toNat) (c := 2 * at_ + 2 * (F 358 a.toNat)) hm_179 rfl (by omega) ?_
        refine ga_iload (z := 0) hm_179 rfl rfl ?_
        refine ga_iadd (a := 2 * at_ + 2 * (F 358 a.toNat)) (b := 0) (c := 2 * at_ + 2 * (F 358 a.toNat)) hm_179 rfl (by omega) ?_
        refine ga_aload_n (v := .ref 344) hm_179 rfl rfl rfl ?_
        refine ga_iload_n (z := a) hm_179 rfl rfl ?_
        refine fl_iconst hm_179 rfl ?_
        obtain ⟨F496_, q497_⟩ : ∃ F9_, F9_ = (fl_u (fl_u F368_ 360 (at_ + F 358 a.toNat).toNat 1) 344 5 (F345_ 344 5 + 1)) := ⟨_, rfl⟩
        rw [← q497_]
        have g498_ : gi F496_ := by rw [q497_]; exact gi_u (gi_u (g370_) rfl (by omega) (by omega)) rfl (by omega) (by omega)
        have g499_ : fs [(344, 344, 5, 5), (344, 344, 9, 10), (358, 358, 0, 100000), (360, 363, 0, 100000)] F F496_ := by rw [q497_]; exact fs_u (fs_u (g371_) (fs_z (fs_z (fs_z (fs_y (by omega)))))) rfl
        have rk500_ : rk K F496_ := by rw [q497_]; exact rk_u (rk_u (rk372_) (by omega) (by omega)) (by omega) (by omega)
        have e501_ : F496_ 344 5 = F345_ 344 5 + 1 := by rw [q497_]; exact fl_u_eq
        refine gVi (nY := 6) (F := 3) (L := 66) (As := [.int (Int32.ofInt a), .int (Int32.ofInt (-1))]) (b := 344) (rest := [.int (Int32.ofInt (2 * at_ + 2 * (F 358 a.toNat))), .ref 363]) hm_179 rfl hm_185 rfl rfl (fl_ob sc_344) rfl rfl rfl rfl rfl (by omega) (by omega) (mc_185 hG F496_ X g498_ (K) (a) (-1) (k) (-1) (l) (tl) hgK rk500_ hkt (by omega) ((by rw [q497_]; exact (trm_u (trm_u (by rw [q369_]; exact (trm_u (trm_fs (by rw [q327_]; exact (trm_u ht (by omega))) s347_ (fun r j hj => (fs_n (by omega) (fs_n (by omega) rfl)))) (by omega))) (by omega)) (by omega)))) (hlt) (Or.inl ⟨by omega, by omega, rfl⟩) (by omega)) (fun _ _ h => False.elim h) ?_
        have e503_ : F368_ 344 10 = F345_ 344 10 := by rw [q369_]; exact fl_u_ne (by omega)
        have e504_ : F496_ 344 10 = F345_ 344 10 := by rw [q497_]; exact (fl_u_ne (by omega)).trans ((fl_u_ne (by omega)).trans (e503_))
        have b505_ : 0 ≤ F345_ 344 10 ∧ F345_ 344 10 ≤ 600 := gi_g g346_ rfl
        have e506_ : F496_ 344 9 = F345_ 344 9 := by rw [q497_]; exact (fl_u_ne (by omega)).trans ((fl_u_ne (by omega)).trans (e376_))
        rintro z502_ A1_ (⟨F511_, hA_, g512_, s513_, c507_, c508_, c509_, c510_⟩ | ⟨F518_, hA_, g519_, s520_, c514_, c515_, c516_, c517_⟩)
        ·
          subst hA_
          have g521_ : fs [(344, 344, 5, 5), (344, 344, 9, 10), (358, 358, 0, 100000), (360, 363, 0, 100000)] F F511_ := fs_tr g499_ s513_ rfl
          have rk522_ : rk K F511_ := rk_fs rk500_ s513_ (fun r k h => (fs_n (by omega) (fs_n (by omega) rfl))) (fs_n (by omega) (fs_n (by omega) rfl))
          try simp only [e501_, e504_, e506_] at c508_
          have c508_s := c508_.1 (by omega)
          clear c508_
          refine fl_iast (z := 2 * at_ + 2 * (F 358 a.toNat)) (v := z502_) hm_179 rfl sc_363 (by omega) (by omega) (by omega) ?_
          refine ga_inc (a := 0) (c := 1) (lv2 := [(5, .int (Int32.ofInt 1)), (4, .int (Int32.ofInt 1)), (3, .int (Int32.ofInt (at_ + F 358 a.toNat))), (0, .ref 344), (1, .int (Int32.ofInt a)), (2, .int (Int32.ofInt at_))]) hm_179 rfl rfl (Nat.le_of_ble_eq_true rfl) (by omega) rfl ?_
          refine fl_goto hm_179 rfl ?_
          refine ga_iload (z := 1) hm_179 rfl rfl ?_
          refine fl_iconst hm_179 rfl ?_
          refine fl_icmp_ge hm_179 rfl ⟨by omega, by omega⟩ ⟨by omega, by omega⟩ (fun h => absurd h (by omega)) (fun _ => ?_)
          refine ga_aload_n (v := .ref 344) hm_179 rfl rfl rfl ?_
          refine ga_getr (b := 363) hm_179 rfl sc_344 rfl ?_
          refine fl_iconst hm_179 rfl ?_
          refine ga_iload_n (z := at_ + F 358 a.toNat) hm_179 rfl rfl ?_
          refine ga_imul (a := 2) (b := at_ + F 358 a.toNat) (c := 2 * at_ + 2 * (F 358 a.toNat)) hm_179 rfl (by omega) ?_
          refine ga_iload (z := 1) hm_179 rfl rfl ?_
          refine ga_iadd (a := 2 * at_ + 2 * (F 358 a.toNat)) (b := 1) (c := 2 * at_ + 2 * (F 358 a.toNat) + 1) hm_179 rfl (by omega) ?_
          refine ga_aload_n (v := .ref 344) hm_179 rfl rfl rfl ?_
          refine ga_iload_n (z := a) hm_179 rfl rfl ?_
          refine fl_iconst hm_179 rfl ?_
          obtain ⟨F523_, q524_⟩ : ∃ F9_, F9_ = (fl_u F511_ 363 (2 * at_ + 2 * (F 358 a.toNat)).toNat z502_) := ⟨_, rfl⟩
          rw [← q524_]
          have g525_ : gi F523_ := by rw [q524_]; exact gi_u (g512_) rfl (by omega) (by omega)
          have g526_ : fs [(344, 344, 5, 5), (344, 344, 9, 10), (358, 358, 0, 100000), (360, 363, 0, 100000)] F F523_ := by rw [q524_]; exact fs_u (g521_) (fs_z (fs_z (fs_z (fs_y (by omega)))))
          have rk527_ : rk K F523_ := by rw [q524_]; exact rk_u (rk522_) (by omega) (by omega)
          have e528_ : F523_ 344 5 = F511_ 344 5 := by rw [q524_]; exact fl_u_ne (by omega)
          have b529_ : 0 ≤ F511_ 344 5 ∧ F511_ 344 5 ≤ 600 := gi_g g512_ rfl
          refine gVi (nY := 6) (F := 3) (L := 66) (As := [.int (Int32.ofInt a), .int (Int32.ofInt (-1))]) (b := 344) (rest := [.int (Int32.ofInt (2 * at_ + 2 * (F 358 a.toNat) + 1)), .ref 363]) hm_179 rfl hm_185 rfl rfl (fl_ob sc_344) rfl rfl rfl rfl rfl (by omega) (by omega) (mc_185 hG F523_ X g525_ (K) (a) (-1) (k) (-1) (l) (tl) hgK rk527_ hkt (by omega) ((by rw [q524_]; exact (trm_u (trm_fs (by rw [q497_]; exact (trm_u (trm_u (by rw [q369_]; exact (trm_u (trm_fs (by rw [q327_]; exact (trm_u ht (by omega))) s347_ (fun r j hj => (fs_n (by omega) (fs_n (by omega) rfl)))) (by omega))) (by omega)) (by omega))) s513_ (fun r j hj => (fs_n (by omega) (fs_n (by omega) rfl)))) (by omega)))) (hlt) (Or.inl ⟨by omega, by omega, rfl⟩) (by omega)) (fun _ _ h => False.elim h) ?_
          have e531_ : F523_ 344 10 = F511_ 344 10 := by rw [q524_]; exact fl_u_ne (by omega)
          have b532_ : 0 ≤ F511_ 344 10 ∧ F511_ 344 10 ≤ 600 := gi_g g512_ rfl
          have e533_ : F523_ 344 9 = F511_ 344 9 := by rw [q524_]; exact fl_u_ne (by omega)
          have b534_ : 0 ≤ F511_ 344 9 ∧ F511_ 344 9 ≤ 5 := gi_g g512_ rfl
          rintro z530_ A1_ (⟨F539_, hA_, g540_, s541_, c535_, c536_, c537_, c538_⟩ | ⟨F546_, hA_, g547_, s548_, c542_, c543_, c544_, c545_⟩)
          ·
            subst hA_
            have g549_ : fs [(344, 344, 5, 5), (344, 344, 9, 10), (358, 358, 0, 100000), (360, 363, 0, 100000)] F F539_ := fs_tr g526_ s541_ rfl
            have rk550_ : rk K F539_ := rk_fs rk527_ s541_ (fun r k h => (fs_n (by omega) (fs_n (by omega) rfl))) (fs_n (by omega) (fs_n (by omega) rfl))
            try simp only [e528_, e531_, e533_] at c536_
            have c536_k := c536_.2 (by omega)
            clear c536_
            refine fl_iast (z := 2 * at_ + 2 * (F 358 a.toNat) + 1) (v := z530_) hm_179 rfl sc_363 (by omega) (by omega) (by omega) ?_
            refine ga_inc (a := 1) (c := 2) (lv2 := [(5, .int (Int32.ofInt 2)), (4, .int (Int32.ofInt 1)), (3, .int (Int32.ofInt (at_ + F 358 a.toNat))), (0, .ref 344), (1, .int (Int32.ofInt a)), (2, .int (Int32.ofInt at_))]) hm_179 rfl rfl (Nat.le_of_ble_eq_true rfl) (by omega) rfl ?_
            refine fl_goto hm_179 rfl ?_
            refine ga_iload (z := 2) hm_179 rfl rfl ?_
            refine fl_iconst hm_179 rfl ?_
            refine fl_icmp_ge hm_179 rfl ⟨by omega, by omega⟩ ⟨by omega, by omega⟩ (fun _ => ?_) (fun h => absurd (by omega) h)
            refine ga_aload_n (v := .ref 344) hm_179 rfl rfl rfl ?_
            refine fl_bipush hm_179 rfl rfl ?_
            obtain ⟨F551_, q552_⟩ : ∃ F9_, F9_ = (fl_u F539_ 363 (2 * at_ + 2 * (F 358 a.toNat) + 1).toNat z530_) := ⟨_, rfl⟩
            rw [← q552_]
            have g553_ : gi F551_ := by rw [q552_]; exact gi_u (g540_) rfl (by omega) (by omega)
            have g554_ : fs [(344, 344, 5, 5), (344, 344, 9, 10), (358, 358, 0, 100000), (360, 363, 0, 100000)] F F551_ := by rw [q552_]; exact fs_u (g549_) (fs_z (fs_z (fs_z (fs_y (by omega)))))
            have rk555_ : rk K F551_ := by rw [q552_]; exact rk_u (rk550_) (by omega) (by omega)
            have e556_ : F551_ 344 5 = F539_ 344 5 := by rw [q552_]; exact fl_u_ne (by omega)
            have b557_ : 0 ≤ F539_ 344 5 ∧ F539_ 344 5 ≤ 600 := gi_g g540_ rfl
            refine gVv (nY := 2) (F := 2) (L := 41) (As := [.int (Int32.ofInt 41)]) (b := 344) (rest := []) hm_179 rfl hm_51 rfl rfl (fl_ob sc_344) rfl rfl rfl rfl rfl (by omega) (by omega) (mc_51 hG F551_ X g553_ (K) (41) (1) hgK rk555_ hkt (by omega) (by omega) (by omega)) (fun _ _ h => False.elim h) ?_
            have e559_ : F551_ 344 10 = F539_ 344 10 := by rw [q552_]; exact fl_u_ne (by omega)
            have b560_ : 0 ≤ F539_ 344 10 ∧ F539_ 344 10 ≤ 600 := gi_g g540_ rfl
            have e561_ : F551_ 344 9 = F539_ 344 9 := by rw [q552_]; exact fl_u_ne (by omega)
            have b562_ : 0 ≤ F539_ 344 9 ∧ F539_ 344 9 ≤ 5 := gi_g g540_ rfl
            rintro A1_ (⟨F566_, hA_, g567_, s568_, c563_, c564_, c565_⟩ | ⟨F572_, hA_, g573_, s574_, c569_, c570_, c571_⟩)
            ·
              subst hA_
              have g575_ : fs [(344, 344, 5, 5), (344, 344, 9, 10), (358, 358, 0, 100000), (360, 363, 0, 100000)] F F566_ := fs_tr g554_ s568_ rfl
              have rk576_ : rk K F566_ := rk_fs rk555_ s568_ (fun r k h => (fs_n (by omega) (fs_n (by omega) rfl))) (fs_n (by omega) (fs_n (by omega) rfl))
              try simp only [e556_, e559_, e561_] at c564_
              have c564_k := c564_.2 (by omega)
              clear c564_
              refine fl_goto hm_179 rfl ?_
              refine ga_iload (z := 1) hm_179 rfl rfl ?_
              refine fl_if_eq hm_179 rfl ⟨by omega, by omega⟩ (fun h => absurd h (by omega)) (fun _ => ?_)
              refine ga_aload_n (v := .ref 344) hm_179 rfl rfl rfl ?_
              refine fl_bipush hm_179 rfl rfl ?_
              have b577_ : 0 ≤ F566_ 344 5 ∧ F566_ 344 5 ≤ 600 := gi_g g567_ rfl
              refine gVv (nY := 2) (F := 2) (L := 41) (As := [.int (Int32.ofInt 41)]) (b := 344) (rest := []) hm_179 rfl hm_51 rfl rfl (fl_ob sc_344) rfl rfl rfl rfl rfl (by omega) (by omega) (mc_51 hG F566_ X g567_ (K) (41) (1) hgK rk576_ hkt (by omega) (by omega) (by omega)) (fun _ _ h => False.elim h) ?_
              have b579_ : 0 ≤ F566_ 344 10 ∧ F566_ 344 10 ≤ 600 := gi_g g567_ rfl
              have b580_ : 0 ≤ F566_ 344 9 ∧ F566_ 344 9 ≤ 5 := gi_g g567_ rfl
              rintro A1_ (⟨F584_, hA_, g585_, s586_, c581_, c582_, c583_⟩ | ⟨F590_, hA_, g591_, s592_, c587_, c588_, c589_⟩)
              ·
                subst hA_
                have g593_ : fs [(344, 344, 5, 5), (344, 344, 9, 10), (358, 358, 0, 100000), (360, 363, 0, 100000)] F F584_ := fs_tr g575_ s586_ rfl
                have rk594_ : rk K F584_ := rk_fs rk576_ s586_ (fun r k h => (fs_n (by omega) (fs_n (by omega) rfl))) (fs_n (by omega) (fs_n (by omega) rfl))
                have c582_k := c582_.2 (by omega)
                clear c582_
                refine ga_aload_n (v := .ref 344) hm_179 rfl rfl rfl ?_
                refine ga_getr (b := 358) hm_179 rfl sc_344 rfl ?_
                refine ga_iload_n (z := a) hm_179 rfl rfl ?_
                refine ga_dup2 hm_179 rfl ⟨rfl, rfl⟩ ?_
                have e595_ : F326_ 358 a.toNat = F 358 a.toNat := by rw [q327_]; exact fl_u_ne (by omega)
                have e596_ : F345_ 358 a.toNat = F 358 a.toNat := (s347_ 358 a.toNat (fs_n (by omega) (fs_n (by omega) rfl))).trans (e595_)
                have e597_ : F368_ 358 a.toNat = F 358 a.toNat := by rw [q369_]; exact (fl_u_ne (by omega)).trans (e596_)
                have e598_ : F496_ 358 a.toNat = F 358 a.toNat := by rw [q497_]; exact (fl_u_ne (by omega)).trans ((fl_u_ne (by omega)).trans (e597_))
                have e599_ : F511_ 358 a.toNat = F 358 a.toNat := (s513_ 358 a.toNat (fs_n (by omega) (fs_n (by omega) rfl))).trans (e598_)
                have e600_ : F523_ 358 a.toNat = F 358 a.toNat := by rw [q524_]; exact (fl_u_ne (by omega)).trans (e599_)
                have e601_ : F539_ 358 a.toNat = F 358 a.toNat := (s541_ 358 a.toNat (fs_n (by omega) (fs_n (by omega) rfl))).trans (e600_)
                have e602_ : F551_ 358 a.toNat = F 358 a.toNat := by rw [q552_]; exact (fl_u_ne (by omega)).trans (e601_)
                have e603_ : F566_ 358 a.toNat = F 358 a.toNat := (s568_ 358 a.toNat (fs_n (by omega) (fs_n (by omega) rfl))).trans (e602_)
                have e604_ : F584_ 358 a.toNat = F 358 a.toNat := (s586_ 358 a.toNat (fs_n (by omega) (fs_n (by omega) rfl))).trans (e603_)
                refine ga_iald (z := a) (w := F 358 a.toNat) hm_179 rfl sc_358 (by omega) (by omega) (by omega) (e604_) ?_
                refine fl_iconst hm_179 rfl ?_
                refine ga_iadd (a := F 358 a.toNat) (b := 1) (c := F 358 a.toNat + 1) hm_179 rfl (by omega) ?_
                refine fl_iast (z := a) (v := F 358 a.toNat + 1) hm_179 rfl sc_358 (by omega) (by omega) (by omega) ?_
                obtain ⟨F605_, q606_⟩ : ∃ F9_, F9_ = (fl_u F584_ 358 a.toNat (F 358 a.toNat + 1)) := ⟨_, rfl⟩
                rw [← q606_]
                have g607_ : gi F605_ := by rw [q606_]; exact gi_u (g585_) rfl (by omega) (by omega)
                have g608_ : fs [(344, 344, 5, 5), (344, 344, 9, 10), (358, 358, 0, 100000), (360, 363, 0, 100000)] F F605_ := by rw [q606_]; exact fs_u (g593_) (fs_z (fs_z (fs_y (by omega))))
                have rk609_ : rk K F605_ := by rw [q606_]; exact rk_u (rk594_) (by omega) (by omega)
                refine gr_v hm_179 rfl rfl ?_
                have e610_ : F605_ 344 9 = F584_ 344 9 := by rw [q606_]; exact fl_u_ne (by omega)
                have b611_ : 0 ≤ F584_ 344 9 ∧ F584_ 344 9 ≤ 5 := gi_g g585_ rfl
                have e612_ : F605_ 344 10 = F584_ 344 10 := by rw [q606_]; exact fl_u_ne (by omega)
                have e613_ : F605_ 344 5 = F584_ 344 5 := by rw [q606_]; exact fl_u_ne (by omega)
                have b614_ : 0 ≤ F584_ 344 10 ∧ F584_ 344 10 ≤ 600 := gi_g g585_ rfl
                have b615_ : 0 ≤ F584_ 344 5 ∧ F584_ 344 5 ≤ 600 := gi_g g585_ rfl
                exact Or.inl ⟨F605_, rfl, g607_, g608_, (by omega), (⟨by intro h0_; have hs_ := c508_s; rw [sp_lit, if_pos c13_.2, (show sk K (F 344 5) = F 344 5 + 1 by rw [sk, if_pos (by omega)])]; rw [c343_, pb_r]; rw [sp_lx, if_pos c378_.2, sp_eq, (show sk K (F345_ 344 5) = F345_ 344 5 + 1 by rw [sk, if_pos (by omega)])]; rw [hs_]; try (show Sum.inl _ = _); try (congr 2 <;> omega), fun h0_ => by exfalso; omega⟩), (by omega)⟩
              exfalso; omega
            exfalso; omega
          exfalso; omega
        subst hA_
        have g616_ : fs [(344, 344, 5, 5), (344, 344, 9, 10), (358, 358, 0, 100000), (360, 363, 0, 100000)] F F518_ := fs_tr g499_ s520_ rfl
        have rk617_ : rk K F518_ := rk_fs rk500_ s520_ (fun r k h => (fs_n (by omega) (fs_n (by omega) rfl))) (fs_n (by omega) (fs_n (by omega) rfl))
        try simp only [e506_] at c514_
        try simp only [e501_] at c515_
        refine fl_iast (z := 2 * at_ + 2 * (F 358 a.toNat)) (v := z502_) hm_179 rfl sc_363 (by omega) (by omega) (by omega) ?_
        refine ga_inc (a := 0) (c := 1) (lv2 := [(5, .int (Int32.ofInt 1)), (4, .int (Int32.ofInt 1)), (3, .int (Int32.ofInt (at_ + F 358 a.toNat))), (0, .ref 344), (1, .int (Int32.ofInt a)), (2, .int (Int32.ofInt at_))]) hm_179 rfl rfl (Nat.le_of_ble_eq_true rfl) (by omega) rfl ?_
        refine fl_goto hm_179 rfl ?_
        refine ga_iload (z := 1) hm_179 rfl rfl ?_
        refine fl_iconst hm_179 rfl ?_
        refine fl_icmp_ge hm_179 rfl ⟨by omega, by omega⟩ ⟨by omega, by omega⟩ (fun h => absurd h (by omega)) (fun _ => ?_)
        refine ga_aload_n (v := .ref 344) hm_179 rfl rfl rfl ?_
        refine ga_getr (b := 363) hm_179 rfl sc_344 rfl ?_
        refine fl_iconst hm_179 rfl ?_
        refine ga_iload_n (z := at_ + F 358 a.toNat) hm_179 rfl rfl ?_
        refine ga_imul (a := 2) (b := at_ + F 358 a.toNat) (c := 2 * at_ + 2 * (F 358 a.toNat)) hm_179 rfl (by omega) ?_
        refine ga_iload (z := 1) hm_179 rfl rfl ?_
        refine ga_iadd (a := 2 * at_ + 2 * (F 358 a.toNat)) (b := 1) (c := 2 * at_ + 2 * (F 358 a.toNat) + 1) hm_179 rfl (by omega) ?_
        refine ga_aload_n (v := .ref 344) hm_179 rfl rfl rfl ?_
        refine ga_iload_n (z := a) hm_179 rfl rfl ?_
        refine fl_iconst hm_179 rfl ?_
        obtain ⟨F618_, q619_⟩ : ∃ F9_, F9_ = (fl_u F518_ 363 (2 * at_ + 2 * (F 358 a.toNat)).toNat z502_) := ⟨_, rfl⟩
        rw [← q619_]
        have g620_ : gi F618_ := by rw [q619_]; exact gi_u (g519_) rfl (by omega) (by omega)
        have g621_ : fs [(344, 344, 5, 5), (344, 344, 9, 10), (358, 358, 0, 100000), (360, 363, 0, 100000)] F F618_ := by rw [q619_]; exact fs_u (g616_) (fs_z (fs_z (fs_z (fs_y (by omega)))))
        have rk622_ : rk K F618_ := by rw [q619_]; exact rk_u (rk617_) (by omega) (by omega)
        have e623_ : F618_ 344 5 = F518_ 344 5 := by rw [q619_]; exact fl_u_ne (by omega)
        have b624_ : 0 ≤ F518_ 344 5 ∧ F518_ 344 5 ≤ 600 := gi_g g519_ rfl
        refine gVi (nY := 6) (F := 3) (L := 66) (As := [.int (Int32.ofInt a), .int (Int32.ofInt (-1))]) (b := 344) (rest := [.int (Int32.ofInt (2 * at_ + 2 * (F 358 a.toNat) + 1)), .ref 363]) hm_179 rfl hm_185 rfl rfl (fl_ob sc_344) rfl rfl rfl rfl rfl (by omega) (by omega) (mc_185 hG F618_ X g620_ (K) (a) (-1) (k) (-1) (l) (tl) hgK rk622_ hkt (by omega) ((by rw [q619_]; exact (trm_u (trm_fs (by rw [q497_]; exact (trm_u (trm_u (by rw [q369_]; exact (trm_u (trm_fs (by rw [q327_]; exact (trm_u ht (by omega))) s347_ (fun r j hj => (fs_n (by omega) (fs_n (by omega) rfl)))) (by omega))) (by omega)) (by omega))) s520_ (fun r j hj => (fs_n (by omega) (fs_n (by omega) rfl)))) (by omega)))) (hlt) (Or.inl ⟨by omega, by omega, rfl⟩) (by omega)) (fun _ _ h => False.elim h) ?_
        have e626_ : F618_ 344 10 = F518_ 344 10 := by rw [q619_]; exact fl_u_ne (by omega)
        have b627_ : 0 ≤ F518_ 344 10 ∧ F518_ 344 10 ≤ 600 := gi_g g519_ rfl
        have e628_ : F618_ 344 9 = F518_ 344 9 := by rw [q619_]; exact fl_u_ne (by omega)
        have b629_ : 0 ≤ F518_ 344 9 ∧ F518_ 344 9 ≤ 5 := gi_g g519_ rfl
        rintro z625_ A1_ (⟨F634_, hA_, g635_, s636_, c630_, c631_, c632_, c633_⟩ | ⟨F641_, hA_, g642_, s643_, c637_, c638_, c639_, c640_⟩)
        ·
          subst hA_
          have g644_ : fs [(344, 344, 5, 5), (344, 344, 9, 10), (358, 358, 0, 100000), (360, 363, 0, 100000)] F F634_ := fs_tr g621_ s636_ rfl
          have rk645_ : rk K F634_ := rk_fs rk622_ s636_ (fun r k h => (fs_n (by omega) (fs_n (by omega) rfl))) (fs_n (by omega) (fs_n (by omega) rfl))
          try simp only [e623_, e626_, e628_] at c631_
          have c631_s := c631_.1 (by omega)
          clear c631_
          refine fl_iast (z := 2 * at_ + 2 * (F 358 a.toNat) + 1) (v := z625_) hm_179 rfl sc_363 (by omega) (by omega) (by omega) ?_
          refine ga_inc (a := 1) (c := 2) (lv2 := [(5, .int (Int32.ofInt 2)), (4, .int (Int32.ofInt 1)), (3, .int (Int32.ofInt (at_ + F 358 a.toNat))), (0, .ref 344), (1, .int (Int32.ofInt a)), (2, .int (Int32.ofInt at_))]) hm_179 rfl rfl (Nat.le_of_ble_eq_true rfl) (by omega) rfl ?_
          refine fl_goto hm_179 rfl ?_
          refine ga_iload (z := 2) hm_179 rfl rfl ?_
          refine fl_iconst hm_179 rfl ?_
          refine fl_icmp_ge hm_179 rfl ⟨by omega, by omega⟩ ⟨by omega, by omega⟩ (fun _ => ?_) (fun h => absurd (by omega) h)
          refine ga_aload_n (v := .ref 344) hm_179 rfl rfl rfl ?_
          refine fl_bipush hm_179 rfl rfl ?_
          obtain ⟨F646_, q647_⟩ : ∃ F9_, F9_ = (fl_u F634_ 363 (2 * at_ + 2 * (F 358 a.toNat) + 1).toNat z625_) := ⟨_, rfl⟩
          rw [← q647_]
          have g648_ : gi F646_ := by rw [q647_]; exact gi_u (g635_) rfl (by omega) (by omega)
          have g649_ : fs [(344, 344, 5, 5), (344, 344, 9, 10), (358, 358, 0, 100000), (360, 363, 0, 100000)] F F646_ := by rw [q647_]; exact fs_u (g644_) (fs_z (fs_z (fs_z (fs_y (by omega)))))
          have rk650_ : rk K F646_ := by rw [q647_]; exact rk_u (rk645_) (by omega) (by omega)
          have e651_ : F646_ 344 5 = F634_ 344 5 := by rw [q647_]; exact fl_u_ne (by omega)
          have b652_ : 0 ≤ F634_ 344 5 ∧ F634_ 344 5 ≤ 600 := gi_g g635_ rfl
          refine gVv (nY := 2) (F := 2) (L := 41) (As := [.int (Int32.ofInt 41)]) (b := 344) (rest := []) hm_179 rfl hm_51 rfl rfl (fl_ob sc_344) rfl rfl rfl rfl rfl (by omega) (by omega) (mc_51 hG F646_ X g648_ (K) (41) (1) hgK rk650_ hkt (by omega) (by omega) (by omega)) (fun _ _ h => False.elim h) ?_
          have e654_ : F646_ 344 10 = F634_ 344 10 := by rw [q647_]; exact fl_u_ne (by omega)
          have b655_ : 0 ≤ F634_ 344 10 ∧ F634_ 344 10 ≤ 600 := gi_g g635_ rfl
          have e656_ : F646_ 344 9 = F634_ 344 9 := by rw [q647_]; exact fl_u_ne (by omega)
          have b657_ : 0 ≤ F634_ 344 9 ∧ F634_ 344 9 ≤ 5 := gi_g g635_ rfl
          rintro A1_ (⟨F661_, hA_, g662_, s663_, c658_, c659_, c660_⟩ | ⟨F667_, hA_, g668_, s669_, c664_, c665_, c666_⟩)
          ·
            subst hA_
            have g670_ : fs [(344, 344, 5, 5), (344, 344, 9, 10), (358, 358, 0, 100000), (360, 363, 0, 100000)] F F661_ := fs_tr g649_ s663_ rfl
            have rk671_ : rk K F661_ := rk_fs rk650_ s663_ (fun r k h => (fs_n (by omega) (fs_n (by omega) rfl))) (fs_n (by omega) (fs_n (by omega) rfl))
            try simp only [e651_, e654_, e656_] at c659_
            have c659_k := c659_.2 (by omega)
            clear c659_
            refine fl_goto hm_179 rfl ?_
            refine ga_iload (z := 1) hm_179 rfl rfl ?_
            refine fl_if_eq hm_179 rfl ⟨by omega, by omega⟩ (fun h => absurd h (by omega)) (fun _ => ?_)
            refine ga_aload_n (v := .ref 344) hm_179 rfl rfl rfl ?_
            refine fl_bipush hm_179 rfl rfl ?_
            have b672_ : 0 ≤ F661_ 344 5 ∧ F661_ 344 5 ≤ 600 := gi_g g662_ rfl
            refine gVv (nY := 2) (F := 2) (L := 41) (As := [.int (Int32.ofInt 41)]) (b := 344) (rest := []) hm_179 rfl hm_51 rfl rfl (fl_ob sc_344) rfl rfl rfl rfl rfl (by omega) (by omega) (mc_51 hG F661_ X g662_ (K) (41) (1) hgK rk671_ hkt (by omega) (by omega) (by omega)) (fun _ _ h => False.elim h) ?_
            have b674_ : 0 ≤ F661_ 344 10 ∧ F661_ 344 10 ≤ 600 := gi_g g662_ rfl
            have b675_ : 0 ≤ F661_ 344 9 ∧ F661_ 344 9 ≤ 5 := gi_g g662_ rfl
            rintro A1_ (⟨F679_, hA_, g680_, s681_, c676_, c677_, c678_⟩ | ⟨F685_, hA_, g686_, s687_, c682_, c683_, c684_⟩)
            ·
              subst hA_
              have g688_ : fs [(344, 344, 5, 5), (344, 344, 9, 10), (358, 358, 0, 100000), (360, 363, 0, 100000)] F F679_ := fs_tr g670_ s681_ rfl
              have rk689_ : rk K F679_ := rk_fs rk671_ s681_ (fun r k h => (fs_n (by omega) (fs_n (by omega) rfl))) (fs_n (by omega) (fs_n (by omega) rfl))
              have c677_k := c677_.2 (by omega)
              clear c677_
              refine ga_aload_n (v := .ref 344) hm_179 rfl rfl rfl ?_
              refine ga_getr (b := 358) hm_179 rfl sc_344 rfl ?_
              refine ga_iload_n (z := a) hm_179 rfl rfl ?_
              refine ga_dup2 hm_179 rfl ⟨rfl, rfl⟩ ?_
              have e690_ : F326_ 358 a.toNat = F 358 a.toNat := by rw [q327_]; exact fl_u_ne (by omega)
              have e691_ : F345_ 358 a.toNat = F 358 a.toNat := (s347_ 358 a.toNat (fs_n (by omega) (fs_n (by omega) rfl))).trans (e690_)
              have e692_ : F368_ 358 a.toNat = F 358 a.toNat := by rw [q369_]; exact (fl_u_ne (by omega)).trans (e691_)
              have e693_ : F496_ 358 a.toNat = F 358 a.toNat := by rw [q497_]; exact (fl_u_ne (by omega)).trans ((fl_u_ne (by omega)).trans (e692_))
              have e694_ : F518_ 358 a.toNat = F 358 a.toNat := (s520_ 358 a.toNat (fs_n (by omega) (fs_n (by omega) rfl))).trans (e693_)
              have e695_ : F618_ 358 a.toNat = F 358 a.toNat := by rw [q619_]; exact (fl_u_ne (by omega)).trans (e694_)
              have e696_ : F634_ 358 a.toNat = F 358 a.toNat := (s636_ 358 a.toNat (fs_n (by omega) (fs_n (by omega) rfl))).trans (e695_)
              have e697_ : F646_ 358 a.toNat = F 358 a.toNat := by rw [q647_]; exact (fl_u_ne (by omega)).trans (e696_)
              have e698_ : F661_ 358 a.toNat = F 358 a.toNat := (s663_ 358 a.toNat (fs_n (by omega) (fs_n (by omega) rfl))).trans (e697_)
              have e699_ : F679_ 358 a.toNat = F 358 a.toNat := (s681_ 358 a.toNat (fs_n (by omega) (fs_n (by omega) rfl))).trans (e698_)
              refine ga_iald (z := a) (w := F 358 a.toNat) hm_179 rfl sc_358 (by omega) (by omega) (by omega) (e699_) ?_
              refine fl_iconst hm_179 rfl ?_
              refine ga_iadd (a := F 358 a.toNat) (b := 1) (c := F 358 a.toNat + 1) hm_179 rfl (by omega) ?_
              refine fl_iast (z := a) (v := F 358 a.toNat + 1) hm_179 rfl sc_358 (by omega) (by omega) (by omega) ?_
              obtain ⟨F700_, q701_⟩ : ∃ F9_, F9_ = (fl_u F679_ 358 a.toNat (F 358 a.toNat + 1)) := ⟨_, rfl⟩
              rw [← q701_]
              have g702_ : gi F700_ := by rw [q701_]; exact gi_u (g680_) rfl (by omega) (by omega)
              have g703_ : fs [(344, 344, 5, 5), (344, 344, 9, 10), (358, 358, 0, 100000), (360, 363, 0, 100000)] F F700_ := by rw [q701_]; exact fs_u (g688_) (fs_z (fs_z (fs_y (by omega))))
              have rk704_ : rk K F700_ := by rw [q701_]; exact rk_u (rk689_) (by omega) (by omega)
              refine gr_v hm_179 rfl rfl ?_
              have e705_ : F700_ 344 9 = F679_ 344 9 := by rw [q701_]; exact fl_u_ne (by omega)
              have b706_ : 0 ≤ F679_ 344 9 ∧ F679_ 344 9 ≤ 5 := gi_g g680_ rfl
              have e707_ : F700_ 344 10 = F679_ 344 10 := by rw [q701_]; exact fl_u_ne (by omega)
              have e708_ : F700_ 344 5 = F679_ 344 5 := by rw [q701_]; exact fl_u_ne (by omega)
              have b709_ : 0 ≤ F679_ 344 10 ∧ F679_ 344 10 ≤ 600 := gi_g g680_ rfl
              have b710_ : 0 ≤ F679_ 344 5 ∧ F679_ 344 5 ≤ 600 := gi_g g680_ rfl
              exact Or.inl ⟨F700_, rfl, g702_, g703_, (by omega), (⟨by intro h0_; have hs_ := c631_s; rw [sp_lit, if_pos c13_.2, (show sk K (F 344 5) = F 344 5 + 1 by rw [sk, if_pos (by omega)])]; rw [c343_, pb_r]; rw [sp_lx, if_pos c378_.2, sp_eq, (show sk K (F345_ 344 5) = F345_ 344 5 + 1 by rw [sk, if_pos (by omega)])]; rw [c515_, pb_r]; rw [hs_]; try (show Sum.inl _ = _); try (congr 2 <;> omega), fun h0_ => by exfalso; omega⟩), (by omega)⟩
            exfalso; omega
          exfalso; omega
        subst hA_
        have g711_ : fs [(344, 344, 5, 5), (344, 344, 9, 10), (358, 358, 0, 100000), (360, 363, 0, 100000)] F F641_ := fs_tr g621_ s643_ rfl
        have rk712_ : rk K F641_ := rk_fs rk622_ s643_ (fun r k h => (fs_n (by omega) (fs_n (by omega) rfl))) (fs_n (by omega) (fs_n (by omega) rfl))
        try simp only [e628_] at c637_
        try simp only [e623_] at c638_
        refine fl_iast (z := 2 * at_ + 2 * (F 358 a.toNat) + 1) (v := z625_) hm_179 rfl sc_363 (by omega) (by omega) (by omega) ?_
        refine ga_inc (a := 1) (c := 2) (lv2 := [(5, .int (Int32.ofInt 2)), (4, .int (Int32.ofInt 1)), (3, .int (Int32.ofInt (at_ + F 358 a.toNat))), (0, .ref 344), (1, .int (Int32.ofInt a)), (2, .int (Int32.ofInt at_))]) hm_179 rfl rfl (Nat.le_of_ble_eq_true rfl) (by omega) rfl ?_
        refine fl_goto hm_179 rfl ?_
        refine ga_iload (z := 2) hm_179 rfl rfl ?_
        refine fl_iconst hm_179 rfl ?_
        refine fl_icmp_ge hm_179 rfl ⟨by omega, by omega⟩ ⟨by omega, by omega⟩ (fun _ => ?_) (fun h => absurd (by omega) h)
        refine ga_aload_n (v := .ref 344) hm_179 rfl rfl rfl ?_
        refine fl_bipush hm_179 rfl rfl ?_
        obtain ⟨F713_, q714_⟩ : ∃ F9_, F9_ = (fl_u F641_ 363 (2 * at_ + 2 * (F 358 a.toNat) + 1).toNat z625_) := ⟨_, rfl⟩
        rw [← q714_]
        have g715_ : gi F713_ := by rw [q714_]; exact gi_u (g642_) rfl (by omega) (by omega)
        have g716_ : fs [(344, 344, 5, 5), (344, 344, 9, 10), (358, 358, 0, 100000), (360, 363, 0, 100000)] F F713_ := by rw [q714_]; exact fs_u (g711_) (fs_z (fs_z (fs_z (fs_y (by omega)))))
        have rk717_ : rk K F713_ := by rw [q714_]; exact rk_u (rk712_) (by omega) (by omega)
        have e718_ : F713_ 344 5 = F641_ 344 5 := by rw [q714_]; exact fl_u_ne (by omega)
        have b719_ : 0 ≤ F641_ 344 5 ∧ F641_ 344 5 ≤ 600 := gi_g g642_ rfl
        refine gVv (nY := 2) (F := 2) (L := 41) (As := [.int (Int32.ofInt 41)]) (b := 344) (rest := []) hm_179 rfl hm_51 rfl rfl (fl_ob sc_344) rfl rfl rfl rfl rfl (by omega) (by omega) (mc_51 hG F713_ X g715_ (K) (41) (1) hgK rk717_ hkt (by omega) (by omega) (by omega)) (fun _ _ h => False.elim h) ?_
        have e721_ : F713_ 344 10 = F641_ 344 10 := by rw [q714_]; exact fl_u_ne (by omega)
        have b722_ : 0 ≤ F641_ 344 10 ∧ F641_ 344 10 ≤ 600 := gi_g g642_ rfl
        have e723_ : F713_ 344 9 = F641_ 344 9 := by rw [q714_]; exact fl_u_ne (by omega)
        have b724_ : 0 ≤ F641_ 344 9 ∧ F641_ 344 9 ≤ 5 := gi_g g642_ rfl
        rintro A1_ (⟨F728_, hA_, g729_, s730_, c725_, c726_, c727_⟩ | ⟨F734_, hA_, g735_, s736_, c731_, c732_, c733_⟩)
        ·
          subst hA_
          have g737_ : fs [(344, 344, 5, 5), (344, 344, 9, 10), (358, 358, 0, 100000), (360, 363, 0, 100000)] F F728_ := fs_tr g716_ s730_ rfl
          have rk738_ : rk K F728_ := rk_fs rk717_ s730_ (fun r k h => (fs_n (by omega) (fs_n (by omega) rfl))) (fs_n (by omega) (fs_n (by omega) rfl))
          try simp only [e718_, e721_, e723_] at c726_
          have c726_s := c726_.1 (by omega)
          clear c726_
          refine fl_goto hm_179 rfl ?_
          refine ga_iload (z := 1) hm_179 rfl rfl ?_
          refine fl_if_eq hm_179 rfl ⟨by omega, by omega⟩ (fun h => absurd h (by omega)) (fun _ => ?_)
          refine ga_aload_n (v := .ref 344) hm_179 rfl rfl rfl ?_
          refine fl_bipush hm_179 rfl rfl ?_
          have b739_ : 0 ≤ F728_ 344 5 ∧ F728_ 344 5 ≤ 600 := gi_g g729_ rfl
          refine gVv (nY := 2) (F := 2) (L := 41) (As := [.int (Int32.ofInt 41)]) (b := 344) (rest := []) hm_179 rfl hm_51 rfl rfl (fl_ob sc_344) rfl rfl rfl rfl rfl (by omega) (by omega) (mc_51 hG F728_ X g729_ (K) (41) (1) hgK rk738_ hkt (by omega) (by omega) (by omega)) (fun _ _ h => False.elim h) ?_
          have b741_ : 0 ≤ F728_ 344 10 ∧ F728_ 344 10 ≤ 600 := gi_g g729_ rfl
          have b742_ : 0 ≤ F728_ 344 9 ∧ F728_ 344 9 ≤ 5 := gi_g g729_ rfl
          rintro A1_ (⟨F746_, hA_, g747_, s748_, c743_, c744_, c745_⟩ | ⟨F752_, hA_, g753_, s754_, c749_, c750_, c751_⟩)
          ·
            subst hA_
            have g755_ : fs [(344, 344, 5, 5), (344, 344, 9, 10), (358, 358, 0, 100000), (360, 363, 0, 100000)] F F746_ := fs_tr g737_ s748_ rfl
            have rk756_ : rk K F746_ := rk_fs rk738_ s748_ (fun r k h => (fs_n (by omega) (fs_n (by omega) rfl))) (fs_n (by omega) (fs_n (by omega) rfl))
            have c744_k := c744_.2 (by omega)
            clear c744_
            refine ga_aload_n (v := .ref 344) hm_179 rfl rfl rfl ?_
            refine ga_getr (b := 358) hm_179 rfl sc_344 rfl ?_
            refine ga_iload_n (z := a) hm_179 rfl rfl ?_
            refine ga_dup2 hm_179 rfl ⟨rfl, rfl⟩ ?_
            have e757_ : F326_ 358 a.toNat = F 358 a.toNat := by rw [q327_]; exact fl_u_ne (by omega)
            have e758_ : F345_ 358 a.toNat = F 358 a.toNat := (s347_ 358 a.toNat (fs_n (by omega) (fs_n (by omega) rfl))).trans (e757_)
            have e759_ : F368_ 358 a.toNat = F 358 a.toNat := by rw [q369_]; exact (fl_u_ne (by omega)).trans (e758_)
            have e760_ : F496_ 358 a.toNat = F 358 a.toNat := by rw [q497_]; exact (fl_u_ne (by omega)).trans ((fl_u_ne (by omega)).trans (e759_))
            have e761_ : F518_ 358 a.toNat = F 358 a.toNat := (s520_ 358 a.toNat (fs_n (by omega) (fs_n (by omega) rfl))).trans (e760_)
            have e762_ : F618_ 358 a.toNat = F 358 a.toNat := by rw [q619_]; exact (fl_u_ne (by omega)).trans (e761_)
            have e763_ : F641_ 358 a.toNat = F 358 a.toNat := (s643_ 358 a.toNat (fs_n (by omega) (fs_n (by omega) rfl))).trans (e762_)
            have e764_ : F713_ 358 a.toNat = F 358 a.toNat := by rw [q714_]; exact (fl_u_ne (by omega)).trans (e763_)
            have e765_ : F728_ 358 a.toNat = F 358 a.toNat := (s730_ 358 a.toNat (fs_n (by omega) (fs_n (by omega) rfl))).trans (e764_)
            have e766_ : F746_ 358 a.toNat = F 358 a.toNat := (s748_ 358 a.toNat (fs_n (by omega) (fs_n (by omega) rfl))).trans (e765_)
            refine ga_iald (z := a) (w := F 358 a.toNat) hm_179 rfl sc_358 (by omega) (by omega) (by omega) (e766_) ?_
            refine fl_iconst hm_179 rfl ?_
            refine ga_iadd (a := F 358 a.toNat) (b := 1) (c := F 358 a.toNat + 1) hm_179 rfl (by omega) ?_
            refine fl_iast (z := a) (v := F 358 a.toNat + 1) hm_179 rfl sc_358 (by omega) (by omega) (by omega) ?_
            obtain ⟨F767_, q768_⟩ : ∃ F9_, F9_ = (fl_u F746_ 358 a.toNat (F 358 a.toNat + 1)) := ⟨_, rfl⟩
            rw [← q768_]
            have g769_ : gi F767_ := by rw [q768_]; exact gi_u (g747_) rfl (by omega) (by omega)
            have g770_ : fs [(344, 344, 5, 5), (344, 344, 9, 10), (358, 358, 0, 100000), (360, 363, 0, 100000)] F F767_ := by rw [q768_]; exact fs_u (g755_) (fs_z (fs_z (fs_y (by omega))))
            have rk771_ : rk K F767_ := by rw [q768_]; exact rk_u (rk756_) (by omega) (by omega)
            refine gr_v hm_179 rfl rfl ?_
            have e772_ : F767_ 344 9 = F746_ 344 9 := by rw [q768_]; exact fl_u_ne (by omega)
            have b773_ : 0 ≤ F746_ 344 9 ∧ F746_ 344 9 ≤ 5 := gi_g g747_ rfl
            have e774_ : F767_ 344 10 = F746_ 344 10 := by rw [q768_]; exact fl_u_ne (by omega)
            have e775_ : F767_ 344 5 = F746_ 344 5 := by rw [q768_]; exact fl_u_ne (by omega)
            have b776_ : 0 ≤ F746_ 344 10 ∧ F746_ 344 10 ≤ 600 := gi_g g747_ rfl
            have b777_ : 0 ≤ F746_ 344 5 ∧ F746_ 344 5 ≤ 600 := gi_g g747_ rfl
            exact Or.inl ⟨F767_, rfl, g769_, g770_, (by omega), (⟨by intro h0_; have hs_ := c726_s; rw [sp_lit, if_pos c13_.2, (show sk K (F 344 5) = F 344 5 + 1 by rw [sk, if_pos (by omega)])]; rw [c343_, pb_r]; rw [sp_lx, if_pos c378_.2, sp_eq, (show sk K (F345_ 344 5) = F345_ 344 5 + 1 by rw [sk, if_pos (by omega)])]; rw [c515_, pb_r]; rw [c638_, pb_r]; rw [hs_]; try (show Sum.inl _ = _); try (congr 2 <;> omega), fun h0_ => by exfalso; omega⟩), (by omega)⟩
          exfalso; omega
        subst hA_
        have g778_ : fs [(344, 344, 5, 5), (344, 344, 9, 10), (358, 358, 0, 100000), (360, 363, 0, 100000)] F F734_ := fs_tr g716_ s736_ rfl
        have rk779_ : rk K F734_ := rk_fs rk717_ s736_ (fun r k h => (fs_n (by omega) (fs_n (by omega) rfl))) (fs_n (by omega) (fs_n (by omega) rfl))
        try simp only [e723_] at c731_
        try simp only [e718_] at c732_
        refine fl_goto hm_179 rfl ?_
        refine ga_iload (z := 1) hm_179 rfl rfl ?_
        refine fl_if_eq hm_179 rfl ⟨by omega, by omega⟩ (fun h => absurd h (by omega)) (fun _ => ?_)
        refine ga_aload_n (v := .ref 344) hm_179 rfl rfl rfl ?_
        refine fl_bipush hm_179 rfl rfl ?_
        have b780_ : 0 ≤ F734_ 344 5 ∧ F734_ 344 5 ≤ 600 := gi_g g735_ rfl
        refine gVv (nY := 2) (F := 2) (L := 41) (As := [.int (Int32.ofInt 41)]) (b := 344) (rest := []) hm_179 rfl hm_51 rfl rfl (fl_ob sc_344) rfl rfl rfl rfl rfl (by omega) (by omega) (mc_51 hG F734_ X g735_ (K) (41) (1) hgK rk779_ hkt (by omega) (by omega) (by omega)) (fun _ _ h => False.elim h) ?_
        have b782_ : 0 ≤ F734_ 344 10 ∧ F734_ 344 10 ≤ 600 := gi_g g735_ rfl
        have b783_ : 0 ≤ F734_ 344 9 ∧ F734_ 344 9 ≤ 5 := gi_g g735_ rfl
        rintro A1_ (⟨F787_, hA_, g788_, s789_, c784_, c785_, c786_⟩ | ⟨F793_, hA_, g794_, s795_, c790_, c791_, c792_⟩)
        ·
          subst hA_
          have g796_ : fs [(344, 344, 5, 5), (344, 344, 9, 10), (358, 358, 0, 100000), (360, 363, 0, 100000)] F F787_ := fs_tr g778_ s789_ rfl
          have rk797_ : rk K F787_ := rk_fs rk779_ s789_ (fun r k h => (fs_n (by omega) (fs_n (by omega) rfl))) (fs_n (by omega) (fs_n (by omega) rfl))
          have c785_s := c785_.1 (by omega)
          clear c785_
          refine ga_aload_n (v := .ref 344) hm_179 rfl rfl rfl ?_
          refine ga_getr (b := 358) hm_179 rfl sc_344 rfl ?_
          refine ga_iload_n (z := a) hm_179 rfl rfl ?_
          refine ga_dup2 hm_179 rfl ⟨rfl, rfl⟩ ?_
          have e798_ : F326_ 358 a.toNat = F 358 a.toNat := by rw [q327_]; exact fl_u_ne (by omega)
          have e799_ : F345_ 358 a.toNat = F 358 a.toNat := (s347_ 358 a.toNat (fs_n (by omega) (fs_n (by omega) rfl))).trans (e798_)
          have e800_ : F368_ 358 a.toNat = F 358 a.toNat := by rw [q369_]; exact (fl_u_ne (by omega)).trans (e799_)
          have e801_ : F496_ 358 a.toNat = F 358 a.toNat := by rw [q497_]; exact (fl_u_ne (by omega)).trans ((fl_u_ne (by omega)).trans (e800_))
          have e802_ : F518_ 358 a.toNat = F 358 a.toNat := (s520_ 358 a.toNat (fs_n (by omega) (fs_n (by omega) rfl))).trans (e801_)
          have e803_ : F618_ 358 a.toNat = F 358 a.toNat := by rw [q619_]; exact (fl_u_ne (by omega)).trans (e802_)
          have e804_ : F641_ 358 a.toNat = F 358 a.toNat := (s643_ 358 a.toNat (fs_n (by omega) (fs_n (by omega) rfl))).trans (e803_)
          have e805_ : F713_ 358 a.toNat = F 358 a.toNat := by rw [q714_]; exact (fl_u_ne (by omega)).trans (e804_)
          have e806_ : F734_ 358 a.toNat = F 358 a.toNat := (s736_ 358 a.toNat (fs_n (by omega) (fs_n (by omega) rfl))).trans (e805_)
          have e807_ : F787_ 358 a.toNat = F 358 a.toNat := (s789_ 358 a.toNat (fs_n (by omega) (fs_n (by omega) rfl))).trans (e806_)
          refine ga_iald (z := a) (w := F 358 a.toNat) hm_179 rfl sc_358 (by omega) (by omega) (by omega) (e807_) ?_
          refine fl_iconst hm_179 rfl ?_
          refine ga_iadd (a := F 358 a.toNat) (b := 1) (c := F 358 a.toNat + 1) hm_179 rfl (by omega) ?_
          refine fl_iast (z := a) (v := F 358 a.toNat + 1) hm_179 rfl sc_358 (by omega) (by omega) (by omega) ?_
          obtain ⟨F808_, q809_⟩ : ∃ F9_, F9_ = (fl_u F787_ 358 a.toNat (F 358 a.toNat + 1)) := ⟨_, rfl⟩
          rw [← q809_]
          have g810_ : gi F808_ := by rw [q809_]; exact gi_u (g788_) rfl (by omega) (by omega)
          have g811_ : fs [(344, 344, 5, 5), (344, 344, 9, 10), (358, 358, 0, 100000), (360, 363, 0, 100000)] F F808_ := by rw [q809_]; exact fs_u (g796_) (fs_z (fs_z (fs_y (by omega))))
          have rk812_ : rk K F808_ := by rw [q809_]; exact rk_u (rk797_) (by omega) (by omega)
          refine gr_v hm_179 rfl rfl ?_
          have e813_ : F808_ 344 9 = F787_ 344 9 := by rw [q809_]; exact fl_u_ne (by omega)
          have b814_ : 0 ≤ F787_ 344 9 ∧ F787_ 344 9 ≤ 5 := gi_g g788_ rfl
          have e815_ : F808_ 344 10 = F787_ 344 10 := by rw [q809_]; exact fl_u_ne (by omega)
          have e816_ : F808_ 344 5 = F787_ 344 5 := by rw [q809_]; exact fl_u_ne (by omega)
          have b817_ : 0 ≤ F787_ 344 10 ∧ F787_ 344 10 ≤ 600 := gi_g g788_ rfl
          have b818_ : 0 ≤ F787_ 344 5 ∧ F787_ 344 5 ≤ 600 := gi_g g788_ rfl
          exact Or.inl ⟨F808_, rfl, g810_, g811_, (by omega), (⟨by intro h0_; have hs_ := c785_s; rw [sp_lit, if_pos c13_.2, (show sk K (F 344 5) = F 344 5 + 1 by rw [sk, if_pos (by omega)])]; rw [c343_, pb_r]; rw [sp_lx, if_pos c378_.2, sp_eq, (show sk K (F345_ 344 5) = F345_ 344 5 + 1 by rw [sk, if_pos (by omega)])]; rw [c515_, pb_r]; rw [c638_, pb_r]; rw [c732_]; rw [pb_r]; rw [hs_]; try (show Sum.inl _ = _); try (congr 2 <;> omega), fun h0_ => by exfalso; omega⟩), (by omega)⟩
        subst hA_
        have g819_ : fs [(344, 344, 5, 5), (344, 344, 9, 10), (358, 358, 0, 100000), (360, 363, 0, 100000)] F F793_ := fs_tr g778_ s795_ rfl
        have rk820_ : rk K F793_ := rk_fs rk779_ s795_ (fun r k h => (fs_n (by omega) (fs_n (by omega) rfl))) (fs_n (by omega) (fs_n (by omega) rfl))
        refine ga_aload_n (v := .ref 344) hm_179 rfl rfl rfl ?_
        refine ga_getr (b := 358) hm_179 rfl sc_344 rfl ?_
        refine ga_iload_n (z := a) hm_179 rfl rfl ?_
        refine ga_dup2 hm_179 rfl ⟨rfl, rfl⟩ ?_
        have e821_ : F326_ 358 a.toNat = F 358 a.toNat := by rw [q327_]; exact fl_u_ne (by omega)
        have e822_ : F345_ 358 a.toNat = F 358 a.toNat := (s347_ 358 a.toNat (fs_n (by omega) (fs_n (by omega) rfl))).trans (e821_)
        have e823_ : F368_ 358 a.toNat = F 358 a.toNat := by rw [q369_]; exact (fl_u_ne (by omega)).trans (e822_)
        have e824_ : F496_ 358 a.toNat = F 358 a.toNat := by rw [q497_]; exact (fl_u_ne (by omega)).trans ((fl_u_ne (by omega)).trans (e823_))
        have e825_ : F518_ 358 a.toNat = F 358 a.toNat := (s520_ 358 a.toNat (fs_n (by omega) (fs_n (by omega) rfl))).trans (e824_)
        have e826_ : F618_ 358 a.toNat = F 358 a.toNat := by rw [q619_]; exact (fl_u_ne (by omega)).trans (e825_)
        have e827_ : F641_ 358 a.toNat = F 358 a.toNat := (s643_ 358 a.toNat (fs_n (by omega) (fs_n (by omega) rfl))).trans (e826_)
        have e828_ : F713_ 358 a.toNat = F 358 a.toNat := by rw [q714_]; exact (fl_u_ne (by omega)).trans (e827_)
        have e829_ : F734_ 358 a.toNat = F 358 a.toNat := (s736_ 358 a.toNat (fs_n (by omega) (fs_n (by omega) rfl))).trans (e828_)
        have e830_ : F793_ 358 a.toNat = F 358 a.toNat := (s795_ 358 a.toNat (fs_n (by omega) (fs_n (by omega) rfl))).trans (e829_)
        refine ga_iald (z := a) (w := F 358 a.toNat) hm_179 rfl sc_358 (by omega) (by omega) (by omega) (e830_) ?_
        refine fl_iconst hm_179 rfl ?_
        refine ga_iadd (a := F 358 a.toNat) (b := 1) (c := F 358 a.toNat + 1) hm_179 rfl (by omega) ?_
        refine fl_iast (z := a) (v := F 358 a.toNat + 1) hm_179 rfl sc_358 (by omega) (by omega) (by omega) ?_
        obtain ⟨F831_, q832_⟩ : ∃ F9_, F9_ = (fl_u F793_ 358 a.toNat (F 358 a.toNat + 1)) := ⟨_, rfl⟩
        rw [← q832_]
        have g833_ : gi F831_ := by rw [q832_]; exact gi_u (g794_) rfl (by omega) (by omega)
        have g834_ : fs [(344, 344, 5, 5), (344, 344, 9, 10), (358, 358, 0, 100000), (360, 363, 0, 100000)] F F831_ := by rw [q832_]; exact fs_u (g819_) (fs_z (fs_z (fs_y (by omega))))
        have rk835_ : rk K F831_ := by rw [q832_]; exact rk_u (rk820_) (by omega) (by omega)
        refine gr_v hm_179 rfl rfl ?_
        have e836_ : F831_ 344 9 = F793_ 344 9 := by rw [q832_]; exact fl_u_ne (by omega)
        have b837_ : 0 ≤ F793_ 344 9 ∧ F793_ 344 9 ≤ 5 := gi_g g794_ rfl
        have e838_ : F831_ 344 10 = F793_ 344 10 := by rw [q832_]; exact fl_u_ne (by omega)
        have e839_ : F831_ 344 5 = F793_ 344 5 := by rw [q832_]; exact fl_u_ne (by omega)
        have b840_ : 0 ≤ F793_ 344 5 ∧ F793_ 344 5 ≤ 600 := gi_g g794_ rfl
        have e841_ : F831_ 358 a.toNat = F 358 a.toNat + 1 := by rw [q832_]; exact fl_u_eq
        exact Or.inr (⟨F831_, rfl, g833_, g834_, (by omega), (by rw [sp_lit, if_pos c13_.2, (show sk K (F 344 5) = F 344 5 + 1 by rw [sk, if_pos (by omega)])]; rw [c343_, pb_r]; rw [sp_lx, if_pos c378_.2, sp_eq, (show sk K (F345_ 344 5) = F345_ 344 5 + 1 by rw [sk, if_pos (by omega)])]; rw [c515_, pb_r]; rw [c638_, pb_r]; rw [c732_]; rw [pb_r]; rw [c791_]; try (congr 1; omega)), (by omega), (by omega)⟩)
      exfalso; omega
    exfalso; omega
  refine ga_iload_n (z := at_) hm_179 rfl rfl ?_
  refine ga_aload_n (v := .ref 344) hm_179 rfl rfl rfl ?_
  refine gIi (nY := 1) (F := 0) (L := 0) (As := []) (b := 344) (rest := [.int (Int32.ofInt at_)]) hm_179 rfl hm_59 rfl rfl (fl_ob sc_344) rfl rfl rfl rfl rfl (by omega) (by omega) ?_
  intro f842_ l843_ h844_ h845_
  show fl_R xi_ms 59 f842_ l843_ 0 [(0, .ref 344)] [] _ _
  refine ga_aload_n (v := .ref 344) hm_59 rfl rfl rfl ?_
  refine ga_geti (z := F 344 9) hm_59 rfl sc_344 rfl (rfl) ?_
  refine fl_if_le (a := F 344 9) hm_59 rfl ⟨by omega, by omega⟩ (fun h846_ => ?_) (fun h847_ => ?_)
  · exfalso; omega
  refine fl_iconst hm_59 rfl ?_
  refine fl_goto hm_59 rfl ?_
  refine gr_i hm_59 rfl rfl (ga_nb (by omega)) ?_
  clear h844_ h845_ f842_ l843_
  refine fl_if_eq hm_179 rfl ⟨by omega, by omega⟩ (fun h => absurd h (by omega)) (fun _ => ?_)
  refine fl_iconst hm_179 rfl ?_
  refine fl_goto hm_179 rfl ?_
  refine ga_iadd (a := at_) (b := 0) (c := at_) hm_179 rfl (by omega) ?_
  refine ga_istore_n (lv2 := [(3, .int (Int32.ofInt at_)), (0, .ref 344), (1, .int (Int32.ofInt a)), (2, .int (Int32.ofInt at_))]) hm_179 rfl (Nat.le_of_ble_eq_true rfl) rfl ?_
  refine ga_aload_n (v := .ref 344) hm_179 rfl rfl rfl ?_
  refine fl_bipush hm_179 rfl rfl ?_
  have b848_ : 0 ≤ F 344 5 ∧ F 344 5 ≤ 600 := gi_g hgi rfl
  refine gVi (nY := 4) (F := 1) (L := 21) (As := [.int (Int32.ofInt 9)]) (b := 344) (rest := []) hm_179 rfl hm_56 rfl rfl (fl_ob sc_344) rfl rfl rfl rfl rfl (by omega) (by omega) (mc_56 hG F X hgi (K) (9) ([110, 111, 116]) hgK hrk hkt (by omega) (by omega) (by decide) (kw_9 hrk)) (fun _ _ h => False.elim h) ?_
  rintro z849_ A1_ (⟨hA_, hz_, c850_⟩ | ⟨hA_, hz_, c851_, c852_⟩)
  ·
    subst hA_
    subst hz_
    refine ga_istore (lv2 := [(4, .int (Int32.ofInt 0)), (3, .int (Int32.ofInt at_)), (0, .ref 344), (1, .int (Int32.ofInt a)), (2, .int (Int32.ofInt at_))]) hm_179 rfl (Nat.le_of_ble_eq_true rfl) rfl ?_
    refine ga_iload (z := 0) hm_179 rfl rfl ?_
    refine fl_if_eq hm_179 rfl ⟨by omega, by omega⟩ (fun _ => ?_) (fun h => absurd (by omega) h)
    refine ga_aload_n (v := .ref 344) hm_179 rfl rfl rfl ?_
    refine gIi (nY := 1) (F := 0) (L := 0) (As := []) (b := 344) (rest := []) hm_179 rfl hm_59 rfl rfl (fl_ob sc_344) rfl rfl rfl rfl rfl (by omega) (by omega) ?_
    intro f853_ l854_ h855_ h856_
    show fl_R xi_ms 59 f853_ l854_ 0 [(0, .ref 344)] [] _ _
    refine ga_aload_n (v := .ref 344) hm_59 rfl rfl rfl ?_
    refine ga_geti (z := F 344 9) hm_59 rfl sc_344 rfl (rfl) ?_
    refine fl_if_le (a := F 344 9) hm_59 rfl ⟨by omega, by omega⟩ (fun h857_ => ?_) (fun h858_ => ?_)
    · exfalso; omega
    refine fl_iconst hm_59 rfl ?_
    refine fl_goto hm_59 rfl ?_
    refine gr_i hm_59 rfl rfl (ga_nb (by omega)) ?_
    clear h855_ h856_ f853_ l854_
    refine fl_if_eq hm_179 rfl ⟨by omega, by omega⟩ (fun h => absurd h (by omega)) (fun _ => ?_)
    refine gr_v hm_179 rfl rfl ?_
    have b859_ : 0 ≤ F 344 10 ∧ F 344 10 ≤ 600 := gi_g hgi rfl
    exact Or.inl ⟨F, rfl, hgi, fs_refl, (by omega), (⟨fun h0_ => by exfalso; omega, fun h0_ => by constructor <;> omega⟩), (by omega)⟩
  exfalso; omega

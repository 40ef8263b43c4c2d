def sp_lx (K : fl_N) (k : Int) (l tl pl : List Int) (ps : List (List Int)) (p : Int) : PR Int := if isw K p [61] = true then sp_eq K k l tl p else sp_atom K k l tl pl ps p
def sp_lit (K : fl_N) (k : Int) (l tl pl : List Int) (ps : List (List Int)) (p : Int) : PR Int := if isw K p [110, 111, 116] = true then pb (sp_kind K 0 (sk K p)) fun p => pb (sp_lx K k l tl pl ps p) fun p => sp_kind K 1 p else sp_lx K k l tl pl ps p
theorem sp_mem_lit {K : fl_N} {k : Int} {l tl pl : List Int} {ps : List (List Int)} {c p : Int} : sp_mem K false k l tl pl ps c p = pb (sp_lit K k l tl pl ps p) (fun p => .inr (p, c)) := by
  rw [sp_mem, if_neg (by simp), sp_lit]
  by_cases h : isw K p [110, 111, 116] = true
  · rw [if_pos h, if_pos h, pb_as]
    congr 1
    funext q
    rw [pb_as]
    simp only [true_and]
    rfl
  · rw [if_neg h, if_neg h]
    simp only [true_and]
    rfl
theorem rprd_fs {F F' : fl_N} {S : List (Nat × Nat × Nat × Nat)} {ps : List (List Int)} (h : rprd F ps) (hf : fs S F F') (hS : ∀ r j, 351 ≤ r ∧ r ≤ 352 → fs_in S r j = false) : rprd F' ps := by
  have e1 : F' 351 = F 351 := funext (fun j => hf _ _ (hS _ _ (by omega)))
  have e2 : F' 352 = F 352 := funext (fun j => hf _ _ (hS _ _ (by omega)))
  intro i hi
  rw [e1, e2]
  exact h i hi
theorem rprd_u {F : fl_N} {ps : List (List Int)} {c j : Nat} {z : Int} (h : rprd F ps) (hc : ¬ (351 ≤ c ∧ c ≤ 352)) : rprd (fl_u F c j z) ps := by
  intro i hi
  rw [fl_u_r (r' := 351) (by omega), fl_u_r (r' := 352) (by omega)]
  exact h i hi

/- CheapPlannerModel.readLiteral -/
abbrev pq_179 (G : Nat → Nat → Option Nat) (F : fl_N) (X : xi_H) (K : fl_N) (a at_ k : Int) (l tl pl : List Int) (ps : List (List Int)) : Outcome → xi_H → Prop := gqv (fun A => (∃ F' : fl_N, fl_H sh_T G F' ++ X = A ∧ gi F' ∧ fs [(344, 344, 5, 5), (344, 344, 9, 10), (358, 358, 0, 100000), (360, 363, 0, 100000)] F F' ∧ (¬ F' 344 9 = 0) ∧ ((F 344 9 = 0 → sp_lit K k l tl pl ps (F 344 5) = .inl (F' 344 9, F' 344 10)) ∧ (¬ F 344 9 = 0 → F' 344 9 = F 344 9 ∧ F' 344 10 = F 344 10)) ∧ (0 ≤ F' 344 5 ∧ F' 344 5 ≤ K 1 6 - 1)) ∨ (∃ F' : fl_N, fl_H sh_T G F' ++ X = A ∧ gi F' ∧ fs [(344, 344, 5, 5), (344, 344, 9, 10), (358, 358, 0, 100000), (360, 363, 0, 100000)] F F' ∧ (F' 344 9 = 0 ∧ F 344 9 = 0) ∧ (sp_lit K k l tl pl ps (F 344 5) = .inr (F' 344 5)) ∧ (0 ≤ F' 344 5 ∧ F' 344 5 ≤ K 1 6 - 1) ∧ (F' 358 a.toNat = F 358 a.toNat + 1))) gqn
set_option maxHeartbeats 16000000 in
theorem mc_179 {G : Nat → Nat → Option Nat} (hG : gg G) (F : fl_N) (X : xi_H) (hgi : gi F) (K : fl_N) (a at_ k : Int) (l tl pl : List Int) (ps : List (List Int)) (hgK : gi K) (hrk : rk K F) (hkt : rkt K) (hp : 0 ≤ F 344 5 ∧ F 344 5 ≤ K 1 6 - 1) (ht : trm F a k l tl) (hlt : l.length = tl.length) (ha : 0 ≤ a ∧ a ≤ 5) (hpl : rpn (F 350) (F 344 17) pl) (hps : rprd F ps ∧ ps.length = pl.length) (hat : 0 ≤ at_ ∧ at_ ≤ 40) (hcd : F 344 9 = 0 → F 358 a.toNat ≤ 3) : fl_M xi_ms 179 5 117 [.ref 344, .int (Int32.ofInt a), .int (Int32.ofInt at_)] (fl_H sh_T G F ++ X) (pq_179 G F X K a at_ k l tl pl ps) := by
  intro fr lo hfr hlo
  show fl_R xi_ms 179 fr lo 0 [(0, .ref 344), (1, .int (Int32.ofInt a)), (2, .int (Int32.ofInt at_))] [] _ _
  have hP := (rkt_p hkt hp.1 hp.2 hgK).1
  have hK16 : 0 ≤ K 1 6 ∧ K 1 6 ≤ 601 := gi_g hgK rfl
  have hko := hkt.1
  have b1_ : 0 ≤ F 344 9 ∧ F 344 9 ≤ 5 := gi_g hgi rfl
  by_cases h2_ : F 344 9 = 0
  ·
    refine ga_iload_n (z := at_) hm_179 rfl rfl ?_
    refine ga_aload_n (v := .ref 344) hm_179 rfl rfl rfl ?_
    refine gIi (nY := 1) (F := 0) (L := 0) (As := []) (b := 344) (rest := [.int (Int32.ofInt at_)]) hm_179 rfl hm_59 rfl rfl (fl_ob sc_344) rfl rfl rfl rfl rfl (by omega) (by omega) ?_
    intro f3_ l4_ h5_ h6_
    show fl_R xi_ms 59 f3_ l4_ 0 [(0, .ref 344)] [] _ _
    refine ga_aload_n (v := .ref 344) hm_59 rfl rfl rfl ?_
    refine ga_geti (z := F 344 9) hm_59 rfl sc_344 rfl (rfl) ?_
    refine fl_if_le (a := F 344 9) hm_59 rfl ⟨by omega, by omega⟩ (fun h7_ => ?_) (fun h8_ => ?_)
    ·
      refine fl_iconst hm_59 rfl ?_
      refine gr_i hm_59 rfl rfl (ga_nb (by omega)) ?_
      clear h5_ h6_ f3_ l4_
      refine fl_if_eq hm_179 rfl ⟨by omega, by omega⟩ (fun _ => ?_) (fun h => absurd (by omega) h)
      refine ga_aload_n (v := .ref 344) hm_179 rfl rfl rfl ?_
      refine ga_getr (b := 358) hm_179 rfl sc_344 rfl ?_
      refine ga_iload_n (z := a) hm_179 rfl rfl ?_
      have b9_ : 0 ≤ F 358 a.toNat ∧ F 358 a.toNat ≤ 4 := gi_g hgi rfl
      refine ga_iald (z := a) (w := F 358 a.toNat) hm_179 rfl sc_358 (by omega) (by omega) (by omega) (rfl) ?_
      refine ga_iadd (a := at_) (b := F 358 a.toNat) (c := at_ + F 358 a.toNat) hm_179 rfl (by omega) ?_
      refine ga_istore_n (lv2 := [(3, .int (Int32.ofInt (at_ + F 358 a.toNat))), (0, .ref 344), (1, .int (Int32.ofInt a)), (2, .int (Int32.ofInt at_))]) hm_179 rfl (Nat.le_of_ble_eq_true rfl) rfl ?_
      refine ga_aload_n (v := .ref 344) hm_179 rfl rfl rfl ?_
      refine fl_bipush hm_179 rfl rfl ?_
      have b10_ : 0 ≤ F 344 5 ∧ F 344 5 ≤ 600 := gi_g hgi rfl
      refine gVi (nY := 4) (F := 1) (L := 21) (As := [.int (Int32.ofInt 9)]) (b := 344) (rest := []) hm_179 rfl hm_56 rfl rfl (fl_ob sc_344) rfl rfl rfl rfl rfl (by omega) (by omega) (mc_56 hG F X hgi (K) (9) ([110, 111, 116]) hgK hrk hkt (by omega) (by omega) (by decide) (kw_9 hrk)) (fun _ _ h => False.elim h) ?_
      rintro z11_ A1_ (⟨hA_, hz_, c12_⟩ | ⟨hA_, hz_, c13_, c14_⟩)
      ·
        subst hA_
        subst hz_
        refine ga_istore (lv2 := [(4, .int (Int32.ofInt 0)), (3, .int (Int32.ofInt (at_ + F 358 a.toNat))), (0, .ref 344), (1, .int (Int32.ofInt a)), (2, .int (Int32.ofInt at_))]) hm_179 rfl (Nat.le_of_ble_eq_true rfl) rfl ?_
        refine ga_iload (z := 0) hm_179 rfl rfl ?_
        refine fl_if_eq hm_179 rfl ⟨by omega, by omega⟩ (fun _ => ?_) (fun h => absurd (by omega) h)
        refine ga_aload_n (v := .ref 344) hm_179 rfl rfl rfl ?_
        refine gIi (nY := 1) (F := 0) (L := 0) (As := []) (b := 344) (rest := []) hm_179 rfl hm_59 rfl rfl (fl_ob sc_344) rfl rfl rfl rfl rfl (by omega) (by omega) ?_
        intro f15_ l16_ h17_ h18_
        show fl_R xi_ms 59 f15_ l16_ 0 [(0, .ref 344)] [] _ _
        refine ga_aload_n (v := .ref 344) hm_59 rfl rfl rfl ?_
        refine ga_geti (z := F 344 9) hm_59 rfl sc_344 rfl (rfl) ?_
        refine fl_if_le (a := F 344 9) hm_59 rfl ⟨by omega, by omega⟩ (fun h19_ => ?_) (fun h20_ => ?_)
        ·
          refine fl_iconst hm_59 rfl ?_
          refine gr_i hm_59 rfl rfl (ga_nb (by omega)) ?_
          clear h17_ h18_ f15_ l16_
          refine fl_if_eq hm_179 rfl ⟨by omega, by omega⟩ (fun _ => ?_) (fun h => absurd (by omega) h)
          refine ga_aload_n (v := .ref 344) hm_179 rfl rfl rfl ?_
          refine ga_getr (b := 361) hm_179 rfl sc_344 rfl ?_
          refine ga_iload_n (z := at_ + F 358 a.toNat) hm_179 rfl rfl ?_
          refine ga_iload (z := 0) hm_179 rfl rfl ?_
          refine fl_zast (z := at_ + F 358 a.toNat) (v := 0) hm_179 rfl sc_361 (by omega) (by omega) (by omega) (ga_vb (by omega)) ?_
          refine ga_aload_n (v := .ref 344) hm_179 rfl rfl rfl ?_
          refine ga_getr (b := 360) hm_179 rfl sc_344 rfl ?_
          refine ga_iload_n (z := at_ + F 358 a.toNat) hm_179 rfl rfl ?_
          refine ga_aload_n (v := .ref 344) hm_179 rfl rfl rfl ?_
          refine fl_bipush hm_179 rfl rfl ?_
          obtain ⟨F21_, q22_⟩ : ∃ F9_, F9_ = (fl_u F 361 (at_ + F 358 a.toNat).toNat 0) := ⟨_, rfl⟩
          rw [← q22_]
          have g23_ : gi F21_ := by rw [q22_]; exact gi_u (hgi) rfl (by omega) (by omega)
          have g24_ : fs [(344, 344, 5, 5), (344, 344, 9, 10), (358, 358, 0, 100000), (360, 363, 0, 100000)] F F21_ := by rw [q22_]; exact fs_u (fs_refl) (fs_z (fs_z (fs_z (fs_y (by omega)))))
          have rk25_ : rk K F21_ := by rw [q22_]; exact rk_u (hrk) (by omega) (by omega)
          have e26_ : F21_ 344 5 = F 344 5 := by rw [q22_]; exact fl_u_ne (by omega)
          refine gVi (nY := 4) (F := 1) (L := 21) (As := [.int (Int32.ofInt 10)]) (b := 344) (rest := [.int (Int32.ofInt (at_ + F 358 a.toNat)), .ref 360]) hm_179 rfl hm_56 rfl rfl (fl_ob sc_344) rfl rfl rfl rfl rfl (by omega) (by omega) (mc_56 hG F21_ X g23_ (K) (10) ([61]) hgK rk25_ hkt (by omega) (by omega) (by decide) (kw_10 rk25_)) (fun _ _ h => False.elim h) ?_
          have e28_ : F21_ 344 9 = F 344 9 := by rw [q22_]; exact fl_u_ne (by omega)
          rintro z27_ A1_ (⟨hA_, hz_, c29_⟩ | ⟨hA_, hz_, c30_, c31_⟩)
          ·
            subst hA_
            subst hz_
            try simp only [e26_, e28_] at c29_
            refine fl_zast (z := at_ + F 358 a.toNat) (v := 0) hm_179 rfl sc_360 (by omega) (by omega) (by omega) (ga_vb (by omega)) ?_
            refine ga_aload_n (v := .ref 344) hm_179 rfl rfl rfl ?_
            refine ga_getr (b := 360) hm_179 rfl sc_344 rfl ?_
            refine ga_iload_n (z := at_ + F 358 a.toNat) hm_179 rfl rfl ?_
            refine ga_zald (z := at_ + F 358 a.toNat) (w := 0) hm_179 rfl sc_360 (by omega) (by omega) (by omega) (fl_u_eq) ?_
            refine fl_if_eq hm_179 rfl ⟨by omega, by omega⟩ (fun _ => ?_) (fun h => absurd (by omega) h)
            refine ga_aload_n (v := .ref 344) hm_179 rfl rfl rfl ?_
            refine ga_iload_n (z := a) hm_179 rfl rfl ?_
            refine ga_iload_n (z := at_ + F 358 a.toNat) hm_179 rfl rfl ?_
            obtain ⟨F32_, q33_⟩ : ∃ F9_, F9_ = (fl_u F21_ 360 (at_ + F 358 a.toNat).toNat 0) := ⟨_, rfl⟩
            rw [← q33_]
            have g34_ : gi F32_ := by rw [q33_]; exact gi_u (g23_) rfl (by omega) (by omega)
            have g35_ : fs [(344, 344, 5, 5), (344, 344, 9, 10), (358, 358, 0, 100000), (360, 363, 0, 100000)] F F32_ := by rw [q33_]; exact fs_u (g24_) (fs_z (fs_z (fs_z (fs_y (by omega)))))
            have rk36_ : rk K F32_ := by rw [q33_]; exact rk_u (rk25_) (by omega) (by omega)
            have e37_ : F32_ 344 5 = F 344 5 := by rw [q33_]; exact (fl_u_ne (by omega)).trans (e26_)
            refine gVv (nY := 7) (F := 4) (L := 91) (As := [.int (Int32.ofInt a), .int (Int32.ofInt (at_ + F 358 a.toNat))]) (b := 344) (rest := []) hm_179 rfl hm_174 rfl rfl (fl_ob sc_344) rfl rfl rfl rfl rfl (by omega) (by omega) (mc_174 hG F32_ X g34_ (K) (a) (at_ + F 358 a.toNat) (k) (l) (tl) (pl) (ps) hgK rk36_ hkt (by omega) ((by rw [q33_]; exact (trm_u (by rw [q22_]; exact (trm_u ht (by omega))) (by omega)))) (hlt) (by omega) ((by rw [q33_]; exact (rpn_u (by rw [q22_]; exact (rpn_u hpl (by omega) (by omega))) (by omega) (by omega)))) (⟨(by rw [q33_]; exact (rprd_u (by rw [q22_]; exact (rprd_u hps.1 (by omega))) (by omega))), hps.2⟩) (by omega)) (fun _ _ h => False.elim h) ?_
            have e39_ : F21_ 344 10 = F 344 10 := by rw [q22_]; exact fl_u_ne (by omega)
            have e40_ : F32_ 344 10 = F 344 10 := by rw [q33_]; exact (fl_u_ne (by omega)).trans (e39_)
            have b41_ : 0 ≤ F 344 10 ∧ F 344 10 ≤ 600 := gi_g hgi rfl
            have e42_ : F32_ 344 9 = F 344 9 := by rw [q33_]; exact (fl_u_ne (by omega)).trans (e28_)
            rintro A1_ (⟨F46_, hA_, g47_, s48_, c43_, c44_, c45_⟩ | ⟨F52_, hA_, g53_, s54_, c49_, c50_, c51_⟩)
            ·
              subst hA_
              have g55_ : fs [(344, 344, 5, 5), (344, 344, 9, 10), (358, 358, 0, 100000), (360, 363, 0, 100000)] F F46_ := fs_tr g35_ s48_ rfl
              have rk56_ : rk K F46_ := rk_fs rk36_ s48_ (fun r k h => (fs_n (by omega) (fs_n (by omega) (fs_n (by omega) rfl)))) (fs_n (by omega) (fs_n (by omega) (fs_n (by omega) rfl)))
              try simp only [e37_, e40_, e42_] at c44_
              have c44_s := c44_.1 (by omega)
              clear c44_
              refine ga_iload (z := 0) hm_179 rfl rfl ?_
              refine fl_if_eq hm_179 rfl ⟨by omega, by omega⟩ (fun _ => ?_) (fun h => absurd (by omega) h)
              refine ga_aload_n (v := .ref 344) hm_179 rfl rfl rfl ?_
              refine ga_getr (b := 358) hm_179 rfl sc_344 rfl ?_
              refine ga_iload_n (z := a) hm_179 rfl rfl ?_
              refine ga_dup2 hm_179 rfl ⟨rfl, rfl⟩ ?_
              have e57_ : F21_ 358 a.toNat = F 358 a.toNat := by rw [q22_]; exact fl_u_ne (by omega)
              have e58_ : F32_ 358 a.toNat = F 358 a.toNat := by rw [q33_]; exact (fl_u_ne (by omega)).trans (e57_)
              have e59_ : F46_ 358 a.toNat = F 358 a.toNat := (s48_ 358 a.toNat (fs_n (by omega) (fs_n (by omega) (fs_n (by omega) rfl)))).trans (e58_)
              refine ga_iald (z := a) (w := F 358 a.toNat) hm_179 rfl sc_358 (by omega) (by omega) (by omega) (e59_) ?_
              refine fl_iconst hm_179 rfl ?_
              refine ga_iadd (a := F 358 a.toNat) (b := 1) (c := F 358 a.toNat + 1) hm_179 rfl (by omega) ?_
              refine fl_iast (z := a) (v := F 358 a.toNat + 1) hm_179 rfl sc_358 (by omega) (by omega) (by omega) ?_
              obtain ⟨F60_, q61_⟩ : ∃ F9_, F9_ = (fl_u F46_ 358 a.toNat (F 358 a.toNat + 1)) := ⟨_, rfl⟩
              rw [← q61_]
              have g62_ : gi F60_ := by rw [q61_]; exact gi_u (g47_) rfl (by omega) (by omega)
              have g63_ : fs [(344, 344, 5, 5), (344, 344, 9, 10), (358, 358, 0, 100000), (360, 363, 0, 100000)] F F60_ := by rw [q61_]; exact fs_u (g55_) (fs_z (fs_z (fs_y (by omega))))
              have rk64_ : rk K F60_ := by rw [q61_]; exact rk_u (rk56_) (by omega) (by omega)
              refine gr_v hm_179 rfl rfl ?_
              have e65_ : F60_ 344 9 = F46_ 344 9 := by rw [q61_]; exact fl_u_ne (by omega)
              have b66_ : 0 ≤ F46_ 344 9 ∧ F46_ 344 9 ≤ 5 := gi_g g47_ rfl
              have e67_ : F60_ 344 10 = F46_ 344 10 := by rw [q61_]; exact fl_u_ne (by omega)
              have e68_ : F60_ 344 5 = F46_ 344 5 := by rw [q61_]; exact fl_u_ne (by omega)
              have b69_ : 0 ≤ F46_ 344 10 ∧ F46_ 344 10 ≤ 600 := gi_g g47_ rfl
              have b70_ : 0 ≤ F46_ 344 5 ∧ F46_ 344 5 ≤ 600 := gi_g g47_ rfl
              exact Or.inl ⟨F60_, rfl, g62_, g63_, (by omega), (⟨by intro h0_; have hs_ := c44_s; rw [sp_lit, if_neg (fun h8_ => c12_ ⟨by omega, h8_⟩)]; rw [sp_lx, if_neg (fun h8_ => c29_ ⟨by omega, h8_⟩)]; rw [hs_]; try (show Sum.inl _ = _); try (congr 2 <;> omega), fun h0_ => by exfalso; omega⟩), (by omega)⟩
            subst hA_
            have g71_ : fs [(344, 344, 5, 5), (344, 344, 9, 10), (358, 358, 0, 100000), (360, 363, 0, 100000)] F F52_ := fs_tr g35_ s54_ rfl
            have rk72_ : rk K F52_ := rk_fs rk36_ s54_ (fun r k h => (fs_n (by omega) (fs_n (by omega) (fs_n (by omega) rfl)))) (fs_n (by omega) (fs_n (by omega) (fs_n (by omega) rfl)))
            try simp only [e42_] at c49_
            try simp only [e37_] at c50_
            refine ga_iload (z := 0) hm_179 rfl rfl ?_
            refine fl_if_eq hm_179 rfl ⟨by omega, by omega⟩ (fun _ => ?_) (fun h => absurd (by omega) h)
            refine ga_aload_n (v := .ref 344) hm_179 rfl rfl rfl ?_
            refine ga_getr (b := 358) hm_179 rfl sc_344 rfl ?_
            refine ga_iload_n (z := a) hm_179 rfl rfl ?_
            refine ga_dup2 hm_179 rfl ⟨rfl, rfl⟩ ?_
            have e73_ : F21_ 358 a.toNat = F 358 a.toNat := by rw [q22_]; exact fl_u_ne (by omega)
            have e74_ : F32_ 358 a.toNat = F 358 a.toNat := by rw [q33_]; exact (fl_u_ne (by omega)).trans (e73_)
            have e75_ : F52_ 358 a.toNat = F 358 a.toNat := (s54_ 358 a.toNat (fs_n (by omega) (fs_n (by omega) (fs_n (by omega) rfl)))).trans (e74_)
            refine ga_iald (z := a) (w := F 358 a.toNat) hm_179 rfl sc_358 (by omega) (by omega) (by omega) (e75_) ?_
            refine fl_iconst hm_179 rfl ?_
            refine ga_iadd (a := F 358 a.toNat) (b := 1) (c := F 358 a.toNat + 1) hm_179 rfl (by omega) ?_
            refine fl_iast (z := a) (v := F 358 a.toNat + 1) hm_179 rfl sc_358 (by omega) (by omega) (by omega) ?_
            obtain ⟨F76_, q77_⟩ : ∃ F9_, F9_ = (fl_u F52_ 358 a.toNat (F 358 a.toNat + 1)) := ⟨_, rfl⟩
            rw [← q77_]
            have g78_ : gi F76_ := by rw [q77_]; exact gi_u (g53_) rfl (by omega) (by omega)
            have g79_ : fs [(344, 344, 5, 5), (344, 344, 9, 10), (358, 358, 0, 100000), (360, 363, 0, 100000)] F F76_ := by rw [q77_]; exact fs_u (g71_) (fs_z (fs_z (fs_y (by omega))))
            have rk80_ : rk K F76_ := by rw [q77_]; exact rk_u (rk72_) (by omega) (by omega)
            refine gr_v hm_179 rfl rfl ?_
            have e81_ : F76_ 344 9 = F52_ 344 9 := by rw [q77_]; exact fl_u_ne (by omega)
            have b82_ : 0 ≤ F52_ 344 9 ∧ F52_ 344 9 ≤ 5 := gi_g g53_ rfl
            have e83_ : F76_ 344 10 = F52_ 344 10 := by rw [q77_]; exact fl_u_ne (by omega)
            have e84_ : F76_ 344 5 = F52_ 344 5 := by rw [q77_]; exact fl_u_ne (by omega)
            have b85_ : 0 ≤ F52_ 344 5 ∧ F52_ 344 5 ≤ 600 := gi_g g53_ rfl
            exact Or.inr (⟨F76_, rfl, g78_, g79_, (by omega), (by rw [sp_lit, if_neg (fun h8_ => c12_ ⟨by omega, h8_⟩)]; rw [sp_lx, if_neg (fun h8_ => c29_ ⟨by omega, h8_⟩)]; rw [c50_]; try (congr 1; omega)), (by omega), (by omega)⟩)
          subst hA_
          subst hz_
          try simp only [e26_, e28_] at c30_
          try simp only [e26_] at c31_
          refine fl_zast (z := at_ + F 358 a.toNat) (v := 1) hm_179 rfl sc_360 (by omega) (by omega) (by omega) (ga_vb (by omega)) ?_
          refine ga_aload_n (v := .ref 344) hm_179 rfl rfl rfl ?_
          refine ga_getr (b := 360) hm_179 rfl sc_344 rfl ?_
          refine ga_iload_n (z := at_ + F 358 a.toNat) hm_179 rfl rfl ?_
          refine ga_zald (z := at_ + F 358 a.toNat) (w := 1) hm_179 rfl sc_360 (by omega) (by omega) (by omega) (fl_u_eq) ?_
          refine fl_if_eq hm_179 rfl ⟨by omega, by omega⟩ (fun h => absurd h (by omega)) (fun _ => ?_)
          have hszE := (kw_iff (w := [61]) hkt hgK (p := F 344 5) (by omega) (by omega) (by decide) (by decide)).mp c30_.2
          refine ga_aload_n (v := .ref 344) hm_179 rfl rfl rfl ?_
          refine ga_dup hm_179 rfl rfl ?_
          refine ga_geti (z := F 344 5) hm_179 rfl sc_344 rfl ((fl_u_ne (by omega)).trans (e26_)) ?_
          refine fl_iconst hm_179 rfl ?_
          refine ga_iadd (a := F 344 5) (b := 1) (c := F 344 5 + 1) hm_179 rfl (by omega) ?_
          refine ga_puti (z := F 344 5 + 1) hm_179 rfl sc_344 rfl rfl ?_
          refine fl_iconst hm_179 rfl ?_
          refine ga_istore (lv2 := [(5, .int (Int32.ofInt 0)), (4, .int (Int32.ofInt 0)), (3, .int (Int32.ofInt (at_ + F 358 a.toNat))), (0, .ref 344), (1, .int (Int32.ofInt a)), (2, .int (Int32.ofInt at_))]) hm_179 rfl (Nat.le_of_ble_eq_true rfl) rfl ?_
          refine ga_iload (z := 0) hm_179 rfl rfl ?_
          refine fl_iconst hm_179 rfl ?_
          refine fl_icmp_ge hm_179 rfl ⟨by omega, by omega⟩ ⟨by omega, by omega⟩ (fun h => absurd h (by omega)) (fun _ => ?_)
          refine ga_aload_n (v := .ref 344) hm_179 rfl rfl rfl ?_
          refine ga_getr (b := 363) hm_179 rfl sc_344 rfl ?_
          refine fl_iconst hm_179 rfl ?_
          refine ga_iload_n (z := at_ + F 358 a.toNat) hm_179 rfl rfl ?_
          refine ga_imul (a := 2) (b := at_ + F 358 a.toNat) (c := 2 * at_ + 2 * (F 358 a.toNat)) hm_179 rfl (by omega) ?_
          refine ga_iload (z := 0) hm_179 rfl rfl ?_
          refine ga_iadd (a := 2 * at_ + 2 * (F 358 a.toNat)) (b := 0) (c := 2 * at_ + 2 * (F 358 a.toNat)) hm_179 rfl (by omega) ?_
          refine ga_aload_n (v := .ref 344) hm_179 rfl rfl rfl ?_
          refine ga_iload_n (z := a) hm_179 rfl rfl ?_
          refine fl_iconst hm_179 rfl ?_
          obtain ⟨F86_, q87_⟩ : ∃ F9_, F9_ = (fl_u (fl_u F21_ 360 (at_ + F 358 a.toNat).toNat 1) 344 5 (F 344 5 + 1)) := ⟨_, rfl⟩
          rw [← q87_]
          have g88_ : gi F86_ := by rw [q87_]; exact gi_u (gi_u (g23_) rfl (by omega) (by omega)) rfl (by omega) (by omega)
          have g89_ : fs [(344, 344, 5, 5), (344, 344, 9, 10), (358, 358, 0, 100000), (360, 363, 0, 100000)] F F86_ := by rw [q87_]; exact fs_u (fs_u (g24_) (fs_z (fs_z (fs_z (fs_y (by omega)))))) rfl
          have rk90_ : rk K F86_ := by rw [q87_]; exact rk_u (rk_u (rk25_) (by omega) (by omega)) (by omega) (by omega)
          have e91_ : F86_ 344 5 = F 344 5 + 1 := by rw [q87_]; exact fl_u_eq
          refine gVi (nY := 6) (F := 3) (L := 66) (As := [.int (Int32.ofInt a), .int (Int32.ofInt (-1))]) (b := 344) (rest := [.int (Int32.ofInt (2 * at_ + 2 * (F 358 a.toNat))), .ref 363]) hm_179 rfl hm_185 rfl rfl (fl_ob sc_344) rfl rfl rfl rfl rfl (by omega) (by omega) (mc_185 hG F86_ X g88_ (K) (a) (-1) (k) (-1) (l) (tl) hgK rk90_ hkt (by omega) ((by rw [q87_]; exact (trm_u (trm_u (by rw [q22_]; exact (trm_u ht (by omega))) (by omega)) (by omega)))) (hlt) (Or.inl ⟨by omega, by omega, rfl⟩) (by omega)) (fun _ _ h => False.elim h) ?_
          have e93_ : F21_ 344 10 = F 344 10 := by rw [q22_]; exact fl_u_ne (by omega)
          have e94_ : F86_ 344 10 = F 344 10 := by rw [q87_]; exact (fl_u_ne (by omega)).trans ((fl_u_ne (by omega)).trans (e93_))
          have b95_ : 0 ≤ F 344 10 ∧ F 344 10 ≤ 600 := gi_g hgi rfl
          have e96_ : F86_ 344 9 = F 344 9 := by rw [q87_]; exact (fl_u_ne (by omega)).trans ((fl_u_ne (by omega)).trans (e28_))
          rintro z92_ A1_ (⟨F101_, hA_, g102_, s103_, c97_, c98_, c99_, c100_⟩ | ⟨F108_, hA_, g109_, s110_, c104_, c105_, c106_, c107_⟩)
          ·
            subst hA_
            have g111_ : fs [(344, 344, 5, 5), (344, 344, 9, 10), (358, 358, 0, 100000), (360, 363, 0, 100000)] F F101_ := fs_tr g89_ s103_ rfl
            have rk112_ : rk K F101_ := rk_fs rk90_ s103_ (fun r k h => (fs_n (by omega) (fs_n (by omega) rfl))) (fs_n (by omega) (fs_n (by omega) rfl))
            try simp only [e91_, e94_, e96_] at c98_
            have c98_s := c98_.1 (by omega)
            clear c98_
            refine fl_iast (z := 2 * at_ + 2 * (F 358 a.toNat)) (v := z92_) hm_179 rfl sc_363 (by omega) (by omega) (by omega) ?_
            refine ga_inc (a := 0) (c := 1) (lv2 := [(5, .int (Int32.ofInt 1)), (4, .int (Int32.ofInt 0)), (3, .int (Int32.ofInt (at_ + F 358 a.toNat))), (0, .ref 344), (1, .int (Int32.ofInt a)), (2, .int (Int32.ofInt at_))]) hm_179 rfl rfl (Nat.le_of_ble_eq_true rfl) (by omega) rfl ?_
            refine fl_goto hm_179 rfl ?_
            refine ga_iload (z := 1) hm_179 rfl rfl ?_
            refine fl_iconst hm_179 rfl ?_
            refine fl_icmp_ge hm_179 rfl ⟨by omega, by omega⟩ ⟨by omega, by omega⟩ (fun h => absurd h (by omega)) (fun _ => ?_)
            refine ga_aload_n (v := .ref 344) hm_179 rfl rfl rfl ?_
            refine ga_getr (b := 363) hm_179 rfl sc_344 rfl ?_
            refine fl_iconst hm_179 rfl ?_
            refine ga_iload_n (z := at_ + F 358 a.toNat) hm_179 rfl rfl ?_
            refine ga_imul (a := 2) (b := at_ + F 358 a.toNat) (c := 2 * at_ + 2 * (F 358 a.toNat)) hm_179 rfl (by omega) ?_
            refine ga_iload (z := 1) hm_179 rfl rfl ?_
            refine ga_iadd (a := 2 * at_ + 2 * (F 358 a.toNat)) (b := 1) (c := 2 * at_ + 2 * (F 358 a.toNat) + 1) hm_179 rfl (by omega) ?_
            refine ga_aload_n (v := .ref 344) hm_179 rfl rfl rfl ?_
            refine ga_iload_n (z := a) hm_179 rfl rfl ?_
            refine fl_iconst hm_179 rfl ?_
            obtain ⟨F113_, q114_⟩ : ∃ F9_, F9_ = (fl_u F101_ 363 (2 * at_ + 2 * (F 358 a.toNat)).toNat z92_) := ⟨_, rfl⟩
            rw [← q114_]
            have g115_ : gi F113_ := by rw [q114_]; exact gi_u (g102_) rfl (by omega) (by omega)
            have g116_ : fs [(344, 344, 5, 5), (344, 344, 9, 10), (358, 358, 0, 100000), (360, 363, 0, 100000)] F F113_ := by rw [q114_]; exact fs_u (g111_) (fs_z (fs_z (fs_z (fs_y (by omega)))))
            have rk117_ : rk K F113_ := by rw [q114_]; exact rk_u (rk112_) (by omega) (by omega)
            have e118_ : F113_ 344 5 = F101_ 344 5 := by rw [q114_]; exact fl_u_ne (by omega)
            have b119_ : 0 ≤ F101_ 344 5 ∧ F101_ 344 5 ≤ 600 := gi_g g102_ rfl
            refine gVi (nY := 6) (F := 3) (L := 66) (As := [.int (Int32.ofInt a), .int (Int32.ofInt (-1))]) (b := 344) (rest := [.int (Int32.ofInt (2 * at_ + 2 * (F 358 a.toNat) + 1)), .ref 363]) hm_179 rfl hm_185 rfl rfl (fl_ob sc_344) rfl rfl rfl rfl rfl (by omega) (by omega) (mc_185 hG F113_ X g115_ (K) (a) (-1) (k) (-1) (l) (tl) hgK rk117_ hkt (by omega) ((by rw [q114_]; exact (trm_u (trm_fs (by rw [q87_]; exact (trm_u (trm_u (by rw [q22_]; exact (trm_u ht (by omega))) (by omega)) (by omega))) s103_ (fun r j hj => (fs_n (by omega) (fs_n (by omega) rfl)))) (by omega)))) (hlt) (Or.inl ⟨by omega, by omega, rfl⟩) (by omega)) (fun _ _ h => False.elim h) ?_
            have e121_ : F113_ 344 10 = F101_ 344 10 := by rw [q114_]; exact fl_u_ne (by omega)
            have b122_ : 0 ≤ F101_ 344 10 ∧ F101_ 344 10 ≤ 600 := gi_g g102_ rfl
            have e123_ : F113_ 344 9 = F101_ 344 9 := by rw [q114_]; exact fl_u_ne (by omega)
            have b124_ : 0 ≤ F101_ 344 9 ∧ F101_ 344 9 ≤ 5 := gi_g g102_ rfl
            rintro z120_ A1_ (⟨F129_, hA_, g130_, s131_, c125_, c126_, c127_, c128_⟩ | ⟨F136_, hA_, g137_, s138_, c132_, c133_, c134_, c135_⟩)
            ·
              subst hA_
              have g139_ : fs [(344, 344, 5, 5), (344, 344, 9, 10), (358, 358, 0, 100000), (360, 363, 0, 100000)] F F129_ := fs_tr g116_ s131_ rfl
              have rk140_ : rk K F129_ := rk_fs rk117_ s131_ (fun r k h => (fs_n (by omega) (fs_n (by omega) rfl))) (fs_n (by omega) (fs_n (by omega) rfl))
              try simp only [e118_, e121_, e123_] at c126_
              have c126_k := c126_.2 (by omega)
              clear c126_
              refine fl_iast (z := 2 * at_ + 2 * (F 358 a.toNat) + 1) (v := z120_) hm_179 rfl sc_363 (by omega) (by omega) (by omega) ?_
              refine ga_inc (a := 1) (c := 2) (lv2 := [(5, .int (Int32.ofInt 2)), (4, .int (Int32.ofInt 0)), (3, .int (Int32.ofInt (at_ + F 358 a.toNat))), (0, .ref 344), (1, .int (Int32.ofInt a)), (2, .int (Int32.ofInt at_))]) hm_179 rfl rfl (Nat.le_of_ble_eq_true rfl) (by omega) rfl ?_
              refine fl_goto hm_179 rfl ?_
              refine ga_iload (z := 2) hm_179 rfl rfl ?_
              refine fl_iconst hm_179 rfl ?_
              refine fl_icmp_ge hm_179 rfl ⟨by omega, by omega⟩ ⟨by omega, by omega⟩ (fun _ => ?_) (fun h => absurd (by omega) h)
              refine ga_aload_n (v := .ref 344) hm_179 rfl rfl rfl ?_
              refine fl_bipush hm_179 rfl rfl ?_
              obtain ⟨F141_, q142_⟩ : ∃ F9_, F9_ = (fl_u F129_ 363 (2 * at_ + 2 * (F 358 a.toNat) + 1).toNat z120_) := ⟨_, rfl⟩
              rw [← q142_]
              have g143_ : gi F141_ := by rw [q142_]; exact gi_u (g130_) rfl (by omega) (by omega)
              have g144_ : fs [(344, 344, 5, 5), (344, 344, 9, 10), (358, 358, 0, 100000), (360, 363, 0, 100000)] F F141_ := by rw [q142_]; exact fs_u (g139_) (fs_z (fs_z (fs_z (fs_y (by omega)))))
              have rk145_ : rk K F141_ := by rw [q142_]; exact rk_u (rk140_) (by omega) (by omega)
              have e146_ : F141_ 344 5 = F129_ 344 5 := by rw [q142_]; exact fl_u_ne (by omega)
              have b147_ : 0 ≤ F129_ 344 5 ∧ F129_ 344 5 ≤ 600 := gi_g g130_ rfl
              refine gVv (nY := 2) (F := 2) (L := 41) (As := [.int (Int32.ofInt 41)]) (b := 344) (rest := []) hm_179 rfl hm_51 rfl rfl (fl_ob sc_344) rfl rfl rfl rfl rfl (by omega) (by omega) (mc_51 hG F141_ X g143_ (K) (41) (1) hgK rk145_ hkt (by omega) (by omega) (by omega)) (fun _ _ h => False.elim h) ?_
              have e149_ : F141_ 344 10 = F129_ 344 10 := by rw [q142_]; exact fl_u_ne (by omega)
              have b150_ : 0 ≤ F129_ 344 10 ∧ F129_ 344 10 ≤ 600 := gi_g g130_ rfl
              have e151_ : F141_ 344 9 = F129_ 344 9 := by rw [q142_]; exact fl_u_ne (by omega)
              have b152_ : 0 ≤ F129_ 344 9 ∧ F129_ 344 9 ≤ 5 := gi_g g130_ rfl
              rintro A1_ (⟨F156_, hA_, g157_, s158_, c153_, c154_, c155_⟩ | ⟨F162_, hA_, g163_, s164_, c159_, c160_, c161_⟩)
              ·
                subst hA_
                have g165_ : fs [(344, 344, 5, 5), (344, 344, 9, 10), (358, 358, 0, 100000), (360, 363, 0, 100000)] F F156_ := fs_tr g144_ s158_ rfl
                have rk166_ : rk K F156_ := rk_fs rk145_ s158_ (fun r k h => (fs_n (by omega) (fs_n (by omega) rfl))) (fs_n (by omega) (fs_n (by omega) rfl))
                try simp only [e146_, e149_, e151_] at c154_
                have c154_k := c154_.2 (by omega)
                clear c154_
                refine fl_goto hm_179 rfl ?_
                refine ga_iload (z := 0) hm_179 rfl rfl ?_
                refine fl_if_eq hm_179 rfl ⟨by omega, by omega⟩ (fun _ => ?_) (fun h => absurd (by omega) h)
                refine ga_aload_n (v := .ref 344) hm_179 rfl rfl rfl ?_
                refine ga_getr (b := 358) hm_179 rfl sc_344 rfl ?_
                refine ga_iload_n (z := a) hm_179 rfl rfl ?_
                refine ga_dup2 hm_179 rfl ⟨rfl, rfl⟩ ?_
                have e167_ : F21_ 358 a.toNat = F 358 a.toNat := by rw [q22_]; exact fl_u_ne (by omega)
                have e168_ : F86_ 358 a.toNat = F 358 a.toNat := by rw [q87_]; exact (fl_u_ne (by omega)).trans ((fl_u_ne (by omega)).trans (e167_))
                have e169_ : F101_ 358 a.toNat = F 358 a.toNat := (s103_ 358 a.toNat (fs_n (by omega) (fs_n (by omega) rfl))).trans (e168_)
                have e170_ : F113_ 358 a.toNat = F 358 a.toNat := by rw [q114_]; exact (fl_u_ne (by omega)).trans (e169_)
                have e171_ : F129_ 358 a.toNat = F 358 a.toNat := (s131_ 358 a.toNat (fs_n (by omega) (fs_n (by omega) rfl))).trans (e170_)
                have e172_ : F141_ 358 a.toNat = F 358 a.toNat := by rw [q142_]; exact (fl_u_ne (by omega)).trans (e171_)
                have e173_ : F156_ 358 a.toNat = F 358 a.toNat := (s158_ 358 a.toNat (fs_n (by omega) (fs_n (by omega) rfl))).trans (e172_)
                refine ga_iald (z := a) (w := F 358 a.toNat) hm_179 rfl sc_358 (by omega) (by omega) (by omega) (e173_) ?_
                refine fl_iconst hm_179 rfl ?_
                refine ga_iadd (a := F 358 a.toNat) (b := 1) (c := F 358 a.toNat + 1) hm_179 rfl (by omega) ?_
                refine fl_iast (z := a) (v := F 358 a.toNat + 1) hm_179 rfl sc_358 (by omega) (by omega) (by omega) ?_
                obtain ⟨F174_, q175_⟩ : ∃ F9_, F9_ = (fl_u F156_ 358 a.toNat (F 358 a.toNat + 1)) := ⟨_, rfl⟩
                rw [← q175_]
                have g176_ : gi F174_ := by rw [q175_]; exact gi_u (g157_) rfl (by omega) (by omega)
                have g177_ : fs [(344, 344, 5, 5), (344, 344, 9, 10), (358, 358, 0, 100000), (360, 363, 0, 100000)] F F174_ := by rw [q175_]; exact fs_u (g165_) (fs_z (fs_z (fs_y (by omega))))
                have rk178_ : rk K F174_ := by rw [q175_]; exact rk_u (rk166_) (by omega) (by omega)
                refine gr_v hm_179 rfl rfl ?_
                have e179_ : F174_ 344 9 = F156_ 344 9 := by rw [q175_]; exact fl_u_ne (by omega)
                have b180_ : 0 ≤ F156_ 344 9 ∧ F156_ 344 9 ≤ 5 := gi_g g157_ rfl
                have e181_ : F174_ 344 10 = F156_ 344 10 := by rw [q175_]; exact fl_u_ne (by omega)
                have e182_ : F174_ 344 5 = F156_ 344 5 := by rw [q175_]; exact fl_u_ne (by omega)
                have b183_ : 0 ≤ F156_ 344 10 ∧ F156_ 344 10 ≤ 600 := gi_g g157_ rfl
                have b184_ : 0 ≤ F156_ 344 5 ∧ F156_ 344 5 ≤ 600 := gi_g g157_ rfl
                exact Or.inl ⟨F174_, rfl, g176_, g177_, (by omega), (⟨by intro h0_; have hs_ := c98_s; rw [sp_lit, if_neg (fun h8_ => c12_ ⟨by omega, h8_⟩)]; rw [sp_lx, if_pos c30_.2, sp_eq, (show sk K (F 344 5) = F 344 5 + 1 by rw [sk, if_pos (by omega)])]; rw [hs_]; try (show Sum.inl _ = _); try (congr 2 <;> omega), fun h0_ => by exfalso; omega⟩), (by omega)⟩
              exfalso; omega
            exfalso; omega
          subst hA_
          have g185_ : fs [(344, 344, 5, 5), (344, 344, 9, 10), (358, 358, 0, 100000), (360, 363, 0, 100000)] F F108_ := fs_tr g89_ s110_ rfl
          have rk186_ : rk K F108_ := rk_fs rk90_ s110_ (fun r k h => (fs_n (by omega) (fs_n (by omega) rfl))) (fs_n (by omega) (fs_n (by omega) rfl))
          try simp only [e96_] at c104_
          try simp only [e91_] at c105_
          refine fl_iast (z := 2 * at_ + 2 * (F 358 a.toNat)) (v := z92_) hm_179 rfl sc_363 (by omega) (by omega) (by omega) ?_
          refine ga_inc (a := 0) (c := 1) (lv2 := [(5, .int (Int32.ofInt 1)), (4, .int (Int32.ofInt 0)), (3, .int (Int32.ofInt (at_ + F 358 a.toNat))), (0, .ref 344), (1, .int (Int32.ofInt a)), (2, .int (Int32.ofInt at_))]) hm_179 rfl rfl (Nat.le_of_ble_eq_true rfl) (by omega) rfl ?_
          refine fl_goto hm_179 rfl ?_
          refine ga_iload (z := 1) hm_179 rfl rfl ?_
          refine fl_iconst hm_179 rfl ?_
          refine fl_icmp_ge hm_179 rfl ⟨by omega, by omega⟩ ⟨by omega, by omega⟩ (fun h => absurd h (by omega)) (fun _ => ?_)
          refine ga_aload_n (v := .ref 344) hm_179 rfl rfl rfl ?_
          refine ga_getr (b := 363) hm_179 rfl sc_344 rfl ?_
          refine fl_iconst hm_179 rfl ?_
          refine ga_iload_n (z := at_ + F 358 a.toNat) hm_179 rfl rfl ?_
          refine ga_imul (a := 2) (b := at_ + F 358 a.toNat) (c := 2 * at_ + 2 * (F 358 a.toNat)) hm_179 rfl (by omega) ?_
          refine ga_iload (z := 1) hm_179 rfl rfl ?_
          refine ga_iadd (a := 2 * at_ + 2 * (F 358 a.toNat)) (b := 1) (c := 2 * at_ + 2 * (F 358 a.toNat) + 1) hm_179 rfl (by omega) ?_
          refine ga_aload_n (v := .ref 344) hm_179 rfl rfl rfl ?_
          refine ga_iload_n (z := a) hm_179 rfl rfl ?_
          refine fl_iconst hm_179 rfl ?_
          obtain ⟨F187_, q188_⟩ : ∃ F9_, F9_ = (fl_u F108_ 363 (2 * at_ + 2 * (F 358 a.toNat)).toNat z92_) := ⟨_, rfl⟩
          rw [← q188_]
          have g189_ : gi F187_ := by rw [q188_]; exact gi_u (g109_) rfl (by omega) (by omega)
          have g190_ : fs [(344, 344, 5, 5), (344, 344, 9, 10), (358, 358, 0, 100000), (360, 363, 0, 100000)] F F187_ := by rw [q188_]; exact fs_u (g185_) (fs_z (fs_z (fs_z (fs_y (by omega)))))
          have rk191_ : rk K F187_ := by rw [q188_]; exact rk_u (rk186_) (by omega) (by omega)
          have e192_ : F187_ 344 5 = F108_ 344 5 := by rw [q188_]; exact fl_u_ne (by omega)
          have b193_ : 0 ≤ F108_ 344 5 ∧ F108_ 344 5 ≤ 600 := gi_g g109_ rfl
          refine gVi (nY := 6) (F := 3) (L := 66) (As := [.int (Int32.ofInt a), .int (Int32.ofInt (-1))]) (b := 344) (rest := [.int (Int32.ofInt (2 * at_ + 2 * (F 358 a.toNat) + 1)), .ref 363]) hm_179 rfl hm_185 rfl rfl (fl_ob sc_344) rfl rfl rfl rfl rfl (by omega) (by omega) (mc_185 hG F187_ X g189_ (K) (a) (-1) (k) (-1) (l) (tl) hgK rk191_ hkt (by omega) ((by rw [q188_]; exact (trm_u (trm_fs (by rw [q87_]; exact (trm_u (trm_u (by rw [q22_]; exact (trm_u ht (by omega))) (by omega)) (by omega))) s110_ (fun r j hj => (fs_n (by omega) (fs_n (by omega) rfl)))) (by omega)))) (hlt) (Or.inl ⟨by omega, by omega, rfl⟩) (by omega)) (fun _ _ h => False.elim h) ?_
          have e195_ : F187_ 344 10 = F108_ 344 10 := by rw [q188_]; exact fl_u_ne (by omega)
          have b196_ : 0 ≤ F108_ 344 10 ∧ F108_ 344 10 ≤ 600 := gi_g g109_ rfl
          have e197_ : F187_ 344 9 = F108_ 344 9 := by rw [q188_]; exact fl_u_ne (by omega)
          have b198_ : 0 ≤ F108_ 344 9 ∧ F108_ 344 9 ≤ 5 := gi_g g109_ rfl
          rintro z194_ A1_ (⟨F203_, hA_, g204_, s205_, c199_, c200_, c201_, c202_⟩ | ⟨F210_, hA_, g211_, s212_, c206_, c207_, c208_, c209_⟩)
          ·
            subst hA_
            have g213_ : fs [(344, 344, 5, 5), (344, 344, 9, 10), (358, 358, 0, 100000), (360, 363, 0, 100000)] F F203_ := fs_tr g190_ s205_ rfl
            have rk214_ : rk K F203_ := rk_fs rk191_ s205_ (fun r k h => (fs_n (by omega) (fs_n (by omega) rfl))) (fs_n (by omega) (fs_n (by omega) rfl))
            try simp only [e192_, e195_, e197_] at c200_
            have c200_s := c200_.1 (by omega)
            clear c200_
            refine fl_iast (z := 2 * at_ + 2 * (F 358 a.toNat) + 1) (v := z194_) hm_179 rfl sc_363 (by omega) (by omega) (by omega) ?_
            refine ga_inc (a := 1) (c := 2) (lv2 := [(5, .int (Int32.ofInt 2)), (4, .int (Int32.ofInt 0)), (3, .int (Int32.ofInt (at_ + F 358 a.toNat))), (0, .ref 344), (1, .int (Int32.ofInt a)), (2, .int (Int32.ofInt at_))]) hm_179 rfl rfl (Nat.le_of_ble_eq_true rfl) (by omega) rfl ?_
            refine fl_goto hm_179 rfl ?_
            refine ga_iload (z := 2) hm_179 rfl rfl ?_
            refine fl_iconst hm_179 rfl ?_
            refine fl_icmp_ge hm_179 rfl ⟨by omega, by omega⟩ ⟨by omega, by omega⟩ (fun _ => ?_) (fun h => absurd (by omega) h)
            refine ga_aload_n (v := .ref 344) hm_179 rfl rfl rfl ?_
            refine fl_bipush hm_179 rfl rfl ?_
            obtain ⟨F215_, q216_⟩ : ∃ F9_, F9_ = (fl_u F203_ 363 (2 * at_ + 2 * (F 358 a.toNat) + 1).toNat z194_) := ⟨_, rfl⟩
            rw [← q216_]
            have g217_ : gi F215_ := by rw [q216_]; exact gi_u (g204_) rfl (by omega) (by omega)
            have g218_ : fs [(344, 344, 5, 5), (344, 344, 9, 10), (358, 358, 0, 100000), (360, 363, 0, 100000)] F F215_ := by rw [q216_]; exact fs_u (g213_) (fs_z (fs_z (fs_z (fs_y (by omega)))))
            have rk219_ : rk K F215_ := by rw [q216_]; exact rk_u (rk214_) (by omega) (by omega)
            have e220_ : F215_ 344 5 = F203_ 344 5 := by rw [q216_]; exact fl_u_ne (by omega)
            have b221_ : 0 ≤ F203_ 344 5 ∧ F203_ 344 5 ≤ 600 := gi_g g204_ rfl
            refine gVv (nY := 2) (F := 2) (L := 41) (As := [.int (Int32.ofInt 41)]) (b := 344) (rest := []) hm_179 rfl hm_51 rfl rfl (fl_ob sc_344) rfl rfl rfl rfl rfl (by omega) (by omega) (mc_51 hG F215_ X g217_ (K) (41) (1) hgK rk219_ hkt (by omega) (by omega) (by omega)) (fun _ _ h => False.elim h) ?_
            have e223_ : F215_ 344 10 = F203_ 344 10 := by rw [q216_]; exact fl_u_ne (by omega)
            have b224_ : 0 ≤ F203_ 344 10 ∧ F203_ 344 10 ≤ 600 := gi_g g204_ rfl
            have e225_ : F215_ 344 9 = F203_ 344 9 := by rw [q216_]; exact fl_u_ne (by omega)
            have b226_ : 0 ≤ F203_ 344 9 ∧ F203_ 344 9 ≤ 5 := gi_g g204_ rfl
            rintro A1_ (⟨F230_, hA_, g231_, s232_, c227_, c228_, c229_⟩ | ⟨F236_, hA_, g237_, s238_, c233_, c234_, c235_⟩)
            ·
              subst hA_
              have g239_ : fs [(344, 344, 5, 5), (344, 344, 9, 10), (358, 358, 0, 100000), (360, 363, 0, 100000)] F F230_ := fs_tr g218_ s232_ rfl
              have rk240_ : rk K F230_ := rk_fs rk219_ s232_ (fun r k h => (fs_n (by omega) (fs_n (by omega) rfl))) (fs_n (by omega) (fs_n (by omega) rfl))
              try simp only [e220_, e223_, e225_] at c228_
              have c228_k := c228_.2 (by omega)
              clear c228_
              refine fl_goto hm_179 rfl ?_
              refine ga_iload (z := 0) hm_179 rfl rfl ?_
              refine fl_if_eq hm_179 rfl ⟨by omega, by omega⟩ (fun _ => ?_) (fun h => absurd (by omega) h)
              refine ga_aload_n (v := .ref 344) hm_179 rfl rfl rfl ?_
              refine ga_getr (b := 358) hm_179 rfl sc_344 rfl ?_
              refine ga_iload_n (z := a) hm_179 rfl rfl ?_
              refine ga_dup2 hm_179 rfl ⟨rfl, rfl⟩ ?_
              have e241_ : F21_ 358 a.toNat = F 358 a.toNat := by rw [q22_]; exact fl_u_ne (by omega)
              have e242_ : F86_ 358 a.toNat = F 358 a.toNat := by rw [q87_]; exact (fl_u_ne (by omega)).trans ((fl_u_ne (by omega)).trans (e241_))
              have e243_ : F108_ 358 a.toNat = F 358 a.toNat := (s110_ 358 a.toNat (fs_n (by omega) (fs_n (by omega) rfl))).trans (e242_)
              have e244_ : F187_ 358 a.toNat = F 358 a.toNat := by rw [q188_]; exact (fl_u_ne (by omega)).trans (e243_)
              have e245_ : F203_ 358 a.toNat = F 358 a.toNat := (s205_ 358 a.toNat (fs_n (by omega) (fs_n (by omega) rfl))).trans (e244_)
              have e246_ : F215_ 358 a.toNat = F 358 a.toNat := by rw [q216_]; exact (fl_u_ne (by omega)).trans (e245_)
              have e247_ : F230_ 358 a.toNat = F 358 a.toNat := (s232_ 358 a.toNat (fs_n (by omega) (fs_n (by omega) rfl))).trans (e246_)
              refine ga_iald (z := a) (w := F 358 a.toNat) hm_179 rfl sc_358 (by omega) (by omega) (by omega) (e247_) ?_
              refine fl_iconst hm_179 rfl ?_
              refine ga_iadd (a := F 358 a.toNat) (b := 1) (c := F 358 a.toNat + 1) hm_179 rfl (by omega) ?_
              refine fl_iast (z := a) (v := F 358 a.toNat + 1) hm_179 rfl sc_358 (by omega) (by omega) (by omega) ?_
              obtain ⟨F248_, q249_⟩ : ∃ F9_, F9_ = (fl_u F230_ 358 a.toNat (F 358 a.toNat + 1)) := ⟨_, rfl⟩
              rw [← q249_]
              have g250_ : gi F248_ := by rw [q249_]; exact gi_u (g231_) rfl (by omega) (by omega)
              have g251_ : fs [(344, 344, 5, 5), (344, 344, 9, 10), (358, 358, 0, 100000), (360, 363, 0, 100000)] F F248_ := by rw [q249_]; exact fs_u (g239_) (fs_z (fs_z (fs_y (by omega))))
              have rk252_ : rk K F248_ := by rw [q249_]; exact rk_u (rk240_) (by omega) (by omega)
              refine gr_v hm_179 rfl rfl ?_
              have e253_ : F248_ 344 9 = F230_ 344 9 := by rw [q249_]; exact fl_u_ne (by omega)
              have b254_ : 0 ≤ F230_ 344 9 ∧ F230_ 344 9 ≤ 5 := gi_g g231_ rfl
              have e255_ : F248_ 344 10 = F230_ 344 10 := by rw [q249_]; exact fl_u_ne (by omega)
              have e256_ : F248_ 344 5 = F230_ 344 5 := by rw [q249_]; exact fl_u_ne (by omega)
              have b257_ : 0 ≤ F230_ 344 10 ∧ F230_ 344 10 ≤ 600 := gi_g g231_ rfl
              have b258_ : 0 ≤ F230_ 344 5 ∧ F230_ 344 5 ≤ 600 := gi_g g231_ rfl
              exact Or.inl ⟨F248_, rfl, g250_, g251_, (by omega), (⟨by intro h0_; have hs_ := c200_s; rw [sp_lit, if_neg (fun h8_ => c12_ ⟨by omega, h8_⟩)]; rw [sp_lx, if_pos c30_.2, sp_eq, (show sk K (F 344 5) = F 344 5 + 1 by rw [sk, if_pos (by omega)])]; rw [c105_, pb_r]; rw [hs_]; try (show Sum.inl _ = _); try (congr 2 <;> omega), fun h0_ => by exfalso; omega⟩), (by omega)⟩
            exfalso; omega
          subst hA_
          have g259_ : fs [(344, 344, 5, 5), (344, 344, 9, 10), (358, 358, 0, 100000), (360, 363, 0, 100000)] F F210_ := fs_tr g190_ s212_ rfl
          have rk260_ : rk K F210_ := rk_fs rk191_ s212_ (fun r k h => (fs_n (by omega) (fs_n (by omega) rfl))) (fs_n (by omega) (fs_n (by omega) rfl))
          try simp only [e197_] at c206_
          try simp only [e192_] at c207_
          refine fl_iast (z := 2 * at_ + 2 * (F 358 a.toNat) + 1) (v := z194_) hm_179 rfl sc_363 (by omega) (by omega) (by omega) ?_
          refine ga_inc (a := 1) (c := 2) (lv2 := [(5, .int (Int32.ofInt 2)), (4, .int (Int32.ofInt 0)), (3, .int (Int32.ofInt (at_ + F 358 a.toNat))), (0, .ref 344), (1, .int (Int32.ofInt a)), (2, .int (Int32.ofInt at_))]) hm_179 rfl rfl (Nat.le_of_ble_eq_true rfl) (by omega) rfl ?_
          refine fl_goto hm_179 rfl ?_
          refine ga_iload (z := 2) hm_179 rfl rfl ?_
          refine fl_iconst hm_179 rfl ?_
          refine fl_icmp_ge hm_179 rfl ⟨by omega, by omega⟩ ⟨by omega, by omega⟩ (fun _ => ?_) (fun h => absurd (by omega) h)
          refine ga_aload_n (v := .ref 344) hm_179 rfl rfl rfl ?_
          refine fl_bipush hm_179 rfl rfl ?_
          obtain ⟨F261_, q262_⟩ : ∃ F9_, F9_ = (fl_u F210_ 363 (2 * at_ + 2 * (F 358 a.toNat) + 1).toNat z194_) := ⟨_, rfl⟩
          rw [← q262_]
          have g263_ : gi F261_ := by rw [q262_]; exact gi_u (g211_) rfl (by omega) (by omega)
          have g264_ : fs [(344, 344, 5, 5), (344, 344, 9, 10), (358, 358, 0, 100000), (360, 363, 0, 100000)] F F261_ := by rw [q262_]; exact fs_u (g259_) (fs_z (fs_z (fs_z (fs_y (by omega)))))
          have rk265_ : rk K F261_ := by rw [q262_]; exact rk_u (rk260_) (by omega) (by omega)
          have e266_ : F261_ 344 5 = F210_ 344 5 := by rw [q262_]; exact fl_u_ne (by omega)
          have b267_ : 0 ≤ F210_ 344 5 ∧ F210_ 344 5 ≤ 600 := gi_g g211_ rfl
          refine gVv (nY := 2) (F := 2) (L := 41) (As := [.int (Int32.ofInt 41)]) (b := 344) (rest := []) hm_179 rfl hm_51 rfl rfl (fl_ob sc_344) rfl rfl rfl rfl rfl (by omega) (by omega) (mc_51 hG F261_ X g263_ (K) (41) (1) hgK rk265_ hkt (by omega) (by omega) (by omega)) (fun _ _ h => False.elim h) ?_
          have e269_ : F261_ 344 10 = F210_ 344 10 := by rw [q262_]; exact fl_u_ne (by omega)
          have b270_ : 0 ≤ F210_ 344 10 ∧ F210_ 344 10 ≤ 600 := gi_g g211_ rfl
          have e271_ : F261_ 344 9 = F210_ 344 9 := by rw [q262_]; exact fl_u_ne (by omega)
          have b272_ : 0 ≤ F210_ 344 9 ∧ F210_ 344 9 ≤ 5 := gi_g g211_ rfl
          rintro A1_ (⟨F276_, hA_, g277_, s278_, c273_, c274_, c275_⟩ | ⟨F282_, hA_, g283_, s284_, c279_, c280_, c281_⟩)
          ·
            subst hA_
            have g285_ : fs [(344, 344, 5, 5), (344, 344, 9, 10), (358, 358, 0, 100000), (360, 363, 0, 100000)] F F276_ := fs_tr g264_ s278_ rfl
            have rk286_ : rk K F276_ := rk_fs rk265_ s278_ (fun r k h => (fs_n (by omega) (fs_n (by omega) rfl))) (fs_n (by omega) (fs_n (by omega) rfl))
            try simp only [e266_, e269_, e271_] at c274_
            have c274_s := c274_.1 (by omega)
            clear c274_
            refine fl_goto hm_179 rfl ?_
            refine ga_iload (z := 0) hm_179 rfl rfl ?_
            refine fl_if_eq hm_179 rfl ⟨by omega, by omega⟩ (fun _ => ?_) (fun h => absurd (by omega) h)
            refine ga_aload_n (v := .ref 344) hm_179 rfl rfl rfl ?_
            refine ga_getr (b := 358) hm_179 rfl sc_344 rfl ?_
            refine ga_iload_n (z := a) hm_179 rfl rfl ?_
            refine ga_dup2 hm_179 rfl ⟨rfl, rfl⟩ ?_
            have e287_ : F21_ 358 a.toNat = F 358 a.toNat := by rw [q22_]; exact fl_u_ne (by omega)
            have e288_ : F86_ 358 a.toNat = F 358 a.toNat := by rw [q87_]; exact (fl_u_ne (by omega)).trans ((fl_u_ne (by omega)).trans (e287_))
            have e289_ : F108_ 358 a.toNat = F 358 a.toNat := (s110_ 358 a.toNat (fs_n (by omega) (fs_n (by omega) rfl))).trans (e288_)
            have e290_ : F187_ 358 a.toNat = F 358 a.toNat := by rw [q188_]; exact (fl_u_ne (by omega)).trans (e289_)
            have e291_ : F210_ 358 a.toNat = F 358 a.toNat := (s212_ 358 a.toNat (fs_n (by omega) (fs_n (by omega) rfl))).trans (e290_)
            have e292_ : F261_ 358 a.toNat = F 358 a.toNat := by rw [q262_]; exact (fl_u_ne (by omega)).trans (e291_)
            have e293_ : F276_ 358 a.toNat = F 358 a.toNat := (s278_ 358 a.toNat (fs_n (by omega) (fs_n (by omega) rfl))).trans (e292_)
            refine ga_iald (z := a) (w := F 358 a.toNat) hm_179 rfl sc_358 (by omega) (by omega) (by omega) (e293_) ?_
            refine fl_iconst hm_179 rfl ?_
            refine ga_iadd (a := F 358 a.toNat) (b := 1) (c := F 358 a.toNat + 1) hm_179 rfl (by omega) ?_
            refine fl_iast (z := a) (v := F 358 a.toNat + 1) hm_179 rfl sc_358 (by omega) (by omega) (by omega) ?_
            obtain ⟨F294_, q295_⟩ : ∃ F9_, F9_ = (fl_u F276_ 358 a.toNat (F 358 a.toNat + 1)) := ⟨_, rfl⟩
            rw [← q295_]
            have g296_ : gi F294_ := by rw [q295_]; exact gi_u (g277_) rfl (by omega) (by omega)
            have g297_ : fs [(344, 344, 5, 5), (344, 344, 9, 10), (358, 358, 0, 100000), (360, 363, 0, 100000)] F F294_ := by rw [q295_]; exact fs_u (g285_) (fs_z (fs_z (fs_y (by omega))))
            have rk298_ : rk K F294_ := by rw [q295_]; exact rk_u (rk286_) (by omega) (by omega)
            refine gr_v hm_179 rfl rfl ?_
            have e299_ : F294_ 344 9 = F276_ 344 9 := by rw [q295_]; exact fl_u_ne (by omega)
            have b300_ : 0 ≤ F276_ 344 9 ∧ F276_ 344 9 ≤ 5 := gi_g g277_ rfl
            have e301_ : F294_ 344 10 = F276_ 344 10 := by rw [q295_]; exact fl_u_ne (by omega)
            have e302_ : F294_ 344 5 = F276_ 344 5 := by rw [q295_]; exact fl_u_ne (by omega)
            have b303_ : 0 ≤ F276_ 344 10 ∧ F276_ 344 10 ≤ 600 := gi_g g277_ rfl
            have b304_ : 0 ≤ F276_ 344 5 ∧ F276_ 344 5 ≤ 600 := gi_g g277_ rfl
            exact Or.inl ⟨F294_, rfl, g296_, g297_, (by omega), (⟨by intro h0_; have hs_ := c274_s; rw [sp_lit, if_neg (fun h8_ => c12_ ⟨by omega, h8_⟩)]; rw [sp_lx, if_pos c30_.2, sp_eq, (show sk K (F 344 5) = F 344 5 + 1 by rw [sk, if_pos (by omega)])]; rw [c105_, pb_r]; rw [c207_, pb_r]; rw [hs_]; try (show Sum.inl _ = _); try (congr 2 <;> omega), fun h0_ => by exfalso; omega⟩), (by omega)⟩
          subst hA_
          have g305_ : fs [(344, 344, 5, 5), (344, 344, 9, 10), (358, 358, 0, 100000), (360, 363, 0, 100000)] F F282_ := fs_tr g264_ s284_ rfl
          have rk306_ : rk K F282_ := rk_fs rk265_ s284_ (fun r k h => (fs_n (by omega) (fs_n (by omega) rfl))) (fs_n (by omega) (fs_n (by omega) rfl))
          try simp only [e271_] at c279_
          try simp only [e266_] at c280_
          refine fl_goto hm_179 rfl ?_
          refine ga_iload (z := 0) hm_179 rfl rfl ?_
          refine fl_if_eq hm_179 rfl ⟨by omega, by omega⟩ (fun _ => ?_) (fun h => absurd (by omega) h)
          refine ga_aload_n (v := .ref 344) hm_179 rfl rfl rfl ?_
          refine ga_getr (b := 358) hm_179 rfl sc_344 rfl ?_
          refine ga_iload_n (z := a) hm_179 rfl rfl ?_
          refine ga_dup2 hm_179 rfl ⟨rfl, rfl⟩ ?_
          have e307_ : F21_ 358 a.toNat = F 358 a.toNat := by rw [q22_]; exact fl_u_ne (by omega)
          have e308_ : F86_ 358 a.toNat = F 358 a.toNat := by rw [q87_]; exact (fl_u_ne (by omega)).trans ((fl_u_ne (by omega)).trans (e307_))
          have e309_ : F108_ 358 a.toNat = F 358 a.toNat := (s110_ 358 a.toNat (fs_n (by omega) (fs_n (by omega) rfl))).trans (e308_)
          have e310_ : F187_ 358 a.toNat = F 358 a.toNat := by rw [q188_]; exact (fl_u_ne (by omega)).trans (e309_)
          have e311_ : F210_ 358 a.toNat = F 358 a.toNat := (s212_ 358 a.toNat (fs_n (by omega) (fs_n (by omega) rfl))).trans (e310_)
          have e312_ : F261_ 358 a.toNat = F 358 a.toNat := by rw [q262_]; exact (fl_u_ne (by omega)).trans (e311_)
          have e313_ : F282_ 358 a.toNat = F 358 a.toNat := (s284_ 358 a.toNat (fs_n (by omega) (fs_n (by omega) rfl))).trans (e312_)
          refine ga_iald (z := a) (w := F 358 a.toNat) hm_179 rfl sc_358 (by omega) (by omega) (by omega) (e313_) ?_
          refine fl_iconst hm_179 rfl ?_
          refine ga_iadd (a := F 358 a.toNat) (b := 1) (c := F 358 a.toNat + 1) hm_179 rfl (by omega) ?_
          refine fl_iast (z := a) (v := F 358 a.toNat + 1) hm_179 rfl sc_358 (by omega) (by omega) (by omega) ?_
          obtain ⟨F314_, q315_⟩ : ∃ F9_, F9_ = (fl_u F282_ 358 a.toNat (F 358 a.toNat + 1)) := ⟨_, rfl⟩
          rw [← q315_]
          have g316_ : gi F314_ := by rw [q315_]; exact gi_u (g283_) rfl (by omega) (by omega)
          have g317_ : fs [(344, 344, 5, 5), (344, 344, 9, 10), (358, 358, 0, 100000), (360, 363, 0, 100000)] F F314_ := by rw [q315_]; exact fs_u (g305_) (fs_z (fs_z (fs_y (by omega))))
          have rk318_ : rk K F314_ := by rw [q315_]; exact rk_u (rk306_) (by omega) (by omega)
          refine gr_v hm_179 rfl rfl ?_
          have e319_ : F314_ 344 9 = F282_ 344 9 := by rw [q315_]; exact fl_u_ne (by omega)
          have b320_ : 0 ≤ F282_ 344 9 ∧ F282_ 344 9 ≤ 5 := gi_g g283_ rfl
          have e321_ : F314_ 344 10 = F282_ 344 10 := by rw [q315_]; exact fl_u_ne (by omega)
          have e322_ : F314_ 344 5 = F282_ 344 5 := by rw [q315_]; exact fl_u_ne (by omega)
          have b323_ : 0 ≤ F282_ 344 5 ∧ F282_ 344 5 ≤ 600 := gi_g g283_ rfl
          exact Or.inr (⟨F314_, rfl, g316_, g317_, (by omega), (by rw [sp_lit, if_neg (fun h8_ => c12_ ⟨by omega, h8_⟩)]; rw [sp_lx, if_pos c30_.2, sp_eq, (show sk K (F 344 5) = F 344 5 + 1 by rw [sk, if_pos (by omega)])]; rw [c105_, pb_r]; rw [c207_, pb_r]; rw [c280_]; try (congr 1; omega)), (by omega), (by omega)⟩)
        exfalso; omega
      subst hA_
      subst hz_
      refine ga_istore (lv2 := [(4, .int (Int32.ofInt 1)), (3, .int (Int32.ofInt (at_ + F 358 a.toNat))), (0, .ref 344), (1, .int (Int32.ofInt a)), (2, .int (Int32.ofInt at_))]) hm_179 rfl (Nat.le_of_ble_eq_true rfl) rfl ?_
      refine ga_iload (z := 1) hm_179 rfl rfl ?_
      refine fl_if_eq hm_179 rfl ⟨by omega, by omega⟩ (fun h => absurd h (by omega)) (fun _ => ?_)
      have hsz0 := (kw_iff (w := [110, 111, 116]) hkt hgK hp.1 hp.2 (by decide) (by decide)).mp c13_.2
      refine ga_aload_n (v := .ref 344) hm_179 rfl rfl rfl ?_
      refine ga_dup hm_179 rfl rfl ?_
      refine ga_geti (z := F 344 5) hm_179 rfl sc_344 rfl (rfl) ?_
      refine fl_iconst hm_179 rfl ?_
      refine ga_iadd (a := F 344 5) (b := 1) (c := F 344 5 + 1) hm_179 rfl (by omega) ?_
      refine ga_puti (z := F 344 5 + 1) hm_179 rfl sc_344 rfl rfl ?_
      refine ga_aload_n (v := .ref 344) hm_179 rfl rfl rfl ?_
      refine fl_bipush hm_179 rfl rfl ?_
      obtain ⟨F324_, q325_⟩ : ∃ F9_, F9_ = (fl_u F 344 5 (F 344 5 + 1)) := ⟨_, rfl⟩
      rw [← q325_]
      have g326_ : gi F324_ := by rw [q325_]; exact gi_u (hgi) rfl (by omega) (by omega)
      have g327_ : fs [(344, 344, 5, 5), (344, 344, 9, 10), (358, 358, 0, 100000), (360, 363, 0, 100000)] F F324_ := by rw [q325_]; exact fs_u (fs_refl) rfl
      have rk328_ : rk K F324_ := by rw [q325_]; exact rk_u (hrk) (by omega) (by omega)
      have e329_ : F324_ 344 5 = F 344 5 + 1 := by rw [q325_]; exact fl_u_eq
      refine gVv (nY := 2) (F := 2) (L := 41) (As := [.int (Int32.ofInt 40)]) (b := 344) (rest := []) hm_179 rfl hm_51 rfl rfl (fl_ob sc_344) rfl rfl rfl rfl rfl (by omega) (by omega) (mc_51 hG F324_ X g326_ (K) (40) (0) hgK rk328_ hkt (by omega) (by omega) (by omega)) (fun _ _ h => False.elim h) ?_
      have e331_ : F324_ 344 10 = F 344 10 := by rw [q325_]; exact fl_u_ne (by omega)
      have b332_ : 0 ≤ F 344 10 ∧ F 344 10 ≤ 600 := gi_g hgi rfl
      have e333_ : F324_ 344 9 = F 344 9 := by rw [q325_]; exact fl_u_ne (by omega)
      rintro A1_ (⟨F337_, hA_, g338_, s339_, c334_, c335_, c336_⟩ | ⟨F343_, hA_, g344_, s345_, c340_, c341_, c342_⟩)
      ·
        subst hA_
        have g346_ : fs [(344, 344, 5, 5), (344, 344, 9, 10), (358, 358, 0, 100000), (360, 363, 0, 100000)] F F337_ := fs_tr g327_ s339_ rfl
        have rk347_ : rk K F337_ := rk_fs rk328_ s339_ (fun r k h => (fs_n (by omega) (fs_n (by omega) rfl))) (fs_n (by omega) (fs_n (by omega) rfl))
        try simp only [e329_, e331_, e333_] at c335_
        have c335_s := c335_.1 (by omega)
        clear c335_
        refine ga_aload_n (v := .ref 344) hm_179 rfl rfl rfl ?_
        refine gIi (nY := 1) (F := 0) (L := 0) (As := []) (b := 344) (rest := []) hm_179 rfl hm_59 rfl rfl (fl_ob sc_344) rfl rfl rfl rfl rfl (by omega) (by omega) ?_
        intro f348_ l349_ h350_ h351_
        show fl_R xi_ms 59 f348_ l349_ 0 [(0, .ref 344)] [] _ _
        refine ga_aload_n (v := .ref 344) hm_59 rfl rfl rfl ?_
        have b352_ : 0 ≤ F337_ 344 9 ∧ F337_ 344 9 ≤ 5 := gi_g g338_ rfl
        refine ga_geti (z := F337_ 344 9) hm_59 rfl sc_344 rfl (rfl) ?_
        refine fl_if_le (a := F337_ 344 9) hm_59 rfl ⟨by omega, by omega⟩ (fun h353_ => ?_) (fun h354_ => ?_)
        · exfalso; omega
        refine fl_iconst hm_59 rfl ?_
        refine fl_goto hm_59 rfl ?_
        refine gr_i hm_59 rfl rfl (ga_nb (by omega)) ?_
        clear h350_ h351_ f348_ l349_
        refine fl_if_eq hm_179 rfl ⟨by omega, by omega⟩ (fun h => absurd h (by omega)) (fun _ => ?_)
        refine gr_v hm_179 rfl rfl ?_
        have b355_ : 0 ≤ F337_ 344 10 ∧ F337_ 344 10 ≤ 600 := gi_g g338_ rfl
        have b356_ : 0 ≤ F337_ 344 5 ∧ F337_ 344 5 ≤ 600 := gi_g g338_ rfl
        exact Or.inl ⟨F337_, rfl, g338_, g346_, (by omega), (⟨by intro h0_; have hs_ := c335_s; rw [sp_lit, if_pos c13_.2, (show sk K (F 344 5) = F 344 5 + 1 by rw [sk, if_pos (by omega)])]; rw [hs_]; try (show Sum.inl _ = _); try (congr 2 <;> omega), fun h0_ => by exfalso; omega⟩), (by omega)⟩
      subst hA_
      have g357_ : fs [(344, 344, 5, 5), (344, 344, 9, 10), (358, 358, 0, 100000), (360, 363, 0, 100000)] F F343_ := fs_tr g327_ s345_ rfl
      have rk358_ : rk K F343_ := rk_fs rk328_ s345_ (fun r k h => (fs_n (by omega) (fs_n (by omega) rfl))) (fs_n (by omega) (fs_n (by omega) rfl))
      try simp only [e333_] at c340_
      try simp only [e329_] at c341_
      refine ga_aload_n (v := .ref 344) hm_179 rfl rfl rfl ?_
      refine gIi (nY := 1) (F := 0) (L := 0) (As := []) (b := 344) (rest := []) hm_179 rfl hm_59 rfl rfl (fl_ob sc_344) rfl rfl rfl rfl rfl (by omega) (by omega) ?_
      intro f359_ l360_ h361_ h362_
      show fl_R xi_ms 59 f359_ l360_ 0 [(0, .ref 344)] [] _ _
      refine ga_aload_n (v := .ref 344) hm_59 rfl rfl rfl ?_
      have b363_ : 0 ≤ F343_ 344 9 ∧ F343_ 344 9 ≤ 5 := gi_g g344_ rfl
      refine ga_geti (z := F343_ 344 9) hm_59 rfl sc_344 rfl (rfl) ?_
      refine fl_if_le (a := F343_ 344 9) hm_59 rfl ⟨by omega, by omega⟩ (fun h364_ => ?_) (fun h365_ => ?_)
      ·
        refine fl_iconst hm_59 rfl ?_
        refine gr_i hm_59 rfl rfl (ga_nb (by omega)) ?_
        clear h361_ h362_ f359_ l360_
        refine fl_if_eq hm_179 rfl ⟨by omega, by omega⟩ (fun _ => ?_) (fun h => absurd (by omega) h)
        refine ga_aload_n (v := .ref 344) hm_179 rfl rfl rfl ?_
        refine ga_getr (b := 361) hm_179 rfl sc_344 rfl ?_
        refine ga_iload_n (z := at_ + F 358 a.toNat) hm_179 rfl rfl ?_
        refine ga_iload (z := 1) hm_179 rfl rfl ?_
        refine fl_zast (z := at_ + F 358 a.toNat) (v := 1) hm_179 rfl sc_361 (by omega) (by omega) (by omega) (ga_vb (by omega)) ?_
        refine ga_aload_n (v := .ref 344) hm_179 rfl rfl rfl ?_
        refine ga_getr (b := 360) hm_179 rfl sc_344 rfl ?_
        refine ga_iload_n (z := at_ + F 358 a.toNat) hm_179 rfl rfl ?_
        refine ga_aload_n (v := .ref 344) hm_179 rfl rfl rfl ?_
        refine fl_bipush hm_179 rfl rfl ?_
        obtain ⟨F366_, q367_⟩ : ∃ F9_, F9_ = (fl_u F343_ 361 (at_ + F 358 a.toNat).toNat 1) := ⟨_, rfl⟩
        rw [← q367_]
        have g368_ : gi F366_ := by rw [q367_]; exact gi_u (g344_) rfl (by omega) (by omega)
        have g369_ : fs [(344, 344, 5, 5), (344, 344, 9, 10), (358, 358, 0, 100000), (360, 363, 0, 100000)] F F366_ := by rw [q367_]; exact fs_u (g357_) (fs_z (fs_z (fs_z (fs_y (by omega)))))
        have rk370_ : rk K F366_ := by rw [q367_]; exact rk_u (rk358_) (by omega) (by omega)
        have e371_ : F366_ 344 5 = F343_ 344 5 := by rw [q367_]; exact fl_u_ne (by omega)
        have b372_ : 0 ≤ F343_ 344 5 ∧ F343_ 344 5 ≤ 600 := gi_g g344_ rfl
        refine gVi (nY := 4) (F := 1) (L := 21) (As := [.int (Int32.ofInt 10)]) (b := 344) (rest := [.int (Int32.ofInt (at_ + F 358 a.toNat)), .ref 360]) hm_179 rfl hm_56 rfl rfl (fl_ob sc_344) rfl rfl rfl rfl rfl (by omega) (by omega) (mc_56 hG F366_ X g368_ (K) (10) ([61]) hgK rk370_ hkt (by omega) (by omega) (by decide) (kw_10 rk370_)) (fun _ _ h => False.elim h) ?_
        have e374_ : F366_ 344 9 = F343_ 344 9 := by rw [q367_]; exact fl_u_ne (by omega)
        rintro z373_ A1_ (⟨hA_, hz_, c375_⟩ | ⟨hA_, hz_, c376_, c377_⟩)
        ·
          subst hA_
          subst hz_
          try simp only [e371_, e374_] at c375_
          refine fl_zast (z := at_ + F 358 a.toNat) (v := 0) hm_179 rfl sc_360 (by omega) (by omega) (by omega) (ga_vb (by omega)) ?_
          refine ga_aload_n (v := .ref 344) hm_179 rfl rfl rfl ?_
          refine ga_getr (b := 360) hm_179 rfl sc_344 rfl ?_
          refine ga_iload_n (z := at_ + F 358 a.toNat) hm_179 rfl rfl ?_
          refine ga_zald (z := at_ + F 358 a.toNat) (w := 0) hm_179 rfl sc_360 (by omega) (by omega) (by omega) (fl_u_eq) ?_
          refine fl_if_eq hm_179 rfl ⟨by omega, by omega⟩ (fun _ => ?_) (fun h => absurd (by omega) h)
          refine ga_aload_n (v := .ref 344) hm_179 rfl rfl rfl ?_
          refine ga_iload_n (z := a) hm_179 rfl rfl ?_
          refine ga_iload_n (z := at_ + F 358 a.toNat) hm_179 rfl rfl ?_
          obtain ⟨F378_, q379_⟩ : ∃ F9_, F9_ = (fl_u F366_ 360 (at_ + F 358 a.toNat).toNat 0) := ⟨_, rfl⟩
          rw [← q379_]
          have g380_ : gi F378_ := by rw [q379_]; exact gi_u (g368_) rfl (by omega) (by omega)
          have g381_ : fs [(344, 344, 5, 5), (344, 344, 9, 10), (358, 358, 0, 100000), (360, 363, 0, 100000)] F F378_ := by rw [q379_]; exact fs_u (g369_) (fs_z (fs_z (fs_z (fs_y (by omega)))))
          have rk382_ : rk K F378_ := by rw [q379_]; exact rk_u (rk370_) (by omega) (by omega)
          have e383_ : F378_ 344 5 = F343_ 344 5 := by rw [q379_]; exact (fl_u_ne (by omega)).trans (e371_)
          refine gVv (nY := 7) (F := 4) (L := 91) (As := [.int (Int32.ofInt a), .int (Int32.ofInt (at_ + F 358 a.toNat))]) (b := 344) (rest := []) hm_179 rfl hm_174 rfl rfl (fl_ob sc_344) rfl rfl rfl rfl rfl (by omega) (by omega) (mc_174 hG F378_ X g380_ (K) (a) (at_ + F 358 a.toNat) (k) (l) (tl) (pl) (ps) hgK rk382_ hkt (by omega) ((by rw [q379_]; exact (trm_u (by rw [q367_]; exact (trm_u (trm_fs (by rw [q325_]; exact (trm_u ht (by omega))) s345_ (fun r j hj => (fs_n (by omega) (fs_n (by omega) rfl)))) (by omega))) (by omega)))) (hlt) (by omega) ((by rw [q379_]; exact (rpn_u (by rw [q367_]; exact (rpn_u (rpn_fs (by rw [q325_]; exact (rpn_u hpl (by omega) (by omega))) s345_ (fun _ => (fs_n (by omega) (fs_n (by omega) rfl))) (fs_n (by omega) (fs_n (by omega) rfl))) (by omega) (by omega))) (by omega) (by omega)))) (⟨(by rw [q379_]; exact (rprd_u (by rw [q367_]; exact (rprd_u (rprd_fs (by rw [q325_]; exact (rprd_u hps.1 (by omega))) s345_ (fun r j hj => (fs_n (by omega) (fs_n (by omega) rfl)))) (by omega))) (by omega))), hps.2⟩) (by omega)) (fun _ _ h => False.elim h) ?_
          have e385_ : F366_ 344 10 = F343_ 344 10 := by rw [q367_]; exact fl_u_ne (by omega)
          have e386_ : F378_ 344 10 = F343_ 344 10 := by rw [q379_]; exact (fl_u_ne (by omega)).trans (e385_)
          have b387_ : 0 ≤ F343_ 344 10 ∧ F343_ 344 10 ≤ 600 := gi_g g344_ rfl
          have e388_ : F378_ 344 9 = F343_ 344 9 := by rw [q379_]; exact (fl_u_ne (by omega)).trans (e374_)
          rintro A1_ (⟨F392_, hA_, g393_, s394_, c389_, c390_, c391_⟩ | ⟨F398_, hA_, g399_, s400_, c395_, c396_, c397_⟩)
          ·
            subst hA_
            have g401_ : fs [(344, 344, 5, 5), (344, 344, 9, 10), (358, 358, 0, 100000), (360, 363, 0, 100000)] F F392_ := fs_tr g381_ s394_ rfl
            have rk402_ : rk K F392_ := rk_fs rk382_ s394_ (fun r k h => (fs_n (by omega) (fs_n (by omega) (fs_n (by omega) rfl)))) (fs_n (by omega) (fs_n (by omega) (fs_n (by omega) rfl)))
            try simp only [e383_, e386_, e388_] at c390_
            have c390_s := c390_.1 (by omega)
            clear c390_
            refine ga_iload (z := 1) hm_179 rfl rfl ?_
            refine fl_if_eq hm_179 rfl ⟨by omega, by omega⟩ (fun h => absurd h (by omega)) (fun _ => ?_)
            refine ga_aload_n (v := .ref 344) hm_179 rfl rfl rfl ?_
            refine fl_bipush hm_179 rfl rfl ?_
            have b403_ : 0 ≤ F392_ 344 5 ∧ F392_ 344 5 ≤ 600 := gi_g g393_ rfl
            refine gVv (nY := 2) (F := 2) (L := 41) (As := [.int (Int32.ofInt 41)]) (b := 344) (rest := []) hm_179 rfl hm_51 rfl rfl (fl_ob sc_344) rfl rfl rfl rfl rfl (by omega) (by omega) (mc_51 hG F392_ X g393_ (K) (41) (1) hgK rk402_ hkt (by omega) (by omega) (by omega)) (fun _ _ h => False.elim h) ?_
            have b405_ : 0 ≤ F392_ 344 10 ∧ F392_ 344 10 ≤ 600 := gi_g g393_ rfl
            have b406_ : 0 ≤ F392_ 344 9 ∧ F392_ 344 9 ≤ 5 := gi_g g393_ rfl
            rintro A1_ (⟨F410_, hA_, g411_, s412_, c407_, c408_, c409_⟩ | ⟨F416_, hA_, g417_, s418_, c413_, c414_, c415_⟩)
            ·
              subst hA_
              have g419_ : fs [(344, 344, 5, 5), (344, 344, 9, 10), (358, 358, 0, 100000), (360, 363, 0, 100000)] F F410_ := fs_tr g401_ s412_ rfl
              have rk420_ : rk K F410_ := rk_fs rk402_ s412_ (fun r k h => (fs_n (by omega) (fs_n (by omega) rfl))) (fs_n (by omega) (fs_n (by omega) rfl))
              have c408_k := c408_.2 (by omega)
              clear c408_
              refine ga_aload_n (v := .ref 344) hm_179 rfl rfl rfl ?_
              refine ga_getr (b := 358) hm_179 rfl sc_344 rfl ?_
              refine ga_iload_n (z := a) hm_179 rfl rfl ?_
              refine ga_dup2 hm_179 rfl ⟨rfl, rfl⟩ ?_
              have e421_ : F324_ 358 a.toNat = F 358 a.toNat := by rw [q325_]; exact fl_u_ne (by omega)
              have e422_ : F343_ 358 a.toNat = F 358 a.toNat := (s345_ 358 a.toNat (fs_n (by omega) (fs_n (by omega) rfl))).trans (e421_)
              have e423_ : F366_ 358 a.toNat = F 358 a.toNat := by rw [q367_]; exact (fl_u_ne (by omega)).trans (e422_)
              have e424_ : F378_ 358 a.toNat = F 358 a.toNat := by rw [q379_]; exact (fl_u_ne (by omega)).trans (e423_)
              have e425_ : F392_ 358 a.toNat = F 358 a.toNat := (s394_ 358 a.toNat (fs_n (by omega) (fs_n (by omega) (fs_n (by omega) rfl)))).trans (e424_)
              have e426_ : F410_ 358 a.toNat = F 358 a.toNat := (s412_ 358 a.toNat (fs_n (by omega) (fs_n (by omega) rfl))).trans (e425_)
              refine ga_iald (z := a) (w := F 358 a.toNat) hm_179 rfl sc_358 (by omega) (by omega) (by omega) (e426_) ?_
              refine fl_iconst hm_179 rfl ?_
              refine ga_iadd (a := F 358 a.toNat) (b := 1) (c := F 358 a.toNat + 1) hm_179 rfl (by omega) ?_
              refine fl_iast (z := a) (v := F 358 a.toNat + 1) hm_179 rfl sc_358 (by omega) (by omega) (by omega) ?_
              obtain ⟨F427_, q428_⟩ : ∃ F9_, F9_ = (fl_u F410_ 358 a.toNat (F 358 a.toNat + 1)) := ⟨_, rfl⟩
              rw [← q428_]
              have g429_ : gi F427_ := by rw [q428_]; exact gi_u (g411_) rfl (by omega) (by omega)
              have g430_ : fs [(344, 344, 5, 5), (344, 344, 9, 10), (358, 358, 0, 100000), (360, 363, 0, 100000)] F F427_ := by rw [q428_]; exact fs_u (g419_) (fs_z (fs_z (fs_y (by omega))))
              have rk431_ : rk K F427_ := by rw [q428_]; exact rk_u (rk420_) (by omega) (by omega)
              refine gr_v hm_179 rfl rfl ?_
              have e432_ : F427_ 344 9 = F410_ 344 9 := by rw [q428_]; exact fl_u_ne (by omega)
              have b433_ : 0 ≤ F410_ 344 9 ∧ F410_ 344 9 ≤ 5 := gi_g g411_ rfl
              have e434_ : F427_ 344 10 = F410_ 344 10 := by rw [q428_]; exact fl_u_ne (by omega)
              have e435_ : F427_ 344 5 = F410_ 344 5 := by rw [q428_]; exact fl_u_ne (by omega)
              have b436_ : 0 ≤ F410_ 344 10 ∧ F410_ 344 10 ≤ 600 := gi_g g411_ rfl
              have b437_ : 0 ≤ F410_ 344 5 ∧ F410_ 344 5 ≤ 600 := gi_g g411_ rfl
              exact Or.inl ⟨F427_, rfl, g429_, g430_, (by omega), (⟨by intro h0_; have hs_ := c390_s; rw [sp_lit, if_pos c13_.2, (show sk K (F 344 5) = F 344 5 + 1 by rw [sk, if_pos (by omega)])]; rw [c341_, pb_r]; rw [sp_lx, if_neg (fun h8_ => c375_ ⟨by omega, h8_⟩)]; rw [hs_]; try (show Sum.inl _ = _); try (congr 2 <;> omega), fun h0_ => by exfalso; omega⟩), (by omega)⟩
            exfalso; omega
          subst hA_
          have g438_ : fs [(344, 344, 5, 5), (344, 344, 9, 10), (358, 358, 0, 100000), (360, 363, 0, 100000)] F F398_ := fs_tr g381_ s400_ rfl
          have rk439_ : rk K F398_ := rk_fs rk382_ s400_ (fun r k h => (fs_n (by omega) (fs_n (by omega) (fs_n (by omega) rfl)))) (fs_n (by omega) (fs_n (by omega) (fs_n (by omega) rfl)))
          try simp only [e388_] at c395_
          try simp only [e383_] at c396_
          refine ga_iload (z := 1) hm_179 rfl rfl ?_
          refine fl_if_eq hm_179 rfl ⟨by omega, by omega⟩ (fun h => absurd h (by omega)) (fun _ => ?_)
          refine ga_aload_n (v := .ref 344) hm_179 rfl rfl rfl ?_
          refine fl_bipush hm_179 rfl rfl ?_
          have b440_ : 0 ≤ F398_ 344 5 ∧ F398_ 344 5 ≤ 600 := gi_g g399_ rfl
          refine gVv (nY := 2) (F := 2) (L := 41) (As := [.int (Int32.ofInt 41)]) (b := 344) (rest := []) hm_179 rfl hm_51 rfl rfl (fl_ob sc_344) rfl rfl rfl rfl rfl (by omega) (by omega) (mc_51 hG F398_ X g399_ (K) (41) (1) hgK rk439_ hkt (by omega) (by omega) (by omega)) (fun _ _ h => False.elim h) ?_
          have b442_ : 0 ≤ F398_ 344 10 ∧ F398_ 344 10 ≤ 600 := gi_g g399_ rfl
          have b443_ : 0 ≤ F398_ 344 9 ∧ F398_ 344 9 ≤ 5 := gi_g g399_ rfl
          rintro A1_ (⟨F447_, hA_, g448_, s449_, c444_, c445_, c446_⟩ | ⟨F453_, hA_, g454_, s455_, c450_, c451_, c452_⟩)
          ·
            subst hA_
            have g456_ : fs [(344, 344, 5, 5), (344, 344, 9, 10), (358, 358, 0, 100000), (360, 363, 0, 100000)] F F447_ := fs_tr g438_ s449_ rfl
            have rk457_ : rk K F447_ := rk_fs rk439_ s449_ (fun r k h => (fs_n (by omega) (fs_n (by omega) rfl))) (fs_n (by omega) (fs_n (by omega) rfl))
            have c445_s := c445_.1 (by omega)
            clear c445_
            refine ga_aload_n (v := .ref 344) hm_179 rfl rfl rfl ?_
            refine ga_getr (b := 358) hm_179 rfl sc_344 rfl ?_
            refine ga_iload_n (z := a) hm_179 rfl rfl ?_
            refine ga_dup2 hm_179 rfl ⟨rfl, rfl⟩ ?_
            have e458_ : F324_ 358 a.toNat = F 358 a.toNat := by rw [q325_]; exact fl_u_ne (by omega)
            have e459_ : F343_ 358 a.toNat = F 358 a.toNat := (s345_ 358 a.toNat (fs_n (by omega) (fs_n (by omega) rfl))).trans (e458_)
            have e460_ : F366_ 358 a.toNat = F 358 a.toNat := by rw [q367_]; exact (fl_u_ne (by omega)).trans (e459_)
            have e461_ : F378_ 358 a.toNat = F 358 a.toNat := by rw [q379_]; exact (fl_u_ne (by omega)).trans (e460_)
            have e462_ : F398_ 358 a.toNat = F 358 a.toNat := (s400_ 358 a.toNat (fs_n (by omega) (fs_n (by omega) (fs_n (by omega) rfl)))).trans (e461_)
            have e463_ : F447_ 358 a.toNat = F 358 a.toNat := (s449_ 358 a.toNat (fs_n (by omega) (fs_n (by omega) rfl))).trans (e462_)
            refine ga_iald (z := a) (w := F 358 a.toNat) hm_179 rfl sc_358 (by omega) (by omega) (by omega) (e463_) ?_
            refine fl_iconst hm_179 rfl ?_
            refine ga_iadd (a := F 358 a.toNat) (b := 1) (c := F 358 a.toNat + 1) hm_179 rfl (by omega) ?_
            refine fl_iast (z := a) (v := F 358 a.toNat + 1) hm_179 rfl sc_358 (by omega) (by omega) (by omega) ?_
            obtain ⟨F464_, q465_⟩ : ∃ F9_, F9_ = (fl_u F447_ 358 a.toNat (F 358 a.toNat + 1)) := ⟨_, rfl⟩
            rw [← q465_]
            have g466_ : gi F464_ := by rw [q465_]; exact gi_u (g448_) rfl (by omega) (by omega)
            have g467_ : fs [(344, 344, 5, 5), (344, 344, 9, 10), (358, 358, 0, 100000), (360, 363, 0, 100000)] F F464_ := by rw [q465_]; exact fs_u (g456_) (fs_z (fs_z (fs_y (by omega))))
            have rk468_ : rk K F464_ := by rw [q465_]; exact rk_u (rk457_) (by omega) (by omega)
            refine gr_v hm_179 rfl rfl ?_
            have e469_ : F464_ 344 9 = F447_ 344 9 := by rw [q465_]; exact fl_u_ne (by omega)
            have b470_ : 0 ≤ F447_ 344 9 ∧ F447_ 344 9 ≤ 5 := gi_g g448_ rfl
            have e471_ : F464_ 344 10 = F447_ 344 10 := by rw [q465_]; exact fl_u_ne (by omega)
            have e472_ : F464_ 344 5 = F447_ 344 5 := by rw [q465_]; exact fl_u_ne (by omega)
            have b473_ : 0 ≤ F447_ 344 10 ∧ F447_ 344 10 ≤ 600 := gi_g g448_ rfl
            have b474_ : 0 ≤ F447_ 344 5 ∧ F447_ 344 5 ≤ 600 := gi_g g448_ rfl
            exact Or.inl ⟨F464_, rfl, g466_, g467_, (by omega), (⟨by intro h0_; have hs_ := c445_s; rw [sp_lit, if_pos c13_.2, (show sk K (F 344 5) = F 344 5 + 1 by rw [sk, if_pos (by omega)])]; rw [c341_, pb_r]; rw [sp_lx, if_neg (fun h8_ => c375_ ⟨by omega, h8_⟩)]; rw [c396_]; rw [pb_r]; rw [hs_]; try (show Sum.inl _ = _); try (congr 2 <;> omega), fun h0_ => by exfalso; omega⟩), (by omega)⟩
          subst hA_
          have g475_ : fs [(344, 344, 5, 5), (344, 344, 9, 10), (358, 358, 0, 100000), (360, 363, 0, 100000)] F F453_ := fs_tr g438_ s455_ rfl
          have rk476_ : rk K F453_ := rk_fs rk439_ s455_ (fun r k h => (fs_n (by omega) (fs_n (by omega) rfl))) (fs_n (by omega) (fs_n (by omega) rfl))
          refine ga_aload_n (v := .ref 344) hm_179 rfl rfl rfl ?_
          refine ga_getr (b := 358) hm_179 rfl sc_344 rfl ?_
          refine ga_iload_n (z := a) hm_179 rfl rfl ?_
          refine ga_dup2 hm_179 rfl ⟨rfl, rfl⟩ ?_
          have e477_ : F324_ 358 a.toNat = F 358 a.toNat := by rw [q325_]; exact fl_u_ne (by omega)
          have e478_ : F343_ 358 a.toNat = F 358 a.toNat := (s345_ 358 a.toNat (fs_n (by omega) (fs_n (by omega) rfl))).trans (e477_)
          have e479_ : F366_ 358 a.toNat = F 358 a.toNat := by rw [q367_]; exact (fl_u_ne (by omega)).trans (e478_)
          have e480_ : F378_ 358 a.toNat = F 358 a.toNat := by rw [q379_]; exact (fl_u_ne (by omega)).trans (e479_)
          have e481_ : F398_ 358 a.toNat = F 358 a.toNat := (s400_ 358 a.toNat (fs_n (by omega) (fs_n (by omega) (fs_n (by omega) rfl)))).trans (e480_)
          have e482_ : F453_ 358 a.toNat = F 358 a.toNat := (s455_ 358 a.toNat (fs_n (by omega) (fs_n (by omega) rfl))).trans (e481_)
          refine ga_iald (z := a) (w := F 358 a.toNat) hm_179 rfl sc_358 (by omega) (by omega) (by omega) (e482_) ?_
          refine fl_iconst hm_179 rfl ?_
          refine ga_iadd (a := F 358 a.toNat) (b := 1) (c := F 358 a.toNat + 1) hm_179 rfl (by omega) ?_
          refine fl_iast (z := a) (v := F 358 a.toNat + 1) hm_179 rfl sc_358 (by omega) (by omega) (by omega) ?_
          obtain ⟨F483_, q484_⟩ : ∃ F9_, F9_ = (fl_u F453_ 358 a.toNat (F 358 a.toNat + 1)) := ⟨_, rfl⟩
          rw [← q484_]
          have g485_ : gi F483_ := by rw [q484_]; exact gi_u (g454_) rfl (by omega) (by omega)
          have g486_ : fs [(344, 344, 5, 5), (344, 344, 9, 10), (358, 358, 0, 100000), (360, 363, 0, 100000)] F F483_ := by rw [q484_]; exact fs_u (g475_) (fs_z (fs_z (fs_y (by omega))))
          have rk487_ : rk K F483_ := by rw [q484_]; exact rk_u (rk476_) (by omega) (by omega)
          refine gr_v hm_179 rfl rfl ?_
          have e488_ : F483_ 344 9 = F453_ 344 9 := by rw [q484_]; exact fl_u_ne (by omega)
          have b489_ : 0 ≤ F453_ 344 9 ∧ F453_ 344 9 ≤ 5 := gi_g g454_ rfl
          have e490_ : F483_ 344 10 = F453_ 344 10 := by rw [q484_]; exact fl_u_ne (by omega)
          have e491_ : F483_ 344 5 = F453_ 344 5 := by rw [q484_]; exact fl_u_ne (by omega)
          have b492_ : 0 ≤ F453_ 344 5 ∧ F453_ 344 5 ≤ 600 := gi_g g454_ rfl
          exact Or.inr (⟨F483_, rfl, g485_, g486_, (by omega), (by rw [sp_lit, if_pos c13_.2, (show sk K (F 344 5) = F 344 5 + 1 by rw [sk, if_pos (by omega)])]; rw [c341_, pb_r]; rw [sp_lx, if_neg (fun h8_ => c375_ ⟨by omega, h8_⟩)]; rw [c396_]; rw [pb_r]; rw [c451_]; try (congr 1; omega)), (by omega), (by omega)⟩)
        subst hA_
        subst hz_
        try simp only [e371_, e374_] at c376_
        try simp only [e371_] at c377_
        refine fl_zast (z := at_ + F 358 a.toNat) (v := 1) hm_179 rfl sc_360 (by omega) (by omega) (by omega) (ga_vb (by omega)) ?_
        refine ga_aload_n (v := .ref 344) hm_179 rfl rfl rfl ?_
        refine ga_getr (b := 360) hm_179 rfl sc_344 rfl ?_
        refine ga_iload_n (z := at_ + F 358 a.toNat) hm_179 rfl rfl ?_
        refine ga_zald (z := at_ + F 358 a.toNat) (w := 1) hm_179 rfl sc_360 (by omega) (by omega) (by omega) (fl_u_eq) ?_
        refine fl_if_eq hm_179 rfl ⟨by omega, by omega⟩ (fun h => absurd h (by omega)) (fun _ => ?_)
        have hszE := (kw_iff (w := [61]) hkt hgK (p := F343_ 344 5) (by omega) (by omega) (by decide) (by decide)).mp c376_.2
        refine ga_aload_n (v := .ref 344) hm_179 rfl rfl rfl ?_
        refine ga_dup hm_179 rfl rfl ?_
        refine ga_geti (z := F343_ 344 5) hm_179 rfl sc_344 rfl ((fl_u_ne (by omega)).trans (e371_)) ?_
        refine fl_iconst hm_179 rfl ?_
        refine ga_iadd (a := F343_ 344 5) (b := 1) (c := F343_ 344 5 + 1) hm_179 rfl (by omega) ?_
        refine ga_puti (z := F343_ 344 5 + 1) hm_179 rfl sc_344 rfl rfl ?_
        refine fl_iconst hm_179 rfl ?_
        refine ga_istore (lv2 := [(5, .int (Int32.ofInt 0)), (4, .int (Int32.ofInt 1)), (3, .int (Int32.ofInt (at_ + F 358 a.toNat))), (0, .ref 344), (1, .int (Int32.ofInt a)), (2, .int (Int32.ofInt at_))]) hm_179 rfl (Nat.le_of_ble_eq_true rfl) rfl ?_
        refine ga_iload (z := 0) hm_179 rfl rfl ?_
        refine fl_iconst hm_179 rfl ?_
        refine fl_icmp_ge hm_179 rfl ⟨by omega, by omega⟩ ⟨by omega, by omega⟩ (fun h => absurd h (by omega)) (fun _ => ?_)
        refine ga_aload_n (v := .ref 344) hm_179 rfl rfl rfl ?_
        refine ga_getr (b := 363) hm_179 rfl sc_344 rfl ?_
        refine fl_iconst hm_179 rfl ?_
        refine ga_iload_n (z := at_ + F 358 a.toNat) hm_179 rfl rfl ?_
        refine ga_imul (a := 2) (b := at_ + F 358 a.toNat) (c := 2 * at_ + 2 * (F 358 a.toNat)) hm_179 rfl (by omega) ?_
        refine ga_iload (z := 0) hm_179 rfl rfl ?_
        refine ga_iadd (a := 2 * at_ + 2 * (F 358 a.toNat)) (b := 0) (c := 2 * at_ + 2 * (F 358 a.toNat)) hm_179 rfl (by omega) ?_
        refine ga_aload_n (v := .ref 344) hm_179 rfl rfl rfl ?_
        refine ga_iload_n (z := a) hm_179 rfl rfl ?_
        refine fl_iconst hm_179 rfl ?_
        obtain ⟨F493_, q494_⟩ : ∃ F9_, F9_ = (fl_u (fl_u F366_ 360 (at_ + F 358 a.toNat).toNat 1) 344 5 (F343_ 344 5 + 1)) := ⟨_, rfl⟩
        rw [← q494_]
        have g495_ : gi F493_ := by rw [q494_]; exact gi_u (gi_u (g368_) rfl (by omega) (by omega)) rfl (by omega) (by omega)
        have g496_ : fs [(344, 344, 5, 5), (344, 344, 9, 10), (358, 358, 0, 100000), (360, 363, 0, 100000)] F F493_ := by rw [q494_]; exact fs_u (fs_u (g369_) (fs_z (fs_z (fs_z (fs_y (by omega)))))) rfl
        have rk497_ : rk K F493_ := by rw [q494_]; exact rk_u (rk_u (rk370_) (by omega) (by omega)) (by omega) (by omega)
        have e498_ : F493_ 344 5 = F343_ 344 5 + 1 := by rw [q494_]; exact fl_u_eq
        refine gVi (nY := 6) (F := 3) (L := 66) (As := [.int (Int32.ofInt a), .int (Int32.ofInt (-1))]) (b := 344) (rest := [.int (Int32.ofInt (2 * at_ + 2 * (F 358 a.toNat))), .ref 363]) hm_179 rfl hm_185 rfl rfl (fl_ob sc_344) rfl rfl rfl rfl rfl (by omega) (by omega) (mc_185 hG F493_ X g495_ (K) (a) (-1) (k) (-1) (l) (tl) hgK rk497_ hkt (by omega) ((by rw [q494_]; exact (trm_u (trm_u (by rw [q367_]; exact (trm_u (trm_fs (by rw [q325_]; exact (trm_u ht (by omega))) s345_ (fun r j hj => (fs_n (by omega) (fs_n (by omega) rfl)))) (by omega))) (by omega)) (by omega)))) (hlt) (Or.inl ⟨by omega, by omega, rfl⟩) (by omega)) (fun _ _ h => False.elim h) ?_
        have e500_ : F366_ 344 10 = F343_ 344 10 := by rw [q367_]; exact fl_u_ne (by omega)
        have e501_ : F493_ 344 10 = F343_ 344 10 := by rw [q494_]; exact (fl_u_ne (by omega)).trans ((fl_u_ne (by omega)).trans (e500_))
        have b502_ : 0 ≤ F343_ 344 10 ∧ F343_ 344 10 ≤ 600 := gi_g g344_ rfl
        have e503_ : F493_ 344 9 = F343_ 344 9 := by rw [q494_]; exact (fl_u_ne (by omega)).trans ((fl_u_ne (by omega)).trans (e374_))
        rintro z499_ A1_ (⟨F508_, hA_, g509_, s510_, c504_, c505_, c506_, c507_⟩ | ⟨F515_, hA_, g516_, s517_, c511_, c512_, c513_, c514_⟩)
        ·
          subst hA_
          have g518_ : fs [(344, 344, 5, 5), (344, 344, 9, 10), (358, 358, 0, 100000), (360, 363, 0, 100000)] F F508_ := fs_tr g496_ s510_ rfl
          have rk519_ : rk K F508_ := rk_fs rk497_ s510_ (fun r k h => (fs_n (by omega) (fs_n (by omega) rfl))) (fs_n (by omega) (fs_n (by omega) rfl))
          try simp only [e498_, e501_, e503_] at c505_
          have c505_s := c505_.1 (by omega)
          clear c505_
          refine fl_iast (z := 2 * at_ + 2 * (F 358 a.toNat)) (v := z499_) hm_179 rfl sc_363 (by omega) (by omega) (by omega) ?_
          refine ga_inc (a := 0) (c := 1) (lv2 := [(5, .int (Int32.ofInt 1)), (4, .int (Int32.ofInt 1)), (3, .int (Int32.ofInt (at_ + F 358 a.toNat))), (0, .ref 344), (1, .int (Int32.ofInt a)), (2, .int (Int32.ofInt at_))]) hm_179 rfl rfl (Nat.le_of_ble_eq_true rfl) (by omega) rfl ?_
          refine fl_goto hm_179 rfl ?_
          refine ga_iload (z := 1) hm_179 rfl rfl ?_
          refine fl_iconst hm_179 rfl ?_
          refine fl_icmp_ge hm_179 rfl ⟨by omega, by omega⟩ ⟨by omega, by omega⟩ (fun h => absurd h (by omega)) (fun _ => ?_)
          refine ga_aload_n (v := .ref 344) hm_179 rfl rfl rfl ?_
          refine ga_getr (b := 363) hm_179 rfl sc_344 rfl ?_
          refine fl_iconst hm_179 rfl ?_
          refine ga_iload_n (z := at_ + F 358 a.toNat) hm_179 rfl rfl ?_
          refine ga_imul (a := 2) (b := at_ + F 358 a.toNat) (c := 2 * at_ + 2 * (F 358 a.toNat)) hm_179 rfl (by omega) ?_
          refine ga_iload (z := 1) hm_179 rfl rfl ?_
          refine ga_iadd (a := 2 * at_ + 2 * (F 358 a.toNat)) (b := 1) (c := 2 * at_ + 2 * (F 358 a.toNat) + 1) hm_179 rfl (by omega) ?_
          refine ga_aload_n (v := .ref 344) hm_179 rfl rfl rfl ?_
          refine ga_iload_n (z := a) hm_179 rfl rfl ?_
          refine fl_iconst hm_179 rfl ?_
          obtain ⟨F520_, q521_⟩ : ∃ F9_, F9_ = (fl_u F508_ 363 (2 * at_ + 2 * (F 358 a.toNat)).toNat z499_) := ⟨_, rfl⟩
          rw [← q521_]
          have g522_ : gi F520_ := by rw [q521_]; exact gi_u (g509_) rfl (by omega) (by omega)
          have g523_ : fs [(344, 344, 5, 5), (344, 344, 9, 10), (358, 358, 0, 100000), (360, 363, 0, 100000)] F F520_ := by rw [q521_]; exact fs_u (g518_) (fs_z (fs_z (fs_z (fs_y (by omega)))))
          have rk524_ : rk K F520_ := by rw [q521_]; exact rk_u (rk519_) (by omega) (by omega)
          have e525_ : F520_ 344 5 = F508_ 344 5 := by rw [q521_]; exact fl_u_ne (by omega)
          have b526_ : 0 ≤ F508_ 344 5 ∧ F508_ 344 5 ≤ 600 := gi_g g509_ rfl
          refine gVi (nY := 6) (F := 3) (L := 66) (As := [.int (Int32.ofInt a), .int (Int32.ofInt (-1))]) (b := 344) (rest := [.int (Int32.ofInt (2 * at_ + 2 * (F 358 a.toNat) + 1)), .ref 363]) hm_179 rfl hm_185 rfl rfl (fl_ob sc_344) rfl rfl rfl rfl rfl (by omega) (by omega) (mc_185 hG F520_ X g522_ (K) (a) (-1) (k) (-1) (l) (tl) hgK rk524_ hkt (by omega) ((by rw [q521_]; exact (trm_u (trm_fs (by rw [q494_]; exact (trm_u (trm_u (by rw [q367_]; exact (trm_u (trm_fs (by rw [q325_]; exact (trm_u ht (by omega))) s345_ (fun r j hj => (fs_n (by omega) (fs_n (by omega) rfl)))) (by omega))) (by omega)) (by omega))) s510_ (fun r j hj => (fs_n (by omega) (fs_n (by omega) rfl)))) (by omega)))) (hlt) (Or.inl ⟨by omega, by omega, rfl⟩) (by omega)) (fun _ _ h => False.elim h) ?_
          have e528_ : F520_ 344 10 = F508_ 344 10 := by rw [q521_]; exact fl_u_ne (by omega)
          have b529_ : 0 ≤ F508_ 344 10 ∧ F508_ 344 10 ≤ 600 := gi_g g509_ rfl
          have e530_ : F520_ 344 9 = F508_ 344 9 := by rw [q521_]; exact fl_u_ne (by omega)
          have b531_ : 0 ≤ F508_ 344 9 ∧ F508_ 344 9 ≤ 5 := gi_g g509_ rfl
          rintro z527_ A1_ (⟨F536_, hA_, g537_, s538_, c532_, c533_, c534_, c535_⟩ | ⟨F543_, hA_, g544_, s545_, c539_, c540_, c541_, c542_⟩)
          ·
            subst hA_
            have g546_ : fs [(344, 344, 5, 5), (344, 344, 9, 10), (358, 358, 0, 100000), (360, 363, 0, 100000)] F F536_ := fs_tr g523_ s538_ rfl
            have rk547_ : rk K F536_ := rk_fs rk524_ s538_ (fun r k h => (fs_n (by omega) (fs_n (by omega) rfl))) (fs_n (by omega) (fs_n (by omega) rfl))
            try simp only [e525_, e528_, e530_] at c533_
            have c533_k := c533_.2 (by omega)
            clear c533_
            refine fl_iast (z := 2 * at_ + 2 * (F 358 a.toNat) + 1) (v := z527_) hm_179 rfl sc_363 (by omega) (by omega) (by omega) ?_
            refine ga_inc (a := 1) (c := 2) (lv2 := [(5, .int (Int32.ofInt 2)), (4, .int (Int32.ofInt 1)), (3, .int (Int32.ofInt (at_ + F 358 a.toNat))), (0, .ref 344), (1, .int (Int32.ofInt a)), (2, .int (Int32.ofInt at_))]) hm_179 rfl rfl (Nat.le_of_ble_eq_true rfl) (by omega) rfl ?_
            refine fl_goto hm_179 rfl ?_
            refine ga_iload (z := 2) hm_179 rfl rfl ?_
            refine fl_iconst hm_179 rfl ?_
            refine fl_icmp_ge hm_179 rfl ⟨by omega, by omega⟩ ⟨by omega, by omega⟩ (fun _ => ?_) (fun h => absurd (by omega) h)
            refine ga_aload_n (v := .ref 344) hm_179 rfl rfl rfl ?_
            refine fl_bipush hm_179 rfl rfl ?_
            obtain ⟨F548_, q549_⟩ : ∃ F9_, F9_ = (fl_u F536_ 363 (2 * at_ + 2 * (F 358 a.toNat) + 1).toNat z527_) := ⟨_, rfl⟩
            rw [← q549_]
            have g550_ : gi F548_ := by rw [q549_]; exact gi_u (g537_) rfl (by omega) (by omega)
            have g551_ : fs [(344, 344, 5, 5), (344, 344, 9, 10), (358, 358, 0, 100000), (360, 363, 0, 100000)] F F548_ := by rw [q549_]; exact fs_u (g546_) (fs_z (fs_z (fs_z (fs_y (by omega)))))
            have rk552_ : rk K F548_ := by rw [q549_]; exact rk_u (rk547_) (by omega) (by omega)
            have e553_ : F548_ 344 5 = F536_ 344 5 := by rw [q549_]; exact fl_u_ne (by omega)
            have b554_ : 0 ≤ F536_ 344 5 ∧ F536_ 344 5 ≤ 600 := gi_g g537_ rfl
            refine gVv (nY := 2) (F := 2) (L := 41) (As := [.int (Int32.ofInt 41)]) (b := 344) (rest := []) hm_179 rfl hm_51 rfl rfl (fl_ob sc_344) rfl rfl rfl rfl rfl (by omega) (by omega) (mc_51 hG F548_ X g550_ (K) (41) (1) hgK rk552_ hkt (by omega) (by omega) (by omega)) (fun _ _ h => False.elim h) ?_
            have e556_ : F548_ 344 10 = F536_ 344 10 := by rw [q549_]; exact fl_u_ne (by omega)
            have b557_ : 0 ≤ F536_ 344 10 ∧ F536_ 344 10 ≤ 600 := gi_g g537_ rfl
            have e558_ : F548_ 344 9 = F536_ 344 9 := by rw [q549_]; exact fl_u_ne (by omega)
            have b559_ : 0 ≤ F536_ 344 9 ∧ F536_ 344 9 ≤ 5 := gi_g g537_ rfl
            rintro A1_ (⟨F563_, hA_, g564_, s565_, c560_, c561_, c562_⟩ | ⟨F569_, hA_, g570_, s571_, c566_, c567_, c568_⟩)
            ·
              subst hA_
              have g572_ : fs [(344, 344, 5, 5), (344, 344, 9, 10), (358, 358, 0, 100000), (360, 363, 0, 100000)] F F563_ := fs_tr g551_ s565_ rfl
              have rk573_ : rk K F563_ := rk_fs rk552_ s565_ (fun r k h => (fs_n (by omega) (fs_n (by omega) rfl))) (fs_n (by omega) (fs_n (by omega) rfl))
              try simp only [e553_, e556_, e558_] at c561_
              have c561_k := c561_.2 (by omega)
              clear c561_
              refine fl_goto hm_179 rfl ?_
              refine ga_iload (z := 1) hm_179 rfl rfl ?_
              refine fl_if_eq hm_179 rfl ⟨by omega, by omega⟩ (fun h => absurd h (by omega)) (fun _ => ?_)
              refine ga_aload_n (v := .ref 344) hm_179 rfl rfl rfl ?_
              refine fl_bipush hm_179 rfl rfl ?_
              have b574_ : 0 ≤ F563_ 344 5 ∧ F563_ 344 5 ≤ 600 := gi_g g564_ rfl
              refine gVv (nY := 2) (F := 2) (L := 41) (As := [.int (Int32.ofInt 41)]) (b := 344) (rest := []) hm_179 rfl hm_51 rfl rfl (fl_ob sc_344) rfl rfl rfl rfl rfl (by omega) (by omega) (mc_51 hG F563_ X g564_ (K) (41) (1) hgK rk573_ hkt (by omega) (by omega) (by omega)) (fun _ _ h => False.elim h) ?_
              have b576_ : 0 ≤ F563_ 344 10 ∧ F563_ 344 10 ≤ 600 := gi_g g564_ rfl
              have b577_ : 0 ≤ F563_ 344 9 ∧ F563_ 344 9 ≤ 5 := gi_g g564_ rfl
              rintro A1_ (⟨F581_, hA_, g582_, s583_, c578_, c579_, c580_⟩ | ⟨F587_, hA_, g588_, s589_, c584_, c585_, c586_⟩)
              ·
                subst hA_
                have g590_ : fs [(344, 344, 5, 5), (344, 344, 9, 10), (358, 358, 0, 100000), (360, 363, 0, 100000)] F F581_ := fs_tr g572_ s583_ rfl
                have rk591_ : rk K F581_ := rk_fs rk573_ s583_ (fun r k h => (fs_n (by omega) (fs_n (by omega) rfl))) (fs_n (by omega) (fs_n (by omega) rfl))
                have c579_k := c579_.2 (by omega)
                clear c579_
                refine ga_aload_n (v := .ref 344) hm_179 rfl rfl rfl ?_
                refine ga_getr (b := 358) hm_179 rfl sc_344 rfl ?_
                refine ga_iload_n (z := a) hm_179 rfl rfl ?_
                refine ga_dup2 hm_179 rfl ⟨rfl, rfl⟩ ?_
                have e592_ : F324_ 358 a.toNat = F 358 a.toNat := by rw [q325_]; exact fl_u_ne (by omega)
                have e593_ : F343_ 358 a.toNat = F 358 a.toNat := (s345_ 358 a.toNat (fs_n (by omega) (fs_n (by omega) rfl))).trans (e592_)
                have e594_ : F366_ 358 a.toNat = F 358 a.toNat := by rw [q367_]; exact (fl_u_ne (by omega)).trans (e593_)
                have e595_ : F493_ 358 a.toNat = F 358 a.toNat := by rw [q494_]; exact (fl_u_ne (by omega)).trans ((fl_u_ne (by omega)).trans (e594_))
                have e596_ : F508_ 358 a.toNat = F 358 a.toNat := (s510_ 358 a.toNat (fs_n (by omega) (fs_n (by omega) rfl))).trans (e595_)
                have e597_ : F520_ 358 a.toNat = F 358 a.toNat := by rw [q521_]; exact (fl_u_ne (by omega)).trans (e596_)
                have e598_ : F536_ 358 a.toNat = F 358 a.toNat := (s538_ 358 a.toNat (fs_n (by omega) (fs_n (by omega) rfl))).trans (e597_)
                have e599_ : F548_ 358 a.toNat = F 358 a.toNat := by rw [q549_]; exact (fl_u_ne (by omega)).trans (e598_)
                have e600_ : F563_ 358 a.toNat = F 358 a.toNat := (s565_ 358 a.toNat (fs_n (by omega) (fs_n (by omega) rfl))).trans (e599_)
                have e601_ : F581_ 358 a.toNat = F 358 a.toNat := (s583_ 358 a.toNat (fs_n (by omega) (fs_n (by omega) rfl))).trans (e600_)
                refine ga_iald (z := a) (w := F 358 a.toNat) hm_179 rfl sc_358 (by omega) (by omega) (by omega) (e601_) ?_
                refine fl_iconst hm_179 rfl ?_
                refine ga_iadd (a := F 358 a.toNat) (b := 1) (c := F 358 a.toNat + 1) hm_179 rfl (by omega) ?_
                refine fl_iast (z := a) (v := F 358 a.toNat + 1) hm_179 rfl sc_358 (by omega) (by omega) (by omega) ?_
                obtain ⟨F602_, q603_⟩ : ∃ F9_, F9_ = (fl_u F581_ 358 a.toNat (F 358 a.toNat + 1)) := ⟨_, rfl⟩
                rw [← q603_]
                have g604_ : gi F602_ := by rw [q603_]; exact gi_u (g582_) rfl (by omega) (by omega)
                have g605_ : fs [(344, 344, 5, 5), (344, 344, 9, 10), (358, 358, 0, 100000), (360, 363, 0, 100000)] F F602_ := by rw [q603_]; exact fs_u (g590_) (fs_z (fs_z (fs_y (by omega))))
                have rk606_ : rk K F602_ := by rw [q603_]; exact rk_u (rk591_) (by omega) (by omega)
                refine gr_v hm_179 rfl rfl ?_
                have e607_ : F602_ 344 9 = F581_ 344 9 := by rw [q603_]; exact fl_u_ne (by omega)
                have b608_ : 0 ≤ F581_ 344 9 ∧ F581_ 344 9 ≤ 5 := gi_g g582_ rfl
                have e609_ : F602_ 344 10 = F581_ 344 10 := by rw [q603_]; exact fl_u_ne (by omega)
                have e610_ : F602_ 344 5 = F581_ 344 5 := by rw [q603_]; exact fl_u_ne (by omega)
                have b611_ : 0 ≤ F581_ 344 10 ∧ F581_ 344 10 ≤ 600 := gi_g g582_ rfl
                have b612_ : 0 ≤ F581_ 344 5 ∧ F581_ 344 5 ≤ 600 := gi_g g582_ rfl
                exact Or.inl ⟨F602_, rfl, g604_, g605_, (by omega), (⟨by intro h0_; have hs_ := c505_s; rw [sp_lit, if_pos c13_.2, (show sk K (F 344 5) = F 344 5 + 1 by rw [sk, if_pos (by omega)])]; rw [c341_, pb_r]; rw [sp_lx, if_pos c376_.2, sp_eq, (show sk K (F343_ 344 5) = F343_ 344 5 + 1 by rw [sk, if_pos (by omega)])]; rw [hs_]; try (show Sum.inl _ = _); try (congr 2 <;> omega), fun h0_ => by exfalso; omega⟩), (by omega)⟩
              exfalso; omega
            exfalso; omega
          exfalso; omega
        subst hA_
        have g613_ : fs [(344, 344, 5, 5), (344, 344, 9, 10), (358, 358, 0, 100000), (360, 363, 0, 100000)] F F515_ := fs_tr g496_ s517_ rfl
        have rk614_ : rk K F515_ := rk_fs rk497_ s517_ (fun r k h => (fs_n (by omega) (fs_n (by omega) rfl))) (fs_n (by omega) (fs_n (by omega) rfl))
        try simp only [e503_] at c511_
        try simp only [e498_] at c512_
        refine fl_iast (z := 2 * at_ + 2 * (F 358 a.toNat)) (v := z499_) hm_179 rfl sc_363 (by omega) (by omega) (by omega) ?_
        refine ga_inc (a := 0) (c := 1) (lv2 := [(5, .int (Int32.ofInt 1)), (4, .int (Int32.ofInt 1)), (3, .int (Int32.ofInt (at_ + F 358 a.toNat))), (0, .ref 344), (1, .int (Int32.ofInt a)), (2, .int (Int32.ofInt at_))]) hm_179 rfl rfl (Nat.le_of_ble_eq_true rfl) (by omega) rfl ?_
        refine fl_goto hm_179 rfl ?_
        refine ga_iload (z := 1) hm_179 rfl rfl ?_
        refine fl_iconst hm_179 rfl ?_
        refine fl_icmp_ge hm_179 rfl ⟨by omega, by omega⟩ ⟨by omega, by omega⟩ (fun h => absurd h (by omega)) (fun _ => ?_)
        refine ga_aload_n (v := .ref 344) hm_179 rfl rfl rfl ?_
        refine ga_getr (b := 363) hm_179 rfl sc_344 rfl ?_
        refine fl_iconst hm_179 rfl ?_
        refine ga_iload_n (z := at_ + F 358 a.toNat) hm_179 rfl rfl ?_
        refine ga_imul (a := 2) (b := at_ + F 358 a.toNat) (c := 2 * at_ + 2 * (F 358 a.toNat)) hm_179 rfl (by omega) ?_
        refine ga_iload (z := 1) hm_179 rfl rfl ?_
        refine ga_iadd (a := 2 * at_ + 2 * (F 358 a.toNat)) (b := 1) (c := 2 * at_ + 2 * (F 358 a.toNat) + 1) hm_179 rfl (by omega) ?_
        refine ga_aload_n (v := .ref 344) hm_179 rfl rfl rfl ?_
        refine ga_iload_n (z := a) hm_179 rfl rfl ?_
        refine fl_iconst hm_179 rfl ?_
        obtain ⟨F615_, q616_⟩ : ∃ F9_, F9_ = (fl_u F515_ 363 (2 * at_ + 2 * (F 358 a.toNat)).toNat z499_) := ⟨_, rfl⟩
        rw [← q616_]
        have g617_ : gi F615_ := by rw [q616_]; exact gi_u (g516_) rfl (by omega) (by omega)
        have g618_ : fs [(344, 344, 5, 5), (344, 344, 9, 10), (358, 358, 0, 100000), (360, 363, 0, 100000)] F F615_ := by rw [q616_]; exact fs_u (g613_) (fs_z (fs_z (fs_z (fs_y (by omega)))))
        have rk619_ : rk K F615_ := by rw [q616_]; exact rk_u (rk614_) (by omega) (by omega)
        have e620_ : F615_ 344 5 = F515_ 344 5 := by rw [q616_]; exact fl_u_ne (by omega)
        have b621_ : 0 ≤ F515_ 344 5 ∧ F515_ 344 5 ≤ 600 := gi_g g516_ rfl
        refine gVi (nY := 6) (F := 3) (L := 66) (As := [.int (Int32.ofInt a), .int (Int32.ofInt (-1))]) (b := 344) (rest := [.int (Int32.ofInt (2 * at_ + 2 * (F 358 a.toNat) + 1)), .ref 363]) hm_179 rfl hm_185 rfl rfl (fl_ob sc_344) rfl rfl rfl rfl rfl (by omega) (by omega) (mc_185 hG F615_ X g617_ (K) (a) (-1) (k) (-1) (l) (tl) hgK rk619_ hkt (by omega) ((by rw [q616_]; exact (trm_u (trm_fs (by rw [q494_]; exact (trm_u (trm_u (by rw [q367_]; exact (trm_u (trm_fs (by rw [q325_]; exact (trm_u ht (by omega))) s345_ (fun r j hj => (fs_n (by omega) (fs_n (by omega) rfl)))) (by omega))) (by omega)) (by omega))) s517_ (fun r j hj => (fs_n (by omega) (fs_n (by omega) rfl)))) (by omega)))) (hlt) (Or.inl ⟨by omega, by omega, rfl⟩) (by omega)) (fun _ _ h => False.elim h) ?_
        have e623_ : F615_ 344 10 = F515_ 344 10 := by rw [q616_]; exact fl_u_ne (by omega)
        have b624_ : 0 ≤ F515_ 344 10 ∧ F515_ 344 10 ≤ 600 := gi_g g516_ rfl
        have e625_ : F615_ 344 9 = F515_ 344 9 := by rw [q616_]; exact fl_u_ne (by omega)
        have b626_ : 0 ≤ F515_ 344 9 ∧ F515_ 344 9 ≤ 5 := gi_g g516_ rfl
        rintro z622_ A1_ (⟨F631_, hA_, g632_, s633_, c627_, c628_, c629_, c630_⟩ | ⟨F638_, hA_, g639_, s640_, c634_, c635_, c636_, c637_⟩)
        ·
          subst hA_
          have g641_ : fs [(344, 344, 5, 5), (344, 344, 9, 10), (358, 358, 0, 100000), (360, 363, 0, 100000)] F F631_ := fs_tr g618_ s633_ rfl
          have rk642_ : rk K F631_ := rk_fs rk619_ s633_ (fun r k h => (fs_n (by omega) (fs_n (by omega) rfl))) (fs_n (by omega) (fs_n (by omega) rfl))
          try simp only [e620_, e623_, e625_] at c628_
          have c628_s := c628_.1 (by omega)
          clear c628_
          refine fl_iast (z := 2 * at_ + 2 * (F 358 a.toNat) + 1) (v := z622_) hm_179 rfl sc_363 (by omega) (by omega) (by omega) ?_
          refine ga_inc (a := 1) (c := 2) (lv2 := [(5, .int (Int32.ofInt 2)), (4, .int (Int32.ofInt 1)), (3, .int (Int32.ofInt (at_ + F 358 a.toNat))), (0, .ref 344), (1, .int (Int32.ofInt a)), (2, .int (Int32.ofInt at_))]) hm_179 rfl rfl (Nat.le_of_ble_eq_true rfl) (by omega) rfl ?_
          refine fl_goto hm_179 rfl ?_
          refine ga_iload (z := 2) hm_179 rfl rfl ?_
          refine fl_iconst hm_179 rfl ?_
          refine fl_icmp_ge hm_179 rfl ⟨by omega, by omega⟩ ⟨by omega, by omega⟩ (fun _ => ?_) (fun h => absurd (by omega) h)
          refine ga_aload_n (v := .ref 344) hm_179 rfl rfl rfl ?_
          refine fl_bipush hm_179 rfl rfl ?_
          obtain ⟨F643_, q644_⟩ : ∃ F9_, F9_ = (fl_u F631_ 363 (2 * at_ + 2 * (F 358 a.toNat) + 1).toNat z622_) := ⟨_, rfl⟩
          rw [← q644_]
          have g645_ : gi F643_ := by rw [q644_]; exact gi_u (g632_) rfl (by omega) (by omega)
          have g646_ : fs [(344, 344, 5, 5), (344, 344, 9, 10), (358, 358, 0, 100000), (360, 363, 0, 100000)] F F643_ := by rw [q644_]; exact fs_u (g641_) (fs_z (fs_z (fs_z (fs_y (by omega)))))
          have rk647_ : rk K F643_ := by rw [q644_]; exact rk_u (rk642_) (by omega) (by omega)
          have e648_ : F643_ 344 5 = F631_ 344 5 := by rw [q644_]; exact fl_u_ne (by omega)
          have b649_ : 0 ≤ F631_ 344 5 ∧ F631_ 344 5 ≤ 600 := gi_g g632_ rfl
          refine gVv (nY := 2) (F := 2) (L := 41) (As := [.int (Int32.ofInt 41)]) (b := 344) (rest := []) hm_179 rfl hm_51 rfl rfl (fl_ob sc_344) rfl rfl rfl rfl rfl (by omega) (by omega) (mc_51 hG F643_ X g645_ (K) (41) (1) hgK rk647_ hkt (by omega) (by omega) (by omega)) (fun _ _ h => False.elim h) ?_
          have e651_ : F643_ 344 10 = F631_ 344 10 := by rw [q644_]; exact fl_u_ne (by omega)
          have b652_ : 0 ≤ F631_ 344 10 ∧ F631_ 344 10 ≤ 600 := gi_g g632_ rfl
          have e653_ : F643_ 344 9 = F631_ 344 9 := by rw [q644_]; exact fl_u_ne (by omega)
          have b654_ : 0 ≤ F631_ 344 9 ∧ F631_ 344 9 ≤ 5 := gi_g g632_ rfl
          rintro A1_ (⟨F658_, hA_, g659_, s660_, c655_, c656_, c657_⟩ | ⟨F664_, hA_, g665_, s666_, c661_, c662_, c663_⟩)
          ·
            subst hA_
            have g667_ : fs [(344, 344, 5, 5), (344, 344, 9, 10), (358, 358, 0, 100000), (360, 363, 0, 100000)] F F658_ := fs_tr g646_ s660_ rfl
            have rk668_ : rk K F658_ := rk_fs rk647_ s660_ (fun r k h => (fs_n (by omega) (fs_n (by omega) rfl))) (fs_n (by omega) (fs_n (by omega) rfl))
            try simp only [e648_, e651_, e653_] at c656_
            have c656_k := c656_.2 (by omega)
            clear c656_
            refine fl_goto hm_179 rfl ?_
            refine ga_iload (z := 1) hm_179 rfl rfl ?_
            refine fl_if_eq hm_179 rfl ⟨by omega, by omega⟩ (fun h => absurd h (by omega)) (fun _ => ?_)
            refine ga_aload_n (v := .ref 344) hm_179 rfl rfl rfl ?_
            refine fl_bipush hm_179 rfl rfl ?_
            have b669_ : 0 ≤ F658_ 344 5 ∧ F658_ 344 5 ≤ 600 := gi_g g659_ rfl
            refine gVv (nY := 2) (F := 2) (L := 41) (As := [.int (Int32.ofInt 41)]) (b := 344) (rest := []) hm_179 rfl hm_51 rfl rfl (fl_ob sc_344) rfl rfl rfl rfl rfl (by omega) (by omega) (mc_51 hG F658_ X g659_ (K) (41) (1) hgK rk668_ hkt (by omega) (by omega) (by omega)) (fun _ _ h => False.elim h) ?_
            have b671_ : 0 ≤ F658_ 344 10 ∧ F658_ 344 10 ≤ 600 := gi_g g659_ rfl
            have b672_ : 0 ≤ F658_ 344 9 ∧ F658_ 344 9 ≤ 5 := gi_g g659_ rfl
            rintro A1_ (⟨F676_, hA_, g677_, s678_, c673_, c674_, c675_⟩ | ⟨F682_, hA_, g683_, s684_, c679_, c680_, c681_⟩)
            ·
              subst hA_
              have g685_ : fs [(344, 344, 5, 5), (344, 344, 9, 10), (358, 358, 0, 100000), (360, 363, 0, 100000)] F F676_ := fs_tr g667_ s678_ rfl
              have rk686_ : rk K F676_ := rk_fs rk668_ s678_ (fun r k h => (fs_n (by omega) (fs_n (by omega) rfl))) (fs_n (by omega) (fs_n (by omega) rfl))
              have c674_k := c674_.2 (by omega)
              clear c674_
              refine ga_aload_n (v := .ref 344) hm_179 rfl rfl rfl ?_
              refine ga_getr (b := 358) hm_179 rfl sc_344 rfl ?_
              refine ga_iload_n (z := a) hm_179 rfl rfl ?_
              refine ga_dup2 hm_179 rfl ⟨rfl, rfl⟩ ?_
              have e687_ : F324_ 358 a.toNat = F 358 a.toNat := by rw [q325_]; exact fl_u_ne (by omega)
              have e688_ : F343_ 358 a.toNat = F 358 a.toNat := (s345_ 358 a.toNat (fs_n (by omega) (fs_n (by omega) rfl))).trans (e687_)
              have e689_ : F366_ 358 a.toNat = F 358 a.toNat := by rw [q367_]; exact (fl_u_ne (by omega)).trans (e688_)
              have e690_ : F493_ 358 a.toNat = F 358 a.toNat := by rw [q494_]; exact (fl_u_ne (by omega)).trans ((fl_u_ne (by omega)).trans (e689_))
              have e691_ : F515_ 358 a.toNat = F 358 a.toNat := (s517_ 358 a.toNat (fs_n (by omega) (fs_n (by omega) rfl))).trans (e690_)
              have e692_ : F615_ 358 a.toNat = F 358 a.toNat := by rw [q616_]; exact (fl_u_ne (by omega)).trans (e691_)
              have e693_ : F631_ 358 a.toNat = F 358 a.toNat := (s633_ 358 a.toNat (fs_n (by omega) (fs_n (by omega) rfl))).trans (e692_)
              have e694_ : F643_ 358 a.toNat = F 358 a.toNat := by rw [q644_]; exact (fl_u_ne (by omega)).trans (e693_)
              have e695_ : F658_ 358 a.toNat = F 358 a.toNat := (s660_ 358 a.toNat (fs_n (by omega) (fs_n (by omega) rfl))).trans (e694_)
              have e696_ : F676_ 358 a.toNat = F 358 a.toNat := (s678_ 358 a.toNat (fs_n (by omega) (fs_n (by omega) rfl))).trans (e695_)
              refine ga_iald (z := a) (w := F 358 a.toNat) hm_179 rfl sc_358 (by omega) (by omega) (by omega) (e696_) ?_
              refine fl_iconst hm_179 rfl ?_
              refine ga_iadd (a := F 358 a.toNat) (b := 1) (c := F 358 a.toNat + 1) hm_179 rfl (by omega) ?_
              refine fl_iast (z := a) (v := F 358 a.toNat + 1) hm_179 rfl sc_358 (by omega) (by omega) (by omega) ?_
              obtain ⟨F697_, q698_⟩ : ∃ F9_, F9_ = (fl_u F676_ 358 a.toNat (F 358 a.toNat + 1)) := ⟨_, rfl⟩
              rw [← q698_]
              have g699_ : gi F697_ := by rw [q698_]; exact gi_u (g677_) rfl (by omega) (by omega)
              have g700_ : fs [(344, 344, 5, 5), (344, 344, 9, 10), (358, 358, 0, 100000), (360, 363, 0, 100000)] F F697_ := by rw [q698_]; exact fs_u (g685_) (fs_z (fs_z (fs_y (by omega))))
              have rk701_ : rk K F697_ := by rw [q698_]; exact rk_u (rk686_) (by omega) (by omega)
              refine gr_v hm_179 rfl rfl ?_
              have e702_ : F697_ 344 9 = F676_ 344 9 := by rw [q698_]; exact fl_u_ne (by omega)
              have b703_ : 0 ≤ F676_ 344 9 ∧ F676_ 344 9 ≤ 5 := gi_g g677_ rfl
              have e704_ : F697_ 344 10 = F676_ 344 10 := by rw [q698_]; exact fl_u_ne (by omega)
              have e705_ : F697_ 344 5 = F676_ 344 5 := by rw [q698_]; exact fl_u_ne (by omega)
              have b706_ : 0 ≤ F676_ 344 10 ∧ F676_ 344 10 ≤ 600 := gi_g g677_ rfl
              have b707_ : 0 ≤ F676_ 344 5 ∧ F676_ 344 5 ≤ 600 := gi_g g677_ rfl
              exact Or.inl ⟨F697_, rfl, g699_, g700_, (by omega), (⟨by intro h0_; have hs_ := c628_s; rw [sp_lit, if_pos c13_.2, (show sk K (F 344 5) = F 344 5 + 1 by rw [sk, if_pos (by omega)])]; rw [c341_, pb_r]; rw [sp_lx, if_pos c376_.2, sp_eq, (show sk K (F343_ 344 5) = F343_ 344 5 + 1 by rw [sk, if_pos (by omega)])]; rw [c512_, pb_r]; rw [hs_]; try (show Sum.inl _ = _); try (congr 2 <;> omega), fun h0_ => by exfalso; omega⟩), (by omega)⟩
            exfalso; omega
          exfalso; omega
        subst hA_
        have g708_ : fs [(344, 344, 5, 5), (344, 344, 9, 10), (358, 358, 0, 100000), (360, 363, 0, 100000)] F F638_ := fs_tr g618_ s640_ rfl
        have rk709_ : rk K F638_ := rk_fs rk619_ s640_ (fun r k h => (fs_n (by omega) (fs_n (by omega) rfl))) (fs_n (by omega) (fs_n (by omega) rfl))
        try simp only [e625_] at c634_
        try simp only [e620_] at c635_
        refine fl_iast (z := 2 * at_ + 2 * (F 358 a.toNat) + 1) (v := z622_) hm_179 rfl sc_363 (by omega) (by omega) (by omega) ?_
        refine ga_inc (a := 1) (c := 2) (lv2 := [(5, .int (Int32.ofInt 2)), (4, .int (Int32.ofInt 1)), (3, .int (Int32.ofInt (at_ + F 358 a.toNat))), (0, .ref 344), (1, .int (Int32.ofInt a)), (2, .int (Int32.ofInt at_))]) hm_179 rfl rfl (Nat.le_of_ble_eq_true rfl) (by omega) rfl ?_
        refine fl_goto hm_179 rfl ?_
        refine ga_iload (z := 2) hm_179 rfl rfl ?_
        refine fl_iconst hm_179 rfl ?_
        refine fl_icmp_ge hm_179 rfl ⟨by omega, by omega⟩ ⟨by omega, by omega⟩ (fun _ => ?_) (fun h => absurd (by omega) h)
        refine ga_aload_n (v := .ref 344) hm_179 rfl rfl rfl ?_
        refine fl_bipush hm_179 rfl rfl ?_
        obtain ⟨F710_, q711_⟩ : ∃ F9_, F9_ = (fl_u F638_ 363 (2 * at_ + 2 * (F 358 a.toNat) + 1).toNat z622_) := ⟨_, rfl⟩
        rw [← q711_]
        have g712_ : gi F710_ := by rw [q711_]; exact gi_u (g639_) rfl (by omega) (by omega)
        have g713_ : fs [(344, 344, 5, 5), (344, 344, 9, 10), (358, 358, 0, 100000), (360, 363, 0, 100000)] F F710_ := by rw [q711_]; exact fs_u (g708_) (fs_z (fs_z (fs_z (fs_y (by omega)))))
        have rk714_ : rk K F710_ := by rw [q711_]; exact rk_u (rk709_) (by omega) (by omega)
        have e715_ : F710_ 344 5 = F638_ 344 5 := by rw [q711_]; exact fl_u_ne (by omega)
        have b716_ : 0 ≤ F638_ 344 5 ∧ F638_ 344 5 ≤ 600 := gi_g g639_ rfl
        refine gVv (nY := 2) (F := 2) (L := 41) (As := [.int (Int32.ofInt 41)]) (b := 344) (rest := []) hm_179 rfl hm_51 rfl rfl (fl_ob sc_344) rfl rfl rfl rfl rfl (by omega) (by omega) (mc_51 hG F710_ X g712_ (K) (41) (1) hgK rk714_ hkt (by omega) (by omega) (by omega)) (fun _ _ h => False.elim h) ?_
        have e718_ : F710_ 344 10 = F638_ 344 10 := by rw [q711_]; exact fl_u_ne (by omega)
        have b719_ : 0 ≤ F638_ 344 10 ∧ F638_ 344 10 ≤ 600 := gi_g g639_ rfl
        have e720_ : F710_ 344 9 = F638_ 344 9 := by rw [q711_]; exact fl_u_ne (by omega)
        have b721_ : 0 ≤ F638_ 344 9 ∧ F638_ 344 9 ≤ 5 := gi_g g639_ rfl
        rintro A1_ (⟨F725_, hA_, g726_, s727_, c722_, c723_, c724_⟩ | ⟨F731_, hA_, g732_, s733_, c728_, c729_, c730_⟩)
        ·
          subst hA_
          have g734_ : fs [(344, 344, 5, 5), (344, 344, 9, 10), (358, 358, 0, 100000), (360, 363, 0, 100000)] F F725_ := fs_tr g713_ s727_ rfl
          have rk735_ : rk K F725_ := rk_fs rk714_ s727_ (fun r k h => (fs_n (by omega) (fs_n (by omega) rfl))) (fs_n (by omega) (fs_n (by omega) rfl))
          try simp only [e715_, e718_, e720_] at c723_
          have c723_s := c723_.1 (by omega)
          clear c723_
          refine fl_goto hm_179 rfl ?_
          refine ga_iload (z := 1) hm_179 rfl rfl ?_
          refine fl_if_eq hm_179 rfl ⟨by omega, by omega⟩ (fun h => absurd h (by omega)) (fun _ => ?_)
          refine ga_aload_n (v := .ref 344) hm_179 rfl rfl rfl ?_
          refine fl_bipush hm_179 rfl rfl ?_
          have b736_ : 0 ≤ F725_ 344 5 ∧ F725_ 344 5 ≤ 600 := gi_g g726_ rfl
          refine gVv (nY := 2) (F := 2) (L := 41) (As := [.int (Int32.ofInt 41)]) (b := 344) (rest := []) hm_179 rfl hm_51 rfl rfl (fl_ob sc_344) rfl rfl rfl rfl rfl (by omega) (by omega) (mc_51 hG F725_ X g726_ (K) (41) (1) hgK rk735_ hkt (by omega) (by omega) (by omega)) (fun _ _ h => False.elim h) ?_
          have b738_ : 0 ≤ F725_ 344 10 ∧ F725_ 344 10 ≤ 600 := gi_g g726_ rfl
          have b739_ : 0 ≤ F725_ 344 9 ∧ F725_ 344 9 ≤ 5 := gi_g g726_ rfl
          rintro A1_ (⟨F743_, hA_, g744_, s745_, c740_, c741_, c742_⟩ | ⟨F749_, hA_, g750_, s751_, c746_, c747_, c748_⟩)
          ·
            subst hA_
            have g752_ : fs [(344, 344, 5, 5), (344, 344, 9, 10), (358, 358, 0, 100000), (360, 363, 0, 100000)] F F743_ := fs_tr g734_ s745_ rfl
            have rk753_ : rk K F743_ := rk_fs rk735_ s745_ (fun r k h => (fs_n (by omega) (fs_n (by omega) rfl))) (fs_n (by omega) (fs_n (by omega) rfl))
            have c741_k := c741_.2 (by omega)
            clear c741_
            refine ga_aload_n (v := .ref 344) hm_179 rfl rfl rfl ?_
            refine ga_getr (b := 358) hm_179 rfl sc_344 rfl ?_
            refine ga_iload_n (z := a) hm_179 rfl rfl ?_
            refine ga_dup2 hm_179 rfl ⟨rfl, rfl⟩ ?_
            have e754_ : F324_ 358 a.toNat = F 358 a.toNat := by rw [q325_]; exact fl_u_ne (by omega)
            have e755_ : F343_ 358 a.toNat = F 358 a.toNat := (s345_ 358 a.toNat (fs_n (by omega) (fs_n (by omega) rfl))).trans (e754_)
            have e756_ : F366_ 358 a.toNat = F 358 a.toNat := by rw [q367_]; exact (fl_u_ne (by omega)).trans (e755_)
            have e757_ : F493_ 358 a.toNat = F 358 a.toNat := by rw [q494_]; exact (fl_u_ne (by omega)).trans ((fl_u_ne (by omega)).trans (e756_))
            have e758_ : F515_ 358 a.toNat = F 358 a.toNat := (s517_ 358 a.toNat (fs_n (by omega) (fs_n (by omega) rfl))).trans (e757_)
            have e759_ : F615_ 358 a.toNat = F 358 a.toNat := by rw [q616_]; exact (fl_u_ne (by omega)).trans (e758_)
            have e760_ : F638_ 358 a.toNat = F 358 a.toNat := (s640_ 358 a.toNat (fs_n (by omega) (fs_n (by omega) rfl))).trans (e759_)
            have e761_ : F710_ 358 a.toNat = F 358 a.toNat := by rw [q711_]; exact (fl_u_ne (by omega)).trans (e760_)
            have e762_ : F725_ 358 a.toNat = F 358 a.toNat := (s727_ 358 a.toNat (fs_n (by omega) (fs_n (by omega) rfl))).trans (e761_)
            have e763_ : F743_ 358 a.toNat = F 358 a.toNat := (s745_ 358 a.toNat (fs_n (by omega) (fs_n (by omega) rfl))).trans (e762_)
            refine ga_iald (z := a) (w := F 358 a.toNat) hm_179 rfl sc_358 (by omega) (by omega) (by omega) (e763_) ?_
            refine fl_iconst hm_179 rfl ?_
            refine ga_iadd (a := F 358 a.toNat) (b := 1) (c := F 358 a.toNat + 1) hm_179 rfl (by omega) ?_
            refine fl_iast (z := a) (v := F 358 a.toNat + 1) hm_179 rfl sc_358 (by omega) (by omega) (by omega) ?_
            obtain ⟨F764_, q765_⟩ : ∃ F9_, F9_ = (fl_u F743_ 358 a.toNat (F 358 a.toNat + 1)) := ⟨_, rfl⟩
            rw [← q765_]
            have g766_ : gi F764_ := by rw [q765_]; exact gi_u (g744_) rfl (by omega) (by omega)
            have g767_ : fs [(344, 344, 5, 5), (344, 344, 9, 10), (358, 358, 0, 100000), (360, 363, 0, 100000)] F F764_ := by rw [q765_]; exact fs_u (g752_) (fs_z (fs_z (fs_y (by omega))))
            have rk768_ : rk K F764_ := by rw [q765_]; exact rk_u (rk753_) (by omega) (by omega)
            refine gr_v hm_179 rfl rfl ?_
            have e769_ : F764_ 344 9 = F743_ 344 9 := by rw [q765_]; exact fl_u_ne (by omega)
            have b770_ : 0 ≤ F743_ 344 9 ∧ F743_ 344 9 ≤ 5 := gi_g g744_ rfl
            have e771_ : F764_ 344 10 = F743_ 344 10 := by rw [q765_]; exact fl_u_ne (by omega)
            have e772_ : F764_ 344 5 = F743_ 344 5 := by rw [q765_]; exact fl_u_ne (by omega)
            have b773_ : 0 ≤ F743_ 344 10 ∧ F743_ 344 10 ≤ 600 := gi_g g744_ rfl
            have b774_ : 0 ≤ F743_ 344 5 ∧ F743_ 344 5 ≤ 600 := gi_g g744_ rfl
            exact Or.inl ⟨F764_, rfl, g766_, g767_, (by omega), (⟨by intro h0_; have hs_ := c723_s; rw [sp_lit, if_pos c13_.2, (show sk K (F 344 5) = F 344 5 + 1 by rw [sk, if_pos (by omega)])]; rw [c341_, pb_r]; rw [sp_lx, if_pos c376_.2, sp_eq, (show sk K (F343_ 344 5) = F343_ 344 5 + 1 by rw [sk, if_pos (by omega)])]; rw [c512_, pb_r]; rw [c635_, pb_r]; rw [hs_]; try (show Sum.inl _ = _); try (congr 2 <;> omega), fun h0_ => by exfalso; omega⟩), (by omega)⟩
          exfalso; omega
        subst hA_
        have g775_ : fs [(344, 344, 5, 5), (344, 344, 9, 10), (358, 358, 0, 100000), (360, 363, 0, 100000)] F F731_ := fs_tr g713_ s733_ rfl
        have rk776_ : rk K F731_ := rk_fs rk714_ s733_ (fun r k h => (fs_n (by omega) (fs_n (by omega) rfl))) (fs_n (by omega) (fs_n (by omega) rfl))
        try simp only [e720_] at c728_
        try simp only [e715_] at c729_
        refine fl_goto hm_179 rfl ?_
        refine ga_iload (z := 1) hm_179 rfl rfl ?_
        refine fl_if_eq hm_179 rfl ⟨by omega, by omega⟩ (fun h => absurd h (by omega)) (fun _ => ?_)
        refine ga_aload_n (v := .ref 344) hm_179 rfl rfl rfl ?_
        refine fl_bipush hm_179 rfl rfl ?_
        have b777_ : 0 ≤ F731_ 344 5 ∧ F731_ 344 5 ≤ 600 := gi_g g732_ rfl
        refine gVv (nY := 2) (F := 2) (L := 41) (As := [.int (Int32.ofInt 41)]) (b := 344) (rest := []) hm_179 rfl hm_51 rfl rfl (fl_ob sc_344) rfl rfl rfl rfl rfl (by omega) (by omega) (mc_51 hG F731_ X g732_ (K) (41) (1) hgK rk776_ hkt (by omega) (by omega) (by omega)) (fun _ _ h => False.elim h) ?_
        have b779_ : 0 ≤ F731_ 344 10 ∧ F731_ 344 10 ≤ 600 := gi_g g732_ rfl
        have b780_ : 0 ≤ F731_ 344 9 ∧ F731_ 344 9 ≤ 5 := gi_g g732_ rfl
        rintro A1_ (⟨F784_, hA_, g785_, s786_, c781_, c782_, c783_⟩ | ⟨F790_, hA_, g791_, s792_, c787_, c788_, c789_⟩)
        ·
          subst hA_
          have g793_ : fs [(344, 344, 5, 5), (344, 344, 9, 10), (358, 358, 0, 100000), (360, 363, 0, 100000)] F F784_ := fs_tr g775_ s786_ rfl
          have rk794_ : rk K F784_ := rk_fs rk776_ s786_ (fun r k h => (fs_n (by omega) (fs_n (by omega) rfl))) (fs_n (by omega) (fs_n (by omega) rfl))
          have c782_s := c782_.1 (by omega)
          clear c782_
          refine ga_aload_n (v := .ref 344) hm_179 rfl rfl rfl ?_
          refine ga_getr (b := 358) hm_179 rfl sc_344 rfl ?_
          refine ga_iload_n (z := a) hm_179 rfl rfl ?_
          refine ga_dup2 hm_179 rfl ⟨rfl, rfl⟩ ?_
          have e795_ : F324_ 358 a.toNat = F 358 a.toNat := by rw [q325_]; exact fl_u_ne (by omega)
          have e796_ : F343_ 358 a.toNat = F 358 a.toNat := (s345_ 358 a.toNat (fs_n (by omega) (fs_n (by omega) rfl))).trans (e795_)
          have e797_ : F366_ 358 a.toNat = F 358 a.toNat := by rw [q367_]; exact (fl_u_ne (by omega)).trans (e796_)
          have e798_ : F493_ 358 a.toNat = F 358 a.toNat := by rw [q494_]; exact (fl_u_ne (by omega)).trans ((fl_u_ne (by omega)).trans (e797_))
          have e799_ : F515_ 358 a.toNat = F 358 a.toNat := (s517_ 358 a.toNat (fs_n (by omega) (fs_n (by omega) rfl))).trans (e798_)
          have e800_ : F615_ 358 a.toNat = F 358 a.toNat := by rw [q616_]; exact (fl_u_ne (by omega)).trans (e799_)
          have e801_ : F638_ 358 a.toNat = F 358 a.toNat := (s640_ 358 a.toNat (fs_n (by omega) (fs_n (by omega) rfl))).trans (e800_)
          have e802_ : F710_ 358 a.toNat = F 358 a.toNat := by rw [q711_]; exact (fl_u_ne (by omega)).trans (e801_)
          have e803_ : F731_ 358 a.toNat = F 358 a.toNat := (s733_ 358 a.toNat (fs_n (by omega) (fs_n (by omega) rfl))).trans (e802_)
          have e804_ : F784_ 358 a.toNat = F 358 a.toNat := (s786_ 358 a.toNat (fs_n (by omega) (fs_n (by omega) rfl))).trans (e803_)
          refine ga_iald (z := a) (w := F 358 a.toNat) hm_179 rfl sc_358 (by omega) (by omega) (by omega) (e804_) ?_
          refine fl_iconst hm_179 rfl ?_
          refine ga_iadd (a := F 358 a.toNat) (b := 1) (c := F 358 a.toNat + 1) hm_179 rfl (by omega) ?_
          refine fl_iast (z := a) (v := F 358 a.toNat + 1) hm_179 rfl sc_358 (by omega) (by omega) (by omega) ?_
          obtain ⟨F805_, q806_⟩ : ∃ F9_, F9_ = (fl_u F784_ 358 a.toNat (F 358 a.toNat + 1)) := ⟨_, rfl⟩
          rw [← q806_]
          have g807_ : gi F805_ := by rw [q806_]; exact gi_u (g785_) rfl (by omega) (by omega)
          have g808_ : fs [(344, 344, 5, 5), (344, 344, 9, 10), (358, 358, 0, 100000), (360, 363, 0, 100000)] F F805_ := by rw [q806_]; exact fs_u (g793_) (fs_z (fs_z (fs_y (by omega))))
          have rk809_ : rk K F805_ := by rw [q806_]; exact rk_u (rk794_) (by omega) (by omega)
          refine gr_v hm_179 rfl rfl ?_
          have e810_ : F805_ 344 9 = F784_ 344 9 := by rw [q806_]; exact fl_u_ne (by omega)
          have b811_ : 0 ≤ F784_ 344 9 ∧ F784_ 344 9 ≤ 5 := gi_g g785_ rfl
          have e812_ : F805_ 344 10 = F784_ 344 10 := by rw [q806_]; exact fl_u_ne (by omega)
          have e813_ : F805_ 344 5 = F784_ 344 5 := by rw [q806_]; exact fl_u_ne (by omega)
          have b814_ : 0 ≤ F784_ 344 10 ∧ F784_ 344 10 ≤ 600 := gi_g g785_ rfl
          have b815_ : 0 ≤ F784_ 344 5 ∧ F784_ 344 5 ≤ 600 := gi_g g785_ rfl
          exact Or.inl ⟨F805_, rfl, g807_, g808_, (by omega), (⟨by intro h0_; have hs_ := c782_s; rw [sp_lit, if_pos c13_.2, (show sk K (F 344 5) = F 344 5 + 1 by rw [sk, if_pos (by omega)])]; rw [c341_, pb_r]; rw [sp_lx, if_pos c376_.2, sp_eq, (show sk K (F343_ 344 5) = F343_ 344 5 + 1 by rw [sk, if_pos (by omega)])]; rw [c512_, pb_r]; rw [c635_, pb_r]; rw [c729_]; rw [pb_r]; rw [hs_]; try (show Sum.inl _ = _); try (congr 2 <;> omega), fun h0_ => by exfalso; omega⟩), (by omega)⟩
        subst hA_
        have g816_ : fs [(344, 344, 5, 5), (344, 344, 9, 10), (358, 358, 0, 100000), (360, 363, 0, 100000)] F F790_ := fs_tr g775_ s792_ rfl
        have rk817_ : rk K F790_ := rk_fs rk776_ s792_ (fun r k h => (fs_n (by omega) (fs_n (by omega) rfl))) (fs_n (by omega) (fs_n (by omega) rfl))
        refine ga_aload_n (v := .ref 344) hm_179 rfl rfl rfl ?_
        refine ga_getr (b := 358) hm_179 rfl sc_344 rfl ?_
        refine ga_iload_n (z := a) hm_179 rfl rfl ?_
        refine ga_dup2 hm_179 rfl ⟨rfl, rfl⟩ ?_
        have e818_ : F324_ 358 a.toNat = F 358 a.toNat := by rw [q325_]; exact fl_u_ne (by omega)
        have e819_ : F343_ 358 a.toNat = F 358 a.toNat := (s345_ 358 a.toNat (fs_n (by omega) (fs_n (by omega) rfl))).trans (e818_)
        have e820_ : F366_ 358 a.toNat = F 358 a.toNat := by rw [q367_]; exact (fl_u_ne (by omega)).trans (e819_)
        have e821_ : F493_ 358 a.toNat = F 358 a.toNat := by rw [q494_]; exact (fl_u_ne (by omega)).trans ((fl_u_ne (by omega)).trans (e820_))
        have e822_ : F515_ 358 a.toNat = F 358 a.toNat := (s517_ 358 a.toNat (fs_n (by omega) (fs_n (by omega) rfl))).trans (e821_)
        have e823_ : F615_ 358 a.toNat = F 358 a.toNat := by rw [q616_]; exact (fl_u_ne (by omega)).trans (e822_)
        have e824_ : F638_ 358 a.toNat = F 358 a.toNat := (s640_ 358 a.toNat (fs_n (by omega) (fs_n (by omega) rfl))).trans (e823_)
        have e825_ : F710_ 358 a.toNat = F 358 a.toNat := by rw [q711_]; exact (fl_u_ne (by omega)).trans (e824_)
        have e826_ : F731_ 358 a.toNat = F 358 a.toNat := (s733_ 358 a.toNat (fs_n (by omega) (fs_n (by omega) rfl))).trans (e825_)
        have e827_ : F790_ 358 a.toNat = F 358 a.toNat := (s792_ 358 a.toNat (fs_n (by omega) (fs_n (by omega) rfl))).trans (e826_)
        refine ga_iald (z := a) (w := F 358 a.toNat) hm_179 rfl sc_358 (by omega) (by omega) (by omega) (e827_) ?_
        refine fl_iconst hm_179 rfl ?_
        refine ga_iadd (a := F 358 a.toNat) (b := 1) (c := F 358 a.toNat + 1) hm_179 rfl (by omega) ?_
        refine fl_iast (z := a) (v := F 358 a.toNat + 1) hm_179 rfl sc_358 (by omega) (by omega) (by omega) ?_
        obtain ⟨F828_, q829_⟩ : ∃ F9_, F9_ = (fl_u F790_ 358 a.toNat (F 358 a.toNat + 1)) := ⟨_, rfl⟩
        rw [← q829_]
        have g830_ : gi F828_ := by rw [q829_]; exact gi_u (g791_) rfl (by omega) (by omega)
        have g831_ : fs [(344, 344, 5, 5), (344, 344, 9, 10), (358, 358, 0, 100000), (360, 363, 0, 100000)] F F828_ := by rw [q829_]; exact fs_u (g816_) (fs_z (fs_z (fs_y (by omega))))
        have rk832_ : rk K F828_ := by rw [q829_]; exact rk_u (rk817_) (by omega) (by omega)
        refine gr_v hm_179 rfl rfl ?_
        have e833_ : F828_ 344 9 = F790_ 344 9 := by rw [q829_]; exact fl_u_ne (by omega)
        have b834_ : 0 ≤ F790_ 344 9 ∧ F790_ 344 9 ≤ 5 := gi_g g791_ rfl
        have e835_ : F828_ 344 10 = F790_ 344 10 := by rw [q829_]; exact fl_u_ne (by omega)
        have e836_ : F828_ 344 5 = F790_ 344 5 := by rw [q829_]; exact fl_u_ne (by omega)
        have b837_ : 0 ≤ F790_ 344 5 ∧ F790_ 344 5 ≤ 600 := gi_g g791_ rfl
        exact Or.inr (⟨F828_, rfl, g830_, g831_, (by omega), (by rw [sp_lit, if_pos c13_.2, (show sk K (F 344 5) = F 344 5 + 1 by rw [sk, if_pos (by omega)])]; rw [c341_, pb_r]; rw [sp_lx, if_pos c376_.2, sp_eq, (show sk K (F343_ 344 5) = F343_ 344 5 + 1 by rw [sk, if_pos (by omega)])]; rw [c512_, pb_r]; rw [c635_, pb_r]; rw [c729_]; rw [pb_r]; rw [c788_]; try (congr 1; omega)), (by omega), (by omega)⟩)
      exfalso; omega
    exfalso; omega
  refine ga_iload_n (z := at_) hm_179 rfl rfl ?_
  refine ga_aload_n (v := .ref 344) hm_179 rfl rfl rfl ?_
  refine gIi (nY := 1) (F := 0) (L := 0) (As := []) (b := 344) (rest := [.int (Int32.ofInt at_)]) hm_179 rfl hm_59 rfl rfl (fl_ob sc_344) rfl rfl rfl rfl rfl (by omega) (by omega) ?_
  intro f838_ l839_ h840_ h841_
  show fl_R xi_ms 59 f838_ l839_ 0 [(0, .ref 344)] [] _ _
  refine ga_aload_n (v := .ref 344) hm_59 rfl rfl rfl ?_
  refine ga_geti (z := F 344 9) hm_59 rfl sc_344 rfl (rfl) ?_
  refine fl_if_le (a := F 344 9) hm_59 rfl ⟨by omega, by omega⟩ (fun h842_ => ?_) (fun h843_ => ?_)
  · exfalso; omega
  refine fl_iconst hm_59 rfl ?_
  refine fl_goto hm_59 rfl ?_
  refine gr_i hm_59 rfl rfl (ga_nb (by omega)) ?_
  clear h840_ h841_ f838_ l839_
  refine fl_if_eq hm_179 rfl ⟨by omega, by omega⟩ (fun h => absurd h (by omega)) (fun _ => ?_)
  refine fl_iconst hm_179 rfl ?_
  refine fl_goto hm_179 rfl ?_
  refine ga_iadd (a := at_) (b := 0) (c := at_) hm_179 rfl (by omega) ?_
  refine ga_istore_n (lv2 := [(3, .int (Int32.ofInt at_)), (0, .ref 344), (1, .int (Int32.ofInt a)), (2, .int (Int32.ofInt at_))]) hm_179 rfl (Nat.le_of_ble_eq_true rfl) rfl ?_
  refine ga_aload_n (v := .ref 344) hm_179 rfl rfl rfl ?_
  refine fl_bipush hm_179 rfl rfl ?_
  have b844_ : 0 ≤ F 344 5 ∧ F 344 5 ≤ 600 := gi_g hgi rfl
  refine gVi (nY := 4) (F := 1) (L := 21) (As := [.int (Int32.ofInt 9)]) (b := 344) (rest := []) hm_179 rfl hm_56 rfl rfl (fl_ob sc_344) rfl rfl rfl rfl rfl (by omega) (by omega) (mc_56 hG F X hgi (K) (9) ([110, 111, 116]) hgK hrk hkt (by omega) (by omega) (by decide) (kw_9 hrk)) (fun _ _ h => False.elim h) ?_
  rintro z845_ A1_ (⟨hA_, hz_, c846_⟩ | ⟨hA_, hz_, c847_, c848_⟩)
  ·
    subst hA_
    subst hz_
    refine ga_istore (lv2 := [(4, .int (Int32.ofInt 0)), (3, .int (Int32.ofInt at_)), (0, .ref 344), (1, .int (Int32.ofInt a)), (2, .int (Int32.ofInt at_))]) hm_179 rfl (Nat.le_of_ble_eq_true rfl) rfl ?_
    refine ga_iload (z := 0) hm_179 rfl rfl ?_
    refine fl_if_eq hm_179 rfl ⟨by omega, by omega⟩ (fun _ => ?_) (fun h => absurd (by omega) h)
    refine ga_aload_n (v := .ref 344) hm_179 rfl rfl rfl ?_
    refine gIi (nY := 1) (F := 0) (L := 0) (As := []) (b := 344) (rest := []) hm_179 rfl hm_59 rfl rfl (fl_ob sc_344) rfl rfl rfl rfl rfl (by omega) (by omega) ?_
    intro f849_ l850_ h851_ h852_
    show fl_R xi_ms 59 f849_ l850_ 0 [(0, .ref 344)] [] _ _
    refine ga_aload_n (v := .ref 344) hm_59 rfl rfl rfl ?_
    refine ga_geti (z := F 344 9) hm_59 rfl sc_344 rfl (rfl) ?_
    refine fl_if_le (a := F 344 9) hm_59 rfl ⟨by omega, by omega⟩ (fun h853_ => ?_) (fun h854_ => ?_)
    · exfalso; omega
    refine fl_iconst hm_59 rfl ?_
    refine fl_goto hm_59 rfl ?_
    refine gr_i hm_59 rfl rfl (ga_nb (by omega)) ?_
    clear h851_ h852_ f849_ l850_
    refine fl_if_eq hm_179 rfl ⟨by omega, by omega⟩ (fun h => absurd h (by omega)) (fun _ => ?_)
    refine gr_v hm_179 rfl rfl ?_
    have b855_ : 0 ≤ F 344 10 ∧ F 344 10 ≤ 600 := gi_g hgi rfl
    exact Or.inl ⟨F, rfl, hgi, fs_refl, (by omega), (⟨fun h0_ => by exfalso; omega, fun h0_ => by constructor <;> omega⟩), (by omega)⟩
  exfalso; omega

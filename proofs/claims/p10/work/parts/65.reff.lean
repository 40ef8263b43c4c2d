/- CheapPlannerModel.readEffect -/
abbrev pq_176 (G : Nat → Nat → Option Nat) (F : fl_N) (X : xi_H) (K : fl_N) (a k : Int) (l tl pl : List Int) (ps : List (List Int)) : Outcome → xi_H → Prop := gqv (fun A => (∃ F' : fl_N, fl_H sh_T G F' ++ X = A ∧ gi F' ∧ fs [(344, 344, 5, 5), (344, 344, 9, 10), (344, 344, 63, 63), (357, 357, 0, 100000), (359, 363, 0, 100000)] F F' ∧ (¬ F' 344 9 = 0) ∧ ((F 344 9 = 0 → sp_clause K true k l tl pl ps (F 344 5) = .inl (F' 344 9, F' 344 10)) ∧ (¬ F 344 9 = 0 → F' 344 9 = F 344 9 ∧ F' 344 10 = F 344 10)) ∧ (0 ≤ F' 344 5 ∧ F' 344 5 ≤ K 1 6 - 1)) ∨ (∃ F' : fl_N, fl_H sh_T G F' ++ X = A ∧ gi F' ∧ fs [(344, 344, 5, 5), (344, 344, 9, 10), (344, 344, 63, 63), (357, 357, 0, 100000), (359, 363, 0, 100000)] F F' ∧ (F' 344 9 = 0 ∧ F 344 9 = 0) ∧ (∃ c2, sp_clause K true k l tl pl ps (F 344 5) = .inr (F' 344 5, c2) ∧ F' 357 a.toNat = (if c2 = 0 then 1 else c2)) ∧ (0 ≤ F' 344 5 ∧ F' 344 5 ≤ K 1 6 - 1) ∧ (cst a.toNat F F') ∧ (lfr a.toNat (8 * a.toNat + 4) (8 * a.toNat + 8) F F') ∧ (rcl F' (8 * a.toNat + 4) (clause_d K true k l tl pl ps (F 344 5)) ∧ ((clause_d K true k l tl pl ps (F 344 5)).length : Int) = F' 359 a.toNat))) gqn
set_option maxHeartbeats 16000000 in
theorem mc_176 {G : Nat → Nat → Option Nat} (hG : gg G) (F : fl_N) (X : xi_H) (hgi : gi F) (K : fl_N) (a k : Int) (l tl pl : List Int) (ps : List (List Int)) (hgK : gi K) (hrk : rk K F) (hkt : rkt K) (hp : 0 ≤ F 344 5 ∧ F 344 5 ≤ K 1 6 - 1) (ht9 : F 344 9 = 0 → trm F a k l tl ∧ l.length = tl.length) (ha : 0 ≤ a ∧ a ≤ 4) (hpl : rpn (F 350) (F 344 17) pl) (hps : rprd F ps ∧ ps.length = pl.length) (hc09 : F 344 9 = 0 → F 359 a.toNat = 0) (hc19 : F 344 9 = 0 → F 357 a.toNat = 1) : fl_M xi_ms 176 6 140 [.ref 344, .int (Int32.ofInt a)] (fl_H sh_T G F ++ X) (pq_176 G F X K a k l tl pl ps) := by
  intro fr lo hfr hlo
  show fl_R xi_ms 176 fr lo 0 [(0, .ref 344), (1, .int (Int32.ofInt a))] [] _ _
  have hP := (rkt_p hkt hp.1 hp.2 hgK).1
  have hK16 : 0 ≤ K 1 6 ∧ K 1 6 ≤ 601 := gi_g hgK rfl
  have hko := hkt.1
  have b1_ : 0 ≤ F 344 9 ∧ F 344 9 ≤ 5 := gi_g hgi rfl
  by_cases h2_ : F 344 9 = 0
  ·
    refine ga_aload_n (v := .ref 344) hm_176 rfl rfl rfl ?_
    refine fl_iconst hm_176 rfl ?_
    refine ga_putz (z := 0) hm_176 rfl sc_344 rfl rfl (by omega) ?_
    have ht := (ht9 (by omega)).1
    have hlt := (ht9 (by omega)).2
    have hc0 := hc09 (by omega)
    refine ga_aload_n (v := .ref 344) hm_176 rfl rfl rfl ?_
    refine fl_bipush hm_176 rfl rfl ?_
    obtain ⟨F3_, q4_⟩ : ∃ F9_, F9_ = (fl_u F 344 63 0) := ⟨_, rfl⟩
    rw [← q4_]
    have g5_ : gi F3_ := by rw [q4_]; exact gi_u (hgi) rfl (by omega) (by omega)
    have g6_ : fs [(344, 344, 5, 5), (344, 344, 9, 10), (344, 344, 63, 63), (357, 357, 0, 100000), (359, 363, 0, 100000)] F F3_ := by rw [q4_]; exact fs_u (fs_refl) rfl
    have rk7_ : rk K F3_ := by rw [q4_]; exact rk_u (hrk) (by omega) (by omega)
    have e8_ : F3_ 344 5 = F 344 5 := by rw [q4_]; exact fl_u_ne (by omega)
    have b9_ : 0 ≤ F 344 5 ∧ F 344 5 ≤ 600 := gi_g hgi rfl
    refine gVv (nY := 2) (F := 2) (L := 41) (As := [.int (Int32.ofInt 40)]) (b := 344) (rest := []) hm_176 rfl hm_51 rfl rfl (fl_ob sc_344) rfl rfl rfl rfl rfl (by omega) (by omega) (mc_51 hG F3_ X g5_ (K) (40) (0) hgK rk7_ hkt (by omega) (by omega) (by omega)) (fun _ _ h => False.elim h) ?_
    have e11_ : F3_ 344 10 = F 344 10 := by rw [q4_]; exact fl_u_ne (by omega)
    have b12_ : 0 ≤ F 344 10 ∧ F 344 10 ≤ 600 := gi_g hgi rfl
    have e13_ : F3_ 344 9 = F 344 9 := by rw [q4_]; exact fl_u_ne (by omega)
    rintro A1_ (⟨F17_, hA_, g18_, s19_, c14_, c15_, c16_⟩ | ⟨F23_, hA_, g24_, s25_, c20_, c21_, c22_⟩)
    ·
      subst hA_
      have g26_ : fs [(344, 344, 5, 5), (344, 344, 9, 10), (344, 344, 63, 63), (357, 357, 0, 100000), (359, 363, 0, 100000)] F F17_ := fs_tr g6_ s19_ rfl
      have rk27_ : rk K F17_ := rk_fs rk7_ s19_ (fun r k h => (fs_n (by omega) (fs_n (by omega) rfl))) (fs_n (by omega) (fs_n (by omega) rfl))
      try simp only [e8_, e11_, e13_] at c15_
      have c15_s := c15_.1 (by omega)
      clear c15_
      refine ga_aload_n (v := .ref 344) hm_176 rfl rfl rfl ?_
      refine fl_bipush hm_176 rfl rfl ?_
      have b28_ : 0 ≤ F17_ 344 5 ∧ F17_ 344 5 ≤ 600 := gi_g g18_ rfl
      refine gVi (nY := 4) (F := 1) (L := 21) (As := [.int (Int32.ofInt 8)]) (b := 344) (rest := []) hm_176 rfl hm_56 rfl rfl (fl_ob sc_344) rfl rfl rfl rfl rfl (by omega) (by omega) (mc_56 hG F17_ X g18_ (K) (8) ([97, 110, 100]) hgK rk27_ hkt (by omega) (by omega) (by decide) (kw_8 rk27_)) (fun _ _ h => False.elim h) ?_
      have b30_ : 0 ≤ F17_ 344 9 ∧ F17_ 344 9 ≤ 5 := gi_g g18_ rfl
      rintro z29_ A1_ (⟨hA_, hz_, c31_⟩ | ⟨hA_, hz_, c32_, c33_⟩)
      ·
        subst hA_
        subst hz_
        refine fl_if_ne hm_176 rfl ⟨by omega, by omega⟩ (fun h => absurd h (by omega)) (fun _ => ?_)
        refine ga_aload_n (v := .ref 344) hm_176 rfl rfl rfl ?_
        refine ga_iload_n (z := a) hm_176 rfl rfl ?_
        have e34_ : F3_ 344 63 = 0 := by rw [q4_]; exact fl_u_eq
        have e35_ : F17_ 344 63 = 0 := (s19_ 344 63 rfl).trans (e34_)
        have e36_ : F3_ 359 a.toNat = F 359 a.toNat := by rw [q4_]; exact fl_u_ne (by omega)
        have e37_ : F17_ 359 a.toNat = F 359 a.toNat := (s19_ 359 a.toNat (fs_n (by omega) (fs_n (by omega) rfl))).trans (e36_)
        have e38_ : F3_ 357 a.toNat = F 357 a.toNat := by rw [q4_]; exact fl_u_ne (by omega)
        have e39_ : F17_ 357 a.toNat = F 357 a.toNat := (s19_ 357 a.toNat (fs_n (by omega) (fs_n (by omega) rfl))).trans (e38_)
        refine gVv (nY := 4) (F := 5) (L := 117) (As := [.int (Int32.ofInt a)]) (b := 344) (rest := []) hm_176 rfl hm_181 rfl rfl (fl_ob sc_344) rfl rfl rfl rfl rfl (by omega) (by omega) (mc_181 hG F17_ X g18_ (K) (a) (k) (0) (l) (tl) (pl) (ps) ([]) hgK rk27_ hkt (by omega) (fun h9_ => absurd h9_ (by omega)) (by omega) ((rpn_fs (by rw [q4_]; exact (rpn_u hpl (by omega) (by omega))) s19_ (fun _ => (fs_n (by omega) (fs_n (by omega) rfl))) (fs_n (by omega) (fs_n (by omega) rfl)))) (⟨(rprd_fs (by rw [q4_]; exact (rprd_u hps.1 (by omega))) s19_ (fun r j hj => (fs_n (by omega) (fs_n (by omega) rfl)))), hps.2⟩) (Or.inl ⟨by omega, rfl⟩) (fun _ => by omega) (fun h9_ => absurd h9_ (by omega))) (fun _ _ h => False.elim h) ?_
        have b41_ : 0 ≤ F17_ 344 10 ∧ F17_ 344 10 ≤ 600 := gi_g g18_ rfl
        rintro A1_ (⟨F45_, hA_, g46_, s47_, c42_, c43_, c44_⟩ | ⟨F55_, hA_, g56_, s57_, c48_, c49_, c50_, c51_, c52_, c53_, c54_⟩)
        ·
          subst hA_
          have g58_ : fs [(344, 344, 5, 5), (344, 344, 9, 10), (344, 344, 63, 63), (357, 357, 0, 100000), (359, 363, 0, 100000)] F F45_ := fs_tr g26_ s47_ rfl
          have rk59_ : rk K F45_ := rk_fs rk27_ s47_ (fun r k h => (fs_n (by omega) (fs_n (by omega) (fs_n (by omega) (fs_n (by omega) (fs_n (by omega) rfl)))))) (fs_n (by omega) (fs_n (by omega) (fs_n (by omega) (fs_n (by omega) (fs_n (by omega) rfl)))))
          have c43_k := c43_.2 (by omega)
          clear c43_
          try obtain ⟨c2_, cm1_, cm2_, cm3_⟩ := c43_k
          refine gr_v hm_176 rfl rfl ?_
          have b60_ : 0 ≤ F45_ 344 9 ∧ F45_ 344 9 ≤ 5 := gi_g g46_ rfl
          have b61_ : 0 ≤ F45_ 344 10 ∧ F45_ 344 10 ≤ 600 := gi_g g46_ rfl
          have b62_ : 0 ≤ F45_ 344 5 ∧ F45_ 344 5 ≤ 600 := gi_g g46_ rfl
          exact Or.inl ⟨F45_, rfl, g46_, g58_, (by omega), (⟨by intro h0_; have hs_ := c15_s; rw [sp_clause, hs_]; show Sum.inl _ = _; try (congr 2 <;> omega), fun h0_ => by exfalso; omega⟩), (by omega)⟩
        exfalso; omega
      exfalso; omega
    subst hA_
    have g63_ : fs [(344, 344, 5, 5), (344, 344, 9, 10), (344, 344, 63, 63), (357, 357, 0, 100000), (359, 363, 0, 100000)] F F23_ := fs_tr g6_ s25_ rfl
    have rk64_ : rk K F23_ := rk_fs rk7_ s25_ (fun r k h => (fs_n (by omega) (fs_n (by omega) rfl))) (fs_n (by omega) (fs_n (by omega) rfl))
    try simp only [e13_] at c20_
    try simp only [e8_] at c21_
    refine ga_aload_n (v := .ref 344) hm_176 rfl rfl rfl ?_
    refine fl_bipush hm_176 rfl rfl ?_
    have b65_ : 0 ≤ F23_ 344 5 ∧ F23_ 344 5 ≤ 600 := gi_g g24_ rfl
    refine gVi (nY := 4) (F := 1) (L := 21) (As := [.int (Int32.ofInt 8)]) (b := 344) (rest := []) hm_176 rfl hm_56 rfl rfl (fl_ob sc_344) rfl rfl rfl rfl rfl (by omega) (by omega) (mc_56 hG F23_ X g24_ (K) (8) ([97, 110, 100]) hgK rk64_ hkt (by omega) (by omega) (by decide) (kw_8 rk64_)) (fun _ _ h => False.elim h) ?_
    have b67_ : 0 ≤ F23_ 344 9 ∧ F23_ 344 9 ≤ 5 := gi_g g24_ rfl
    rintro z66_ A1_ (⟨hA_, hz_, c68_⟩ | ⟨hA_, hz_, c69_, c70_⟩)
    ·
      subst hA_
      subst hz_
      refine fl_if_ne hm_176 rfl ⟨by omega, by omega⟩ (fun h => absurd h (by omega)) (fun _ => ?_)
      refine ga_aload_n (v := .ref 344) hm_176 rfl rfl rfl ?_
      refine ga_iload_n (z := a) hm_176 rfl rfl ?_
      have e71_ : F3_ 344 63 = 0 := by rw [q4_]; exact fl_u_eq
      have e72_ : F23_ 344 63 = 0 := (s25_ 344 63 rfl).trans (e71_)
      have e73_ : F3_ 359 a.toNat = F 359 a.toNat := by rw [q4_]; exact fl_u_ne (by omega)
      have e74_ : F23_ 359 a.toNat = F 359 a.toNat := (s25_ 359 a.toNat (fs_n (by omega) (fs_n (by omega) rfl))).trans (e73_)
      have e75_ : F3_ 357 a.toNat = F 357 a.toNat := by rw [q4_]; exact fl_u_ne (by omega)
      have e76_ : F23_ 357 a.toNat = F 357 a.toNat := (s25_ 357 a.toNat (fs_n (by omega) (fs_n (by omega) rfl))).trans (e75_)
      refine gVv (nY := 4) (F := 5) (L := 117) (As := [.int (Int32.ofInt a)]) (b := 344) (rest := []) hm_176 rfl hm_181 rfl rfl (fl_ob sc_344) rfl rfl rfl rfl rfl (by omega) (by omega) (mc_181 hG F23_ X g24_ (K) (a) (k) (0) (l) (tl) (pl) (ps) ([]) hgK rk64_ hkt (by omega) (fun _ => ⟨(trm_fs (by rw [q4_]; exact (trm_u ht (by omega))) s25_ (fun r j hj => (fs_n (by omega) (fs_n (by omega) rfl)))), hlt⟩) (by omega) ((rpn_fs (by rw [q4_]; exact (rpn_u hpl (by omega) (by omega))) s25_ (fun _ => (fs_n (by omega) (fs_n (by omega) rfl))) (fs_n (by omega) (fs_n (by omega) rfl)))) (⟨(rprd_fs (by rw [q4_]; exact (rprd_u hps.1 (by omega))) s25_ (fun r j hj => (fs_n (by omega) (fs_n (by omega) rfl)))), hps.2⟩) (Or.inl ⟨by omega, rfl⟩) (fun _ => by omega) (fun _ => ⟨rcl_nil, by simp; omega, by rw [if_pos rfl]; exact Eq.trans (e76_) (hc19 (by omega))⟩)) (fun _ _ h => False.elim h) ?_
      have b78_ : 0 ≤ F23_ 344 10 ∧ F23_ 344 10 ≤ 600 := gi_g g24_ rfl
      rintro A1_ (⟨F82_, hA_, g83_, s84_, c79_, c80_, c81_⟩ | ⟨F92_, hA_, g93_, s94_, c85_, c86_, c87_, c88_, c89_, c90_, c91_⟩)
      ·
        subst hA_
        have g95_ : fs [(344, 344, 5, 5), (344, 344, 9, 10), (344, 344, 63, 63), (357, 357, 0, 100000), (359, 363, 0, 100000)] F F82_ := fs_tr g63_ s84_ rfl
        have rk96_ : rk K F82_ := rk_fs rk64_ s84_ (fun r k h => (fs_n (by omega) (fs_n (by omega) (fs_n (by omega) (fs_n (by omega) (fs_n (by omega) rfl)))))) (fs_n (by omega) (fs_n (by omega) (fs_n (by omega) (fs_n (by omega) (fs_n (by omega) rfl)))))
        have c80_s := c80_.1 (by omega)
        clear c80_
        try obtain ⟨c2_, cm1_, cm2_, cm3_⟩ := c80_s
        refine gr_v hm_176 rfl rfl ?_
        have b97_ : 0 ≤ F82_ 344 9 ∧ F82_ 344 9 ≤ 5 := gi_g g83_ rfl
        have b98_ : 0 ≤ F82_ 344 10 ∧ F82_ 344 10 ≤ 600 := gi_g g83_ rfl
        have b99_ : 0 ≤ F82_ 344 5 ∧ F82_ 344 5 ≤ 600 := gi_g g83_ rfl
        exact Or.inl ⟨F82_, rfl, g83_, g95_, (by omega), (⟨by intro h0_; have hs_ := c80_s; rw [sp_clause, c21_, pb_r, if_neg (fun h8_ => c68_ ⟨by omega, h8_⟩), hs_]; try (congr 2 <;> omega), fun h0_ => by exfalso; omega⟩), (by omega)⟩
      subst hA_
      have g100_ : fs [(344, 344, 5, 5), (344, 344, 9, 10), (344, 344, 63, 63), (357, 357, 0, 100000), (359, 363, 0, 100000)] F F92_ := fs_tr g63_ s94_ rfl
      have rk101_ : rk K F92_ := rk_fs rk64_ s94_ (fun r k h => (fs_n (by omega) (fs_n (by omega) (fs_n (by omega) (fs_n (by omega) (fs_n (by omega) rfl)))))) (fs_n (by omega) (fs_n (by omega) (fs_n (by omega) (fs_n (by omega) (fs_n (by omega) rfl)))))
      try simp only [e74_] at c88_
      try obtain ⟨c2_, cm1_, cm2_, cm3_⟩ := c86_
      refine gr_v hm_176 rfl rfl ?_
      have b102_ : 0 ≤ F92_ 344 9 ∧ F92_ 344 9 ≤ 5 := gi_g g93_ rfl
      have b103_ : 0 ≤ F92_ 344 5 ∧ F92_ 344 5 ≤ 600 := gi_g g93_ rfl
      exact Or.inr (⟨F92_, rfl, g93_, g100_, (by omega), (⟨_, by rw [sp_clause, c21_, pb_r, if_neg (fun h8_ => c68_ ⟨by omega, h8_⟩)]; exact cm1_, Eq.trans (rfl) cm3_⟩), (by omega), ((cst_tr (cst_fs (by rw [q4_]; exact (cst_u cst_r (by decide))) s25_ (fun _ => (fs_n (by omega) (fs_n (by omega) rfl)))) c89_)), ((lfr_tr (lfr_fg (by rw [q4_]; exact (lfr_uo lfr_r rfl)) s25_ rfl) c90_ (by first | omega | (simp <;> omega)) (by first | omega | (simp <;> omega)))), (by rw [clause_d, ks_ok c21_, if_neg (fun h8_ => c68_ ⟨by omega, h8_⟩)]; exact c91_)⟩)
    subst hA_
    subst hz_
    refine fl_if_ne hm_176 rfl ⟨by omega, by omega⟩ (fun _ => ?_) (fun h => absurd (by omega) h)
    have hk0 := c21_
    have hand := c69_.2
    have hsk : sk K (F23_ 344 5) = F23_ 344 5 + 1 := by rw [sk, if_pos (by omega)]
    refine ga_aload_n (v := .ref 344) hm_176 rfl rfl rfl ?_
    refine ga_dup hm_176 rfl rfl ?_
    refine ga_geti (z := F23_ 344 5) hm_176 rfl sc_344 rfl (rfl) ?_
    refine fl_iconst hm_176 rfl ?_
    refine ga_iadd (a := F23_ 344 5) (b := 1) (c := F23_ 344 5 + 1) hm_176 rfl (by omega) ?_
    refine ga_puti (z := F23_ 344 5 + 1) hm_176 rfl sc_344 rfl rfl ?_
    refine fl_iconst hm_176 rfl ?_
    refine ga_istore_n (lv2 := [(2, .int (Int32.ofInt 0)), (0, .ref 344), (1, .int (Int32.ofInt a))]) hm_176 rfl (Nat.le_of_ble_eq_true rfl) rfl ?_
    refine fl_iconst hm_176 rfl ?_
    refine ga_istore_n (lv2 := [(3, .int (Int32.ofInt 1)), (2, .int (Int32.ofInt 0)), (0, .ref 344), (1, .int (Int32.ofInt a))]) hm_176 rfl (Nat.le_of_ble_eq_true rfl) rfl ?_
    obtain ⟨F104_, q105_⟩ : ∃ F9_, F9_ = (fl_u F23_ 344 5 (F23_ 344 5 + 1)) := ⟨_, rfl⟩
    rw [← q105_]
    have g106_ : gi F104_ := by rw [q105_]; exact gi_u (g24_) rfl (by omega) (by omega)
    have g107_ : fs [(344, 344, 5, 5), (344, 344, 9, 10), (344, 344, 63, 63), (357, 357, 0, 100000), (359, 363, 0, 100000)] F F104_ := by rw [q105_]; exact fs_u (g63_) rfl
    have rk108_ : rk K F104_ := by rw [q105_]; exact rk_u (rk64_) (by omega) (by omega)
    have e112_ : F104_ 344 5 = F23_ 344 5 + 1 := by rw [q105_]; exact fl_u_eq
    have L110_ : ∀ (n109_ : Nat) (n : Int) (mo : Int) (c : Int) (L : List lt_T) (F1 : fl_N), (5 - n : Int).toNat = n109_ → (gi F1) → (fs [(344, 344, 5, 5), (344, 344, 9, 10), (344, 344, 63, 63), (357, 357, 0, 100000), (359, 363, 0, 100000)] F104_ F1) → (F1 344 9 = 0) → ((0 ≤ n ∧ n ≤ 4) ∧ F1 359 a.toNat ≤ n) → ((F1 344 63 = 0 ∧ c = 0) ∨ (F1 344 63 = 1 ∧ ¬ c = 0)) → ((mo = 1 ∧ (n = 0 ∨ ¬ K 3 (F1 344 5).toNat = 1)) ∨ (mo = 0 ∧ 0 < n ∧ K 3 (F1 344 5).toNat = 1)) → (0 ≤ F1 344 5 ∧ F1 344 5 ≤ K 1 6 - 1) → (cst a.toNat F F1) → (sp_m1 K true k l tl pl ps 4 true 0 (F104_ 344 5) = sp_m1 K true k l tl pl ps (4 - n).toNat (decide (n = 0)) c (F1 344 5)) → ((L.length : Int) = F1 359 a.toNat) → (rcl F1 (8 * a.toNat + 4) L) → (lfr a.toNat (8 * a.toNat + 4) (8 * a.toNat + 8) F F1) → (F1 357 a.toNat = (if c = 0 then 1 else c)) → (mems_d K true k l tl pl ps 4 true 0 (F104_ 344 5) = L ++ mems_d K true k l tl pl ps (4 - n).toNat (decide (n = 0)) c (F1 344 5)) → fl_R xi_ms 176 fr lo 40 [(3, .int (Int32.ofInt mo)), (2, .int (Int32.ofInt n)), (0, .ref 344), (1, .int (Int32.ofInt a))] [] (fl_H sh_T G F1 ++ X) (pq_176 G F X K a k l tl pl ps) := by
      intro n109_
      induction n109_ using Nat.strongRecOn with
      | ind n109_ ih111_ =>
      intro n mo c L F1 hn113_ hg_F1 hf_F1 hk hcn hic hmo hp1 hcs hsp hrn hrc hlf hc7 hcd2
      have g114_ : fs [(344, 344, 5, 5), (344, 344, 9, 10), (344, 344, 63, 63), (357, 357, 0, 100000), (359, 363, 0, 100000)] F F1 := fs_tr g107_ hf_F1 rfl
      have rk115_ : rk K F1 := rk_fs rk108_ hf_F1 (fun r k h => (fs_n (by omega) (fs_n (by omega) (fs_n (by omega) (fs_n (by omega) (fs_n (by omega) rfl)))))) (fs_n (by omega) (fs_n (by omega) (fs_n (by omega) (fs_n (by omega) (fs_n (by omega) rfl)))))
      have hP1 := (rkt_p hkt (p := F1 344 5) (by omega) (by omega) hgK).1
      have hsp9 := hsp
      rw [show F104_ 344 5 = F23_ 344 5 + 1 from by omega] at hsp9
      have hcd9 := hcd2
      rw [show F104_ 344 5 = F23_ 344 5 + 1 from by omega] at hcd9
      refine ga_iload_n (z := mo) hm_176 rfl rfl ?_
      refine fl_if_eq (a := mo) hm_176 rfl ⟨by omega, by omega⟩ (fun h116_ => ?_) (fun h117_ => ?_)
      ·
        refine ga_aload_n (v := .ref 344) hm_176 rfl rfl rfl ?_
        refine fl_bipush hm_176 rfl rfl ?_
        have b118_ : 0 ≤ F1 344 5 ∧ F1 344 5 ≤ 600 := gi_g hg_F1 rfl
        refine gVv (nY := 2) (F := 2) (L := 41) (As := [.int (Int32.ofInt 41)]) (b := 344) (rest := []) hm_176 rfl hm_51 rfl rfl (fl_ob sc_344) rfl rfl rfl rfl rfl (by omega) (by omega) (mc_51 hG F1 X hg_F1 (K) (41) (1) hgK rk115_ hkt (by omega) (by omega) (by omega)) (fun _ _ h => False.elim h) ?_
        have b120_ : 0 ≤ F1 344 10 ∧ F1 344 10 ≤ 600 := gi_g hg_F1 rfl
        have b121_ : 0 ≤ F1 344 9 ∧ F1 344 9 ≤ 5 := gi_g hg_F1 rfl
        rintro A1_ (⟨F125_, hA_, g126_, s127_, c122_, c123_, c124_⟩ | ⟨F131_, hA_, g132_, s133_, c128_, c129_, c130_⟩)
        ·
          subst hA_
          have g134_ : fs [(344, 344, 5, 5), (344, 344, 9, 10), (344, 344, 63, 63), (357, 357, 0, 100000), (359, 363, 0, 100000)] F F125_ := fs_tr g114_ s127_ rfl
          have rk135_ : rk K F125_ := rk_fs rk115_ s127_ (fun r k h => (fs_n (by omega) (fs_n (by omega) rfl))) (fs_n (by omega) (fs_n (by omega) rfl))
          have c123_s := c123_.1 (by omega)
          clear c123_
          refine gr_v hm_176 rfl rfl ?_
          have b136_ : 0 ≤ F125_ 344 9 ∧ F125_ 344 9 ≤ 5 := gi_g g126_ rfl
          have b137_ : 0 ≤ F125_ 344 10 ∧ F125_ 344 10 ≤ 600 := gi_g g126_ rfl
          have b138_ : 0 ≤ F125_ 344 5 ∧ F125_ 344 5 ≤ 600 := gi_g g126_ rfl
          exact Or.inl ⟨F125_, rfl, g126_, g134_, (by omega), (⟨by intro h0_; have hs_ := c123_s; exfalso; rw [sp_kind, if_pos (by omega)] at hs_; exact (nomatch hs_), fun h0_ => by exfalso; omega⟩), (by omega)⟩
        subst hA_
        have g139_ : fs [(344, 344, 5, 5), (344, 344, 9, 10), (344, 344, 63, 63), (357, 357, 0, 100000), (359, 363, 0, 100000)] F F131_ := fs_tr g114_ s133_ rfl
        have rk140_ : rk K F131_ := rk_fs rk115_ s133_ (fun r k h => (fs_n (by omega) (fs_n (by omega) rfl))) (fs_n (by omega) (fs_n (by omega) rfl))
        refine gr_v hm_176 rfl rfl ?_
        have b141_ : 0 ≤ F131_ 344 9 ∧ F131_ 344 9 ≤ 5 := gi_g g132_ rfl
        have b142_ : 0 ≤ F131_ 344 5 ∧ F131_ 344 5 ≤ 600 := gi_g g132_ rfl
        have e143_ : F131_ 357 a.toNat = F1 357 a.toNat := (s133_ 357 a.toNat (fs_n (by omega) (fs_n (by omega) rfl))).trans (rfl)
        have e144_ : F131_ 359 a.toNat = F1 359 a.toNat := (s133_ 359 a.toNat (fs_n (by omega) (fs_n (by omega) rfl))).trans (rfl)
        exact Or.inr (⟨F131_, rfl, g132_, g139_, (by omega), (⟨c, by rw [sp_clause, hk0, pb_r, if_pos hand, hsk, sm1_ok (hsp9.trans (sm1_e (by omega) (by omega))), pb_r, c129_]; rfl, Eq.trans (e143_) hc7⟩), (by omega), ((cst_fs hcs s133_ (fun _ => (fs_n (by omega) (fs_n (by omega) rfl))))), ((lfr_fg hlf s133_ rfl)), (by rw [show clause_d K true k l tl pl ps (F 344 5) = L from (by rw [clause_d, ks_ok hk0, if_pos hand, hsk, hcd9, md_e (by omega) (by omega), List.append_nil])]; exact ⟨rcl_lfr hrc (show lfr a.toNat 0 0 F1 F131_ from (lfr_fg lfr_r s133_ rfl)) (by omega), by omega⟩)⟩)
      refine ga_aload_n (v := .ref 344) hm_176 rfl rfl rfl ?_
      refine gIi (nY := 1) (F := 0) (L := 0) (As := []) (b := 344) (rest := []) hm_176 rfl hm_59 rfl rfl (fl_ob sc_344) rfl rfl rfl rfl rfl (by omega) (by omega) ?_
      intro f145_ l146_ h147_ h148_
      show fl_R xi_ms 59 f145_ l146_ 0 [(0, .ref 344)] [] _ _
      refine ga_aload_n (v := .ref 344) hm_59 rfl rfl rfl ?_
      have b149_ : 0 ≤ F1 344 9 ∧ F1 344 9 ≤ 5 := gi_g hg_F1 rfl
      refine ga_geti (z := F1 344 9) hm_59 rfl sc_344 rfl (rfl) ?_
      refine fl_if_le (a := F1 344 9) hm_59 rfl ⟨by omega, by omega⟩ (fun h150_ => ?_) (fun h151_ => ?_)
      ·
        refine fl_iconst hm_59 rfl ?_
        refine gr_i hm_59 rfl rfl (ga_nb (by omega)) ?_
        clear h147_ h148_ f145_ l146_
        refine fl_if_ne hm_176 rfl ⟨by omega, by omega⟩ (fun h => absurd h (by omega)) (fun _ => ?_)
        refine ga_iload_n (z := n) hm_176 rfl rfl ?_
        refine fl_iconst hm_176 rfl ?_
        refine fx_icmp_ne (a := n) (b := 4) hm_176 rfl ⟨by omega, by omega⟩ ⟨by omega, by omega⟩ (fun h152_ => ?_) (fun h153_ => ?_)
        ·
          refine ga_aload_n (v := .ref 344) hm_176 rfl rfl rfl ?_
          refine fl_bipush hm_176 rfl rfl ?_
          have b154_ : 0 ≤ F1 344 5 ∧ F1 344 5 ≤ 600 := gi_g hg_F1 rfl
          refine gVv (nY := 2) (F := 2) (L := 41) (As := [.int (Int32.ofInt 40)]) (b := 344) (rest := []) hm_176 rfl hm_51 rfl rfl (fl_ob sc_344) rfl rfl rfl rfl rfl (by omega) (by omega) (mc_51 hG F1 X hg_F1 (K) (40) (0) hgK rk115_ hkt (by omega) (by omega) (by omega)) (fun _ _ h => False.elim h) ?_
          have b156_ : 0 ≤ F1 344 10 ∧ F1 344 10 ≤ 600 := gi_g hg_F1 rfl
          rintro A1_ (⟨F160_, hA_, g161_, s162_, c157_, c158_, c159_⟩ | ⟨F166_, hA_, g167_, s168_, c163_, c164_, c165_⟩)
          ·
            subst hA_
            have g169_ : fs [(344, 344, 5, 5), (344, 344, 9, 10), (344, 344, 63, 63), (357, 357, 0, 100000), (359, 363, 0, 100000)] F F160_ := fs_tr g114_ s162_ rfl
            have rk170_ : rk K F160_ := rk_fs rk115_ s162_ (fun r k h => (fs_n (by omega) (fs_n (by omega) rfl))) (fs_n (by omega) (fs_n (by omega) rfl))
            have c158_s := c158_.1 (by omega)
            clear c158_
            refine ga_aload_n (v := .ref 344) hm_176 rfl rfl rfl ?_
            refine ga_iload_n (z := a) hm_176 rfl rfl ?_
            have b171_ : 0 ≤ F160_ 344 5 ∧ F160_ 344 5 ≤ 600 := gi_g g161_ rfl
            have e172_ : F160_ 344 63 = F1 344 63 := (s162_ 344 63 rfl).trans (rfl)
            have e173_ : F160_ 359 a.toNat = F1 359 a.toNat := (s162_ 359 a.toNat (fs_n (by omega) (fs_n (by omega) rfl))).trans (rfl)
            have e174_ : F160_ 357 a.toNat = F1 357 a.toNat := (s162_ 357 a.toNat (fs_n (by omega) (fs_n (by omega) rfl))).trans (rfl)
            refine gVv (nY := 4) (F := 5) (L := 117) (As := [.int (Int32.ofInt a)]) (b := 344) (rest := []) hm_176 rfl hm_181 rfl rfl (fl_ob sc_344) rfl rfl rfl rfl rfl (by omega) (by omega) (mc_181 hG F160_ X g161_ (K) (a) (k) (c) (l) (tl) (pl) (ps) (L) hgK rk170_ hkt (by omega) (fun h9_ => absurd h9_ (by omega)) (by omega) ((rpn_fs (rpn_fs (by rw [q105_]; exact (rpn_u (rpn_fs (by rw [q4_]; exact (rpn_u hpl (by omega) (by omega))) s25_ (fun _ => (fs_n (by omega) (fs_n (by omega) rfl))) (fs_n (by omega) (fs_n (by omega) rfl))) (by omega) (by omega))) hf_F1 (fun _ => (fs_n (by omega) (fs_n (by omega) (fs_n (by omega) (fs_n (by omega) (fs_n (by omega) rfl)))))) (fs_n (by omega) (fs_n (by omega) (fs_n (by omega) (fs_n (by omega) (fs_n (by omega) rfl)))))) s162_ (fun _ => (fs_n (by omega) (fs_n (by omega) rfl))) (fs_n (by omega) (fs_n (by omega) rfl)))) (⟨(rprd_fs (rprd_fs (by rw [q105_]; exact (rprd_u (rprd_fs (by rw [q4_]; exact (rprd_u hps.1 (by omega))) s25_ (fun r j hj => (fs_n (by omega) (fs_n (by omega) rfl)))) (by omega))) hf_F1 (fun r j hj => (fs_n (by omega) (fs_n (by omega) (fs_n (by omega) (fs_n (by omega) (fs_n (by omega) rfl))))))) s162_ (fun r j hj => (fs_n (by omega) (fs_n (by omega) rfl)))), hps.2⟩) (by omega) (fun _ => by omega) (fun h9_ => absurd h9_ (by omega))) (fun _ _ h => False.elim h) ?_
            have b176_ : 0 ≤ F160_ 344 10 ∧ F160_ 344 10 ≤ 600 := gi_g g161_ rfl
            have b177_ : 0 ≤ F160_ 344 9 ∧ F160_ 344 9 ≤ 5 := gi_g g161_ rfl
            rintro A1_ (⟨F181_, hA_, g182_, s183_, c178_, c179_, c180_⟩ | ⟨F191_, hA_, g192_, s193_, c184_, c185_, c186_, c187_, c188_, c189_, c190_⟩)
            ·
              subst hA_
              have g194_ : fs [(344, 344, 5, 5), (344, 344, 9, 10), (344, 344, 63, 63), (357, 357, 0, 100000), (359, 363, 0, 100000)] F F181_ := fs_tr g169_ s183_ rfl
              have rk195_ : rk K F181_ := rk_fs rk170_ s183_ (fun r k h => (fs_n (by omega) (fs_n (by omega) (fs_n (by omega) (fs_n (by omega) (fs_n (by omega) rfl)))))) (fs_n (by omega) (fs_n (by omega) (fs_n (by omega) (fs_n (by omega) (fs_n (by omega) rfl)))))
              have c179_k := c179_.2 (by omega)
              clear c179_
              try obtain ⟨c2_, cm1_, cm2_, cm3_⟩ := c179_k
              refine ga_inc (a := n) (c := n + 1) (lv2 := [(2, .int (Int32.ofInt (n + 1))), (3, .int (Int32.ofInt mo)), (0, .ref 344), (1, .int (Int32.ofInt a))]) hm_176 rfl rfl (Nat.le_of_ble_eq_true rfl) rfl rfl ?_
              refine ga_aload_n (v := .ref 344) hm_176 rfl rfl rfl ?_
              refine fl_bipush hm_176 rfl rfl ?_
              have b196_ : 0 ≤ F181_ 344 5 ∧ F181_ 344 5 ≤ 600 := gi_g g182_ rfl
              refine gVi (nY := 2) (F := 1) (L := 20) (As := [.int (Int32.ofInt 41)]) (b := 344) (rest := []) hm_176 rfl hm_52 rfl rfl (fl_ob sc_344) rfl rfl rfl rfl rfl (by omega) (by omega) (mc_52 hG F181_ X g182_ (K) (41) hgK rk195_ hkt (by omega) (by omega)) (fun _ _ h => False.elim h) ?_
              have b198_ : 0 ≤ F181_ 344 9 ∧ F181_ 344 9 ≤ 5 := gi_g g182_ rfl
              rintro z197_ A1_ (⟨hA_, hz_, c199_⟩ | ⟨hA_, hz_, c200_, c201_⟩)
              ·
                subst hA_
                subst hz_
                refine fl_if_ne hm_176 rfl ⟨by omega, by omega⟩ (fun h => absurd h (by omega)) (fun _ => ?_)
                refine fl_iconst hm_176 rfl ?_
                refine fl_goto hm_176 rfl ?_
                refine ga_istore_n (lv2 := [(3, .int (Int32.ofInt 1)), (2, .int (Int32.ofInt (n + 1))), (0, .ref 344), (1, .int (Int32.ofInt a))]) hm_176 rfl (Nat.le_of_ble_eq_true rfl) rfl ?_
                refine fl_goto hm_176 rfl ?_
                refine ga_iload_n (z := 1) hm_176 rfl rfl ?_
                refine fl_if_eq hm_176 rfl ⟨by omega, by omega⟩ (fun h => absurd h (by omega)) (fun _ => ?_)
                refine ga_aload_n (v := .ref 344) hm_176 rfl rfl rfl ?_
                refine gIi (nY := 1) (F := 0) (L := 0) (As := []) (b := 344) (rest := []) hm_176 rfl hm_59 rfl rfl (fl_ob sc_344) rfl rfl rfl rfl rfl (by omega) (by omega) ?_
                intro f202_ l203_ h204_ h205_
                show fl_R xi_ms 59 f202_ l203_ 0 [(0, .ref 344)] [] _ _
                refine ga_aload_n (v := .ref 344) hm_59 rfl rfl rfl ?_
                refine ga_geti (z := F181_ 344 9) hm_59 rfl sc_344 rfl (rfl) ?_
                refine fl_if_le (a := F181_ 344 9) hm_59 rfl ⟨by omega, by omega⟩ (fun h206_ => ?_) (fun h207_ => ?_)
                · exfalso; omega
                refine fl_iconst hm_59 rfl ?_
                refine fl_goto hm_59 rfl ?_
                refine gr_i hm_59 rfl rfl (ga_nb (by omega)) ?_
                clear h204_ h205_ f202_ l203_
                refine fl_if_ne hm_176 rfl ⟨by omega, by omega⟩ (fun _ => ?_) (fun h => absurd (by omega) h)
                refine ga_aload_n (v := .ref 344) hm_176 rfl rfl rfl ?_
                refine fl_bipush hm_176 rfl rfl ?_
                refine gVv (nY := 2) (F := 2) (L := 41) (As := [.int (Int32.ofInt 41)]) (b := 344) (rest := []) hm_176 rfl hm_51 rfl rfl (fl_ob sc_344) rfl rfl rfl rfl rfl (by omega) (by omega) (mc_51 hG F181_ X g182_ (K) (41) (1) hgK rk195_ hkt (by omega) (by omega) (by omega)) (fun _ _ h => False.elim h) ?_
                have b209_ : 0 ≤ F181_ 344 10 ∧ F181_ 344 10 ≤ 600 := gi_g g182_ rfl
                rintro A1_ (⟨F213_, hA_, g214_, s215_, c210_, c211_, c212_⟩ | ⟨F219_, hA_, g220_, s221_, c216_, c217_, c218_⟩)
                ·
                  subst hA_
                  have g222_ : fs [(344, 344, 5, 5), (344, 344, 9, 10), (344, 344, 63, 63), (357, 357, 0, 100000), (359, 363, 0, 100000)] F F213_ := fs_tr g194_ s215_ rfl
                  have rk223_ : rk K F213_ := rk_fs rk195_ s215_ (fun r k h => (fs_n (by omega) (fs_n (by omega) rfl))) (fs_n (by omega) (fs_n (by omega) rfl))
                  have c211_k := c211_.2 (by omega)
                  clear c211_
                  refine gr_v hm_176 rfl rfl ?_
                  have b224_ : 0 ≤ F213_ 344 9 ∧ F213_ 344 9 ≤ 5 := gi_g g214_ rfl
                  have b225_ : 0 ≤ F213_ 344 10 ∧ F213_ 344 10 ≤ 600 := gi_g g214_ rfl
                  have b226_ : 0 ≤ F213_ 344 5 ∧ F213_ 344 5 ≤ 600 := gi_g g214_ rfl
                  exact Or.inl ⟨F213_, rfl, g214_, g222_, (by omega), (⟨by intro h0_; have hs_ := c158_s; rw [sp_clause, hk0, pb_r, if_pos hand, hsk]; exact sm1_f hsp9 (sm1_f1 (by omega) (by omega) hs_) (by omega) (by omega), fun h0_ => by exfalso; omega⟩), (by omega)⟩
                exfalso; omega
              exfalso; omega
            exfalso; omega
          subst hA_
          have g227_ : fs [(344, 344, 5, 5), (344, 344, 9, 10), (344, 344, 63, 63), (357, 357, 0, 100000), (359, 363, 0, 100000)] F F166_ := fs_tr g114_ s168_ rfl
          have rk228_ : rk K F166_ := rk_fs rk115_ s168_ (fun r k h => (fs_n (by omega) (fs_n (by omega) rfl))) (fs_n (by omega) (fs_n (by omega) rfl))
          refine ga_aload_n (v := .ref 344) hm_176 rfl rfl rfl ?_
          refine ga_iload_n (z := a) hm_176 rfl rfl ?_
          have b229_ : 0 ≤ F166_ 344 5 ∧ F166_ 344 5 ≤ 600 := gi_g g167_ rfl
          have e230_ : F166_ 344 63 = F1 344 63 := (s168_ 344 63 rfl).trans (rfl)
          have e231_ : F166_ 359 a.toNat = F1 359 a.toNat := (s168_ 359 a.toNat (fs_n (by omega) (fs_n (by omega) rfl))).trans (rfl)
          have e232_ : F166_ 357 a.toNat = F1 357 a.toNat := (s168_ 357 a.toNat (fs_n (by omega) (fs_n (by omega) rfl))).trans (rfl)
          refine gVv (nY := 4) (F := 5) (L := 117) (As := [.int (Int32.ofInt a)]) (b := 344) (rest := []) hm_176 rfl hm_181 rfl rfl (fl_ob sc_344) rfl rfl rfl rfl rfl (by omega) (by omega) (mc_181 hG F166_ X g167_ (K) (a) (k) (c) (l) (tl) (pl) (ps) (L) hgK rk228_ hkt (by omega) (fun _ => ⟨(trm_fs (trm_fs (by rw [q105_]; exact (trm_u (trm_fs (by rw [q4_]; exact (trm_u ht (by omega))) s25_ (fun r j hj => (fs_n (by omega) (fs_n (by omega) rfl)))) (by omega))) hf_F1 (fun r j hj => (fs_n (by omega) (fs_n (by omega) (fs_n (by omega) (fs_n (by omega) (fs_n (by omega) rfl))))))) s168_ (fun r j hj => (fs_n (by omega) (fs_n (by omega) rfl)))), hlt⟩) (by omega) ((rpn_fs (rpn_fs (by rw [q105_]; exact (rpn_u (rpn_fs (by rw [q4_]; exact (rpn_u hpl (by omega) (by omega))) s25_ (fun _ => (fs_n (by omega) (fs_n (by omega) rfl))) (fs_n (by omega) (fs_n (by omega) rfl))) (by omega) (by omega))) hf_F1 (fun _ => (fs_n (by omega) (fs_n (by omega) (fs_n (by omega) (fs_n (by omega) (fs_n (by omega) rfl)))))) (fs_n (by omega) (fs_n (by omega) (fs_n (by omega) (fs_n (by omega) (fs_n (by omega) rfl)))))) s168_ (fun _ => (fs_n (by omega) (fs_n (by omega) rfl))) (fs_n (by omega) (fs_n (by omega) rfl)))) (⟨(rprd_fs (rprd_fs (by rw [q105_]; exact (rprd_u (rprd_fs (by rw [q4_]; exact (rprd_u hps.1 (by omega))) s25_ (fun r j hj => (fs_n (by omega) (fs_n (by omega) rfl)))) (by omega))) hf_F1 (fun r j hj => (fs_n (by omega) (fs_n (by omega) (fs_n (by omega) (fs_n (by omega) (fs_n (by omega) rfl))))))) s168_ (fun r j hj => (fs_n (by omega) (fs_n (by omega) rfl)))), hps.2⟩) (by omega) (fun _ => by omega) (fun _ => ⟨rcl_lfr hrc (show lfr a.toNat 0 0 F1 F166_ from (lfr_fg lfr_r s168_ rfl)) (by omega), by omega, Eq.trans (e232_) hc7⟩)) (fun _ _ h => False.elim h) ?_
          have b234_ : 0 ≤ F166_ 344 10 ∧ F166_ 344 10 ≤ 600 := gi_g g167_ rfl
          have b235_ : 0 ≤ F166_ 344 9 ∧ F166_ 344 9 ≤ 5 := gi_g g167_ rfl
          rintro A1_ (⟨F239_, hA_, g240_, s241_, c236_, c237_, c238_⟩ | ⟨F249_, hA_, g250_, s251_, c242_, c243_, c244_, c245_, c246_, c247_, c248_⟩)
          ·
            subst hA_
            have g252_ : fs [(344, 344, 5, 5), (344, 344, 9, 10), (344, 344, 63, 63), (357, 357, 0, 100000), (359, 363, 0, 100000)] F F239_ := fs_tr g227_ s241_ rfl
            have rk253_ : rk K F239_ := rk_fs rk228_ s241_ (fun r k h => (fs_n (by omega) (fs_n (by omega) (fs_n (by omega) (fs_n (by omega) (fs_n (by omega) rfl)))))) (fs_n (by omega) (fs_n (by omega) (fs_n (by omega) (fs_n (by omega) (fs_n (by omega) rfl)))))
            have c237_s := c237_.1 (by omega)
            clear c237_
            try obtain ⟨c2_, cm1_, cm2_, cm3_⟩ := c237_s
            refine ga_inc (a := n) (c := n + 1) (lv2 := [(2, .int (Int32.ofInt (n + 1))), (3, .int (Int32.ofInt mo)), (0, .ref 344), (1, .int (Int32.ofInt a))]) hm_176 rfl rfl (Nat.le_of_ble_eq_true rfl) rfl rfl ?_
            refine ga_aload_n (v := .ref 344) hm_176 rfl rfl rfl ?_
            refine fl_bipush hm_176 rfl rfl ?_
            have b254_ : 0 ≤ F239_ 344 5 ∧ F239_ 344 5 ≤ 600 := gi_g g240_ rfl
            refine gVi (nY := 2) (F := 1) (L := 20) (As := [.int (Int32.ofInt 41)]) (b := 344) (rest := []) hm_176 rfl hm_52 rfl rfl (fl_ob sc_344) rfl rfl rfl rfl rfl (by omega) (by omega) (mc_52 hG F239_ X g240_ (K) (41) hgK rk253_ hkt (by omega) (by omega)) (fun _ _ h => False.elim h) ?_
            have b256_ : 0 ≤ F239_ 344 9 ∧ F239_ 344 9 ≤ 5 := gi_g g240_ rfl
            rintro z255_ A1_ (⟨hA_, hz_, c257_⟩ | ⟨hA_, hz_, c258_, c259_⟩)
            ·
              subst hA_
              subst hz_
              refine fl_if_ne hm_176 rfl ⟨by omega, by omega⟩ (fun h => absurd h (by omega)) (fun _ => ?_)
              refine fl_iconst hm_176 rfl ?_
              refine fl_goto hm_176 rfl ?_
              refine ga_istore_n (lv2 := [(3, .int (Int32.ofInt 1)), (2, .int (Int32.ofInt (n + 1))), (0, .ref 344), (1, .int (Int32.ofInt a))]) hm_176 rfl (Nat.le_of_ble_eq_true rfl) rfl ?_
              refine fl_goto hm_176 rfl ?_
              refine ga_iload_n (z := 1) hm_176 rfl rfl ?_
              refine fl_if_eq hm_176 rfl ⟨by omega, by omega⟩ (fun h => absurd h (by omega)) (fun _ => ?_)
              refine ga_aload_n (v := .ref 344) hm_176 rfl rfl rfl ?_
              refine gIi (nY := 1) (F := 0) (L := 0) (As := []) (b := 344) (rest := []) hm_176 rfl hm_59 rfl rfl (fl_ob sc_344) rfl rfl rfl rfl rfl (by omega) (by omega) ?_
              intro f260_ l261_ h262_ h263_
              show fl_R xi_ms 59 f260_ l261_ 0 [(0, .ref 344)] [] _ _
              refine ga_aload_n (v := .ref 344) hm_59 rfl rfl rfl ?_
              refine ga_geti (z := F239_ 344 9) hm_59 rfl sc_344 rfl (rfl) ?_
              refine fl_if_le (a := F239_ 344 9) hm_59 rfl ⟨by omega, by omega⟩ (fun h264_ => ?_) (fun h265_ => ?_)
              · exfalso; omega
              refine fl_iconst hm_59 rfl ?_
              refine fl_goto hm_59 rfl ?_
              refine gr_i hm_59 rfl rfl (ga_nb (by omega)) ?_
              clear h262_ h263_ f260_ l261_
              refine fl_if_ne hm_176 rfl ⟨by omega, by omega⟩ (fun _ => ?_) (fun h => absurd (by omega) h)
              refine ga_aload_n (v := .ref 344) hm_176 rfl rfl rfl ?_
              refine fl_bipush hm_176 rfl rfl ?_
              refine gVv (nY := 2) (F := 2) (L := 41) (As := [.int (Int32.ofInt 41)]) (b := 344) (rest := []) hm_176 rfl hm_51 rfl rfl (fl_ob sc_344) rfl rfl rfl rfl rfl (by omega) (by omega) (mc_51 hG F239_ X g240_ (K) (41) (1) hgK rk253_ hkt (by omega) (by omega) (by omega)) (fun _ _ h => False.elim h) ?_
              have b267_ : 0 ≤ F239_ 344 10 ∧ F239_ 344 10 ≤ 600 := gi_g g240_ rfl
              rintro A1_ (⟨F271_, hA_, g272_, s273_, c268_, c269_, c270_⟩ | ⟨F277_, hA_, g278_, s279_, c274_, c275_, c276_⟩)
              ·
                subst hA_
                have g280_ : fs [(344, 344, 5, 5), (344, 344, 9, 10), (344, 344, 63, 63), (357, 357, 0, 100000), (359, 363, 0, 100000)] F F271_ := fs_tr g252_ s273_ rfl
                have rk281_ : rk K F271_ := rk_fs rk253_ s273_ (fun r k h => (fs_n (by omega) (fs_n (by omega) rfl))) (fs_n (by omega) (fs_n (by omega) rfl))
                have c269_k := c269_.2 (by omega)
                clear c269_
                refine gr_v hm_176 rfl rfl ?_
                have b282_ : 0 ≤ F271_ 344 9 ∧ F271_ 344 9 ≤ 5 := gi_g g272_ rfl
                have b283_ : 0 ≤ F271_ 344 10 ∧ F271_ 344 10 ≤ 600 := gi_g g272_ rfl
                have b284_ : 0 ≤ F271_ 344 5 ∧ F271_ 344 5 ≤ 600 := gi_g g272_ rfl
                exact Or.inl ⟨F271_, rfl, g272_, g280_, (by omega), (⟨by intro h0_; have hs_ := c237_s; rw [sp_clause, hk0, pb_r, if_pos hand, hsk]; exact sm1_f hsp9 (sm1_flE (by omega) (by omega) c164_ hs_) (by omega) (by omega), fun h0_ => by exfalso; omega⟩), (by omega)⟩
              exfalso; omega
            exfalso; omega
          subst hA_
          have g285_ : fs [(344, 344, 5, 5), (344, 344, 9, 10), (344, 344, 63, 63), (357, 357, 0, 100000), (359, 363, 0, 100000)] F F249_ := fs_tr g227_ s251_ rfl
          have rk286_ : rk K F249_ := rk_fs rk228_ s251_ (fun r k h => (fs_n (by omega) (fs_n (by omega) (fs_n (by omega) (fs_n (by omega) (fs_n (by omega) rfl)))))) (fs_n (by omega) (fs_n (by omega) (fs_n (by omega) (fs_n (by omega) (fs_n (by omega) rfl)))))
          try simp only [e231_] at c245_
          try obtain ⟨c2_, cm1_, cm2_, cm3_⟩ := c243_
          refine ga_inc (a := n) (c := n + 1) (lv2 := [(2, .int (Int32.ofInt (n + 1))), (3, .int (Int32.ofInt mo)), (0, .ref 344), (1, .int (Int32.ofInt a))]) hm_176 rfl rfl (Nat.le_of_ble_eq_true rfl) rfl rfl ?_
          refine ga_aload_n (v := .ref 344) hm_176 rfl rfl rfl ?_
          refine fl_bipush hm_176 rfl rfl ?_
          have b287_ : 0 ≤ F249_ 344 5 ∧ F249_ 344 5 ≤ 600 := gi_g g250_ rfl
          refine gVi (nY := 2) (F := 1) (L := 20) (As := [.int (Int32.ofInt 41)]) (b := 344) (rest := []) hm_176 rfl hm_52 rfl rfl (fl_ob sc_344) rfl rfl rfl rfl rfl (by omega) (by omega) (mc_52 hG F249_ X g250_ (K) (41) hgK rk286_ hkt (by omega) (by omega)) (fun _ _ h => False.elim h) ?_
          have b289_ : 0 ≤ F249_ 344 9 ∧ F249_ 344 9 ≤ 5 := gi_g g250_ rfl
          rintro z288_ A1_ (⟨hA_, hz_, c290_⟩ | ⟨hA_, hz_, c291_, c292_⟩)
          ·
            subst hA_
            subst hz_
            refine fl_if_ne hm_176 rfl ⟨by omega, by omega⟩ (fun h => absurd h (by omega)) (fun _ => ?_)
            refine fl_iconst hm_176 rfl ?_
            refine fl_goto hm_176 rfl ?_
            refine ga_istore_n (lv2 := [(3, .int (Int32.ofInt 1)), (2, .int (Int32.ofInt (n + 1))), (0, .ref 344), (1, .int (Int32.ofInt a))]) hm_176 rfl (Nat.le_of_ble_eq_true rfl) rfl ?_
            refine fl_goto hm_176 rfl ?_
            have b293_ : 0 ≤ F249_ 344 63 ∧ F249_ 344 63 ≤ 1 := gi_g g250_ rfl
            have b294_ : 0 ≤ F1 344 63 ∧ F1 344 63 ≤ 1 := gi_g hg_F1 rfl
            have b295_ : 0 ≤ K 1 6 ∧ K 1 6 ≤ 601 := gi_g hgK rfl
            exact ih111_ _ (by omega) (n + 1) (1) (c2_) (_) F249_ rfl g250_ (fs_tr (fs_tr hf_F1 s168_ rfl) s251_ rfl) (by omega) (by omega) (by omega) (Or.inl ⟨rfl, Or.inr (by omega)⟩) (by omega) (cst_tr (cst_fs hcs s168_ (fun _ => (fs_n (by omega) (fs_n (by omega) rfl)))) c246_) (by rw [hsp, sm1_stepE (by omega) (by omega) c164_ cm1_, decide_eq_false (show ¬ n + 1 = 0 by omega)]) (c248_.2) (c248_.1) (lfr_tr (lfr_fg hlf s168_ rfl) c247_ (by first | omega | (simp <;> omega)) (by first | omega | (simp <;> omega))) (cm3_) (by rw [hcd2, md_step (by omega) c164_ cm1_, ← List.append_assoc])
          subst hA_
          subst hz_
          refine fl_if_ne hm_176 rfl ⟨by omega, by omega⟩ (fun _ => ?_) (fun h => absurd (by omega) h)
          refine fl_iconst hm_176 rfl ?_
          refine ga_istore_n (lv2 := [(3, .int (Int32.ofInt 0)), (2, .int (Int32.ofInt (n + 1))), (0, .ref 344), (1, .int (Int32.ofInt a))]) hm_176 rfl (Nat.le_of_ble_eq_true rfl) rfl ?_
          refine fl_goto hm_176 rfl ?_
          have b296_ : 0 ≤ F249_ 344 63 ∧ F249_ 344 63 ≤ 1 := gi_g g250_ rfl
          have b297_ : 0 ≤ F1 344 63 ∧ F1 344 63 ≤ 1 := gi_g hg_F1 rfl
          have b298_ : 0 ≤ K 1 6 ∧ K 1 6 ≤ 601 := gi_g hgK rfl
          exact ih111_ _ (by omega) (n + 1) (0) (c2_) (_) F249_ rfl g250_ (fs_tr (fs_tr hf_F1 s168_ rfl) s251_ rfl) (by omega) (by omega) (by omega) (Or.inr ⟨rfl, by omega, by omega⟩) (by omega) (cst_tr (cst_fs hcs s168_ (fun _ => (fs_n (by omega) (fs_n (by omega) rfl)))) c246_) (by rw [hsp, sm1_stepE (by omega) (by omega) c164_ cm1_, decide_eq_false (show ¬ n + 1 = 0 by omega)]) (c248_.2) (c248_.1) (lfr_tr (lfr_fg hlf s168_ rfl) c247_ (by first | omega | (simp <;> omega)) (by first | omega | (simp <;> omega))) (cm3_) (by rw [hcd2, md_step (by omega) c164_ cm1_, ← List.append_assoc])
        refine ga_aload_n (v := .ref 344) hm_176 rfl rfl rfl ?_
        refine fl_iconst hm_176 rfl ?_
        have b299_ : 0 ≤ F1 344 5 ∧ F1 344 5 ≤ 600 := gi_g hg_F1 rfl
        refine gVv (nY := 2) (F := 0) (L := 0) (As := [.int (Int32.ofInt 1)]) (b := 344) (rest := []) hm_176 rfl hm_54 rfl rfl (fl_ob sc_344) rfl rfl rfl rfl rfl (by omega) (by omega) (mc_54 hG F1 X hg_F1 (K) (1) hgK rk115_ hkt (by omega) (by omega)) (fun _ _ h => False.elim h) ?_
        have b301_ : 0 ≤ F1 344 10 ∧ F1 344 10 ≤ 600 := gi_g hg_F1 rfl
        rintro A1_ ⟨F305_, hA_, g306_, s307_, c302_, c303_, c304_⟩
        subst hA_
        have g308_ : fs [(344, 344, 5, 5), (344, 344, 9, 10), (344, 344, 63, 63), (357, 357, 0, 100000), (359, 363, 0, 100000)] F F305_ := fs_tr g114_ s307_ rfl
        have rk309_ : rk K F305_ := rk_fs rk115_ s307_ (fun r k h => (fs_n (by omega) rfl)) (fs_n (by omega) rfl)
        have c303_s := c303_.1 (by omega)
        clear c303_
        refine ga_aload_n (v := .ref 344) hm_176 rfl rfl rfl ?_
        refine fl_bipush hm_176 rfl rfl ?_
        have e310_ : F305_ 344 5 = F1 344 5 := (s307_ 344 5 rfl).trans (rfl)
        refine gVv (nY := 2) (F := 2) (L := 41) (As := [.int (Int32.ofInt 40)]) (b := 344) (rest := []) hm_176 rfl hm_51 rfl rfl (fl_ob sc_344) rfl rfl rfl rfl rfl (by omega) (by omega) (mc_51 hG F305_ X g306_ (K) (40) (0) hgK rk309_ hkt (by omega) (by omega) (by omega)) (fun _ _ h => False.elim h) ?_
        have b312_ : 0 ≤ F305_ 344 10 ∧ F305_ 344 10 ≤ 600 := gi_g g306_ rfl
        have b313_ : 0 ≤ F305_ 344 9 ∧ F305_ 344 9 ≤ 5 := gi_g g306_ rfl
        rintro A1_ (⟨F317_, hA_, g318_, s319_, c314_, c315_, c316_⟩ | ⟨F323_, hA_, g324_, s325_, c320_, c321_, c322_⟩)
        ·
          subst hA_
          have g326_ : fs [(344, 344, 5, 5), (344, 344, 9, 10), (344, 344, 63, 63), (357, 357, 0, 100000), (359, 363, 0, 100000)] F F317_ := fs_tr g308_ s319_ rfl
          have rk327_ : rk K F317_ := rk_fs rk309_ s319_ (fun r k h => (fs_n (by omega) (fs_n (by omega) rfl))) (fs_n (by omega) (fs_n (by omega) rfl))
          try simp only [e310_] at c315_
          have c315_k := c315_.2 (by omega)
          clear c315_
          refine ga_aload_n (v := .ref 344) hm_176 rfl rfl rfl ?_
          refine ga_iload_n (z := a) hm_176 rfl rfl ?_
          have b328_ : 0 ≤ F317_ 344 5 ∧ F317_ 344 5 ≤ 600 := gi_g g318_ rfl
          have e329_ : F305_ 344 63 = F1 344 63 := (s307_ 344 63 rfl).trans (rfl)
          have e330_ : F317_ 344 63 = F1 344 63 := (s319_ 344 63 rfl).trans (e329_)
          have e331_ : F305_ 359 a.toNat = F1 359 a.toNat := (s307_ 359 a.toNat (fs_n (by omega) rfl)).trans (rfl)
          have e332_ : F317_ 359 a.toNat = F1 359 a.toNat := (s319_ 359 a.toNat (fs_n (by omega) (fs_n (by omega) rfl))).trans (e331_)
          have e333_ : F305_ 357 a.toNat = F1 357 a.toNat := (s307_ 357 a.toNat (fs_n (by omega) rfl)).trans (rfl)
          have e334_ : F317_ 357 a.toNat = F1 357 a.toNat := (s319_ 357 a.toNat (fs_n (by omega) (fs_n (by omega) rfl))).trans (e333_)
          refine gVv (nY := 4) (F := 5) (L := 117) (As := [.int (Int32.ofInt a)]) (b := 344) (rest := []) hm_176 rfl hm_181 rfl rfl (fl_ob sc_344) rfl rfl rfl rfl rfl (by omega) (by omega) (mc_181 hG F317_ X g318_ (K) (a) (k) (c) (l) (tl) (pl) (ps) (L) hgK rk327_ hkt (by omega) (fun h9_ => absurd h9_ (by omega)) (by omega) ((rpn_fs (rpn_fs (rpn_fs (by rw [q105_]; exact (rpn_u (rpn_fs (by rw [q4_]; exact (rpn_u hpl (by omega) (by omega))) s25_ (fun _ => (fs_n (by omega) (fs_n (by omega) rfl))) (fs_n (by omega) (fs_n (by omega) rfl))) (by omega) (by omega))) hf_F1 (fun _ => (fs_n (by omega) (fs_n (by omega) (fs_n (by omega) (fs_n (by omega) (fs_n (by omega) rfl)))))) (fs_n (by omega) (fs_n (by omega) (fs_n (by omega) (fs_n (by omega) (fs_n (by omega) rfl)))))) s307_ (fun _ => (fs_n (by omega) rfl)) (fs_n (by omega) rfl)) s319_ (fun _ => (fs_n (by omega) (fs_n (by omega) rfl))) (fs_n (by omega) (fs_n (by omega) rfl)))) (⟨(rprd_fs (rprd_fs (rprd_fs (by rw [q105_]; exact (rprd_u (rprd_fs (by rw [q4_]; exact (rprd_u hps.1 (by omega))) s25_ (fun r j hj => (fs_n (by omega) (fs_n (by omega) rfl)))) (by omega))) hf_F1 (fun r j hj => (fs_n (by omega) (fs_n (by omega) (fs_n (by omega) (fs_n (by omega) (fs_n (by omega) rfl))))))) s307_ (fun r j hj => (fs_n (by omega) rfl))) s319_ (fun r j hj => (fs_n (by omega) (fs_n (by omega) rfl)))), hps.2⟩) (by omega) (fun _ => by omega) (fun h9_ => absurd h9_ (by omega))) (fun _ _ h => False.elim h) ?_
          have b336_ : 0 ≤ F317_ 344 10 ∧ F317_ 344 10 ≤ 600 := gi_g g318_ rfl
          have b337_ : 0 ≤ F317_ 344 9 ∧ F317_ 344 9 ≤ 5 := gi_g g318_ rfl
          rintro A1_ (⟨F341_, hA_, g342_, s343_, c338_, c339_, c340_⟩ | ⟨F351_, hA_, g352_, s353_, c344_, c345_, c346_, c347_, c348_, c349_, c350_⟩)
          ·
            subst hA_
            have g354_ : fs [(344, 344, 5, 5), (344, 344, 9, 10), (344, 344, 63, 63), (357, 357, 0, 100000), (359, 363, 0, 100000)] F F341_ := fs_tr g326_ s343_ rfl
            have rk355_ : rk K F341_ := rk_fs rk327_ s343_ (fun r k h => (fs_n (by omega) (fs_n (by omega) (fs_n (by omega) (fs_n (by omega) (fs_n (by omega) rfl)))))) (fs_n (by omega) (fs_n (by omega) (fs_n (by omega) (fs_n (by omega) (fs_n (by omega) rfl)))))
            have c339_k := c339_.2 (by omega)
            clear c339_
            try obtain ⟨c2_, cm1_, cm2_, cm3_⟩ := c339_k
            refine ga_inc (a := n) (c := n + 1) (lv2 := [(2, .int (Int32.ofInt (n + 1))), (3, .int (Int32.ofInt mo)), (0, .ref 344), (1, .int (Int32.ofInt a))]) hm_176 rfl rfl (Nat.le_of_ble_eq_true rfl) rfl rfl ?_
            refine ga_aload_n (v := .ref 344) hm_176 rfl rfl rfl ?_
            refine fl_bipush hm_176 rfl rfl ?_
            have b356_ : 0 ≤ F341_ 344 5 ∧ F341_ 344 5 ≤ 600 := gi_g g342_ rfl
            refine gVi (nY := 2) (F := 1) (L := 20) (As := [.int (Int32.ofInt 41)]) (b := 344) (rest := []) hm_176 rfl hm_52 rfl rfl (fl_ob sc_344) rfl rfl rfl rfl rfl (by omega) (by omega) (mc_52 hG F341_ X g342_ (K) (41) hgK rk355_ hkt (by omega) (by omega)) (fun _ _ h => False.elim h) ?_
            have b358_ : 0 ≤ F341_ 344 9 ∧ F341_ 344 9 ≤ 5 := gi_g g342_ rfl
            rintro z357_ A1_ (⟨hA_, hz_, c359_⟩ | ⟨hA_, hz_, c360_, c361_⟩)
            ·
              subst hA_
              subst hz_
              refine fl_if_ne hm_176 rfl ⟨by omega, by omega⟩ (fun h => absurd h (by omega)) (fun _ => ?_)
              refine fl_iconst hm_176 rfl ?_
              refine fl_goto hm_176 rfl ?_
              refine ga_istore_n (lv2 := [(3, .int (Int32.ofInt 1)), (2, .int (Int32.ofInt (n + 1))), (0, .ref 344), (1, .int (Int32.ofInt a))]) hm_176 rfl (Nat.le_of_ble_eq_true rfl) rfl ?_
              refine fl_goto hm_176 rfl ?_
              refine ga_iload_n (z := 1) hm_176 rfl rfl ?_
              refine fl_if_eq hm_176 rfl ⟨by omega, by omega⟩ (fun h => absurd h (by omega)) (fun _ => ?_)
              refine ga_aload_n (v := .ref 344) hm_176 rfl rfl rfl ?_
              refine gIi (nY := 1) (F := 0) (L := 0) (As := []) (b := 344) (rest := []) hm_176 rfl hm_59 rfl rfl (fl_ob sc_344) rfl rfl rfl rfl rfl (by omega) (by omega) ?_
              intro f362_ l363_ h364_ h365_
              show fl_R xi_ms 59 f362_ l363_ 0 [(0, .ref 344)] [] _ _
              refine ga_aload_n (v := .ref 344) hm_59 rfl rfl rfl ?_
              refine ga_geti (z := F341_ 344 9) hm_59 rfl sc_344 rfl (rfl) ?_
              refine fl_if_le (a := F341_ 344 9) hm_59 rfl ⟨by omega, by omega⟩ (fun h366_ => ?_) (fun h367_ => ?_)
              · exfalso; omega
              refine fl_iconst hm_59 rfl ?_
              refine fl_goto hm_59 rfl ?_
              refine gr_i hm_59 rfl rfl (ga_nb (by omega)) ?_
              clear h364_ h365_ f362_ l363_
              refine fl_if_ne hm_176 rfl ⟨by omega, by omega⟩ (fun _ => ?_) (fun h => absurd (by omega) h)
              refine ga_aload_n (v := .ref 344) hm_176 rfl rfl rfl ?_
              refine fl_bipush hm_176 rfl rfl ?_
              refine gVv (nY := 2) (F := 2) (L := 41) (As := [.int (Int32.ofInt 41)]) (b := 344) (rest := []) hm_176 rfl hm_51 rfl rfl (fl_ob sc_344) rfl rfl rfl rfl rfl (by omega) (by omega) (mc_51 hG F341_ X g342_ (K) (41) (1) hgK rk355_ hkt (by omega) (by omega) (by omega)) (fun _ _ h => False.elim h) ?_
              have b369_ : 0 ≤ F341_ 344 10 ∧ F341_ 344 10 ≤ 600 := gi_g g342_ rfl
              rintro A1_ (⟨F373_, hA_, g374_, s375_, c370_, c371_, c372_⟩ | ⟨F379_, hA_, g380_, s381_, c376_, c377_, c378_⟩)
              ·
                subst hA_
                have g382_ : fs [(344, 344, 5, 5), (344, 344, 9, 10), (344, 344, 63, 63), (357, 357, 0, 100000), (359, 363, 0, 100000)] F F373_ := fs_tr g354_ s375_ rfl
                have rk383_ : rk K F373_ := rk_fs rk355_ s375_ (fun r k h => (fs_n (by omega) (fs_n (by omega) rfl))) (fs_n (by omega) (fs_n (by omega) rfl))
                have c371_k := c371_.2 (by omega)
                clear c371_
                refine gr_v hm_176 rfl rfl ?_
                have b384_ : 0 ≤ F373_ 344 9 ∧ F373_ 344 9 ≤ 5 := gi_g g374_ rfl
                have b385_ : 0 ≤ F373_ 344 10 ∧ F373_ 344 10 ≤ 600 := gi_g g374_ rfl
                have b386_ : 0 ≤ F373_ 344 5 ∧ F373_ 344 5 ≤ 600 := gi_g g374_ rfl
                exact Or.inl ⟨F373_, rfl, g374_, g382_, (by omega), (⟨by intro h0_; have hs_ := c303_s; rw [sp_clause, hk0, pb_r, if_pos hand, hsk]; exact sm1_f hsp9 (sm1_f4 (by omega) (by omega)) (by omega) (by omega), fun h0_ => by exfalso; omega⟩), (by omega)⟩
              exfalso; omega
            exfalso; omega
          exfalso; omega
        exfalso; omega
      exfalso; omega
    have e387_ : F104_ 344 9 = F23_ 344 9 := by rw [q105_]; exact fl_u_ne (by omega)
    have e388_ : F3_ 344 63 = 0 := by rw [q4_]; exact fl_u_eq
    have e389_ : F23_ 344 63 = 0 := (s25_ 344 63 rfl).trans (e388_)
    have e390_ : F104_ 344 63 = 0 := by rw [q105_]; exact (fl_u_ne (by omega)).trans (e389_)
    have b391_ : 0 ≤ K 1 6 ∧ K 1 6 ≤ 601 := gi_g hgK rfl
    have e392_ : F3_ 359 a.toNat = F 359 a.toNat := by rw [q4_]; exact fl_u_ne (by omega)
    have e393_ : F23_ 359 a.toNat = F 359 a.toNat := (s25_ 359 a.toNat (fs_n (by omega) (fs_n (by omega) rfl))).trans (e392_)
    have e394_ : F104_ 359 a.toNat = F 359 a.toNat := by rw [q105_]; exact (fl_u_ne (by omega)).trans (e393_)
    have e395_ : F3_ 357 a.toNat = F 357 a.toNat := by rw [q4_]; exact fl_u_ne (by omega)
    have e396_ : F23_ 357 a.toNat = F 357 a.toNat := (s25_ 357 a.toNat (fs_n (by omega) (fs_n (by omega) rfl))).trans (e395_)
    have e397_ : F104_ 357 a.toNat = F 357 a.toNat := by rw [q105_]; exact (fl_u_ne (by omega)).trans (e396_)
    exact L110_ _ (0) (1) (0) ([]) F104_ rfl g106_ fs_refl (by omega) (by omega) (Or.inl ⟨by omega, rfl⟩) (Or.inl ⟨rfl, Or.inl rfl⟩) (by omega) (by rw [q105_]; exact (cst_u (cst_fs (by rw [q4_]; exact (cst_u cst_r (by decide))) s25_ (fun _ => (fs_n (by omega) (fs_n (by omega) rfl)))) (by decide))) (rfl) (by simp; omega) (rcl_nil) (by rw [q105_]; exact (lfr_uo (lfr_fg (by rw [q4_]; exact (lfr_uo lfr_r rfl)) s25_ rfl) rfl)) (by rw [if_pos rfl]; exact Eq.trans (e397_) (hc19 (by omega))) (rfl)
  refine ga_aload_n (v := .ref 344) hm_176 rfl rfl rfl ?_
  refine fl_iconst hm_176 rfl ?_
  refine ga_putz (z := 0) hm_176 rfl sc_344 rfl rfl (by omega) ?_
  
  refine ga_aload_n (v := .ref 344) hm_176 rfl rfl rfl ?_
  refine fl_bipush hm_176 rfl rfl ?_
  obtain ⟨F398_, q399_⟩ : ∃ F9_, F9_ = (fl_u F 344 63 0) := ⟨_, rfl⟩
  rw [← q399_]
  have g400_ : gi F398_ := by rw [q399_]; exact gi_u (hgi) rfl (by omega) (by omega)
  have g401_ : fs [(344, 344, 5, 5), (344, 344, 9, 10), (344, 344, 63, 63), (357, 357, 0, 100000), (359, 363, 0, 100000)] F F398_ := by rw [q399_]; exact fs_u (fs_refl) rfl
  have rk402_ : rk K F398_ := by rw [q399_]; exact rk_u (hrk) (by omega) (by omega)
  have e403_ : F398_ 344 5 = F 344 5 := by rw [q399_]; exact fl_u_ne (by omega)
  have b404_ : 0 ≤ F 344 5 ∧ F 344 5 ≤ 600 := gi_g hgi rfl
  refine gVv (nY := 2) (F := 2) (L := 41) (As := [.int (Int32.ofInt 40)]) (b := 344) (rest := []) hm_176 rfl hm_51 rfl rfl (fl_ob sc_344) rfl rfl rfl rfl rfl (by omega) (by omega) (mc_51 hG F398_ X g400_ (K) (40) (0) hgK rk402_ hkt (by omega) (by omega) (by omega)) (fun _ _ h => False.elim h) ?_
  have e406_ : F398_ 344 10 = F 344 10 := by rw [q399_]; exact fl_u_ne (by omega)
  have b407_ : 0 ≤ F 344 10 ∧ F 344 10 ≤ 600 := gi_g hgi rfl
  have e408_ : F398_ 344 9 = F 344 9 := by rw [q399_]; exact fl_u_ne (by omega)
  rintro A1_ (⟨F412_, hA_, g413_, s414_, c409_, c410_, c411_⟩ | ⟨F418_, hA_, g419_, s420_, c415_, c416_, c417_⟩)
  ·
    subst hA_
    have g421_ : fs [(344, 344, 5, 5), (344, 344, 9, 10), (344, 344, 63, 63), (357, 357, 0, 100000), (359, 363, 0, 100000)] F F412_ := fs_tr g401_ s414_ rfl
    have rk422_ : rk K F412_ := rk_fs rk402_ s414_ (fun r k h => (fs_n (by omega) (fs_n (by omega) rfl))) (fs_n (by omega) (fs_n (by omega) rfl))
    try simp only [e403_, e406_, e408_] at c410_
    have c410_k := c410_.2 (by omega)
    clear c410_
    refine ga_aload_n (v := .ref 344) hm_176 rfl rfl rfl ?_
    refine fl_bipush hm_176 rfl rfl ?_
    have b423_ : 0 ≤ F412_ 344 5 ∧ F412_ 344 5 ≤ 600 := gi_g g413_ rfl
    refine gVi (nY := 4) (F := 1) (L := 21) (As := [.int (Int32.ofInt 8)]) (b := 344) (rest := []) hm_176 rfl hm_56 rfl rfl (fl_ob sc_344) rfl rfl rfl rfl rfl (by omega) (by omega) (mc_56 hG F412_ X g413_ (K) (8) ([97, 110, 100]) hgK rk422_ hkt (by omega) (by omega) (by decide) (kw_8 rk422_)) (fun _ _ h => False.elim h) ?_
    have b425_ : 0 ≤ F412_ 344 9 ∧ F412_ 344 9 ≤ 5 := gi_g g413_ rfl
    rintro z424_ A1_ (⟨hA_, hz_, c426_⟩ | ⟨hA_, hz_, c427_, c428_⟩)
    ·
      subst hA_
      subst hz_
      refine fl_if_ne hm_176 rfl ⟨by omega, by omega⟩ (fun h => absurd h (by omega)) (fun _ => ?_)
      refine ga_aload_n (v := .ref 344) hm_176 rfl rfl rfl ?_
      refine ga_iload_n (z := a) hm_176 rfl rfl ?_
      have e429_ : F398_ 344 63 = 0 := by rw [q399_]; exact fl_u_eq
      have e430_ : F412_ 344 63 = 0 := (s414_ 344 63 rfl).trans (e429_)
      have e431_ : F398_ 359 a.toNat = F 359 a.toNat := by rw [q399_]; exact fl_u_ne (by omega)
      have e432_ : F412_ 359 a.toNat = F 359 a.toNat := (s414_ 359 a.toNat (fs_n (by omega) (fs_n (by omega) rfl))).trans (e431_)
      have e433_ : F398_ 357 a.toNat = F 357 a.toNat := by rw [q399_]; exact fl_u_ne (by omega)
      have e434_ : F412_ 357 a.toNat = F 357 a.toNat := (s414_ 357 a.toNat (fs_n (by omega) (fs_n (by omega) rfl))).trans (e433_)
      refine gVv (nY := 4) (F := 5) (L := 117) (As := [.int (Int32.ofInt a)]) (b := 344) (rest := []) hm_176 rfl hm_181 rfl rfl (fl_ob sc_344) rfl rfl rfl rfl rfl (by omega) (by omega) (mc_181 hG F412_ X g413_ (K) (a) (k) (0) (l) (tl) (pl) (ps) ([]) hgK rk422_ hkt (by omega) (fun h9_ => absurd h9_ (by omega)) (by omega) ((rpn_fs (by rw [q399_]; exact (rpn_u hpl (by omega) (by omega))) s414_ (fun _ => (fs_n (by omega) (fs_n (by omega) rfl))) (fs_n (by omega) (fs_n (by omega) rfl)))) (⟨(rprd_fs (by rw [q399_]; exact (rprd_u hps.1 (by omega))) s414_ (fun r j hj => (fs_n (by omega) (fs_n (by omega) rfl)))), hps.2⟩) (Or.inl ⟨by omega, rfl⟩) (fun _ => by omega) (fun h9_ => absurd h9_ (by omega))) (fun _ _ h => False.elim h) ?_
      have b436_ : 0 ≤ F412_ 344 10 ∧ F412_ 344 10 ≤ 600 := gi_g g413_ rfl
      rintro A1_ (⟨F440_, hA_, g441_, s442_, c437_, c438_, c439_⟩ | ⟨F450_, hA_, g451_, s452_, c443_, c444_, c445_, c446_, c447_, c448_, c449_⟩)
      ·
        subst hA_
        have g453_ : fs [(344, 344, 5, 5), (344, 344, 9, 10), (344, 344, 63, 63), (357, 357, 0, 100000), (359, 363, 0, 100000)] F F440_ := fs_tr g421_ s442_ rfl
        have rk454_ : rk K F440_ := rk_fs rk422_ s442_ (fun r k h => (fs_n (by omega) (fs_n (by omega) (fs_n (by omega) (fs_n (by omega) (fs_n (by omega) rfl)))))) (fs_n (by omega) (fs_n (by omega) (fs_n (by omega) (fs_n (by omega) (fs_n (by omega) rfl)))))
        have c438_k := c438_.2 (by omega)
        clear c438_
        try obtain ⟨c2_, cm1_, cm2_, cm3_⟩ := c438_k
        refine gr_v hm_176 rfl rfl ?_
        have b455_ : 0 ≤ F440_ 344 9 ∧ F440_ 344 9 ≤ 5 := gi_g g441_ rfl
        have b456_ : 0 ≤ F440_ 344 10 ∧ F440_ 344 10 ≤ 600 := gi_g g441_ rfl
        have b457_ : 0 ≤ F440_ 344 5 ∧ F440_ 344 5 ≤ 600 := gi_g g441_ rfl
        exact Or.inl ⟨F440_, rfl, g441_, g453_, (by omega), (⟨fun h0_ => by exfalso; omega, fun h0_ => by constructor <;> omega⟩), (by omega)⟩
      exfalso; omega
    exfalso; omega
  exfalso; omega

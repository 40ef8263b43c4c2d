/- CheapPlannerModel.readEffect -/
abbrev pq_176 (G : Nat → Nat → Option Nat) (F : fl_N) (X : xi_H) (K : fl_N) (a k : Int) (l tl pl : List Int) (ps : List (List Int)) : Outcome → xi_H → Prop := gqv (fun A => (∃ F' : fl_N, fl_H sh_T G F' ++ X = A ∧ gi F' ∧ fs [(344, 344, 5, 5), (344, 344, 9, 10), (344, 344, 63, 63), (357, 357, 0, 100000), (359, 363, 0, 100000)] F F' ∧ (¬ F' 344 9 = 0) ∧ ((F 344 9 = 0 → sp_clause K true k l tl pl ps (F 344 5) = .inl (F' 344 9, F' 344 10)) ∧ (¬ F 344 9 = 0 → F' 344 9 = F 344 9 ∧ F' 344 10 = F 344 10)) ∧ (0 ≤ F' 344 5 ∧ F' 344 5 ≤ K 1 6 - 1)) ∨ (∃ F' : fl_N, fl_H sh_T G F' ++ X = A ∧ gi F' ∧ fs [(344, 344, 5, 5), (344, 344, 9, 10), (344, 344, 63, 63), (357, 357, 0, 100000), (359, 363, 0, 100000)] F F' ∧ (F' 344 9 = 0 ∧ F 344 9 = 0) ∧ (∃ c2, sp_clause K true k l tl pl ps (F 344 5) = .inr (F' 344 5, c2)) ∧ (0 ≤ F' 344 5 ∧ F' 344 5 ≤ K 1 6 - 1))) gqn
set_option maxHeartbeats 16000000 in
theorem mc_176 {G : Nat → Nat → Option Nat} (hG : gg G) (F : fl_N) (X : xi_H) (hgi : gi F) (K : fl_N) (a k : Int) (l tl pl : List Int) (ps : List (List Int)) (hgK : gi K) (hrk : rk K F) (hkt : rkt K) (hp : 0 ≤ F 344 5 ∧ F 344 5 ≤ K 1 6 - 1) (ht9 : F 344 9 = 0 → trm F a k l tl ∧ l.length = tl.length) (ha : 0 ≤ a ∧ a ≤ 4) (hpl : rpn (F 350) (F 344 17) pl) (hps : rprd F ps ∧ ps.length = pl.length) (hc09 : F 344 9 = 0 → F 359 a.toNat = 0) : fl_M xi_ms 176 6 140 [.ref 344, .int (Int32.ofInt a)] (fl_H sh_T G F ++ X) (pq_176 G F X K a k l tl pl ps) := by
  intro fr lo hfr hlo
  show fl_R xi_ms 176 fr lo 0 [(0, .ref 344), (1, .int (Int32.ofInt a))] [] _ _
  have hP := (rkt_p hkt hp.1 hp.2 hgK).1
  have hK16 : 0 ≤ K 1 6 ∧ K 1 6 ≤ 601 := gi_g hgK rfl
  have hko := hkt.1
  have b1_ : 0 ≤ F 344 9 ∧ F 344 9 ≤ 5 := gi_g hgi rfl
  by_cases h2_ : F 344 9 = 0
  ·
    refine ga_aload_n (v := .ref 344) hm_176 rfl rfl rfl ?_
    refine fl_iconst hm_176 rfl ?_
    refine ga_putz (z := 0) hm_176 rfl sc_344 rfl rfl (by omega) ?_
    have ht := (ht9 (by omega)).1
    have hlt := (ht9 (by omega)).2
    have hc0 := hc09 (by omega)
    refine ga_aload_n (v := .ref 344) hm_176 rfl rfl rfl ?_
    refine fl_bipush hm_176 rfl rfl ?_
    obtain ⟨F3_, q4_⟩ : ∃ F9_, F9_ = (fl_u F 344 63 0) := ⟨_, rfl⟩
    rw [← q4_]
    have g5_ : gi F3_ := by rw [q4_]; exact gi_u (hgi) rfl (by omega) (by omega)
    have g6_ : fs [(344, 344, 5, 5), (344, 344, 9, 10), (344, 344, 63, 63), (357, 357, 0, 100000), (359, 363, 0, 100000)] F F3_ := by rw [q4_]; exact fs_u (fs_refl) rfl
    have rk7_ : rk K F3_ := by rw [q4_]; exact rk_u (hrk) (by omega) (by omega)
    have e8_ : F3_ 344 5 = F 344 5 := by rw [q4_]; exact fl_u_ne (by omega)
    have b9_ : 0 ≤ F 344 5 ∧ F 344 5 ≤ 600 := gi_g hgi rfl
    refine gVv (nY := 2) (F := 2) (L := 41) (As := [.int (Int32.ofInt 40)]) (b := 344) (rest := []) hm_176 rfl hm_51 rfl rfl (fl_ob sc_344) rfl rfl rfl rfl rfl (by omega) (by omega) (mc_51 hG F3_ X g5_ (K) (40) (0) hgK rk7_ hkt (by omega) (by omega) (by omega)) (fun _ _ h => False.elim h) ?_
    have e11_ : F3_ 344 10 = F 344 10 := by rw [q4_]; exact fl_u_ne (by omega)
    have b12_ : 0 ≤ F 344 10 ∧ F 344 10 ≤ 600 := gi_g hgi rfl
    have e13_ : F3_ 344 9 = F 344 9 := by rw [q4_]; exact fl_u_ne (by omega)
    rintro A1_ (⟨F17_, hA_, g18_, s19_, c14_, c15_, c16_⟩ | ⟨F23_, hA_, g24_, s25_, c20_, c21_, c22_⟩)
    ·
      subst hA_
      have g26_ : fs [(344, 344, 5, 5), (344, 344, 9, 10), (344, 344, 63, 63), (357, 357, 0, 100000), (359, 363, 0, 100000)] F F17_ := fs_tr g6_ s19_ rfl
      have rk27_ : rk K F17_ := rk_fs rk7_ s19_ (fun r k h => (fs_n (by omega) (fs_n (by omega) rfl))) (fs_n (by omega) (fs_n (by omega) rfl))
      try simp only [e8_, e11_, e13_] at c15_
      have c15_s := c15_.1 (by omega)
      clear c15_
      refine ga_aload_n (v := .ref 344) hm_176 rfl rfl rfl ?_
      refine fl_bipush hm_176 rfl rfl ?_
      have b28_ : 0 ≤ F17_ 344 5 ∧ F17_ 344 5 ≤ 600 := gi_g g18_ rfl
      refine gVi (nY := 4) (F := 1) (L := 21) (As := [.int (Int32.ofInt 8)]) (b := 344) (rest := []) hm_176 rfl hm_56 rfl rfl (fl_ob sc_344) rfl rfl rfl rfl rfl (by omega) (by omega) (mc_56 hG F17_ X g18_ (K) (8) ([97, 110, 100]) hgK rk27_ hkt (by omega) (by omega) (by decide) (kw_8 rk27_)) (fun _ _ h => False.elim h) ?_
      have b30_ : 0 ≤ F17_ 344 9 ∧ F17_ 344 9 ≤ 5 := gi_g g18_ rfl
      rintro z29_ A1_ (⟨hA_, hz_, c31_⟩ | ⟨hA_, hz_, c32_, c33_⟩)
      ·
        subst hA_
        subst hz_
        refine fl_if_ne hm_176 rfl ⟨by omega, by omega⟩ (fun h => absurd h (by omega)) (fun _ => ?_)
        refine ga_aload_n (v := .ref 344) hm_176 rfl rfl rfl ?_
        refine ga_iload_n (z := a) hm_176 rfl rfl ?_
        have e34_ : F3_ 344 63 = 0 := by rw [q4_]; exact fl_u_eq
        have e35_ : F17_ 344 63 = 0 := (s19_ 344 63 rfl).trans (e34_)
        have e36_ : F3_ 359 a.toNat = F 359 a.toNat := by rw [q4_]; exact fl_u_ne (by omega)
        have e37_ : F17_ 359 a.toNat = F 359 a.toNat := (s19_ 359 a.toNat (fs_n (by omega) (fs_n (by omega) rfl))).trans (e36_)
        refine gVv (nY := 4) (F := 5) (L := 117) (As := [.int (Int32.ofInt a)]) (b := 344) (rest := []) hm_176 rfl hm_181 rfl rfl (fl_ob sc_344) rfl rfl rfl rfl rfl (by omega) (by omega) (mc_181 hG F17_ X g18_ (K) (a) (k) (0) (l) (tl) (pl) (ps) hgK rk27_ hkt (by omega) (fun h9_ => absurd h9_ (by omega)) (by omega) ((rpn_fs (by rw [q4_]; exact (rpn_u hpl (by omega) (by omega))) s19_ (fun _ => (fs_n (by omega) (fs_n (by omega) rfl))) (fs_n (by omega) (fs_n (by omega) rfl)))) (⟨(rprd_fs (by rw [q4_]; exact (rprd_u hps.1 (by omega))) s19_ (fun r j hj => (fs_n (by omega) (fs_n (by omega) rfl)))), hps.2⟩) (Or.inl ⟨by omega, rfl⟩) (fun _ => by omega)) (fun _ _ h => False.elim h) ?_
        have b39_ : 0 ≤ F17_ 344 10 ∧ F17_ 344 10 ≤ 600 := gi_g g18_ rfl
        rintro A1_ (⟨F43_, hA_, g44_, s45_, c40_, c41_, c42_⟩ | ⟨F50_, hA_, g51_, s52_, c46_, c47_, c48_, c49_⟩)
        ·
          subst hA_
          have g53_ : fs [(344, 344, 5, 5), (344, 344, 9, 10), (344, 344, 63, 63), (357, 357, 0, 100000), (359, 363, 0, 100000)] F F43_ := fs_tr g26_ s45_ rfl
          have rk54_ : rk K F43_ := rk_fs rk27_ s45_ (fun r k h => (fs_n (by omega) (fs_n (by omega) (fs_n (by omega) (fs_n (by omega) (fs_n (by omega) rfl)))))) (fs_n (by omega) (fs_n (by omega) (fs_n (by omega) (fs_n (by omega) (fs_n (by omega) rfl)))))
          have c41_k := c41_.2 (by omega)
          clear c41_
          try obtain ⟨c2_, cm1_, cm2_⟩ := c41_k
          refine gr_v hm_176 rfl rfl ?_
          have b55_ : 0 ≤ F43_ 344 9 ∧ F43_ 344 9 ≤ 5 := gi_g g44_ rfl
          have b56_ : 0 ≤ F43_ 344 10 ∧ F43_ 344 10 ≤ 600 := gi_g g44_ rfl
          have b57_ : 0 ≤ F43_ 344 5 ∧ F43_ 344 5 ≤ 600 := gi_g g44_ rfl
          exact Or.inl ⟨F43_, rfl, g44_, g53_, (by omega), (⟨by intro h0_; have hs_ := c15_s; rw [sp_clause, hs_]; show Sum.inl _ = _; try (congr 2 <;> omega), fun h0_ => by exfalso; omega⟩), (by omega)⟩
        exfalso; omega
      exfalso; omega
    subst hA_
    have g58_ : fs [(344, 344, 5, 5), (344, 344, 9, 10), (344, 344, 63, 63), (357, 357, 0, 100000), (359, 363, 0, 100000)] F F23_ := fs_tr g6_ s25_ rfl
    have rk59_ : rk K F23_ := rk_fs rk7_ s25_ (fun r k h => (fs_n (by omega) (fs_n (by omega) rfl))) (fs_n (by omega) (fs_n (by omega) rfl))
    try simp only [e13_] at c20_
    try simp only [e8_] at c21_
    refine ga_aload_n (v := .ref 344) hm_176 rfl rfl rfl ?_
    refine fl_bipush hm_176 rfl rfl ?_
    have b60_ : 0 ≤ F23_ 344 5 ∧ F23_ 344 5 ≤ 600 := gi_g g24_ rfl
    refine gVi (nY := 4) (F := 1) (L := 21) (As := [.int (Int32.ofInt 8)]) (b := 344) (rest := []) hm_176 rfl hm_56 rfl rfl (fl_ob sc_344) rfl rfl rfl rfl rfl (by omega) (by omega) (mc_56 hG F23_ X g24_ (K) (8) ([97, 110, 100]) hgK rk59_ hkt (by omega) (by omega) (by decide) (kw_8 rk59_)) (fun _ _ h => False.elim h) ?_
    have b62_ : 0 ≤ F23_ 344 9 ∧ F23_ 344 9 ≤ 5 := gi_g g24_ rfl
    rintro z61_ A1_ (⟨hA_, hz_, c63_⟩ | ⟨hA_, hz_, c64_, c65_⟩)
    ·
      subst hA_
      subst hz_
      refine fl_if_ne hm_176 rfl ⟨by omega, by omega⟩ (fun h => absurd h (by omega)) (fun _ => ?_)
      refine ga_aload_n (v := .ref 344) hm_176 rfl rfl rfl ?_
      refine ga_iload_n (z := a) hm_176 rfl rfl ?_
      have e66_ : F3_ 344 63 = 0 := by rw [q4_]; exact fl_u_eq
      have e67_ : F23_ 344 63 = 0 := (s25_ 344 63 rfl).trans (e66_)
      have e68_ : F3_ 359 a.toNat = F 359 a.toNat := by rw [q4_]; exact fl_u_ne (by omega)
      have e69_ : F23_ 359 a.toNat = F 359 a.toNat := (s25_ 359 a.toNat (fs_n (by omega) (fs_n (by omega) rfl))).trans (e68_)
      refine gVv (nY := 4) (F := 5) (L := 117) (As := [.int (Int32.ofInt a)]) (b := 344) (rest := []) hm_176 rfl hm_181 rfl rfl (fl_ob sc_344) rfl rfl rfl rfl rfl (by omega) (by omega) (mc_181 hG F23_ X g24_ (K) (a) (k) (0) (l) (tl) (pl) (ps) hgK rk59_ hkt (by omega) (fun _ => ⟨(trm_fs (by rw [q4_]; exact (trm_u ht (by omega))) s25_ (fun r j hj => (fs_n (by omega) (fs_n (by omega) rfl)))), hlt⟩) (by omega) ((rpn_fs (by rw [q4_]; exact (rpn_u hpl (by omega) (by omega))) s25_ (fun _ => (fs_n (by omega) (fs_n (by omega) rfl))) (fs_n (by omega) (fs_n (by omega) rfl)))) (⟨(rprd_fs (by rw [q4_]; exact (rprd_u hps.1 (by omega))) s25_ (fun r j hj => (fs_n (by omega) (fs_n (by omega) rfl)))), hps.2⟩) (Or.inl ⟨by omega, rfl⟩) (fun _ => by omega)) (fun _ _ h => False.elim h) ?_
      have b71_ : 0 ≤ F23_ 344 10 ∧ F23_ 344 10 ≤ 600 := gi_g g24_ rfl
      rintro A1_ (⟨F75_, hA_, g76_, s77_, c72_, c73_, c74_⟩ | ⟨F82_, hA_, g83_, s84_, c78_, c79_, c80_, c81_⟩)
      ·
        subst hA_
        have g85_ : fs [(344, 344, 5, 5), (344, 344, 9, 10), (344, 344, 63, 63), (357, 357, 0, 100000), (359, 363, 0, 100000)] F F75_ := fs_tr g58_ s77_ rfl
        have rk86_ : rk K F75_ := rk_fs rk59_ s77_ (fun r k h => (fs_n (by omega) (fs_n (by omega) (fs_n (by omega) (fs_n (by omega) (fs_n (by omega) rfl)))))) (fs_n (by omega) (fs_n (by omega) (fs_n (by omega) (fs_n (by omega) (fs_n (by omega) rfl)))))
        have c73_s := c73_.1 (by omega)
        clear c73_
        try obtain ⟨c2_, cm1_, cm2_⟩ := c73_s
        refine gr_v hm_176 rfl rfl ?_
        have b87_ : 0 ≤ F75_ 344 9 ∧ F75_ 344 9 ≤ 5 := gi_g g76_ rfl
        have b88_ : 0 ≤ F75_ 344 10 ∧ F75_ 344 10 ≤ 600 := gi_g g76_ rfl
        have b89_ : 0 ≤ F75_ 344 5 ∧ F75_ 344 5 ≤ 600 := gi_g g76_ rfl
        exact Or.inl ⟨F75_, rfl, g76_, g85_, (by omega), (⟨by intro h0_; have hs_ := c73_s; rw [sp_clause, c21_, pb_r, if_neg (fun h8_ => c63_ ⟨by omega, h8_⟩), hs_]; try (congr 2 <;> omega), fun h0_ => by exfalso; omega⟩), (by omega)⟩
      subst hA_
      have g90_ : fs [(344, 344, 5, 5), (344, 344, 9, 10), (344, 344, 63, 63), (357, 357, 0, 100000), (359, 363, 0, 100000)] F F82_ := fs_tr g58_ s84_ rfl
      have rk91_ : rk K F82_ := rk_fs rk59_ s84_ (fun r k h => (fs_n (by omega) (fs_n (by omega) (fs_n (by omega) (fs_n (by omega) (fs_n (by omega) rfl)))))) (fs_n (by omega) (fs_n (by omega) (fs_n (by omega) (fs_n (by omega) (fs_n (by omega) rfl)))))
      try simp only [e69_] at c81_
      try obtain ⟨c2_, cm1_, cm2_⟩ := c79_
      refine gr_v hm_176 rfl rfl ?_
      have b92_ : 0 ≤ F82_ 344 9 ∧ F82_ 344 9 ≤ 5 := gi_g g83_ rfl
      have b93_ : 0 ≤ F82_ 344 5 ∧ F82_ 344 5 ≤ 600 := gi_g g83_ rfl
      exact Or.inr (⟨F82_, rfl, g83_, g90_, (by omega), (⟨_, by rw [sp_clause, c21_, pb_r, if_neg (fun h8_ => c63_ ⟨by omega, h8_⟩)]; exact cm1_⟩), (by omega)⟩)
    subst hA_
    subst hz_
    refine fl_if_ne hm_176 rfl ⟨by omega, by omega⟩ (fun _ => ?_) (fun h => absurd (by omega) h)
    have hk0 := c21_
    have hand := c64_.2
    have hsk : sk K (F23_ 344 5) = F23_ 344 5 + 1 := by rw [sk, if_pos (by omega)]
    refine ga_aload_n (v := .ref 344) hm_176 rfl rfl rfl ?_
    refine ga_dup hm_176 rfl rfl ?_
    refine ga_geti (z := F23_ 344 5) hm_176 rfl sc_344 rfl (rfl) ?_
    refine fl_iconst hm_176 rfl ?_
    refine ga_iadd (a := F23_ 344 5) (b := 1) (c := F23_ 344 5 + 1) hm_176 rfl (by omega) ?_
    refine ga_puti (z := F23_ 344 5 + 1) hm_176 rfl sc_344 rfl rfl ?_
    refine fl_iconst hm_176 rfl ?_
    refine ga_istore_n (lv2 := [(2, .int (Int32.ofInt 0)), (0, .ref 344), (1, .int (Int32.ofInt a))]) hm_176 rfl (Nat.le_of_ble_eq_true rfl) rfl ?_
    refine fl_iconst hm_176 rfl ?_
    refine ga_istore_n (lv2 := [(3, .int (Int32.ofInt 1)), (2, .int (Int32.ofInt 0)), (0, .ref 344), (1, .int (Int32.ofInt a))]) hm_176 rfl (Nat.le_of_ble_eq_true rfl) rfl ?_
    obtain ⟨F94_, q95_⟩ : ∃ F9_, F9_ = (fl_u F23_ 344 5 (F23_ 344 5 + 1)) := ⟨_, rfl⟩
    rw [← q95_]
    have g96_ : gi F94_ := by rw [q95_]; exact gi_u (g24_) rfl (by omega) (by omega)
    have g97_ : fs [(344, 344, 5, 5), (344, 344, 9, 10), (344, 344, 63, 63), (357, 357, 0, 100000), (359, 363, 0, 100000)] F F94_ := by rw [q95_]; exact fs_u (g58_) rfl
    have rk98_ : rk K F94_ := by rw [q95_]; exact rk_u (rk59_) (by omega) (by omega)
    have e102_ : F94_ 344 5 = F23_ 344 5 + 1 := by rw [q95_]; exact fl_u_eq
    have L100_ : ∀ (n99_ : Nat) (n : Int) (mo : Int) (c : Int) (F1 : fl_N), (5 - n : Int).toNat = n99_ → (gi F1) → (fs [(344, 344, 5, 5), (344, 344, 9, 10), (344, 344, 63, 63), (357, 357, 0, 100000), (359, 363, 0, 100000)] F94_ F1) → (F1 344 9 = 0) → ((0 ≤ n ∧ n ≤ 4) ∧ F1 359 a.toNat ≤ n) → ((F1 344 63 = 0 ∧ c = 0) ∨ (F1 344 63 = 1 ∧ ¬ c = 0)) → ((mo = 1 ∧ (n = 0 ∨ ¬ K 3 (F1 344 5).toNat = 1)) ∨ (mo = 0 ∧ 0 < n ∧ K 3 (F1 344 5).toNat = 1)) → (0 ≤ F1 344 5 ∧ F1 344 5 ≤ K 1 6 - 1) → (sp_m1 K true k l tl pl ps 4 true 0 (F94_ 344 5) = sp_m1 K true k l tl pl ps (4 - n).toNat (decide (n = 0)) c (F1 344 5)) → fl_R xi_ms 176 fr lo 40 [(3, .int (Int32.ofInt mo)), (2, .int (Int32.ofInt n)), (0, .ref 344), (1, .int (Int32.ofInt a))] [] (fl_H sh_T G F1 ++ X) (pq_176 G F X K a k l tl pl ps) := by
      intro n99_
      induction n99_ using Nat.strongRecOn with
      | ind n99_ ih101_ =>
      intro n mo c F1 hn103_ hg_F1 hf_F1 hk hcn hic hmo hp1 hsp
      have g104_ : fs [(344, 344, 5, 5), (344, 344, 9, 10), (344, 344, 63, 63), (357, 357, 0, 100000), (359, 363, 0, 100000)] F F1 := fs_tr g97_ hf_F1 rfl
      have rk105_ : rk K F1 := rk_fs rk98_ hf_F1 (fun r k h => (fs_n (by omega) (fs_n (by omega) (fs_n (by omega) (fs_n (by omega) (fs_n (by omega) rfl)))))) (fs_n (by omega) (fs_n (by omega) (fs_n (by omega) (fs_n (by omega) (fs_n (by omega) rfl)))))
      have hP1 := (rkt_p hkt (p := F1 344 5) (by omega) (by omega) hgK).1
      have hsp9 := hsp
      rw [show F94_ 344 5 = F23_ 344 5 + 1 from by omega] at hsp9
      refine ga_iload_n (z := mo) hm_176 rfl rfl ?_
      refine fl_if_eq (a := mo) hm_176 rfl ⟨by omega, by omega⟩ (fun h106_ => ?_) (fun h107_ => ?_)
      ·
        refine ga_aload_n (v := .ref 344) hm_176 rfl rfl rfl ?_
        refine fl_bipush hm_176 rfl rfl ?_
        have b108_ : 0 ≤ F1 344 5 ∧ F1 344 5 ≤ 600 := gi_g hg_F1 rfl
        refine gVv (nY := 2) (F := 2) (L := 41) (As := [.int (Int32.ofInt 41)]) (b := 344) (rest := []) hm_176 rfl hm_51 rfl rfl (fl_ob sc_344) rfl rfl rfl rfl rfl (by omega) (by omega) (mc_51 hG F1 X hg_F1 (K) (41) (1) hgK rk105_ hkt (by omega) (by omega) (by omega)) (fun _ _ h => False.elim h) ?_
        have b110_ : 0 ≤ F1 344 10 ∧ F1 344 10 ≤ 600 := gi_g hg_F1 rfl
        have b111_ : 0 ≤ F1 344 9 ∧ F1 344 9 ≤ 5 := gi_g hg_F1 rfl
        rintro A1_ (⟨F115_, hA_, g116_, s117_, c112_, c113_, c114_⟩ | ⟨F121_, hA_, g122_, s123_, c118_, c119_, c120_⟩)
        ·
          subst hA_
          have g124_ : fs [(344, 344, 5, 5), (344, 344, 9, 10), (344, 344, 63, 63), (357, 357, 0, 100000), (359, 363, 0, 100000)] F F115_ := fs_tr g104_ s117_ rfl
          have rk125_ : rk K F115_ := rk_fs rk105_ s117_ (fun r k h => (fs_n (by omega) (fs_n (by omega) rfl))) (fs_n (by omega) (fs_n (by omega) rfl))
          have c113_s := c113_.1 (by omega)
          clear c113_
          refine gr_v hm_176 rfl rfl ?_
          have b126_ : 0 ≤ F115_ 344 9 ∧ F115_ 344 9 ≤ 5 := gi_g g116_ rfl
          have b127_ : 0 ≤ F115_ 344 10 ∧ F115_ 344 10 ≤ 600 := gi_g g116_ rfl
          have b128_ : 0 ≤ F115_ 344 5 ∧ F115_ 344 5 ≤ 600 := gi_g g116_ rfl
          exact Or.inl ⟨F115_, rfl, g116_, g124_, (by omega), (⟨by intro h0_; have hs_ := c113_s; exfalso; rw [sp_kind, if_pos (by omega)] at hs_; exact (nomatch hs_), fun h0_ => by exfalso; omega⟩), (by omega)⟩
        subst hA_
        have g129_ : fs [(344, 344, 5, 5), (344, 344, 9, 10), (344, 344, 63, 63), (357, 357, 0, 100000), (359, 363, 0, 100000)] F F121_ := fs_tr g104_ s123_ rfl
        have rk130_ : rk K F121_ := rk_fs rk105_ s123_ (fun r k h => (fs_n (by omega) (fs_n (by omega) rfl))) (fs_n (by omega) (fs_n (by omega) rfl))
        refine gr_v hm_176 rfl rfl ?_
        have b131_ : 0 ≤ F121_ 344 9 ∧ F121_ 344 9 ≤ 5 := gi_g g122_ rfl
        have b132_ : 0 ≤ F121_ 344 5 ∧ F121_ 344 5 ≤ 600 := gi_g g122_ rfl
        exact Or.inr (⟨F121_, rfl, g122_, g129_, (by omega), (⟨c, by rw [sp_clause, hk0, pb_r, if_pos hand, hsk, sm1_ok (hsp9.trans (sm1_e (by omega) (by omega))), pb_r, c119_]; rfl⟩), (by omega)⟩)
      refine ga_aload_n (v := .ref 344) hm_176 rfl rfl rfl ?_
      refine gIi (nY := 1) (F := 0) (L := 0) (As := []) (b := 344) (rest := []) hm_176 rfl hm_59 rfl rfl (fl_ob sc_344) rfl rfl rfl rfl rfl (by omega) (by omega) ?_
      intro f133_ l134_ h135_ h136_
      show fl_R xi_ms 59 f133_ l134_ 0 [(0, .ref 344)] [] _ _
      refine ga_aload_n (v := .ref 344) hm_59 rfl rfl rfl ?_
      have b137_ : 0 ≤ F1 344 9 ∧ F1 344 9 ≤ 5 := gi_g hg_F1 rfl
      refine ga_geti (z := F1 344 9) hm_59 rfl sc_344 rfl (rfl) ?_
      refine fl_if_le (a := F1 344 9) hm_59 rfl ⟨by omega, by omega⟩ (fun h138_ => ?_) (fun h139_ => ?_)
      ·
        refine fl_iconst hm_59 rfl ?_
        refine gr_i hm_59 rfl rfl (ga_nb (by omega)) ?_
        clear h135_ h136_ f133_ l134_
        refine fl_if_ne hm_176 rfl ⟨by omega, by omega⟩ (fun h => absurd h (by omega)) (fun _ => ?_)
        refine ga_iload_n (z := n) hm_176 rfl rfl ?_
        refine fl_iconst hm_176 rfl ?_
        refine fx_icmp_ne (a := n) (b := 4) hm_176 rfl ⟨by omega, by omega⟩ ⟨by omega, by omega⟩ (fun h140_ => ?_) (fun h141_ => ?_)
        ·
          refine ga_aload_n (v := .ref 344) hm_176 rfl rfl rfl ?_
          refine fl_bipush hm_176 rfl rfl ?_
          have b142_ : 0 ≤ F1 344 5 ∧ F1 344 5 ≤ 600 := gi_g hg_F1 rfl
          refine gVv (nY := 2) (F := 2) (L := 41) (As := [.int (Int32.ofInt 40)]) (b := 344) (rest := []) hm_176 rfl hm_51 rfl rfl (fl_ob sc_344) rfl rfl rfl rfl rfl (by omega) (by omega) (mc_51 hG F1 X hg_F1 (K) (40) (0) hgK rk105_ hkt (by omega) (by omega) (by omega)) (fun _ _ h => False.elim h) ?_
          have b144_ : 0 ≤ F1 344 10 ∧ F1 344 10 ≤ 600 := gi_g hg_F1 rfl
          rintro A1_ (⟨F148_, hA_, g149_, s150_, c145_, c146_, c147_⟩ | ⟨F154_, hA_, g155_, s156_, c151_, c152_, c153_⟩)
          ·
            subst hA_
            have g157_ : fs [(344, 344, 5, 5), (344, 344, 9, 10), (344, 344, 63, 63), (357, 357, 0, 100000), (359, 363, 0, 100000)] F F148_ := fs_tr g104_ s150_ rfl
            have rk158_ : rk K F148_ := rk_fs rk105_ s150_ (fun r k h => (fs_n (by omega) (fs_n (by omega) rfl))) (fs_n (by omega) (fs_n (by omega) rfl))
            have c146_s := c146_.1 (by omega)
            clear c146_
            refine ga_aload_n (v := .ref 344) hm_176 rfl rfl rfl ?_
            refine ga_iload_n (z := a) hm_176 rfl rfl ?_
            have b159_ : 0 ≤ F148_ 344 5 ∧ F148_ 344 5 ≤ 600 := gi_g g149_ rfl
            have e160_ : F148_ 344 63 = F1 344 63 := (s150_ 344 63 rfl).trans (rfl)
            have e161_ : F148_ 359 a.toNat = F1 359 a.toNat := (s150_ 359 a.toNat (fs_n (by omega) (fs_n (by omega) rfl))).trans (rfl)
            refine gVv (nY := 4) (F := 5) (L := 117) (As := [.int (Int32.ofInt a)]) (b := 344) (rest := []) hm_176 rfl hm_181 rfl rfl (fl_ob sc_344) rfl rfl rfl rfl rfl (by omega) (by omega) (mc_181 hG F148_ X g149_ (K) (a) (k) (c) (l) (tl) (pl) (ps) hgK rk158_ hkt (by omega) (fun h9_ => absurd h9_ (by omega)) (by omega) ((rpn_fs (rpn_fs (by rw [q95_]; exact (rpn_u (rpn_fs (by rw [q4_]; exact (rpn_u hpl (by omega) (by omega))) s25_ (fun _ => (fs_n (by omega) (fs_n (by omega) rfl))) (fs_n (by omega) (fs_n (by omega) rfl))) (by omega) (by omega))) hf_F1 (fun _ => (fs_n (by omega) (fs_n (by omega) (fs_n (by omega) (fs_n (by omega) (fs_n (by omega) rfl)))))) (fs_n (by omega) (fs_n (by omega) (fs_n (by omega) (fs_n (by omega) (fs_n (by omega) rfl)))))) s150_ (fun _ => (fs_n (by omega) (fs_n (by omega) rfl))) (fs_n (by omega) (fs_n (by omega) rfl)))) (⟨(rprd_fs (rprd_fs (by rw [q95_]; exact (rprd_u (rprd_fs (by rw [q4_]; exact (rprd_u hps.1 (by omega))) s25_ (fun r j hj => (fs_n (by omega) (fs_n (by omega) rfl)))) (by omega))) hf_F1 (fun r j hj => (fs_n (by omega) (fs_n (by omega) (fs_n (by omega) (fs_n (by omega) (fs_n (by omega) rfl))))))) s150_ (fun r j hj => (fs_n (by omega) (fs_n (by omega) rfl)))), hps.2⟩) (by omega) (fun _ => by omega)) (fun _ _ h => False.elim h) ?_
            have b163_ : 0 ≤ F148_ 344 10 ∧ F148_ 344 10 ≤ 600 := gi_g g149_ rfl
            have b164_ : 0 ≤ F148_ 344 9 ∧ F148_ 344 9 ≤ 5 := gi_g g149_ rfl
            rintro A1_ (⟨F168_, hA_, g169_, s170_, c165_, c166_, c167_⟩ | ⟨F175_, hA_, g176_, s177_, c171_, c172_, c173_, c174_⟩)
            ·
              subst hA_
              have g178_ : fs [(344, 344, 5, 5), (344, 344, 9, 10), (344, 344, 63, 63), (357, 357, 0, 100000), (359, 363, 0, 100000)] F F168_ := fs_tr g157_ s170_ rfl
              have rk179_ : rk K F168_ := rk_fs rk158_ s170_ (fun r k h => (fs_n (by omega) (fs_n (by omega) (fs_n (by omega) (fs_n (by omega) (fs_n (by omega) rfl)))))) (fs_n (by omega) (fs_n (by omega) (fs_n (by omega) (fs_n (by omega) (fs_n (by omega) rfl)))))
              have c166_k := c166_.2 (by omega)
              clear c166_
              try obtain ⟨c2_, cm1_, cm2_⟩ := c166_k
              refine ga_inc (a := n) (c := n + 1) (lv2 := [(2, .int (Int32.ofInt (n + 1))), (3, .int (Int32.ofInt mo)), (0, .ref 344), (1, .int (Int32.ofInt a))]) hm_176 rfl rfl (Nat.le_of_ble_eq_true rfl) rfl rfl ?_
              refine ga_aload_n (v := .ref 344) hm_176 rfl rfl rfl ?_
              refine fl_bipush hm_176 rfl rfl ?_
              have b180_ : 0 ≤ F168_ 344 5 ∧ F168_ 344 5 ≤ 600 := gi_g g169_ rfl
              refine gVi (nY := 2) (F := 1) (L := 20) (As := [.int (Int32.ofInt 41)]) (b := 344) (rest := []) hm_176 rfl hm_52 rfl rfl (fl_ob sc_344) rfl rfl rfl rfl rfl (by omega) (by omega) (mc_52 hG F168_ X g169_ (K) (41) hgK rk179_ hkt (by omega) (by omega)) (fun _ _ h => False.elim h) ?_
              have b182_ : 0 ≤ F168_ 344 9 ∧ F168_ 344 9 ≤ 5 := gi_g g169_ rfl
              rintro z181_ A1_ (⟨hA_, hz_, c183_⟩ | ⟨hA_, hz_, c184_, c185_⟩)
              ·
                subst hA_
                subst hz_
                refine fl_if_ne hm_176 rfl ⟨by omega, by omega⟩ (fun h => absurd h (by omega)) (fun _ => ?_)
                refine fl_iconst hm_176 rfl ?_
                refine fl_goto hm_176 rfl ?_
                refine ga_istore_n (lv2 := [(3, .int (Int32.ofInt 1)), (2, .int (Int32.ofInt (n + 1))), (0, .ref 344), (1, .int (Int32.ofInt a))]) hm_176 rfl (Nat.le_of_ble_eq_true rfl) rfl ?_
                refine fl_goto hm_176 rfl ?_
                refine ga_iload_n (z := 1) hm_176 rfl rfl ?_
                refine fl_if_eq hm_176 rfl ⟨by omega, by omega⟩ (fun h => absurd h (by omega)) (fun _ => ?_)
                refine ga_aload_n (v := .ref 344) hm_176 rfl rfl rfl ?_
                refine gIi (nY := 1) (F := 0) (L := 0) (As := []) (b := 344) (rest := []) hm_176 rfl hm_59 rfl rfl (fl_ob sc_344) rfl rfl rfl rfl rfl (by omega) (by omega) ?_
                intro f186_ l187_ h188_ h189_
                show fl_R xi_ms 59 f186_ l187_ 0 [(0, .ref 344)] [] _ _
                refine ga_aload_n (v := .ref 344) hm_59 rfl rfl rfl ?_
                refine ga_geti (z := F168_ 344 9) hm_59 rfl sc_344 rfl (rfl) ?_
                refine fl_if_le (a := F168_ 344 9) hm_59 rfl ⟨by omega, by omega⟩ (fun h190_ => ?_) (fun h191_ => ?_)
                · exfalso; omega
                refine fl_iconst hm_59 rfl ?_
                refine fl_goto hm_59 rfl ?_
                refine gr_i hm_59 rfl rfl (ga_nb (by omega)) ?_
                clear h188_ h189_ f186_ l187_
                refine fl_if_ne hm_176 rfl ⟨by omega, by omega⟩ (fun _ => ?_) (fun h => absurd (by omega) h)
                refine ga_aload_n (v := .ref 344) hm_176 rfl rfl rfl ?_
                refine fl_bipush hm_176 rfl rfl ?_
                refine gVv (nY := 2) (F := 2) (L := 41) (As := [.int (Int32.ofInt 41)]) (b := 344) (rest := []) hm_176 rfl hm_51 rfl rfl (fl_ob sc_344) rfl rfl rfl rfl rfl (by omega) (by omega) (mc_51 hG F168_ X g169_ (K) (41) (1) hgK rk179_ hkt (by omega) (by omega) (by omega)) (fun _ _ h => False.elim h) ?_
                have b193_ : 0 ≤ F168_ 344 10 ∧ F168_ 344 10 ≤ 600 := gi_g g169_ rfl
                rintro A1_ (⟨F197_, hA_, g198_, s199_, c194_, c195_, c196_⟩ | ⟨F203_, hA_, g204_, s205_, c200_, c201_, c202_⟩)
                ·
                  subst hA_
                  have g206_ : fs [(344, 344, 5, 5), (344, 344, 9, 10), (344, 344, 63, 63), (357, 357, 0, 100000), (359, 363, 0, 100000)] F F197_ := fs_tr g178_ s199_ rfl
                  have rk207_ : rk K F197_ := rk_fs rk179_ s199_ (fun r k h => (fs_n (by omega) (fs_n (by omega) rfl))) (fs_n (by omega) (fs_n (by omega) rfl))
                  have c195_k := c195_.2 (by omega)
                  clear c195_
                  refine gr_v hm_176 rfl rfl ?_
                  have b208_ : 0 ≤ F197_ 344 9 ∧ F197_ 344 9 ≤ 5 := gi_g g198_ rfl
                  have b209_ : 0 ≤ F197_ 344 10 ∧ F197_ 344 10 ≤ 600 := gi_g g198_ rfl
                  have b210_ : 0 ≤ F197_ 344 5 ∧ F197_ 344 5 ≤ 600 := gi_g g198_ rfl
                  exact Or.inl ⟨F197_, rfl, g198_, g206_, (by omega), (⟨by intro h0_; have hs_ := c146_s; rw [sp_clause, hk0, pb_r, if_pos hand, hsk]; exact sm1_f hsp9 (sm1_f1 (by omega) (by omega) hs_) (by omega) (by omega), fun h0_ => by exfalso; omega⟩), (by omega)⟩
                exfalso; omega
              exfalso; omega
            exfalso; omega
          subst hA_
          have g211_ : fs [(344, 344, 5, 5), (344, 344, 9, 10), (344, 344, 63, 63), (357, 357, 0, 100000), (359, 363, 0, 100000)] F F154_ := fs_tr g104_ s156_ rfl
          have rk212_ : rk K F154_ := rk_fs rk105_ s156_ (fun r k h => (fs_n (by omega) (fs_n (by omega) rfl))) (fs_n (by omega) (fs_n (by omega) rfl))
          refine ga_aload_n (v := .ref 344) hm_176 rfl rfl rfl ?_
          refine ga_iload_n (z := a) hm_176 rfl rfl ?_
          have b213_ : 0 ≤ F154_ 344 5 ∧ F154_ 344 5 ≤ 600 := gi_g g155_ rfl
          have e214_ : F154_ 344 63 = F1 344 63 := (s156_ 344 63 rfl).trans (rfl)
          have e215_ : F154_ 359 a.toNat = F1 359 a.toNat := (s156_ 359 a.toNat (fs_n (by omega) (fs_n (by omega) rfl))).trans (rfl)
          refine gVv (nY := 4) (F := 5) (L := 117) (As := [.int (Int32.ofInt a)]) (b := 344) (rest := []) hm_176 rfl hm_181 rfl rfl (fl_ob sc_344) rfl rfl rfl rfl rfl (by omega) (by omega) (mc_181 hG F154_ X g155_ (K) (a) (k) (c) (l) (tl) (pl) (ps) hgK rk212_ hkt (by omega) (fun _ => ⟨(trm_fs (trm_fs (by rw [q95_]; exact (trm_u (trm_fs (by rw [q4_]; exact (trm_u ht (by omega))) s25_ (fun r j hj => (fs_n (by omega) (fs_n (by omega) rfl)))) (by omega))) hf_F1 (fun r j hj => (fs_n (by omega) (fs_n (by omega) (fs_n (by omega) (fs_n (by omega) (fs_n (by omega) rfl))))))) s156_ (fun r j hj => (fs_n (by omega) (fs_n (by omega) rfl)))), hlt⟩) (by omega) ((rpn_fs (rpn_fs (by rw [q95_]; exact (rpn_u (rpn_fs (by rw [q4_]; exact (rpn_u hpl (by omega) (by omega))) s25_ (fun _ => (fs_n (by omega) (fs_n (by omega) rfl))) (fs_n (by omega) (fs_n (by omega) rfl))) (by omega) (by omega))) hf_F1 (fun _ => (fs_n (by omega) (fs_n (by omega) (fs_n (by omega) (fs_n (by omega) (fs_n (by omega) rfl)))))) (fs_n (by omega) (fs_n (by omega) (fs_n (by omega) (fs_n (by omega) (fs_n (by omega) rfl)))))) s156_ (fun _ => (fs_n (by omega) (fs_n (by omega) rfl))) (fs_n (by omega) (fs_n (by omega) rfl)))) (⟨(rprd_fs (rprd_fs (by rw [q95_]; exact (rprd_u (rprd_fs (by rw [q4_]; exact (rprd_u hps.1 (by omega))) s25_ (fun r j hj => (fs_n (by omega) (fs_n (by omega) rfl)))) (by omega))) hf_F1 (fun r j hj => (fs_n (by omega) (fs_n (by omega) (fs_n (by omega) (fs_n (by omega) (fs_n (by omega) rfl))))))) s156_ (fun r j hj => (fs_n (by omega) (fs_n (by omega) rfl)))), hps.2⟩) (by omega) (fun _ => by omega)) (fun _ _ h => False.elim h) ?_
          have b217_ : 0 ≤ F154_ 344 10 ∧ F154_ 344 10 ≤ 600 := gi_g g155_ rfl
          have b218_ : 0 ≤ F154_ 344 9 ∧ F154_ 344 9 ≤ 5 := gi_g g155_ rfl
          rintro A1_ (⟨F222_, hA_, g223_, s224_, c219_, c220_, c221_⟩ | ⟨F229_, hA_, g230_, s231_, c225_, c226_, c227_, c228_⟩)
          ·
            subst hA_
            have g232_ : fs [(344, 344, 5, 5), (344, 344, 9, 10), (344, 344, 63, 63), (357, 357, 0, 100000), (359, 363, 0, 100000)] F F222_ := fs_tr g211_ s224_ rfl
            have rk233_ : rk K F222_ := rk_fs rk212_ s224_ (fun r k h => (fs_n (by omega) (fs_n (by omega) (fs_n (by omega) (fs_n (by omega) (fs_n (by omega) rfl)))))) (fs_n (by omega) (fs_n (by omega) (fs_n (by omega) (fs_n (by omega) (fs_n (by omega) rfl)))))
            have c220_s := c220_.1 (by omega)
            clear c220_
            try obtain ⟨c2_, cm1_, cm2_⟩ := c220_s
            refine ga_inc (a := n) (c := n + 1) (lv2 := [(2, .int (Int32.ofInt (n + 1))), (3, .int (Int32.ofInt mo)), (0, .ref 344), (1, .int (Int32.ofInt a))]) hm_176 rfl rfl (Nat.le_of_ble_eq_true rfl) rfl rfl ?_
            refine ga_aload_n (v := .ref 344) hm_176 rfl rfl rfl ?_
            refine fl_bipush hm_176 rfl rfl ?_
            have b234_ : 0 ≤ F222_ 344 5 ∧ F222_ 344 5 ≤ 600 := gi_g g223_ rfl
            refine gVi (nY := 2) (F := 1) (L := 20) (As := [.int (Int32.ofInt 41)]) (b := 344) (rest := []) hm_176 rfl hm_52 rfl rfl (fl_ob sc_344) rfl rfl rfl rfl rfl (by omega) (by omega) (mc_52 hG F222_ X g223_ (K) (41) hgK rk233_ hkt (by omega) (by omega)) (fun _ _ h => False.elim h) ?_
            have b236_ : 0 ≤ F222_ 344 9 ∧ F222_ 344 9 ≤ 5 := gi_g g223_ rfl
            rintro z235_ A1_ (⟨hA_, hz_, c237_⟩ | ⟨hA_, hz_, c238_, c239_⟩)
            ·
              subst hA_
              subst hz_
              refine fl_if_ne hm_176 rfl ⟨by omega, by omega⟩ (fun h => absurd h (by omega)) (fun _ => ?_)
              refine fl_iconst hm_176 rfl ?_
              refine fl_goto hm_176 rfl ?_
              refine ga_istore_n (lv2 := [(3, .int (Int32.ofInt 1)), (2, .int (Int32.ofInt (n + 1))), (0, .ref 344), (1, .int (Int32.ofInt a))]) hm_176 rfl (Nat.le_of_ble_eq_true rfl) rfl ?_
              refine fl_goto hm_176 rfl ?_
              refine ga_iload_n (z := 1) hm_176 rfl rfl ?_
              refine fl_if_eq hm_176 rfl ⟨by omega, by omega⟩ (fun h => absurd h (by omega)) (fun _ => ?_)
              refine ga_aload_n (v := .ref 344) hm_176 rfl rfl rfl ?_
              refine gIi (nY := 1) (F := 0) (L := 0) (As := []) (b := 344) (rest := []) hm_176 rfl hm_59 rfl rfl (fl_ob sc_344) rfl rfl rfl rfl rfl (by omega) (by omega) ?_
              intro f240_ l241_ h242_ h243_
              show fl_R xi_ms 59 f240_ l241_ 0 [(0, .ref 344)] [] _ _
              refine ga_aload_n (v := .ref 344) hm_59 rfl rfl rfl ?_
              refine ga_geti (z := F222_ 344 9) hm_59 rfl sc_344 rfl (rfl) ?_
              refine fl_if_le (a := F222_ 344 9) hm_59 rfl ⟨by omega, by omega⟩ (fun h244_ => ?_) (fun h245_ => ?_)
              · exfalso; omega
              refine fl_iconst hm_59 rfl ?_
              refine fl_goto hm_59 rfl ?_
              refine gr_i hm_59 rfl rfl (ga_nb (by omega)) ?_
              clear h242_ h243_ f240_ l241_
              refine fl_if_ne hm_176 rfl ⟨by omega, by omega⟩ (fun _ => ?_) (fun h => absurd (by omega) h)
              refine ga_aload_n (v := .ref 344) hm_176 rfl rfl rfl ?_
              refine fl_bipush hm_176 rfl rfl ?_
              refine gVv (nY := 2) (F := 2) (L := 41) (As := [.int (Int32.ofInt 41)]) (b := 344) (rest := []) hm_176 rfl hm_51 rfl rfl (fl_ob sc_344) rfl rfl rfl rfl rfl (by omega) (by omega) (mc_51 hG F222_ X g223_ (K) (41) (1) hgK rk233_ hkt (by omega) (by omega) (by omega)) (fun _ _ h => False.elim h) ?_
              have b247_ : 0 ≤ F222_ 344 10 ∧ F222_ 344 10 ≤ 600 := gi_g g223_ rfl
              rintro A1_ (⟨F251_, hA_, g252_, s253_, c248_, c249_, c250_⟩ | ⟨F257_, hA_, g258_, s259_, c254_, c255_, c256_⟩)
              ·
                subst hA_
                have g260_ : fs [(344, 344, 5, 5), (344, 344, 9, 10), (344, 344, 63, 63), (357, 357, 0, 100000), (359, 363, 0, 100000)] F F251_ := fs_tr g232_ s253_ rfl
                have rk261_ : rk K F251_ := rk_fs rk233_ s253_ (fun r k h => (fs_n (by omega) (fs_n (by omega) rfl))) (fs_n (by omega) (fs_n (by omega) rfl))
                have c249_k := c249_.2 (by omega)
                clear c249_
                refine gr_v hm_176 rfl rfl ?_
                have b262_ : 0 ≤ F251_ 344 9 ∧ F251_ 344 9 ≤ 5 := gi_g g252_ rfl
                have b263_ : 0 ≤ F251_ 344 10 ∧ F251_ 344 10 ≤ 600 := gi_g g252_ rfl
                have b264_ : 0 ≤ F251_ 344 5 ∧ F251_ 344 5 ≤ 600 := gi_g g252_ rfl
                exact Or.inl ⟨F251_, rfl, g252_, g260_, (by omega), (⟨by intro h0_; have hs_ := c220_s; rw [sp_clause, hk0, pb_r, if_pos hand, hsk]; exact sm1_f hsp9 (sm1_flE (by omega) (by omega) c152_ hs_) (by omega) (by omega), fun h0_ => by exfalso; omega⟩), (by omega)⟩
              exfalso; omega
            exfalso; omega
          subst hA_
          have g265_ : fs [(344, 344, 5, 5), (344, 344, 9, 10), (344, 344, 63, 63), (357, 357, 0, 100000), (359, 363, 0, 100000)] F F229_ := fs_tr g211_ s231_ rfl
          have rk266_ : rk K F229_ := rk_fs rk212_ s231_ (fun r k h => (fs_n (by omega) (fs_n (by omega) (fs_n (by omega) (fs_n (by omega) (fs_n (by omega) rfl)))))) (fs_n (by omega) (fs_n (by omega) (fs_n (by omega) (fs_n (by omega) (fs_n (by omega) rfl)))))
          try simp only [e215_] at c228_
          try obtain ⟨c2_, cm1_, cm2_⟩ := c226_
          refine ga_inc (a := n) (c := n + 1) (lv2 := [(2, .int (Int32.ofInt (n + 1))), (3, .int (Int32.ofInt mo)), (0, .ref 344), (1, .int (Int32.ofInt a))]) hm_176 rfl rfl (Nat.le_of_ble_eq_true rfl) rfl rfl ?_
          refine ga_aload_n (v := .ref 344) hm_176 rfl rfl rfl ?_
          refine fl_bipush hm_176 rfl rfl ?_
          have b267_ : 0 ≤ F229_ 344 5 ∧ F229_ 344 5 ≤ 600 := gi_g g230_ rfl
          refine gVi (nY := 2) (F := 1) (L := 20) (As := [.int (Int32.ofInt 41)]) (b := 344) (rest := []) hm_176 rfl hm_52 rfl rfl (fl_ob sc_344) rfl rfl rfl rfl rfl (by omega) (by omega) (mc_52 hG F229_ X g230_ (K) (41) hgK rk266_ hkt (by omega) (by omega)) (fun _ _ h => False.elim h) ?_
          have b269_ : 0 ≤ F229_ 344 9 ∧ F229_ 344 9 ≤ 5 := gi_g g230_ rfl
          rintro z268_ A1_ (⟨hA_, hz_, c270_⟩ | ⟨hA_, hz_, c271_, c272_⟩)
          ·
            subst hA_
            subst hz_
            refine fl_if_ne hm_176 rfl ⟨by omega, by omega⟩ (fun h => absurd h (by omega)) (fun _ => ?_)
            refine fl_iconst hm_176 rfl ?_
            refine fl_goto hm_176 rfl ?_
            refine ga_istore_n (lv2 := [(3, .int (Int32.ofInt 1)), (2, .int (Int32.ofInt (n + 1))), (0, .ref 344), (1, .int (Int32.ofInt a))]) hm_176 rfl (Nat.le_of_ble_eq_true rfl) rfl ?_
            refine fl_goto hm_176 rfl ?_
            have b273_ : 0 ≤ F229_ 344 63 ∧ F229_ 344 63 ≤ 1 := gi_g g230_ rfl
            have b274_ : 0 ≤ F1 344 63 ∧ F1 344 63 ≤ 1 := gi_g hg_F1 rfl
            have b275_ : 0 ≤ K 1 6 ∧ K 1 6 ≤ 601 := gi_g hgK rfl
            exact ih101_ _ (by omega) (n + 1) (1) (c2_) F229_ rfl g230_ (fs_tr (fs_tr hf_F1 s156_ rfl) s231_ rfl) (by omega) (by omega) (by omega) (Or.inl ⟨rfl, Or.inr (by omega)⟩) (by omega) (by rw [hsp, sm1_stepE (by omega) (by omega) c152_ cm1_, decide_eq_false (show ¬ n + 1 = 0 by omega)])
          subst hA_
          subst hz_
          refine fl_if_ne hm_176 rfl ⟨by omega, by omega⟩ (fun _ => ?_) (fun h => absurd (by omega) h)
          refine fl_iconst hm_176 rfl ?_
          refine ga_istore_n (lv2 := [(3, .int (Int32.ofInt 0)), (2, .int (Int32.ofInt (n + 1))), (0, .ref 344), (1, .int (Int32.ofInt a))]) hm_176 rfl (Nat.le_of_ble_eq_true rfl) rfl ?_
          refine fl_goto hm_176 rfl ?_
          have b276_ : 0 ≤ F229_ 344 63 ∧ F229_ 344 63 ≤ 1 := gi_g g230_ rfl
          have b277_ : 0 ≤ F1 344 63 ∧ F1 344 63 ≤ 1 := gi_g hg_F1 rfl
          have b278_ : 0 ≤ K 1 6 ∧ K 1 6 ≤ 601 := gi_g hgK rfl
          exact ih101_ _ (by omega) (n + 1) (0) (c2_) F229_ rfl g230_ (fs_tr (fs_tr hf_F1 s156_ rfl) s231_ rfl) (by omega) (by omega) (by omega) (Or.inr ⟨rfl, by omega, by omega⟩) (by omega) (by rw [hsp, sm1_stepE (by omega) (by omega) c152_ cm1_, decide_eq_false (show ¬ n + 1 = 0 by omega)])
        refine ga_aload_n (v := .ref 344) hm_176 rfl rfl rfl ?_
        refine fl_iconst hm_176 rfl ?_
        have b279_ : 0 ≤ F1 344 5 ∧ F1 344 5 ≤ 600 := gi_g hg_F1 rfl
        refine gVv (nY := 2) (F := 0) (L := 0) (As := [.int (Int32.ofInt 1)]) (b := 344) (rest := []) hm_176 rfl hm_54 rfl rfl (fl_ob sc_344) rfl rfl rfl rfl rfl (by omega) (by omega) (mc_54 hG F1 X hg_F1 (K) (1) hgK rk105_ hkt (by omega) (by omega)) (fun _ _ h => False.elim h) ?_
        have b281_ : 0 ≤ F1 344 10 ∧ F1 344 10 ≤ 600 := gi_g hg_F1 rfl
        rintro A1_ ⟨F285_, hA_, g286_, s287_, c282_, c283_, c284_⟩
        subst hA_
        have g288_ : fs [(344, 344, 5, 5), (344, 344, 9, 10), (344, 344, 63, 63), (357, 357, 0, 100000), (359, 363, 0, 100000)] F F285_ := fs_tr g104_ s287_ rfl
        have rk289_ : rk K F285_ := rk_fs rk105_ s287_ (fun r k h => (fs_n (by omega) rfl)) (fs_n (by omega) rfl)
        have c283_s := c283_.1 (by omega)
        clear c283_
        refine ga_aload_n (v := .ref 344) hm_176 rfl rfl rfl ?_
        refine fl_bipush hm_176 rfl rfl ?_
        have e290_ : F285_ 344 5 = F1 344 5 := (s287_ 344 5 rfl).trans (rfl)
        refine gVv (nY := 2) (F := 2) (L := 41) (As := [.int (Int32.ofInt 40)]) (b := 344) (rest := []) hm_176 rfl hm_51 rfl rfl (fl_ob sc_344) rfl rfl rfl rfl rfl (by omega) (by omega) (mc_51 hG F285_ X g286_ (K) (40) (0) hgK rk289_ hkt (by omega) (by omega) (by omega)) (fun _ _ h => False.elim h) ?_
        have b292_ : 0 ≤ F285_ 344 10 ∧ F285_ 344 10 ≤ 600 := gi_g g286_ rfl
        have b293_ : 0 ≤ F285_ 344 9 ∧ F285_ 344 9 ≤ 5 := gi_g g286_ rfl
        rintro A1_ (⟨F297_, hA_, g298_, s299_, c294_, c295_, c296_⟩ | ⟨F303_, hA_, g304_, s305_, c300_, c301_, c302_⟩)
        ·
          subst hA_
          have g306_ : fs [(344, 344, 5, 5), (344, 344, 9, 10), (344, 344, 63, 63), (357, 357, 0, 100000), (359, 363, 0, 100000)] F F297_ := fs_tr g288_ s299_ rfl
          have rk307_ : rk K F297_ := rk_fs rk289_ s299_ (fun r k h => (fs_n (by omega) (fs_n (by omega) rfl))) (fs_n (by omega) (fs_n (by omega) rfl))
          try simp only [e290_] at c295_
          have c295_k := c295_.2 (by omega)
          clear c295_
          refine ga_aload_n (v := .ref 344) hm_176 rfl rfl rfl ?_
          refine ga_iload_n (z := a) hm_176 rfl rfl ?_
          have b308_ : 0 ≤ F297_ 344 5 ∧ F297_ 344 5 ≤ 600 := gi_g g298_ rfl
          have e309_ : F285_ 344 63 = F1 344 63 := (s287_ 344 63 rfl).trans (rfl)
          have e310_ : F297_ 344 63 = F1 344 63 := (s299_ 344 63 rfl).trans (e309_)
          have e311_ : F285_ 359 a.toNat = F1 359 a.toNat := (s287_ 359 a.toNat (fs_n (by omega) rfl)).trans (rfl)
          have e312_ : F297_ 359 a.toNat = F1 359 a.toNat := (s299_ 359 a.toNat (fs_n (by omega) (fs_n (by omega) rfl))).trans (e311_)
          refine gVv (nY := 4) (F := 5) (L := 117) (As := [.int (Int32.ofInt a)]) (b := 344) (rest := []) hm_176 rfl hm_181 rfl rfl (fl_ob sc_344) rfl rfl rfl rfl rfl (by omega) (by omega) (mc_181 hG F297_ X g298_ (K) (a) (k) (c) (l) (tl) (pl) (ps) hgK rk307_ hkt (by omega) (fun h9_ => absurd h9_ (by omega)) (by omega) ((rpn_fs (rpn_fs (rpn_fs (by rw [q95_]; exact (rpn_u (rpn_fs (by rw [q4_]; exact (rpn_u hpl (by omega) (by omega))) s25_ (fun _ => (fs_n (by omega) (fs_n (by omega) rfl))) (fs_n (by omega) (fs_n (by omega) rfl))) (by omega) (by omega))) hf_F1 (fun _ => (fs_n (by omega) (fs_n (by omega) (fs_n (by omega) (fs_n (by omega) (fs_n (by omega) rfl)))))) (fs_n (by omega) (fs_n (by omega) (fs_n (by omega) (fs_n (by omega) (fs_n (by omega) rfl)))))) s287_ (fun _ => (fs_n (by omega) rfl)) (fs_n (by omega) rfl)) s299_ (fun _ => (fs_n (by omega) (fs_n (by omega) rfl))) (fs_n (by omega) (fs_n (by omega) rfl)))) (⟨(rprd_fs (rprd_fs (rprd_fs (by rw [q95_]; exact (rprd_u (rprd_fs (by rw [q4_]; exact (rprd_u hps.1 (by omega))) s25_ (fun r j hj => (fs_n (by omega) (fs_n (by omega) rfl)))) (by omega))) hf_F1 (fun r j hj => (fs_n (by omega) (fs_n (by omega) (fs_n (by omega) (fs_n (by omega) (fs_n (by omega) rfl))))))) s287_ (fun r j hj => (fs_n (by omega) rfl))) s299_ (fun r j hj => (fs_n (by omega) (fs_n (by omega) rfl)))), hps.2⟩) (by omega) (fun _ => by omega)) (fun _ _ h => False.elim h) ?_
          have b314_ : 0 ≤ F297_ 344 10 ∧ F297_ 344 10 ≤ 600 := gi_g g298_ rfl
          have b315_ : 0 ≤ F297_ 344 9 ∧ F297_ 344 9 ≤ 5 := gi_g g298_ rfl
          rintro A1_ (⟨F319_, hA_, g320_, s321_, c316_, c317_, c318_⟩ | ⟨F326_, hA_, g327_, s328_, c322_, c323_, c324_, c325_⟩)
          ·
            subst hA_
            have g329_ : fs [(344, 344, 5, 5), (344, 344, 9, 10), (344, 344, 63, 63), (357, 357, 0, 100000), (359, 363, 0, 100000)] F F319_ := fs_tr g306_ s321_ rfl
            have rk330_ : rk K F319_ := rk_fs rk307_ s321_ (fun r k h => (fs_n (by omega) (fs_n (by omega) (fs_n (by omega) (fs_n (by omega) (fs_n (by omega) rfl)))))) (fs_n (by omega) (fs_n (by omega) (fs_n (by omega) (fs_n (by omega) (fs_n (by omega) rfl)))))
            have c317_k := c317_.2 (by omega)
            clear c317_
            try obtain ⟨c2_, cm1_, cm2_⟩ := c317_k
            refine ga_inc (a := n) (c := n + 1) (lv2 := [(2, .int (Int32.ofInt (n + 1))), (3, .int (Int32.ofInt mo)), (0, .ref 344), (1, .int (Int32.ofInt a))]) hm_176 rfl rfl (Nat.le_of_ble_eq_true rfl) rfl rfl ?_
            refine ga_aload_n (v := .ref 344) hm_176 rfl rfl rfl ?_
            refine fl_bipush hm_176 rfl rfl ?_
            have b331_ : 0 ≤ F319_ 344 5 ∧ F319_ 344 5 ≤ 600 := gi_g g320_ rfl
            refine gVi (nY := 2) (F := 1) (L := 20) (As := [.int (Int32.ofInt 41)]) (b := 344) (rest := []) hm_176 rfl hm_52 rfl rfl (fl_ob sc_344) rfl rfl rfl rfl rfl (by omega) (by omega) (mc_52 hG F319_ X g320_ (K) (41) hgK rk330_ hkt (by omega) (by omega)) (fun _ _ h => False.elim h) ?_
            have b333_ : 0 ≤ F319_ 344 9 ∧ F319_ 344 9 ≤ 5 := gi_g g320_ rfl
            rintro z332_ A1_ (⟨hA_, hz_, c334_⟩ | ⟨hA_, hz_, c335_, c336_⟩)
            ·
              subst hA_
              subst hz_
              refine fl_if_ne hm_176 rfl ⟨by omega, by omega⟩ (fun h => absurd h (by omega)) (fun _ => ?_)
              refine fl_iconst hm_176 rfl ?_
              refine fl_goto hm_176 rfl ?_
              refine ga_istore_n (lv2 := [(3, .int (Int32.ofInt 1)), (2, .int (Int32.ofInt (n + 1))), (0, .ref 344), (1, .int (Int32.ofInt a))]) hm_176 rfl (Nat.le_of_ble_eq_true rfl) rfl ?_
              refine fl_goto hm_176 rfl ?_
              refine ga_iload_n (z := 1) hm_176 rfl rfl ?_
              refine fl_if_eq hm_176 rfl ⟨by omega, by omega⟩ (fun h => absurd h (by omega)) (fun _ => ?_)
              refine ga_aload_n (v := .ref 344) hm_176 rfl rfl rfl ?_
              refine gIi (nY := 1) (F := 0) (L := 0) (As := []) (b := 344) (rest := []) hm_176 rfl hm_59 rfl rfl (fl_ob sc_344) rfl rfl rfl rfl rfl (by omega) (by omega) ?_
              intro f337_ l338_ h339_ h340_
              show fl_R xi_ms 59 f337_ l338_ 0 [(0, .ref 344)] [] _ _
              refine ga_aload_n (v := .ref 344) hm_59 rfl rfl rfl ?_
              refine ga_geti (z := F319_ 344 9) hm_59 rfl sc_344 rfl (rfl) ?_
              refine fl_if_le (a := F319_ 344 9) hm_59 rfl ⟨by omega, by omega⟩ (fun h341_ => ?_) (fun h342_ => ?_)
              · exfalso; omega
              refine fl_iconst hm_59 rfl ?_
              refine fl_goto hm_59 rfl ?_
              refine gr_i hm_59 rfl rfl (ga_nb (by omega)) ?_
              clear h339_ h340_ f337_ l338_
              refine fl_if_ne hm_176 rfl ⟨by omega, by omega⟩ (fun _ => ?_) (fun h => absurd (by omega) h)
              refine ga_aload_n (v := .ref 344) hm_176 rfl rfl rfl ?_
              refine fl_bipush hm_176 rfl rfl ?_
              refine gVv (nY := 2) (F := 2) (L := 41) (As := [.int (Int32.ofInt 41)]) (b := 344) (rest := []) hm_176 rfl hm_51 rfl rfl (fl_ob sc_344) rfl rfl rfl rfl rfl (by omega) (by omega) (mc_51 hG F319_ X g320_ (K) (41) (1) hgK rk330_ hkt (by omega) (by omega) (by omega)) (fun _ _ h => False.elim h) ?_
              have b344_ : 0 ≤ F319_ 344 10 ∧ F319_ 344 10 ≤ 600 := gi_g g320_ rfl
              rintro A1_ (⟨F348_, hA_, g349_, s350_, c345_, c346_, c347_⟩ | ⟨F354_, hA_, g355_, s356_, c351_, c352_, c353_⟩)
              ·
                subst hA_
                have g357_ : fs [(344, 344, 5, 5), (344, 344, 9, 10), (344, 344, 63, 63), (357, 357, 0, 100000), (359, 363, 0, 100000)] F F348_ := fs_tr g329_ s350_ rfl
                have rk358_ : rk K F348_ := rk_fs rk330_ s350_ (fun r k h => (fs_n (by omega) (fs_n (by omega) rfl))) (fs_n (by omega) (fs_n (by omega) rfl))
                have c346_k := c346_.2 (by omega)
                clear c346_
                refine gr_v hm_176 rfl rfl ?_
                have b359_ : 0 ≤ F348_ 344 9 ∧ F348_ 344 9 ≤ 5 := gi_g g349_ rfl
                have b360_ : 0 ≤ F348_ 344 10 ∧ F348_ 344 10 ≤ 600 := gi_g g349_ rfl
                have b361_ : 0 ≤ F348_ 344 5 ∧ F348_ 344 5 ≤ 600 := gi_g g349_ rfl
                exact Or.inl ⟨F348_, rfl, g349_, g357_, (by omega), (⟨by intro h0_; have hs_ := c283_s; rw [sp_clause, hk0, pb_r, if_pos hand, hsk]; exact sm1_f hsp9 (sm1_f4 (by omega) (by omega)) (by omega) (by omega), fun h0_ => by exfalso; omega⟩), (by omega)⟩
              exfalso; omega
            exfalso; omega
          exfalso; omega
        exfalso; omega
      exfalso; omega
    have e362_ : F94_ 344 9 = F23_ 344 9 := by rw [q95_]; exact fl_u_ne (by omega)
    have e363_ : F3_ 344 63 = 0 := by rw [q4_]; exact fl_u_eq
    have e364_ : F23_ 344 63 = 0 := (s25_ 344 63 rfl).trans (e363_)
    have e365_ : F94_ 344 63 = 0 := by rw [q95_]; exact (fl_u_ne (by omega)).trans (e364_)
    have b366_ : 0 ≤ K 1 6 ∧ K 1 6 ≤ 601 := gi_g hgK rfl
    have e367_ : F3_ 359 a.toNat = F 359 a.toNat := by rw [q4_]; exact fl_u_ne (by omega)
    have e368_ : F23_ 359 a.toNat = F 359 a.toNat := (s25_ 359 a.toNat (fs_n (by omega) (fs_n (by omega) rfl))).trans (e367_)
    have e369_ : F94_ 359 a.toNat = F 359 a.toNat := by rw [q95_]; exact (fl_u_ne (by omega)).trans (e368_)
    exact L100_ _ (0) (1) (0) F94_ rfl g96_ fs_refl (by omega) (by omega) (Or.inl ⟨by omega, rfl⟩) (Or.inl ⟨rfl, Or.inl rfl⟩) (by omega) (rfl)
  refine ga_aload_n (v := .ref 344) hm_176 rfl rfl rfl ?_
  refine fl_iconst hm_176 rfl ?_
  refine ga_putz (z := 0) hm_176 rfl sc_344 rfl rfl (by omega) ?_
  
  refine ga_aload_n (v := .ref 344) hm_176 rfl rfl rfl ?_
  refine fl_bipush hm_176 rfl rfl ?_
  obtain ⟨F370_, q371_⟩ : ∃ F9_, F9_ = (fl_u F 344 63 0) := ⟨_, rfl⟩
  rw [← q371_]
  have g372_ : gi F370_ := by rw [q371_]; exact gi_u (hgi) rfl (by omega) (by omega)
  have g373_ : fs [(344, 344, 5, 5), (344, 344, 9, 10), (344, 344, 63, 63), (357, 357, 0, 100000), (359, 363, 0, 100000)] F F370_ := by rw [q371_]; exact fs_u (fs_refl) rfl
  have rk374_ : rk K F370_ := by rw [q371_]; exact rk_u (hrk) (by omega) (by omega)
  have e375_ : F370_ 344 5 = F 344 5 := by rw [q371_]; exact fl_u_ne (by omega)
  have b376_ : 0 ≤ F 344 5 ∧ F 344 5 ≤ 600 := gi_g hgi rfl
  refine gVv (nY := 2) (F := 2) (L := 41) (As := [.int (Int32.ofInt 40)]) (b := 344) (rest := []) hm_176 rfl hm_51 rfl rfl (fl_ob sc_344) rfl rfl rfl rfl rfl (by omega) (by omega) (mc_51 hG F370_ X g372_ (K) (40) (0) hgK rk374_ hkt (by omega) (by omega) (by omega)) (fun _ _ h => False.elim h) ?_
  have e378_ : F370_ 344 10 = F 344 10 := by rw [q371_]; exact fl_u_ne (by omega)
  have b379_ : 0 ≤ F 344 10 ∧ F 344 10 ≤ 600 := gi_g hgi rfl
  have e380_ : F370_ 344 9 = F 344 9 := by rw [q371_]; exact fl_u_ne (by omega)
  rintro A1_ (⟨F384_, hA_, g385_, s386_, c381_, c382_, c383_⟩ | ⟨F390_, hA_, g391_, s392_, c387_, c388_, c389_⟩)
  ·
    subst hA_
    have g393_ : fs [(344, 344, 5, 5), (344, 344, 9, 10), (344, 344, 63, 63), (357, 357, 0, 100000), (359, 363, 0, 100000)] F F384_ := fs_tr g373_ s386_ rfl
    have rk394_ : rk K F384_ := rk_fs rk374_ s386_ (fun r k h => (fs_n (by omega) (fs_n (by omega) rfl))) (fs_n (by omega) (fs_n (by omega) rfl))
    try simp only [e375_, e378_, e380_] at c382_
    have c382_k := c382_.2 (by omega)
    clear c382_
    refine ga_aload_n (v := .ref 344) hm_176 rfl rfl rfl ?_
    refine fl_bipush hm_176 rfl rfl ?_
    have b395_ : 0 ≤ F384_ 344 5 ∧ F384_ 344 5 ≤ 600 := gi_g g385_ rfl
    refine gVi (nY := 4) (F := 1) (L := 21) (As := [.int (Int32.ofInt 8)]) (b := 344) (rest := []) hm_176 rfl hm_56 rfl rfl (fl_ob sc_344) rfl rfl rfl rfl rfl (by omega) (by omega) (mc_56 hG F384_ X g385_ (K) (8) ([97, 110, 100]) hgK rk394_ hkt (by omega) (by omega) (by decide) (kw_8 rk394_)) (fun _ _ h => False.elim h) ?_
    have b397_ : 0 ≤ F384_ 344 9 ∧ F384_ 344 9 ≤ 5 := gi_g g385_ rfl
    rintro z396_ A1_ (⟨hA_, hz_, c398_⟩ | ⟨hA_, hz_, c399_, c400_⟩)
    ·
      subst hA_
      subst hz_
      refine fl_if_ne hm_176 rfl ⟨by omega, by omega⟩ (fun h => absurd h (by omega)) (fun _ => ?_)
      refine ga_aload_n (v := .ref 344) hm_176 rfl rfl rfl ?_
      refine ga_iload_n (z := a) hm_176 rfl rfl ?_
      have e401_ : F370_ 344 63 = 0 := by rw [q371_]; exact fl_u_eq
      have e402_ : F384_ 344 63 = 0 := (s386_ 344 63 rfl).trans (e401_)
      have e403_ : F370_ 359 a.toNat = F 359 a.toNat := by rw [q371_]; exact fl_u_ne (by omega)
      have e404_ : F384_ 359 a.toNat = F 359 a.toNat := (s386_ 359 a.toNat (fs_n (by omega) (fs_n (by omega) rfl))).trans (e403_)
      refine gVv (nY := 4) (F := 5) (L := 117) (As := [.int (Int32.ofInt a)]) (b := 344) (rest := []) hm_176 rfl hm_181 rfl rfl (fl_ob sc_344) rfl rfl rfl rfl rfl (by omega) (by omega) (mc_181 hG F384_ X g385_ (K) (a) (k) (0) (l) (tl) (pl) (ps) hgK rk394_ hkt (by omega) (fun h9_ => absurd h9_ (by omega)) (by omega) ((rpn_fs (by rw [q371_]; exact (rpn_u hpl (by omega) (by omega))) s386_ (fun _ => (fs_n (by omega) (fs_n (by omega) rfl))) (fs_n (by omega) (fs_n (by omega) rfl)))) (⟨(rprd_fs (by rw [q371_]; exact (rprd_u hps.1 (by omega))) s386_ (fun r j hj => (fs_n (by omega) (fs_n (by omega) rfl)))), hps.2⟩) (Or.inl ⟨by omega, rfl⟩) (fun _ => by omega)) (fun _ _ h => False.elim h) ?_
      have b406_ : 0 ≤ F384_ 344 10 ∧ F384_ 344 10 ≤ 600 := gi_g g385_ rfl
      rintro A1_ (⟨F410_, hA_, g411_, s412_, c407_, c408_, c409_⟩ | ⟨F417_, hA_, g418_, s419_, c413_, c414_, c415_, c416_⟩)
      ·
        subst hA_
        have g420_ : fs [(344, 344, 5, 5), (344, 344, 9, 10), (344, 344, 63, 63), (357, 357, 0, 100000), (359, 363, 0, 100000)] F F410_ := fs_tr g393_ s412_ rfl
        have rk421_ : rk K F410_ := rk_fs rk394_ s412_ (fun r k h => (fs_n (by omega) (fs_n (by omega) (fs_n (by omega) (fs_n (by omega) (fs_n (by omega) rfl)))))) (fs_n (by omega) (fs_n (by omega) (fs_n (by omega) (fs_n (by omega) (fs_n (by omega) rfl)))))
        have c408_k := c408_.2 (by omega)
        clear c408_
        try obtain ⟨c2_, cm1_, cm2_⟩ := c408_k
        refine gr_v hm_176 rfl rfl ?_
        have b422_ : 0 ≤ F410_ 344 9 ∧ F410_ 344 9 ≤ 5 := gi_g g411_ rfl
        have b423_ : 0 ≤ F410_ 344 10 ∧ F410_ 344 10 ≤ 600 := gi_g g411_ rfl
        have b424_ : 0 ≤ F410_ 344 5 ∧ F410_ 344 5 ≤ 600 := gi_g g411_ rfl
        exact Or.inl ⟨F410_, rfl, g411_, g420_, (by omega), (⟨fun h0_ => by exfalso; omega, fun h0_ => by constructor <;> omega⟩), (by omega)⟩
      exfalso; omega
    exfalso; omega
  exfalso; omega

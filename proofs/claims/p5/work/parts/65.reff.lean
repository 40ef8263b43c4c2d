/- CheapPlannerModel.readEffect -/
abbrev pq_176 (G : Nat → Nat → Option Nat) (F : fl_N) (X : xi_H) (K : fl_N) (a k : Int) (l tl pl : List Int) (ps : List (List Int)) : Outcome → xi_H → Prop := gqv (fun A => (∃ F' : fl_N, fl_H sh_T G F' ++ X = A ∧ gi F' ∧ fs [(344, 344, 5, 5), (344, 344, 9, 10), (344, 344, 63, 63), (357, 357, 0, 100000), (359, 363, 0, 100000)] F F' ∧ (¬ F' 344 9 = 0) ∧ ((F 344 9 = 0 → sp_clause K true k l tl pl ps (F 344 5) = .inl (F' 344 9, F' 344 10)) ∧ (¬ F 344 9 = 0 → F' 344 9 = F 344 9 ∧ F' 344 10 = F 344 10)) ∧ (0 ≤ F' 344 5 ∧ F' 344 5 ≤ K 1 6 - 1)) ∨ (∃ F' : fl_N, fl_H sh_T G F' ++ X = A ∧ gi F' ∧ fs [(344, 344, 5, 5), (344, 344, 9, 10), (344, 344, 63, 63), (357, 357, 0, 100000), (359, 363, 0, 100000)] F F' ∧ (F' 344 9 = 0 ∧ F 344 9 = 0) ∧ (∃ c2, sp_clause K true k l tl pl ps (F 344 5) = .inr (F' 344 5, c2)) ∧ (0 ≤ F' 344 5 ∧ F' 344 5 ≤ K 1 6 - 1) ∧ (cst a.toNat F F'))) gqn
set_option maxHeartbeats 16000000 in
theorem mc_176 {G : Nat → Nat → Option Nat} (hG : gg G) (F : fl_N) (X : xi_H) (hgi : gi F) (K : fl_N) (a k : Int) (l tl pl : List Int) (ps : List (List Int)) (hgK : gi K) (hrk : rk K F) (hkt : rkt K) (hp : 0 ≤ F 344 5 ∧ F 344 5 ≤ K 1 6 - 1) (ht9 : F 344 9 = 0 → trm F a k l tl ∧ l.length = tl.length) (ha : 0 ≤ a ∧ a ≤ 4) (hpl : rpn (F 350) (F 344 17) pl) (hps : rprd F ps ∧ ps.length = pl.length) (hc09 : F 344 9 = 0 → F 359 a.toNat = 0) : fl_M xi_ms 176 6 140 [.ref 344, .int (Int32.ofInt a)] (fl_H sh_T G F ++ X) (pq_176 G F X K a k l tl pl ps) := by
  intro fr lo hfr hlo
  show fl_R xi_ms 176 fr lo 0 [(0, .ref 344), (1, .int (Int32.ofInt a))] [] _ _
  have hP := (rkt_p hkt hp.1 hp.2 hgK).1
  have hK16 : 0 ≤ K 1 6 ∧ K 1 6 ≤ 601 := gi_g hgK rfl
  have hko := hkt.1
  have b1_ : 0 ≤ F 344 9 ∧ F 344 9 ≤ 5 := gi_g hgi rfl
  by_cases h2_ : F 344 9 = 0
  ·
    refine ga_aload_n (v := .ref 344) hm_176 rfl rfl rfl ?_
    refine fl_iconst hm_176 rfl ?_
    refine ga_putz (z := 0) hm_176 rfl sc_344 rfl rfl (by omega) ?_
    have ht := (ht9 (by omega)).1
    have hlt := (ht9 (by omega)).2
    have hc0 := hc09 (by omega)
    refine ga_aload_n (v := .ref 344) hm_176 rfl rfl rfl ?_
    refine fl_bipush hm_176 rfl rfl ?_
    obtain ⟨F3_, q4_⟩ : ∃ F9_, F9_ = (fl_u F 344 63 0) := ⟨_, rfl⟩
    rw [← q4_]
    have g5_ : gi F3_ := by rw [q4_]; exact gi_u (hgi) rfl (by omega) (by omega)
    have g6_ : fs [(344, 344, 5, 5), (344, 344, 9, 10), (344, 344, 63, 63), (357, 357, 0, 100000), (359, 363, 0, 100000)] F F3_ := by rw [q4_]; exact fs_u (fs_refl) rfl
    have rk7_ : rk K F3_ := by rw [q4_]; exact rk_u (hrk) (by omega) (by omega)
    have e8_ : F3_ 344 5 = F 344 5 := by rw [q4_]; exact fl_u_ne (by omega)
    have b9_ : 0 ≤ F 344 5 ∧ F 344 5 ≤ 600 := gi_g hgi rfl
    refine gVv (nY := 2) (F := 2) (L := 41) (As := [.int (Int32.ofInt 40)]) (b := 344) (rest := []) hm_176 rfl hm_51 rfl rfl (fl_ob sc_344) rfl rfl rfl rfl rfl (by omega) (by omega) (mc_51 hG F3_ X g5_ (K) (40) (0) hgK rk7_ hkt (by omega) (by omega) (by omega)) (fun _ _ h => False.elim h) ?_
    have e11_ : F3_ 344 10 = F 344 10 := by rw [q4_]; exact fl_u_ne (by omega)
    have b12_ : 0 ≤ F 344 10 ∧ F 344 10 ≤ 600 := gi_g hgi rfl
    have e13_ : F3_ 344 9 = F 344 9 := by rw [q4_]; exact fl_u_ne (by omega)
    rintro A1_ (⟨F17_, hA_, g18_, s19_, c14_, c15_, c16_⟩ | ⟨F23_, hA_, g24_, s25_, c20_, c21_, c22_⟩)
    ·
      subst hA_
      have g26_ : fs [(344, 344, 5, 5), (344, 344, 9, 10), (344, 344, 63, 63), (357, 357, 0, 100000), (359, 363, 0, 100000)] F F17_ := fs_tr g6_ s19_ rfl
      have rk27_ : rk K F17_ := rk_fs rk7_ s19_ (fun r k h => (fs_n (by omega) (fs_n (by omega) rfl))) (fs_n (by omega) (fs_n (by omega) rfl))
      try simp only [e8_, e11_, e13_] at c15_
      have c15_s := c15_.1 (by omega)
      clear c15_
      refine ga_aload_n (v := .ref 344) hm_176 rfl rfl rfl ?_
      refine fl_bipush hm_176 rfl rfl ?_
      have b28_ : 0 ≤ F17_ 344 5 ∧ F17_ 344 5 ≤ 600 := gi_g g18_ rfl
      refine gVi (nY := 4) (F := 1) (L := 21) (As := [.int (Int32.ofInt 8)]) (b := 344) (rest := []) hm_176 rfl hm_56 rfl rfl (fl_ob sc_344) rfl rfl rfl rfl rfl (by omega) (by omega) (mc_56 hG F17_ X g18_ (K) (8) ([97, 110, 100]) hgK rk27_ hkt (by omega) (by omega) (by decide) (kw_8 rk27_)) (fun _ _ h => False.elim h) ?_
      have b30_ : 0 ≤ F17_ 344 9 ∧ F17_ 344 9 ≤ 5 := gi_g g18_ rfl
      rintro z29_ A1_ (⟨hA_, hz_, c31_⟩ | ⟨hA_, hz_, c32_, c33_⟩)
      ·
        subst hA_
        subst hz_
        refine fl_if_ne hm_176 rfl ⟨by omega, by omega⟩ (fun h => absurd h (by omega)) (fun _ => ?_)
        refine ga_aload_n (v := .ref 344) hm_176 rfl rfl rfl ?_
        refine ga_iload_n (z := a) hm_176 rfl rfl ?_
        have e34_ : F3_ 344 63 = 0 := by rw [q4_]; exact fl_u_eq
        have e35_ : F17_ 344 63 = 0 := (s19_ 344 63 rfl).trans (e34_)
        have e36_ : F3_ 359 a.toNat = F 359 a.toNat := by rw [q4_]; exact fl_u_ne (by omega)
        have e37_ : F17_ 359 a.toNat = F 359 a.toNat := (s19_ 359 a.toNat (fs_n (by omega) (fs_n (by omega) rfl))).trans (e36_)
        refine gVv (nY := 4) (F := 5) (L := 117) (As := [.int (Int32.ofInt a)]) (b := 344) (rest := []) hm_176 rfl hm_181 rfl rfl (fl_ob sc_344) rfl rfl rfl rfl rfl (by omega) (by omega) (mc_181 hG F17_ X g18_ (K) (a) (k) (0) (l) (tl) (pl) (ps) hgK rk27_ hkt (by omega) (fun h9_ => absurd h9_ (by omega)) (by omega) ((rpn_fs (by rw [q4_]; exact (rpn_u hpl (by omega) (by omega))) s19_ (fun _ => (fs_n (by omega) (fs_n (by omega) rfl))) (fs_n (by omega) (fs_n (by omega) rfl)))) (⟨(rprd_fs (by rw [q4_]; exact (rprd_u hps.1 (by omega))) s19_ (fun r j hj => (fs_n (by omega) (fs_n (by omega) rfl)))), hps.2⟩) (Or.inl ⟨by omega, rfl⟩) (fun _ => by omega)) (fun _ _ h => False.elim h) ?_
        have b39_ : 0 ≤ F17_ 344 10 ∧ F17_ 344 10 ≤ 600 := gi_g g18_ rfl
        rintro A1_ (⟨F43_, hA_, g44_, s45_, c40_, c41_, c42_⟩ | ⟨F51_, hA_, g52_, s53_, c46_, c47_, c48_, c49_, c50_⟩)
        ·
          subst hA_
          have g54_ : fs [(344, 344, 5, 5), (344, 344, 9, 10), (344, 344, 63, 63), (357, 357, 0, 100000), (359, 363, 0, 100000)] F F43_ := fs_tr g26_ s45_ rfl
          have rk55_ : rk K F43_ := rk_fs rk27_ s45_ (fun r k h => (fs_n (by omega) (fs_n (by omega) (fs_n (by omega) (fs_n (by omega) (fs_n (by omega) rfl)))))) (fs_n (by omega) (fs_n (by omega) (fs_n (by omega) (fs_n (by omega) (fs_n (by omega) rfl)))))
          have c41_k := c41_.2 (by omega)
          clear c41_
          try obtain ⟨c2_, cm1_, cm2_⟩ := c41_k
          refine gr_v hm_176 rfl rfl ?_
          have b56_ : 0 ≤ F43_ 344 9 ∧ F43_ 344 9 ≤ 5 := gi_g g44_ rfl
          have b57_ : 0 ≤ F43_ 344 10 ∧ F43_ 344 10 ≤ 600 := gi_g g44_ rfl
          have b58_ : 0 ≤ F43_ 344 5 ∧ F43_ 344 5 ≤ 600 := gi_g g44_ rfl
          exact Or.inl ⟨F43_, rfl, g44_, g54_, (by omega), (⟨by intro h0_; have hs_ := c15_s; rw [sp_clause, hs_]; show Sum.inl _ = _; try (congr 2 <;> omega), fun h0_ => by exfalso; omega⟩), (by omega)⟩
        exfalso; omega
      exfalso; omega
    subst hA_
    have g59_ : fs [(344, 344, 5, 5), (344, 344, 9, 10), (344, 344, 63, 63), (357, 357, 0, 100000), (359, 363, 0, 100000)] F F23_ := fs_tr g6_ s25_ rfl
    have rk60_ : rk K F23_ := rk_fs rk7_ s25_ (fun r k h => (fs_n (by omega) (fs_n (by omega) rfl))) (fs_n (by omega) (fs_n (by omega) rfl))
    try simp only [e13_] at c20_
    try simp only [e8_] at c21_
    refine ga_aload_n (v := .ref 344) hm_176 rfl rfl rfl ?_
    refine fl_bipush hm_176 rfl rfl ?_
    have b61_ : 0 ≤ F23_ 344 5 ∧ F23_ 344 5 ≤ 600 := gi_g g24_ rfl
    refine gVi (nY := 4) (F := 1) (L := 21) (As := [.int (Int32.ofInt 8)]) (b := 344) (rest := []) hm_176 rfl hm_56 rfl rfl (fl_ob sc_344) rfl rfl rfl rfl rfl (by omega) (by omega) (mc_56 hG F23_ X g24_ (K) (8) ([97, 110, 100]) hgK rk60_ hkt (by omega) (by omega) (by decide) (kw_8 rk60_)) (fun _ _ h => False.elim h) ?_
    have b63_ : 0 ≤ F23_ 344 9 ∧ F23_ 344 9 ≤ 5 := gi_g g24_ rfl
    rintro z62_ A1_ (⟨hA_, hz_, c64_⟩ | ⟨hA_, hz_, c65_, c66_⟩)
    ·
      subst hA_
      subst hz_
      refine fl_if_ne hm_176 rfl ⟨by omega, by omega⟩ (fun h => absurd h (by omega)) (fun _ => ?_)
      refine ga_aload_n (v := .ref 344) hm_176 rfl rfl rfl ?_
      refine ga_iload_n (z := a) hm_176 rfl rfl ?_
      have e67_ : F3_ 344 63 = 0 := by rw [q4_]; exact fl_u_eq
      have e68_ : F23_ 344 63 = 0 := (s25_ 344 63 rfl).trans (e67_)
      have e69_ : F3_ 359 a.toNat = F 359 a.toNat := by rw [q4_]; exact fl_u_ne (by omega)
      have e70_ : F23_ 359 a.toNat = F 359 a.toNat := (s25_ 359 a.toNat (fs_n (by omega) (fs_n (by omega) rfl))).trans (e69_)
      refine gVv (nY := 4) (F := 5) (L := 117) (As := [.int (Int32.ofInt a)]) (b := 344) (rest := []) hm_176 rfl hm_181 rfl rfl (fl_ob sc_344) rfl rfl rfl rfl rfl (by omega) (by omega) (mc_181 hG F23_ X g24_ (K) (a) (k) (0) (l) (tl) (pl) (ps) hgK rk60_ hkt (by omega) (fun _ => ⟨(trm_fs (by rw [q4_]; exact (trm_u ht (by omega))) s25_ (fun r j hj => (fs_n (by omega) (fs_n (by omega) rfl)))), hlt⟩) (by omega) ((rpn_fs (by rw [q4_]; exact (rpn_u hpl (by omega) (by omega))) s25_ (fun _ => (fs_n (by omega) (fs_n (by omega) rfl))) (fs_n (by omega) (fs_n (by omega) rfl)))) (⟨(rprd_fs (by rw [q4_]; exact (rprd_u hps.1 (by omega))) s25_ (fun r j hj => (fs_n (by omega) (fs_n (by omega) rfl)))), hps.2⟩) (Or.inl ⟨by omega, rfl⟩) (fun _ => by omega)) (fun _ _ h => False.elim h) ?_
      have b72_ : 0 ≤ F23_ 344 10 ∧ F23_ 344 10 ≤ 600 := gi_g g24_ rfl
      rintro A1_ (⟨F76_, hA_, g77_, s78_, c73_, c74_, c75_⟩ | ⟨F84_, hA_, g85_, s86_, c79_, c80_, c81_, c82_, c83_⟩)
      ·
        subst hA_
        have g87_ : fs [(344, 344, 5, 5), (344, 344, 9, 10), (344, 344, 63, 63), (357, 357, 0, 100000), (359, 363, 0, 100000)] F F76_ := fs_tr g59_ s78_ rfl
        have rk88_ : rk K F76_ := rk_fs rk60_ s78_ (fun r k h => (fs_n (by omega) (fs_n (by omega) (fs_n (by omega) (fs_n (by omega) (fs_n (by omega) rfl)))))) (fs_n (by omega) (fs_n (by omega) (fs_n (by omega) (fs_n (by omega) (fs_n (by omega) rfl)))))
        have c74_s := c74_.1 (by omega)
        clear c74_
        try obtain ⟨c2_, cm1_, cm2_⟩ := c74_s
        refine gr_v hm_176 rfl rfl ?_
        have b89_ : 0 ≤ F76_ 344 9 ∧ F76_ 344 9 ≤ 5 := gi_g g77_ rfl
        have b90_ : 0 ≤ F76_ 344 10 ∧ F76_ 344 10 ≤ 600 := gi_g g77_ rfl
        have b91_ : 0 ≤ F76_ 344 5 ∧ F76_ 344 5 ≤ 600 := gi_g g77_ rfl
        exact Or.inl ⟨F76_, rfl, g77_, g87_, (by omega), (⟨by intro h0_; have hs_ := c74_s; rw [sp_clause, c21_, pb_r, if_neg (fun h8_ => c64_ ⟨by omega, h8_⟩), hs_]; try (congr 2 <;> omega), fun h0_ => by exfalso; omega⟩), (by omega)⟩
      subst hA_
      have g92_ : fs [(344, 344, 5, 5), (344, 344, 9, 10), (344, 344, 63, 63), (357, 357, 0, 100000), (359, 363, 0, 100000)] F F84_ := fs_tr g59_ s86_ rfl
      have rk93_ : rk K F84_ := rk_fs rk60_ s86_ (fun r k h => (fs_n (by omega) (fs_n (by omega) (fs_n (by omega) (fs_n (by omega) (fs_n (by omega) rfl)))))) (fs_n (by omega) (fs_n (by omega) (fs_n (by omega) (fs_n (by omega) (fs_n (by omega) rfl)))))
      try simp only [e70_] at c82_
      try obtain ⟨c2_, cm1_, cm2_⟩ := c80_
      refine gr_v hm_176 rfl rfl ?_
      have b94_ : 0 ≤ F84_ 344 9 ∧ F84_ 344 9 ≤ 5 := gi_g g85_ rfl
      have b95_ : 0 ≤ F84_ 344 5 ∧ F84_ 344 5 ≤ 600 := gi_g g85_ rfl
      exact Or.inr (⟨F84_, rfl, g85_, g92_, (by omega), (⟨_, by rw [sp_clause, c21_, pb_r, if_neg (fun h8_ => c64_ ⟨by omega, h8_⟩)]; exact cm1_⟩), (by omega), ((cst_tr (cst_fs (by rw [q4_]; exact (cst_u cst_r (by decide))) s25_ (fun _ => (fs_n (by omega) (fs_n (by omega) rfl)))) c83_))⟩)
    subst hA_
    subst hz_
    refine fl_if_ne hm_176 rfl ⟨by omega, by omega⟩ (fun _ => ?_) (fun h => absurd (by omega) h)
    have hk0 := c21_
    have hand := c65_.2
    have hsk : sk K (F23_ 344 5) = F23_ 344 5 + 1 := by rw [sk, if_pos (by omega)]
    refine ga_aload_n (v := .ref 344) hm_176 rfl rfl rfl ?_
    refine ga_dup hm_176 rfl rfl ?_
    refine ga_geti (z := F23_ 344 5) hm_176 rfl sc_344 rfl (rfl) ?_
    refine fl_iconst hm_176 rfl ?_
    refine ga_iadd (a := F23_ 344 5) (b := 1) (c := F23_ 344 5 + 1) hm_176 rfl (by omega) ?_
    refine ga_puti (z := F23_ 344 5 + 1) hm_176 rfl sc_344 rfl rfl ?_
    refine fl_iconst hm_176 rfl ?_
    refine ga_istore_n (lv2 := [(2, .int (Int32.ofInt 0)), (0, .ref 344), (1, .int (Int32.ofInt a))]) hm_176 rfl (Nat.le_of_ble_eq_true rfl) rfl ?_
    refine fl_iconst hm_176 rfl ?_
    refine ga_istore_n (lv2 := [(3, .int (Int32.ofInt 1)), (2, .int (Int32.ofInt 0)), (0, .ref 344), (1, .int (Int32.ofInt a))]) hm_176 rfl (Nat.le_of_ble_eq_true rfl) rfl ?_
    obtain ⟨F96_, q97_⟩ : ∃ F9_, F9_ = (fl_u F23_ 344 5 (F23_ 344 5 + 1)) := ⟨_, rfl⟩
    rw [← q97_]
    have g98_ : gi F96_ := by rw [q97_]; exact gi_u (g24_) rfl (by omega) (by omega)
    have g99_ : fs [(344, 344, 5, 5), (344, 344, 9, 10), (344, 344, 63, 63), (357, 357, 0, 100000), (359, 363, 0, 100000)] F F96_ := by rw [q97_]; exact fs_u (g59_) rfl
    have rk100_ : rk K F96_ := by rw [q97_]; exact rk_u (rk60_) (by omega) (by omega)
    have e104_ : F96_ 344 5 = F23_ 344 5 + 1 := by rw [q97_]; exact fl_u_eq
    have L102_ : ∀ (n101_ : Nat) (n : Int) (mo : Int) (c : Int) (F1 : fl_N), (5 - n : Int).toNat = n101_ → (gi F1) → (fs [(344, 344, 5, 5), (344, 344, 9, 10), (344, 344, 63, 63), (357, 357, 0, 100000), (359, 363, 0, 100000)] F96_ F1) → (F1 344 9 = 0) → ((0 ≤ n ∧ n ≤ 4) ∧ F1 359 a.toNat ≤ n) → ((F1 344 63 = 0 ∧ c = 0) ∨ (F1 344 63 = 1 ∧ ¬ c = 0)) → ((mo = 1 ∧ (n = 0 ∨ ¬ K 3 (F1 344 5).toNat = 1)) ∨ (mo = 0 ∧ 0 < n ∧ K 3 (F1 344 5).toNat = 1)) → (0 ≤ F1 344 5 ∧ F1 344 5 ≤ K 1 6 - 1) → (cst a.toNat F F1) → (sp_m1 K true k l tl pl ps 4 true 0 (F96_ 344 5) = sp_m1 K true k l tl pl ps (4 - n).toNat (decide (n = 0)) c (F1 344 5)) → fl_R xi_ms 176 fr lo 40 [(3, .int (Int32.ofInt mo)), (2, .int (Int32.ofInt n)), (0, .ref 344), (1, .int (Int32.ofInt a))] [] (fl_H sh_T G F1 ++ X) (pq_176 G F X K a k l tl pl ps) := by
      intro n101_
      induction n101_ using Nat.strongRecOn with
      | ind n101_ ih103_ =>
      intro n mo c F1 hn105_ hg_F1 hf_F1 hk hcn hic hmo hp1 hcs hsp
      have g106_ : fs [(344, 344, 5, 5), (344, 344, 9, 10), (344, 344, 63, 63), (357, 357, 0, 100000), (359, 363, 0, 100000)] F F1 := fs_tr g99_ hf_F1 rfl
      have rk107_ : rk K F1 := rk_fs rk100_ hf_F1 (fun r k h => (fs_n (by omega) (fs_n (by omega) (fs_n (by omega) (fs_n (by omega) (fs_n (by omega) rfl)))))) (fs_n (by omega) (fs_n (by omega) (fs_n (by omega) (fs_n (by omega) (fs_n (by omega) rfl)))))
      have hP1 := (rkt_p hkt (p := F1 344 5) (by omega) (by omega) hgK).1
      have hsp9 := hsp
      rw [show F96_ 344 5 = F23_ 344 5 + 1 from by omega] at hsp9
      refine ga_iload_n (z := mo) hm_176 rfl rfl ?_
      refine fl_if_eq (a := mo) hm_176 rfl ⟨by omega, by omega⟩ (fun h108_ => ?_) (fun h109_ => ?_)
      ·
        refine ga_aload_n (v := .ref 344) hm_176 rfl rfl rfl ?_
        refine fl_bipush hm_176 rfl rfl ?_
        have b110_ : 0 ≤ F1 344 5 ∧ F1 344 5 ≤ 600 := gi_g hg_F1 rfl
        refine gVv (nY := 2) (F := 2) (L := 41) (As := [.int (Int32.ofInt 41)]) (b := 344) (rest := []) hm_176 rfl hm_51 rfl rfl (fl_ob sc_344) rfl rfl rfl rfl rfl (by omega) (by omega) (mc_51 hG F1 X hg_F1 (K) (41) (1) hgK rk107_ hkt (by omega) (by omega) (by omega)) (fun _ _ h => False.elim h) ?_
        have b112_ : 0 ≤ F1 344 10 ∧ F1 344 10 ≤ 600 := gi_g hg_F1 rfl
        have b113_ : 0 ≤ F1 344 9 ∧ F1 344 9 ≤ 5 := gi_g hg_F1 rfl
        rintro A1_ (⟨F117_, hA_, g118_, s119_, c114_, c115_, c116_⟩ | ⟨F123_, hA_, g124_, s125_, c120_, c121_, c122_⟩)
        ·
          subst hA_
          have g126_ : fs [(344, 344, 5, 5), (344, 344, 9, 10), (344, 344, 63, 63), (357, 357, 0, 100000), (359, 363, 0, 100000)] F F117_ := fs_tr g106_ s119_ rfl
          have rk127_ : rk K F117_ := rk_fs rk107_ s119_ (fun r k h => (fs_n (by omega) (fs_n (by omega) rfl))) (fs_n (by omega) (fs_n (by omega) rfl))
          have c115_s := c115_.1 (by omega)
          clear c115_
          refine gr_v hm_176 rfl rfl ?_
          have b128_ : 0 ≤ F117_ 344 9 ∧ F117_ 344 9 ≤ 5 := gi_g g118_ rfl
          have b129_ : 0 ≤ F117_ 344 10 ∧ F117_ 344 10 ≤ 600 := gi_g g118_ rfl
          have b130_ : 0 ≤ F117_ 344 5 ∧ F117_ 344 5 ≤ 600 := gi_g g118_ rfl
          exact Or.inl ⟨F117_, rfl, g118_, g126_, (by omega), (⟨by intro h0_; have hs_ := c115_s; exfalso; rw [sp_kind, if_pos (by omega)] at hs_; exact (nomatch hs_), fun h0_ => by exfalso; omega⟩), (by omega)⟩
        subst hA_
        have g131_ : fs [(344, 344, 5, 5), (344, 344, 9, 10), (344, 344, 63, 63), (357, 357, 0, 100000), (359, 363, 0, 100000)] F F123_ := fs_tr g106_ s125_ rfl
        have rk132_ : rk K F123_ := rk_fs rk107_ s125_ (fun r k h => (fs_n (by omega) (fs_n (by omega) rfl))) (fs_n (by omega) (fs_n (by omega) rfl))
        refine gr_v hm_176 rfl rfl ?_
        have b133_ : 0 ≤ F123_ 344 9 ∧ F123_ 344 9 ≤ 5 := gi_g g124_ rfl
        have b134_ : 0 ≤ F123_ 344 5 ∧ F123_ 344 5 ≤ 600 := gi_g g124_ rfl
        exact Or.inr (⟨F123_, rfl, g124_, g131_, (by omega), (⟨c, by rw [sp_clause, hk0, pb_r, if_pos hand, hsk, sm1_ok (hsp9.trans (sm1_e (by omega) (by omega))), pb_r, c121_]; rfl⟩), (by omega), ((cst_fs hcs s125_ (fun _ => (fs_n (by omega) (fs_n (by omega) rfl)))))⟩)
      refine ga_aload_n (v := .ref 344) hm_176 rfl rfl rfl ?_
      refine gIi (nY := 1) (F := 0) (L := 0) (As := []) (b := 344) (rest := []) hm_176 rfl hm_59 rfl rfl (fl_ob sc_344) rfl rfl rfl rfl rfl (by omega) (by omega) ?_
      intro f135_ l136_ h137_ h138_
      show fl_R xi_ms 59 f135_ l136_ 0 [(0, .ref 344)] [] _ _
      refine ga_aload_n (v := .ref 344) hm_59 rfl rfl rfl ?_
      have b139_ : 0 ≤ F1 344 9 ∧ F1 344 9 ≤ 5 := gi_g hg_F1 rfl
      refine ga_geti (z := F1 344 9) hm_59 rfl sc_344 rfl (rfl) ?_
      refine fl_if_le (a := F1 344 9) hm_59 rfl ⟨by omega, by omega⟩ (fun h140_ => ?_) (fun h141_ => ?_)
      ·
        refine fl_iconst hm_59 rfl ?_
        refine gr_i hm_59 rfl rfl (ga_nb (by omega)) ?_
        clear h137_ h138_ f135_ l136_
        refine fl_if_ne hm_176 rfl ⟨by omega, by omega⟩ (fun h => absurd h (by omega)) (fun _ => ?_)
        refine ga_iload_n (z := n) hm_176 rfl rfl ?_
        refine fl_iconst hm_176 rfl ?_
        refine fx_icmp_ne (a := n) (b := 4) hm_176 rfl ⟨by omega, by omega⟩ ⟨by omega, by omega⟩ (fun h142_ => ?_) (fun h143_ => ?_)
        ·
          refine ga_aload_n (v := .ref 344) hm_176 rfl rfl rfl ?_
          refine fl_bipush hm_176 rfl rfl ?_
          have b144_ : 0 ≤ F1 344 5 ∧ F1 344 5 ≤ 600 := gi_g hg_F1 rfl
          refine gVv (nY := 2) (F := 2) (L := 41) (As := [.int (Int32.ofInt 40)]) (b := 344) (rest := []) hm_176 rfl hm_51 rfl rfl (fl_ob sc_344) rfl rfl rfl rfl rfl (by omega) (by omega) (mc_51 hG F1 X hg_F1 (K) (40) (0) hgK rk107_ hkt (by omega) (by omega) (by omega)) (fun _ _ h => False.elim h) ?_
          have b146_ : 0 ≤ F1 344 10 ∧ F1 344 10 ≤ 600 := gi_g hg_F1 rfl
          rintro A1_ (⟨F150_, hA_, g151_, s152_, c147_, c148_, c149_⟩ | ⟨F156_, hA_, g157_, s158_, c153_, c154_, c155_⟩)
          ·
            subst hA_
            have g159_ : fs [(344, 344, 5, 5), (344, 344, 9, 10), (344, 344, 63, 63), (357, 357, 0, 100000), (359, 363, 0, 100000)] F F150_ := fs_tr g106_ s152_ rfl
            have rk160_ : rk K F150_ := rk_fs rk107_ s152_ (fun r k h => (fs_n (by omega) (fs_n (by omega) rfl))) (fs_n (by omega) (fs_n (by omega) rfl))
            have c148_s := c148_.1 (by omega)
            clear c148_
            refine ga_aload_n (v := .ref 344) hm_176 rfl rfl rfl ?_
            refine ga_iload_n (z := a) hm_176 rfl rfl ?_
            have b161_ : 0 ≤ F150_ 344 5 ∧ F150_ 344 5 ≤ 600 := gi_g g151_ rfl
            have e162_ : F150_ 344 63 = F1 344 63 := (s152_ 344 63 rfl).trans (rfl)
            have e163_ : F150_ 359 a.toNat = F1 359 a.toNat := (s152_ 359 a.toNat (fs_n (by omega) (fs_n (by omega) rfl))).trans (rfl)
            refine gVv (nY := 4) (F := 5) (L := 117) (As := [.int (Int32.ofInt a)]) (b := 344) (rest := []) hm_176 rfl hm_181 rfl rfl (fl_ob sc_344) rfl rfl rfl rfl rfl (by omega) (by omega) (mc_181 hG F150_ X g151_ (K) (a) (k) (c) (l) (tl) (pl) (ps) hgK rk160_ hkt (by omega) (fun h9_ => absurd h9_ (by omega)) (by omega) ((rpn_fs (rpn_fs (by rw [q97_]; exact (rpn_u (rpn_fs (by rw [q4_]; exact (rpn_u hpl (by omega) (by omega))) s25_ (fun _ => (fs_n (by omega) (fs_n (by omega) rfl))) (fs_n (by omega) (fs_n (by omega) rfl))) (by omega) (by omega))) hf_F1 (fun _ => (fs_n (by omega) (fs_n (by omega) (fs_n (by omega) (fs_n (by omega) (fs_n (by omega) rfl)))))) (fs_n (by omega) (fs_n (by omega) (fs_n (by omega) (fs_n (by omega) (fs_n (by omega) rfl)))))) s152_ (fun _ => (fs_n (by omega) (fs_n (by omega) rfl))) (fs_n (by omega) (fs_n (by omega) rfl)))) (⟨(rprd_fs (rprd_fs (by rw [q97_]; exact (rprd_u (rprd_fs (by rw [q4_]; exact (rprd_u hps.1 (by omega))) s25_ (fun r j hj => (fs_n (by omega) (fs_n (by omega) rfl)))) (by omega))) hf_F1 (fun r j hj => (fs_n (by omega) (fs_n (by omega) (fs_n (by omega) (fs_n (by omega) (fs_n (by omega) rfl))))))) s152_ (fun r j hj => (fs_n (by omega) (fs_n (by omega) rfl)))), hps.2⟩) (by omega) (fun _ => by omega)) (fun _ _ h => False.elim h) ?_
            have b165_ : 0 ≤ F150_ 344 10 ∧ F150_ 344 10 ≤ 600 := gi_g g151_ rfl
            have b166_ : 0 ≤ F150_ 344 9 ∧ F150_ 344 9 ≤ 5 := gi_g g151_ rfl
            rintro A1_ (⟨F170_, hA_, g171_, s172_, c167_, c168_, c169_⟩ | ⟨F178_, hA_, g179_, s180_, c173_, c174_, c175_, c176_, c177_⟩)
            ·
              subst hA_
              have g181_ : fs [(344, 344, 5, 5), (344, 344, 9, 10), (344, 344, 63, 63), (357, 357, 0, 100000), (359, 363, 0, 100000)] F F170_ := fs_tr g159_ s172_ rfl
              have rk182_ : rk K F170_ := rk_fs rk160_ s172_ (fun r k h => (fs_n (by omega) (fs_n (by omega) (fs_n (by omega) (fs_n (by omega) (fs_n (by omega) rfl)))))) (fs_n (by omega) (fs_n (by omega) (fs_n (by omega) (fs_n (by omega) (fs_n (by omega) rfl)))))
              have c168_k := c168_.2 (by omega)
              clear c168_
              try obtain ⟨c2_, cm1_, cm2_⟩ := c168_k
              refine ga_inc (a := n) (c := n + 1) (lv2 := [(2, .int (Int32.ofInt (n + 1))), (3, .int (Int32.ofInt mo)), (0, .ref 344), (1, .int (Int32.ofInt a))]) hm_176 rfl rfl (Nat.le_of_ble_eq_true rfl) rfl rfl ?_
              refine ga_aload_n (v := .ref 344) hm_176 rfl rfl rfl ?_
              refine fl_bipush hm_176 rfl rfl ?_
              have b183_ : 0 ≤ F170_ 344 5 ∧ F170_ 344 5 ≤ 600 := gi_g g171_ rfl
              refine gVi (nY := 2) (F := 1) (L := 20) (As := [.int (Int32.ofInt 41)]) (b := 344) (rest := []) hm_176 rfl hm_52 rfl rfl (fl_ob sc_344) rfl rfl rfl rfl rfl (by omega) (by omega) (mc_52 hG F170_ X g171_ (K) (41) hgK rk182_ hkt (by omega) (by omega)) (fun _ _ h => False.elim h) ?_
              have b185_ : 0 ≤ F170_ 344 9 ∧ F170_ 344 9 ≤ 5 := gi_g g171_ rfl
              rintro z184_ A1_ (⟨hA_, hz_, c186_⟩ | ⟨hA_, hz_, c187_, c188_⟩)
              ·
                subst hA_
                subst hz_
                refine fl_if_ne hm_176 rfl ⟨by omega, by omega⟩ (fun h => absurd h (by omega)) (fun _ => ?_)
                refine fl_iconst hm_176 rfl ?_
                refine fl_goto hm_176 rfl ?_
                refine ga_istore_n (lv2 := [(3, .int (Int32.ofInt 1)), (2, .int (Int32.ofInt (n + 1))), (0, .ref 344), (1, .int (Int32.ofInt a))]) hm_176 rfl (Nat.le_of_ble_eq_true rfl) rfl ?_
                refine fl_goto hm_176 rfl ?_
                refine ga_iload_n (z := 1) hm_176 rfl rfl ?_
                refine fl_if_eq hm_176 rfl ⟨by omega, by omega⟩ (fun h => absurd h (by omega)) (fun _ => ?_)
                refine ga_aload_n (v := .ref 344) hm_176 rfl rfl rfl ?_
                refine gIi (nY := 1) (F := 0) (L := 0) (As := []) (b := 344) (rest := []) hm_176 rfl hm_59 rfl rfl (fl_ob sc_344) rfl rfl rfl rfl rfl (by omega) (by omega) ?_
                intro f189_ l190_ h191_ h192_
                show fl_R xi_ms 59 f189_ l190_ 0 [(0, .ref 344)] [] _ _
                refine ga_aload_n (v := .ref 344) hm_59 rfl rfl rfl ?_
                refine ga_geti (z := F170_ 344 9) hm_59 rfl sc_344 rfl (rfl) ?_
                refine fl_if_le (a := F170_ 344 9) hm_59 rfl ⟨by omega, by omega⟩ (fun h193_ => ?_) (fun h194_ => ?_)
                · exfalso; omega
                refine fl_iconst hm_59 rfl ?_
                refine fl_goto hm_59 rfl ?_
                refine gr_i hm_59 rfl rfl (ga_nb (by omega)) ?_
                clear h191_ h192_ f189_ l190_
                refine fl_if_ne hm_176 rfl ⟨by omega, by omega⟩ (fun _ => ?_) (fun h => absurd (by omega) h)
                refine ga_aload_n (v := .ref 344) hm_176 rfl rfl rfl ?_
                refine fl_bipush hm_176 rfl rfl ?_
                refine gVv (nY := 2) (F := 2) (L := 41) (As := [.int (Int32.ofInt 41)]) (b := 344) (rest := []) hm_176 rfl hm_51 rfl rfl (fl_ob sc_344) rfl rfl rfl rfl rfl (by omega) (by omega) (mc_51 hG F170_ X g171_ (K) (41) (1) hgK rk182_ hkt (by omega) (by omega) (by omega)) (fun _ _ h => False.elim h) ?_
                have b196_ : 0 ≤ F170_ 344 10 ∧ F170_ 344 10 ≤ 600 := gi_g g171_ rfl
                rintro A1_ (⟨F200_, hA_, g201_, s202_, c197_, c198_, c199_⟩ | ⟨F206_, hA_, g207_, s208_, c203_, c204_, c205_⟩)
                ·
                  subst hA_
                  have g209_ : fs [(344, 344, 5, 5), (344, 344, 9, 10), (344, 344, 63, 63), (357, 357, 0, 100000), (359, 363, 0, 100000)] F F200_ := fs_tr g181_ s202_ rfl
                  have rk210_ : rk K F200_ := rk_fs rk182_ s202_ (fun r k h => (fs_n (by omega) (fs_n (by omega) rfl))) (fs_n (by omega) (fs_n (by omega) rfl))
                  have c198_k := c198_.2 (by omega)
                  clear c198_
                  refine gr_v hm_176 rfl rfl ?_
                  have b211_ : 0 ≤ F200_ 344 9 ∧ F200_ 344 9 ≤ 5 := gi_g g201_ rfl
                  have b212_ : 0 ≤ F200_ 344 10 ∧ F200_ 344 10 ≤ 600 := gi_g g201_ rfl
                  have b213_ : 0 ≤ F200_ 344 5 ∧ F200_ 344 5 ≤ 600 := gi_g g201_ rfl
                  exact Or.inl ⟨F200_, rfl, g201_, g209_, (by omega), (⟨by intro h0_; have hs_ := c148_s; rw [sp_clause, hk0, pb_r, if_pos hand, hsk]; exact sm1_f hsp9 (sm1_f1 (by omega) (by omega) hs_) (by omega) (by omega), fun h0_ => by exfalso; omega⟩), (by omega)⟩
                exfalso; omega
              exfalso; omega
            exfalso; omega
          subst hA_
          have g214_ : fs [(344, 344, 5, 5), (344, 344, 9, 10), (344, 344, 63, 63), (357, 357, 0, 100000), (359, 363, 0, 100000)] F F156_ := fs_tr g106_ s158_ rfl
          have rk215_ : rk K F156_ := rk_fs rk107_ s158_ (fun r k h => (fs_n (by omega) (fs_n (by omega) rfl))) (fs_n (by omega) (fs_n (by omega) rfl))
          refine ga_aload_n (v := .ref 344) hm_176 rfl rfl rfl ?_
          refine ga_iload_n (z := a) hm_176 rfl rfl ?_
          have b216_ : 0 ≤ F156_ 344 5 ∧ F156_ 344 5 ≤ 600 := gi_g g157_ rfl
          have e217_ : F156_ 344 63 = F1 344 63 := (s158_ 344 63 rfl).trans (rfl)
          have e218_ : F156_ 359 a.toNat = F1 359 a.toNat := (s158_ 359 a.toNat (fs_n (by omega) (fs_n (by omega) rfl))).trans (rfl)
          refine gVv (nY := 4) (F := 5) (L := 117) (As := [.int (Int32.ofInt a)]) (b := 344) (rest := []) hm_176 rfl hm_181 rfl rfl (fl_ob sc_344) rfl rfl rfl rfl rfl (by omega) (by omega) (mc_181 hG F156_ X g157_ (K) (a) (k) (c) (l) (tl) (pl) (ps) hgK rk215_ hkt (by omega) (fun _ => ⟨(trm_fs (trm_fs (by rw [q97_]; exact (trm_u (trm_fs (by rw [q4_]; exact (trm_u ht (by omega))) s25_ (fun r j hj => (fs_n (by omega) (fs_n (by omega) rfl)))) (by omega))) hf_F1 (fun r j hj => (fs_n (by omega) (fs_n (by omega) (fs_n (by omega) (fs_n (by omega) (fs_n (by omega) rfl))))))) s158_ (fun r j hj => (fs_n (by omega) (fs_n (by omega) rfl)))), hlt⟩) (by omega) ((rpn_fs (rpn_fs (by rw [q97_]; exact (rpn_u (rpn_fs (by rw [q4_]; exact (rpn_u hpl (by omega) (by omega))) s25_ (fun _ => (fs_n (by omega) (fs_n (by omega) rfl))) (fs_n (by omega) (fs_n (by omega) rfl))) (by omega) (by omega))) hf_F1 (fun _ => (fs_n (by omega) (fs_n (by omega) (fs_n (by omega) (fs_n (by omega) (fs_n (by omega) rfl)))))) (fs_n (by omega) (fs_n (by omega) (fs_n (by omega) (fs_n (by omega) (fs_n (by omega) rfl)))))) s158_ (fun _ => (fs_n (by omega) (fs_n (by omega) rfl))) (fs_n (by omega) (fs_n (by omega) rfl)))) (⟨(rprd_fs (rprd_fs (by rw [q97_]; exact (rprd_u (rprd_fs (by rw [q4_]; exact (rprd_u hps.1 (by omega))) s25_ (fun r j hj => (fs_n (by omega) (fs_n (by omega) rfl)))) (by omega))) hf_F1 (fun r j hj => (fs_n (by omega) (fs_n (by omega) (fs_n (by omega) (fs_n (by omega) (fs_n (by omega) rfl))))))) s158_ (fun r j hj => (fs_n (by omega) (fs_n (by omega) rfl)))), hps.2⟩) (by omega) (fun _ => by omega)) (fun _ _ h => False.elim h) ?_
          have b220_ : 0 ≤ F156_ 344 10 ∧ F156_ 344 10 ≤ 600 := gi_g g157_ rfl
          have b221_ : 0 ≤ F156_ 344 9 ∧ F156_ 344 9 ≤ 5 := gi_g g157_ rfl
          rintro A1_ (⟨F225_, hA_, g226_, s227_, c222_, c223_, c224_⟩ | ⟨F233_, hA_, g234_, s235_, c228_, c229_, c230_, c231_, c232_⟩)
          ·
            subst hA_
            have g236_ : fs [(344, 344, 5, 5), (344, 344, 9, 10), (344, 344, 63, 63), (357, 357, 0, 100000), (359, 363, 0, 100000)] F F225_ := fs_tr g214_ s227_ rfl
            have rk237_ : rk K F225_ := rk_fs rk215_ s227_ (fun r k h => (fs_n (by omega) (fs_n (by omega) (fs_n (by omega) (fs_n (by omega) (fs_n (by omega) rfl)))))) (fs_n (by omega) (fs_n (by omega) (fs_n (by omega) (fs_n (by omega) (fs_n (by omega) rfl)))))
            have c223_s := c223_.1 (by omega)
            clear c223_
            try obtain ⟨c2_, cm1_, cm2_⟩ := c223_s
            refine ga_inc (a := n) (c := n + 1) (lv2 := [(2, .int (Int32.ofInt (n + 1))), (3, .int (Int32.ofInt mo)), (0, .ref 344), (1, .int (Int32.ofInt a))]) hm_176 rfl rfl (Nat.le_of_ble_eq_true rfl) rfl rfl ?_
            refine ga_aload_n (v := .ref 344) hm_176 rfl rfl rfl ?_
            refine fl_bipush hm_176 rfl rfl ?_
            have b238_ : 0 ≤ F225_ 344 5 ∧ F225_ 344 5 ≤ 600 := gi_g g226_ rfl
            refine gVi (nY := 2) (F := 1) (L := 20) (As := [.int (Int32.ofInt 41)]) (b := 344) (rest := []) hm_176 rfl hm_52 rfl rfl (fl_ob sc_344) rfl rfl rfl rfl rfl (by omega) (by omega) (mc_52 hG F225_ X g226_ (K) (41) hgK rk237_ hkt (by omega) (by omega)) (fun _ _ h => False.elim h) ?_
            have b240_ : 0 ≤ F225_ 344 9 ∧ F225_ 344 9 ≤ 5 := gi_g g226_ rfl
            rintro z239_ A1_ (⟨hA_, hz_, c241_⟩ | ⟨hA_, hz_, c242_, c243_⟩)
            ·
              subst hA_
              subst hz_
              refine fl_if_ne hm_176 rfl ⟨by omega, by omega⟩ (fun h => absurd h (by omega)) (fun _ => ?_)
              refine fl_iconst hm_176 rfl ?_
              refine fl_goto hm_176 rfl ?_
              refine ga_istore_n (lv2 := [(3, .int (Int32.ofInt 1)), (2, .int (Int32.ofInt (n + 1))), (0, .ref 344), (1, .int (Int32.ofInt a))]) hm_176 rfl (Nat.le_of_ble_eq_true rfl) rfl ?_
              refine fl_goto hm_176 rfl ?_
              refine ga_iload_n (z := 1) hm_176 rfl rfl ?_
              refine fl_if_eq hm_176 rfl ⟨by omega, by omega⟩ (fun h => absurd h (by omega)) (fun _ => ?_)
              refine ga_aload_n (v := .ref 344) hm_176 rfl rfl rfl ?_
              refine gIi (nY := 1) (F := 0) (L := 0) (As := []) (b := 344) (rest := []) hm_176 rfl hm_59 rfl rfl (fl_ob sc_344) rfl rfl rfl rfl rfl (by omega) (by omega) ?_
              intro f244_ l245_ h246_ h247_
              show fl_R xi_ms 59 f244_ l245_ 0 [(0, .ref 344)] [] _ _
              refine ga_aload_n (v := .ref 344) hm_59 rfl rfl rfl ?_
              refine ga_geti (z := F225_ 344 9) hm_59 rfl sc_344 rfl (rfl) ?_
              refine fl_if_le (a := F225_ 344 9) hm_59 rfl ⟨by omega, by omega⟩ (fun h248_ => ?_) (fun h249_ => ?_)
              · exfalso; omega
              refine fl_iconst hm_59 rfl ?_
              refine fl_goto hm_59 rfl ?_
              refine gr_i hm_59 rfl rfl (ga_nb (by omega)) ?_
              clear h246_ h247_ f244_ l245_
              refine fl_if_ne hm_176 rfl ⟨by omega, by omega⟩ (fun _ => ?_) (fun h => absurd (by omega) h)
              refine ga_aload_n (v := .ref 344) hm_176 rfl rfl rfl ?_
              refine fl_bipush hm_176 rfl rfl ?_
              refine gVv (nY := 2) (F := 2) (L := 41) (As := [.int (Int32.ofInt 41)]) (b := 344) (rest := []) hm_176 rfl hm_51 rfl rfl (fl_ob sc_344) rfl rfl rfl rfl rfl (by omega) (by omega) (mc_51 hG F225_ X g226_ (K) (41) (1) hgK rk237_ hkt (by omega) (by omega) (by omega)) (fun _ _ h => False.elim h) ?_
              have b251_ : 0 ≤ F225_ 344 10 ∧ F225_ 344 10 ≤ 600 := gi_g g226_ rfl
              rintro A1_ (⟨F255_, hA_, g256_, s257_, c252_, c253_, c254_⟩ | ⟨F261_, hA_, g262_, s263_, c258_, c259_, c260_⟩)
              ·
                subst hA_
                have g264_ : fs [(344, 344, 5, 5), (344, 344, 9, 10), (344, 344, 63, 63), (357, 357, 0, 100000), (359, 363, 0, 100000)] F F255_ := fs_tr g236_ s257_ rfl
                have rk265_ : rk K F255_ := rk_fs rk237_ s257_ (fun r k h => (fs_n (by omega) (fs_n (by omega) rfl))) (fs_n (by omega) (fs_n (by omega) rfl))
                have c253_k := c253_.2 (by omega)
                clear c253_
                refine gr_v hm_176 rfl rfl ?_
                have b266_ : 0 ≤ F255_ 344 9 ∧ F255_ 344 9 ≤ 5 := gi_g g256_ rfl
                have b267_ : 0 ≤ F255_ 344 10 ∧ F255_ 344 10 ≤ 600 := gi_g g256_ rfl
                have b268_ : 0 ≤ F255_ 344 5 ∧ F255_ 344 5 ≤ 600 := gi_g g256_ rfl
                exact Or.inl ⟨F255_, rfl, g256_, g264_, (by omega), (⟨by intro h0_; have hs_ := c223_s; rw [sp_clause, hk0, pb_r, if_pos hand, hsk]; exact sm1_f hsp9 (sm1_flE (by omega) (by omega) c154_ hs_) (by omega) (by omega), fun h0_ => by exfalso; omega⟩), (by omega)⟩
              exfalso; omega
            exfalso; omega
          subst hA_
          have g269_ : fs [(344, 344, 5, 5), (344, 344, 9, 10), (344, 344, 63, 63), (357, 357, 0, 100000), (359, 363, 0, 100000)] F F233_ := fs_tr g214_ s235_ rfl
          have rk270_ : rk K F233_ := rk_fs rk215_ s235_ (fun r k h => (fs_n (by omega) (fs_n (by omega) (fs_n (by omega) (fs_n (by omega) (fs_n (by omega) rfl)))))) (fs_n (by omega) (fs_n (by omega) (fs_n (by omega) (fs_n (by omega) (fs_n (by omega) rfl)))))
          try simp only [e218_] at c231_
          try obtain ⟨c2_, cm1_, cm2_⟩ := c229_
          refine ga_inc (a := n) (c := n + 1) (lv2 := [(2, .int (Int32.ofInt (n + 1))), (3, .int (Int32.ofInt mo)), (0, .ref 344), (1, .int (Int32.ofInt a))]) hm_176 rfl rfl (Nat.le_of_ble_eq_true rfl) rfl rfl ?_
          refine ga_aload_n (v := .ref 344) hm_176 rfl rfl rfl ?_
          refine fl_bipush hm_176 rfl rfl ?_
          have b271_ : 0 ≤ F233_ 344 5 ∧ F233_ 344 5 ≤ 600 := gi_g g234_ rfl
          refine gVi (nY := 2) (F := 1) (L := 20) (As := [.int (Int32.ofInt 41)]) (b := 344) (rest := []) hm_176 rfl hm_52 rfl rfl (fl_ob sc_344) rfl rfl rfl rfl rfl (by omega) (by omega) (mc_52 hG F233_ X g234_ (K) (41) hgK rk270_ hkt (by omega) (by omega)) (fun _ _ h => False.elim h) ?_
          have b273_ : 0 ≤ F233_ 344 9 ∧ F233_ 344 9 ≤ 5 := gi_g g234_ rfl
          rintro z272_ A1_ (⟨hA_, hz_, c274_⟩ | ⟨hA_, hz_, c275_, c276_⟩)
          ·
            subst hA_
            subst hz_
            refine fl_if_ne hm_176 rfl ⟨by omega, by omega⟩ (fun h => absurd h (by omega)) (fun _ => ?_)
            refine fl_iconst hm_176 rfl ?_
            refine fl_goto hm_176 rfl ?_
            refine ga_istore_n (lv2 := [(3, .int (Int32.ofInt 1)), (2, .int (Int32.ofInt (n + 1))), (0, .ref 344), (1, .int (Int32.ofInt a))]) hm_176 rfl (Nat.le_of_ble_eq_true rfl) rfl ?_
            refine fl_goto hm_176 rfl ?_
            have b277_ : 0 ≤ F233_ 344 63 ∧ F233_ 344 63 ≤ 1 := gi_g g234_ rfl
            have b278_ : 0 ≤ F1 344 63 ∧ F1 344 63 ≤ 1 := gi_g hg_F1 rfl
            have b279_ : 0 ≤ K 1 6 ∧ K 1 6 ≤ 601 := gi_g hgK rfl
            exact ih103_ _ (by omega) (n + 1) (1) (c2_) F233_ rfl g234_ (fs_tr (fs_tr hf_F1 s158_ rfl) s235_ rfl) (by omega) (by omega) (by omega) (Or.inl ⟨rfl, Or.inr (by omega)⟩) (by omega) (cst_tr (cst_fs hcs s158_ (fun _ => (fs_n (by omega) (fs_n (by omega) rfl)))) c232_) (by rw [hsp, sm1_stepE (by omega) (by omega) c154_ cm1_, decide_eq_false (show ¬ n + 1 = 0 by omega)])
          subst hA_
          subst hz_
          refine fl_if_ne hm_176 rfl ⟨by omega, by omega⟩ (fun _ => ?_) (fun h => absurd (by omega) h)
          refine fl_iconst hm_176 rfl ?_
          refine ga_istore_n (lv2 := [(3, .int (Int32.ofInt 0)), (2, .int (Int32.ofInt (n + 1))), (0, .ref 344), (1, .int (Int32.ofInt a))]) hm_176 rfl (Nat.le_of_ble_eq_true rfl) rfl ?_
          refine fl_goto hm_176 rfl ?_
          have b280_ : 0 ≤ F233_ 344 63 ∧ F233_ 344 63 ≤ 1 := gi_g g234_ rfl
          have b281_ : 0 ≤ F1 344 63 ∧ F1 344 63 ≤ 1 := gi_g hg_F1 rfl
          have b282_ : 0 ≤ K 1 6 ∧ K 1 6 ≤ 601 := gi_g hgK rfl
          exact ih103_ _ (by omega) (n + 1) (0) (c2_) F233_ rfl g234_ (fs_tr (fs_tr hf_F1 s158_ rfl) s235_ rfl) (by omega) (by omega) (by omega) (Or.inr ⟨rfl, by omega, by omega⟩) (by omega) (cst_tr (cst_fs hcs s158_ (fun _ => (fs_n (by omega) (fs_n (by omega) rfl)))) c232_) (by rw [hsp, sm1_stepE (by omega) (by omega) c154_ cm1_, decide_eq_false (show ¬ n + 1 = 0 by omega)])
        refine ga_aload_n (v := .ref 344) hm_176 rfl rfl rfl ?_
        refine fl_iconst hm_176 rfl ?_
        have b283_ : 0 ≤ F1 344 5 ∧ F1 344 5 ≤ 600 := gi_g hg_F1 rfl
        refine gVv (nY := 2) (F := 0) (L := 0) (As := [.int (Int32.ofInt 1)]) (b := 344) (rest := []) hm_176 rfl hm_54 rfl rfl (fl_ob sc_344) rfl rfl rfl rfl rfl (by omega) (by omega) (mc_54 hG F1 X hg_F1 (K) (1) hgK rk107_ hkt (by omega) (by omega)) (fun _ _ h => False.elim h) ?_
        have b285_ : 0 ≤ F1 344 10 ∧ F1 344 10 ≤ 600 := gi_g hg_F1 rfl
        rintro A1_ ⟨F289_, hA_, g290_, s291_, c286_, c287_, c288_⟩
        subst hA_
        have g292_ : fs [(344, 344, 5, 5), (344, 344, 9, 10), (344, 344, 63, 63), (357, 357, 0, 100000), (359, 363, 0, 100000)] F F289_ := fs_tr g106_ s291_ rfl
        have rk293_ : rk K F289_ := rk_fs rk107_ s291_ (fun r k h => (fs_n (by omega) rfl)) (fs_n (by omega) rfl)
        have c287_s := c287_.1 (by omega)
        clear c287_
        refine ga_aload_n (v := .ref 344) hm_176 rfl rfl rfl ?_
        refine fl_bipush hm_176 rfl rfl ?_
        have e294_ : F289_ 344 5 = F1 344 5 := (s291_ 344 5 rfl).trans (rfl)
        refine gVv (nY := 2) (F := 2) (L := 41) (As := [.int (Int32.ofInt 40)]) (b := 344) (rest := []) hm_176 rfl hm_51 rfl rfl (fl_ob sc_344) rfl rfl rfl rfl rfl (by omega) (by omega) (mc_51 hG F289_ X g290_ (K) (40) (0) hgK rk293_ hkt (by omega) (by omega) (by omega)) (fun _ _ h => False.elim h) ?_
        have b296_ : 0 ≤ F289_ 344 10 ∧ F289_ 344 10 ≤ 600 := gi_g g290_ rfl
        have b297_ : 0 ≤ F289_ 344 9 ∧ F289_ 344 9 ≤ 5 := gi_g g290_ rfl
        rintro A1_ (⟨F301_, hA_, g302_, s303_, c298_, c299_, c300_⟩ | ⟨F307_, hA_, g308_, s309_, c304_, c305_, c306_⟩)
        ·
          subst hA_
          have g310_ : fs [(344, 344, 5, 5), (344, 344, 9, 10), (344, 344, 63, 63), (357, 357, 0, 100000), (359, 363, 0, 100000)] F F301_ := fs_tr g292_ s303_ rfl
          have rk311_ : rk K F301_ := rk_fs rk293_ s303_ (fun r k h => (fs_n (by omega) (fs_n (by omega) rfl))) (fs_n (by omega) (fs_n (by omega) rfl))
          try simp only [e294_] at c299_
          have c299_k := c299_.2 (by omega)
          clear c299_
          refine ga_aload_n (v := .ref 344) hm_176 rfl rfl rfl ?_
          refine ga_iload_n (z := a) hm_176 rfl rfl ?_
          have b312_ : 0 ≤ F301_ 344 5 ∧ F301_ 344 5 ≤ 600 := gi_g g302_ rfl
          have e313_ : F289_ 344 63 = F1 344 63 := (s291_ 344 63 rfl).trans (rfl)
          have e314_ : F301_ 344 63 = F1 344 63 := (s303_ 344 63 rfl).trans (e313_)
          have e315_ : F289_ 359 a.toNat = F1 359 a.toNat := (s291_ 359 a.toNat (fs_n (by omega) rfl)).trans (rfl)
          have e316_ : F301_ 359 a.toNat = F1 359 a.toNat := (s303_ 359 a.toNat (fs_n (by omega) (fs_n (by omega) rfl))).trans (e315_)
          refine gVv (nY := 4) (F := 5) (L := 117) (As := [.int (Int32.ofInt a)]) (b := 344) (rest := []) hm_176 rfl hm_181 rfl rfl (fl_ob sc_344) rfl rfl rfl rfl rfl (by omega) (by omega) (mc_181 hG F301_ X g302_ (K) (a) (k) (c) (l) (tl) (pl) (ps) hgK rk311_ hkt (by omega) (fun h9_ => absurd h9_ (by omega)) (by omega) ((rpn_fs (rpn_fs (rpn_fs (by rw [q97_]; exact (rpn_u (rpn_fs (by rw [q4_]; exact (rpn_u hpl (by omega) (by omega))) s25_ (fun _ => (fs_n (by omega) (fs_n (by omega) rfl))) (fs_n (by omega) (fs_n (by omega) rfl))) (by omega) (by omega))) hf_F1 (fun _ => (fs_n (by omega) (fs_n (by omega) (fs_n (by omega) (fs_n (by omega) (fs_n (by omega) rfl)))))) (fs_n (by omega) (fs_n (by omega) (fs_n (by omega) (fs_n (by omega) (fs_n (by omega) rfl)))))) s291_ (fun _ => (fs_n (by omega) rfl)) (fs_n (by omega) rfl)) s303_ (fun _ => (fs_n (by omega) (fs_n (by omega) rfl))) (fs_n (by omega) (fs_n (by omega) rfl)))) (⟨(rprd_fs (rprd_fs (rprd_fs (by rw [q97_]; exact (rprd_u (rprd_fs (by rw [q4_]; exact (rprd_u hps.1 (by omega))) s25_ (fun r j hj => (fs_n (by omega) (fs_n (by omega) rfl)))) (by omega))) hf_F1 (fun r j hj => (fs_n (by omega) (fs_n (by omega) (fs_n (by omega) (fs_n (by omega) (fs_n (by omega) rfl))))))) s291_ (fun r j hj => (fs_n (by omega) rfl))) s303_ (fun r j hj => (fs_n (by omega) (fs_n (by omega) rfl)))), hps.2⟩) (by omega) (fun _ => by omega)) (fun _ _ h => False.elim h) ?_
          have b318_ : 0 ≤ F301_ 344 10 ∧ F301_ 344 10 ≤ 600 := gi_g g302_ rfl
          have b319_ : 0 ≤ F301_ 344 9 ∧ F301_ 344 9 ≤ 5 := gi_g g302_ rfl
          rintro A1_ (⟨F323_, hA_, g324_, s325_, c320_, c321_, c322_⟩ | ⟨F331_, hA_, g332_, s333_, c326_, c327_, c328_, c329_, c330_⟩)
          ·
            subst hA_
            have g334_ : fs [(344, 344, 5, 5), (344, 344, 9, 10), (344, 344, 63, 63), (357, 357, 0, 100000), (359, 363, 0, 100000)] F F323_ := fs_tr g310_ s325_ rfl
            have rk335_ : rk K F323_ := rk_fs rk311_ s325_ (fun r k h => (fs_n (by omega) (fs_n (by omega) (fs_n (by omega) (fs_n (by omega) (fs_n (by omega) rfl)))))) (fs_n (by omega) (fs_n (by omega) (fs_n (by omega) (fs_n (by omega) (fs_n (by omega) rfl)))))
            have c321_k := c321_.2 (by omega)
            clear c321_
            try obtain ⟨c2_, cm1_, cm2_⟩ := c321_k
            refine ga_inc (a := n) (c := n + 1) (lv2 := [(2, .int (Int32.ofInt (n + 1))), (3, .int (Int32.ofInt mo)), (0, .ref 344), (1, .int (Int32.ofInt a))]) hm_176 rfl rfl (Nat.le_of_ble_eq_true rfl) rfl rfl ?_
            refine ga_aload_n (v := .ref 344) hm_176 rfl rfl rfl ?_
            refine fl_bipush hm_176 rfl rfl ?_
            have b336_ : 0 ≤ F323_ 344 5 ∧ F323_ 344 5 ≤ 600 := gi_g g324_ rfl
            refine gVi (nY := 2) (F := 1) (L := 20) (As := [.int (Int32.ofInt 41)]) (b := 344) (rest := []) hm_176 rfl hm_52 rfl rfl (fl_ob sc_344) rfl rfl rfl rfl rfl (by omega) (by omega) (mc_52 hG F323_ X g324_ (K) (41) hgK rk335_ hkt (by omega) (by omega)) (fun _ _ h => False.elim h) ?_
            have b338_ : 0 ≤ F323_ 344 9 ∧ F323_ 344 9 ≤ 5 := gi_g g324_ rfl
            rintro z337_ A1_ (⟨hA_, hz_, c339_⟩ | ⟨hA_, hz_, c340_, c341_⟩)
            ·
              subst hA_
              subst hz_
              refine fl_if_ne hm_176 rfl ⟨by omega, by omega⟩ (fun h => absurd h (by omega)) (fun _ => ?_)
              refine fl_iconst hm_176 rfl ?_
              refine fl_goto hm_176 rfl ?_
              refine ga_istore_n (lv2 := [(3, .int (Int32.ofInt 1)), (2, .int (Int32.ofInt (n + 1))), (0, .ref 344), (1, .int (Int32.ofInt a))]) hm_176 rfl (Nat.le_of_ble_eq_true rfl) rfl ?_
              refine fl_goto hm_176 rfl ?_
              refine ga_iload_n (z := 1) hm_176 rfl rfl ?_
              refine fl_if_eq hm_176 rfl ⟨by omega, by omega⟩ (fun h => absurd h (by omega)) (fun _ => ?_)
              refine ga_aload_n (v := .ref 344) hm_176 rfl rfl rfl ?_
              refine gIi (nY := 1) (F := 0) (L := 0) (As := []) (b := 344) (rest := []) hm_176 rfl hm_59 rfl rfl (fl_ob sc_344) rfl rfl rfl rfl rfl (by omega) (by omega) ?_
              intro f342_ l343_ h344_ h345_
              show fl_R xi_ms 59 f342_ l343_ 0 [(0, .ref 344)] [] _ _
              refine ga_aload_n (v := .ref 344) hm_59 rfl rfl rfl ?_
              refine ga_geti (z := F323_ 344 9) hm_59 rfl sc_344 rfl (rfl) ?_
              refine fl_if_le (a := F323_ 344 9) hm_59 rfl ⟨by omega, by omega⟩ (fun h346_ => ?_) (fun h347_ => ?_)
              · exfalso; omega
              refine fl_iconst hm_59 rfl ?_
              refine fl_goto hm_59 rfl ?_
              refine gr_i hm_59 rfl rfl (ga_nb (by omega)) ?_
              clear h344_ h345_ f342_ l343_
              refine fl_if_ne hm_176 rfl ⟨by omega, by omega⟩ (fun _ => ?_) (fun h => absurd (by omega) h)
              refine ga_aload_n (v := .ref 344) hm_176 rfl rfl rfl ?_
              refine fl_bipush hm_176 rfl rfl ?_
              refine gVv (nY := 2) (F := 2) (L := 41) (As := [.int (Int32.ofInt 41)]) (b := 344) (rest := []) hm_176 rfl hm_51 rfl rfl (fl_ob sc_344) rfl rfl rfl rfl rfl (by omega) (by omega) (mc_51 hG F323_ X g324_ (K) (41) (1) hgK rk335_ hkt (by omega) (by omega) (by omega)) (fun _ _ h => False.elim h) ?_
              have b349_ : 0 ≤ F323_ 344 10 ∧ F323_ 344 10 ≤ 600 := gi_g g324_ rfl
              rintro A1_ (⟨F353_, hA_, g354_, s355_, c350_, c351_, c352_⟩ | ⟨F359_, hA_, g360_, s361_, c356_, c357_, c358_⟩)
              ·
                subst hA_
                have g362_ : fs [(344, 344, 5, 5), (344, 344, 9, 10), (344, 344, 63, 63), (357, 357, 0, 100000), (359, 363, 0, 100000)] F F353_ := fs_tr g334_ s355_ rfl
                have rk363_ : rk K F353_ := rk_fs rk335_ s355_ (fun r k h => (fs_n (by omega) (fs_n (by omega) rfl))) (fs_n (by omega) (fs_n (by omega) rfl))
                have c351_k := c351_.2 (by omega)
                clear c351_
                refine gr_v hm_176 rfl rfl ?_
                have b364_ : 0 ≤ F353_ 344 9 ∧ F353_ 344 9 ≤ 5 := gi_g g354_ rfl
                have b365_ : 0 ≤ F353_ 344 10 ∧ F353_ 344 10 ≤ 600 := gi_g g354_ rfl
                have b366_ : 0 ≤ F353_ 344 5 ∧ F353_ 344 5 ≤ 600 := gi_g g354_ rfl
                exact Or.inl ⟨F353_, rfl, g354_, g362_, (by omega), (⟨by intro h0_; have hs_ := c287_s; rw [sp_clause, hk0, pb_r, if_pos hand, hsk]; exact sm1_f hsp9 (sm1_f4 (by omega) (by omega)) (by omega) (by omega), fun h0_ => by exfalso; omega⟩), (by omega)⟩
              exfalso; omega
            exfalso; omega
          exfalso; omega
        exfalso; omega
      exfalso; omega
    have e367_ : F96_ 344 9 = F23_ 344 9 := by rw [q97_]; exact fl_u_ne (by omega)
    have e368_ : F3_ 344 63 = 0 := by rw [q4_]; exact fl_u_eq
    have e369_ : F23_ 344 63 = 0 := (s25_ 344 63 rfl).trans (e368_)
    have e370_ : F96_ 344 63 = 0 := by rw [q97_]; exact (fl_u_ne (by omega)).trans (e369_)
    have b371_ : 0 ≤ K 1 6 ∧ K 1 6 ≤ 601 := gi_g hgK rfl
    have e372_ : F3_ 359 a.toNat = F 359 a.toNat := by rw [q4_]; exact fl_u_ne (by omega)
    have e373_ : F23_ 359 a.toNat = F 359 a.toNat := (s25_ 359 a.toNat (fs_n (by omega) (fs_n (by omega) rfl))).trans (e372_)
    have e374_ : F96_ 359 a.toNat = F 359 a.toNat := by rw [q97_]; exact (fl_u_ne (by omega)).trans (e373_)
    exact L102_ _ (0) (1) (0) F96_ rfl g98_ fs_refl (by omega) (by omega) (Or.inl ⟨by omega, rfl⟩) (Or.inl ⟨rfl, Or.inl rfl⟩) (by omega) (by rw [q97_]; exact (cst_u (cst_fs (by rw [q4_]; exact (cst_u cst_r (by decide))) s25_ (fun _ => (fs_n (by omega) (fs_n (by omega) rfl)))) (by decide))) (rfl)
  refine ga_aload_n (v := .ref 344) hm_176 rfl rfl rfl ?_
  refine fl_iconst hm_176 rfl ?_
  refine ga_putz (z := 0) hm_176 rfl sc_344 rfl rfl (by omega) ?_
  
  refine ga_aload_n (v := .ref 344) hm_176 rfl rfl rfl ?_
  refine fl_bipush hm_176 rfl rfl ?_
  obtain ⟨F375_, q376_⟩ : ∃ F9_, F9_ = (fl_u F 344 63 0) := ⟨_, rfl⟩
  rw [← q376_]
  have g377_ : gi F375_ := by rw [q376_]; exact gi_u (hgi) rfl (by omega) (by omega)
  have g378_ : fs [(344, 344, 5, 5), (344, 344, 9, 10), (344, 344, 63, 63), (357, 357, 0, 100000), (359, 363, 0, 100000)] F F375_ := by rw [q376_]; exact fs_u (fs_refl) rfl
  have rk379_ : rk K F375_ := by rw [q376_]; exact rk_u (hrk) (by omega) (by omega)
  have e380_ : F375_ 344 5 = F 344 5 := by rw [q376_]; exact fl_u_ne (by omega)
  have b381_ : 0 ≤ F 344 5 ∧ F 344 5 ≤ 600 := gi_g hgi rfl
  refine gVv (nY := 2) (F := 2) (L := 41) (As := [.int (Int32.ofInt 40)]) (b := 344) (rest := []) hm_176 rfl hm_51 rfl rfl (fl_ob sc_344) rfl rfl rfl rfl rfl (by omega) (by omega) (mc_51 hG F375_ X g377_ (K) (40) (0) hgK rk379_ hkt (by omega) (by omega) (by omega)) (fun _ _ h => False.elim h) ?_
  have e383_ : F375_ 344 10 = F 344 10 := by rw [q376_]; exact fl_u_ne (by omega)
  have b384_ : 0 ≤ F 344 10 ∧ F 344 10 ≤ 600 := gi_g hgi rfl
  have e385_ : F375_ 344 9 = F 344 9 := by rw [q376_]; exact fl_u_ne (by omega)
  rintro A1_ (⟨F389_, hA_, g390_, s391_, c386_, c387_, c388_⟩ | ⟨F395_, hA_, g396_, s397_, c392_, c393_, c394_⟩)
  ·
    subst hA_
    have g398_ : fs [(344, 344, 5, 5), (344, 344, 9, 10), (344, 344, 63, 63), (357, 357, 0, 100000), (359, 363, 0, 100000)] F F389_ := fs_tr g378_ s391_ rfl
    have rk399_ : rk K F389_ := rk_fs rk379_ s391_ (fun r k h => (fs_n (by omega) (fs_n (by omega) rfl))) (fs_n (by omega) (fs_n (by omega) rfl))
    try simp only [e380_, e383_, e385_] at c387_
    have c387_k := c387_.2 (by omega)
    clear c387_
    refine ga_aload_n (v := .ref 344) hm_176 rfl rfl rfl ?_
    refine fl_bipush hm_176 rfl rfl ?_
    have b400_ : 0 ≤ F389_ 344 5 ∧ F389_ 344 5 ≤ 600 := gi_g g390_ rfl
    refine gVi (nY := 4) (F := 1) (L := 21) (As := [.int (Int32.ofInt 8)]) (b := 344) (rest := []) hm_176 rfl hm_56 rfl rfl (fl_ob sc_344) rfl rfl rfl rfl rfl (by omega) (by omega) (mc_56 hG F389_ X g390_ (K) (8) ([97, 110, 100]) hgK rk399_ hkt (by omega) (by omega) (by decide) (kw_8 rk399_)) (fun _ _ h => False.elim h) ?_
    have b402_ : 0 ≤ F389_ 344 9 ∧ F389_ 344 9 ≤ 5 := gi_g g390_ rfl
    rintro z401_ A1_ (⟨hA_, hz_, c403_⟩ | ⟨hA_, hz_, c404_, c405_⟩)
    ·
      subst hA_
      subst hz_
      refine fl_if_ne hm_176 rfl ⟨by omega, by omega⟩ (fun h => absurd h (by omega)) (fun _ => ?_)
      refine ga_aload_n (v := .ref 344) hm_176 rfl rfl rfl ?_
      refine ga_iload_n (z := a) hm_176 rfl rfl ?_
      have e406_ : F375_ 344 63 = 0 := by rw [q376_]; exact fl_u_eq
      have e407_ : F389_ 344 63 = 0 := (s391_ 344 63 rfl).trans (e406_)
      have e408_ : F375_ 359 a.toNat = F 359 a.toNat := by rw [q376_]; exact fl_u_ne (by omega)
      have e409_ : F389_ 359 a.toNat = F 359 a.toNat := (s391_ 359 a.toNat (fs_n (by omega) (fs_n (by omega) rfl))).trans (e408_)
      refine gVv (nY := 4) (F := 5) (L := 117) (As := [.int (Int32.ofInt a)]) (b := 344) (rest := []) hm_176 rfl hm_181 rfl rfl (fl_ob sc_344) rfl rfl rfl rfl rfl (by omega) (by omega) (mc_181 hG F389_ X g390_ (K) (a) (k) (0) (l) (tl) (pl) (ps) hgK rk399_ hkt (by omega) (fun h9_ => absurd h9_ (by omega)) (by omega) ((rpn_fs (by rw [q376_]; exact (rpn_u hpl (by omega) (by omega))) s391_ (fun _ => (fs_n (by omega) (fs_n (by omega) rfl))) (fs_n (by omega) (fs_n (by omega) rfl)))) (⟨(rprd_fs (by rw [q376_]; exact (rprd_u hps.1 (by omega))) s391_ (fun r j hj => (fs_n (by omega) (fs_n (by omega) rfl)))), hps.2⟩) (Or.inl ⟨by omega, rfl⟩) (fun _ => by omega)) (fun _ _ h => False.elim h) ?_
      have b411_ : 0 ≤ F389_ 344 10 ∧ F389_ 344 10 ≤ 600 := gi_g g390_ rfl
      rintro A1_ (⟨F415_, hA_, g416_, s417_, c412_, c413_, c414_⟩ | ⟨F423_, hA_, g424_, s425_, c418_, c419_, c420_, c421_, c422_⟩)
      ·
        subst hA_
        have g426_ : fs [(344, 344, 5, 5), (344, 344, 9, 10), (344, 344, 63, 63), (357, 357, 0, 100000), (359, 363, 0, 100000)] F F415_ := fs_tr g398_ s417_ rfl
        have rk427_ : rk K F415_ := rk_fs rk399_ s417_ (fun r k h => (fs_n (by omega) (fs_n (by omega) (fs_n (by omega) (fs_n (by omega) (fs_n (by omega) rfl)))))) (fs_n (by omega) (fs_n (by omega) (fs_n (by omega) (fs_n (by omega) (fs_n (by omega) rfl)))))
        have c413_k := c413_.2 (by omega)
        clear c413_
        try obtain ⟨c2_, cm1_, cm2_⟩ := c413_k
        refine gr_v hm_176 rfl rfl ?_
        have b428_ : 0 ≤ F415_ 344 9 ∧ F415_ 344 9 ≤ 5 := gi_g g416_ rfl
        have b429_ : 0 ≤ F415_ 344 10 ∧ F415_ 344 10 ≤ 600 := gi_g g416_ rfl
        have b430_ : 0 ≤ F415_ 344 5 ∧ F415_ 344 5 ≤ 600 := gi_g g416_ rfl
        exact Or.inl ⟨F415_, rfl, g416_, g426_, (by omega), (⟨fun h0_ => by exfalso; omega, fun h0_ => by constructor <;> omega⟩), (by omega)⟩
      exfalso; omega
    exfalso; omega
  exfalso; omega

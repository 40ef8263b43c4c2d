def sp_m1 (K : fl_N) (e : Bool) (k : Int) (l tl pl : List Int) (ps : List (List Int)) (m : Nat) (b : Bool) (c p : Int) : PR (Int × Int) := pb (sp_mems K e k l tl pl ps m b c p) (fun q => if K 3 q.1.toNat = 1 then .inr q else pf K q.1 1)
section SM
variable {K : fl_N} {e : Bool} {k : Int} {l tl pl : List Int} {ps : List (List Int)} {i c p : Int}
theorem sm1_e {m : Nat} (h : 0 < i) (hk : K 3 p.toNat = 1) : sp_m1 K e k l tl pl ps m (decide (i = 0)) c p = .inr (p, c) := by
  rw [sp_m1, spm_e (by omega) (by omega), pb_r, if_pos hk]
theorem sm1_u (h : i < 4) (hk : i = 0 ∨ K 3 p.toNat = 0) : sp_m1 K e k l tl pl ps (4 - i).toNat (decide (i = 0)) c p = pb (pb (sp_kind K 0 p) fun p => pb (sp_mem K e k l tl pl ps c p) fun q => sp_mems K e k l tl pl ps (4 - (i + 1)).toNat false q.2 q.1) (fun q => if K 3 q.1.toNat = 1 then .inr q else pf K q.1 1) := by
  rw [sp_m1, spm_step h hk]
theorem sm1_step {p2 p3 : Int} (h : 0 ≤ i ∧ i < 4) (hk : i = 0 ∨ ¬ K 3 p.toNat = 1) (h1 : sp_kind K 0 p = .inr p2) (h2 : sp_lit K k l tl pl ps p2 = .inr p3) : sp_m1 K false k l tl pl ps (4 - i).toNat (decide (i = 0)) c p = sp_m1 K false k l tl pl ps (4 - (i + 1)).toNat false c p3 := by
  have h3 : K 3 p.toNat = 0 := by
    unfold sp_kind at h1
    split at h1
    · assumption
    · cases h1
  rw [sm1_u h.2 (Or.inr h3), h1, pb_r, sp_mem_lit, h2, pb_r, pb_r]
  rfl
theorem sm1_f4 (h : i = 4) (hk : ¬ K 3 p.toNat = 1) : sp_m1 K e k l tl pl ps (4 - i).toNat (decide (i = 0)) c p = .inl (1, K 4 p.toNat) := by
  rw [sp_m1, spm_z (by omega), pb_r, if_neg hk]
  rfl
theorem sm1_f1 {x : Int × Int} (h : 0 ≤ i ∧ i ≤ 4) (hk : i = 0 ∨ ¬ K 3 p.toNat = 1) (h1 : sp_kind K 0 p = .inl x) : sp_m1 K e k l tl pl ps (4 - i).toNat (decide (i = 0)) c p = .inl x := by
  have h3 : ¬ K 3 p.toNat = 0 := fun h4 => by
    rw [sp_kind, if_pos h4] at h1
    cases h1
  have h5 : x = (1, K 4 p.toNat) := by
    rw [sp_kind, if_neg h3] at h1
    exact (Sum.inl.inj h1).symm
  by_cases e0 : i = 0
  · rw [sm1_u (by omega) (Or.inl e0), h1]
    rfl
  · rw [sp_m1, spm_e e0 h3]
    show (if K 3 p.toNat = 1 then _ else _) = _
    rw [if_neg (by omega), h5]
    rfl
theorem sm1_fl {x : Int × Int} {p2 : Int} (h : 0 ≤ i ∧ i < 4) (hk : i = 0 ∨ ¬ K 3 p.toNat = 1) (h1 : sp_kind K 0 p = .inr p2) (h2 : sp_lit K k l tl pl ps p2 = .inl x) : sp_m1 K false k l tl pl ps (4 - i).toNat (decide (i = 0)) c p = .inl x := by
  have h3 : K 3 p.toNat = 0 := by
    unfold sp_kind at h1
    split at h1
    · assumption
    · cases h1
  rw [sm1_u h.2 (Or.inr h3), h1, pb_r, sp_mem_lit, h2]
  rfl
theorem sm1_ok {m : Nat} {b : Bool} {q : Int × Int} (h : sp_m1 K e k l tl pl ps m b c p = .inr q) : sp_mems K e k l tl pl ps m b c p = .inr q := by
  unfold sp_m1 at h
  obtain ⟨a, h1, h2⟩ := pb_ok h
  split at h2
  · rw [h1, Sum.inr.inj h2]
  · cases h2
theorem sm1_f {m : Nat} {b : Bool} {y z : Int} {x : Int × Int} {r : PR (Int × Int)} (h0 : sp_m1 K e k l tl pl ps m b c p = r) (h : r = .inl x) (h1 : x.1 = y) (h2 : x.2 = z) : pb (sp_mems K e k l tl pl ps m b c p) (fun q => pb (sp_kind K 1 q.1) (fun p => .inr (p, q.2))) = (.inl (y, z) : PR (Int × Int)) := by
  rw [h] at h0
  unfold sp_m1 at h0
  cases hx : sp_mems K e k l tl pl ps m b c p with
  | inl e2 =>
    rw [hx] at h0
    have h9 : e2 = x := Sum.inl.inj h0
    rw [h9, pb_l, ← h1, ← h2]
  | inr a =>
    rw [hx, pb_r] at h0
    split at h0
    · cases h0
    · rename_i hk
      rw [pb_r, sp_kind, if_neg hk]
      have h9 : (1, K 4 a.1.toNat) = x := Sum.inl.inj h0
      show Sum.inl (1, K 4 _) = _
      rw [h9, ← h1, ← h2]
end SM

/- CheapPlannerModel.readCondition -/
abbrev pq_175 (G : Nat → Nat → Option Nat) (F : fl_N) (X : xi_H) (K : fl_N) (a at_ k : Int) (l tl pl : List Int) (ps : List (List Int)) : Outcome → xi_H → Prop := gqv (fun A => (∃ F' : fl_N, fl_H sh_T G F' ++ X = A ∧ gi F' ∧ fs [(344, 344, 5, 5), (344, 344, 9, 10), (358, 358, 0, 100000), (360, 363, 0, 100000)] F F' ∧ (¬ F' 344 9 = 0) ∧ ((F 344 9 = 0 → sp_clause K false k l tl pl ps (F 344 5) = .inl (F' 344 9, F' 344 10)) ∧ (¬ F 344 9 = 0 → F' 344 9 = F 344 9 ∧ F' 344 10 = F 344 10)) ∧ (0 ≤ F' 344 5 ∧ F' 344 5 ≤ K 1 6 - 1)) ∨ (∃ F' : fl_N, fl_H sh_T G F' ++ X = A ∧ gi F' ∧ fs [(344, 344, 5, 5), (344, 344, 9, 10), (358, 358, 0, 100000), (360, 363, 0, 100000)] F F' ∧ (F' 344 9 = 0 ∧ F 344 9 = 0) ∧ (sp_clause K false k l tl pl ps (F 344 5) = .inr (F' 344 5, 0)) ∧ (0 ≤ F' 344 5 ∧ F' 344 5 ≤ K 1 6 - 1))) gqn
set_option maxHeartbeats 16000000 in
theorem mc_175 {G : Nat → Nat → Option Nat} (hG : gg G) (F : fl_N) (X : xi_H) (hgi : gi F) (K : fl_N) (a at_ k : Int) (l tl pl : List Int) (ps : List (List Int)) (hgK : gi K) (hrk : rk K F) (hkt : rkt K) (hp : 0 ≤ F 344 5 ∧ F 344 5 ≤ K 1 6 - 1) (ht : trm F a k l tl) (hlt : l.length = tl.length) (ha : 0 ≤ a ∧ a ≤ 5) (hpl : rpn (F 350) (F 344 17) pl) (hps : rprd F ps ∧ ps.length = pl.length) (hat : 0 ≤ at_ ∧ at_ ≤ 40) (hla : rla a at_) (hc0 : F 358 a.toNat = 0) : fl_M xi_ms 175 6 142 [.ref 344, .int (Int32.ofInt a), .int (Int32.ofInt at_)] (fl_H sh_T G F ++ X) (pq_175 G F X K a at_ k l tl pl ps) := by
  intro fr lo hfr hlo
  show fl_R xi_ms 175 fr lo 0 [(0, .ref 344), (1, .int (Int32.ofInt a)), (2, .int (Int32.ofInt at_))] [] _ _
  have hP := (rkt_p hkt hp.1 hp.2 hgK).1
  have hK16 : 0 ≤ K 1 6 ∧ K 1 6 ≤ 601 := gi_g hgK rfl
  have hko := hkt.1
  have b1_ : 0 ≤ F 344 9 ∧ F 344 9 ≤ 5 := gi_g hgi rfl
  by_cases h2_ : F 344 9 = 0
  ·
    refine ga_aload_n (v := .ref 344) hm_175 rfl rfl rfl ?_
    refine fl_bipush hm_175 rfl rfl ?_
    have b3_ : 0 ≤ F 344 5 ∧ F 344 5 ≤ 600 := gi_g hgi rfl
    refine gVv (nY := 2) (F := 2) (L := 41) (As := [.int (Int32.ofInt 40)]) (b := 344) (rest := []) hm_175 rfl hm_51 rfl rfl (fl_ob sc_344) rfl rfl rfl rfl rfl (by omega) (by omega) (mc_51 hG F X hgi (K) (40) (0) hgK hrk hkt (by omega) (by omega) (by omega)) (fun _ _ h => False.elim h) ?_
    have b5_ : 0 ≤ F 344 10 ∧ F 344 10 ≤ 600 := gi_g hgi rfl
    rintro A1_ (⟨F9_, hA_, g10_, s11_, c6_, c7_, c8_⟩ | ⟨F15_, hA_, g16_, s17_, c12_, c13_, c14_⟩)
    ·
      subst hA_
      have g18_ : fs [(344, 344, 5, 5), (344, 344, 9, 10), (358, 358, 0, 100000), (360, 363, 0, 100000)] F F9_ := fs_tr fs_refl s11_ rfl
      have rk19_ : rk K F9_ := rk_fs hrk s11_ (fun r k h => (fs_n (by omega) (fs_n (by omega) rfl))) (fs_n (by omega) (fs_n (by omega) rfl))
      have c7_s := c7_.1 (by omega)
      clear c7_
      refine ga_aload_n (v := .ref 344) hm_175 rfl rfl rfl ?_
      refine fl_bipush hm_175 rfl rfl ?_
      have b20_ : 0 ≤ F9_ 344 5 ∧ F9_ 344 5 ≤ 600 := gi_g g10_ rfl
      refine gVi (nY := 4) (F := 1) (L := 21) (As := [.int (Int32.ofInt 8)]) (b := 344) (rest := []) hm_175 rfl hm_56 rfl rfl (fl_ob sc_344) rfl rfl rfl rfl rfl (by omega) (by omega) (mc_56 hG F9_ X g10_ (K) (8) ([97, 110, 100]) hgK rk19_ hkt (by omega) (by omega) (by decide) (kw_8 rk19_)) (fun _ _ h => False.elim h) ?_
      have b22_ : 0 ≤ F9_ 344 9 ∧ F9_ 344 9 ≤ 5 := gi_g g10_ rfl
      rintro z21_ A1_ (⟨hA_, hz_, c23_⟩ | ⟨hA_, hz_, c24_, c25_⟩)
      ·
        subst hA_
        subst hz_
        refine fl_if_ne hm_175 rfl ⟨by omega, by omega⟩ (fun h => absurd h (by omega)) (fun _ => ?_)
        refine ga_aload_n (v := .ref 344) hm_175 rfl rfl rfl ?_
        refine ga_iload_n (z := a) hm_175 rfl rfl ?_
        refine ga_iload_n (z := at_) hm_175 rfl rfl ?_
        have e26_ : F9_ 358 a.toNat = F 358 a.toNat := (s11_ 358 a.toNat (fs_n (by omega) (fs_n (by omega) rfl))).trans (rfl)
        refine gVv (nY := 6) (F := 5) (L := 117) (As := [.int (Int32.ofInt a), .int (Int32.ofInt at_)]) (b := 344) (rest := []) hm_175 rfl hm_179 rfl rfl (fl_ob sc_344) rfl rfl rfl rfl rfl (by omega) (by omega) (mc_179 hG F9_ X g10_ (K) (a) (at_) (k) (l) (tl) (pl) (ps) hgK rk19_ hkt (by omega) ((trm_fs ht s11_ (fun r j hj => (fs_n (by omega) (fs_n (by omega) rfl))))) (hlt) (by omega) ((rpn_fs hpl s11_ (fun _ => (fs_n (by omega) (fs_n (by omega) rfl))) (fs_n (by omega) (fs_n (by omega) rfl)))) (⟨(rprd_fs hps.1 s11_ (fun r j hj => (fs_n (by omega) (fs_n (by omega) rfl)))), hps.2⟩) (by omega) (hla) (fun _ => by omega)) (fun _ _ h => False.elim h) ?_
        have b28_ : 0 ≤ F9_ 344 10 ∧ F9_ 344 10 ≤ 600 := gi_g g10_ rfl
        rintro A1_ (⟨F32_, hA_, g33_, s34_, c29_, c30_, c31_⟩ | ⟨F39_, hA_, g40_, s41_, c35_, c36_, c37_, c38_⟩)
        ·
          subst hA_
          have g42_ : fs [(344, 344, 5, 5), (344, 344, 9, 10), (358, 358, 0, 100000), (360, 363, 0, 100000)] F F32_ := fs_tr g18_ s34_ rfl
          have rk43_ : rk K F32_ := rk_fs rk19_ s34_ (fun r k h => (fs_n (by omega) (fs_n (by omega) (fs_n (by omega) (fs_n (by omega) rfl))))) (fs_n (by omega) (fs_n (by omega) (fs_n (by omega) (fs_n (by omega) rfl))))
          have c30_k := c30_.2 (by omega)
          clear c30_
          refine gr_v hm_175 rfl rfl ?_
          have b44_ : 0 ≤ F32_ 344 9 ∧ F32_ 344 9 ≤ 5 := gi_g g33_ rfl
          have b45_ : 0 ≤ F32_ 344 10 ∧ F32_ 344 10 ≤ 600 := gi_g g33_ rfl
          have b46_ : 0 ≤ F32_ 344 5 ∧ F32_ 344 5 ≤ 600 := gi_g g33_ rfl
          exact Or.inl ⟨F32_, rfl, g33_, g42_, (by omega), (⟨by intro h0_; have hs_ := c7_s; rw [sp_clause, hs_]; show Sum.inl _ = _; try (congr 2 <;> omega), fun h0_ => by exfalso; omega⟩), (by omega)⟩
        exfalso; omega
      exfalso; omega
    subst hA_
    have g47_ : fs [(344, 344, 5, 5), (344, 344, 9, 10), (358, 358, 0, 100000), (360, 363, 0, 100000)] F F15_ := fs_tr fs_refl s17_ rfl
    have rk48_ : rk K F15_ := rk_fs hrk s17_ (fun r k h => (fs_n (by omega) (fs_n (by omega) rfl))) (fs_n (by omega) (fs_n (by omega) rfl))
    refine ga_aload_n (v := .ref 344) hm_175 rfl rfl rfl ?_
    refine fl_bipush hm_175 rfl rfl ?_
    have b49_ : 0 ≤ F15_ 344 5 ∧ F15_ 344 5 ≤ 600 := gi_g g16_ rfl
    refine gVi (nY := 4) (F := 1) (L := 21) (As := [.int (Int32.ofInt 8)]) (b := 344) (rest := []) hm_175 rfl hm_56 rfl rfl (fl_ob sc_344) rfl rfl rfl rfl rfl (by omega) (by omega) (mc_56 hG F15_ X g16_ (K) (8) ([97, 110, 100]) hgK rk48_ hkt (by omega) (by omega) (by decide) (kw_8 rk48_)) (fun _ _ h => False.elim h) ?_
    have b51_ : 0 ≤ F15_ 344 9 ∧ F15_ 344 9 ≤ 5 := gi_g g16_ rfl
    rintro z50_ A1_ (⟨hA_, hz_, c52_⟩ | ⟨hA_, hz_, c53_, c54_⟩)
    ·
      subst hA_
      subst hz_
      refine fl_if_ne hm_175 rfl ⟨by omega, by omega⟩ (fun h => absurd h (by omega)) (fun _ => ?_)
      refine ga_aload_n (v := .ref 344) hm_175 rfl rfl rfl ?_
      refine ga_iload_n (z := a) hm_175 rfl rfl ?_
      refine ga_iload_n (z := at_) hm_175 rfl rfl ?_
      have e55_ : F15_ 358 a.toNat = F 358 a.toNat := (s17_ 358 a.toNat (fs_n (by omega) (fs_n (by omega) rfl))).trans (rfl)
      refine gVv (nY := 6) (F := 5) (L := 117) (As := [.int (Int32.ofInt a), .int (Int32.ofInt at_)]) (b := 344) (rest := []) hm_175 rfl hm_179 rfl rfl (fl_ob sc_344) rfl rfl rfl rfl rfl (by omega) (by omega) (mc_179 hG F15_ X g16_ (K) (a) (at_) (k) (l) (tl) (pl) (ps) hgK rk48_ hkt (by omega) ((trm_fs ht s17_ (fun r j hj => (fs_n (by omega) (fs_n (by omega) rfl))))) (hlt) (by omega) ((rpn_fs hpl s17_ (fun _ => (fs_n (by omega) (fs_n (by omega) rfl))) (fs_n (by omega) (fs_n (by omega) rfl)))) (⟨(rprd_fs hps.1 s17_ (fun r j hj => (fs_n (by omega) (fs_n (by omega) rfl)))), hps.2⟩) (by omega) (hla) (fun _ => by omega)) (fun _ _ h => False.elim h) ?_
      have b57_ : 0 ≤ F15_ 344 10 ∧ F15_ 344 10 ≤ 600 := gi_g g16_ rfl
      rintro A1_ (⟨F61_, hA_, g62_, s63_, c58_, c59_, c60_⟩ | ⟨F68_, hA_, g69_, s70_, c64_, c65_, c66_, c67_⟩)
      ·
        subst hA_
        have g71_ : fs [(344, 344, 5, 5), (344, 344, 9, 10), (358, 358, 0, 100000), (360, 363, 0, 100000)] F F61_ := fs_tr g47_ s63_ rfl
        have rk72_ : rk K F61_ := rk_fs rk48_ s63_ (fun r k h => (fs_n (by omega) (fs_n (by omega) (fs_n (by omega) (fs_n (by omega) rfl))))) (fs_n (by omega) (fs_n (by omega) (fs_n (by omega) (fs_n (by omega) rfl))))
        have c59_s := c59_.1 (by omega)
        clear c59_
        refine gr_v hm_175 rfl rfl ?_
        have b73_ : 0 ≤ F61_ 344 9 ∧ F61_ 344 9 ≤ 5 := gi_g g62_ rfl
        have b74_ : 0 ≤ F61_ 344 10 ∧ F61_ 344 10 ≤ 600 := gi_g g62_ rfl
        have b75_ : 0 ≤ F61_ 344 5 ∧ F61_ 344 5 ≤ 600 := gi_g g62_ rfl
        exact Or.inl ⟨F61_, rfl, g62_, g71_, (by omega), (⟨by intro h0_; have hs_ := c59_s; rw [sp_clause, c13_, pb_r, if_neg (fun h8_ => c52_ ⟨by omega, h8_⟩), sp_mem_lit, hs_]; show Sum.inl _ = _; try (congr 2 <;> omega), fun h0_ => by exfalso; omega⟩), (by omega)⟩
      subst hA_
      have g76_ : fs [(344, 344, 5, 5), (344, 344, 9, 10), (358, 358, 0, 100000), (360, 363, 0, 100000)] F F68_ := fs_tr g47_ s70_ rfl
      have rk77_ : rk K F68_ := rk_fs rk48_ s70_ (fun r k h => (fs_n (by omega) (fs_n (by omega) (fs_n (by omega) (fs_n (by omega) rfl))))) (fs_n (by omega) (fs_n (by omega) (fs_n (by omega) (fs_n (by omega) rfl))))
      try simp only [e55_] at c67_
      refine gr_v hm_175 rfl rfl ?_
      have b78_ : 0 ≤ F68_ 344 9 ∧ F68_ 344 9 ≤ 5 := gi_g g69_ rfl
      have b79_ : 0 ≤ F68_ 344 5 ∧ F68_ 344 5 ≤ 600 := gi_g g69_ rfl
      exact Or.inr (⟨F68_, rfl, g69_, g76_, (by omega), (by rw [sp_clause, c13_, pb_r, if_neg (fun h8_ => c52_ ⟨by omega, h8_⟩), sp_mem_lit, c65_]; rfl), (by omega)⟩)
    subst hA_
    subst hz_
    refine fl_if_ne hm_175 rfl ⟨by omega, by omega⟩ (fun _ => ?_) (fun h => absurd (by omega) h)
    have hk0 := c13_
    have hand := c53_.2
    have hsk : sk K (F15_ 344 5) = F15_ 344 5 + 1 := by rw [sk, if_pos (by omega)]
    refine ga_aload_n (v := .ref 344) hm_175 rfl rfl rfl ?_
    refine ga_dup hm_175 rfl rfl ?_
    refine ga_geti (z := F15_ 344 5) hm_175 rfl sc_344 rfl (rfl) ?_
    refine fl_iconst hm_175 rfl ?_
    refine ga_iadd (a := F15_ 344 5) (b := 1) (c := F15_ 344 5 + 1) hm_175 rfl (by omega) ?_
    refine ga_puti (z := F15_ 344 5 + 1) hm_175 rfl sc_344 rfl rfl ?_
    refine fl_iconst hm_175 rfl ?_
    refine ga_istore_n (lv2 := [(3, .int (Int32.ofInt 1)), (0, .ref 344), (1, .int (Int32.ofInt a)), (2, .int (Int32.ofInt at_))]) hm_175 rfl (Nat.le_of_ble_eq_true rfl) rfl ?_
    obtain ⟨F80_, q81_⟩ : ∃ F9_, F9_ = (fl_u F15_ 344 5 (F15_ 344 5 + 1)) := ⟨_, rfl⟩
    rw [← q81_]
    have g82_ : gi F80_ := by rw [q81_]; exact gi_u (g16_) rfl (by omega) (by omega)
    have g83_ : fs [(344, 344, 5, 5), (344, 344, 9, 10), (358, 358, 0, 100000), (360, 363, 0, 100000)] F F80_ := by rw [q81_]; exact fs_u (g47_) rfl
    have rk84_ : rk K F80_ := by rw [q81_]; exact rk_u (rk48_) (by omega) (by omega)
    have e88_ : F80_ 344 5 = F15_ 344 5 + 1 := by rw [q81_]; exact fl_u_eq
    have L86_ : ∀ (n85_ : Nat) (mo : Int) (F1 : fl_N), (5 - F1 358 a.toNat : Int).toNat = n85_ → (gi F1) → (fs [(344, 344, 5, 5), (344, 344, 9, 10), (358, 358, 0, 100000), (360, 363, 0, 100000)] F80_ F1) → (F1 344 9 = 0) → (0 ≤ F1 358 a.toNat ∧ F1 358 a.toNat ≤ 4) → ((mo = 1 ∧ (F1 358 a.toNat = 0 ∨ ¬ K 3 (F1 344 5).toNat = 1)) ∨ (mo = 0 ∧ 0 < F1 358 a.toNat ∧ K 3 (F1 344 5).toNat = 1)) → (0 ≤ F1 344 5 ∧ F1 344 5 ≤ K 1 6 - 1) → (sp_m1 K false k l tl pl ps 4 true 0 (F80_ 344 5) = sp_m1 K false k l tl pl ps (4 - F1 358 a.toNat).toNat (decide (F1 358 a.toNat = 0)) 0 (F1 344 5)) → fl_R xi_ms 175 fr lo 34 [(3, .int (Int32.ofInt mo)), (0, .ref 344), (1, .int (Int32.ofInt a)), (2, .int (Int32.ofInt at_))] [] (fl_H sh_T G F1 ++ X) (pq_175 G F X K a at_ k l tl pl ps) := by
      intro n85_
      induction n85_ using Nat.strongRecOn with
      | ind n85_ ih87_ =>
      intro mo F1 hn89_ hg_F1 hf_F1 hk hcn hmo hp1 hsp
      have g90_ : fs [(344, 344, 5, 5), (344, 344, 9, 10), (358, 358, 0, 100000), (360, 363, 0, 100000)] F F1 := fs_tr g83_ hf_F1 rfl
      have rk91_ : rk K F1 := rk_fs rk84_ hf_F1 (fun r k h => (fs_n (by omega) (fs_n (by omega) (fs_n (by omega) (fs_n (by omega) rfl))))) (fs_n (by omega) (fs_n (by omega) (fs_n (by omega) (fs_n (by omega) rfl))))
      have hP1 := (rkt_p hkt (p := F1 344 5) (by omega) (by omega) hgK).1
      have hsp9 := hsp
      rw [show F80_ 344 5 = F15_ 344 5 + 1 from by omega] at hsp9
      refine ga_iload_n (z := mo) hm_175 rfl rfl ?_
      refine fl_if_eq (a := mo) hm_175 rfl ⟨by omega, by omega⟩ (fun h92_ => ?_) (fun h93_ => ?_)
      ·
        refine ga_aload_n (v := .ref 344) hm_175 rfl rfl rfl ?_
        refine fl_bipush hm_175 rfl rfl ?_
        have b94_ : 0 ≤ F1 344 5 ∧ F1 344 5 ≤ 600 := gi_g hg_F1 rfl
        refine gVv (nY := 2) (F := 2) (L := 41) (As := [.int (Int32.ofInt 41)]) (b := 344) (rest := []) hm_175 rfl hm_51 rfl rfl (fl_ob sc_344) rfl rfl rfl rfl rfl (by omega) (by omega) (mc_51 hG F1 X hg_F1 (K) (41) (1) hgK rk91_ hkt (by omega) (by omega) (by omega)) (fun _ _ h => False.elim h) ?_
        have b96_ : 0 ≤ F1 344 10 ∧ F1 344 10 ≤ 600 := gi_g hg_F1 rfl
        have b97_ : 0 ≤ F1 344 9 ∧ F1 344 9 ≤ 5 := gi_g hg_F1 rfl
        rintro A1_ (⟨F101_, hA_, g102_, s103_, c98_, c99_, c100_⟩ | ⟨F107_, hA_, g108_, s109_, c104_, c105_, c106_⟩)
        ·
          subst hA_
          have g110_ : fs [(344, 344, 5, 5), (344, 344, 9, 10), (358, 358, 0, 100000), (360, 363, 0, 100000)] F F101_ := fs_tr g90_ s103_ rfl
          have rk111_ : rk K F101_ := rk_fs rk91_ s103_ (fun r k h => (fs_n (by omega) (fs_n (by omega) rfl))) (fs_n (by omega) (fs_n (by omega) rfl))
          have c99_s := c99_.1 (by omega)
          clear c99_
          refine gr_v hm_175 rfl rfl ?_
          have b112_ : 0 ≤ F101_ 344 9 ∧ F101_ 344 9 ≤ 5 := gi_g g102_ rfl
          have b113_ : 0 ≤ F101_ 344 10 ∧ F101_ 344 10 ≤ 600 := gi_g g102_ rfl
          have b114_ : 0 ≤ F101_ 344 5 ∧ F101_ 344 5 ≤ 600 := gi_g g102_ rfl
          exact Or.inl ⟨F101_, rfl, g102_, g110_, (by omega), (⟨by intro h0_; have hs_ := c99_s; exfalso; rw [sp_kind, if_pos (by omega)] at hs_; exact (nomatch hs_), fun h0_ => by exfalso; omega⟩), (by omega)⟩
        subst hA_
        have g115_ : fs [(344, 344, 5, 5), (344, 344, 9, 10), (358, 358, 0, 100000), (360, 363, 0, 100000)] F F107_ := fs_tr g90_ s109_ rfl
        have rk116_ : rk K F107_ := rk_fs rk91_ s109_ (fun r k h => (fs_n (by omega) (fs_n (by omega) rfl))) (fs_n (by omega) (fs_n (by omega) rfl))
        refine gr_v hm_175 rfl rfl ?_
        have b117_ : 0 ≤ F107_ 344 9 ∧ F107_ 344 9 ≤ 5 := gi_g g108_ rfl
        have b118_ : 0 ≤ F107_ 344 5 ∧ F107_ 344 5 ≤ 600 := gi_g g108_ rfl
        exact Or.inr (⟨F107_, rfl, g108_, g115_, (by omega), (by rw [sp_clause, hk0, pb_r, if_pos hand, hsk, sm1_ok (hsp9.trans (sm1_e (by omega) (by omega))), pb_r, c105_]; rfl), (by omega)⟩)
      refine ga_aload_n (v := .ref 344) hm_175 rfl rfl rfl ?_
      refine gIi (nY := 1) (F := 0) (L := 0) (As := []) (b := 344) (rest := []) hm_175 rfl hm_59 rfl rfl (fl_ob sc_344) rfl rfl rfl rfl rfl (by omega) (by omega) ?_
      intro f119_ l120_ h121_ h122_
      show fl_R xi_ms 59 f119_ l120_ 0 [(0, .ref 344)] [] _ _
      refine ga_aload_n (v := .ref 344) hm_59 rfl rfl rfl ?_
      have b123_ : 0 ≤ F1 344 9 ∧ F1 344 9 ≤ 5 := gi_g hg_F1 rfl
      refine ga_geti (z := F1 344 9) hm_59 rfl sc_344 rfl (rfl) ?_
      refine fl_if_le (a := F1 344 9) hm_59 rfl ⟨by omega, by omega⟩ (fun h124_ => ?_) (fun h125_ => ?_)
      ·
        refine fl_iconst hm_59 rfl ?_
        refine gr_i hm_59 rfl rfl (ga_nb (by omega)) ?_
        clear h121_ h122_ f119_ l120_
        refine fl_if_ne hm_175 rfl ⟨by omega, by omega⟩ (fun h => absurd h (by omega)) (fun _ => ?_)
        refine ga_aload_n (v := .ref 344) hm_175 rfl rfl rfl ?_
        refine ga_getr (b := 358) hm_175 rfl sc_344 rfl ?_
        refine ga_iload_n (z := a) hm_175 rfl rfl ?_
        have b126_ : 0 ≤ F1 358 a.toNat ∧ F1 358 a.toNat ≤ 4 := gi_g hg_F1 rfl
        refine ga_iald (z := a) (w := F1 358 a.toNat) hm_175 rfl sc_358 (by omega) (by omega) (by omega) (rfl) ?_
        refine fl_iconst hm_175 rfl ?_
        refine fx_icmp_ne (a := F1 358 a.toNat) (b := 4) hm_175 rfl ⟨by omega, by omega⟩ ⟨by omega, by omega⟩ (fun h127_ => ?_) (fun h128_ => ?_)
        ·
          refine ga_aload_n (v := .ref 344) hm_175 rfl rfl rfl ?_
          refine fl_bipush hm_175 rfl rfl ?_
          have b129_ : 0 ≤ F1 344 5 ∧ F1 344 5 ≤ 600 := gi_g hg_F1 rfl
          refine gVv (nY := 2) (F := 2) (L := 41) (As := [.int (Int32.ofInt 40)]) (b := 344) (rest := []) hm_175 rfl hm_51 rfl rfl (fl_ob sc_344) rfl rfl rfl rfl rfl (by omega) (by omega) (mc_51 hG F1 X hg_F1 (K) (40) (0) hgK rk91_ hkt (by omega) (by omega) (by omega)) (fun _ _ h => False.elim h) ?_
          have b131_ : 0 ≤ F1 344 10 ∧ F1 344 10 ≤ 600 := gi_g hg_F1 rfl
          rintro A1_ (⟨F135_, hA_, g136_, s137_, c132_, c133_, c134_⟩ | ⟨F141_, hA_, g142_, s143_, c138_, c139_, c140_⟩)
          ·
            subst hA_
            have g144_ : fs [(344, 344, 5, 5), (344, 344, 9, 10), (358, 358, 0, 100000), (360, 363, 0, 100000)] F F135_ := fs_tr g90_ s137_ rfl
            have rk145_ : rk K F135_ := rk_fs rk91_ s137_ (fun r k h => (fs_n (by omega) (fs_n (by omega) rfl))) (fs_n (by omega) (fs_n (by omega) rfl))
            have c133_s := c133_.1 (by omega)
            clear c133_
            refine ga_aload_n (v := .ref 344) hm_175 rfl rfl rfl ?_
            refine ga_iload_n (z := a) hm_175 rfl rfl ?_
            refine ga_iload_n (z := at_) hm_175 rfl rfl ?_
            have b146_ : 0 ≤ F135_ 344 5 ∧ F135_ 344 5 ≤ 600 := gi_g g136_ rfl
            have e147_ : F135_ 358 a.toNat = F1 358 a.toNat := (s137_ 358 a.toNat (fs_n (by omega) (fs_n (by omega) rfl))).trans (rfl)
            refine gVv (nY := 6) (F := 5) (L := 117) (As := [.int (Int32.ofInt a), .int (Int32.ofInt at_)]) (b := 344) (rest := []) hm_175 rfl hm_179 rfl rfl (fl_ob sc_344) rfl rfl rfl rfl rfl (by omega) (by omega) (mc_179 hG F135_ X g136_ (K) (a) (at_) (k) (l) (tl) (pl) (ps) hgK rk145_ hkt (by omega) ((trm_fs (trm_fs (by rw [q81_]; exact (trm_u (trm_fs ht s17_ (fun r j hj => (fs_n (by omega) (fs_n (by omega) rfl)))) (by omega))) hf_F1 (fun r j hj => (fs_n (by omega) (fs_n (by omega) (fs_n (by omega) (fs_n (by omega) rfl)))))) s137_ (fun r j hj => (fs_n (by omega) (fs_n (by omega) rfl))))) (hlt) (by omega) ((rpn_fs (rpn_fs (by rw [q81_]; exact (rpn_u (rpn_fs hpl s17_ (fun _ => (fs_n (by omega) (fs_n (by omega) rfl))) (fs_n (by omega) (fs_n (by omega) rfl))) (by omega) (by omega))) hf_F1 (fun _ => (fs_n (by omega) (fs_n (by omega) (fs_n (by omega) (fs_n (by omega) rfl))))) (fs_n (by omega) (fs_n (by omega) (fs_n (by omega) (fs_n (by omega) rfl))))) s137_ (fun _ => (fs_n (by omega) (fs_n (by omega) rfl))) (fs_n (by omega) (fs_n (by omega) rfl)))) (⟨(rprd_fs (rprd_fs (by rw [q81_]; exact (rprd_u (rprd_fs hps.1 s17_ (fun r j hj => (fs_n (by omega) (fs_n (by omega) rfl)))) (by omega))) hf_F1 (fun r j hj => (fs_n (by omega) (fs_n (by omega) (fs_n (by omega) (fs_n (by omega) rfl)))))) s137_ (fun r j hj => (fs_n (by omega) (fs_n (by omega) rfl)))), hps.2⟩) (by omega) (hla) (fun _ => by omega)) (fun _ _ h => False.elim h) ?_
            have b149_ : 0 ≤ F135_ 344 10 ∧ F135_ 344 10 ≤ 600 := gi_g g136_ rfl
            have b150_ : 0 ≤ F135_ 344 9 ∧ F135_ 344 9 ≤ 5 := gi_g g136_ rfl
            rintro A1_ (⟨F154_, hA_, g155_, s156_, c151_, c152_, c153_⟩ | ⟨F161_, hA_, g162_, s163_, c157_, c158_, c159_, c160_⟩)
            ·
              subst hA_
              have g164_ : fs [(344, 344, 5, 5), (344, 344, 9, 10), (358, 358, 0, 100000), (360, 363, 0, 100000)] F F154_ := fs_tr g144_ s156_ rfl
              have rk165_ : rk K F154_ := rk_fs rk145_ s156_ (fun r k h => (fs_n (by omega) (fs_n (by omega) (fs_n (by omega) (fs_n (by omega) rfl))))) (fs_n (by omega) (fs_n (by omega) (fs_n (by omega) (fs_n (by omega) rfl))))
              have c152_k := c152_.2 (by omega)
              clear c152_
              refine ga_aload_n (v := .ref 344) hm_175 rfl rfl rfl ?_
              refine fl_bipush hm_175 rfl rfl ?_
              have b166_ : 0 ≤ F154_ 344 5 ∧ F154_ 344 5 ≤ 600 := gi_g g155_ rfl
              refine gVi (nY := 2) (F := 1) (L := 20) (As := [.int (Int32.ofInt 41)]) (b := 344) (rest := []) hm_175 rfl hm_52 rfl rfl (fl_ob sc_344) rfl rfl rfl rfl rfl (by omega) (by omega) (mc_52 hG F154_ X g155_ (K) (41) hgK rk165_ hkt (by omega) (by omega)) (fun _ _ h => False.elim h) ?_
              have b168_ : 0 ≤ F154_ 344 9 ∧ F154_ 344 9 ≤ 5 := gi_g g155_ rfl
              rintro z167_ A1_ (⟨hA_, hz_, c169_⟩ | ⟨hA_, hz_, c170_, c171_⟩)
              ·
                subst hA_
                subst hz_
                refine fl_if_ne hm_175 rfl ⟨by omega, by omega⟩ (fun h => absurd h (by omega)) (fun _ => ?_)
                refine fl_iconst hm_175 rfl ?_
                refine fl_goto hm_175 rfl ?_
                refine ga_istore_n (lv2 := [(3, .int (Int32.ofInt 1)), (0, .ref 344), (1, .int (Int32.ofInt a)), (2, .int (Int32.ofInt at_))]) hm_175 rfl (Nat.le_of_ble_eq_true rfl) rfl ?_
                refine fl_goto hm_175 rfl ?_
                refine ga_iload_n (z := 1) hm_175 rfl rfl ?_
                refine fl_if_eq hm_175 rfl ⟨by omega, by omega⟩ (fun h => absurd h (by omega)) (fun _ => ?_)
                refine ga_aload_n (v := .ref 344) hm_175 rfl rfl rfl ?_
                refine gIi (nY := 1) (F := 0) (L := 0) (As := []) (b := 344) (rest := []) hm_175 rfl hm_59 rfl rfl (fl_ob sc_344) rfl rfl rfl rfl rfl (by omega) (by omega) ?_
                intro f172_ l173_ h174_ h175_
                show fl_R xi_ms 59 f172_ l173_ 0 [(0, .ref 344)] [] _ _
                refine ga_aload_n (v := .ref 344) hm_59 rfl rfl rfl ?_
                refine ga_geti (z := F154_ 344 9) hm_59 rfl sc_344 rfl (rfl) ?_
                refine fl_if_le (a := F154_ 344 9) hm_59 rfl ⟨by omega, by omega⟩ (fun h176_ => ?_) (fun h177_ => ?_)
                · exfalso; omega
                refine fl_iconst hm_59 rfl ?_
                refine fl_goto hm_59 rfl ?_
                refine gr_i hm_59 rfl rfl (ga_nb (by omega)) ?_
                clear h174_ h175_ f172_ l173_
                refine fl_if_ne hm_175 rfl ⟨by omega, by omega⟩ (fun _ => ?_) (fun h => absurd (by omega) h)
                refine ga_aload_n (v := .ref 344) hm_175 rfl rfl rfl ?_
                refine fl_bipush hm_175 rfl rfl ?_
                refine gVv (nY := 2) (F := 2) (L := 41) (As := [.int (Int32.ofInt 41)]) (b := 344) (rest := []) hm_175 rfl hm_51 rfl rfl (fl_ob sc_344) rfl rfl rfl rfl rfl (by omega) (by omega) (mc_51 hG F154_ X g155_ (K) (41) (1) hgK rk165_ hkt (by omega) (by omega) (by omega)) (fun _ _ h => False.elim h) ?_
                have b179_ : 0 ≤ F154_ 344 10 ∧ F154_ 344 10 ≤ 600 := gi_g g155_ rfl
                rintro A1_ (⟨F183_, hA_, g184_, s185_, c180_, c181_, c182_⟩ | ⟨F189_, hA_, g190_, s191_, c186_, c187_, c188_⟩)
                ·
                  subst hA_
                  have g192_ : fs [(344, 344, 5, 5), (344, 344, 9, 10), (358, 358, 0, 100000), (360, 363, 0, 100000)] F F183_ := fs_tr g164_ s185_ rfl
                  have rk193_ : rk K F183_ := rk_fs rk165_ s185_ (fun r k h => (fs_n (by omega) (fs_n (by omega) rfl))) (fs_n (by omega) (fs_n (by omega) rfl))
                  have c181_k := c181_.2 (by omega)
                  clear c181_
                  refine gr_v hm_175 rfl rfl ?_
                  have b194_ : 0 ≤ F183_ 344 9 ∧ F183_ 344 9 ≤ 5 := gi_g g184_ rfl
                  have b195_ : 0 ≤ F183_ 344 10 ∧ F183_ 344 10 ≤ 600 := gi_g g184_ rfl
                  have b196_ : 0 ≤ F183_ 344 5 ∧ F183_ 344 5 ≤ 600 := gi_g g184_ rfl
                  exact Or.inl ⟨F183_, rfl, g184_, g192_, (by omega), (⟨by intro h0_; have hs_ := c133_s; rw [sp_clause, hk0, pb_r, if_pos hand, hsk]; exact sm1_f hsp9 (sm1_f1 (by omega) (by omega) hs_) (by omega) (by omega), fun h0_ => by exfalso; omega⟩), (by omega)⟩
                exfalso; omega
              exfalso; omega
            exfalso; omega
          subst hA_
          have g197_ : fs [(344, 344, 5, 5), (344, 344, 9, 10), (358, 358, 0, 100000), (360, 363, 0, 100000)] F F141_ := fs_tr g90_ s143_ rfl
          have rk198_ : rk K F141_ := rk_fs rk91_ s143_ (fun r k h => (fs_n (by omega) (fs_n (by omega) rfl))) (fs_n (by omega) (fs_n (by omega) rfl))
          refine ga_aload_n (v := .ref 344) hm_175 rfl rfl rfl ?_
          refine ga_iload_n (z := a) hm_175 rfl rfl ?_
          refine ga_iload_n (z := at_) hm_175 rfl rfl ?_
          have b199_ : 0 ≤ F141_ 344 5 ∧ F141_ 344 5 ≤ 600 := gi_g g142_ rfl
          have e200_ : F141_ 358 a.toNat = F1 358 a.toNat := (s143_ 358 a.toNat (fs_n (by omega) (fs_n (by omega) rfl))).trans (rfl)
          refine gVv (nY := 6) (F := 5) (L := 117) (As := [.int (Int32.ofInt a), .int (Int32.ofInt at_)]) (b := 344) (rest := []) hm_175 rfl hm_179 rfl rfl (fl_ob sc_344) rfl rfl rfl rfl rfl (by omega) (by omega) (mc_179 hG F141_ X g142_ (K) (a) (at_) (k) (l) (tl) (pl) (ps) hgK rk198_ hkt (by omega) ((trm_fs (trm_fs (by rw [q81_]; exact (trm_u (trm_fs ht s17_ (fun r j hj => (fs_n (by omega) (fs_n (by omega) rfl)))) (by omega))) hf_F1 (fun r j hj => (fs_n (by omega) (fs_n (by omega) (fs_n (by omega) (fs_n (by omega) rfl)))))) s143_ (fun r j hj => (fs_n (by omega) (fs_n (by omega) rfl))))) (hlt) (by omega) ((rpn_fs (rpn_fs (by rw [q81_]; exact (rpn_u (rpn_fs hpl s17_ (fun _ => (fs_n (by omega) (fs_n (by omega) rfl))) (fs_n (by omega) (fs_n (by omega) rfl))) (by omega) (by omega))) hf_F1 (fun _ => (fs_n (by omega) (fs_n (by omega) (fs_n (by omega) (fs_n (by omega) rfl))))) (fs_n (by omega) (fs_n (by omega) (fs_n (by omega) (fs_n (by omega) rfl))))) s143_ (fun _ => (fs_n (by omega) (fs_n (by omega) rfl))) (fs_n (by omega) (fs_n (by omega) rfl)))) (⟨(rprd_fs (rprd_fs (by rw [q81_]; exact (rprd_u (rprd_fs hps.1 s17_ (fun r j hj => (fs_n (by omega) (fs_n (by omega) rfl)))) (by omega))) hf_F1 (fun r j hj => (fs_n (by omega) (fs_n (by omega) (fs_n (by omega) (fs_n (by omega) rfl)))))) s143_ (fun r j hj => (fs_n (by omega) (fs_n (by omega) rfl)))), hps.2⟩) (by omega) (hla) (fun _ => by omega)) (fun _ _ h => False.elim h) ?_
          have b202_ : 0 ≤ F141_ 344 10 ∧ F141_ 344 10 ≤ 600 := gi_g g142_ rfl
          have b203_ : 0 ≤ F141_ 344 9 ∧ F141_ 344 9 ≤ 5 := gi_g g142_ rfl
          rintro A1_ (⟨F207_, hA_, g208_, s209_, c204_, c205_, c206_⟩ | ⟨F214_, hA_, g215_, s216_, c210_, c211_, c212_, c213_⟩)
          ·
            subst hA_
            have g217_ : fs [(344, 344, 5, 5), (344, 344, 9, 10), (358, 358, 0, 100000), (360, 363, 0, 100000)] F F207_ := fs_tr g197_ s209_ rfl
            have rk218_ : rk K F207_ := rk_fs rk198_ s209_ (fun r k h => (fs_n (by omega) (fs_n (by omega) (fs_n (by omega) (fs_n (by omega) rfl))))) (fs_n (by omega) (fs_n (by omega) (fs_n (by omega) (fs_n (by omega) rfl))))
            have c205_s := c205_.1 (by omega)
            clear c205_
            refine ga_aload_n (v := .ref 344) hm_175 rfl rfl rfl ?_
            refine fl_bipush hm_175 rfl rfl ?_
            have b219_ : 0 ≤ F207_ 344 5 ∧ F207_ 344 5 ≤ 600 := gi_g g208_ rfl
            refine gVi (nY := 2) (F := 1) (L := 20) (As := [.int (Int32.ofInt 41)]) (b := 344) (rest := []) hm_175 rfl hm_52 rfl rfl (fl_ob sc_344) rfl rfl rfl rfl rfl (by omega) (by omega) (mc_52 hG F207_ X g208_ (K) (41) hgK rk218_ hkt (by omega) (by omega)) (fun _ _ h => False.elim h) ?_
            have b221_ : 0 ≤ F207_ 344 9 ∧ F207_ 344 9 ≤ 5 := gi_g g208_ rfl
            rintro z220_ A1_ (⟨hA_, hz_, c222_⟩ | ⟨hA_, hz_, c223_, c224_⟩)
            ·
              subst hA_
              subst hz_
              refine fl_if_ne hm_175 rfl ⟨by omega, by omega⟩ (fun h => absurd h (by omega)) (fun _ => ?_)
              refine fl_iconst hm_175 rfl ?_
              refine fl_goto hm_175 rfl ?_
              refine ga_istore_n (lv2 := [(3, .int (Int32.ofInt 1)), (0, .ref 344), (1, .int (Int32.ofInt a)), (2, .int (Int32.ofInt at_))]) hm_175 rfl (Nat.le_of_ble_eq_true rfl) rfl ?_
              refine fl_goto hm_175 rfl ?_
              refine ga_iload_n (z := 1) hm_175 rfl rfl ?_
              refine fl_if_eq hm_175 rfl ⟨by omega, by omega⟩ (fun h => absurd h (by omega)) (fun _ => ?_)
              refine ga_aload_n (v := .ref 344) hm_175 rfl rfl rfl ?_
              refine gIi (nY := 1) (F := 0) (L := 0) (As := []) (b := 344) (rest := []) hm_175 rfl hm_59 rfl rfl (fl_ob sc_344) rfl rfl rfl rfl rfl (by omega) (by omega) ?_
              intro f225_ l226_ h227_ h228_
              show fl_R xi_ms 59 f225_ l226_ 0 [(0, .ref 344)] [] _ _
              refine ga_aload_n (v := .ref 344) hm_59 rfl rfl rfl ?_
              refine ga_geti (z := F207_ 344 9) hm_59 rfl sc_344 rfl (rfl) ?_
              refine fl_if_le (a := F207_ 344 9) hm_59 rfl ⟨by omega, by omega⟩ (fun h229_ => ?_) (fun h230_ => ?_)
              · exfalso; omega
              refine fl_iconst hm_59 rfl ?_
              refine fl_goto hm_59 rfl ?_
              refine gr_i hm_59 rfl rfl (ga_nb (by omega)) ?_
              clear h227_ h228_ f225_ l226_
              refine fl_if_ne hm_175 rfl ⟨by omega, by omega⟩ (fun _ => ?_) (fun h => absurd (by omega) h)
              refine ga_aload_n (v := .ref 344) hm_175 rfl rfl rfl ?_
              refine fl_bipush hm_175 rfl rfl ?_
              refine gVv (nY := 2) (F := 2) (L := 41) (As := [.int (Int32.ofInt 41)]) (b := 344) (rest := []) hm_175 rfl hm_51 rfl rfl (fl_ob sc_344) rfl rfl rfl rfl rfl (by omega) (by omega) (mc_51 hG F207_ X g208_ (K) (41) (1) hgK rk218_ hkt (by omega) (by omega) (by omega)) (fun _ _ h => False.elim h) ?_
              have b232_ : 0 ≤ F207_ 344 10 ∧ F207_ 344 10 ≤ 600 := gi_g g208_ rfl
              rintro A1_ (⟨F236_, hA_, g237_, s238_, c233_, c234_, c235_⟩ | ⟨F242_, hA_, g243_, s244_, c239_, c240_, c241_⟩)
              ·
                subst hA_
                have g245_ : fs [(344, 344, 5, 5), (344, 344, 9, 10), (358, 358, 0, 100000), (360, 363, 0, 100000)] F F236_ := fs_tr g217_ s238_ rfl
                have rk246_ : rk K F236_ := rk_fs rk218_ s238_ (fun r k h => (fs_n (by omega) (fs_n (by omega) rfl))) (fs_n (by omega) (fs_n (by omega) rfl))
                have c234_k := c234_.2 (by omega)
                clear c234_
                refine gr_v hm_175 rfl rfl ?_
                have b247_ : 0 ≤ F236_ 344 9 ∧ F236_ 344 9 ≤ 5 := gi_g g237_ rfl
                have b248_ : 0 ≤ F236_ 344 10 ∧ F236_ 344 10 ≤ 600 := gi_g g237_ rfl
                have b249_ : 0 ≤ F236_ 344 5 ∧ F236_ 344 5 ≤ 600 := gi_g g237_ rfl
                exact Or.inl ⟨F236_, rfl, g237_, g245_, (by omega), (⟨by intro h0_; have hs_ := c205_s; rw [sp_clause, hk0, pb_r, if_pos hand, hsk]; exact sm1_f hsp9 (sm1_fl (by omega) (by omega) c139_ hs_) (by omega) (by omega), fun h0_ => by exfalso; omega⟩), (by omega)⟩
              exfalso; omega
            exfalso; omega
          subst hA_
          have g250_ : fs [(344, 344, 5, 5), (344, 344, 9, 10), (358, 358, 0, 100000), (360, 363, 0, 100000)] F F214_ := fs_tr g197_ s216_ rfl
          have rk251_ : rk K F214_ := rk_fs rk198_ s216_ (fun r k h => (fs_n (by omega) (fs_n (by omega) (fs_n (by omega) (fs_n (by omega) rfl))))) (fs_n (by omega) (fs_n (by omega) (fs_n (by omega) (fs_n (by omega) rfl))))
          try simp only [e200_] at c213_
          refine ga_aload_n (v := .ref 344) hm_175 rfl rfl rfl ?_
          refine fl_bipush hm_175 rfl rfl ?_
          have b252_ : 0 ≤ F214_ 344 5 ∧ F214_ 344 5 ≤ 600 := gi_g g215_ rfl
          refine gVi (nY := 2) (F := 1) (L := 20) (As := [.int (Int32.ofInt 41)]) (b := 344) (rest := []) hm_175 rfl hm_52 rfl rfl (fl_ob sc_344) rfl rfl rfl rfl rfl (by omega) (by omega) (mc_52 hG F214_ X g215_ (K) (41) hgK rk251_ hkt (by omega) (by omega)) (fun _ _ h => False.elim h) ?_
          have b254_ : 0 ≤ F214_ 344 9 ∧ F214_ 344 9 ≤ 5 := gi_g g215_ rfl
          rintro z253_ A1_ (⟨hA_, hz_, c255_⟩ | ⟨hA_, hz_, c256_, c257_⟩)
          ·
            subst hA_
            subst hz_
            refine fl_if_ne hm_175 rfl ⟨by omega, by omega⟩ (fun h => absurd h (by omega)) (fun _ => ?_)
            refine fl_iconst hm_175 rfl ?_
            refine fl_goto hm_175 rfl ?_
            refine ga_istore_n (lv2 := [(3, .int (Int32.ofInt 1)), (0, .ref 344), (1, .int (Int32.ofInt a)), (2, .int (Int32.ofInt at_))]) hm_175 rfl (Nat.le_of_ble_eq_true rfl) rfl ?_
            refine fl_goto hm_175 rfl ?_
            have b258_ : 0 ≤ K 1 6 ∧ K 1 6 ≤ 601 := gi_g hgK rfl
            exact ih87_ _ (by omega) (1) F214_ rfl g215_ (fs_tr (fs_tr hf_F1 s143_ rfl) s216_ rfl) (by omega) (by omega) (Or.inl ⟨rfl, Or.inr (by omega)⟩) (by omega) (by rw [hsp, sm1_step (by omega) (by omega) c139_ c211_]; congr 1; omega; (rw [decide_eq_false (show ¬ F214_ 358 a.toNat = 0 by omega)]))
          subst hA_
          subst hz_
          refine fl_if_ne hm_175 rfl ⟨by omega, by omega⟩ (fun _ => ?_) (fun h => absurd (by omega) h)
          refine fl_iconst hm_175 rfl ?_
          refine ga_istore_n (lv2 := [(3, .int (Int32.ofInt 0)), (0, .ref 344), (1, .int (Int32.ofInt a)), (2, .int (Int32.ofInt at_))]) hm_175 rfl (Nat.le_of_ble_eq_true rfl) rfl ?_
          refine fl_goto hm_175 rfl ?_
          have b259_ : 0 ≤ K 1 6 ∧ K 1 6 ≤ 601 := gi_g hgK rfl
          exact ih87_ _ (by omega) (0) F214_ rfl g215_ (fs_tr (fs_tr hf_F1 s143_ rfl) s216_ rfl) (by omega) (by omega) (Or.inr ⟨rfl, by omega, by omega⟩) (by omega) (by rw [hsp, sm1_step (by omega) (by omega) c139_ c211_]; congr 1; omega; (rw [decide_eq_false (show ¬ F214_ 358 a.toNat = 0 by omega)]))
        refine ga_aload_n (v := .ref 344) hm_175 rfl rfl rfl ?_
        refine fl_iconst hm_175 rfl ?_
        have b260_ : 0 ≤ F1 344 5 ∧ F1 344 5 ≤ 600 := gi_g hg_F1 rfl
        refine gVv (nY := 2) (F := 0) (L := 0) (As := [.int (Int32.ofInt 1)]) (b := 344) (rest := []) hm_175 rfl hm_54 rfl rfl (fl_ob sc_344) rfl rfl rfl rfl rfl (by omega) (by omega) (mc_54 hG F1 X hg_F1 (K) (1) hgK rk91_ hkt (by omega) (by omega)) (fun _ _ h => False.elim h) ?_
        have b262_ : 0 ≤ F1 344 10 ∧ F1 344 10 ≤ 600 := gi_g hg_F1 rfl
        rintro A1_ ⟨F266_, hA_, g267_, s268_, c263_, c264_, c265_⟩
        subst hA_
        have g269_ : fs [(344, 344, 5, 5), (344, 344, 9, 10), (358, 358, 0, 100000), (360, 363, 0, 100000)] F F266_ := fs_tr g90_ s268_ rfl
        have rk270_ : rk K F266_ := rk_fs rk91_ s268_ (fun r k h => (fs_n (by omega) rfl)) (fs_n (by omega) rfl)
        have c264_s := c264_.1 (by omega)
        clear c264_
        refine ga_aload_n (v := .ref 344) hm_175 rfl rfl rfl ?_
        refine fl_bipush hm_175 rfl rfl ?_
        have e271_ : F266_ 344 5 = F1 344 5 := (s268_ 344 5 rfl).trans (rfl)
        refine gVv (nY := 2) (F := 2) (L := 41) (As := [.int (Int32.ofInt 40)]) (b := 344) (rest := []) hm_175 rfl hm_51 rfl rfl (fl_ob sc_344) rfl rfl rfl rfl rfl (by omega) (by omega) (mc_51 hG F266_ X g267_ (K) (40) (0) hgK rk270_ hkt (by omega) (by omega) (by omega)) (fun _ _ h => False.elim h) ?_
        have b273_ : 0 ≤ F266_ 344 10 ∧ F266_ 344 10 ≤ 600 := gi_g g267_ rfl
        have b274_ : 0 ≤ F266_ 344 9 ∧ F266_ 344 9 ≤ 5 := gi_g g267_ rfl
        rintro A1_ (⟨F278_, hA_, g279_, s280_, c275_, c276_, c277_⟩ | ⟨F284_, hA_, g285_, s286_, c281_, c282_, c283_⟩)
        ·
          subst hA_
          have g287_ : fs [(344, 344, 5, 5), (344, 344, 9, 10), (358, 358, 0, 100000), (360, 363, 0, 100000)] F F278_ := fs_tr g269_ s280_ rfl
          have rk288_ : rk K F278_ := rk_fs rk270_ s280_ (fun r k h => (fs_n (by omega) (fs_n (by omega) rfl))) (fs_n (by omega) (fs_n (by omega) rfl))
          try simp only [e271_] at c276_
          have c276_k := c276_.2 (by omega)
          clear c276_
          refine ga_aload_n (v := .ref 344) hm_175 rfl rfl rfl ?_
          refine ga_iload_n (z := a) hm_175 rfl rfl ?_
          refine ga_iload_n (z := at_) hm_175 rfl rfl ?_
          have b289_ : 0 ≤ F278_ 344 5 ∧ F278_ 344 5 ≤ 600 := gi_g g279_ rfl
          have e290_ : F266_ 358 a.toNat = F1 358 a.toNat := (s268_ 358 a.toNat (fs_n (by omega) rfl)).trans (rfl)
          have e291_ : F278_ 358 a.toNat = F1 358 a.toNat := (s280_ 358 a.toNat (fs_n (by omega) (fs_n (by omega) rfl))).trans (e290_)
          refine gVv (nY := 6) (F := 5) (L := 117) (As := [.int (Int32.ofInt a), .int (Int32.ofInt at_)]) (b := 344) (rest := []) hm_175 rfl hm_179 rfl rfl (fl_ob sc_344) rfl rfl rfl rfl rfl (by omega) (by omega) (mc_179 hG F278_ X g279_ (K) (a) (at_) (k) (l) (tl) (pl) (ps) hgK rk288_ hkt (by omega) ((trm_fs (trm_fs (trm_fs (by rw [q81_]; exact (trm_u (trm_fs ht s17_ (fun r j hj => (fs_n (by omega) (fs_n (by omega) rfl)))) (by omega))) hf_F1 (fun r j hj => (fs_n (by omega) (fs_n (by omega) (fs_n (by omega) (fs_n (by omega) rfl)))))) s268_ (fun r j hj => (fs_n (by omega) rfl))) s280_ (fun r j hj => (fs_n (by omega) (fs_n (by omega) rfl))))) (hlt) (by omega) ((rpn_fs (rpn_fs (rpn_fs (by rw [q81_]; exact (rpn_u (rpn_fs hpl s17_ (fun _ => (fs_n (by omega) (fs_n (by omega) rfl))) (fs_n (by omega) (fs_n (by omega) rfl))) (by omega) (by omega))) hf_F1 (fun _ => (fs_n (by omega) (fs_n (by omega) (fs_n (by omega) (fs_n (by omega) rfl))))) (fs_n (by omega) (fs_n (by omega) (fs_n (by omega) (fs_n (by omega) rfl))))) s268_ (fun _ => (fs_n (by omega) rfl)) (fs_n (by omega) rfl)) s280_ (fun _ => (fs_n (by omega) (fs_n (by omega) rfl))) (fs_n (by omega) (fs_n (by omega) rfl)))) (⟨(rprd_fs (rprd_fs (rprd_fs (by rw [q81_]; exact (rprd_u (rprd_fs hps.1 s17_ (fun r j hj => (fs_n (by omega) (fs_n (by omega) rfl)))) (by omega))) hf_F1 (fun r j hj => (fs_n (by omega) (fs_n (by omega) (fs_n (by omega) (fs_n (by omega) rfl)))))) s268_ (fun r j hj => (fs_n (by omega) rfl))) s280_ (fun r j hj => (fs_n (by omega) (fs_n (by omega) rfl)))), hps.2⟩) (by omega) (hla) (fun _ => by omega)) (fun _ _ h => False.elim h) ?_
          have b293_ : 0 ≤ F278_ 344 10 ∧ F278_ 344 10 ≤ 600 := gi_g g279_ rfl
          have b294_ : 0 ≤ F278_ 344 9 ∧ F278_ 344 9 ≤ 5 := gi_g g279_ rfl
          rintro A1_ (⟨F298_, hA_, g299_, s300_, c295_, c296_, c297_⟩ | ⟨F305_, hA_, g306_, s307_, c301_, c302_, c303_, c304_⟩)
          ·
            subst hA_
            have g308_ : fs [(344, 344, 5, 5), (344, 344, 9, 10), (358, 358, 0, 100000), (360, 363, 0, 100000)] F F298_ := fs_tr g287_ s300_ rfl
            have rk309_ : rk K F298_ := rk_fs rk288_ s300_ (fun r k h => (fs_n (by omega) (fs_n (by omega) (fs_n (by omega) (fs_n (by omega) rfl))))) (fs_n (by omega) (fs_n (by omega) (fs_n (by omega) (fs_n (by omega) rfl))))
            have c296_k := c296_.2 (by omega)
            clear c296_
            refine ga_aload_n (v := .ref 344) hm_175 rfl rfl rfl ?_
            refine fl_bipush hm_175 rfl rfl ?_
            have b310_ : 0 ≤ F298_ 344 5 ∧ F298_ 344 5 ≤ 600 := gi_g g299_ rfl
            refine gVi (nY := 2) (F := 1) (L := 20) (As := [.int (Int32.ofInt 41)]) (b := 344) (rest := []) hm_175 rfl hm_52 rfl rfl (fl_ob sc_344) rfl rfl rfl rfl rfl (by omega) (by omega) (mc_52 hG F298_ X g299_ (K) (41) hgK rk309_ hkt (by omega) (by omega)) (fun _ _ h => False.elim h) ?_
            have b312_ : 0 ≤ F298_ 344 9 ∧ F298_ 344 9 ≤ 5 := gi_g g299_ rfl
            rintro z311_ A1_ (⟨hA_, hz_, c313_⟩ | ⟨hA_, hz_, c314_, c315_⟩)
            ·
              subst hA_
              subst hz_
              refine fl_if_ne hm_175 rfl ⟨by omega, by omega⟩ (fun h => absurd h (by omega)) (fun _ => ?_)
              refine fl_iconst hm_175 rfl ?_
              refine fl_goto hm_175 rfl ?_
              refine ga_istore_n (lv2 := [(3, .int (Int32.ofInt 1)), (0, .ref 344), (1, .int (Int32.ofInt a)), (2, .int (Int32.ofInt at_))]) hm_175 rfl (Nat.le_of_ble_eq_true rfl) rfl ?_
              refine fl_goto hm_175 rfl ?_
              refine ga_iload_n (z := 1) hm_175 rfl rfl ?_
              refine fl_if_eq hm_175 rfl ⟨by omega, by omega⟩ (fun h => absurd h (by omega)) (fun _ => ?_)
              refine ga_aload_n (v := .ref 344) hm_175 rfl rfl rfl ?_
              refine gIi (nY := 1) (F := 0) (L := 0) (As := []) (b := 344) (rest := []) hm_175 rfl hm_59 rfl rfl (fl_ob sc_344) rfl rfl rfl rfl rfl (by omega) (by omega) ?_
              intro f316_ l317_ h318_ h319_
              show fl_R xi_ms 59 f316_ l317_ 0 [(0, .ref 344)] [] _ _
              refine ga_aload_n (v := .ref 344) hm_59 rfl rfl rfl ?_
              refine ga_geti (z := F298_ 344 9) hm_59 rfl sc_344 rfl (rfl) ?_
              refine fl_if_le (a := F298_ 344 9) hm_59 rfl ⟨by omega, by omega⟩ (fun h320_ => ?_) (fun h321_ => ?_)
              · exfalso; omega
              refine fl_iconst hm_59 rfl ?_
              refine fl_goto hm_59 rfl ?_
              refine gr_i hm_59 rfl rfl (ga_nb (by omega)) ?_
              clear h318_ h319_ f316_ l317_
              refine fl_if_ne hm_175 rfl ⟨by omega, by omega⟩ (fun _ => ?_) (fun h => absurd (by omega) h)
              refine ga_aload_n (v := .ref 344) hm_175 rfl rfl rfl ?_
              refine fl_bipush hm_175 rfl rfl ?_
              refine gVv (nY := 2) (F := 2) (L := 41) (As := [.int (Int32.ofInt 41)]) (b := 344) (rest := []) hm_175 rfl hm_51 rfl rfl (fl_ob sc_344) rfl rfl rfl rfl rfl (by omega) (by omega) (mc_51 hG F298_ X g299_ (K) (41) (1) hgK rk309_ hkt (by omega) (by omega) (by omega)) (fun _ _ h => False.elim h) ?_
              have b323_ : 0 ≤ F298_ 344 10 ∧ F298_ 344 10 ≤ 600 := gi_g g299_ rfl
              rintro A1_ (⟨F327_, hA_, g328_, s329_, c324_, c325_, c326_⟩ | ⟨F333_, hA_, g334_, s335_, c330_, c331_, c332_⟩)
              ·
                subst hA_
                have g336_ : fs [(344, 344, 5, 5), (344, 344, 9, 10), (358, 358, 0, 100000), (360, 363, 0, 100000)] F F327_ := fs_tr g308_ s329_ rfl
                have rk337_ : rk K F327_ := rk_fs rk309_ s329_ (fun r k h => (fs_n (by omega) (fs_n (by omega) rfl))) (fs_n (by omega) (fs_n (by omega) rfl))
                have c325_k := c325_.2 (by omega)
                clear c325_
                refine gr_v hm_175 rfl rfl ?_
                have b338_ : 0 ≤ F327_ 344 9 ∧ F327_ 344 9 ≤ 5 := gi_g g328_ rfl
                have b339_ : 0 ≤ F327_ 344 10 ∧ F327_ 344 10 ≤ 600 := gi_g g328_ rfl
                have b340_ : 0 ≤ F327_ 344 5 ∧ F327_ 344 5 ≤ 600 := gi_g g328_ rfl
                exact Or.inl ⟨F327_, rfl, g328_, g336_, (by omega), (⟨by intro h0_; have hs_ := c264_s; rw [sp_clause, hk0, pb_r, if_pos hand, hsk]; exact sm1_f hsp9 (sm1_f4 (by omega) (by omega)) (by omega) (by omega), fun h0_ => by exfalso; omega⟩), (by omega)⟩
              exfalso; omega
            exfalso; omega
          exfalso; omega
        exfalso; omega
      exfalso; omega
    have e341_ : F80_ 344 9 = F15_ 344 9 := by rw [q81_]; exact fl_u_ne (by omega)
    have b342_ : 0 ≤ K 1 6 ∧ K 1 6 ≤ 601 := gi_g hgK rfl
    have e343_ : F15_ 358 a.toNat = F 358 a.toNat := (s17_ 358 a.toNat (fs_n (by omega) (fs_n (by omega) rfl))).trans (rfl)
    have e344_ : F80_ 358 a.toNat = F 358 a.toNat := by rw [q81_]; exact (fl_u_ne (by omega)).trans (e343_)
    exact L86_ _ (1) F80_ rfl g82_ fs_refl (by omega) (by omega) (Or.inl ⟨rfl, Or.inl (by omega)⟩) (by omega) (by rw [e344_, hc0]; rfl)
  refine ga_aload_n (v := .ref 344) hm_175 rfl rfl rfl ?_
  refine fl_bipush hm_175 rfl rfl ?_
  have b345_ : 0 ≤ F 344 5 ∧ F 344 5 ≤ 600 := gi_g hgi rfl
  refine gVv (nY := 2) (F := 2) (L := 41) (As := [.int (Int32.ofInt 40)]) (b := 344) (rest := []) hm_175 rfl hm_51 rfl rfl (fl_ob sc_344) rfl rfl rfl rfl rfl (by omega) (by omega) (mc_51 hG F X hgi (K) (40) (0) hgK hrk hkt (by omega) (by omega) (by omega)) (fun _ _ h => False.elim h) ?_
  have b347_ : 0 ≤ F 344 10 ∧ F 344 10 ≤ 600 := gi_g hgi rfl
  rintro A1_ (⟨F351_, hA_, g352_, s353_, c348_, c349_, c350_⟩ | ⟨F357_, hA_, g358_, s359_, c354_, c355_, c356_⟩)
  ·
    subst hA_
    have g360_ : fs [(344, 344, 5, 5), (344, 344, 9, 10), (358, 358, 0, 100000), (360, 363, 0, 100000)] F F351_ := fs_tr fs_refl s353_ rfl
    have rk361_ : rk K F351_ := rk_fs hrk s353_ (fun r k h => (fs_n (by omega) (fs_n (by omega) rfl))) (fs_n (by omega) (fs_n (by omega) rfl))
    have c349_k := c349_.2 (by omega)
    clear c349_
    refine ga_aload_n (v := .ref 344) hm_175 rfl rfl rfl ?_
    refine fl_bipush hm_175 rfl rfl ?_
    have b362_ : 0 ≤ F351_ 344 5 ∧ F351_ 344 5 ≤ 600 := gi_g g352_ rfl
    refine gVi (nY := 4) (F := 1) (L := 21) (As := [.int (Int32.ofInt 8)]) (b := 344) (rest := []) hm_175 rfl hm_56 rfl rfl (fl_ob sc_344) rfl rfl rfl rfl rfl (by omega) (by omega) (mc_56 hG F351_ X g352_ (K) (8) ([97, 110, 100]) hgK rk361_ hkt (by omega) (by omega) (by decide) (kw_8 rk361_)) (fun _ _ h => False.elim h) ?_
    have b364_ : 0 ≤ F351_ 344 9 ∧ F351_ 344 9 ≤ 5 := gi_g g352_ rfl
    rintro z363_ A1_ (⟨hA_, hz_, c365_⟩ | ⟨hA_, hz_, c366_, c367_⟩)
    ·
      subst hA_
      subst hz_
      refine fl_if_ne hm_175 rfl ⟨by omega, by omega⟩ (fun h => absurd h (by omega)) (fun _ => ?_)
      refine ga_aload_n (v := .ref 344) hm_175 rfl rfl rfl ?_
      refine ga_iload_n (z := a) hm_175 rfl rfl ?_
      refine ga_iload_n (z := at_) hm_175 rfl rfl ?_
      have e368_ : F351_ 358 a.toNat = F 358 a.toNat := (s353_ 358 a.toNat (fs_n (by omega) (fs_n (by omega) rfl))).trans (rfl)
      refine gVv (nY := 6) (F := 5) (L := 117) (As := [.int (Int32.ofInt a), .int (Int32.ofInt at_)]) (b := 344) (rest := []) hm_175 rfl hm_179 rfl rfl (fl_ob sc_344) rfl rfl rfl rfl rfl (by omega) (by omega) (mc_179 hG F351_ X g352_ (K) (a) (at_) (k) (l) (tl) (pl) (ps) hgK rk361_ hkt (by omega) ((trm_fs ht s353_ (fun r j hj => (fs_n (by omega) (fs_n (by omega) rfl))))) (hlt) (by omega) ((rpn_fs hpl s353_ (fun _ => (fs_n (by omega) (fs_n (by omega) rfl))) (fs_n (by omega) (fs_n (by omega) rfl)))) (⟨(rprd_fs hps.1 s353_ (fun r j hj => (fs_n (by omega) (fs_n (by omega) rfl)))), hps.2⟩) (by omega) (hla) (fun _ => by omega)) (fun _ _ h => False.elim h) ?_
      have b370_ : 0 ≤ F351_ 344 10 ∧ F351_ 344 10 ≤ 600 := gi_g g352_ rfl
      rintro A1_ (⟨F374_, hA_, g375_, s376_, c371_, c372_, c373_⟩ | ⟨F381_, hA_, g382_, s383_, c377_, c378_, c379_, c380_⟩)
      ·
        subst hA_
        have g384_ : fs [(344, 344, 5, 5), (344, 344, 9, 10), (358, 358, 0, 100000), (360, 363, 0, 100000)] F F374_ := fs_tr g360_ s376_ rfl
        have rk385_ : rk K F374_ := rk_fs rk361_ s376_ (fun r k h => (fs_n (by omega) (fs_n (by omega) (fs_n (by omega) (fs_n (by omega) rfl))))) (fs_n (by omega) (fs_n (by omega) (fs_n (by omega) (fs_n (by omega) rfl))))
        have c372_k := c372_.2 (by omega)
        clear c372_
        refine gr_v hm_175 rfl rfl ?_
        have b386_ : 0 ≤ F374_ 344 9 ∧ F374_ 344 9 ≤ 5 := gi_g g375_ rfl
        have b387_ : 0 ≤ F374_ 344 10 ∧ F374_ 344 10 ≤ 600 := gi_g g375_ rfl
        have b388_ : 0 ≤ F374_ 344 5 ∧ F374_ 344 5 ≤ 600 := gi_g g375_ rfl
        exact Or.inl ⟨F374_, rfl, g375_, g384_, (by omega), (⟨fun h0_ => by exfalso; omega, fun h0_ => by constructor <;> omega⟩), (by omega)⟩
      exfalso; omega
    exfalso; omega
  exfalso; omega

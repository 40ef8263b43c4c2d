def sp_m1 (K : fl_N) (e : Bool) (k : Int) (l tl pl : List Int) (ps : List (List Int)) (m : Nat) (b : Bool) (c p : Int) : PR (Int × Int) := pb (sp_mems K e k l tl pl ps m b c p) (fun q => if K 3 q.1.toNat = 1 then .inr q else pf K q.1 1)
section SM
variable {K : fl_N} {e : Bool} {k : Int} {l tl pl : List Int} {ps : List (List Int)} {i c p : Int}
theorem sm1_e {m : Nat} (h : 0 < i) (hk : K 3 p.toNat = 1) : sp_m1 K e k l tl pl ps m (decide (i = 0)) c p = .inr (p, c) := by
  rw [sp_m1, spm_e (by omega) (by omega), pb_r, if_pos hk]
theorem sm1_u (h : i < 4) (hk : i = 0 ∨ K 3 p.toNat = 0) : sp_m1 K e k l tl pl ps (4 - i).toNat (decide (i = 0)) c p = pb (pb (sp_kind K 0 p) fun p => pb (sp_mem K e k l tl pl ps c p) fun q => sp_mems K e k l tl pl ps (4 - (i + 1)).toNat false q.2 q.1) (fun q => if K 3 q.1.toNat = 1 then .inr q else pf K q.1 1) := by
  rw [sp_m1, spm_step h hk]
theorem sm1_step {p2 p3 : Int} (h : 0 ≤ i ∧ i < 4) (hk : i = 0 ∨ ¬ K 3 p.toNat = 1) (h1 : sp_kind K 0 p = .inr p2) (h2 : sp_lit K k l tl pl ps p2 = .inr p3) : sp_m1 K false k l tl pl ps (4 - i).toNat (decide (i = 0)) c p = sp_m1 K false k l tl pl ps (4 - (i + 1)).toNat false c p3 := by
  have h3 : K 3 p.toNat = 0 := by
    unfold sp_kind at h1
    split at h1
    · assumption
    · cases h1
  rw [sm1_u h.2 (Or.inr h3), h1, pb_r, sp_mem_lit, h2, pb_r, pb_r]
  rfl
theorem sm1_f4 (h : i = 4) (hk : ¬ K 3 p.toNat = 1) : sp_m1 K e k l tl pl ps (4 - i).toNat (decide (i = 0)) c p = .inl (1, K 4 p.toNat) := by
  rw [sp_m1, spm_z (by omega), pb_r, if_neg hk]
  rfl
theorem sm1_f1 {x : Int × Int} (h : 0 ≤ i ∧ i ≤ 4) (hk : i = 0 ∨ ¬ K 3 p.toNat = 1) (h1 : sp_kind K 0 p = .inl x) : sp_m1 K e k l tl pl ps (4 - i).toNat (decide (i = 0)) c p = .inl x := by
  have h3 : ¬ K 3 p.toNat = 0 := fun h4 => by
    rw [sp_kind, if_pos h4] at h1
    cases h1
  have h5 : x = (1, K 4 p.toNat) := by
    rw [sp_kind, if_neg h3] at h1
    exact (Sum.inl.inj h1).symm
  by_cases e0 : i = 0
  · rw [sm1_u (by omega) (Or.inl e0), h1]
    rfl
  · rw [sp_m1, spm_e e0 h3]
    show (if K 3 p.toNat = 1 then _ else _) = _
    rw [if_neg (by omega), h5]
    rfl
theorem sm1_fl {x : Int × Int} {p2 : Int} (h : 0 ≤ i ∧ i < 4) (hk : i = 0 ∨ ¬ K 3 p.toNat = 1) (h1 : sp_kind K 0 p = .inr p2) (h2 : sp_lit K k l tl pl ps p2 = .inl x) : sp_m1 K false k l tl pl ps (4 - i).toNat (decide (i = 0)) c p = .inl x := by
  have h3 : K 3 p.toNat = 0 := by
    unfold sp_kind at h1
    split at h1
    · assumption
    · cases h1
  rw [sm1_u h.2 (Or.inr h3), h1, pb_r, sp_mem_lit, h2]
  rfl
theorem sm1_ok {m : Nat} {b : Bool} {q : Int × Int} (h : sp_m1 K e k l tl pl ps m b c p = .inr q) : sp_mems K e k l tl pl ps m b c p = .inr q := by
  unfold sp_m1 at h
  obtain ⟨a, h1, h2⟩ := pb_ok h
  split at h2
  · rw [h1, Sum.inr.inj h2]
  · cases h2
theorem sm1_f {m : Nat} {b : Bool} {y z : Int} {x : Int × Int} {r : PR (Int × Int)} (h0 : sp_m1 K e k l tl pl ps m b c p = r) (h : r = .inl x) (h1 : x.1 = y) (h2 : x.2 = z) : pb (sp_mems K e k l tl pl ps m b c p) (fun q => pb (sp_kind K 1 q.1) (fun p => .inr (p, q.2))) = (.inl (y, z) : PR (Int × Int)) := by
  rw [h] at h0
  unfold sp_m1 at h0
  cases hx : sp_mems K e k l tl pl ps m b c p with
  | inl e2 =>
    rw [hx] at h0
    have h9 : e2 = x := Sum.inl.inj h0
    rw [h9, pb_l, ← h1, ← h2]
  | inr a =>
    rw [hx, pb_r] at h0
    split at h0
    · cases h0
    · rename_i hk
      rw [pb_r, sp_kind, if_neg hk]
      have h9 : (1, K 4 a.1.toNat) = x := Sum.inl.inj h0
      show Sum.inl (1, K 4 _) = _
      rw [h9, ← h1, ← h2]
end SM

/- CheapPlannerModel.readCondition -/
abbrev pq_175 (G : Nat → Nat → Option Nat) (F : fl_N) (X : xi_H) (K : fl_N) (a at_ k : Int) (l tl pl : List Int) (ps : List (List Int)) : Outcome → xi_H → Prop := gqv (fun A => (∃ F' : fl_N, fl_H sh_T G F' ++ X = A ∧ gi F' ∧ fs [(344, 344, 5, 5), (344, 344, 9, 10), (358, 358, 0, 100000), (360, 363, 0, 100000)] F F' ∧ (¬ F' 344 9 = 0) ∧ ((F 344 9 = 0 → sp_clause K false k l tl pl ps (F 344 5) = .inl (F' 344 9, F' 344 10)) ∧ (¬ F 344 9 = 0 → F' 344 9 = F 344 9 ∧ F' 344 10 = F 344 10)) ∧ (0 ≤ F' 344 5 ∧ F' 344 5 ≤ K 1 6 - 1)) ∨ (∃ F' : fl_N, fl_H sh_T G F' ++ X = A ∧ gi F' ∧ fs [(344, 344, 5, 5), (344, 344, 9, 10), (358, 358, 0, 100000), (360, 363, 0, 100000)] F F' ∧ (F' 344 9 = 0 ∧ F 344 9 = 0) ∧ (sp_clause K false k l tl pl ps (F 344 5) = .inr (F' 344 5, 0)) ∧ (0 ≤ F' 344 5 ∧ F' 344 5 ≤ K 1 6 - 1) ∧ (lfr a.toNat at_.toNat (at_.toNat + 4) F F') ∧ (rcl F' at_.toNat (clause_d K false k l tl pl ps (F 344 5)) ∧ F' 358 a.toNat = ((clause_d K false k l tl pl ps (F 344 5)).length : Int)))) gqn
set_option maxHeartbeats 16000000 in
theorem mc_175 {G : Nat → Nat → Option Nat} (hG : gg G) (F : fl_N) (X : xi_H) (hgi : gi F) (K : fl_N) (a at_ k : Int) (l tl pl : List Int) (ps : List (List Int)) (hgK : gi K) (hrk : rk K F) (hkt : rkt K) (hp : 0 ≤ F 344 5 ∧ F 344 5 ≤ K 1 6 - 1) (ht : trm F a k l tl) (hlt : l.length = tl.length) (ha : 0 ≤ a ∧ a ≤ 5) (hpl : rpn (F 350) (F 344 17) pl) (hps : rprd F ps ∧ ps.length = pl.length) (hat : 0 ≤ at_ ∧ at_ ≤ 40) (hla : rla a at_) (hc0 : F 358 a.toNat = 0) : fl_M xi_ms 175 6 142 [.ref 344, .int (Int32.ofInt a), .int (Int32.ofInt at_)] (fl_H sh_T G F ++ X) (pq_175 G F X K a at_ k l tl pl ps) := by
  intro fr lo hfr hlo
  show fl_R xi_ms 175 fr lo 0 [(0, .ref 344), (1, .int (Int32.ofInt a)), (2, .int (Int32.ofInt at_))] [] _ _
  have hP := (rkt_p hkt hp.1 hp.2 hgK).1
  have hK16 : 0 ≤ K 1 6 ∧ K 1 6 ≤ 601 := gi_g hgK rfl
  have hko := hkt.1
  have b1_ : 0 ≤ F 344 9 ∧ F 344 9 ≤ 5 := gi_g hgi rfl
  by_cases h2_ : F 344 9 = 0
  ·
    refine ga_aload_n (v := .ref 344) hm_175 rfl rfl rfl ?_
    refine fl_bipush hm_175 rfl rfl ?_
    have b3_ : 0 ≤ F 344 5 ∧ F 344 5 ≤ 600 := gi_g hgi rfl
    refine gVv (nY := 2) (F := 2) (L := 41) (As := [.int (Int32.ofInt 40)]) (b := 344) (rest := []) hm_175 rfl hm_51 rfl rfl (fl_ob sc_344) rfl rfl rfl rfl rfl (by omega) (by omega) (mc_51 hG F X hgi (K) (40) (0) hgK hrk hkt (by omega) (by omega) (by omega)) (fun _ _ h => False.elim h) ?_
    have b5_ : 0 ≤ F 344 10 ∧ F 344 10 ≤ 600 := gi_g hgi rfl
    rintro A1_ (⟨F9_, hA_, g10_, s11_, c6_, c7_, c8_⟩ | ⟨F15_, hA_, g16_, s17_, c12_, c13_, c14_⟩)
    ·
      subst hA_
      have g18_ : fs [(344, 344, 5, 5), (344, 344, 9, 10), (358, 358, 0, 100000), (360, 363, 0, 100000)] F F9_ := fs_tr fs_refl s11_ rfl
      have rk19_ : rk K F9_ := rk_fs hrk s11_ (fun r k h => (fs_n (by omega) (fs_n (by omega) rfl))) (fs_n (by omega) (fs_n (by omega) rfl))
      have c7_s := c7_.1 (by omega)
      clear c7_
      refine ga_aload_n (v := .ref 344) hm_175 rfl rfl rfl ?_
      refine fl_bipush hm_175 rfl rfl ?_
      have b20_ : 0 ≤ F9_ 344 5 ∧ F9_ 344 5 ≤ 600 := gi_g g10_ rfl
      refine gVi (nY := 4) (F := 1) (L := 21) (As := [.int (Int32.ofInt 8)]) (b := 344) (rest := []) hm_175 rfl hm_56 rfl rfl (fl_ob sc_344) rfl rfl rfl rfl rfl (by omega) (by omega) (mc_56 hG F9_ X g10_ (K) (8) ([97, 110, 100]) hgK rk19_ hkt (by omega) (by omega) (by decide) (kw_8 rk19_)) (fun _ _ h => False.elim h) ?_
      have b22_ : 0 ≤ F9_ 344 9 ∧ F9_ 344 9 ≤ 5 := gi_g g10_ rfl
      rintro z21_ A1_ (⟨hA_, hz_, c23_⟩ | ⟨hA_, hz_, c24_, c25_⟩)
      ·
        subst hA_
        subst hz_
        refine fl_if_ne hm_175 rfl ⟨by omega, by omega⟩ (fun h => absurd h (by omega)) (fun _ => ?_)
        refine ga_aload_n (v := .ref 344) hm_175 rfl rfl rfl ?_
        refine ga_iload_n (z := a) hm_175 rfl rfl ?_
        refine ga_iload_n (z := at_) hm_175 rfl rfl ?_
        have e26_ : F9_ 358 a.toNat = F 358 a.toNat := (s11_ 358 a.toNat (fs_n (by omega) (fs_n (by omega) rfl))).trans (rfl)
        refine gVv (nY := 6) (F := 5) (L := 117) (As := [.int (Int32.ofInt a), .int (Int32.ofInt at_)]) (b := 344) (rest := []) hm_175 rfl hm_179 rfl rfl (fl_ob sc_344) rfl rfl rfl rfl rfl (by omega) (by omega) (mc_179 hG F9_ X g10_ (K) (a) (at_) (k) (l) (tl) (pl) (ps) hgK rk19_ hkt (by omega) ((trm_fs ht s11_ (fun r j hj => (fs_n (by omega) (fs_n (by omega) rfl))))) (hlt) (by omega) ((rpn_fs hpl s11_ (fun _ => (fs_n (by omega) (fs_n (by omega) rfl))) (fs_n (by omega) (fs_n (by omega) rfl)))) (⟨(rprd_fs hps.1 s11_ (fun r j hj => (fs_n (by omega) (fs_n (by omega) rfl)))), hps.2⟩) (by omega) (hla) (fun _ => by omega)) (fun _ _ h => False.elim h) ?_
        have b28_ : 0 ≤ F9_ 344 10 ∧ F9_ 344 10 ≤ 600 := gi_g g10_ rfl
        rintro A1_ (⟨F32_, hA_, g33_, s34_, c29_, c30_, c31_⟩ | ⟨F41_, hA_, g42_, s43_, c35_, c36_, c37_, c38_, c39_, c40_⟩)
        ·
          subst hA_
          have g44_ : fs [(344, 344, 5, 5), (344, 344, 9, 10), (358, 358, 0, 100000), (360, 363, 0, 100000)] F F32_ := fs_tr g18_ s34_ rfl
          have rk45_ : rk K F32_ := rk_fs rk19_ s34_ (fun r k h => (fs_n (by omega) (fs_n (by omega) (fs_n (by omega) (fs_n (by omega) rfl))))) (fs_n (by omega) (fs_n (by omega) (fs_n (by omega) (fs_n (by omega) rfl))))
          have c30_k := c30_.2 (by omega)
          clear c30_
          refine gr_v hm_175 rfl rfl ?_
          have b46_ : 0 ≤ F32_ 344 9 ∧ F32_ 344 9 ≤ 5 := gi_g g33_ rfl
          have b47_ : 0 ≤ F32_ 344 10 ∧ F32_ 344 10 ≤ 600 := gi_g g33_ rfl
          have b48_ : 0 ≤ F32_ 344 5 ∧ F32_ 344 5 ≤ 600 := gi_g g33_ rfl
          exact Or.inl ⟨F32_, rfl, g33_, g44_, (by omega), (⟨by intro h0_; have hs_ := c7_s; rw [sp_clause, hs_]; show Sum.inl _ = _; try (congr 2 <;> omega), fun h0_ => by exfalso; omega⟩), (by omega)⟩
        exfalso; omega
      exfalso; omega
    subst hA_
    have g49_ : fs [(344, 344, 5, 5), (344, 344, 9, 10), (358, 358, 0, 100000), (360, 363, 0, 100000)] F F15_ := fs_tr fs_refl s17_ rfl
    have rk50_ : rk K F15_ := rk_fs hrk s17_ (fun r k h => (fs_n (by omega) (fs_n (by omega) rfl))) (fs_n (by omega) (fs_n (by omega) rfl))
    refine ga_aload_n (v := .ref 344) hm_175 rfl rfl rfl ?_
    refine fl_bipush hm_175 rfl rfl ?_
    have b51_ : 0 ≤ F15_ 344 5 ∧ F15_ 344 5 ≤ 600 := gi_g g16_ rfl
    refine gVi (nY := 4) (F := 1) (L := 21) (As := [.int (Int32.ofInt 8)]) (b := 344) (rest := []) hm_175 rfl hm_56 rfl rfl (fl_ob sc_344) rfl rfl rfl rfl rfl (by omega) (by omega) (mc_56 hG F15_ X g16_ (K) (8) ([97, 110, 100]) hgK rk50_ hkt (by omega) (by omega) (by decide) (kw_8 rk50_)) (fun _ _ h => False.elim h) ?_
    have b53_ : 0 ≤ F15_ 344 9 ∧ F15_ 344 9 ≤ 5 := gi_g g16_ rfl
    rintro z52_ A1_ (⟨hA_, hz_, c54_⟩ | ⟨hA_, hz_, c55_, c56_⟩)
    ·
      subst hA_
      subst hz_
      refine fl_if_ne hm_175 rfl ⟨by omega, by omega⟩ (fun h => absurd h (by omega)) (fun _ => ?_)
      refine ga_aload_n (v := .ref 344) hm_175 rfl rfl rfl ?_
      refine ga_iload_n (z := a) hm_175 rfl rfl ?_
      refine ga_iload_n (z := at_) hm_175 rfl rfl ?_
      have e57_ : F15_ 358 a.toNat = F 358 a.toNat := (s17_ 358 a.toNat (fs_n (by omega) (fs_n (by omega) rfl))).trans (rfl)
      refine gVv (nY := 6) (F := 5) (L := 117) (As := [.int (Int32.ofInt a), .int (Int32.ofInt at_)]) (b := 344) (rest := []) hm_175 rfl hm_179 rfl rfl (fl_ob sc_344) rfl rfl rfl rfl rfl (by omega) (by omega) (mc_179 hG F15_ X g16_ (K) (a) (at_) (k) (l) (tl) (pl) (ps) hgK rk50_ hkt (by omega) ((trm_fs ht s17_ (fun r j hj => (fs_n (by omega) (fs_n (by omega) rfl))))) (hlt) (by omega) ((rpn_fs hpl s17_ (fun _ => (fs_n (by omega) (fs_n (by omega) rfl))) (fs_n (by omega) (fs_n (by omega) rfl)))) (⟨(rprd_fs hps.1 s17_ (fun r j hj => (fs_n (by omega) (fs_n (by omega) rfl)))), hps.2⟩) (by omega) (hla) (fun _ => by omega)) (fun _ _ h => False.elim h) ?_
      have b59_ : 0 ≤ F15_ 344 10 ∧ F15_ 344 10 ≤ 600 := gi_g g16_ rfl
      rintro A1_ (⟨F63_, hA_, g64_, s65_, c60_, c61_, c62_⟩ | ⟨F72_, hA_, g73_, s74_, c66_, c67_, c68_, c69_, c70_, c71_⟩)
      ·
        subst hA_
        have g75_ : fs [(344, 344, 5, 5), (344, 344, 9, 10), (358, 358, 0, 100000), (360, 363, 0, 100000)] F F63_ := fs_tr g49_ s65_ rfl
        have rk76_ : rk K F63_ := rk_fs rk50_ s65_ (fun r k h => (fs_n (by omega) (fs_n (by omega) (fs_n (by omega) (fs_n (by omega) rfl))))) (fs_n (by omega) (fs_n (by omega) (fs_n (by omega) (fs_n (by omega) rfl))))
        have c61_s := c61_.1 (by omega)
        clear c61_
        refine gr_v hm_175 rfl rfl ?_
        have b77_ : 0 ≤ F63_ 344 9 ∧ F63_ 344 9 ≤ 5 := gi_g g64_ rfl
        have b78_ : 0 ≤ F63_ 344 10 ∧ F63_ 344 10 ≤ 600 := gi_g g64_ rfl
        have b79_ : 0 ≤ F63_ 344 5 ∧ F63_ 344 5 ≤ 600 := gi_g g64_ rfl
        exact Or.inl ⟨F63_, rfl, g64_, g75_, (by omega), (⟨by intro h0_; have hs_ := c61_s; rw [sp_clause, c13_, pb_r, if_neg (fun h8_ => c54_ ⟨by omega, h8_⟩), sp_mem_lit, hs_]; show Sum.inl _ = _; try (congr 2 <;> omega), fun h0_ => by exfalso; omega⟩), (by omega)⟩
      subst hA_
      have g80_ : fs [(344, 344, 5, 5), (344, 344, 9, 10), (358, 358, 0, 100000), (360, 363, 0, 100000)] F F72_ := fs_tr g49_ s74_ rfl
      have rk81_ : rk K F72_ := rk_fs rk50_ s74_ (fun r k h => (fs_n (by omega) (fs_n (by omega) (fs_n (by omega) (fs_n (by omega) rfl))))) (fs_n (by omega) (fs_n (by omega) (fs_n (by omega) (fs_n (by omega) rfl))))
      try simp only [e57_] at c69_
      try simp only [e57_] at c70_
      try simp only [e57_] at c71_
      obtain ⟨x_, hx1_, hx2_⟩ := c71_
      refine gr_v hm_175 rfl rfl ?_
      have b82_ : 0 ≤ F72_ 344 9 ∧ F72_ 344 9 ≤ 5 := gi_g g73_ rfl
      have b83_ : 0 ≤ F72_ 344 5 ∧ F72_ 344 5 ≤ 600 := gi_g g73_ rfl
      exact Or.inr (⟨F72_, rfl, g73_, g80_, (by omega), (by rw [sp_clause, c13_, pb_r, if_neg (fun h8_ => c54_ ⟨by omega, h8_⟩), sp_mem_lit, c67_]; rfl), (by omega), ((lfr_tr (lfr_fg lfr_r s17_ rfl) c70_ (by first | omega | (simp <;> omega)) (by first | omega | (simp <;> omega)))), (by have hcd_ : clause_d K false k l tl pl ps (F 344 5) = [x_] := (by rw [clause_d, ks_ok c13_, if_neg (fun h8_ => c54_ ⟨by omega, h8_⟩), hx1_]); rw [hcd_]; exact ⟨rcl_add rcl_nil (by simp; omega) hx2_, by simp; omega⟩)⟩)
    subst hA_
    subst hz_
    refine fl_if_ne hm_175 rfl ⟨by omega, by omega⟩ (fun _ => ?_) (fun h => absurd (by omega) h)
    have hk0 := c13_
    have hand := c55_.2
    have hsk : sk K (F15_ 344 5) = F15_ 344 5 + 1 := by rw [sk, if_pos (by omega)]
    refine ga_aload_n (v := .ref 344) hm_175 rfl rfl rfl ?_
    refine ga_dup hm_175 rfl rfl ?_
    refine ga_geti (z := F15_ 344 5) hm_175 rfl sc_344 rfl (rfl) ?_
    refine fl_iconst hm_175 rfl ?_
    refine ga_iadd (a := F15_ 344 5) (b := 1) (c := F15_ 344 5 + 1) hm_175 rfl (by omega) ?_
    refine ga_puti (z := F15_ 344 5 + 1) hm_175 rfl sc_344 rfl rfl ?_
    refine fl_iconst hm_175 rfl ?_
    refine ga_istore_n (lv2 := [(3, .int (Int32.ofInt 1)), (0, .ref 344), (1, .int (Int32.ofInt a)), (2, .int (Int32.ofInt at_))]) hm_175 rfl (Nat.le_of_ble_eq_true rfl) rfl ?_
    obtain ⟨F84_, q85_⟩ : ∃ F9_, F9_ = (fl_u F15_ 344 5 (F15_ 344 5 + 1)) := ⟨_, rfl⟩
    rw [← q85_]
    have g86_ : gi F84_ := by rw [q85_]; exact gi_u (g16_) rfl (by omega) (by omega)
    have g87_ : fs [(344, 344, 5, 5), (344, 344, 9, 10), (358, 358, 0, 100000), (360, 363, 0, 100000)] F F84_ := by rw [q85_]; exact fs_u (g49_) rfl
    have rk88_ : rk K F84_ := by rw [q85_]; exact rk_u (rk50_) (by omega) (by omega)
    have e92_ : F84_ 344 5 = F15_ 344 5 + 1 := by rw [q85_]; exact fl_u_eq
    have L90_ : ∀ (n89_ : Nat) (mo : Int) (L : List lt_T) (F1 : fl_N), (5 - F1 358 a.toNat : Int).toNat = n89_ → (gi F1) → (fs [(344, 344, 5, 5), (344, 344, 9, 10), (358, 358, 0, 100000), (360, 363, 0, 100000)] F84_ F1) → (F1 344 9 = 0) → (0 ≤ F1 358 a.toNat ∧ F1 358 a.toNat ≤ 4) → ((mo = 1 ∧ (F1 358 a.toNat = 0 ∨ ¬ K 3 (F1 344 5).toNat = 1)) ∨ (mo = 0 ∧ 0 < F1 358 a.toNat ∧ K 3 (F1 344 5).toNat = 1)) → (0 ≤ F1 344 5 ∧ F1 344 5 ≤ K 1 6 - 1) → (sp_m1 K false k l tl pl ps 4 true 0 (F84_ 344 5) = sp_m1 K false k l tl pl ps (4 - F1 358 a.toNat).toNat (decide (F1 358 a.toNat = 0)) 0 (F1 344 5)) → ((L.length : Int) = F1 358 a.toNat) → (rcl F1 at_.toNat L) → (lfr a.toNat at_.toNat (at_.toNat + 4) F F1) → (mems_d K false k l tl pl ps 4 true 0 (F84_ 344 5) = L ++ mems_d K false k l tl pl ps (4 - F1 358 a.toNat).toNat (decide (F1 358 a.toNat = 0)) 0 (F1 344 5)) → fl_R xi_ms 175 fr lo 34 [(3, .int (Int32.ofInt mo)), (0, .ref 344), (1, .int (Int32.ofInt a)), (2, .int (Int32.ofInt at_))] [] (fl_H sh_T G F1 ++ X) (pq_175 G F X K a at_ k l tl pl ps) := by
      intro n89_
      induction n89_ using Nat.strongRecOn with
      | ind n89_ ih91_ =>
      intro mo L F1 hn93_ hg_F1 hf_F1 hk hcn hmo hp1 hsp hrn hrc hlf hcd2
      have g94_ : fs [(344, 344, 5, 5), (344, 344, 9, 10), (358, 358, 0, 100000), (360, 363, 0, 100000)] F F1 := fs_tr g87_ hf_F1 rfl
      have rk95_ : rk K F1 := rk_fs rk88_ hf_F1 (fun r k h => (fs_n (by omega) (fs_n (by omega) (fs_n (by omega) (fs_n (by omega) rfl))))) (fs_n (by omega) (fs_n (by omega) (fs_n (by omega) (fs_n (by omega) rfl))))
      have hP1 := (rkt_p hkt (p := F1 344 5) (by omega) (by omega) hgK).1
      have hsp9 := hsp
      rw [show F84_ 344 5 = F15_ 344 5 + 1 from by omega] at hsp9
      have hcd9 := hcd2
      rw [show F84_ 344 5 = F15_ 344 5 + 1 from by omega] at hcd9
      refine ga_iload_n (z := mo) hm_175 rfl rfl ?_
      refine fl_if_eq (a := mo) hm_175 rfl ⟨by omega, by omega⟩ (fun h96_ => ?_) (fun h97_ => ?_)
      ·
        refine ga_aload_n (v := .ref 344) hm_175 rfl rfl rfl ?_
        refine fl_bipush hm_175 rfl rfl ?_
        have b98_ : 0 ≤ F1 344 5 ∧ F1 344 5 ≤ 600 := gi_g hg_F1 rfl
        refine gVv (nY := 2) (F := 2) (L := 41) (As := [.int (Int32.ofInt 41)]) (b := 344) (rest := []) hm_175 rfl hm_51 rfl rfl (fl_ob sc_344) rfl rfl rfl rfl rfl (by omega) (by omega) (mc_51 hG F1 X hg_F1 (K) (41) (1) hgK rk95_ hkt (by omega) (by omega) (by omega)) (fun _ _ h => False.elim h) ?_
        have b100_ : 0 ≤ F1 344 10 ∧ F1 344 10 ≤ 600 := gi_g hg_F1 rfl
        have b101_ : 0 ≤ F1 344 9 ∧ F1 344 9 ≤ 5 := gi_g hg_F1 rfl
        rintro A1_ (⟨F105_, hA_, g106_, s107_, c102_, c103_, c104_⟩ | ⟨F111_, hA_, g112_, s113_, c108_, c109_, c110_⟩)
        ·
          subst hA_
          have g114_ : fs [(344, 344, 5, 5), (344, 344, 9, 10), (358, 358, 0, 100000), (360, 363, 0, 100000)] F F105_ := fs_tr g94_ s107_ rfl
          have rk115_ : rk K F105_ := rk_fs rk95_ s107_ (fun r k h => (fs_n (by omega) (fs_n (by omega) rfl))) (fs_n (by omega) (fs_n (by omega) rfl))
          have c103_s := c103_.1 (by omega)
          clear c103_
          refine gr_v hm_175 rfl rfl ?_
          have b116_ : 0 ≤ F105_ 344 9 ∧ F105_ 344 9 ≤ 5 := gi_g g106_ rfl
          have b117_ : 0 ≤ F105_ 344 10 ∧ F105_ 344 10 ≤ 600 := gi_g g106_ rfl
          have b118_ : 0 ≤ F105_ 344 5 ∧ F105_ 344 5 ≤ 600 := gi_g g106_ rfl
          exact Or.inl ⟨F105_, rfl, g106_, g114_, (by omega), (⟨by intro h0_; have hs_ := c103_s; exfalso; rw [sp_kind, if_pos (by omega)] at hs_; exact (nomatch hs_), fun h0_ => by exfalso; omega⟩), (by omega)⟩
        subst hA_
        have g119_ : fs [(344, 344, 5, 5), (344, 344, 9, 10), (358, 358, 0, 100000), (360, 363, 0, 100000)] F F111_ := fs_tr g94_ s113_ rfl
        have rk120_ : rk K F111_ := rk_fs rk95_ s113_ (fun r k h => (fs_n (by omega) (fs_n (by omega) rfl))) (fs_n (by omega) (fs_n (by omega) rfl))
        refine gr_v hm_175 rfl rfl ?_
        have b121_ : 0 ≤ F111_ 344 9 ∧ F111_ 344 9 ≤ 5 := gi_g g112_ rfl
        have b122_ : 0 ≤ F111_ 344 5 ∧ F111_ 344 5 ≤ 600 := gi_g g112_ rfl
        have e123_ : F111_ 358 a.toNat = F1 358 a.toNat := (s113_ 358 a.toNat (fs_n (by omega) (fs_n (by omega) rfl))).trans (rfl)
        exact Or.inr (⟨F111_, rfl, g112_, g119_, (by omega), (by rw [sp_clause, hk0, pb_r, if_pos hand, hsk, sm1_ok (hsp9.trans (sm1_e (by omega) (by omega))), pb_r, c109_]; rfl), (by omega), ((lfr_fg hlf s113_ rfl)), (by have hcd_ : clause_d K false k l tl pl ps (F 344 5) = L := (by rw [clause_d, ks_ok hk0, if_pos hand, hsk, hcd9, md_e (by omega) (by omega), List.append_nil]); rw [hcd_]; exact ⟨rcl_lfr hrc (show lfr a.toNat 0 0 F1 F111_ from (lfr_fg lfr_r s113_ rfl)) (by omega), by omega⟩)⟩)
      refine ga_aload_n (v := .ref 344) hm_175 rfl rfl rfl ?_
      refine gIi (nY := 1) (F := 0) (L := 0) (As := []) (b := 344) (rest := []) hm_175 rfl hm_59 rfl rfl (fl_ob sc_344) rfl rfl rfl rfl rfl (by omega) (by omega) ?_
      intro f124_ l125_ h126_ h127_
      show fl_R xi_ms 59 f124_ l125_ 0 [(0, .ref 344)] [] _ _
      refine ga_aload_n (v := .ref 344) hm_59 rfl rfl rfl ?_
      have b128_ : 0 ≤ F1 344 9 ∧ F1 344 9 ≤ 5 := gi_g hg_F1 rfl
      refine ga_geti (z := F1 344 9) hm_59 rfl sc_344 rfl (rfl) ?_
      refine fl_if_le (a := F1 344 9) hm_59 rfl ⟨by omega, by omega⟩ (fun h129_ => ?_) (fun h130_ => ?_)
      ·
        refine fl_iconst hm_59 rfl ?_
        refine gr_i hm_59 rfl rfl (ga_nb (by omega)) ?_
        clear h126_ h127_ f124_ l125_
        refine fl_if_ne hm_175 rfl ⟨by omega, by omega⟩ (fun h => absurd h (by omega)) (fun _ => ?_)
        refine ga_aload_n (v := .ref 344) hm_175 rfl rfl rfl ?_
        refine ga_getr (b := 358) hm_175 rfl sc_344 rfl ?_
        refine ga_iload_n (z := a) hm_175 rfl rfl ?_
        have b131_ : 0 ≤ F1 358 a.toNat ∧ F1 358 a.toNat ≤ 4 := gi_g hg_F1 rfl
        refine ga_iald (z := a) (w := F1 358 a.toNat) hm_175 rfl sc_358 (by omega) (by omega) (by omega) (rfl) ?_
        refine fl_iconst hm_175 rfl ?_
        refine fx_icmp_ne (a := F1 358 a.toNat) (b := 4) hm_175 rfl ⟨by omega, by omega⟩ ⟨by omega, by omega⟩ (fun h132_ => ?_) (fun h133_ => ?_)
        ·
          refine ga_aload_n (v := .ref 344) hm_175 rfl rfl rfl ?_
          refine fl_bipush hm_175 rfl rfl ?_
          have b134_ : 0 ≤ F1 344 5 ∧ F1 344 5 ≤ 600 := gi_g hg_F1 rfl
          refine gVv (nY := 2) (F := 2) (L := 41) (As := [.int (Int32.ofInt 40)]) (b := 344) (rest := []) hm_175 rfl hm_51 rfl rfl (fl_ob sc_344) rfl rfl rfl rfl rfl (by omega) (by omega) (mc_51 hG F1 X hg_F1 (K) (40) (0) hgK rk95_ hkt (by omega) (by omega) (by omega)) (fun _ _ h => False.elim h) ?_
          have b136_ : 0 ≤ F1 344 10 ∧ F1 344 10 ≤ 600 := gi_g hg_F1 rfl
          rintro A1_ (⟨F140_, hA_, g141_, s142_, c137_, c138_, c139_⟩ | ⟨F146_, hA_, g147_, s148_, c143_, c144_, c145_⟩)
          ·
            subst hA_
            have g149_ : fs [(344, 344, 5, 5), (344, 344, 9, 10), (358, 358, 0, 100000), (360, 363, 0, 100000)] F F140_ := fs_tr g94_ s142_ rfl
            have rk150_ : rk K F140_ := rk_fs rk95_ s142_ (fun r k h => (fs_n (by omega) (fs_n (by omega) rfl))) (fs_n (by omega) (fs_n (by omega) rfl))
            have c138_s := c138_.1 (by omega)
            clear c138_
            refine ga_aload_n (v := .ref 344) hm_175 rfl rfl rfl ?_
            refine ga_iload_n (z := a) hm_175 rfl rfl ?_
            refine ga_iload_n (z := at_) hm_175 rfl rfl ?_
            have b151_ : 0 ≤ F140_ 344 5 ∧ F140_ 344 5 ≤ 600 := gi_g g141_ rfl
            have e152_ : F140_ 358 a.toNat = F1 358 a.toNat := (s142_ 358 a.toNat (fs_n (by omega) (fs_n (by omega) rfl))).trans (rfl)
            refine gVv (nY := 6) (F := 5) (L := 117) (As := [.int (Int32.ofInt a), .int (Int32.ofInt at_)]) (b := 344) (rest := []) hm_175 rfl hm_179 rfl rfl (fl_ob sc_344) rfl rfl rfl rfl rfl (by omega) (by omega) (mc_179 hG F140_ X g141_ (K) (a) (at_) (k) (l) (tl) (pl) (ps) hgK rk150_ hkt (by omega) ((trm_fs (trm_fs (by rw [q85_]; exact (trm_u (trm_fs ht s17_ (fun r j hj => (fs_n (by omega) (fs_n (by omega) rfl)))) (by omega))) hf_F1 (fun r j hj => (fs_n (by omega) (fs_n (by omega) (fs_n (by omega) (fs_n (by omega) rfl)))))) s142_ (fun r j hj => (fs_n (by omega) (fs_n (by omega) rfl))))) (hlt) (by omega) ((rpn_fs (rpn_fs (by rw [q85_]; exact (rpn_u (rpn_fs hpl s17_ (fun _ => (fs_n (by omega) (fs_n (by omega) rfl))) (fs_n (by omega) (fs_n (by omega) rfl))) (by omega) (by omega))) hf_F1 (fun _ => (fs_n (by omega) (fs_n (by omega) (fs_n (by omega) (fs_n (by omega) rfl))))) (fs_n (by omega) (fs_n (by omega) (fs_n (by omega) (fs_n (by omega) rfl))))) s142_ (fun _ => (fs_n (by omega) (fs_n (by omega) rfl))) (fs_n (by omega) (fs_n (by omega) rfl)))) (⟨(rprd_fs (rprd_fs (by rw [q85_]; exact (rprd_u (rprd_fs hps.1 s17_ (fun r j hj => (fs_n (by omega) (fs_n (by omega) rfl)))) (by omega))) hf_F1 (fun r j hj => (fs_n (by omega) (fs_n (by omega) (fs_n (by omega) (fs_n (by omega) rfl)))))) s142_ (fun r j hj => (fs_n (by omega) (fs_n (by omega) rfl)))), hps.2⟩) (by omega) (hla) (fun _ => by omega)) (fun _ _ h => False.elim h) ?_
            have b154_ : 0 ≤ F140_ 344 10 ∧ F140_ 344 10 ≤ 600 := gi_g g141_ rfl
            have b155_ : 0 ≤ F140_ 344 9 ∧ F140_ 344 9 ≤ 5 := gi_g g141_ rfl
            rintro A1_ (⟨F159_, hA_, g160_, s161_, c156_, c157_, c158_⟩ | ⟨F168_, hA_, g169_, s170_, c162_, c163_, c164_, c165_, c166_, c167_⟩)
            ·
              subst hA_
              have g171_ : fs [(344, 344, 5, 5), (344, 344, 9, 10), (358, 358, 0, 100000), (360, 363, 0, 100000)] F F159_ := fs_tr g149_ s161_ rfl
              have rk172_ : rk K F159_ := rk_fs rk150_ s161_ (fun r k h => (fs_n (by omega) (fs_n (by omega) (fs_n (by omega) (fs_n (by omega) rfl))))) (fs_n (by omega) (fs_n (by omega) (fs_n (by omega) (fs_n (by omega) rfl))))
              have c157_k := c157_.2 (by omega)
              clear c157_
              refine ga_aload_n (v := .ref 344) hm_175 rfl rfl rfl ?_
              refine fl_bipush hm_175 rfl rfl ?_
              have b173_ : 0 ≤ F159_ 344 5 ∧ F159_ 344 5 ≤ 600 := gi_g g160_ rfl
              refine gVi (nY := 2) (F := 1) (L := 20) (As := [.int (Int32.ofInt 41)]) (b := 344) (rest := []) hm_175 rfl hm_52 rfl rfl (fl_ob sc_344) rfl rfl rfl rfl rfl (by omega) (by omega) (mc_52 hG F159_ X g160_ (K) (41) hgK rk172_ hkt (by omega) (by omega)) (fun _ _ h => False.elim h) ?_
              have b175_ : 0 ≤ F159_ 344 9 ∧ F159_ 344 9 ≤ 5 := gi_g g160_ rfl
              rintro z174_ A1_ (⟨hA_, hz_, c176_⟩ | ⟨hA_, hz_, c177_, c178_⟩)
              ·
                subst hA_
                subst hz_
                refine fl_if_ne hm_175 rfl ⟨by omega, by omega⟩ (fun h => absurd h (by omega)) (fun _ => ?_)
                refine fl_iconst hm_175 rfl ?_
                refine fl_goto hm_175 rfl ?_
                refine ga_istore_n (lv2 := [(3, .int (Int32.ofInt 1)), (0, .ref 344), (1, .int (Int32.ofInt a)), (2, .int (Int32.ofInt at_))]) hm_175 rfl (Nat.le_of_ble_eq_true rfl) rfl ?_
                refine fl_goto hm_175 rfl ?_
                refine ga_iload_n (z := 1) hm_175 rfl rfl ?_
                refine fl_if_eq hm_175 rfl ⟨by omega, by omega⟩ (fun h => absurd h (by omega)) (fun _ => ?_)
                refine ga_aload_n (v := .ref 344) hm_175 rfl rfl rfl ?_
                refine gIi (nY := 1) (F := 0) (L := 0) (As := []) (b := 344) (rest := []) hm_175 rfl hm_59 rfl rfl (fl_ob sc_344) rfl rfl rfl rfl rfl (by omega) (by omega) ?_
                intro f179_ l180_ h181_ h182_
                show fl_R xi_ms 59 f179_ l180_ 0 [(0, .ref 344)] [] _ _
                refine ga_aload_n (v := .ref 344) hm_59 rfl rfl rfl ?_
                refine ga_geti (z := F159_ 344 9) hm_59 rfl sc_344 rfl (rfl) ?_
                refine fl_if_le (a := F159_ 344 9) hm_59 rfl ⟨by omega, by omega⟩ (fun h183_ => ?_) (fun h184_ => ?_)
                · exfalso; omega
                refine fl_iconst hm_59 rfl ?_
                refine fl_goto hm_59 rfl ?_
                refine gr_i hm_59 rfl rfl (ga_nb (by omega)) ?_
                clear h181_ h182_ f179_ l180_
                refine fl_if_ne hm_175 rfl ⟨by omega, by omega⟩ (fun _ => ?_) (fun h => absurd (by omega) h)
                refine ga_aload_n (v := .ref 344) hm_175 rfl rfl rfl ?_
                refine fl_bipush hm_175 rfl rfl ?_
                refine gVv (nY := 2) (F := 2) (L := 41) (As := [.int (Int32.ofInt 41)]) (b := 344) (rest := []) hm_175 rfl hm_51 rfl rfl (fl_ob sc_344) rfl rfl rfl rfl rfl (by omega) (by omega) (mc_51 hG F159_ X g160_ (K) (41) (1) hgK rk172_ hkt (by omega) (by omega) (by omega)) (fun _ _ h => False.elim h) ?_
                have b186_ : 0 ≤ F159_ 344 10 ∧ F159_ 344 10 ≤ 600 := gi_g g160_ rfl
                rintro A1_ (⟨F190_, hA_, g191_, s192_, c187_, c188_, c189_⟩ | ⟨F196_, hA_, g197_, s198_, c193_, c194_, c195_⟩)
                ·
                  subst hA_
                  have g199_ : fs [(344, 344, 5, 5), (344, 344, 9, 10), (358, 358, 0, 100000), (360, 363, 0, 100000)] F F190_ := fs_tr g171_ s192_ rfl
                  have rk200_ : rk K F190_ := rk_fs rk172_ s192_ (fun r k h => (fs_n (by omega) (fs_n (by omega) rfl))) (fs_n (by omega) (fs_n (by omega) rfl))
                  have c188_k := c188_.2 (by omega)
                  clear c188_
                  refine gr_v hm_175 rfl rfl ?_
                  have b201_ : 0 ≤ F190_ 344 9 ∧ F190_ 344 9 ≤ 5 := gi_g g191_ rfl
                  have b202_ : 0 ≤ F190_ 344 10 ∧ F190_ 344 10 ≤ 600 := gi_g g191_ rfl
                  have b203_ : 0 ≤ F190_ 344 5 ∧ F190_ 344 5 ≤ 600 := gi_g g191_ rfl
                  exact Or.inl ⟨F190_, rfl, g191_, g199_, (by omega), (⟨by intro h0_; have hs_ := c138_s; rw [sp_clause, hk0, pb_r, if_pos hand, hsk]; exact sm1_f hsp9 (sm1_f1 (by omega) (by omega) hs_) (by omega) (by omega), fun h0_ => by exfalso; omega⟩), (by omega)⟩
                exfalso; omega
              exfalso; omega
            exfalso; omega
          subst hA_
          have g204_ : fs [(344, 344, 5, 5), (344, 344, 9, 10), (358, 358, 0, 100000), (360, 363, 0, 100000)] F F146_ := fs_tr g94_ s148_ rfl
          have rk205_ : rk K F146_ := rk_fs rk95_ s148_ (fun r k h => (fs_n (by omega) (fs_n (by omega) rfl))) (fs_n (by omega) (fs_n (by omega) rfl))
          refine ga_aload_n (v := .ref 344) hm_175 rfl rfl rfl ?_
          refine ga_iload_n (z := a) hm_175 rfl rfl ?_
          refine ga_iload_n (z := at_) hm_175 rfl rfl ?_
          have b206_ : 0 ≤ F146_ 344 5 ∧ F146_ 344 5 ≤ 600 := gi_g g147_ rfl
          have e207_ : F146_ 358 a.toNat = F1 358 a.toNat := (s148_ 358 a.toNat (fs_n (by omega) (fs_n (by omega) rfl))).trans (rfl)
          refine gVv (nY := 6) (F := 5) (L := 117) (As := [.int (Int32.ofInt a), .int (Int32.ofInt at_)]) (b := 344) (rest := []) hm_175 rfl hm_179 rfl rfl (fl_ob sc_344) rfl rfl rfl rfl rfl (by omega) (by omega) (mc_179 hG F146_ X g147_ (K) (a) (at_) (k) (l) (tl) (pl) (ps) hgK rk205_ hkt (by omega) ((trm_fs (trm_fs (by rw [q85_]; exact (trm_u (trm_fs ht s17_ (fun r j hj => (fs_n (by omega) (fs_n (by omega) rfl)))) (by omega))) hf_F1 (fun r j hj => (fs_n (by omega) (fs_n (by omega) (fs_n (by omega) (fs_n (by omega) rfl)))))) s148_ (fun r j hj => (fs_n (by omega) (fs_n (by omega) rfl))))) (hlt) (by omega) ((rpn_fs (rpn_fs (by rw [q85_]; exact (rpn_u (rpn_fs hpl s17_ (fun _ => (fs_n (by omega) (fs_n (by omega) rfl))) (fs_n (by omega) (fs_n (by omega) rfl))) (by omega) (by omega))) hf_F1 (fun _ => (fs_n (by omega) (fs_n (by omega) (fs_n (by omega) (fs_n (by omega) rfl))))) (fs_n (by omega) (fs_n (by omega) (fs_n (by omega) (fs_n (by omega) rfl))))) s148_ (fun _ => (fs_n (by omega) (fs_n (by omega) rfl))) (fs_n (by omega) (fs_n (by omega) rfl)))) (⟨(rprd_fs (rprd_fs (by rw [q85_]; exact (rprd_u (rprd_fs hps.1 s17_ (fun r j hj => (fs_n (by omega) (fs_n (by omega) rfl)))) (by omega))) hf_F1 (fun r j hj => (fs_n (by omega) (fs_n (by omega) (fs_n (by omega) (fs_n (by omega) rfl)))))) s148_ (fun r j hj => (fs_n (by omega) (fs_n (by omega) rfl)))), hps.2⟩) (by omega) (hla) (fun _ => by omega)) (fun _ _ h => False.elim h) ?_
          have b209_ : 0 ≤ F146_ 344 10 ∧ F146_ 344 10 ≤ 600 := gi_g g147_ rfl
          have b210_ : 0 ≤ F146_ 344 9 ∧ F146_ 344 9 ≤ 5 := gi_g g147_ rfl
          rintro A1_ (⟨F214_, hA_, g215_, s216_, c211_, c212_, c213_⟩ | ⟨F223_, hA_, g224_, s225_, c217_, c218_, c219_, c220_, c221_, c222_⟩)
          ·
            subst hA_
            have g226_ : fs [(344, 344, 5, 5), (344, 344, 9, 10), (358, 358, 0, 100000), (360, 363, 0, 100000)] F F214_ := fs_tr g204_ s216_ rfl
            have rk227_ : rk K F214_ := rk_fs rk205_ s216_ (fun r k h => (fs_n (by omega) (fs_n (by omega) (fs_n (by omega) (fs_n (by omega) rfl))))) (fs_n (by omega) (fs_n (by omega) (fs_n (by omega) (fs_n (by omega) rfl))))
            have c212_s := c212_.1 (by omega)
            clear c212_
            refine ga_aload_n (v := .ref 344) hm_175 rfl rfl rfl ?_
            refine fl_bipush hm_175 rfl rfl ?_
            have b228_ : 0 ≤ F214_ 344 5 ∧ F214_ 344 5 ≤ 600 := gi_g g215_ rfl
            refine gVi (nY := 2) (F := 1) (L := 20) (As := [.int (Int32.ofInt 41)]) (b := 344) (rest := []) hm_175 rfl hm_52 rfl rfl (fl_ob sc_344) rfl rfl rfl rfl rfl (by omega) (by omega) (mc_52 hG F214_ X g215_ (K) (41) hgK rk227_ hkt (by omega) (by omega)) (fun _ _ h => False.elim h) ?_
            have b230_ : 0 ≤ F214_ 344 9 ∧ F214_ 344 9 ≤ 5 := gi_g g215_ rfl
            rintro z229_ A1_ (⟨hA_, hz_, c231_⟩ | ⟨hA_, hz_, c232_, c233_⟩)
            ·
              subst hA_
              subst hz_
              refine fl_if_ne hm_175 rfl ⟨by omega, by omega⟩ (fun h => absurd h (by omega)) (fun _ => ?_)
              refine fl_iconst hm_175 rfl ?_
              refine fl_goto hm_175 rfl ?_
              refine ga_istore_n (lv2 := [(3, .int (Int32.ofInt 1)), (0, .ref 344), (1, .int (Int32.ofInt a)), (2, .int (Int32.ofInt at_))]) hm_175 rfl (Nat.le_of_ble_eq_true rfl) rfl ?_
              refine fl_goto hm_175 rfl ?_
              refine ga_iload_n (z := 1) hm_175 rfl rfl ?_
              refine fl_if_eq hm_175 rfl ⟨by omega, by omega⟩ (fun h => absurd h (by omega)) (fun _ => ?_)
              refine ga_aload_n (v := .ref 344) hm_175 rfl rfl rfl ?_
              refine gIi (nY := 1) (F := 0) (L := 0) (As := []) (b := 344) (rest := []) hm_175 rfl hm_59 rfl rfl (fl_ob sc_344) rfl rfl rfl rfl rfl (by omega) (by omega) ?_
              intro f234_ l235_ h236_ h237_
              show fl_R xi_ms 59 f234_ l235_ 0 [(0, .ref 344)] [] _ _
              refine ga_aload_n (v := .ref 344) hm_59 rfl rfl rfl ?_
              refine ga_geti (z := F214_ 344 9) hm_59 rfl sc_344 rfl (rfl) ?_
              refine fl_if_le (a := F214_ 344 9) hm_59 rfl ⟨by omega, by omega⟩ (fun h238_ => ?_) (fun h239_ => ?_)
              · exfalso; omega
              refine fl_iconst hm_59 rfl ?_
              refine fl_goto hm_59 rfl ?_
              refine gr_i hm_59 rfl rfl (ga_nb (by omega)) ?_
              clear h236_ h237_ f234_ l235_
              refine fl_if_ne hm_175 rfl ⟨by omega, by omega⟩ (fun _ => ?_) (fun h => absurd (by omega) h)
              refine ga_aload_n (v := .ref 344) hm_175 rfl rfl rfl ?_
              refine fl_bipush hm_175 rfl rfl ?_
              refine gVv (nY := 2) (F := 2) (L := 41) (As := [.int (Int32.ofInt 41)]) (b := 344) (rest := []) hm_175 rfl hm_51 rfl rfl (fl_ob sc_344) rfl rfl rfl rfl rfl (by omega) (by omega) (mc_51 hG F214_ X g215_ (K) (41) (1) hgK rk227_ hkt (by omega) (by omega) (by omega)) (fun _ _ h => False.elim h) ?_
              have b241_ : 0 ≤ F214_ 344 10 ∧ F214_ 344 10 ≤ 600 := gi_g g215_ rfl
              rintro A1_ (⟨F245_, hA_, g246_, s247_, c242_, c243_, c244_⟩ | ⟨F251_, hA_, g252_, s253_, c248_, c249_, c250_⟩)
              ·
                subst hA_
                have g254_ : fs [(344, 344, 5, 5), (344, 344, 9, 10), (358, 358, 0, 100000), (360, 363, 0, 100000)] F F245_ := fs_tr g226_ s247_ rfl
                have rk255_ : rk K F245_ := rk_fs rk227_ s247_ (fun r k h => (fs_n (by omega) (fs_n (by omega) rfl))) (fs_n (by omega) (fs_n (by omega) rfl))
                have c243_k := c243_.2 (by omega)
                clear c243_
                refine gr_v hm_175 rfl rfl ?_
                have b256_ : 0 ≤ F245_ 344 9 ∧ F245_ 344 9 ≤ 5 := gi_g g246_ rfl
                have b257_ : 0 ≤ F245_ 344 10 ∧ F245_ 344 10 ≤ 600 := gi_g g246_ rfl
                have b258_ : 0 ≤ F245_ 344 5 ∧ F245_ 344 5 ≤ 600 := gi_g g246_ rfl
                exact Or.inl ⟨F245_, rfl, g246_, g254_, (by omega), (⟨by intro h0_; have hs_ := c212_s; rw [sp_clause, hk0, pb_r, if_pos hand, hsk]; exact sm1_f hsp9 (sm1_fl (by omega) (by omega) c144_ hs_) (by omega) (by omega), fun h0_ => by exfalso; omega⟩), (by omega)⟩
              exfalso; omega
            exfalso; omega
          subst hA_
          have g259_ : fs [(344, 344, 5, 5), (344, 344, 9, 10), (358, 358, 0, 100000), (360, 363, 0, 100000)] F F223_ := fs_tr g204_ s225_ rfl
          have rk260_ : rk K F223_ := rk_fs rk205_ s225_ (fun r k h => (fs_n (by omega) (fs_n (by omega) (fs_n (by omega) (fs_n (by omega) rfl))))) (fs_n (by omega) (fs_n (by omega) (fs_n (by omega) (fs_n (by omega) rfl))))
          try simp only [e207_] at c220_
          try simp only [e207_] at c221_
          try simp only [e207_] at c222_
          obtain ⟨x_, hx1_, hx2_⟩ := c222_
          refine ga_aload_n (v := .ref 344) hm_175 rfl rfl rfl ?_
          refine fl_bipush hm_175 rfl rfl ?_
          have b261_ : 0 ≤ F223_ 344 5 ∧ F223_ 344 5 ≤ 600 := gi_g g224_ rfl
          refine gVi (nY := 2) (F := 1) (L := 20) (As := [.int (Int32.ofInt 41)]) (b := 344) (rest := []) hm_175 rfl hm_52 rfl rfl (fl_ob sc_344) rfl rfl rfl rfl rfl (by omega) (by omega) (mc_52 hG F223_ X g224_ (K) (41) hgK rk260_ hkt (by omega) (by omega)) (fun _ _ h => False.elim h) ?_
          have b263_ : 0 ≤ F223_ 344 9 ∧ F223_ 344 9 ≤ 5 := gi_g g224_ rfl
          rintro z262_ A1_ (⟨hA_, hz_, c264_⟩ | ⟨hA_, hz_, c265_, c266_⟩)
          ·
            subst hA_
            subst hz_
            refine fl_if_ne hm_175 rfl ⟨by omega, by omega⟩ (fun h => absurd h (by omega)) (fun _ => ?_)
            refine fl_iconst hm_175 rfl ?_
            refine fl_goto hm_175 rfl ?_
            refine ga_istore_n (lv2 := [(3, .int (Int32.ofInt 1)), (0, .ref 344), (1, .int (Int32.ofInt a)), (2, .int (Int32.ofInt at_))]) hm_175 rfl (Nat.le_of_ble_eq_true rfl) rfl ?_
            refine fl_goto hm_175 rfl ?_
            have b267_ : 0 ≤ K 1 6 ∧ K 1 6 ≤ 601 := gi_g hgK rfl
            exact ih91_ _ (by omega) (1) ((L ++ [x_])) F223_ rfl g224_ (fs_tr (fs_tr hf_F1 s148_ rfl) s225_ rfl) (by omega) (by omega) (Or.inl ⟨rfl, Or.inr (by omega)⟩) (by omega) (by rw [hsp, sm1_step (by omega) (by omega) c144_ c218_]; congr 1; omega; (rw [decide_eq_false (show ¬ F223_ 358 a.toNat = 0 by omega)])) (by simp only [List.length_append, List.length_singleton]; omega) (rcl_add (rcl_lfr hrc (show lfr a.toNat (at_ + F1 358 a.toNat).toNat ((at_ + F1 358 a.toNat).toNat + 1) F1 F223_ from (lfr_tr (lfr_fg lfr_r s148_ rfl) c221_ (by first | omega | (simp <;> omega)) (by first | omega | (simp <;> omega)))) (by omega)) (by omega) hx2_) (lfr_tr (lfr_fg hlf s148_ rfl) c221_ (by first | omega | (simp <;> omega)) (by first | omega | (simp <;> omega))) (by rw [hcd2, md_step (by omega) c144_ (by rw [sp_mem_lit, c218_]; rfl), hx1_, ← List.append_assoc]; congr 1; rw [show F223_ 358 a.toNat = F1 358 a.toNat + 1 by omega])
          subst hA_
          subst hz_
          refine fl_if_ne hm_175 rfl ⟨by omega, by omega⟩ (fun _ => ?_) (fun h => absurd (by omega) h)
          refine fl_iconst hm_175 rfl ?_
          refine ga_istore_n (lv2 := [(3, .int (Int32.ofInt 0)), (0, .ref 344), (1, .int (Int32.ofInt a)), (2, .int (Int32.ofInt at_))]) hm_175 rfl (Nat.le_of_ble_eq_true rfl) rfl ?_
          refine fl_goto hm_175 rfl ?_
          have b268_ : 0 ≤ K 1 6 ∧ K 1 6 ≤ 601 := gi_g hgK rfl
          exact ih91_ _ (by omega) (0) ((L ++ [x_])) F223_ rfl g224_ (fs_tr (fs_tr hf_F1 s148_ rfl) s225_ rfl) (by omega) (by omega) (Or.inr ⟨rfl, by omega, by omega⟩) (by omega) (by rw [hsp, sm1_step (by omega) (by omega) c144_ c218_]; congr 1; omega; (rw [decide_eq_false (show ¬ F223_ 358 a.toNat = 0 by omega)])) (by simp only [List.length_append, List.length_singleton]; omega) (rcl_add (rcl_lfr hrc (show lfr a.toNat (at_ + F1 358 a.toNat).toNat ((at_ + F1 358 a.toNat).toNat + 1) F1 F223_ from (lfr_tr (lfr_fg lfr_r s148_ rfl) c221_ (by first | omega | (simp <;> omega)) (by first | omega | (simp <;> omega)))) (by omega)) (by omega) hx2_) (lfr_tr (lfr_fg hlf s148_ rfl) c221_ (by first | omega | (simp <;> omega)) (by first | omega | (simp <;> omega))) (by rw [hcd2, md_step (by omega) c144_ (by rw [sp_mem_lit, c218_]; rfl), hx1_, ← List.append_assoc]; congr 1; rw [show F223_ 358 a.toNat = F1 358 a.toNat + 1 by omega])
        refine ga_aload_n (v := .ref 344) hm_175 rfl rfl rfl ?_
        refine fl_iconst hm_175 rfl ?_
        have b269_ : 0 ≤ F1 344 5 ∧ F1 344 5 ≤ 600 := gi_g hg_F1 rfl
        refine gVv (nY := 2) (F := 0) (L := 0) (As := [.int (Int32.ofInt 1)]) (b := 344) (rest := []) hm_175 rfl hm_54 rfl rfl (fl_ob sc_344) rfl rfl rfl rfl rfl (by omega) (by omega) (mc_54 hG F1 X hg_F1 (K) (1) hgK rk95_ hkt (by omega) (by omega)) (fun _ _ h => False.elim h) ?_
        have b271_ : 0 ≤ F1 344 10 ∧ F1 344 10 ≤ 600 := gi_g hg_F1 rfl
        rintro A1_ ⟨F275_, hA_, g276_, s277_, c272_, c273_, c274_⟩
        subst hA_
        have g278_ : fs [(344, 344, 5, 5), (344, 344, 9, 10), (358, 358, 0, 100000), (360, 363, 0, 100000)] F F275_ := fs_tr g94_ s277_ rfl
        have rk279_ : rk K F275_ := rk_fs rk95_ s277_ (fun r k h => (fs_n (by omega) rfl)) (fs_n (by omega) rfl)
        have c273_s := c273_.1 (by omega)
        clear c273_
        refine ga_aload_n (v := .ref 344) hm_175 rfl rfl rfl ?_
        refine fl_bipush hm_175 rfl rfl ?_
        have e280_ : F275_ 344 5 = F1 344 5 := (s277_ 344 5 rfl).trans (rfl)
        refine gVv (nY := 2) (F := 2) (L := 41) (As := [.int (Int32.ofInt 40)]) (b := 344) (rest := []) hm_175 rfl hm_51 rfl rfl (fl_ob sc_344) rfl rfl rfl rfl rfl (by omega) (by omega) (mc_51 hG F275_ X g276_ (K) (40) (0) hgK rk279_ hkt (by omega) (by omega) (by omega)) (fun _ _ h => False.elim h) ?_
        have b282_ : 0 ≤ F275_ 344 10 ∧ F275_ 344 10 ≤ 600 := gi_g g276_ rfl
        have b283_ : 0 ≤ F275_ 344 9 ∧ F275_ 344 9 ≤ 5 := gi_g g276_ rfl
        rintro A1_ (⟨F287_, hA_, g288_, s289_, c284_, c285_, c286_⟩ | ⟨F293_, hA_, g294_, s295_, c290_, c291_, c292_⟩)
        ·
          subst hA_
          have g296_ : fs [(344, 344, 5, 5), (344, 344, 9, 10), (358, 358, 0, 100000), (360, 363, 0, 100000)] F F287_ := fs_tr g278_ s289_ rfl
          have rk297_ : rk K F287_ := rk_fs rk279_ s289_ (fun r k h => (fs_n (by omega) (fs_n (by omega) rfl))) (fs_n (by omega) (fs_n (by omega) rfl))
          try simp only [e280_] at c285_
          have c285_k := c285_.2 (by omega)
          clear c285_
          refine ga_aload_n (v := .ref 344) hm_175 rfl rfl rfl ?_
          refine ga_iload_n (z := a) hm_175 rfl rfl ?_
          refine ga_iload_n (z := at_) hm_175 rfl rfl ?_
          have b298_ : 0 ≤ F287_ 344 5 ∧ F287_ 344 5 ≤ 600 := gi_g g288_ rfl
          have e299_ : F275_ 358 a.toNat = F1 358 a.toNat := (s277_ 358 a.toNat (fs_n (by omega) rfl)).trans (rfl)
          have e300_ : F287_ 358 a.toNat = F1 358 a.toNat := (s289_ 358 a.toNat (fs_n (by omega) (fs_n (by omega) rfl))).trans (e299_)
          refine gVv (nY := 6) (F := 5) (L := 117) (As := [.int (Int32.ofInt a), .int (Int32.ofInt at_)]) (b := 344) (rest := []) hm_175 rfl hm_179 rfl rfl (fl_ob sc_344) rfl rfl rfl rfl rfl (by omega) (by omega) (mc_179 hG F287_ X g288_ (K) (a) (at_) (k) (l) (tl) (pl) (ps) hgK rk297_ hkt (by omega) ((trm_fs (trm_fs (trm_fs (by rw [q85_]; exact (trm_u (trm_fs ht s17_ (fun r j hj => (fs_n (by omega) (fs_n (by omega) rfl)))) (by omega))) hf_F1 (fun r j hj => (fs_n (by omega) (fs_n (by omega) (fs_n (by omega) (fs_n (by omega) rfl)))))) s277_ (fun r j hj => (fs_n (by omega) rfl))) s289_ (fun r j hj => (fs_n (by omega) (fs_n (by omega) rfl))))) (hlt) (by omega) ((rpn_fs (rpn_fs (rpn_fs (by rw [q85_]; exact (rpn_u (rpn_fs hpl s17_ (fun _ => (fs_n (by omega) (fs_n (by omega) rfl))) (fs_n (by omega) (fs_n (by omega) rfl))) (by omega) (by omega))) hf_F1 (fun _ => (fs_n (by omega) (fs_n (by omega) (fs_n (by omega) (fs_n (by omega) rfl))))) (fs_n (by omega) (fs_n (by omega) (fs_n (by omega) (fs_n (by omega) rfl))))) s277_ (fun _ => (fs_n (by omega) rfl)) (fs_n (by omega) rfl)) s289_ (fun _ => (fs_n (by omega) (fs_n (by omega) rfl))) (fs_n (by omega) (fs_n (by omega) rfl)))) (⟨(rprd_fs (rprd_fs (rprd_fs (by rw [q85_]; exact (rprd_u (rprd_fs hps.1 s17_ (fun r j hj => (fs_n (by omega) (fs_n (by omega) rfl)))) (by omega))) hf_F1 (fun r j hj => (fs_n (by omega) (fs_n (by omega) (fs_n (by omega) (fs_n (by omega) rfl)))))) s277_ (fun r j hj => (fs_n (by omega) rfl))) s289_ (fun r j hj => (fs_n (by omega) (fs_n (by omega) rfl)))), hps.2⟩) (by omega) (hla) (fun _ => by omega)) (fun _ _ h => False.elim h) ?_
          have b302_ : 0 ≤ F287_ 344 10 ∧ F287_ 344 10 ≤ 600 := gi_g g288_ rfl
          have b303_ : 0 ≤ F287_ 344 9 ∧ F287_ 344 9 ≤ 5 := gi_g g288_ rfl
          rintro A1_ (⟨F307_, hA_, g308_, s309_, c304_, c305_, c306_⟩ | ⟨F316_, hA_, g317_, s318_, c310_, c311_, c312_, c313_, c314_, c315_⟩)
          ·
            subst hA_
            have g319_ : fs [(344, 344, 5, 5), (344, 344, 9, 10), (358, 358, 0, 100000), (360, 363, 0, 100000)] F F307_ := fs_tr g296_ s309_ rfl
            have rk320_ : rk K F307_ := rk_fs rk297_ s309_ (fun r k h => (fs_n (by omega) (fs_n (by omega) (fs_n (by omega) (fs_n (by omega) rfl))))) (fs_n (by omega) (fs_n (by omega) (fs_n (by omega) (fs_n (by omega) rfl))))
            have c305_k := c305_.2 (by omega)
            clear c305_
            refine ga_aload_n (v := .ref 344) hm_175 rfl rfl rfl ?_
            refine fl_bipush hm_175 rfl rfl ?_
            have b321_ : 0 ≤ F307_ 344 5 ∧ F307_ 344 5 ≤ 600 := gi_g g308_ rfl
            refine gVi (nY := 2) (F := 1) (L := 20) (As := [.int (Int32.ofInt 41)]) (b := 344) (rest := []) hm_175 rfl hm_52 rfl rfl (fl_ob sc_344) rfl rfl rfl rfl rfl (by omega) (by omega) (mc_52 hG F307_ X g308_ (K) (41) hgK rk320_ hkt (by omega) (by omega)) (fun _ _ h => False.elim h) ?_
            have b323_ : 0 ≤ F307_ 344 9 ∧ F307_ 344 9 ≤ 5 := gi_g g308_ rfl
            rintro z322_ A1_ (⟨hA_, hz_, c324_⟩ | ⟨hA_, hz_, c325_, c326_⟩)
            ·
              subst hA_
              subst hz_
              refine fl_if_ne hm_175 rfl ⟨by omega, by omega⟩ (fun h => absurd h (by omega)) (fun _ => ?_)
              refine fl_iconst hm_175 rfl ?_
              refine fl_goto hm_175 rfl ?_
              refine ga_istore_n (lv2 := [(3, .int (Int32.ofInt 1)), (0, .ref 344), (1, .int (Int32.ofInt a)), (2, .int (Int32.ofInt at_))]) hm_175 rfl (Nat.le_of_ble_eq_true rfl) rfl ?_
              refine fl_goto hm_175 rfl ?_
              refine ga_iload_n (z := 1) hm_175 rfl rfl ?_
              refine fl_if_eq hm_175 rfl ⟨by omega, by omega⟩ (fun h => absurd h (by omega)) (fun _ => ?_)
              refine ga_aload_n (v := .ref 344) hm_175 rfl rfl rfl ?_
              refine gIi (nY := 1) (F := 0) (L := 0) (As := []) (b := 344) (rest := []) hm_175 rfl hm_59 rfl rfl (fl_ob sc_344) rfl rfl rfl rfl rfl (by omega) (by omega) ?_
              intro f327_ l328_ h329_ h330_
              show fl_R xi_ms 59 f327_ l328_ 0 [(0, .ref 344)] [] _ _
              refine ga_aload_n (v := .ref 344) hm_59 rfl rfl rfl ?_
              refine ga_geti (z := F307_ 344 9) hm_59 rfl sc_344 rfl (rfl) ?_
              refine fl_if_le (a := F307_ 344 9) hm_59 rfl ⟨by omega, by omega⟩ (fun h331_ => ?_) (fun h332_ => ?_)
              · exfalso; omega
              refine fl_iconst hm_59 rfl ?_
              refine fl_goto hm_59 rfl ?_
              refine gr_i hm_59 rfl rfl (ga_nb (by omega)) ?_
              clear h329_ h330_ f327_ l328_
              refine fl_if_ne hm_175 rfl ⟨by omega, by omega⟩ (fun _ => ?_) (fun h => absurd (by omega) h)
              refine ga_aload_n (v := .ref 344) hm_175 rfl rfl rfl ?_
              refine fl_bipush hm_175 rfl rfl ?_
              refine gVv (nY := 2) (F := 2) (L := 41) (As := [.int (Int32.ofInt 41)]) (b := 344) (rest := []) hm_175 rfl hm_51 rfl rfl (fl_ob sc_344) rfl rfl rfl rfl rfl (by omega) (by omega) (mc_51 hG F307_ X g308_ (K) (41) (1) hgK rk320_ hkt (by omega) (by omega) (by omega)) (fun _ _ h => False.elim h) ?_
              have b334_ : 0 ≤ F307_ 344 10 ∧ F307_ 344 10 ≤ 600 := gi_g g308_ rfl
              rintro A1_ (⟨F338_, hA_, g339_, s340_, c335_, c336_, c337_⟩ | ⟨F344_, hA_, g345_, s346_, c341_, c342_, c343_⟩)
              ·
                subst hA_
                have g347_ : fs [(344, 344, 5, 5), (344, 344, 9, 10), (358, 358, 0, 100000), (360, 363, 0, 100000)] F F338_ := fs_tr g319_ s340_ rfl
                have rk348_ : rk K F338_ := rk_fs rk320_ s340_ (fun r k h => (fs_n (by omega) (fs_n (by omega) rfl))) (fs_n (by omega) (fs_n (by omega) rfl))
                have c336_k := c336_.2 (by omega)
                clear c336_
                refine gr_v hm_175 rfl rfl ?_
                have b349_ : 0 ≤ F338_ 344 9 ∧ F338_ 344 9 ≤ 5 := gi_g g339_ rfl
                have b350_ : 0 ≤ F338_ 344 10 ∧ F338_ 344 10 ≤ 600 := gi_g g339_ rfl
                have b351_ : 0 ≤ F338_ 344 5 ∧ F338_ 344 5 ≤ 600 := gi_g g339_ rfl
                exact Or.inl ⟨F338_, rfl, g339_, g347_, (by omega), (⟨by intro h0_; have hs_ := c273_s; rw [sp_clause, hk0, pb_r, if_pos hand, hsk]; exact sm1_f hsp9 (sm1_f4 (by omega) (by omega)) (by omega) (by omega), fun h0_ => by exfalso; omega⟩), (by omega)⟩
              exfalso; omega
            exfalso; omega
          exfalso; omega
        exfalso; omega
      exfalso; omega
    have e352_ : F84_ 344 9 = F15_ 344 9 := by rw [q85_]; exact fl_u_ne (by omega)
    have b353_ : 0 ≤ K 1 6 ∧ K 1 6 ≤ 601 := gi_g hgK rfl
    have e354_ : F15_ 358 a.toNat = F 358 a.toNat := (s17_ 358 a.toNat (fs_n (by omega) (fs_n (by omega) rfl))).trans (rfl)
    have e355_ : F84_ 358 a.toNat = F 358 a.toNat := by rw [q85_]; exact (fl_u_ne (by omega)).trans (e354_)
    exact L90_ _ (1) ([]) F84_ rfl g86_ fs_refl (by omega) (by omega) (Or.inl ⟨rfl, Or.inl (by omega)⟩) (by omega) (by rw [e355_, hc0]; rfl) (by simp; omega) (rcl_nil) (by rw [q85_]; exact (lfr_uo (lfr_fg lfr_r s17_ rfl) rfl)) (by rw [e355_, hc0]; rfl)
  refine ga_aload_n (v := .ref 344) hm_175 rfl rfl rfl ?_
  refine fl_bipush hm_175 rfl rfl ?_
  have b356_ : 0 ≤ F 344 5 ∧ F 344 5 ≤ 600 := gi_g hgi rfl
  refine gVv (nY := 2) (F := 2) (L := 41) (As := [.int (Int32.ofInt 40)]) (b := 344) (rest := []) hm_175 rfl hm_51 rfl rfl (fl_ob sc_344) rfl rfl rfl rfl rfl (by omega) (by omega) (mc_51 hG F X hgi (K) (40) (0) hgK hrk hkt (by omega) (by omega) (by omega)) (fun _ _ h => False.elim h) ?_
  have b358_ : 0 ≤ F 344 10 ∧ F 344 10 ≤ 600 := gi_g hgi rfl
  rintro A1_ (⟨F362_, hA_, g363_, s364_, c359_, c360_, c361_⟩ | ⟨F368_, hA_, g369_, s370_, c365_, c366_, c367_⟩)
  ·
    subst hA_
    have g371_ : fs [(344, 344, 5, 5), (344, 344, 9, 10), (358, 358, 0, 100000), (360, 363, 0, 100000)] F F362_ := fs_tr fs_refl s364_ rfl
    have rk372_ : rk K F362_ := rk_fs hrk s364_ (fun r k h => (fs_n (by omega) (fs_n (by omega) rfl))) (fs_n (by omega) (fs_n (by omega) rfl))
    have c360_k := c360_.2 (by omega)
    clear c360_
    refine ga_aload_n (v := .ref 344) hm_175 rfl rfl rfl ?_
    refine fl_bipush hm_175 rfl rfl ?_
    have b373_ : 0 ≤ F362_ 344 5 ∧ F362_ 344 5 ≤ 600 := gi_g g363_ rfl
    refine gVi (nY := 4) (F := 1) (L := 21) (As := [.int (Int32.ofInt 8)]) (b := 344) (rest := []) hm_175 rfl hm_56 rfl rfl (fl_ob sc_344) rfl rfl rfl rfl rfl (by omega) (by omega) (mc_56 hG F362_ X g363_ (K) (8) ([97, 110, 100]) hgK rk372_ hkt (by omega) (by omega) (by decide) (kw_8 rk372_)) (fun _ _ h => False.elim h) ?_
    have b375_ : 0 ≤ F362_ 344 9 ∧ F362_ 344 9 ≤ 5 := gi_g g363_ rfl
    rintro z374_ A1_ (⟨hA_, hz_, c376_⟩ | ⟨hA_, hz_, c377_, c378_⟩)
    ·
      subst hA_
      subst hz_
      refine fl_if_ne hm_175 rfl ⟨by omega, by omega⟩ (fun h => absurd h (by omega)) (fun _ => ?_)
      refine ga_aload_n (v := .ref 344) hm_175 rfl rfl rfl ?_
      refine ga_iload_n (z := a) hm_175 rfl rfl ?_
      refine ga_iload_n (z := at_) hm_175 rfl rfl ?_
      have e379_ : F362_ 358 a.toNat = F 358 a.toNat := (s364_ 358 a.toNat (fs_n (by omega) (fs_n (by omega) rfl))).trans (rfl)
      refine gVv (nY := 6) (F := 5) (L := 117) (As := [.int (Int32.ofInt a), .int (Int32.ofInt at_)]) (b := 344) (rest := []) hm_175 rfl hm_179 rfl rfl (fl_ob sc_344) rfl rfl rfl rfl rfl (by omega) (by omega) (mc_179 hG F362_ X g363_ (K) (a) (at_) (k) (l) (tl) (pl) (ps) hgK rk372_ hkt (by omega) ((trm_fs ht s364_ (fun r j hj => (fs_n (by omega) (fs_n (by omega) rfl))))) (hlt) (by omega) ((rpn_fs hpl s364_ (fun _ => (fs_n (by omega) (fs_n (by omega) rfl))) (fs_n (by omega) (fs_n (by omega) rfl)))) (⟨(rprd_fs hps.1 s364_ (fun r j hj => (fs_n (by omega) (fs_n (by omega) rfl)))), hps.2⟩) (by omega) (hla) (fun _ => by omega)) (fun _ _ h => False.elim h) ?_
      have b381_ : 0 ≤ F362_ 344 10 ∧ F362_ 344 10 ≤ 600 := gi_g g363_ rfl
      rintro A1_ (⟨F385_, hA_, g386_, s387_, c382_, c383_, c384_⟩ | ⟨F394_, hA_, g395_, s396_, c388_, c389_, c390_, c391_, c392_, c393_⟩)
      ·
        subst hA_
        have g397_ : fs [(344, 344, 5, 5), (344, 344, 9, 10), (358, 358, 0, 100000), (360, 363, 0, 100000)] F F385_ := fs_tr g371_ s387_ rfl
        have rk398_ : rk K F385_ := rk_fs rk372_ s387_ (fun r k h => (fs_n (by omega) (fs_n (by omega) (fs_n (by omega) (fs_n (by omega) rfl))))) (fs_n (by omega) (fs_n (by omega) (fs_n (by omega) (fs_n (by omega) rfl))))
        have c383_k := c383_.2 (by omega)
        clear c383_
        refine gr_v hm_175 rfl rfl ?_
        have b399_ : 0 ≤ F385_ 344 9 ∧ F385_ 344 9 ≤ 5 := gi_g g386_ rfl
        have b400_ : 0 ≤ F385_ 344 10 ∧ F385_ 344 10 ≤ 600 := gi_g g386_ rfl
        have b401_ : 0 ≤ F385_ 344 5 ∧ F385_ 344 5 ≤ 600 := gi_g g386_ rfl
        exact Or.inl ⟨F385_, rfl, g386_, g397_, (by omega), (⟨fun h0_ => by exfalso; omega, fun h0_ => by constructor <;> omega⟩), (by omega)⟩
      exfalso; omega
    exfalso; omega
  exfalso; omega

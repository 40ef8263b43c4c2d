def sp_lx (K : fl_N) (k : Int) (l tl pl : List Int) (ps : List (List Int)) (p : Int) : PR Int := if isw K p [61] = true then sp_eq K k l tl p else sp_atom K k l tl pl ps p
def sp_lit (K : fl_N) (k : Int) (l tl pl : List Int) (ps : List (List Int)) (p : Int) : PR Int := if isw K p [110, 111, 116] = true then pb (sp_kind K 0 (sk K p)) fun p => pb (sp_lx K k l tl pl ps p) fun p => sp_kind K 1 p else sp_lx K k l tl pl ps p
theorem sp_mem_lit {K : fl_N} {k : Int} {l tl pl : List Int} {ps : List (List Int)} {c p : Int} : sp_mem K false k l tl pl ps c p = pb (sp_lit K k l tl pl ps p) (fun p => .inr (p, c)) := by
  rw [sp_mem, if_neg (by simp), sp_lit]
  by_cases h : isw K p [110, 111, 116] = true
  · rw [if_pos h, if_pos h, pb_as]
    congr 1
    funext q
    rw [pb_as]
    simp only [true_and]
    rfl
  · rw [if_neg h, if_neg h]
    simp only [true_and]
    rfl
theorem rprd_fs {F F' : fl_N} {S : List (Nat × Nat × Nat × Nat)} {ps : List (List Int)} (h : rprd F ps) (hf : fs S F F') (hS : ∀ r j, 351 ≤ r ∧ r ≤ 352 → fs_in S r j = false) : rprd F' ps := by
  have e1 : F' 351 = F 351 := funext (fun j => hf _ _ (hS _ _ (by omega)))
  have e2 : F' 352 = F 352 := funext (fun j => hf _ _ (hS _ _ (by omega)))
  intro i hi
  rw [e1, e2]
  exact h i hi
theorem rprd_u {F : fl_N} {ps : List (List Int)} {c j : Nat} {z : Int} (h : rprd F ps) (hc : ¬ (351 ≤ c ∧ c ≤ 352)) : rprd (fl_u F c j z) ps := by
  intro i hi
  rw [fl_u_r (r' := 351) (by omega), fl_u_r (r' := 352) (by omega)]
  exact h i hi

/- CheapPlannerModel.readLiteral -/
abbrev pq_179 (G : Nat → Nat → Option Nat) (F : fl_N) (X : xi_H) (K : fl_N) (a at_ k : Int) (l tl pl : List Int) (ps : List (List Int)) : Outcome → xi_H → Prop := gqv (fun A => (∃ F' : fl_N, fl_H sh_T G F' ++ X = A ∧ gi F' ∧ fs [(344, 344, 5, 5), (344, 344, 9, 10), (358, 358, 0, 100000), (360, 363, 0, 100000)] F F' ∧ (¬ F' 344 9 = 0) ∧ ((F 344 9 = 0 → sp_lit K k l tl pl ps (F 344 5) = .inl (F' 344 9, F' 344 10)) ∧ (¬ F 344 9 = 0 → F' 344 9 = F 344 9 ∧ F' 344 10 = F 344 10)) ∧ (0 ≤ F' 344 5 ∧ F' 344 5 ≤ K 1 6 - 1)) ∨ (∃ F' : fl_N, fl_H sh_T G F' ++ X = A ∧ gi F' ∧ fs [(344, 344, 5, 5), (344, 344, 9, 10), (358, 358, 0, 100000), (360, 363, 0, 100000)] F F' ∧ (F' 344 9 = 0 ∧ F 344 9 = 0) ∧ (sp_lit K k l tl pl ps (F 344 5) = .inr (F' 344 5)) ∧ (0 ≤ F' 344 5 ∧ F' 344 5 ≤ K 1 6 - 1) ∧ (F' 358 a.toNat = F 358 a.toNat + 1))) gqn
set_option maxHeartbeats 16000000 in
theorem mc_179 {G : Nat → Nat → Option Nat} (hG : gg G) (F : fl_N) (X : xi_H) (hgi : gi F) (K : fl_N) (a at_ k : Int) (l tl pl : List Int) (ps : List (List Int)) (hgK : gi K) (hrk : rk K F) (hkt : rkt K) (hp : 0 ≤ F 344 5 ∧ F 344 5 ≤ K 1 6 - 1) (ht : trm F a k l tl) (hlt : l.length = tl.length) (ha : 0 ≤ a ∧ a ≤ 5) (hpl : rpn (F 350) (F 344 17) pl) (hps : rprd F ps ∧ ps.length = pl.length) (hat : 0 ≤ at_ ∧ at_ ≤ 40) (hla : rla a at_) (hcd : F 344 9 = 0 → F 358 a.toNat ≤ 3) : fl_M xi_ms 179 5 117 [.ref 344, .int (Int32.ofInt a), .int (Int32.ofInt at_)] (fl_H sh_T G F ++ X) (pq_179 G F X K a at_ k l tl pl ps) := by
  intro fr lo hfr hlo
  show fl_R xi_ms 179 fr lo 0 [(0, .ref 344), (1, .int (Int32.ofInt a)), (2, .int (Int32.ofInt at_))] [] _ _
  have hP := (rkt_p hkt hp.1 hp.2 hgK).1
  have hK16 : 0 ≤ K 1 6 ∧ K 1 6 ≤ 601 := gi_g hgK rfl
  have hko := hkt.1
  have B154_ : ∀ (Fb : fl_N), (gi Fb) → (fs [(344, 344, 5, 5), (344, 344, 9, 10), (358, 358, 0, 100000), (360, 363, 0, 100000)] F Fb) → (rk K Fb) → (¬ Fb 344 9 = 0) → (0 ≤ Fb 344 5 ∧ Fb 344 5 ≤ K 1 6 - 1) → ((F 344 9 = 0 → sp_lit K k l tl pl ps (F 344 5) = .inl (Fb 344 9, Fb 344 10)) ∧ (¬ F 344 9 = 0 → Fb 344 9 = F 344 9 ∧ Fb 344 10 = F 344 10)) → (Fb 358 a.toNat = F 358 a.toNat ∧ F 358 a.toNat ≤ 3) → fl_R xi_ms 179 fr lo 154 [(0, .ref 344), (1, .int (Int32.ofInt a)), (2, .int (Int32.ofInt at_))] [] (fl_H sh_T G Fb ++ X) (pq_179 G F X K a at_ k l tl pl ps) := by
    intro Fb hg_Fb hf_Fb hrk_b hbd hp_b hb h358b
    refine ga_aload_n (v := .ref 344) hm_179 rfl rfl rfl ?_
    refine ga_getr (b := 358) hm_179 rfl sc_344 rfl ?_
    refine ga_iload_n (z := a) hm_179 rfl rfl ?_
    refine ga_dup2 hm_179 rfl ⟨rfl, rfl⟩ ?_
    have b1_ : 0 ≤ Fb 358 a.toNat ∧ Fb 358 a.toNat ≤ 4 := gi_g hg_Fb rfl
    refine ga_iald (z := a) (w := Fb 358 a.toNat) hm_179 rfl sc_358 (by omega) (by omega) (by omega) (rfl) ?_
    refine fl_iconst hm_179 rfl ?_
    refine ga_iadd (a := Fb 358 a.toNat) (b := 1) (c := Fb 358 a.toNat + 1) hm_179 rfl (by omega) ?_
    refine fl_iast (z := a) (v := Fb 358 a.toNat + 1) hm_179 rfl sc_358 (by omega) (by omega) (by omega) ?_
    obtain ⟨F2_, q3_⟩ : ∃ F9_, F9_ = (fl_u Fb 358 a.toNat (Fb 358 a.toNat + 1)) := ⟨_, rfl⟩
    rw [← q3_]
    have g4_ : gi F2_ := by rw [q3_]; exact gi_u (hg_Fb) rfl (by omega) (by omega)
    have g5_ : fs [(344, 344, 5, 5), (344, 344, 9, 10), (358, 358, 0, 100000), (360, 363, 0, 100000)] F F2_ := by rw [q3_]; exact fs_u (hf_Fb) (fs_z (fs_z (fs_y (by omega))))
    have rk6_ : rk K F2_ := by rw [q3_]; exact rk_u (hrk_b) (by omega) (by omega)
    refine gr_v hm_179 rfl rfl ?_
    have e7_ : F2_ 344 9 = Fb 344 9 := by rw [q3_]; exact fl_u_ne (by omega)
    have b8_ : 0 ≤ Fb 344 9 ∧ Fb 344 9 ≤ 5 := gi_g hg_Fb rfl
    have e9_ : F2_ 344 10 = Fb 344 10 := by rw [q3_]; exact fl_u_ne (by omega)
    have e10_ : F2_ 344 5 = Fb 344 5 := by rw [q3_]; exact fl_u_ne (by omega)
    have b11_ : 0 ≤ Fb 344 10 ∧ Fb 344 10 ≤ 600 := gi_g hg_Fb rfl
    have b12_ : 0 ≤ F 344 10 ∧ F 344 10 ≤ 600 := gi_g hgi rfl
    have b13_ : 0 ≤ F 344 5 ∧ F 344 5 ≤ 600 := gi_g hgi rfl
    have b14_ : 0 ≤ F 344 9 ∧ F 344 9 ≤ 5 := gi_g hgi rfl
    have b15_ : 0 ≤ Fb 344 5 ∧ Fb 344 5 ≤ 600 := gi_g hg_Fb rfl
    exact Or.inl ⟨F2_, rfl, g4_, g5_, (by omega), (⟨fun h0_ => by rw [show F2_ 344 9 = Fb 344 9 by omega, show F2_ 344 10 = Fb 344 10 by omega]; exact hb.1 h0_, fun h0_ => by have h1_ := hb.2 h0_; omega⟩), (by omega)⟩
  have B143_ : ∀ (Fb : fl_N) (nt : Int), (gi Fb) → (fs [(344, 344, 5, 5), (344, 344, 9, 10), (358, 358, 0, 100000), (360, 363, 0, 100000)] F Fb) → (rk K Fb) → (¬ Fb 344 9 = 0) → (0 ≤ Fb 344 5 ∧ Fb 344 5 ≤ K 1 6 - 1) → ((F 344 9 = 0 → sp_lit K k l tl pl ps (F 344 5) = .inl (Fb 344 9, Fb 344 10)) ∧ (¬ F 344 9 = 0 → Fb 344 9 = F 344 9 ∧ Fb 344 10 = F 344 10)) → (Fb 358 a.toNat = F 358 a.toNat ∧ F 358 a.toNat ≤ 3) → (nt = 0 ∨ nt = 1) → fl_R xi_ms 179 fr lo 143 [(4, .int (Int32.ofInt nt)), (0, .ref 344), (1, .int (Int32.ofInt a)), (2, .int (Int32.ofInt at_))] [] (fl_H sh_T G Fb ++ X) (pq_179 G F X K a at_ k l tl pl ps) := by
    intro Fb nt hg_Fb hf_Fb hrk_b hbd hp_b hb h358b hnt
    refine ga_iload (z := nt) hm_179 rfl rfl ?_
    refine fl_if_eq (a := nt) hm_179 rfl ⟨by omega, by omega⟩ (fun h16_ => ?_) (fun h17_ => ?_)
    ·
      have b18_ : 0 ≤ Fb 344 9 ∧ Fb 344 9 ≤ 5 := gi_g hg_Fb rfl
      have b19_ : 0 ≤ Fb 344 10 ∧ Fb 344 10 ≤ 600 := gi_g hg_Fb rfl
      have b20_ : 0 ≤ Fb 344 5 ∧ Fb 344 5 ≤ 600 := gi_g hg_Fb rfl
      exact fl_R_sub (lv' := [(0, .ref 344), (1, .int (Int32.ofInt a)), (2, .int (Int32.ofInt at_))]) rfl rfl (B154_ Fb hg_Fb hf_Fb hrk_b (by omega) (by omega) (hb) (by omega))
    refine ga_aload_n (v := .ref 344) hm_179 rfl rfl rfl ?_
    refine fl_bipush hm_179 rfl rfl ?_
    have b21_ : 0 ≤ Fb 344 5 ∧ Fb 344 5 ≤ 600 := gi_g hg_Fb rfl
    refine gVv (nY := 2) (F := 2) (L := 41) (As := [.int (Int32.ofInt 41)]) (b := 344) (rest := []) hm_179 rfl hm_51 rfl rfl (fl_ob sc_344) rfl rfl rfl rfl rfl (by omega) (by omega) (mc_51 hG Fb X hg_Fb (K) (41) (1) hgK hrk_b hkt (by omega) (by omega) (by omega)) (fun _ _ h => False.elim h) ?_
    have b23_ : 0 ≤ Fb 344 10 ∧ Fb 344 10 ≤ 600 := gi_g hg_Fb rfl
    have b24_ : 0 ≤ Fb 344 9 ∧ Fb 344 9 ≤ 5 := gi_g hg_Fb rfl
    rintro A1_ (⟨F28_, hA_, g29_, s30_, c25_, c26_, c27_⟩ | ⟨F34_, hA_, g35_, s36_, c31_, c32_, c33_⟩)
    ·
      subst hA_
      have g37_ : fs [(344, 344, 5, 5), (344, 344, 9, 10), (358, 358, 0, 100000), (360, 363, 0, 100000)] F F28_ := fs_tr hf_Fb s30_ rfl
      have rk38_ : rk K F28_ := rk_fs hrk_b s30_ (fun r k h => (fs_n (by omega) (fs_n (by omega) rfl))) (fs_n (by omega) (fs_n (by omega) rfl))
      have c26_k := c26_.2 (by omega)
      clear c26_
      have b39_ : 0 ≤ F28_ 344 9 ∧ F28_ 344 9 ≤ 5 := gi_g g29_ rfl
      have b40_ : 0 ≤ F28_ 344 10 ∧ F28_ 344 10 ≤ 600 := gi_g g29_ rfl
      have b41_ : 0 ≤ F28_ 344 5 ∧ F28_ 344 5 ≤ 600 := gi_g g29_ rfl
      have e42_ : F28_ 358 a.toNat = Fb 358 a.toNat := (s30_ 358 a.toNat (fs_n (by omega) (fs_n (by omega) rfl))).trans (rfl)
      exact fl_R_sub (lv' := [(0, .ref 344), (1, .int (Int32.ofInt a)), (2, .int (Int32.ofInt at_))]) rfl rfl (B154_ F28_ g29_ g37_ rk38_ (by omega) (by omega) (⟨fun h0_ => by rw [show F28_ 344 9 = Fb 344 9 by omega, show F28_ 344 10 = Fb 344 10 by omega]; exact hb.1 h0_, fun h0_ => by have h1_ := hb.2 h0_; omega⟩) (by omega))
    exfalso; omega
  have B128_ : ∀ (Fb : fl_N) (nt : Int), (gi Fb) → (fs [(344, 344, 5, 5), (344, 344, 9, 10), (358, 358, 0, 100000), (360, 363, 0, 100000)] F Fb) → (rk K Fb) → (¬ Fb 344 9 = 0) → (0 ≤ Fb 344 5 ∧ Fb 344 5 ≤ K 1 6 - 1) → ((F 344 9 = 0 → sp_lit K k l tl pl ps (F 344 5) = .inl (Fb 344 9, Fb 344 10)) ∧ (¬ F 344 9 = 0 → Fb 344 9 = F 344 9 ∧ Fb 344 10 = F 344 10)) → (Fb 358 a.toNat = F 358 a.toNat ∧ F 358 a.toNat ≤ 3) → (nt = 0 ∨ nt = 1) → fl_R xi_ms 179 fr lo 128 [(4, .int (Int32.ofInt nt)), (0, .ref 344), (1, .int (Int32.ofInt a)), (2, .int (Int32.ofInt at_))] [] (fl_H sh_T G Fb ++ X) (pq_179 G F X K a at_ k l tl pl ps) := by
    intro Fb nt hg_Fb hf_Fb hrk_b hbd hp_b hb h358b hnt
    refine ga_aload_n (v := .ref 344) hm_179 rfl rfl rfl ?_
    refine fl_bipush hm_179 rfl rfl ?_
    have b43_ : 0 ≤ Fb 344 5 ∧ Fb 344 5 ≤ 600 := gi_g hg_Fb rfl
    refine gVv (nY := 2) (F := 2) (L := 41) (As := [.int (Int32.ofInt 41)]) (b := 344) (rest := []) hm_179 rfl hm_51 rfl rfl (fl_ob sc_344) rfl rfl rfl rfl rfl (by omega) (by omega) (mc_51 hG Fb X hg_Fb (K) (41) (1) hgK hrk_b hkt (by omega) (by omega) (by omega)) (fun _ _ h => False.elim h) ?_
    have b45_ : 0 ≤ Fb 344 10 ∧ Fb 344 10 ≤ 600 := gi_g hg_Fb rfl
    have b46_ : 0 ≤ Fb 344 9 ∧ Fb 344 9 ≤ 5 := gi_g hg_Fb rfl
    rintro A1_ (⟨F50_, hA_, g51_, s52_, c47_, c48_, c49_⟩ | ⟨F56_, hA_, g57_, s58_, c53_, c54_, c55_⟩)
    ·
      subst hA_
      have g59_ : fs [(344, 344, 5, 5), (344, 344, 9, 10), (358, 358, 0, 100000), (360, 363, 0, 100000)] F F50_ := fs_tr hf_Fb s52_ rfl
      have rk60_ : rk K F50_ := rk_fs hrk_b s52_ (fun r k h => (fs_n (by omega) (fs_n (by omega) rfl))) (fs_n (by omega) (fs_n (by omega) rfl))
      have c48_k := c48_.2 (by omega)
      clear c48_
      refine fl_goto hm_179 rfl ?_
      have b61_ : 0 ≤ F50_ 344 9 ∧ F50_ 344 9 ≤ 5 := gi_g g51_ rfl
      have b62_ : 0 ≤ F50_ 344 10 ∧ F50_ 344 10 ≤ 600 := gi_g g51_ rfl
      have b63_ : 0 ≤ F50_ 344 5 ∧ F50_ 344 5 ≤ 600 := gi_g g51_ rfl
      have e64_ : F50_ 358 a.toNat = Fb 358 a.toNat := (s52_ 358 a.toNat (fs_n (by omega) (fs_n (by omega) rfl))).trans (rfl)
      exact B143_ F50_ (nt) g51_ g59_ rk60_ (by omega) (by omega) (⟨fun h0_ => by rw [show F50_ 344 9 = Fb 344 9 by omega, show F50_ 344 10 = Fb 344 10 by omega]; exact hb.1 h0_, fun h0_ => by have h1_ := hb.2 h0_; omega⟩) (by omega) (by omega)
    exfalso; omega
  have b65_ : 0 ≤ F 344 9 ∧ F 344 9 ≤ 5 := gi_g hgi rfl
  by_cases h66_ : F 344 9 = 0
  ·
    refine ga_iload_n (z := at_) hm_179 rfl rfl ?_
    refine ga_aload_n (v := .ref 344) hm_179 rfl rfl rfl ?_
    refine gIi (nY := 1) (F := 0) (L := 0) (As := []) (b := 344) (rest := [.int (Int32.ofInt at_)]) hm_179 rfl hm_59 rfl rfl (fl_ob sc_344) rfl rfl rfl rfl rfl (by omega) (by omega) ?_
    intro f67_ l68_ h69_ h70_
    show fl_R xi_ms 59 f67_ l68_ 0 [(0, .ref 344)] [] _ _
    refine ga_aload_n (v := .ref 344) hm_59 rfl rfl rfl ?_
    refine ga_geti (z := F 344 9) hm_59 rfl sc_344 rfl (rfl) ?_
    refine fl_if_le (a := F 344 9) hm_59 rfl ⟨by omega, by omega⟩ (fun h71_ => ?_) (fun h72_ => ?_)
    ·
      refine fl_iconst hm_59 rfl ?_
      refine gr_i hm_59 rfl rfl (ga_nb (by omega)) ?_
      clear h69_ h70_ f67_ l68_
      refine fl_if_eq hm_179 rfl ⟨by omega, by omega⟩ (fun _ => ?_) (fun h => absurd (by omega) h)
      refine ga_aload_n (v := .ref 344) hm_179 rfl rfl rfl ?_
      refine ga_getr (b := 358) hm_179 rfl sc_344 rfl ?_
      refine ga_iload_n (z := a) hm_179 rfl rfl ?_
      have b73_ : 0 ≤ F 358 a.toNat ∧ F 358 a.toNat ≤ 4 := gi_g hgi rfl
      refine ga_iald (z := a) (w := F 358 a.toNat) hm_179 rfl sc_358 (by omega) (by omega) (by omega) (rfl) ?_
      refine ga_iadd (a := at_) (b := F 358 a.toNat) (c := at_ + F 358 a.toNat) hm_179 rfl (by omega) ?_
      refine ga_istore_n (lv2 := [(3, .int (Int32.ofInt (at_ + F 358 a.toNat))), (0, .ref 344), (1, .int (Int32.ofInt a)), (2, .int (Int32.ofInt at_))]) hm_179 rfl (Nat.le_of_ble_eq_true rfl) rfl ?_
      refine ga_aload_n (v := .ref 344) hm_179 rfl rfl rfl ?_
      refine fl_bipush hm_179 rfl rfl ?_
      have b74_ : 0 ≤ F 344 5 ∧ F 344 5 ≤ 600 := gi_g hgi rfl
      refine gVi (nY := 4) (F := 1) (L := 21) (As := [.int (Int32.ofInt 9)]) (b := 344) (rest := []) hm_179 rfl hm_56 rfl rfl (fl_ob sc_344) rfl rfl rfl rfl rfl (by omega) (by omega) (mc_56 hG F X hgi (K) (9) ([110, 111, 116]) hgK hrk hkt (by omega) (by omega) (by decide) (kw_9 hrk)) (fun _ _ h => False.elim h) ?_
      rintro z75_ A1_ (⟨hA_, hz_, c76_⟩ | ⟨hA_, hz_, c77_, c78_⟩)
      ·
        subst hA_
        subst hz_
        refine ga_istore (lv2 := [(4, .int (Int32.ofInt 0)), (3, .int (Int32.ofInt (at_ + F 358 a.toNat))), (0, .ref 344), (1, .int (Int32.ofInt a)), (2, .int (Int32.ofInt at_))]) hm_179 rfl (Nat.le_of_ble_eq_true rfl) rfl ?_
        refine ga_iload (z := 0) hm_179 rfl rfl ?_
        refine fl_if_eq hm_179 rfl ⟨by omega, by omega⟩ (fun _ => ?_) (fun h => absurd (by omega) h)
        refine ga_aload_n (v := .ref 344) hm_179 rfl rfl rfl ?_
        refine gIi (nY := 1) (F := 0) (L := 0) (As := []) (b := 344) (rest := []) hm_179 rfl hm_59 rfl rfl (fl_ob sc_344) rfl rfl rfl rfl rfl (by omega) (by omega) ?_
        intro f79_ l80_ h81_ h82_
        show fl_R xi_ms 59 f79_ l80_ 0 [(0, .ref 344)] [] _ _
        refine ga_aload_n (v := .ref 344) hm_59 rfl rfl rfl ?_
        refine ga_geti (z := F 344 9) hm_59 rfl sc_344 rfl (rfl) ?_
        refine fl_if_le (a := F 344 9) hm_59 rfl ⟨by omega, by omega⟩ (fun h83_ => ?_) (fun h84_ => ?_)
        ·
          refine fl_iconst hm_59 rfl ?_
          refine gr_i hm_59 rfl rfl (ga_nb (by omega)) ?_
          clear h81_ h82_ f79_ l80_
          refine fl_if_eq hm_179 rfl ⟨by omega, by omega⟩ (fun _ => ?_) (fun h => absurd (by omega) h)
          refine ga_aload_n (v := .ref 344) hm_179 rfl rfl rfl ?_
          refine ga_getr (b := 361) hm_179 rfl sc_344 rfl ?_
          refine ga_iload_n (z := at_ + F 358 a.toNat) hm_179 rfl rfl ?_
          refine ga_iload (z := 0) hm_179 rfl rfl ?_
          refine fl_zast (z := at_ + F 358 a.toNat) (v := 0) hm_179 rfl sc_361 (by omega) (by omega) (by omega) (ga_vb (by omega)) ?_
          refine ga_aload_n (v := .ref 344) hm_179 rfl rfl rfl ?_
          refine ga_getr (b := 360) hm_179 rfl sc_344 rfl ?_
          refine ga_iload_n (z := at_ + F 358 a.toNat) hm_179 rfl rfl ?_
          refine ga_aload_n (v := .ref 344) hm_179 rfl rfl rfl ?_
          refine fl_bipush hm_179 rfl rfl ?_
          obtain ⟨F85_, q86_⟩ : ∃ F9_, F9_ = (fl_u F 361 (at_ + F 358 a.toNat).toNat 0) := ⟨_, rfl⟩
          rw [← q86_]
          have g87_ : gi F85_ := by rw [q86_]; exact gi_u (hgi) rfl (by omega) (by omega)
          have g88_ : fs [(344, 344, 5, 5), (344, 344, 9, 10), (358, 358, 0, 100000), (360, 363, 0, 100000)] F F85_ := by rw [q86_]; exact fs_u (fs_refl) (fs_z (fs_z (fs_z (fs_y (by omega)))))
          have rk89_ : rk K F85_ := by rw [q86_]; exact rk_u (hrk) (by omega) (by omega)
          have e90_ : F85_ 344 5 = F 344 5 := by rw [q86_]; exact fl_u_ne (by omega)
          refine gVi (nY := 4) (F := 1) (L := 21) (As := [.int (Int32.ofInt 10)]) (b := 344) (rest := [.int (Int32.ofInt (at_ + F 358 a.toNat)), .ref 360]) hm_179 rfl hm_56 rfl rfl (fl_ob sc_344) rfl rfl rfl rfl rfl (by omega) (by omega) (mc_56 hG F85_ X g87_ (K) (10) ([61]) hgK rk89_ hkt (by omega) (by omega) (by decide) (kw_10 rk89_)) (fun _ _ h => False.elim h) ?_
          have e92_ : F85_ 344 9 = F 344 9 := by rw [q86_]; exact fl_u_ne (by omega)
          rintro z91_ A1_ (⟨hA_, hz_, c93_⟩ | ⟨hA_, hz_, c94_, c95_⟩)
          ·
            subst hA_
            subst hz_
            try simp only [e90_, e92_] at c93_
            refine fl_zast (z := at_ + F 358 a.toNat) (v := 0) hm_179 rfl sc_360 (by omega) (by omega) (by omega) (ga_vb (by omega)) ?_
            refine ga_aload_n (v := .ref 344) hm_179 rfl rfl rfl ?_
            refine ga_getr (b := 360) hm_179 rfl sc_344 rfl ?_
            refine ga_iload_n (z := at_ + F 358 a.toNat) hm_179 rfl rfl ?_
            refine ga_zald (z := at_ + F 358 a.toNat) (w := 0) hm_179 rfl sc_360 (by omega) (by omega) (by omega) (fl_u_eq) ?_
            refine fl_if_eq hm_179 rfl ⟨by omega, by omega⟩ (fun _ => ?_) (fun h => absurd (by omega) h)
            refine ga_aload_n (v := .ref 344) hm_179 rfl rfl rfl ?_
            refine ga_iload_n (z := a) hm_179 rfl rfl ?_
            refine ga_iload_n (z := at_ + F 358 a.toNat) hm_179 rfl rfl ?_
            obtain ⟨F96_, q97_⟩ : ∃ F9_, F9_ = (fl_u F85_ 360 (at_ + F 358 a.toNat).toNat 0) := ⟨_, rfl⟩
            rw [← q97_]
            have g98_ : gi F96_ := by rw [q97_]; exact gi_u (g87_) rfl (by omega) (by omega)
            have g99_ : fs [(344, 344, 5, 5), (344, 344, 9, 10), (358, 358, 0, 100000), (360, 363, 0, 100000)] F F96_ := by rw [q97_]; exact fs_u (g88_) (fs_z (fs_z (fs_z (fs_y (by omega)))))
            have rk100_ : rk K F96_ := by rw [q97_]; exact rk_u (rk89_) (by omega) (by omega)
            have e101_ : F96_ 344 5 = F 344 5 := by rw [q97_]; exact (fl_u_ne (by omega)).trans (e90_)
            refine gVv (nY := 7) (F := 4) (L := 91) (As := [.int (Int32.ofInt a), .int (Int32.ofInt (at_ + F 358 a.toNat))]) (b := 344) (rest := []) hm_179 rfl hm_174 rfl rfl (fl_ob sc_344) rfl rfl rfl rfl rfl (by omega) (by omega) (mc_174 hG F96_ X g98_ (K) (a) (at_ + F 358 a.toNat) (k) (l) (tl) (pl) (ps) hgK rk100_ hkt (by omega) ((by rw [q97_]; exact (trm_u (by rw [q86_]; exact (trm_u ht (by omega))) (by omega)))) (hlt) (by omega) ((by rw [q97_]; exact (rpn_u (by rw [q86_]; exact (rpn_u hpl (by omega) (by omega))) (by omega) (by omega)))) (⟨(by rw [q97_]; exact (rprd_u (by rw [q86_]; exact (rprd_u hps.1 (by omega))) (by omega))), hps.2⟩) (by omega) (rla_add hla (by omega))) (fun _ _ h => False.elim h) ?_
            have e103_ : F85_ 344 10 = F 344 10 := by rw [q86_]; exact fl_u_ne (by omega)
            have e104_ : F96_ 344 10 = F 344 10 := by rw [q97_]; exact (fl_u_ne (by omega)).trans (e103_)
            have b105_ : 0 ≤ F 344 10 ∧ F 344 10 ≤ 600 := gi_g hgi rfl
            have e106_ : F96_ 344 9 = F 344 9 := by rw [q97_]; exact (fl_u_ne (by omega)).trans (e92_)
            rintro A1_ (⟨F110_, hA_, g111_, s112_, c107_, c108_, c109_⟩ | ⟨F116_, hA_, g117_, s118_, c113_, c114_, c115_⟩)
            ·
              subst hA_
              have g119_ : fs [(344, 344, 5, 5), (344, 344, 9, 10), (358, 358, 0, 100000), (360, 363, 0, 100000)] F F110_ := fs_tr g99_ s112_ rfl
              have rk120_ : rk K F110_ := rk_fs rk100_ s112_ (fun r k h => (fs_n (by omega) (fs_n (by omega) (fs_n (by omega) rfl)))) (fs_n (by omega) (fs_n (by omega) (fs_n (by omega) rfl)))
              try simp only [e101_, e104_, e106_] at c108_
              have c108_s := c108_.1 (by omega)
              clear c108_
              have b121_ : 0 ≤ F110_ 344 9 ∧ F110_ 344 9 ≤ 5 := gi_g g111_ rfl
              have b122_ : 0 ≤ F110_ 344 10 ∧ F110_ 344 10 ≤ 600 := gi_g g111_ rfl
              have b123_ : 0 ≤ F110_ 344 5 ∧ F110_ 344 5 ≤ 600 := gi_g g111_ rfl
              have e124_ : F85_ 358 a.toNat = F 358 a.toNat := by rw [q86_]; exact fl_u_ne (by omega)
              have e125_ : F96_ 358 a.toNat = F 358 a.toNat := by rw [q97_]; exact (fl_u_ne (by omega)).trans (e124_)
              have e126_ : F110_ 358 a.toNat = F 358 a.toNat := (s112_ 358 a.toNat (fs_n (by omega) (fs_n (by omega) (fs_n (by omega) rfl)))).trans (e125_)
              exact fl_R_sub (lv' := [(4, .int (Int32.ofInt 0)), (0, .ref 344), (1, .int (Int32.ofInt a)), (2, .int (Int32.ofInt at_))]) rfl rfl (B143_ F110_ (0) g111_ g119_ rk120_ (by omega) (by omega) (⟨by intro h0_; have hs_ := c108_s; rw [sp_lit, if_neg (fun h8_ => c76_ ⟨by omega, h8_⟩)]; rw [sp_lx, if_neg (fun h8_ => c93_ ⟨by omega, h8_⟩)]; rw [hs_]; try (show Sum.inl _ = _); try (congr 2 <;> omega), fun h0_ => by exfalso; omega⟩) (by omega) (by omega))
            subst hA_
            have g127_ : fs [(344, 344, 5, 5), (344, 344, 9, 10), (358, 358, 0, 100000), (360, 363, 0, 100000)] F F116_ := fs_tr g99_ s118_ rfl
            have rk128_ : rk K F116_ := rk_fs rk100_ s118_ (fun r k h => (fs_n (by omega) (fs_n (by omega) (fs_n (by omega) rfl)))) (fs_n (by omega) (fs_n (by omega) (fs_n (by omega) rfl)))
            try simp only [e106_] at c113_
            try simp only [e101_] at c114_
            refine ga_iload (z := 0) hm_179 rfl rfl ?_
            refine fl_if_eq hm_179 rfl ⟨by omega, by omega⟩ (fun _ => ?_) (fun h => absurd (by omega) h)
            refine ga_aload_n (v := .ref 344) hm_179 rfl rfl rfl ?_
            refine ga_getr (b := 358) hm_179 rfl sc_344 rfl ?_
            refine ga_iload_n (z := a) hm_179 rfl rfl ?_
            refine ga_dup2 hm_179 rfl ⟨rfl, rfl⟩ ?_
            have e129_ : F85_ 358 a.toNat = F 358 a.toNat := by rw [q86_]; exact fl_u_ne (by omega)
            have e130_ : F96_ 358 a.toNat = F 358 a.toNat := by rw [q97_]; exact (fl_u_ne (by omega)).trans (e129_)
            have e131_ : F116_ 358 a.toNat = F 358 a.toNat := (s118_ 358 a.toNat (fs_n (by omega) (fs_n (by omega) (fs_n (by omega) rfl)))).trans (e130_)
            refine ga_iald (z := a) (w := F 358 a.toNat) hm_179 rfl sc_358 (by omega) (by omega) (by omega) (e131_) ?_
            refine fl_iconst hm_179 rfl ?_
            refine ga_iadd (a := F 358 a.toNat) (b := 1) (c := F 358 a.toNat + 1) hm_179 rfl (by omega) ?_
            refine fl_iast (z := a) (v := F 358 a.toNat + 1) hm_179 rfl sc_358 (by omega) (by omega) (by omega) ?_
            obtain ⟨F132_, q133_⟩ : ∃ F9_, F9_ = (fl_u F116_ 358 a.toNat (F 358 a.toNat + 1)) := ⟨_, rfl⟩
            rw [← q133_]
            have g134_ : gi F132_ := by rw [q133_]; exact gi_u (g117_) rfl (by omega) (by omega)
            have g135_ : fs [(344, 344, 5, 5), (344, 344, 9, 10), (358, 358, 0, 100000), (360, 363, 0, 100000)] F F132_ := by rw [q133_]; exact fs_u (g127_) (fs_z (fs_z (fs_y (by omega))))
            have rk136_ : rk K F132_ := by rw [q133_]; exact rk_u (rk128_) (by omega) (by omega)
            refine gr_v hm_179 rfl rfl ?_
            have e137_ : F132_ 344 9 = F116_ 344 9 := by rw [q133_]; exact fl_u_ne (by omega)
            have b138_ : 0 ≤ F116_ 344 9 ∧ F116_ 344 9 ≤ 5 := gi_g g117_ rfl
            have e139_ : F132_ 344 10 = F116_ 344 10 := by rw [q133_]; exact fl_u_ne (by omega)
            have e140_ : F132_ 344 5 = F116_ 344 5 := by rw [q133_]; exact fl_u_ne (by omega)
            have b141_ : 0 ≤ F116_ 344 5 ∧ F116_ 344 5 ≤ 600 := gi_g g117_ rfl
            have e142_ : F132_ 358 a.toNat = F 358 a.toNat + 1 := by rw [q133_]; exact fl_u_eq
            exact Or.inr (⟨F132_, rfl, g134_, g135_, (by omega), (by rw [sp_lit, if_neg (fun h8_ => c76_ ⟨by omega, h8_⟩)]; rw [sp_lx, if_neg (fun h8_ => c93_ ⟨by omega, h8_⟩)]; rw [c114_]; try (congr 1; omega)), (by omega), (by omega)⟩)
          subst hA_
          subst hz_
          try simp only [e90_, e92_] at c94_
          try simp only [e90_] at c95_
          refine fl_zast (z := at_ + F 358 a.toNat) (v := 1) hm_179 rfl sc_360 (by omega) (by omega) (by omega) (ga_vb (by omega)) ?_
          refine ga_aload_n (v := .ref 344) hm_179 rfl rfl rfl ?_
          refine ga_getr (b := 360) hm_179 rfl sc_344 rfl ?_
          refine ga_iload_n (z := at_ + F 358 a.toNat) hm_179 rfl rfl ?_
          refine ga_zald (z := at_ + F 358 a.toNat) (w := 1) hm_179 rfl sc_360 (by omega) (by omega) (by omega) (fl_u_eq) ?_
          refine fl_if_eq hm_179 rfl ⟨by omega, by omega⟩ (fun h => absurd h (by omega)) (fun _ => ?_)
          have hszE := (kw_iff (w := [61]) hkt hgK (p := F 344 5) (by omega) (by omega) (by decide) (by decide)).mp c94_.2
          refine ga_aload_n (v := .ref 344) hm_179 rfl rfl rfl ?_
          refine ga_dup hm_179 rfl rfl ?_
          refine ga_geti (z := F 344 5) hm_179 rfl sc_344 rfl ((fl_u_ne (by omega)).trans (e90_)) ?_
          refine fl_iconst hm_179 rfl ?_
          refine ga_iadd (a := F 344 5) (b := 1) (c := F 344 5 + 1) hm_179 rfl (by omega) ?_
          refine ga_puti (z := F 344 5 + 1) hm_179 rfl sc_344 rfl rfl ?_
          refine fl_iconst hm_179 rfl ?_
          refine ga_istore (lv2 := [(5, .int (Int32.ofInt 0)), (4, .int (Int32.ofInt 0)), (3, .int (Int32.ofInt (at_ + F 358 a.toNat))), (0, .ref 344), (1, .int (Int32.ofInt a)), (2, .int (Int32.ofInt at_))]) hm_179 rfl (Nat.le_of_ble_eq_true rfl) rfl ?_
          refine ga_iload (z := 0) hm_179 rfl rfl ?_
          refine fl_iconst hm_179 rfl ?_
          refine fl_icmp_ge hm_179 rfl ⟨by omega, by omega⟩ ⟨by omega, by omega⟩ (fun h => absurd h (by omega)) (fun _ => ?_)
          refine ga_aload_n (v := .ref 344) hm_179 rfl rfl rfl ?_
          refine ga_getr (b := 363) hm_179 rfl sc_344 rfl ?_
          refine fl_iconst hm_179 rfl ?_
          refine ga_iload_n (z := at_ + F 358 a.toNat) hm_179 rfl rfl ?_
          refine ga_imul (a := 2) (b := at_ + F 358 a.toNat) (c := 2 * at_ + 2 * (F 358 a.toNat)) hm_179 rfl (by omega) ?_
          refine ga_iload (z := 0) hm_179 rfl rfl ?_
          refine ga_iadd (a := 2 * at_ + 2 * (F 358 a.toNat)) (b := 0) (c := 2 * at_ + 2 * (F 358 a.toNat)) hm_179 rfl (by omega) ?_
          refine ga_aload_n (v := .ref 344) hm_179 rfl rfl rfl ?_
          refine ga_iload_n (z := a) hm_179 rfl rfl ?_
          refine fl_iconst hm_179 rfl ?_
          obtain ⟨F143_, q144_⟩ : ∃ F9_, F9_ = (fl_u (fl_u F85_ 360 (at_ + F 358 a.toNat).toNat 1) 344 5 (F 344 5 + 1)) := ⟨_, rfl⟩
          rw [← q144_]
          have g145_ : gi F143_ := by rw [q144_]; exact gi_u (gi_u (g87_) rfl (by omega) (by omega)) rfl (by omega) (by omega)
          have g146_ : fs [(344, 344, 5, 5), (344, 344, 9, 10), (358, 358, 0, 100000), (360, 363, 0, 100000)] F F143_ := by rw [q144_]; exact fs_u (fs_u (g88_) (fs_z (fs_z (fs_z (fs_y (by omega)))))) rfl
          have rk147_ : rk K F143_ := by rw [q144_]; exact rk_u (rk_u (rk89_) (by omega) (by omega)) (by omega) (by omega)
          have e148_ : F143_ 344 5 = F 344 5 + 1 := by rw [q144_]; exact fl_u_eq
          refine gVi (nY := 6) (F := 3) (L := 66) (As := [.int (Int32.ofInt a), .int (Int32.ofInt (-1))]) (b := 344) (rest := [.int (Int32.ofInt (2 * at_ + 2 * (F 358 a.toNat))), .ref 363]) hm_179 rfl hm_185 rfl rfl (fl_ob sc_344) rfl rfl rfl rfl rfl (by omega) (by omega) (mc_185 hG F143_ X g145_ (K) (a) (-1) (k) (-1) (l) (tl) hgK rk147_ hkt (by omega) ((by rw [q144_]; exact (trm_u (trm_u (by rw [q86_]; exact (trm_u ht (by omega))) (by omega)) (by omega)))) (hlt) (Or.inl ⟨by omega, by omega, rfl⟩) (by omega)) (fun _ _ h => False.elim h) ?_
          have e150_ : F85_ 344 10 = F 344 10 := by rw [q86_]; exact fl_u_ne (by omega)
          have e151_ : F143_ 344 10 = F 344 10 := by rw [q144_]; exact (fl_u_ne (by omega)).trans ((fl_u_ne (by omega)).trans (e150_))
          have b152_ : 0 ≤ F 344 10 ∧ F 344 10 ≤ 600 := gi_g hgi rfl
          have e153_ : F143_ 344 9 = F 344 9 := by rw [q144_]; exact (fl_u_ne (by omega)).trans ((fl_u_ne (by omega)).trans (e92_))
          rintro z149_ A1_ (⟨F159_, hA_, g160_, s161_, c154_, c155_, c156_, c157_, c158_⟩ | ⟨F167_, hA_, g168_, s169_, c162_, c163_, c164_, c165_, c166_⟩)
          ·
            subst hA_
            have g170_ : fs [(344, 344, 5, 5), (344, 344, 9, 10), (358, 358, 0, 100000), (360, 363, 0, 100000)] F F159_ := fs_tr g146_ s161_ rfl
            have rk171_ : rk K F159_ := rk_fs rk147_ s161_ (fun r k h => (fs_n (by omega) (fs_n (by omega) rfl))) (fs_n (by omega) (fs_n (by omega) rfl))
            try simp only [e148_, e151_, e153_] at c155_
            have c155_s := c155_.1 (by omega)
            clear c155_
            refine fl_iast (z := 2 * at_ + 2 * (F 358 a.toNat)) (v := z149_) hm_179 rfl sc_363 (by omega) (by omega) (by omega) ?_
            refine ga_inc (a := 0) (c := 1) (lv2 := [(5, .int (Int32.ofInt 1)), (4, .int (Int32.ofInt 0)), (3, .int (Int32.ofInt (at_ + F 358 a.toNat))), (0, .ref 344), (1, .int (Int32.ofInt a)), (2, .int (Int32.ofInt at_))]) hm_179 rfl rfl (Nat.le_of_ble_eq_true rfl) (by omega) rfl ?_
            refine fl_goto hm_179 rfl ?_
            refine ga_iload (z := 1) hm_179 rfl rfl ?_
            refine fl_iconst hm_179 rfl ?_
            refine fl_icmp_ge hm_179 rfl ⟨by omega, by omega⟩ ⟨by omega, by omega⟩ (fun h => absurd h (by omega)) (fun _ => ?_)
            refine ga_aload_n (v := .ref 344) hm_179 rfl rfl rfl ?_
            refine ga_getr (b := 363) hm_179 rfl sc_344 rfl ?_
            refine fl_iconst hm_179 rfl ?_
            refine ga_iload_n (z := at_ + F 358 a.toNat) hm_179 rfl rfl ?_
            refine ga_imul (a := 2) (b := at_ + F 358 a.toNat) (c := 2 * at_ + 2 * (F 358 a.toNat)) hm_179 rfl (by omega) ?_
            refine ga_iload (z := 1) hm_179 rfl rfl ?_
            refine ga_iadd (a := 2 * at_ + 2 * (F 358 a.toNat)) (b := 1) (c := 2 * at_ + 2 * (F 358 a.toNat) + 1) hm_179 rfl (by omega) ?_
            refine ga_aload_n (v := .ref 344) hm_179 rfl rfl rfl ?_
            refine ga_iload_n (z := a) hm_179 rfl rfl ?_
            refine fl_iconst hm_179 rfl ?_
            obtain ⟨F172_, q173_⟩ : ∃ F9_, F9_ = (fl_u F159_ 363 (2 * at_ + 2 * (F 358 a.toNat)).toNat z149_) := ⟨_, rfl⟩
            rw [← q173_]
            have g174_ : gi F172_ := by rw [q173_]; exact gi_u363 (g160_) (by omega) (by omega) (rz_k (ll := at_ + F 358 a.toNat) (rla_add hla (by omega)) c158_ (by omega) (by omega)) (by omega)
            have g175_ : fs [(344, 344, 5, 5), (344, 344, 9, 10), (358, 358, 0, 100000), (360, 363, 0, 100000)] F F172_ := by rw [q173_]; exact fs_u (g170_) (fs_z (fs_z (fs_z (fs_y (by omega)))))
            have rk176_ : rk K F172_ := by rw [q173_]; exact rk_u (rk171_) (by omega) (by omega)
            have e177_ : F172_ 344 5 = F159_ 344 5 := by rw [q173_]; exact fl_u_ne (by omega)
            have b178_ : 0 ≤ F159_ 344 5 ∧ F159_ 344 5 ≤ 600 := gi_g g160_ rfl
            refine gVi (nY := 6) (F := 3) (L := 66) (As := [.int (Int32.ofInt a), .int (Int32.ofInt (-1))]) (b := 344) (rest := [.int (Int32.ofInt (2 * at_ + 2 * (F 358 a.toNat) + 1)), .ref 363]) hm_179 rfl hm_185 rfl rfl (fl_ob sc_344) rfl rfl rfl rfl rfl (by omega) (by omega) (mc_185 hG F172_ X g174_ (K) (a) (-1) (k) (-1) (l) (tl) hgK rk176_ hkt (by omega) ((by rw [q173_]; exact (trm_u (trm_fs (by rw [q144_]; exact (trm_u (trm_u (by rw [q86_]; exact (trm_u ht (by omega))) (by omega)) (by omega))) s161_ (fun r j hj => (fs_n (by omega) (fs_n (by omega) rfl)))) (by omega)))) (hlt) (Or.inl ⟨by omega, by omega, rfl⟩) (by omega)) (fun _ _ h => False.elim h) ?_
            have e180_ : F172_ 344 10 = F159_ 344 10 := by rw [q173_]; exact fl_u_ne (by omega)
            have b181_ : 0 ≤ F159_ 344 10 ∧ F159_ 344 10 ≤ 600 := gi_g g160_ rfl
            have e182_ : F172_ 344 9 = F159_ 344 9 := by rw [q173_]; exact fl_u_ne (by omega)
            have b183_ : 0 ≤ F159_ 344 9 ∧ F159_ 344 9 ≤ 5 := gi_g g160_ rfl
            rintro z179_ A1_ (⟨F189_, hA_, g190_, s191_, c184_, c185_, c186_, c187_, c188_⟩ | ⟨F197_, hA_, g198_, s199_, c192_, c193_, c194_, c195_, c196_⟩)
            ·
              subst hA_
              have g200_ : fs [(344, 344, 5, 5), (344, 344, 9, 10), (358, 358, 0, 100000), (360, 363, 0, 100000)] F F189_ := fs_tr g175_ s191_ rfl
              have rk201_ : rk K F189_ := rk_fs rk176_ s191_ (fun r k h => (fs_n (by omega) (fs_n (by omega) rfl))) (fs_n (by omega) (fs_n (by omega) rfl))
              try simp only [e177_, e180_, e182_] at c185_
              have c185_k := c185_.2 (by omega)
              clear c185_
              refine fl_iast (z := 2 * at_ + 2 * (F 358 a.toNat) + 1) (v := z179_) hm_179 rfl sc_363 (by omega) (by omega) (by omega) ?_
              refine ga_inc (a := 1) (c := 2) (lv2 := [(5, .int (Int32.ofInt 2)), (4, .int (Int32.ofInt 0)), (3, .int (Int32.ofInt (at_ + F 358 a.toNat))), (0, .ref 344), (1, .int (Int32.ofInt a)), (2, .int (Int32.ofInt at_))]) hm_179 rfl rfl (Nat.le_of_ble_eq_true rfl) (by omega) rfl ?_
              refine fl_goto hm_179 rfl ?_
              refine ga_iload (z := 2) hm_179 rfl rfl ?_
              refine fl_iconst hm_179 rfl ?_
              refine fl_icmp_ge hm_179 rfl ⟨by omega, by omega⟩ ⟨by omega, by omega⟩ (fun _ => ?_) (fun h => absurd (by omega) h)
              obtain ⟨F202_, q203_⟩ : ∃ F9_, F9_ = (fl_u F189_ 363 (2 * at_ + 2 * (F 358 a.toNat) + 1).toNat z179_) := ⟨_, rfl⟩
              rw [← q203_]
              have g204_ : gi F202_ := by rw [q203_]; exact gi_u363 (g190_) (by omega) (by omega) (rz_k (ll := at_ + F 358 a.toNat) (rla_add hla (by omega)) c188_ (by omega) (by omega)) (by omega)
              have g205_ : fs [(344, 344, 5, 5), (344, 344, 9, 10), (358, 358, 0, 100000), (360, 363, 0, 100000)] F F202_ := by rw [q203_]; exact fs_u (g200_) (fs_z (fs_z (fs_z (fs_y (by omega)))))
              have rk206_ : rk K F202_ := by rw [q203_]; exact rk_u (rk201_) (by omega) (by omega)
              have e207_ : F202_ 344 9 = F189_ 344 9 := by rw [q203_]; exact fl_u_ne (by omega)
              have b208_ : 0 ≤ F189_ 344 9 ∧ F189_ 344 9 ≤ 5 := gi_g g190_ rfl
              have e209_ : F202_ 344 10 = F189_ 344 10 := by rw [q203_]; exact fl_u_ne (by omega)
              have b210_ : 0 ≤ F189_ 344 10 ∧ F189_ 344 10 ≤ 600 := gi_g g190_ rfl
              have e211_ : F202_ 344 5 = F189_ 344 5 := by rw [q203_]; exact fl_u_ne (by omega)
              have b212_ : 0 ≤ F189_ 344 5 ∧ F189_ 344 5 ≤ 600 := gi_g g190_ rfl
              have e213_ : F85_ 358 a.toNat = F 358 a.toNat := by rw [q86_]; exact fl_u_ne (by omega)
              have e214_ : F143_ 358 a.toNat = F 358 a.toNat := by rw [q144_]; exact (fl_u_ne (by omega)).trans ((fl_u_ne (by omega)).trans (e213_))
              have e215_ : F159_ 358 a.toNat = F 358 a.toNat := (s161_ 358 a.toNat (fs_n (by omega) (fs_n (by omega) rfl))).trans (e214_)
              have e216_ : F172_ 358 a.toNat = F 358 a.toNat := by rw [q173_]; exact (fl_u_ne (by omega)).trans (e215_)
              have e217_ : F189_ 358 a.toNat = F 358 a.toNat := (s191_ 358 a.toNat (fs_n (by omega) (fs_n (by omega) rfl))).trans (e216_)
              have e218_ : F202_ 358 a.toNat = F 358 a.toNat := by rw [q203_]; exact (fl_u_ne (by omega)).trans (e217_)
              exact fl_R_sub (lv' := [(4, .int (Int32.ofInt 0)), (0, .ref 344), (1, .int (Int32.ofInt a)), (2, .int (Int32.ofInt at_))]) rfl rfl (B128_ F202_ (0) g204_ g205_ rk206_ (by omega) (by omega) (⟨by intro h0_; have hs_ := c155_s; rw [sp_lit, if_neg (fun h8_ => c76_ ⟨by omega, h8_⟩)]; rw [sp_lx, if_pos c94_.2, sp_eq, (show sk K (F 344 5) = F 344 5 + 1 by rw [sk, if_pos (by omega)])]; rw [hs_]; try (show Sum.inl _ = _); try (congr 2 <;> omega), fun h0_ => by exfalso; omega⟩) (by omega) (by omega))
            exfalso; omega
          subst hA_
          have g219_ : fs [(344, 344, 5, 5), (344, 344, 9, 10), (358, 358, 0, 100000), (360, 363, 0, 100000)] F F167_ := fs_tr g146_ s169_ rfl
          have rk220_ : rk K F167_ := rk_fs rk147_ s169_ (fun r k h => (fs_n (by omega) (fs_n (by omega) rfl))) (fs_n (by omega) (fs_n (by omega) rfl))
          try simp only [e153_] at c162_
          try simp only [e148_] at c163_
          refine fl_iast (z := 2 * at_ + 2 * (F 358 a.toNat)) (v := z149_) hm_179 rfl sc_363 (by omega) (by omega) (by omega) ?_
          refine ga_inc (a := 0) (c := 1) (lv2 := [(5, .int (Int32.ofInt 1)), (4, .int (Int32.ofInt 0)), (3, .int (Int32.ofInt (at_ + F 358 a.toNat))), (0, .ref 344), (1, .int (Int32.ofInt a)), (2, .int (Int32.ofInt at_))]) hm_179 rfl rfl (Nat.le_of_ble_eq_true rfl) (by omega) rfl ?_
          refine fl_goto hm_179 rfl ?_
          refine ga_iload (z := 1) hm_179 rfl rfl ?_
          refine fl_iconst hm_179 rfl ?_
          refine fl_icmp_ge hm_179 rfl ⟨by omega, by omega⟩ ⟨by omega, by omega⟩ (fun h => absurd h (by omega)) (fun _ => ?_)
          refine ga_aload_n (v := .ref 344) hm_179 rfl rfl rfl ?_
          refine ga_getr (b := 363) hm_179 rfl sc_344 rfl ?_
          refine fl_iconst hm_179 rfl ?_
          refine ga_iload_n (z := at_ + F 358 a.toNat) hm_179 rfl rfl ?_
          refine ga_imul (a := 2) (b := at_ + F 358 a.toNat) (c := 2 * at_ + 2 * (F 358 a.toNat)) hm_179 rfl (by omega) ?_
          refine ga_iload (z := 1) hm_179 rfl rfl ?_
          refine ga_iadd (a := 2 * at_ + 2 * (F 358 a.toNat)) (b := 1) (c := 2 * at_ + 2 * (F 358 a.toNat) + 1) hm_179 rfl (by omega) ?_
          refine ga_aload_n (v := .ref 344) hm_179 rfl rfl rfl ?_
          refine ga_iload_n (z := a) hm_179 rfl rfl ?_
          refine fl_iconst hm_179 rfl ?_
          obtain ⟨F221_, q222_⟩ : ∃ F9_, F9_ = (fl_u F167_ 363 (2 * at_ + 2 * (F 358 a.toNat)).toNat z149_) := ⟨_, rfl⟩
          rw [← q222_]
          have g223_ : gi F221_ := by rw [q222_]; exact gi_u363 (g168_) (by omega) (by omega) (rz_k (ll := at_ + F 358 a.toNat) (rla_add hla (by omega)) c166_ (by omega) (by omega)) (by omega)
          have g224_ : fs [(344, 344, 5, 5), (344, 344, 9, 10), (358, 358, 0, 100000), (360, 363, 0, 100000)] F F221_ := by rw [q222_]; exact fs_u (g219_) (fs_z (fs_z (fs_z (fs_y (by omega)))))
          have rk225_ : rk K F221_ := by rw [q222_]; exact rk_u (rk220_) (by omega) (by omega)
          have e226_ : F221_ 344 5 = F167_ 344 5 := by rw [q222_]; exact fl_u_ne (by omega)
          have b227_ : 0 ≤ F167_ 344 5 ∧ F167_ 344 5 ≤ 600 := gi_g g168_ rfl
          refine gVi (nY := 6) (F := 3) (L := 66) (As := [.int (Int32.ofInt a), .int (Int32.ofInt (-1))]) (b := 344) (rest := [.int (Int32.ofInt (2 * at_ + 2 * (F 358 a.toNat) + 1)), .ref 363]) hm_179 rfl hm_185 rfl rfl (fl_ob sc_344) rfl rfl rfl rfl rfl (by omega) (by omega) (mc_185 hG F221_ X g223_ (K) (a) (-1) (k) (-1) (l) (tl) hgK rk225_ hkt (by omega) ((by rw [q222_]; exact (trm_u (trm_fs (by rw [q144_]; exact (trm_u (trm_u (by rw [q86_]; exact (trm_u ht (by omega))) (by omega)) (by omega))) s169_ (fun r j hj => (fs_n (by omega) (fs_n (by omega) rfl)))) (by omega)))) (hlt) (Or.inl ⟨by omega, by omega, rfl⟩) (by omega)) (fun _ _ h => False.elim h) ?_
          have e229_ : F221_ 344 10 = F167_ 344 10 := by rw [q222_]; exact fl_u_ne (by omega)
          have b230_ : 0 ≤ F167_ 344 10 ∧ F167_ 344 10 ≤ 600 := gi_g g168_ rfl
          have e231_ : F221_ 344 9 = F167_ 344 9 := by rw [q222_]; exact fl_u_ne (by omega)
          have b232_ : 0 ≤ F167_ 344 9 ∧ F167_ 344 9 ≤ 5 := gi_g g168_ rfl
          rintro z228_ A1_ (⟨F238_, hA_, g239_, s240_, c233_, c234_, c235_, c236_, c237_⟩ | ⟨F246_, hA_, g247_, s248_, c241_, c242_, c243_, c244_, c245_⟩)
          ·
            subst hA_
            have g249_ : fs [(344, 344, 5, 5), (344, 344, 9, 10), (358, 358, 0, 100000), (360, 363, 0, 100000)] F F238_ := fs_tr g224_ s240_ rfl
            have rk250_ : rk K F238_ := rk_fs rk225_ s240_ (fun r k h => (fs_n (by omega) (fs_n (by omega) rfl))) (fs_n (by omega) (fs_n (by omega) rfl))
            try simp only [e226_, e229_, e231_] at c234_
            have c234_s := c234_.1 (by omega)
            clear c234_
            refine fl_iast (z := 2 * at_ + 2 * (F 358 a.toNat) + 1) (v := z228_) hm_179 rfl sc_363 (by omega) (by omega) (by omega) ?_
            refine ga_inc (a := 1) (c := 2) (lv2 := [(5, .int (Int32.ofInt 2)), (4, .int (Int32.ofInt 0)), (3, .int (Int32.ofInt (at_ + F 358 a.toNat))), (0, .ref 344), (1, .int (Int32.ofInt a)), (2, .int (Int32.ofInt at_))]) hm_179 rfl rfl (Nat.le_of_ble_eq_true rfl) (by omega) rfl ?_
            refine fl_goto hm_179 rfl ?_
            refine ga_iload (z := 2) hm_179 rfl rfl ?_
            refine fl_iconst hm_179 rfl ?_
            refine fl_icmp_ge hm_179 rfl ⟨by omega, by omega⟩ ⟨by omega, by omega⟩ (fun _ => ?_) (fun h => absurd (by omega) h)
            obtain ⟨F251_, q252_⟩ : ∃ F9_, F9_ = (fl_u F238_ 363 (2 * at_ + 2 * (F 358 a.toNat) + 1).toNat z228_) := ⟨_, rfl⟩
            rw [← q252_]
            have g253_ : gi F251_ := by rw [q252_]; exact gi_u363 (g239_) (by omega) (by omega) (rz_k (ll := at_ + F 358 a.toNat) (rla_add hla (by omega)) c237_ (by omega) (by omega)) (by omega)
            have g254_ : fs [(344, 344, 5, 5), (344, 344, 9, 10), (358, 358, 0, 100000), (360, 363, 0, 100000)] F F251_ := by rw [q252_]; exact fs_u (g249_) (fs_z (fs_z (fs_z (fs_y (by omega)))))
            have rk255_ : rk K F251_ := by rw [q252_]; exact rk_u (rk250_) (by omega) (by omega)
            have e256_ : F251_ 344 9 = F238_ 344 9 := by rw [q252_]; exact fl_u_ne (by omega)
            have b257_ : 0 ≤ F238_ 344 9 ∧ F238_ 344 9 ≤ 5 := gi_g g239_ rfl
            have e258_ : F251_ 344 10 = F238_ 344 10 := by rw [q252_]; exact fl_u_ne (by omega)
            have b259_ : 0 ≤ F238_ 344 10 ∧ F238_ 344 10 ≤ 600 := gi_g g239_ rfl
            have e260_ : F251_ 344 5 = F238_ 344 5 := by rw [q252_]; exact fl_u_ne (by omega)
            have b261_ : 0 ≤ F238_ 344 5 ∧ F238_ 344 5 ≤ 600 := gi_g g239_ rfl
            have e262_ : F85_ 358 a.toNat = F 358 a.toNat := by rw [q86_]; exact fl_u_ne (by omega)
            have e263_ : F143_ 358 a.toNat = F 358 a.toNat := by rw [q144_]; exact (fl_u_ne (by omega)).trans ((fl_u_ne (by omega)).trans (e262_))
            have e264_ : F167_ 358 a.toNat = F 358 a.toNat := (s169_ 358 a.toNat (fs_n (by omega) (fs_n (by omega) rfl))).trans (e263_)
            have e265_ : F221_ 358 a.toNat = F 358 a.toNat := by rw [q222_]; exact (fl_u_ne (by omega)).trans (e264_)
            have e266_ : F238_ 358 a.toNat = F 358 a.toNat := (s240_ 358 a.toNat (fs_n (by omega) (fs_n (by omega) rfl))).trans (e265_)
            have e267_ : F251_ 358 a.toNat = F 358 a.toNat := by rw [q252_]; exact (fl_u_ne (by omega)).trans (e266_)
            exact fl_R_sub (lv' := [(4, .int (Int32.ofInt 0)), (0, .ref 344), (1, .int (Int32.ofInt a)), (2, .int (Int32.ofInt at_))]) rfl rfl (B128_ F251_ (0) g253_ g254_ rk255_ (by omega) (by omega) (⟨by intro h0_; have hs_ := c234_s; rw [sp_lit, if_neg (fun h8_ => c76_ ⟨by omega, h8_⟩)]; rw [sp_lx, if_pos c94_.2, sp_eq, (show sk K (F 344 5) = F 344 5 + 1 by rw [sk, if_pos (by omega)])]; rw [c163_, pb_r]; rw [hs_]; try (show Sum.inl _ = _); try (congr 2 <;> omega), fun h0_ => by exfalso; omega⟩) (by omega) (by omega))
          subst hA_
          have g268_ : fs [(344, 344, 5, 5), (344, 344, 9, 10), (358, 358, 0, 100000), (360, 363, 0, 100000)] F F246_ := fs_tr g224_ s248_ rfl
          have rk269_ : rk K F246_ := rk_fs rk225_ s248_ (fun r k h => (fs_n (by omega) (fs_n (by omega) rfl))) (fs_n (by omega) (fs_n (by omega) rfl))
          try simp only [e231_] at c241_
          try simp only [e226_] at c242_
          refine fl_iast (z := 2 * at_ + 2 * (F 358 a.toNat) + 1) (v := z228_) hm_179 rfl sc_363 (by omega) (by omega) (by omega) ?_
          refine ga_inc (a := 1) (c := 2) (lv2 := [(5, .int (Int32.ofInt 2)), (4, .int (Int32.ofInt 0)), (3, .int (Int32.ofInt (at_ + F 358 a.toNat))), (0, .ref 344), (1, .int (Int32.ofInt a)), (2, .int (Int32.ofInt at_))]) hm_179 rfl rfl (Nat.le_of_ble_eq_true rfl) (by omega) rfl ?_
          refine fl_goto hm_179 rfl ?_
          refine ga_iload (z := 2) hm_179 rfl rfl ?_
          refine fl_iconst hm_179 rfl ?_
          refine fl_icmp_ge hm_179 rfl ⟨by omega, by omega⟩ ⟨by omega, by omega⟩ (fun _ => ?_) (fun h => absurd (by omega) h)
          refine ga_aload_n (v := .ref 344) hm_179 rfl rfl rfl ?_
          refine fl_bipush hm_179 rfl rfl ?_
          obtain ⟨F270_, q271_⟩ : ∃ F9_, F9_ = (fl_u F246_ 363 (2 * at_ + 2 * (F 358 a.toNat) + 1).toNat z228_) := ⟨_, rfl⟩
          rw [← q271_]
          have g272_ : gi F270_ := by rw [q271_]; exact gi_u363 (g247_) (by omega) (by omega) (rz_k (ll := at_ + F 358 a.toNat) (rla_add hla (by omega)) c245_ (by omega) (by omega)) (by omega)
          have g273_ : fs [(344, 344, 5, 5), (344, 344, 9, 10), (358, 358, 0, 100000), (360, 363, 0, 100000)] F F270_ := by rw [q271_]; exact fs_u (g268_) (fs_z (fs_z (fs_z (fs_y (by omega)))))
          have rk274_ : rk K F270_ := by rw [q271_]; exact rk_u (rk269_) (by omega) (by omega)
          have e275_ : F270_ 344 5 = F246_ 344 5 := by rw [q271_]; exact fl_u_ne (by omega)
          have b276_ : 0 ≤ F246_ 344 5 ∧ F246_ 344 5 ≤ 600 := gi_g g247_ rfl
          refine gVv (nY := 2) (F := 2) (L := 41) (As := [.int (Int32.ofInt 41)]) (b := 344) (rest := []) hm_179 rfl hm_51 rfl rfl (fl_ob sc_344) rfl rfl rfl rfl rfl (by omega) (by omega) (mc_51 hG F270_ X g272_ (K) (41) (1) hgK rk274_ hkt (by omega) (by omega) (by omega)) (fun _ _ h => False.elim h) ?_
          have e278_ : F270_ 344 10 = F246_ 344 10 := by rw [q271_]; exact fl_u_ne (by omega)
          have b279_ : 0 ≤ F246_ 344 10 ∧ F246_ 344 10 ≤ 600 := gi_g g247_ rfl
          have e280_ : F270_ 344 9 = F246_ 344 9 := by rw [q271_]; exact fl_u_ne (by omega)
          have b281_ : 0 ≤ F246_ 344 9 ∧ F246_ 344 9 ≤ 5 := gi_g g247_ rfl
          rintro A1_ (⟨F285_, hA_, g286_, s287_, c282_, c283_, c284_⟩ | ⟨F291_, hA_, g292_, s293_, c288_, c289_, c290_⟩)
          ·
            subst hA_
            have g294_ : fs [(344, 344, 5, 5), (344, 344, 9, 10), (358, 358, 0, 100000), (360, 363, 0, 100000)] F F285_ := fs_tr g273_ s287_ rfl
            have rk295_ : rk K F285_ := rk_fs rk274_ s287_ (fun r k h => (fs_n (by omega) (fs_n (by omega) rfl))) (fs_n (by omega) (fs_n (by omega) rfl))
            try simp only [e275_, e278_, e280_] at c283_
            have c283_s := c283_.1 (by omega)
            clear c283_
            refine fl_goto hm_179 rfl ?_
            have b296_ : 0 ≤ F285_ 344 9 ∧ F285_ 344 9 ≤ 5 := gi_g g286_ rfl
            have b297_ : 0 ≤ F285_ 344 10 ∧ F285_ 344 10 ≤ 600 := gi_g g286_ rfl
            have b298_ : 0 ≤ F285_ 344 5 ∧ F285_ 344 5 ≤ 600 := gi_g g286_ rfl
            have e299_ : F85_ 358 a.toNat = F 358 a.toNat := by rw [q86_]; exact fl_u_ne (by omega)
            have e300_ : F143_ 358 a.toNat = F 358 a.toNat := by rw [q144_]; exact (fl_u_ne (by omega)).trans ((fl_u_ne (by omega)).trans (e299_))
            have e301_ : F167_ 358 a.toNat = F 358 a.toNat := (s169_ 358 a.toNat (fs_n (by omega) (fs_n (by omega) rfl))).trans (e300_)
            have e302_ : F221_ 358 a.toNat = F 358 a.toNat := by rw [q222_]; exact (fl_u_ne (by omega)).trans (e301_)
            have e303_ : F246_ 358 a.toNat = F 358 a.toNat := (s248_ 358 a.toNat (fs_n (by omega) (fs_n (by omega) rfl))).trans (e302_)
            have e304_ : F270_ 358 a.toNat = F 358 a.toNat := by rw [q271_]; exact (fl_u_ne (by omega)).trans (e303_)
            have e305_ : F285_ 358 a.toNat = F 358 a.toNat := (s287_ 358 a.toNat (fs_n (by omega) (fs_n (by omega) rfl))).trans (e304_)
            exact fl_R_sub (lv' := [(4, .int (Int32.ofInt 0)), (0, .ref 344), (1, .int (Int32.ofInt a)), (2, .int (Int32.ofInt at_))]) rfl rfl (B143_ F285_ (0) g286_ g294_ rk295_ (by omega) (by omega) (⟨by intro h0_; have hs_ := c283_s; rw [sp_lit, if_neg (fun h8_ => c76_ ⟨by omega, h8_⟩)]; rw [sp_lx, if_pos c94_.2, sp_eq, (show sk K (F 344 5) = F 344 5 + 1 by rw [sk, if_pos (by omega)])]; rw [c163_, pb_r]; rw [c242_, pb_r]; rw [hs_]; try (show Sum.inl _ = _); try (congr 2 <;> omega), fun h0_ => by exfalso; omega⟩) (by omega) (by omega))
          subst hA_
          have g306_ : fs [(344, 344, 5, 5), (344, 344, 9, 10), (358, 358, 0, 100000), (360, 363, 0, 100000)] F F291_ := fs_tr g273_ s293_ rfl
          have rk307_ : rk K F291_ := rk_fs rk274_ s293_ (fun r k h => (fs_n (by omega) (fs_n (by omega) rfl))) (fs_n (by omega) (fs_n (by omega) rfl))
          try simp only [e280_] at c288_
          try simp only [e275_] at c289_
          refine fl_goto hm_179 rfl ?_
          refine ga_iload (z := 0) hm_179 rfl rfl ?_
          refine fl_if_eq hm_179 rfl ⟨by omega, by omega⟩ (fun _ => ?_) (fun h => absurd (by omega) h)
          refine ga_aload_n (v := .ref 344) hm_179 rfl rfl rfl ?_
          refine ga_getr (b := 358) hm_179 rfl sc_344 rfl ?_
          refine ga_iload_n (z := a) hm_179 rfl rfl ?_
          refine ga_dup2 hm_179 rfl ⟨rfl, rfl⟩ ?_
          have e308_ : F85_ 358 a.toNat = F 358 a.toNat := by rw [q86_]; exact fl_u_ne (by omega)
          have e309_ : F143_ 358 a.toNat = F 358 a.toNat := by rw [q144_]; exact (fl_u_ne (by omega)).trans ((fl_u_ne (by omega)).trans (e308_))
          have e310_ : F167_ 358 a.toNat = F 358 a.toNat := (s169_ 358 a.toNat (fs_n (by omega) (fs_n (by omega) rfl))).trans (e309_)
          have e311_ : F221_ 358 a.toNat = F 358 a.toNat := by rw [q222_]; exact (fl_u_ne (by omega)).trans (e310_)
          have e312_ : F246_ 358 a.toNat = F 358 a.toNat := (s248_ 358 a.toNat (fs_n (by omega) (fs_n (by omega) rfl))).trans (e311_)
          have e313_ : F270_ 358 a.toNat = F 358 a.toNat := by rw [q271_]; exact (fl_u_ne (by omega)).trans (e312_)
          have e314_ : F291_ 358 a.toNat = F 358 a.toNat := (s293_ 358 a.toNat (fs_n (by omega) (fs_n (by omega) rfl))).trans (e313_)
          refine ga_iald (z := a) (w := F 358 a.toNat) hm_179 rfl sc_358 (by omega) (by omega) (by omega) (e314_) ?_
          refine fl_iconst hm_179 rfl ?_
          refine ga_iadd (a := F 358 a.toNat) (b := 1) (c := F 358 a.toNat + 1) hm_179 rfl (by omega) ?_
          refine fl_iast (z := a) (v := F 358 a.toNat + 1) hm_179 rfl sc_358 (by omega) (by omega) (by omega) ?_
          obtain ⟨F315_, q316_⟩ : ∃ F9_, F9_ = (fl_u F291_ 358 a.toNat (F 358 a.toNat + 1)) := ⟨_, rfl⟩
          rw [← q316_]
          have g317_ : gi F315_ := by rw [q316_]; exact gi_u (g292_) rfl (by omega) (by omega)
          have g318_ : fs [(344, 344, 5, 5), (344, 344, 9, 10), (358, 358, 0, 100000), (360, 363, 0, 100000)] F F315_ := by rw [q316_]; exact fs_u (g306_) (fs_z (fs_z (fs_y (by omega))))
          have rk319_ : rk K F315_ := by rw [q316_]; exact rk_u (rk307_) (by omega) (by omega)
          refine gr_v hm_179 rfl rfl ?_
          have e320_ : F315_ 344 9 = F291_ 344 9 := by rw [q316_]; exact fl_u_ne (by omega)
          have b321_ : 0 ≤ F291_ 344 9 ∧ F291_ 344 9 ≤ 5 := gi_g g292_ rfl
          have e322_ : F315_ 344 10 = F291_ 344 10 := by rw [q316_]; exact fl_u_ne (by omega)
          have e323_ : F315_ 344 5 = F291_ 344 5 := by rw [q316_]; exact fl_u_ne (by omega)
          have b324_ : 0 ≤ F291_ 344 5 ∧ F291_ 344 5 ≤ 600 := gi_g g292_ rfl
          have e325_ : F315_ 358 a.toNat = F 358 a.toNat + 1 := by rw [q316_]; exact fl_u_eq
          exact Or.inr (⟨F315_, rfl, g317_, g318_, (by omega), (by rw [sp_lit, if_neg (fun h8_ => c76_ ⟨by omega, h8_⟩)]; rw [sp_lx, if_pos c94_.2, sp_eq, (show sk K (F 344 5) = F 344 5 + 1 by rw [sk, if_pos (by omega)])]; rw [c163_, pb_r]; rw [c242_, pb_r]; rw [c289_]; try (congr 1; omega)), (by omega), (by omega)⟩)
        exfalso; omega
      subst hA_
      subst hz_
      refine ga_istore (lv2 := [(4, .int (Int32.ofInt 1)), (3, .int (Int32.ofInt (at_ + F 358 a.toNat))), (0, .ref 344), (1, .int (Int32.ofInt a)), (2, .int (Int32.ofInt at_))]) hm_179 rfl (Nat.le_of_ble_eq_true rfl) rfl ?_
      refine ga_iload (z := 1) hm_179 rfl rfl ?_
      refine fl_if_eq hm_179 rfl ⟨by omega, by omega⟩ (fun h => absurd h (by omega)) (fun _ => ?_)
      have hsz0 := (kw_iff (w := [110, 111, 116]) hkt hgK hp.1 hp.2 (by decide) (by decide)).mp c77_.2
      refine ga_aload_n (v := .ref 344) hm_179 rfl rfl rfl ?_
      refine ga_dup hm_179 rfl rfl ?_
      refine ga_geti (z := F 344 5) hm_179 rfl sc_344 rfl (rfl) ?_
      refine fl_iconst hm_179 rfl ?_
      refine ga_iadd (a := F 344 5) (b := 1) (c := F 344 5 + 1) hm_179 rfl (by omega) ?_
      refine ga_puti (z := F 344 5 + 1) hm_179 rfl sc_344 rfl rfl ?_
      refine ga_aload_n (v := .ref 344) hm_179 rfl rfl rfl ?_
      refine fl_bipush hm_179 rfl rfl ?_
      obtain ⟨F326_, q327_⟩ : ∃ F9_, F9_ = (fl_u F 344 5 (F 344 5 + 1)) := ⟨_, rfl⟩
      rw [← q327_]
      have g328_ : gi F326_ := by rw [q327_]; exact gi_u (hgi) rfl (by omega) (by omega)
      have g329_ : fs [(344, 344, 5, 5), (344, 344, 9, 10), (358, 358, 0, 100000), (360, 363, 0, 100000)] F F326_ := by rw [q327_]; exact fs_u (fs_refl) rfl
      have rk330_ : rk K F326_ := by rw [q327_]; exact rk_u (hrk) (by omega) (by omega)
      have e331_ : F326_ 344 5 = F 344 5 + 1 := by rw [q327_]; exact fl_u_eq
      refine gVv (nY := 2) (F := 2) (L := 41) (As := [.int (Int32.ofInt 40)]) (b := 344) (rest := []) hm_179 rfl hm_51 rfl rfl (fl_ob sc_344) rfl rfl rfl rfl rfl (by omega) (by omega) (mc_51 hG F326_ X g328_ (K) (40) (0) hgK rk330_ hkt (by omega) (by omega) (by omega)) (fun _ _ h => False.elim h) ?_
      have e333_ : F326_ 344 10 = F 344 10 := by rw [q327_]; exact fl_u_ne (by omega)
      have b334_ : 0 ≤ F 344 10 ∧ F 344 10 ≤ 600 := gi_g hgi rfl
      have e335_ : F326_ 344 9 = F 344 9 := by rw [q327_]; exact fl_u_ne (by omega)
      rintro A1_ (⟨F339_, hA_, g340_, s341_, c336_, c337_, c338_⟩ | ⟨F345_, hA_, g346_, s347_, c342_, c343_, c344_⟩)
      ·
        subst hA_
        have g348_ : fs [(344, 344, 5, 5), (344, 344, 9, 10), (358, 358, 0, 100000), (360, 363, 0, 100000)] F F339_ := fs_tr g329_ s341_ rfl
        have rk349_ : rk K F339_ := rk_fs rk330_ s341_ (fun r k h => (fs_n (by omega) (fs_n (by omega) rfl))) (fs_n (by omega) (fs_n (by omega) rfl))
        try simp only [e331_, e333_, e335_] at c337_
        have c337_s := c337_.1 (by omega)
        clear c337_
        refine ga_aload_n (v := .ref 344) hm_179 rfl rfl rfl ?_
        refine gIi (nY := 1) (F := 0) (L := 0) (As := []) (b := 344) (rest := []) hm_179 rfl hm_59 rfl rfl (fl_ob sc_344) rfl rfl rfl rfl rfl (by omega) (by omega) ?_
        intro f350_ l351_ h352_ h353_
        show fl_R xi_ms 59 f350_ l351_ 0 [(0, .ref 344)] [] _ _
        refine ga_aload_n (v := .ref 344) hm_59 rfl rfl rfl ?_
        have b354_ : 0 ≤ F339_ 344 9 ∧ F339_ 344 9 ≤ 5 := gi_g g340_ rfl
        refine ga_geti (z := F339_ 344 9) hm_59 rfl sc_344 rfl (rfl) ?_
        refine fl_if_le (a := F339_ 344 9) hm_59 rfl ⟨by omega, by omega⟩ (fun h355_ => ?_) (fun h356_ => ?_)
        · exfalso; omega
        refine fl_iconst hm_59 rfl ?_
        refine fl_goto hm_59 rfl ?_
        refine gr_i hm_59 rfl rfl (ga_nb (by omega)) ?_
        clear h352_ h353_ f350_ l351_
        refine fl_if_eq hm_179 rfl ⟨by omega, by omega⟩ (fun h => absurd h (by omega)) (fun _ => ?_)
        refine gr_v hm_179 rfl rfl ?_
        have b357_ : 0 ≤ F339_ 344 10 ∧ F339_ 344 10 ≤ 600 := gi_g g340_ rfl
        have b358_ : 0 ≤ F339_ 344 5 ∧ F339_ 344 5 ≤ 600 := gi_g g340_ rfl
        exact Or.inl ⟨F339_, rfl, g340_, g348_, (by omega), (⟨by intro h0_; have hs_ := c337_s; rw [sp_lit, if_pos c77_.2, (show sk K (F 344 5) = F 344 5 + 1 by rw [sk, if_pos (by omega)])]; rw [hs_]; try (show Sum.inl _ = _); try (congr 2 <;> omega), fun h0_ => by exfalso; omega⟩), (by omega)⟩
      subst hA_
      have g359_ : fs [(344, 344, 5, 5), (344, 344, 9, 10), (358, 358, 0, 100000), (360, 363, 0, 100000)] F F345_ := fs_tr g329_ s347_ rfl
      have rk360_ : rk K F345_ := rk_fs rk330_ s347_ (fun r k h => (fs_n (by omega) (fs_n (by omega) rfl))) (fs_n (by omega) (fs_n (by omega) rfl))
      try simp only [e335_] at c342_
      try simp only [e331_] at c343_
      refine ga_aload_n (v := .ref 344) hm_179 rfl rfl rfl ?_
      refine gIi (nY := 1) (F := 0) (L := 0) (As := []) (b := 344) (rest := []) hm_179 rfl hm_59 rfl rfl (fl_ob sc_344) rfl rfl rfl rfl rfl (by omega) (by omega) ?_
      intro f361_ l362_ h363_ h364_
      show fl_R xi_ms 59 f361_ l362_ 0 [(0, .ref 344)] [] _ _
      refine ga_aload_n (v := .ref 344) hm_59 rfl rfl rfl ?_
      have b365_ : 0 ≤ F345_ 344 9 ∧ F345_ 344 9 ≤ 5 := gi_g g346_ rfl
      refine ga_geti (z := F345_ 344 9) hm_59 rfl sc_344 rfl (rfl) ?_
      refine fl_if_le (a := F345_ 344 9) hm_59 rfl ⟨by omega, by omega⟩ (fun h366_ => ?_) (fun h367_ => ?_)
      ·
        refine fl_iconst hm_59 rfl ?_
        refine gr_i hm_59 rfl rfl (ga_nb (by omega)) ?_
        clear h363_ h364_ f361_ l362_
        refine fl_if_eq hm_179 rfl ⟨by omega, by omega⟩ (fun _ => ?_) (fun h => absurd (by omega) h)
        refine ga_aload_n (v := .ref 344) hm_179 rfl rfl rfl ?_
        refine ga_getr (b := 361) hm_179 rfl sc_344 rfl ?_
        refine ga_iload_n (z := at_ + F 358 a.toNat) hm_179 rfl rfl ?_
        refine ga_iload (z := 1) hm_179 rfl rfl ?_
        refine fl_zast (z := at_ + F 358 a.toNat) (v := 1) hm_179 rfl sc_361 (by omega) (by omega) (by omega) (ga_vb (by omega)) ?_
        refine ga_aload_n (v := .ref 344) hm_179 rfl rfl rfl ?_
        refine ga_getr (b := 360) hm_179 rfl sc_344 rfl ?_
        refine ga_iload_n (z := at_ + F 358 a.toNat) hm_179 rfl rfl ?_
        refine ga_aload_n (v := .ref 344) hm_179 rfl rfl rfl ?_
        refine fl_bipush hm_179 rfl rfl ?_
        obtain ⟨F368_, q369_⟩ : ∃ F9_, F9_ = (fl_u F345_ 361 (at_ + F 358 a.toNat).toNat 1) := ⟨_, rfl⟩
        rw [← q369_]
        have g370_ : gi F368_ := by rw [q369_]; exact gi_u (g346_) rfl (by omega) (by omega)
        have g371_ : fs [(344, 344, 5, 5), (344, 344, 9, 10), (358, 358, 0, 100000), (360, 363, 0, 100000)] F F368_ := by rw [q369_]; exact fs_u (g359_) (fs_z (fs_z (fs_z (fs_y (by omega)))))
        have rk372_ : rk K F368_ := by rw [q369_]; exact rk_u (rk360_) (by omega) (by omega)
        have e373_ : F368_ 344 5 = F345_ 344 5 := by rw [q369_]; exact fl_u_ne (by omega)
        have b374_ : 0 ≤ F345_ 344 5 ∧ F345_ 344 5 ≤ 600 := gi_g g346_ rfl
        refine gVi (nY := 4) (F := 1) (L := 21) (As := [.int (Int32.ofInt 10)]) (b := 344) (rest := [.int (Int32.ofInt (at_ + F 358 a.toNat)), .ref 360]) hm_179 rfl hm_56 rfl rfl (fl_ob sc_344) rfl rfl rfl rfl rfl (by omega) (by omega) (mc_56 hG F368_ X g370_ (K) (10) ([61]) hgK rk372_ hkt (by omega) (by omega) (by decide) (kw_10 rk372_)) (fun _ _ h => False.elim h) ?_
        have e376_ : F368_ 344 9 = F345_ 344 9 := by rw [q369_]; exact fl_u_ne (by omega)
        rintro z375_ A1_ (⟨hA_, hz_, c377_⟩ | ⟨hA_, hz_, c378_, c379_⟩)
        ·
          subst hA_
          subst hz_
          try simp only [e373_, e376_] at c377_
          refine fl_zast (z := at_ + F 358 a.toNat) (v := 0) hm_179 rfl sc_360 (by omega) (by omega) (by omega) (ga_vb (by omega)) ?_
          refine ga_aload_n (v := .ref 344) hm_179 rfl rfl rfl ?_
          refine ga_getr (b := 360) hm_179 rfl sc_344 rfl ?_
          refine ga_iload_n (z := at_ + F 358 a.toNat) hm_179 rfl rfl ?_
          refine ga_zald (z := at_ + F 358 a.toNat) (w := 0) hm_179 rfl sc_360 (by omega) (by omega) (by omega) (fl_u_eq) ?_
          refine fl_if_eq hm_179 rfl ⟨by omega, by omega⟩ (fun _ => ?_) (fun h => absurd (by omega) h)
          refine ga_aload_n (v := .ref 344) hm_179 rfl rfl rfl ?_
          refine ga_iload_n (z := a) hm_179 rfl rfl ?_
          refine ga_iload_n (z := at_ + F 358 a.toNat) hm_179 rfl rfl ?_
          obtain ⟨F380_, q381_⟩ : ∃ F9_, F9_ = (fl_u F368_ 360 (at_ + F 358 a.toNat).toNat 0) := ⟨_, rfl⟩
          rw [← q381_]
          have g382_ : gi F380_ := by rw [q381_]; exact gi_u (g370_) rfl (by omega) (by omega)
          have g383_ : fs [(344, 344, 5, 5), (344, 344, 9, 10), (358, 358, 0, 100000), (360, 363, 0, 100000)] F F380_ := by rw [q381_]; exact fs_u (g371_) (fs_z (fs_z (fs_z (fs_y (by omega)))))
          have rk384_ : rk K F380_ := by rw [q381_]; exact rk_u (rk372_) (by omega) (by omega)
          have e385_ : F380_ 344 5 = F345_ 344 5 := by rw [q381_]; exact (fl_u_ne (by omega)).trans (e373_)
          refine gVv (nY := 7) (F := 4) (L := 91) (As := [.int (Int32.ofInt a), .int (Int32.ofInt (at_ + F 358 a.toNat))]) (b := 344) (rest := []) hm_179 rfl hm_174 rfl rfl (fl_ob sc_344) rfl rfl rfl rfl rfl (by omega) (by omega) (mc_174 hG F380_ X g382_ (K) (a) (at_ + F 358 a.toNat) (k) (l) (tl) (pl) (ps) hgK rk384_ hkt (by omega) ((by rw [q381_]; exact (trm_u (by rw [q369_]; exact (trm_u (trm_fs (by rw [q327_]; exact (trm_u ht (by omega))) s347_ (fun r j hj => (fs_n (by omega) (fs_n (by omega) rfl)))) (by omega))) (by omega)))) (hlt) (by omega) ((by rw [q381_]; exact (rpn_u (by rw [q369_]; exact (rpn_u (rpn_fs (by rw [q327_]; exact (rpn_u hpl (by omega) (by omega))) s347_ (fun _ => (fs_n (by omega) (fs_n (by omega) rfl))) (fs_n (by omega) (fs_n (by omega) rfl))) (by omega) (by omega))) (by omega) (by omega)))) (⟨(by rw [q381_]; exact (rprd_u (by rw [q369_]; exact (rprd_u (rprd_fs (by rw [q327_]; exact (rprd_u hps.1 (by omega))) s347_ (fun r j hj => (fs_n (by omega) (fs_n (by omega) rfl)))) (by omega))) (by omega))), hps.2⟩) (by omega) (rla_add hla (by omega))) (fun _ _ h => False.elim h) ?_
          have e387_ : F368_ 344 10 = F345_ 344 10 := by rw [q369_]; exact fl_u_ne (by omega)
          have e388_ : F380_ 344 10 = F345_ 344 10 := by rw [q381_]; exact (fl_u_ne (by omega)).trans (e387_)
          have b389_ : 0 ≤ F345_ 344 10 ∧ F345_ 344 10 ≤ 600 := gi_g g346_ rfl
          have e390_ : F380_ 344 9 = F345_ 344 9 := by rw [q381_]; exact (fl_u_ne (by omega)).trans (e376_)
          rintro A1_ (⟨F394_, hA_, g395_, s396_, c391_, c392_, c393_⟩ | ⟨F400_, hA_, g401_, s402_, c397_, c398_, c399_⟩)
          ·
            subst hA_
            have g403_ : fs [(344, 344, 5, 5), (344, 344, 9, 10), (358, 358, 0, 100000), (360, 363, 0, 100000)] F F394_ := fs_tr g383_ s396_ rfl
            have rk404_ : rk K F394_ := rk_fs rk384_ s396_ (fun r k h => (fs_n (by omega) (fs_n (by omega) (fs_n (by omega) rfl)))) (fs_n (by omega) (fs_n (by omega) (fs_n (by omega) rfl)))
            try simp only [e385_, e388_, e390_] at c392_
            have c392_s := c392_.1 (by omega)
            clear c392_
            have b405_ : 0 ≤ F394_ 344 9 ∧ F394_ 344 9 ≤ 5 := gi_g g395_ rfl
            have b406_ : 0 ≤ F394_ 344 10 ∧ F394_ 344 10 ≤ 600 := gi_g g395_ rfl
            have b407_ : 0 ≤ F394_ 344 5 ∧ F394_ 344 5 ≤ 600 := gi_g g395_ rfl
            have e408_ : F326_ 358 a.toNat = F 358 a.toNat := by rw [q327_]; exact fl_u_ne (by omega)
            have e409_ : F345_ 358 a.toNat = F 358 a.toNat := (s347_ 358 a.toNat (fs_n (by omega) (fs_n (by omega) rfl))).trans (e408_)
            have e410_ : F368_ 358 a.toNat = F 358 a.toNat := by rw [q369_]; exact (fl_u_ne (by omega)).trans (e409_)
            have e411_ : F380_ 358 a.toNat = F 358 a.toNat := by rw [q381_]; exact (fl_u_ne (by omega)).trans (e410_)
            have e412_ : F394_ 358 a.toNat = F 358 a.toNat := (s396_ 358 a.toNat (fs_n (by omega) (fs_n (by omega) (fs_n (by omega) rfl)))).trans (e411_)
            exact fl_R_sub (lv' := [(4, .int (Int32.ofInt 1)), (0, .ref 344), (1, .int (Int32.ofInt a)), (2, .int (Int32.ofInt at_))]) rfl rfl (B143_ F394_ (1) g395_ g403_ rk404_ (by omega) (by omega) (⟨by intro h0_; have hs_ := c392_s; rw [sp_lit, if_pos c77_.2, (show sk K (F 344 5) = F 344 5 + 1 by rw [sk, if_pos (by omega)])]; rw [c343_, pb_r]; rw [sp_lx, if_neg (fun h8_ => c377_ ⟨by omega, h8_⟩)]; rw [hs_]; try (show Sum.inl _ = _); try (congr 2 <;> omega), fun h0_ => by exfalso; omega⟩) (by omega) (by omega))
          subst hA_
          have g413_ : fs [(344, 344, 5, 5), (344, 344, 9, 10), (358, 358, 0, 100000), (360, 363, 0, 100000)] F F400_ := fs_tr g383_ s402_ rfl
          have rk414_ : rk K F400_ := rk_fs rk384_ s402_ (fun r k h => (fs_n (by omega) (fs_n (by omega) (fs_n (by omega) rfl)))) (fs_n (by omega) (fs_n (by omega) (fs_n (by omega) rfl)))
          try simp only [e390_] at c397_
          try simp only [e385_] at c398_
          refine ga_iload (z := 1) hm_179 rfl rfl ?_
          refine fl_if_eq hm_179 rfl ⟨by omega, by omega⟩ (fun h => absurd h (by omega)) (fun _ => ?_)
          refine ga_aload_n (v := .ref 344) hm_179 rfl rfl rfl ?_
          refine fl_bipush hm_179 rfl rfl ?_
          have b415_ : 0 ≤ F400_ 344 5 ∧ F400_ 344 5 ≤ 600 := gi_g g401_ rfl
          refine gVv (nY := 2) (F := 2) (L := 41) (As := [.int (Int32.ofInt 41)]) (b := 344) (rest := []) hm_179 rfl hm_51 rfl rfl (fl_ob sc_344) rfl rfl rfl rfl rfl (by omega) (by omega) (mc_51 hG F400_ X g401_ (K) (41) (1) hgK rk414_ hkt (by omega) (by omega) (by omega)) (fun _ _ h => False.elim h) ?_
          have b417_ : 0 ≤ F400_ 344 10 ∧ F400_ 344 10 ≤ 600 := gi_g g401_ rfl
          have b418_ : 0 ≤ F400_ 344 9 ∧ F400_ 344 9 ≤ 5 := gi_g g401_ rfl
          rintro A1_ (⟨F422_, hA_, g423_, s424_, c419_, c420_, c421_⟩ | ⟨F428_, hA_, g429_, s430_, c425_, c426_, c427_⟩)
          ·
            subst hA_
            have g431_ : fs [(344, 344, 5, 5), (344, 344, 9, 10), (358, 358, 0, 100000), (360, 363, 0, 100000)] F F422_ := fs_tr g413_ s424_ rfl
            have rk432_ : rk K F422_ := rk_fs rk414_ s424_ (fun r k h => (fs_n (by omega) (fs_n (by omega) rfl))) (fs_n (by omega) (fs_n (by omega) rfl))
            have c420_s := c420_.1 (by omega)
            clear c420_
            have b433_ : 0 ≤ F422_ 344 9 ∧ F422_ 344 9 ≤ 5 := gi_g g423_ rfl
            have b434_ : 0 ≤ F422_ 344 10 ∧ F422_ 344 10 ≤ 600 := gi_g g423_ rfl
            have b435_ : 0 ≤ F422_ 344 5 ∧ F422_ 344 5 ≤ 600 := gi_g g423_ rfl
            have e436_ : F326_ 358 a.toNat = F 358 a.toNat := by rw [q327_]; exact fl_u_ne (by omega)
            have e437_ : F345_ 358 a.toNat = F 358 a.toNat := (s347_ 358 a.toNat (fs_n (by omega) (fs_n (by omega) rfl))).trans (e436_)
            have e438_ : F368_ 358 a.toNat = F 358 a.toNat := by rw [q369_]; exact (fl_u_ne (by omega)).trans (e437_)
            have e439_ : F380_ 358 a.toNat = F 358 a.toNat := by rw [q381_]; exact (fl_u_ne (by omega)).trans (e438_)
            have e440_ : F400_ 358 a.toNat = F 358 a.toNat := (s402_ 358 a.toNat (fs_n (by omega) (fs_n (by omega) (fs_n (by omega) rfl)))).trans (e439_)
            have e441_ : F422_ 358 a.toNat = F 358 a.toNat := (s424_ 358 a.toNat (fs_n (by omega) (fs_n (by omega) rfl))).trans (e440_)
            exact fl_R_sub (lv' := [(0, .ref 344), (1, .int (Int32.ofInt a)), (2, .int (Int32.ofInt at_))]) rfl rfl (B154_ F422_ g423_ g431_ rk432_ (by omega) (by omega) (⟨by intro h0_; have hs_ := c420_s; rw [sp_lit, if_pos c77_.2, (show sk K (F 344 5) = F 344 5 + 1 by rw [sk, if_pos (by omega)])]; rw [c343_, pb_r]; rw [sp_lx, if_neg (fun h8_ => c377_ ⟨by omega, h8_⟩)]; rw [c398_]; rw [pb_r]; rw [hs_]; try (show Sum.inl _ = _); try (congr 2 <;> omega), fun h0_ => by exfalso; omega⟩) (by omega))
          subst hA_
          have g442_ : fs [(344, 344, 5, 5), (344, 344, 9, 10), (358, 358, 0, 100000), (360, 363, 0, 100000)] F F428_ := fs_tr g413_ s430_ rfl
          have rk443_ : rk K F428_ := rk_fs rk414_ s430_ (fun r k h => (fs_n (by omega) (fs_n (by omega) rfl))) (fs_n (by omega) (fs_n (by omega) rfl))
          refine ga_aload_n (v := .ref 344) hm_179 rfl rfl rfl ?_
          refine ga_getr (b := 358) hm_179 rfl sc_344 rfl ?_
          refine ga_iload_n (z := a) hm_179 rfl rfl ?_
          refine ga_dup2 hm_179 rfl ⟨rfl, rfl⟩ ?_
          have e444_ : F326_ 358 a.toNat = F 358 a.toNat := by rw [q327_]; exact fl_u_ne (by omega)
          have e445_ : F345_ 358 a.toNat = F 358 a.toNat := (s347_ 358 a.toNat (fs_n (by omega) (fs_n (by omega) rfl))).trans (e444_)
          have e446_ : F368_ 358 a.toNat = F 358 a.toNat := by rw [q369_]; exact (fl_u_ne (by omega)).trans (e445_)
          have e447_ : F380_ 358 a.toNat = F 358 a.toNat := by rw [q381_]; exact (fl_u_ne (by omega)).trans (e446_)
          have e448_ : F400_ 358 a.toNat = F 358 a.toNat := (s402_ 358 a.toNat (fs_n (by omega) (fs_n (by omega) (fs_n (by omega) rfl)))).trans (e447_)
          have e449_ : F428_ 358 a.toNat = F 358 a.toNat := (s430_ 358 a.toNat (fs_n (by omega) (fs_n (by omega) rfl))).trans (e448_)
          refine ga_iald (z := a) (w := F 358 a.toNat) hm_179 rfl sc_358 (by omega) (by omega) (by omega) (e449_) ?_
          refine fl_iconst hm_179 rfl ?_
          refine ga_iadd (a := F 358 a.toNat) (b := 1) (c := F 358 a.toNat + 1) hm_179 rfl (by omega) ?_
          refine fl_iast (z := a) (v := F 358 a.toNat + 1) hm_179 rfl sc_358 (by omega) (by omega) (by omega) ?_
          obtain ⟨F450_, q451_⟩ : ∃ F9_, F9_ = (fl_u F428_ 358 a.toNat (F 358 a.toNat + 1)) := ⟨_, rfl⟩
          rw [← q451_]
          have g452_ : gi F450_ := by rw [q451_]; exact gi_u (g429_) rfl (by omega) (by omega)
          have g453_ : fs [(344, 344, 5, 5), (344, 344, 9, 10), (358, 358, 0, 100000), (360, 363, 0, 100000)] F F450_ := by rw [q451_]; exact fs_u (g442_) (fs_z (fs_z (fs_y (by omega))))
          have rk454_ : rk K F450_ := by rw [q451_]; exact rk_u (rk443_) (by omega) (by omega)
          refine gr_v hm_179 rfl rfl ?_
          have e455_ : F450_ 344 9 = F428_ 344 9 := by rw [q451_]; exact fl_u_ne (by omega)
          have b456_ : 0 ≤ F428_ 344 9 ∧ F428_ 344 9 ≤ 5 := gi_g g429_ rfl
          have e457_ : F450_ 344 10 = F428_ 344 10 := by rw [q451_]; exact fl_u_ne (by omega)
          have e458_ : F450_ 344 5 = F428_ 344 5 := by rw [q451_]; exact fl_u_ne (by omega)
          have b459_ : 0 ≤ F428_ 344 5 ∧ F428_ 344 5 ≤ 600 := gi_g g429_ rfl
          have e460_ : F450_ 358 a.toNat = F 358 a.toNat + 1 := by rw [q451_]; exact fl_u_eq
          exact Or.inr (⟨F450_, rfl, g452_, g453_, (by omega), (by rw [sp_lit, if_pos c77_.2, (show sk K (F 344 5) = F 344 5 + 1 by rw [sk, if_pos (by omega)])]; rw [c343_, pb_r]; rw [sp_lx, if_neg (fun h8_ => c377_ ⟨by omega, h8_⟩)]; rw [c398_]; rw [pb_r]; rw [c426_]; try (congr 1; omega)), (by omega), (by omega)⟩)
        subst hA_
        subst hz_
        try simp only [e373_, e376_] at c378_
        try simp only [e373_] at c379_
        refine fl_zast (z := at_ + F 358 a.toNat) (v := 1) hm_179 rfl sc_360 (by omega) (by omega) (by omega) (ga_vb (by omega)) ?_
        refine ga_aload_n (v := .ref 344) hm_179 rfl rfl rfl ?_
        refine ga_getr (b := 360) hm_179 rfl sc_344 rfl ?_
        refine ga_iload_n (z := at_ + F 358 a.toNat) hm_179 rfl rfl ?_
        refine ga_zald (z := at_ + F 358 a.toNat) (w := 1) hm_179 rfl sc_360 (by omega) (by omega) (by omega) (fl_u_eq) ?_
        refine fl_if_eq hm_179 rfl ⟨by omega, by omega⟩ (fun h => absurd h (by omega)) (fun _ => ?_)
        have hszE := (kw_iff (w := [61]) hkt hgK (p := F345_ 344 5) (by omega) (by omega) (by decide) (by decide)).mp c378_.2
        refine ga_aload_n (v := .ref 344) hm_179 rfl rfl rfl ?_
        refine ga_dup hm_179 rfl rfl ?_
        refine ga_geti (z := F345_ 344 5) hm_179 rfl sc_344 rfl ((fl_u_ne (by omega)).trans (e373_)) ?_
        refine fl_iconst hm_179 rfl ?_
        refine ga_iadd (a := F345_ 344 5) (b := 1) (c := F345_ 344 5 + 1) hm_179 rfl (by omega) ?_
        refine ga_puti (z := F345_ 344 5 + 1) hm_179 rfl sc_344 rfl rfl ?_
        refine fl_iconst hm_179 rfl ?_
        refine ga_istore (lv2 := [(5, .int (Int32.ofInt 0)), (4, .int (Int32.ofInt 1)), (3, .int (Int32.ofInt (at_ + F 358 a.toNat))), (0, .ref 344), (1, .int (Int32.ofInt a)), (2, .int (Int32.ofInt at_))]) hm_179 rfl (Nat.le_of_ble_eq_true rfl) rfl ?_
        refine ga_iload (z := 0) hm_179 rfl rfl ?_
        refine fl_iconst hm_179 rfl ?_
        refine fl_icmp_ge hm_179 rfl ⟨by omega, by omega⟩ ⟨by omega, by omega⟩ (fun h => absurd h (by omega)) (fun _ => ?_)
        refine ga_aload_n (v := .ref 344) hm_179 rfl rfl rfl ?_
        refine ga_getr (b := 363) hm_179 rfl sc_344 rfl ?_
        refine fl_iconst hm_179 rfl ?_
        refine ga_iload_n (z := at_ + F 358 a.toNat) hm_179 rfl rfl ?_
        refine ga_imul (a := 2) (b := at_ + F 358 a.toNat) (c := 2 * at_ + 2 * (F 358 a.toNat)) hm_179 rfl (by omega) ?_
        refine ga_iload (z := 0) hm_179 rfl rfl ?_
        refine ga_iadd (a := 2 * at_ + 2 * (F 358 a.toNat)) (b := 0) (c := 2 * at_ + 2 * (F 358 a.toNat)) hm_179 rfl (by omega) ?_
        refine ga_aload_n (v := .ref 344) hm_179 rfl rfl rfl ?_
        refine ga_iload_n (z := a) hm_179 rfl rfl ?_
        refine fl_iconst hm_179 rfl ?_
        obtain ⟨F461_, q462_⟩ : ∃ F9_, F9_ = (fl_u (fl_u F368_ 360 (at_ + F 358 a.toNat).toNat 1) 344 5 (F345_ 344 5 + 1)) := ⟨_, rfl⟩
        rw [← q462_]
        have g463_ : gi F461_ := by rw [q462_]; exact gi_u (gi_u (g370_) rfl (by omega) (by omega)) rfl (by omega) (by omega)
        have g464_ : fs [(344, 344, 5, 5), (344, 344, 9, 10), (358, 358, 0, 100000), (360, 363, 0, 100000)] F F461_ := by rw [q462_]; exact fs_u (fs_u (g371_) (fs_z (fs_z (fs_z (fs_y (by omega)))))) rfl
        have rk465_ : rk K F461_ := by rw [q462_]; exact rk_u (rk_u (rk372_) (by omega) (by omega)) (by omega) (by omega)
        have e466_ : F461_ 344 5 = F345_ 344 5 + 1 := by rw [q462_]; exact fl_u_eq
        refine gVi (nY := 6) (F := 3) (L := 66) (As := [.int (Int32.ofInt a), .int (Int32.ofInt (-1))]) (b := 344) (rest := [.int (Int32.ofInt (2 * at_ + 2 * (F 358 a.toNat))), .ref 363]) hm_179 rfl hm_185 rfl rfl (fl_ob sc_344) rfl rfl rfl rfl rfl (by omega) (by omega) (mc_185 hG F461_ X g463_ (K) (a) (-1) (k) (-1) (l) (tl) hgK rk465_ hkt (by omega) ((by rw [q462_]; exact (trm_u (trm_u (by rw [q369_]; exact (trm_u (trm_fs (by rw [q327_]; exact (trm_u ht (by omega))) s347_ (fun r j hj => (fs_n (by omega) (fs_n (by omega) rfl)))) (by omega))) (by omega)) (by omega)))) (hlt) (Or.inl ⟨by omega, by omega, rfl⟩) (by omega)) (fun _ _ h => False.elim h) ?_
        have e468_ : F368_ 344 10 = F345_ 344 10 := by rw [q369_]; exact fl_u_ne (by omega)
        have e469_ : F461_ 344 10 = F345_ 344 10 := by rw [q462_]; exact (fl_u_ne (by omega)).trans ((fl_u_ne (by omega)).trans (e468_))
        have b470_ : 0 ≤ F345_ 344 10 ∧ F345_ 344 10 ≤ 600 := gi_g g346_ rfl
        have e471_ : F461_ 344 9 = F345_ 344 9 := by rw [q462_]; exact (fl_u_ne (by omega)).trans ((fl_u_ne (by omega)).trans (e376_))
        rintro z467_ A1_ (⟨F477_, hA_, g478_, s479_, c472_, c473_, c474_, c475_, c476_⟩ | ⟨F485_, hA_, g486_, s487_, c480_, c481_, c482_, c483_, c484_⟩)
        ·
          subst hA_
          have g488_ : fs [(344, 344, 5, 5), (344, 344, 9, 10), (358, 358, 0, 100000), (360, 363, 0, 100000)] F F477_ := fs_tr g464_ s479_ rfl
          have rk489_ : rk K F477_ := rk_fs rk465_ s479_ (fun r k h => (fs_n (by omega) (fs_n (by omega) rfl))) (fs_n (by omega) (fs_n (by omega) rfl))
          try simp only [e466_, e469_, e471_] at c473_
          have c473_s := c473_.1 (by omega)
          clear c473_
          refine fl_iast (z := 2 * at_ + 2 * (F 358 a.toNat)) (v := z467_) hm_179 rfl sc_363 (by omega) (by omega) (by omega) ?_
          refine ga_inc (a := 0) (c := 1) (lv2 := [(5, .int (Int32.ofInt 1)), (4, .int (Int32.ofInt 1)), (3, .int (Int32.ofInt (at_ + F 358 a.toNat))), (0, .ref 344), (1, .int (Int32.ofInt a)), (2, .int (Int32.ofInt at_))]) hm_179 rfl rfl (Nat.le_of_ble_eq_true rfl) (by omega) rfl ?_
          refine fl_goto hm_179 rfl ?_
          refine ga_iload (z := 1) hm_179 rfl rfl ?_
          refine fl_iconst hm_179 rfl ?_
          refine fl_icmp_ge hm_179 rfl ⟨by omega, by omega⟩ ⟨by omega, by omega⟩ (fun h => absurd h (by omega)) (fun _ => ?_)
          refine ga_aload_n (v := .ref 344) hm_179 rfl rfl rfl ?_
          refine ga_getr (b := 363) hm_179 rfl sc_344 rfl ?_
          refine fl_iconst hm_179 rfl ?_
          refine ga_iload_n (z := at_ + F 358 a.toNat) hm_179 rfl rfl ?_
          refine ga_imul (a := 2) (b := at_ + F 358 a.toNat) (c := 2 * at_ + 2 * (F 358 a.toNat)) hm_179 rfl (by omega) ?_
          refine ga_iload (z := 1) hm_179 rfl rfl ?_
          refine ga_iadd (a := 2 * at_ + 2 * (F 358 a.toNat)) (b := 1) (c := 2 * at_ + 2 * (F 358 a.toNat) + 1) hm_179 rfl (by omega) ?_
          refine ga_aload_n (v := .ref 344) hm_179 rfl rfl rfl ?_
          refine ga_iload_n (z := a) hm_179 rfl rfl ?_
          refine fl_iconst hm_179 rfl ?_
          obtain ⟨F490_, q491_⟩ : ∃ F9_, F9_ = (fl_u F477_ 363 (2 * at_ + 2 * (F 358 a.toNat)).toNat z467_) := ⟨_, rfl⟩
          rw [← q491_]
          have g492_ : gi F490_ := by rw [q491_]; exact gi_u363 (g478_) (by omega) (by omega) (rz_k (ll := at_ + F 358 a.toNat) (rla_add hla (by omega)) c476_ (by omega) (by omega)) (by omega)
          have g493_ : fs [(344, 344, 5, 5), (344, 344, 9, 10), (358, 358, 0, 100000), (360, 363, 0, 100000)] F F490_ := by rw [q491_]; exact fs_u (g488_) (fs_z (fs_z (fs_z (fs_y (by omega)))))
          have rk494_ : rk K F490_ := by rw [q491_]; exact rk_u (rk489_) (by omega) (by omega)
          have e495_ : F490_ 344 5 = F477_ 344 5 := by rw [q491_]; exact fl_u_ne (by omega)
          have b496_ : 0 ≤ F477_ 344 5 ∧ F477_ 344 5 ≤ 600 := gi_g g478_ rfl
          refine gVi (nY := 6) (F := 3) (L := 66) (As := [.int (Int32.ofInt a), .int (Int32.ofInt (-1))]) (b := 344) (rest := [.int (Int32.ofInt (2 * at_ + 2 * (F 358 a.toNat) + 1)), .ref 363]) hm_179 rfl hm_185 rfl rfl (fl_ob sc_344) rfl rfl rfl rfl rfl (by omega) (by omega) (mc_185 hG F490_ X g492_ (K) (a) (-1) (k) (-1) (l) (tl) hgK rk494_ hkt (by omega) ((by rw [q491_]; exact (trm_u (trm_fs (by rw [q462_]; exact (trm_u (trm_u (by rw [q369_]; exact (trm_u (trm_fs (by rw [q327_]; exact (trm_u ht (by omega))) s347_ (fun r j hj => (fs_n (by omega) (fs_n (by omega) rfl)))) (by omega))) (by omega)) (by omega))) s479_ (fun r j hj => (fs_n (by omega) (fs_n (by omega) rfl)))) (by omega)))) (hlt) (Or.inl ⟨by omega, by omega, rfl⟩) (by omega)) (fun _ _ h => False.elim h) ?_
          have e498_ : F490_ 344 10 = F477_ 344 10 := by rw [q491_]; exact fl_u_ne (by omega)
          have b499_ : 0 ≤ F477_ 344 10 ∧ F477_ 344 10 ≤ 600 := gi_g g478_ rfl
          have e500_ : F490_ 344 9 = F477_ 344 9 := by rw [q491_]; exact fl_u_ne (by omega)
          have b501_ : 0 ≤ F477_ 344 9 ∧ F477_ 344 9 ≤ 5 := gi_g g478_ rfl
          rintro z497_ A1_ (⟨F507_, hA_, g508_, s509_, c502_, c503_, c504_, c505_, c506_⟩ | ⟨F515_, hA_, g516_, s517_, c510_, c511_, c512_, c513_, c514_⟩)
          ·
            subst hA_
            have g518_ : fs [(344, 344, 5, 5), (344, 344, 9, 10), (358, 358, 0, 100000), (360, 363, 0, 100000)] F F507_ := fs_tr g493_ s509_ rfl
            have rk519_ : rk K F507_ := rk_fs rk494_ s509_ (fun r k h => (fs_n (by omega) (fs_n (by omega) rfl))) (fs_n (by omega) (fs_n (by omega) rfl))
            try simp only [e495_, e498_, e500_] at c503_
            have c503_k := c503_.2 (by omega)
            clear c503_
            refine fl_iast (z := 2 * at_ + 2 * (F 358 a.toNat) + 1) (v := z497_) hm_179 rfl sc_363 (by omega) (by omega) (by omega) ?_
            refine ga_inc (a := 1) (c := 2) (lv2 := [(5, .int (Int32.ofInt 2)), (4, .int (Int32.ofInt 1)), (3, .int (Int32.ofInt (at_ + F 358 a.toNat))), (0, .ref 344), (1, .int (Int32.ofInt a)), (2, .int (Int32.ofInt at_))]) hm_179 rfl rfl (Nat.le_of_ble_eq_true rfl) (by omega) rfl ?_
            refine fl_goto hm_179 rfl ?_
            refine ga_iload (z := 2) hm_179 rfl rfl ?_
            refine fl_iconst hm_179 rfl ?_
            refine fl_icmp_ge hm_179 rfl ⟨by omega, by omega⟩ ⟨by omega, by omega⟩ (fun _ => ?_) (fun h => absurd (by omega) h)
            obtain ⟨F520_, q521_⟩ : ∃ F9_, F9_ = (fl_u F507_ 363 (2 * at_ + 2 * (F 358 a.toNat) + 1).toNat z497_) := ⟨_, rfl⟩
            rw [← q521_]
            have g522_ : gi F520_ := by rw [q521_]; exact gi_u363 (g508_) (by omega) (by omega) (rz_k (ll := at_ + F 358 a.toNat) (rla_add hla (by omega)) c506_ (by omega) (by omega)) (by omega)
            have g523_ : fs [(344, 344, 5, 5), (344, 344, 9, 10), (358, 358, 0, 100000), (360, 363, 0, 100000)] F F520_ := by rw [q521_]; exact fs_u (g518_) (fs_z (fs_z (fs_z (fs_y (by omega)))))
            have rk524_ : rk K F520_ := by rw [q521_]; exact rk_u (rk519_) (by omega) (by omega)
            have e525_ : F520_ 344 9 = F507_ 344 9 := by rw [q521_]; exact fl_u_ne (by omega)
            have b526_ : 0 ≤ F507_ 344 9 ∧ F507_ 344 9 ≤ 5 := gi_g g508_ rfl
            have e527_ : F520_ 344 10 = F507_ 344 10 := by rw [q521_]; exact fl_u_ne (by omega)
            have b528_ : 0 ≤ F507_ 344 10 ∧ F507_ 344 10 ≤ 600 := gi_g g508_ rfl
            have e529_ : F520_ 344 5 = F507_ 344 5 := by rw [q521_]; exact fl_u_ne (by omega)
            have b530_ : 0 ≤ F507_ 344 5 ∧ F507_ 344 5 ≤ 600 := gi_g g508_ rfl
            have e531_ : F326_ 358 a.toNat = F 358 a.toNat := by rw [q327_]; exact fl_u_ne (by omega)
            have e532_ : F345_ 358 a.toNat = F 358 a.toNat := (s347_ 358 a.toNat (fs_n (by omega) (fs_n (by omega) rfl))).trans (e531_)
            have e533_ : F368_ 358 a.toNat = F 358 a.toNat := by rw [q369_]; exact (fl_u_ne (by omega)).trans (e532_)
            have e534_ : F461_ 358 a.toNat = F 358 a.toNat := by rw [q462_]; exact (fl_u_ne (by omega)).trans ((fl_u_ne (by omega)).trans (e533_))
            have e535_ : F477_ 358 a.toNat = F 358 a.toNat := (s479_ 358 a.toNat (fs_n (by omega) (fs_n (by omega) rfl))).trans (e534_)
            have e536_ : F490_ 358 a.toNat = F 358 a.toNat := by rw [q491_]; exact (fl_u_ne (by omega)).trans (e535_)
            have e537_ : F507_ 358 a.toNat = F 358 a.toNat := (s509_ 358 a.toNat (fs_n (by omega) (fs_n (by omega) rfl))).trans (e536_)
            have e538_ : F520_ 358 a.toNat = F 358 a.toNat := by rw [q521_]; exact (fl_u_ne (by omega)).trans (e537_)
            exact fl_R_sub (lv' := [(4, .int (Int32.ofInt 1)), (0, .ref 344), (1, .int (Int32.ofInt a)), (2, .int (Int32.ofInt at_))]) rfl rfl (B128_ F520_ (1) g522_ g523_ rk524_ (by omega) (by omega) (⟨by intro h0_; have hs_ := c473_s; rw [sp_lit, if_pos c77_.2, (show sk K (F 344 5) = F 344 5 + 1 by rw [sk, if_pos (by omega)])]; rw [c343_, pb_r]; rw [sp_lx, if_pos c378_.2, sp_eq, (show sk K (F345_ 344 5) = F345_ 344 5 + 1 by rw [sk, if_pos (by omega)])]; rw [hs_]; try (show Sum.inl _ = _); try (congr 2 <;> omega), fun h0_ => by exfalso; omega⟩) (by omega) (by omega))
          exfalso; omega
        subst hA_
        have g539_ : fs [(344, 344, 5, 5), (344, 344, 9, 10), (358, 358, 0, 100000), (360, 363, 0, 100000)] F F485_ := fs_tr g464_ s487_ rfl
        have rk540_ : rk K F485_ := rk_fs rk465_ s487_ (fun r k h => (fs_n (by omega) (fs_n (by omega) rfl))) (fs_n (by omega) (fs_n (by omega) rfl))
        try simp only [e471_] at c480_
        try simp only [e466_] at c481_
        refine fl_iast (z := 2 * at_ + 2 * (F 358 a.toNat)) (v := z467_) hm_179 rfl sc_363 (by omega) (by omega) (by omega) ?_
        refine ga_inc (a := 0) (c := 1) (lv2 := [(5, .int (Int32.ofInt 1)), (4, .int (Int32.ofInt 1)), (3, .int (Int32.ofInt (at_ + F 358 a.toNat))), (0, .ref 344), (1, .int (Int32.ofInt a)), (2, .int (Int32.ofInt at_))]) hm_179 rfl rfl (Nat.le_of_ble_eq_true rfl) (by omega) rfl ?_
        refine fl_goto hm_179 rfl ?_
        refine ga_iload (z := 1) hm_179 rfl rfl ?_
        refine fl_iconst hm_179 rfl ?_
        refine fl_icmp_ge hm_179 rfl ⟨by omega, by omega⟩ ⟨by omega, by omega⟩ (fun h => absurd h (by omega)) (fun _ => ?_)
        refine ga_aload_n (v := .ref 344) hm_179 rfl rfl rfl ?_
        refine ga_getr (b := 363) hm_179 rfl sc_344 rfl ?_
        refine fl_iconst hm_179 rfl ?_
        refine ga_iload_n (z := at_ + F 358 a.toNat) hm_179 rfl rfl ?_
        refine ga_imul (a := 2) (b := at_ + F 358 a.toNat) (c := 2 * at_ + 2 * (F 358 a.toNat)) hm_179 rfl (by omega) ?_
        refine ga_iload (z := 1) hm_179 rfl rfl ?_
        refine ga_iadd (a := 2 * at_ + 2 * (F 358 a.toNat)) (b := 1) (c := 2 * at_ + 2 * (F 358 a.toNat) + 1) hm_179 rfl (by omega) ?_
        refine ga_aload_n (v := .ref 344) hm_179 rfl rfl rfl ?_
        refine ga_iload_n (z := a) hm_179 rfl rfl ?_
        refine fl_iconst hm_179 rfl ?_
        obtain ⟨F541_, q542_⟩ : ∃ F9_, F9_ = (fl_u F485_ 363 (2 * at_ + 2 * (F 358 a.toNat)).toNat z467_) := ⟨_, rfl⟩
        rw [← q542_]
        have g543_ : gi F541_ := by rw [q542_]; exact gi_u363 (g486_) (by omega) (by omega) (rz_k (ll := at_ + F 358 a.toNat) (rla_add hla (by omega)) c484_ (by omega) (by omega)) (by omega)
        have g544_ : fs [(344, 344, 5, 5), (344, 344, 9, 10), (358, 358, 0, 100000), (360, 363, 0, 100000)] F F541_ := by rw [q542_]; exact fs_u (g539_) (fs_z (fs_z (fs_z (fs_y (by omega)))))
        have rk545_ : rk K F541_ := by rw [q542_]; exact rk_u (rk540_) (by omega) (by omega)
        have e546_ : F541_ 344 5 = F485_ 344 5 := by rw [q542_]; exact fl_u_ne (by omega)
        have b547_ : 0 ≤ F485_ 344 5 ∧ F485_ 344 5 ≤ 600 := gi_g g486_ rfl
        refine gVi (nY := 6) (F := 3) (L := 66) (As := [.int (Int32.ofInt a), .int (Int32.ofInt (-1))]) (b := 344) (rest := [.int (Int32.ofInt (2 * at_ + 2 * (F 358 a.toNat) + 1)), .ref 363]) hm_179 rfl hm_185 rfl rfl (fl_ob sc_344) rfl rfl rfl rfl rfl (by omega) (by omega) (mc_185 hG F541_ X g543_ (K) (a) (-1) (k) (-1) (l) (tl) hgK rk545_ hkt (by omega) ((by rw [q542_]; exact (trm_u (trm_fs (by rw [q462_]; exact (trm_u (trm_u (by rw [q369_]; exact (trm_u (trm_fs (by rw [q327_]; exact (trm_u ht (by omega))) s347_ (fun r j hj => (fs_n (by omega) (fs_n (by omega) rfl)))) (by omega))) (by omega)) (by omega))) s487_ (fun r j hj => (fs_n (by omega) (fs_n (by omega) rfl)))) (by omega)))) (hlt) (Or.inl ⟨by omega, by omega, rfl⟩) (by omega)) (fun _ _ h => False.elim h) ?_
        have e549_ : F541_ 344 10 = F485_ 344 10 := by rw [q542_]; exact fl_u_ne (by omega)
        have b550_ : 0 ≤ F485_ 344 10 ∧ F485_ 344 10 ≤ 600 := gi_g g486_ rfl
        have e551_ : F541_ 344 9 = F485_ 344 9 := by rw [q542_]; exact fl_u_ne (by omega)
        have b552_ : 0 ≤ F485_ 344 9 ∧ F485_ 344 9 ≤ 5 := gi_g g486_ rfl
        rintro z548_ A1_ (⟨F558_, hA_, g559_, s560_, c553_, c554_, c555_, c556_, c557_⟩ | ⟨F566_, hA_, g567_, s568_, c561_, c562_, c563_, c564_, c565_⟩)
        ·
          subst hA_
          have g569_ : fs [(344, 344, 5, 5), (344, 344, 9, 10), (358, 358, 0, 100000), (360, 363, 0, 100000)] F F558_ := fs_tr g544_ s560_ rfl
          have rk570_ : rk K F558_ := rk_fs rk545_ s560_ (fun r k h => (fs_n (by omega) (fs_n (by omega) rfl))) (fs_n (by omega) (fs_n (by omega) rfl))
          try simp only [e546_, e549_, e551_] at c554_
          have c554_s := c554_.1 (by omega)
          clear c554_
          refine fl_iast (z := 2 * at_ + 2 * (F 358 a.toNat) + 1) (v := z548_) hm_179 rfl sc_363 (by omega) (by omega) (by omega) ?_
          refine ga_inc (a := 1) (c := 2) (lv2 := [(5, .int (Int32.ofInt 2)), (4, .int (Int32.ofInt 1)), (3, .int (Int32.ofInt (at_ + F 358 a.toNat))), (0, .ref 344), (1, .int (Int32.ofInt a)), (2, .int (Int32.ofInt at_))]) hm_179 rfl rfl (Nat.le_of_ble_eq_true rfl) (by omega) rfl ?_
          refine fl_goto hm_179 rfl ?_
          refine ga_iload (z := 2) hm_179 rfl rfl ?_
          refine fl_iconst hm_179 rfl ?_
          refine fl_icmp_ge hm_179 rfl ⟨by omega, by omega⟩ ⟨by omega, by omega⟩ (fun _ => ?_) (fun h => absurd (by omega) h)
          obtain ⟨F571_, q572_⟩ : ∃ F9_, F9_ = (fl_u F558_ 363 (2 * at_ + 2 * (F 358 a.toNat) + 1).toNat z548_) := ⟨_, rfl⟩
          rw [← q572_]
          have g573_ : gi F571_ := by rw [q572_]; exact gi_u363 (g559_) (by omega) (by omega) (rz_k (ll := at_ + F 358 a.toNat) (rla_add hla (by omega)) c557_ (by omega) (by omega)) (by omega)
          have g574_ : fs [(344, 344, 5, 5), (344, 344, 9, 10), (358, 358, 0, 100000), (360, 363, 0, 100000)] F F571_ := by rw [q572_]; exact fs_u (g569_) (fs_z (fs_z (fs_z (fs_y (by omega)))))
          have rk575_ : rk K F571_ := by rw [q572_]; exact rk_u (rk570_) (by omega) (by omega)
          have e576_ : F571_ 344 9 = F558_ 344 9 := by rw [q572_]; exact fl_u_ne (by omega)
          have b577_ : 0 ≤ F558_ 344 9 ∧ F558_ 344 9 ≤ 5 := gi_g g559_ rfl
          have e578_ : F571_ 344 10 = F558_ 344 10 := by rw [q572_]; exact fl_u_ne (by omega)
          have b579_ : 0 ≤ F558_ 344 10 ∧ F558_ 344 10 ≤ 600 := gi_g g559_ rfl
          have e580_ : F571_ 344 5 = F558_ 344 5 := by rw [q572_]; exact fl_u_ne (by omega)
          have b581_ : 0 ≤ F558_ 344 5 ∧ F558_ 344 5 ≤ 600 := gi_g g559_ rfl
          have e582_ : F326_ 358 a.toNat = F 358 a.toNat := by rw [q327_]; exact fl_u_ne (by omega)
          have e583_ : F345_ 358 a.toNat = F 358 a.toNat := (s347_ 358 a.toNat (fs_n (by omega) (fs_n (by omega) rfl))).trans (e582_)
          have e584_ : F368_ 358 a.toNat = F 358 a.toNat := by rw [q369_]; exact (fl_u_ne (by omega)).trans (e583_)
          have e585_ : F461_ 358 a.toNat = F 358 a.toNat := by rw [q462_]; exact (fl_u_ne (by omega)).trans ((fl_u_ne (by omega)).trans (e584_))
          have e586_ : F485_ 358 a.toNat = F 358 a.toNat := (s487_ 358 a.toNat (fs_n (by omega) (fs_n (by omega) rfl))).trans (e585_)
          have e587_ : F541_ 358 a.toNat = F 358 a.toNat := by rw [q542_]; exact (fl_u_ne (by omega)).trans (e586_)
          have e588_ : F558_ 358 a.toNat = F 358 a.toNat := (s560_ 358 a.toNat (fs_n (by omega) (fs_n (by omega) rfl))).trans (e587_)
          have e589_ : F571_ 358 a.toNat = F 358 a.toNat := by rw [q572_]; exact (fl_u_ne (by omega)).trans (e588_)
          exact fl_R_sub (lv' := [(4, .int (Int32.ofInt 1)), (0, .ref 344), (1, .int (Int32.ofInt a)), (2, .int (Int32.ofInt at_))]) rfl rfl (B128_ F571_ (1) g573_ g574_ rk575_ (by omega) (by omega) (⟨by intro h0_; have hs_ := c554_s; rw [sp_lit, if_pos c77_.2, (show sk K (F 344 5) = F 344 5 + 1 by rw [sk, if_pos (by omega)])]; rw [c343_, pb_r]; rw [sp_lx, if_pos c378_.2, sp_eq, (show sk K (F345_ 344 5) = F345_ 344 5 + 1 by rw [sk, if_pos (by omega)])]; rw [c481_, pb_r]; rw [hs_]; try (show Sum.inl _ = _); try (congr 2 <;> omega), fun h0_ => by exfalso; omega⟩) (by omega) (by omega))
        subst hA_
        have g590_ : fs [(344, 344, 5, 5), (344, 344, 9, 10), (358, 358, 0, 100000), (360, 363, 0, 100000)] F F566_ := fs_tr g544_ s568_ rfl
        have rk591_ : rk K F566_ := rk_fs rk545_ s568_ (fun r k h => (fs_n (by omega) (fs_n (by omega) rfl))) (fs_n (by omega) (fs_n (by omega) rfl))
        try simp only [e551_] at c561_
        try simp only [e546_] at c562_
        refine fl_iast (z := 2 * at_ + 2 * (F 358 a.toNat) + 1) (v := z548_) hm_179 rfl sc_363 (by omega) (by omega) (by omega) ?_
        refine ga_inc (a := 1) (c := 2) (lv2 := [(5, .int (Int32.ofInt 2)), (4, .int (Int32.ofInt 1)), (3, .int (Int32.ofInt (at_ + F 358 a.toNat))), (0, .ref 344), (1, .int (Int32.ofInt a)), (2, .int (Int32.ofInt at_))]) hm_179 rfl rfl (Nat.le_of_ble_eq_true rfl) (by omega) rfl ?_
        refine fl_goto hm_179 rfl ?_
        refine ga_iload (z := 2) hm_179 rfl rfl ?_
        refine fl_iconst hm_179 rfl ?_
        refine fl_icmp_ge hm_179 rfl ⟨by omega, by omega⟩ ⟨by omega, by omega⟩ (fun _ => ?_) (fun h => absurd (by omega) h)
        refine ga_aload_n (v := .ref 344) hm_179 rfl rfl rfl ?_
        refine fl_bipush hm_179 rfl rfl ?_
        obtain ⟨F592_, q593_⟩ : ∃ F9_, F9_ = (fl_u F566_ 363 (2 * at_ + 2 * (F 358 a.toNat) + 1).toNat z548_) := ⟨_, rfl⟩
        rw [← q593_]
        have g594_ : gi F592_ := by rw [q593_]; exact gi_u363 (g567_) (by omega) (by omega) (rz_k (ll := at_ + F 358 a.toNat) (rla_add hla (by omega)) c565_ (by omega) (by omega)) (by omega)
        have g595_ : fs [(344, 344, 5, 5), (344, 344, 9, 10), (358, 358, 0, 100000), (360, 363, 0, 100000)] F F592_ := by rw [q593_]; exact fs_u (g590_) (fs_z (fs_z (fs_z (fs_y (by omega)))))
        have rk596_ : rk K F592_ := by rw [q593_]; exact rk_u (rk591_) (by omega) (by omega)
        have e597_ : F592_ 344 5 = F566_ 344 5 := by rw [q593_]; exact fl_u_ne (by omega)
        have b598_ : 0 ≤ F566_ 344 5 ∧ F566_ 344 5 ≤ 600 := gi_g g567_ rfl
        refine gVv (nY := 2) (F := 2) (L := 41) (As := [.int (Int32.ofInt 41)]) (b := 344) (rest := []) hm_179 rfl hm_51 rfl rfl (fl_ob sc_344) rfl rfl rfl rfl rfl (by omega) (by omega) (mc_51 hG F592_ X g594_ (K) (41) (1) hgK rk596_ hkt (by omega) (by omega) (by omega)) (fun _ _ h => False.elim h) ?_
        have e600_ : F592_ 344 10 = F566_ 344 10 := by rw [q593_]; exact fl_u_ne (by omega)
        have b601_ : 0 ≤ F566_ 344 10 ∧ F566_ 344 10 ≤ 600 := gi_g g567_ rfl
        have e602_ : F592_ 344 9 = F566_ 344 9 := by rw [q593_]; exact fl_u_ne (by omega)
        have b603_ : 0 ≤ F566_ 344 9 ∧ F566_ 344 9 ≤ 5 := gi_g g567_ rfl
        rintro A1_ (⟨F607_, hA_, g608_, s609_, c604_, c605_, c606_⟩ | ⟨F613_, hA_, g614_, s615_, c610_, c611_, c612_⟩)
        ·
          subst hA_
          have g616_ : fs [(344, 344, 5, 5), (344, 344, 9, 10), (358, 358, 0, 100000), (360, 363, 0, 100000)] F F607_ := fs_tr g595_ s609_ rfl
          have rk617_ : rk K F607_ := rk_fs rk596_ s609_ (fun r k h => (fs_n (by omega) (fs_n (by omega) rfl))) (fs_n (by omega) (fs_n (by omega) rfl))
          try simp only [e597_, e600_, e602_] at c605_
          have c605_s := c605_.1 (by omega)
          clear c605_
          refine fl_goto hm_179 rfl ?_
          have b618_ : 0 ≤ F607_ 344 9 ∧ F607_ 344 9 ≤ 5 := gi_g g608_ rfl
          have b619_ : 0 ≤ F607_ 344 10 ∧ F607_ 344 10 ≤ 600 := gi_g g608_ rfl
          have b620_ : 0 ≤ F607_ 344 5 ∧ F607_ 344 5 ≤ 600 := gi_g g608_ rfl
          have e621_ : F326_ 358 a.toNat = F 358 a.toNat := by rw [q327_]; exact fl_u_ne (by omega)
          have e622_ : F345_ 358 a.toNat = F 358 a.toNat := (s347_ 358 a.toNat (fs_n (by omega) (fs_n (by omega) rfl))).trans (e621_)
          have e623_ : F368_ 358 a.toNat = F 358 a.toNat := by rw [q369_]; exact (fl_u_ne (by omega)).trans (e622_)
          have e624_ : F461_ 358 a.toNat = F 358 a.toNat := by rw [q462_]; exact (fl_u_ne (by omega)).trans ((fl_u_ne (by omega)).trans (e623_))
          have e625_ : F485_ 358 a.toNat = F 358 a.toNat := (s487_ 358 a.toNat (fs_n (by omega) (fs_n (by omega) rfl))).trans (e624_)
          have e626_ : F541_ 358 a.toNat = F 358 a.toNat := by rw [q542_]; exact (fl_u_ne (by omega)).trans (e625_)
          have e627_ : F566_ 358 a.toNat = F 358 a.toNat := (s568_ 358 a.toNat (fs_n (by omega) (fs_n (by omega) rfl))).trans (e626_)
          have e628_ : F592_ 358 a.toNat = F 358 a.toNat := by rw [q593_]; exact (fl_u_ne (by omega)).trans (e627_)
          have e629_ : F607_ 358 a.toNat = F 358 a.toNat := (s609_ 358 a.toNat (fs_n (by omega) (fs_n (by omega) rfl))).trans (e628_)
          exact fl_R_sub (lv' := [(4, .int (Int32.ofInt 1)), (0, .ref 344), (1, .int (Int32.ofInt a)), (2, .int (Int32.ofInt at_))]) rfl rfl (B143_ F607_ (1) g608_ g616_ rk617_ (by omega) (by omega) (⟨by intro h0_; have hs_ := c605_s; rw [sp_lit, if_pos c77_.2, (show sk K (F 344 5) = F 344 5 + 1 by rw [sk, if_pos (by omega)])]; rw [c343_, pb_r]; rw [sp_lx, if_pos c378_.2, sp_eq, (show sk K (F345_ 344 5) = F345_ 344 5 + 1 by rw [sk, if_pos (by omega)])]; rw [c481_, pb_r]; rw [c562_, pb_r]; rw [hs_]; try (show Sum.inl _ = _); try (congr 2 <;> omega), fun h0_ => by exfalso; omega⟩) (by omega) (by omega))
        subst hA_
        have g630_ : fs [(344, 344, 5, 5), (344, 344, 9, 10), (358, 358, 0, 100000), (360, 363, 0, 100000)] F F613_ := fs_tr g595_ s615_ rfl
        have rk631_ : rk K F613_ := rk_fs rk596_ s615_ (fun r k h => (fs_n (by omega) (fs_n (by omega) rfl))) (fs_n (by omega) (fs_n (by omega) rfl))
        try simp only [e602_] at c610_
        try simp only [e597_] at c611_
        refine fl_goto hm_179 rfl ?_
        refine ga_iload (z := 1) hm_179 rfl rfl ?_
        refine fl_if_eq hm_179 rfl ⟨by omega, by omega⟩ (fun h => absurd h (by omega)) (fun _ => ?_)
        refine ga_aload_n (v := .ref 344) hm_179 rfl rfl rfl ?_
        refine fl_bipush hm_179 rfl rfl ?_
        have b632_ : 0 ≤ F613_ 344 5 ∧ F613_ 344 5 ≤ 600 := gi_g g614_ rfl
        refine gVv (nY := 2) (F := 2) (L := 41) (As := [.int (Int32.ofInt 41)]) (b := 344) (rest := []) hm_179 rfl hm_51 rfl rfl (fl_ob sc_344) rfl rfl rfl rfl rfl (by omega) (by omega) (mc_51 hG F613_ X g614_ (K) (41) (1) hgK rk631_ hkt (by omega) (by omega) (by omega)) (fun _ _ h => False.elim h) ?_
        have b634_ : 0 ≤ F613_ 344 10 ∧ F613_ 344 10 ≤ 600 := gi_g g614_ rfl
        have b635_ : 0 ≤ F613_ 344 9 ∧ F613_ 344 9 ≤ 5 := gi_g g614_ rfl
        rintro A1_ (⟨F639_, hA_, g640_, s641_, c636_, c637_, c638_⟩ | ⟨F645_, hA_, g646_, s647_, c642_, c643_, c644_⟩)
        ·
          subst hA_
          have g648_ : fs [(344, 344, 5, 5), (344, 344, 9, 10), (358, 358, 0, 100000), (360, 363, 0, 100000)] F F639_ := fs_tr g630_ s641_ rfl
          have rk649_ : rk K F639_ := rk_fs rk631_ s641_ (fun r k h => (fs_n (by omega) (fs_n (by omega) rfl))) (fs_n (by omega) (fs_n (by omega) rfl))
          have c637_s := c637_.1 (by omega)
          clear c637_
          have b650_ : 0 ≤ F639_ 344 9 ∧ F639_ 344 9 ≤ 5 := gi_g g640_ rfl
          have b651_ : 0 ≤ F639_ 344 10 ∧ F639_ 344 10 ≤ 600 := gi_g g640_ rfl
          have b652_ : 0 ≤ F639_ 344 5 ∧ F639_ 344 5 ≤ 600 := gi_g g640_ rfl
          have e653_ : F326_ 358 a.toNat = F 358 a.toNat := by rw [q327_]; exact fl_u_ne (by omega)
          have e654_ : F345_ 358 a.toNat = F 358 a.toNat := (s347_ 358 a.toNat (fs_n (by omega) (fs_n (by omega) rfl))).trans (e653_)
          have e655_ : F368_ 358 a.toNat = F 358 a.toNat := by rw [q369_]; exact (fl_u_ne (by omega)).trans (e654_)
          have e656_ : F461_ 358 a.toNat = F 358 a.toNat := by rw [q462_]; exact (fl_u_ne (by omega)).trans ((fl_u_ne (by omega)).trans (e655_))
          have e657_ : F485_ 358 a.toNat = F 358 a.toNat := (s487_ 358 a.toNat (fs_n (by omega) (fs_n (by omega) rfl))).trans (e656_)
          have e658_ : F541_ 358 a.toNat = F 358 a.toNat := by rw [q542_]; exact (fl_u_ne (by omega)).trans (e657_)
          have e659_ : F566_ 358 a.toNat = F 358 a.toNat := (s568_ 358 a.toNat (fs_n (by omega) (fs_n (by omega) rfl))).trans (e658_)
          have e660_ : F592_ 358 a.toNat = F 358 a.toNat := by rw [q593_]; exact (fl_u_ne (by omega)).trans (e659_)
          have e661_ : F613_ 358 a.toNat = F 358 a.toNat := (s615_ 358 a.toNat (fs_n (by omega) (fs_n (by omega) rfl))).trans (e660_)
          have e662_ : F639_ 358 a.toNat = F 358 a.toNat := (s641_ 358 a.toNat (fs_n (by omega) (fs_n (by omega) rfl))).trans (e661_)
          exact fl_R_sub (lv' := [(0, .ref 344), (1, .int (Int32.ofInt a)), (2, .int (Int32.ofInt at_))]) rfl rfl (B154_ F639_ g640_ g648_ rk649_ (by omega) (by omega) (⟨by intro h0_; have hs_ := c637_s; rw [sp_lit, if_pos c77_.2, (show sk K (F 344 5) = F 344 5 + 1 by rw [sk, if_pos (by omega)])]; rw [c343_, pb_r]; rw [sp_lx, if_pos c378_.2, sp_eq, (show sk K (F345_ 344 5) = F345_ 344 5 + 1 by rw [sk, if_pos (by omega)])]; rw [c481_, pb_r]; rw [c562_, pb_r]; rw [c611_]; rw [pb_r]; rw [hs_]; try (show Sum.inl _ = _); try (congr 2 <;> omega), fun h0_ => by exfalso; omega⟩) (by omega))
        subst hA_
        have g663_ : fs [(344, 344, 5, 5), (344, 344, 9, 10), (358, 358, 0, 100000), (360, 363, 0, 100000)] F F645_ := fs_tr g630_ s647_ rfl
        have rk664_ : rk K F645_ := rk_fs rk631_ s647_ (fun r k h => (fs_n (by omega) (fs_n (by omega) rfl))) (fs_n (by omega) (fs_n (by omega) rfl))
        refine ga_aload_n (v := .ref 344) hm_179 rfl rfl rfl ?_
        refine ga_getr (b := 358) hm_179 rfl sc_344 rfl ?_
        refine ga_iload_n (z := a) hm_179 rfl rfl ?_
        refine ga_dup2 hm_179 rfl ⟨rfl, rfl⟩ ?_
        have e665_ : F326_ 358 a.toNat = F 358 a.toNat := by rw [q327_]; exact fl_u_ne (by omega)
        have e666_ : F345_ 358 a.toNat = F 358 a.toNat := (s347_ 358 a.toNat (fs_n (by omega) (fs_n (by omega) rfl))).trans (e665_)
        have e667_ : F368_ 358 a.toNat = F 358 a.toNat := by rw [q369_]; exact (fl_u_ne (by omega)).trans (e666_)
        have e668_ : F461_ 358 a.toNat = F 358 a.toNat := by rw [q462_]; exact (fl_u_ne (by omega)).trans ((fl_u_ne (by omega)).trans (e667_))
        have e669_ : F485_ 358 a.toNat = F 358 a.toNat := (s487_ 358 a.toNat (fs_n (by omega) (fs_n (by omega) rfl))).trans (e668_)
        have e670_ : F541_ 358 a.toNat = F 358 a.toNat := by rw [q542_]; exact (fl_u_ne (by omega)).trans (e669_)
        have e671_ : F566_ 358 a.toNat = F 358 a.toNat := (s568_ 358 a.toNat (fs_n (by omega) (fs_n (by omega) rfl))).trans (e670_)
        have e672_ : F592_ 358 a.toNat = F 358 a.toNat := by rw [q593_]; exact (fl_u_ne (by omega)).trans (e671_)
        have e673_ : F613_ 358 a.toNat = F 358 a.toNat := (s615_ 358 a.toNat (fs_n (by omega) (fs_n (by omega) rfl))).trans (e672_)
        have e674_ : F645_ 358 a.toNat = F 358 a.toNat := (s647_ 358 a.toNat (fs_n (by omega) (fs_n (by omega) rfl))).trans (e673_)
        refine ga_iald (z := a) (w := F 358 a.toNat) hm_179 rfl sc_358 (by omega) (by omega) (by omega) (e674_) ?_
        refine fl_iconst hm_179 rfl ?_
        refine ga_iadd (a := F 358 a.toNat) (b := 1) (c := F 358 a.toNat + 1) hm_179 rfl (by omega) ?_
        refine fl_iast (z := a) (v := F 358 a.toNat + 1) hm_179 rfl sc_358 (by omega) (by omega) (by omega) ?_
        obtain ⟨F675_, q676_⟩ : ∃ F9_, F9_ = (fl_u F645_ 358 a.toNat (F 358 a.toNat + 1)) := ⟨_, rfl⟩
        rw [← q676_]
        have g677_ : gi F675_ := by rw [q676_]; exact gi_u (g646_) rfl (by omega) (by omega)
        have g678_ : fs [(344, 344, 5, 5), (344, 344, 9, 10), (358, 358, 0, 100000), (360, 363, 0, 100000)] F F675_ := by rw [q676_]; exact fs_u (g663_) (fs_z (fs_z (fs_y (by omega))))
        have rk679_ : rk K F675_ := by rw [q676_]; exact rk_u (rk664_) (by omega) (by omega)
        refine gr_v hm_179 rfl rfl ?_
        have e680_ : F675_ 344 9 = F645_ 344 9 := by rw [q676_]; exact fl_u_ne (by omega)
        have b681_ : 0 ≤ F645_ 344 9 ∧ F645_ 344 9 ≤ 5 := gi_g g646_ rfl
        have e682_ : F675_ 344 10 = F645_ 344 10 := by rw [q676_]; exact fl_u_ne (by omega)
        have e683_ : F675_ 344 5 = F645_ 344 5 := by rw [q676_]; exact fl_u_ne (by omega)
        have b684_ : 0 ≤ F645_ 344 5 ∧ F645_ 344 5 ≤ 600 := gi_g g646_ rfl
        have e685_ : F675_ 358 a.toNat = F 358 a.toNat + 1 := by rw [q676_]; exact fl_u_eq
        exact Or.inr (⟨F675_, rfl, g677_, g678_, (by omega), (by rw [sp_lit, if_pos c77_.2, (show sk K (F 344 5) = F 344 5 + 1 by rw [sk, if_pos (by omega)])]; rw [c343_, pb_r]; rw [sp_lx, if_pos c378_.2, sp_eq, (show sk K (F345_ 344 5) = F345_ 344 5 + 1 by rw [sk, if_pos (by omega)])]; rw [c481_, pb_r]; rw [c562_, pb_r]; rw [c611_]; rw [pb_r]; rw [c643_]; try (congr 1; omega)), (by omega), (by omega)⟩)
      exfalso; omega
    exfalso; omega
  refine ga_iload_n (z := at_) hm_179 rfl rfl ?_
  refine ga_aload_n (v := .ref 344) hm_179 rfl rfl rfl ?_
  refine gIi (nY := 1) (F := 0) (L := 0) (As := []) (b := 344) (rest := [.int (Int32.ofInt at_)]) hm_179 rfl hm_59 rfl rfl (fl_ob sc_344) rfl rfl rfl rfl rfl (by omega) (by omega) ?_
  intro f686_ l687_ h688_ h689_
  show fl_R xi_ms 59 f686_ l687_ 0 [(0, .ref 344)] [] _ _
  refine ga_aload_n (v := .ref 344) hm_59 rfl rfl rfl ?_
  refine ga_geti (z := F 344 9) hm_59 rfl sc_344 rfl (rfl) ?_
  refine fl_if_le (a := F 344 9) hm_59 rfl ⟨by omega, by omega⟩ (fun h690_ => ?_) (fun h691_ => ?_)
  · exfalso; omega
  refine fl_iconst hm_59 rfl ?_
  refine fl_goto hm_59 rfl ?_
  refine gr_i hm_59 rfl rfl (ga_nb (by omega)) ?_
  clear h688_ h689_ f686_ l687_
  refine fl_if_eq hm_179 rfl ⟨by omega, by omega⟩ (fun h => absurd h (by omega)) (fun _ => ?_)
  refine fl_iconst hm_179 rfl ?_
  refine fl_goto hm_179 rfl ?_
  refine ga_iadd (a := at_) (b := 0) (c := at_) hm_179 rfl (by omega) ?_
  refine ga_istore_n (lv2 := [(3, .int (Int32.ofInt at_)), (0, .ref 344), (1, .int (Int32.ofInt a)), (2, .int (Int32.ofInt at_))]) hm_179 rfl (Nat.le_of_ble_eq_true rfl) rfl ?_
  refine ga_aload_n (v := .ref 344) hm_179 rfl rfl rfl ?_
  refine fl_bipush hm_179 rfl rfl ?_
  have b692_ : 0 ≤ F 344 5 ∧ F 344 5 ≤ 600 := gi_g hgi rfl
  refine gVi (nY := 4) (F := 1) (L := 21) (As := [.int (Int32.ofInt 9)]) (b := 344) (rest := []) hm_179 rfl hm_56 rfl rfl (fl_ob sc_344) rfl rfl rfl rfl rfl (by omega) (by omega) (mc_56 hG F X hgi (K) (9) ([110, 111, 116]) hgK hrk hkt (by omega) (by omega) (by decide) (kw_9 hrk)) (fun _ _ h => False.elim h) ?_
  rintro z693_ A1_ (⟨hA_, hz_, c694_⟩ | ⟨hA_, hz_, c695_, c696_⟩)
  ·
    subst hA_
    subst hz_
    refine ga_istore (lv2 := [(4, .int (Int32.ofInt 0)), (3, .int (Int32.ofInt at_)), (0, .ref 344), (1, .int (Int32.ofInt a)), (2, .int (Int32.ofInt at_))]) hm_179 rfl (Nat.le_of_ble_eq_true rfl) rfl ?_
    refine ga_iload (z := 0) hm_179 rfl rfl ?_
    refine fl_if_eq hm_179 rfl ⟨by omega, by omega⟩ (fun _ => ?_) (fun h => absurd (by omega) h)
    refine ga_aload_n (v := .ref 344) hm_179 rfl rfl rfl ?_
    refine gIi (nY := 1) (F := 0) (L := 0) (As := []) (b := 344) (rest := []) hm_179 rfl hm_59 rfl rfl (fl_ob sc_344) rfl rfl rfl rfl rfl (by omega) (by omega) ?_
    intro f697_ l698_ h699_ h700_
    show fl_R xi_ms 59 f697_ l698_ 0 [(0, .ref 344)] [] _ _
    refine ga_aload_n (v := .ref 344) hm_59 rfl rfl rfl ?_
    refine ga_geti (z := F 344 9) hm_59 rfl sc_344 rfl (rfl) ?_
    refine fl_if_le (a := F 344 9) hm_59 rfl ⟨by omega, by omega⟩ (fun h701_ => ?_) (fun h702_ => ?_)
    · exfalso; omega
    refine fl_iconst hm_59 rfl ?_
    refine fl_goto hm_59 rfl ?_
    refine gr_i hm_59 rfl rfl (ga_nb (by omega)) ?_
    clear h699_ h700_ f697_ l698_
    refine fl_if_eq hm_179 rfl ⟨by omega, by omega⟩ (fun h => absurd h (by omega)) (fun _ => ?_)
    refine gr_v hm_179 rfl rfl ?_
    have b703_ : 0 ≤ F 344 10 ∧ F 344 10 ≤ 600 := gi_g hgi rfl
    exact Or.inl ⟨F, rfl, hgi, fs_refl, (by omega), (⟨fun h0_ => by exfalso; omega, fun h0_ => by constructor <;> omega⟩), (by omega)⟩
  exfalso; omega

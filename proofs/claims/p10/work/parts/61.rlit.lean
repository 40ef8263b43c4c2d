def sp_lx (K : fl_N) (k : Int) (l tl pl : List Int) (ps : List (List Int)) (p : Int) : PR Int := if isw K p [61] = true then sp_eq K k l tl p else sp_atom K k l tl pl ps p
def sp_lit (K : fl_N) (k : Int) (l tl pl : List Int) (ps : List (List Int)) (p : Int) : PR Int := if isw K p [110, 111, 116] = true then pb (sp_kind K 0 (sk K p)) fun p => pb (sp_lx K k l tl pl ps p) fun p => sp_kind K 1 p else sp_lx K k l tl pl ps p
theorem sp_mem_lit {K : fl_N} {k : Int} {l tl pl : List Int} {ps : List (List Int)} {c p : Int} : sp_mem K false k l tl pl ps c p = pb (sp_lit K k l tl pl ps p) (fun p => .inr (p, c)) := by
  rw [sp_mem, if_neg (by simp), sp_lit]
  by_cases h : isw K p [110, 111, 116] = true
  · rw [if_pos h, if_pos h, pb_as]
    congr 1
    funext q
    rw [pb_as]
    simp only [true_and]
    rfl
  · rw [if_neg h, if_neg h]
    simp only [true_and]
    rfl
theorem rprd_fs {F F' : fl_N} {S : List (Nat × Nat × Nat × Nat)} {ps : List (List Int)} (h : rprd F ps) (hf : fs S F F') (hS : ∀ r j, 351 ≤ r ∧ r ≤ 352 → fs_in S r j = false) : rprd F' ps := by
  have e1 : F' 351 = F 351 := funext (fun j => hf _ _ (hS _ _ (by omega)))
  have e2 : F' 352 = F 352 := funext (fun j => hf _ _ (hS _ _ (by omega)))
  intro i hi
  rw [e1, e2]
  exact h i hi
theorem rprd_u {F : fl_N} {ps : List (List Int)} {c j : Nat} {z : Int} (h : rprd F ps) (hc : ¬ (351 ≤ c ∧ c ≤ 352)) : rprd (fl_u F c j z) ps := by
  intro i hi
  rw [fl_u_r (r' := 351) (by omega), fl_u_r (r' := 352) (by omega)]
  exact h i hi

def sp_l2 (K : fl_N) (k : Int) (l tl pl : List Int) (ps : List (List Int)) (nt p : Int) : PR Int := if nt = 1 then pb (sp_lx K k l tl pl ps p) (fun p => sp_kind K 1 p) else sp_lx K k l tl pl ps p
theorem sp_l2_f {K : fl_N} {k : Int} {l tl pl : List Int} {ps : List (List Int)} {nt p : Int} {e : Int × Int} (h : sp_lx K k l tl pl ps p = .inl e) : sp_l2 K k l tl pl ps nt p = .inl e := by
  unfold sp_l2
  split
  · rw [h]
    rfl
  · exact h

/- CheapPlannerModel.readLiteral -/
abbrev pq_179 (G : Nat → Nat → Option Nat) (F : fl_N) (X : xi_H) (K : fl_N) (a at_ k : Int) (l tl pl : List Int) (ps : List (List Int)) : Outcome → xi_H → Prop := gqv (fun A => (∃ F' : fl_N, fl_H sh_T G F' ++ X = A ∧ gi F' ∧ fs [(344, 344, 5, 5), (344, 344, 9, 10), (358, 358, 0, 100000), (360, 363, 0, 100000)] F F' ∧ (¬ F' 344 9 = 0) ∧ ((F 344 9 = 0 → sp_lit K k l tl pl ps (F 344 5) = .inl (F' 344 9, F' 344 10)) ∧ (¬ F 344 9 = 0 → F' 344 9 = F 344 9 ∧ F' 344 10 = F 344 10)) ∧ (0 ≤ F' 344 5 ∧ F' 344 5 ≤ K 1 6 - 1)) ∨ (∃ F' : fl_N, fl_H sh_T G F' ++ X = A ∧ gi F' ∧ fs [(344, 344, 5, 5), (344, 344, 9, 10), (358, 358, 0, 100000), (360, 363, 0, 100000)] F F' ∧ (F' 344 9 = 0 ∧ F 344 9 = 0) ∧ (sp_lit K k l tl pl ps (F 344 5) = .inr (F' 344 5)) ∧ (0 ≤ F' 344 5 ∧ F' 344 5 ≤ K 1 6 - 1) ∧ (F' 358 a.toNat = F 358 a.toNat + 1) ∧ (lfr a.toNat (at_ + F 358 a.toNat).toNat ((at_ + F 358 a.toNat).toNat + 1) F F') ∧ (∃ x, mem_d K false l pl ps (F 344 5) = [x] ∧ rlt F' (at_ + F 358 a.toNat).toNat x))) gqn
set_option maxHeartbeats 16000000 in
theorem mb_179_154 {G : Nat → Nat → Option Nat} (hG : gg G) (F : fl_N) (X : xi_H) (hgi : gi F) (K : fl_N) (a at_ k : Int) (l tl pl : List Int) (ps : List (List Int)) (hgK : gi K) (hrk : rk K F) (hkt : rkt K) (hp : 0 ≤ F 344 5 ∧ F 344 5 ≤ K 1 6 - 1) (ht : trm F a k l tl) (hlt : l.length = tl.length) (ha : 0 ≤ a ∧ a ≤ 5) (hpl : rpn (F 350) (F 344 17) pl) (hps : rprd F ps ∧ ps.length = pl.length) (hat : 0 ≤ at_ ∧ at_ ≤ 40) (hla : rla a at_) (hcd : F 344 9 = 0 → F 358 a.toNat ≤ 3) (fr lo : Nat) (hfr : 5 ≤ fr) (hlo : 117 ≤ lo) (Fb : fl_N) (hg_Fb : gi Fb) (hf_Fb : fs [(344, 344, 5, 5), (344, 344, 9, 10), (358, 358, 0, 100000), (360, 363, 0, 100000)] F Fb) (hrk_b : rk K Fb) (hbd : ¬ Fb 344 9 = 0) (hp_b : 0 ≤ Fb 344 5 ∧ Fb 344 5 ≤ K 1 6 - 1) (hb : (F 344 9 = 0 → sp_lit K k l tl pl ps (F 344 5) = .inl (Fb 344 9, Fb 344 10)) ∧ (¬ F 344 9 = 0 → Fb 344 9 = F 344 9 ∧ Fb 344 10 = F 344 10)) (h358b : Fb 358 a.toNat = F 358 a.toNat ∧ F 358 a.toNat ≤ 3) : fl_R xi_ms 179 fr lo 154 [(0, .ref 344), (1, .int (Int32.ofInt a)), (2, .int (Int32.ofInt at_))] [] (fl_H sh_T G Fb ++ X) (pq_179 G F X K a at_ k l tl pl ps) := by
  have hP := (rkt_p hkt hp.1 hp.2 hgK).1
  have hK16 : 0 ≤ K 1 6 ∧ K 1 6 ≤ 601 := gi_g hgK rfl
  have hko := hkt.1
  have hbL : 0 ≤ F 358 a.toNat ∧ F 358 a.toNat ≤ 4 := gi_g hgi rfl
  have h2L : (2 * at_ + 2 * (F 358 a.toNat)).toNat = 2 * (at_ + F 358 a.toNat).toNat := by omega
  have h2L1 : (2 * at_ + 2 * (F 358 a.toNat) + 1).toNat = 2 * (at_ + F 358 a.toNat).toNat + 1 := by omega
  have hL2a : 2 * (at_ + F 358 a.toNat).toNat < 2 * ((at_ + F 358 a.toNat).toNat + 1) := by omega
  have hL2c : 2 * (at_ + F 358 a.toNat).toNat + 1 < 2 * ((at_ + F 358 a.toNat).toNat + 1) := by omega
  refine ga_aload_n (v := .ref 344) hm_179 rfl rfl rfl ?_
  refine ga_getr (b := 358) hm_179 rfl sc_344 rfl ?_
  refine ga_iload_n (z := a) hm_179 rfl rfl ?_
  refine ga_dup2 hm_179 rfl ⟨rfl, rfl⟩ ?_
  have b21_ : 0 ≤ Fb 358 a.toNat ∧ Fb 358 a.toNat ≤ 4 := gi_g hg_Fb rfl
  refine ga_iald (z := a) (w := Fb 358 a.toNat) hm_179 rfl sc_358 (by omega) (by omega) (by omega) (rfl) ?_
  refine fl_iconst hm_179 rfl ?_
  refine ga_iadd (a := Fb 358 a.toNat) (b := 1) (c := Fb 358 a.toNat + 1) hm_179 rfl (by omega) ?_
  refine fl_iast (z := a) (v := Fb 358 a.toNat + 1) hm_179 rfl sc_358 (by omega) (by omega) (by omega) ?_
  obtain ⟨F22_, q23_⟩ : ∃ Fq_, Fq_ = (fl_u Fb 358 a.toNat (Fb 358 a.toNat + 1)) := ⟨_, rfl⟩
  rw [← q23_]
  have g24_ : gi F22_ := by rw [q23_]; exact gi_u (hg_Fb) rfl (by omega) (by omega)
  have g25_ : fs [(344, 344, 5, 5), (344, 344, 9, 10), (358, 358, 0, 100000), (360, 363, 0, 100000)] F F22_ := by rw [q23_]; exact fs_u (hf_Fb) (fs_z (fs_z (fs_y (by omega))))
  have rk26_ : rk K F22_ := by rw [q23_]; exact rk_u (hrk_b) (by first | decide | exact nc_ rfl | omega) (by first | decide | exact nc_ rfl | omega)
  refine gr_v hm_179 rfl rfl ?_
  have e27_ : F22_ 344 9 = Fb 344 9 := by rw [q23_]; exact fl_u_ne (by first | exact nc_ rfl | decide | omega)
  have b28_ : 0 ≤ Fb 344 9 ∧ Fb 344 9 ≤ 5 := gi_g hg_Fb rfl
  have e29_ : F22_ 344 10 = Fb 344 10 := by rw [q23_]; exact fl_u_ne (by first | exact nc_ rfl | decide | omega)
  have e30_ : F22_ 344 5 = Fb 344 5 := by rw [q23_]; exact fl_u_ne (by first | exact nc_ rfl | decide | omega)
  have b31_ : 0 ≤ Fb 344 10 ∧ Fb 344 10 ≤ 600 := gi_g hg_Fb rfl
  have b32_ : 0 ≤ F 344 10 ∧ F 344 10 ≤ 600 := gi_g hgi rfl
  have b33_ : 0 ≤ F 344 5 ∧ F 344 5 ≤ 600 := gi_g hgi rfl
  have b34_ : 0 ≤ F 344 9 ∧ F 344 9 ≤ 5 := gi_g hgi rfl
  have b35_ : 0 ≤ Fb 344 5 ∧ Fb 344 5 ≤ 600 := gi_g hg_Fb rfl
  exact Or.inl ⟨F22_, rfl, g24_, g25_, (by omega), (⟨fun h0_ => by rw [show F22_ 344 9 = Fb 344 9 by omega, show F22_ 344 10 = Fb 344 10 by omega]; exact hb.1 h0_, fun h0_ => by have h1_ := hb.2 h0_; omega⟩), (⟨by omega, by omega⟩)⟩
set_option maxHeartbeats 16000000 in
theorem mb_179_143 {G : Nat → Nat → Option Nat} (hG : gg G) (F : fl_N) (X : xi_H) (hgi : gi F) (K : fl_N) (a at_ k : Int) (l tl pl : List Int) (ps : List (List Int)) (hgK : gi K) (hrk : rk K F) (hkt : rkt K) (hp : 0 ≤ F 344 5 ∧ F 344 5 ≤ K 1 6 - 1) (ht : trm F a k l tl) (hlt : l.length = tl.length) (ha : 0 ≤ a ∧ a ≤ 5) (hpl : rpn (F 350) (F 344 17) pl) (hps : rprd F ps ∧ ps.length = pl.length) (hat : 0 ≤ at_ ∧ at_ ≤ 40) (hla : rla a at_) (hcd : F 344 9 = 0 → F 358 a.toNat ≤ 3) (fr lo : Nat) (hfr : 5 ≤ fr) (hlo : 117 ≤ lo) (Fb : fl_N) (nt : Int) (hg_Fb : gi Fb) (hf_Fb : fs [(344, 344, 5, 5), (344, 344, 9, 10), (358, 358, 0, 100000), (360, 363, 0, 100000)] F Fb) (hrk_b : rk K Fb) (hbd : ¬ Fb 344 9 = 0) (hp_b : 0 ≤ Fb 344 5 ∧ Fb 344 5 ≤ K 1 6 - 1) (hb : (F 344 9 = 0 → sp_lit K k l tl pl ps (F 344 5) = .inl (Fb 344 9, Fb 344 10)) ∧ (¬ F 344 9 = 0 → Fb 344 9 = F 344 9 ∧ Fb 344 10 = F 344 10)) (h358b : Fb 358 a.toNat = F 358 a.toNat ∧ F 358 a.toNat ≤ 3) (hnt : nt = 0 ∨ nt = 1) : fl_R xi_ms 179 fr lo 143 [(4, .int (Int32.ofInt nt)), (0, .ref 344), (1, .int (Int32.ofInt a)), (2, .int (Int32.ofInt at_))] [] (fl_H sh_T G Fb ++ X) (pq_179 G F X K a at_ k l tl pl ps) := by
  have hP := (rkt_p hkt hp.1 hp.2 hgK).1
  have hK16 : 0 ≤ K 1 6 ∧ K 1 6 ≤ 601 := gi_g hgK rfl
  have hko := hkt.1
  have hbL : 0 ≤ F 358 a.toNat ∧ F 358 a.toNat ≤ 4 := gi_g hgi rfl
  have h2L : (2 * at_ + 2 * (F 358 a.toNat)).toNat = 2 * (at_ + F 358 a.toNat).toNat := by omega
  have h2L1 : (2 * at_ + 2 * (F 358 a.toNat) + 1).toNat = 2 * (at_ + F 358 a.toNat).toNat + 1 := by omega
  have hL2a : 2 * (at_ + F 358 a.toNat).toNat < 2 * ((at_ + F 358 a.toNat).toNat + 1) := by omega
  have hL2c : 2 * (at_ + F 358 a.toNat).toNat + 1 < 2 * ((at_ + F 358 a.toNat).toNat + 1) := by omega
  refine ga_iload (z := nt) hm_179 rfl rfl ?_
  refine fl_if_eq (a := nt) hm_179 rfl ⟨by omega, by omega⟩ (fun h21_ => ?_) (fun h22_ => ?_)
  ·
    have b23_ : 0 ≤ Fb 344 9 ∧ Fb 344 9 ≤ 5 := gi_g hg_Fb rfl
    have b24_ : 0 ≤ Fb 344 10 ∧ Fb 344 10 ≤ 600 := gi_g hg_Fb rfl
    have b25_ : 0 ≤ Fb 344 5 ∧ Fb 344 5 ≤ 600 := gi_g hg_Fb rfl
    exact fl_R_sub (lv' := [(0, .ref 344), (1, .int (Int32.ofInt a)), (2, .int (Int32.ofInt at_))]) rfl rfl (mb_179_154 hG F X hgi K a at_ k l tl pl ps hgK hrk hkt hp ht hlt ha hpl hps hat hla hcd fr lo hfr hlo Fb hg_Fb hf_Fb hrk_b (by omega) (⟨by omega, by omega⟩) (hb) (by omega))
  refine ga_aload_n (v := .ref 344) hm_179 rfl rfl rfl ?_
  refine fl_bipush hm_179 rfl rfl ?_
  have b26_ : 0 ≤ Fb 344 5 ∧ Fb 344 5 ≤ 600 := gi_g hg_Fb rfl
  refine gVv (nY := 2) (F := 2) (L := 41) (As := [.int (Int32.ofInt 41)]) (b := 344) (rest := []) hm_179 rfl hm_51 rfl rfl (fl_ob sc_344) rfl rfl rfl rfl rfl (by omega) (by omega) (mc_51 hG Fb X hg_Fb (K) (41) (1) hgK hrk_b hkt (⟨by omega, by omega⟩) (by omega) (by omega)) (fun _ _ h => False.elim h) ?_
  have b28_ : 0 ≤ Fb 344 10 ∧ Fb 344 10 ≤ 600 := gi_g hg_Fb rfl
  have b29_ : 0 ≤ Fb 344 9 ∧ Fb 344 9 ≤ 5 := gi_g hg_Fb rfl
  rintro A1_ (⟨F33_, hA_, g34_, s35_, c30_, c31_, c32_⟩ | ⟨F39_, hA_, g40_, s41_, c36_, c37_, c38_⟩)
  ·
    subst hA_
    have g42_ : fs [(344, 344, 5, 5), (344, 344, 9, 10), (358, 358, 0, 100000), (360, 363, 0, 100000)] F F33_ := fs_tr hf_Fb s35_ rfl
    have rk43_ : rk K F33_ := rk_fs hrk_b s35_ (fs_rg rfl) rfl
    have c31_k := c31_.2 (by omega)
    clear c31_
    have b44_ : 0 ≤ F33_ 344 9 ∧ F33_ 344 9 ≤ 5 := gi_g g34_ rfl
    have b45_ : 0 ≤ F33_ 344 10 ∧ F33_ 344 10 ≤ 600 := gi_g g34_ rfl
    have b46_ : 0 ≤ F33_ 344 5 ∧ F33_ 344 5 ≤ 600 := gi_g g34_ rfl
    have e47_ : F33_ 358 a.toNat = Fb 358 a.toNat := (s35_ 358 a.toNat (by first | exact fs_c rfl | exact (fs_n (by omega) (fs_n (by omega) rfl)))).trans (rfl)
    exact fl_R_sub (lv' := [(0, .ref 344), (1, .int (Int32.ofInt a)), (2, .int (Int32.ofInt at_))]) rfl rfl (mb_179_154 hG F X hgi K a at_ k l tl pl ps hgK hrk hkt hp ht hlt ha hpl hps hat hla hcd fr lo hfr hlo F33_ g34_ g42_ rk43_ (by omega) (⟨by omega, by omega⟩) (⟨fun h0_ => by rw [show F33_ 344 9 = Fb 344 9 by omega, show F33_ 344 10 = Fb 344 10 by omega]; exact hb.1 h0_, fun h0_ => by have h1_ := hb.2 h0_; omega⟩) (by omega))
  exfalso; omega
set_option maxHeartbeats 16000000 in
theorem mb_179_128 {G : Nat → Nat → Option Nat} (hG : gg G) (F : fl_N) (X : xi_H) (hgi : gi F) (K : fl_N) (a at_ k : Int) (l tl pl : List Int) (ps : List (List Int)) (hgK : gi K) (hrk : rk K F) (hkt : rkt K) (hp : 0 ≤ F 344 5 ∧ F 344 5 ≤ K 1 6 - 1) (ht : trm F a k l tl) (hlt : l.length = tl.length) (ha : 0 ≤ a ∧ a ≤ 5) (hpl : rpn (F 350) (F 344 17) pl) (hps : rprd F ps ∧ ps.length = pl.length) (hat : 0 ≤ at_ ∧ at_ ≤ 40) (hla : rla a at_) (hcd : F 344 9 = 0 → F 358 a.toNat ≤ 3) (fr lo : Nat) (hfr : 5 ≤ fr) (hlo : 117 ≤ lo) (Fb : fl_N) (nt : Int) (hg_Fb : gi Fb) (hf_Fb : fs [(344, 344, 5, 5), (344, 344, 9, 10), (358, 358, 0, 100000), (360, 363, 0, 100000)] F Fb) (hrk_b : rk K Fb) (hbd : ¬ Fb 344 9 = 0) (hp_b : 0 ≤ Fb 344 5 ∧ Fb 344 5 ≤ K 1 6 - 1) (hb : (F 344 9 = 0 → sp_lit K k l tl pl ps (F 344 5) = .inl (Fb 344 9, Fb 344 10)) ∧ (¬ F 344 9 = 0 → Fb 344 9 = F 344 9 ∧ Fb 344 10 = F 344 10)) (h358b : Fb 358 a.toNat = F 358 a.toNat ∧ F 358 a.toNat ≤ 3) (hnt : nt = 0 ∨ nt = 1) : fl_R xi_ms 179 fr lo 128 [(4, .int (Int32.ofInt nt)), (0, .ref 344), (1, .int (Int32.ofInt a)), (2, .int (Int32.ofInt at_))] [] (fl_H sh_T G Fb ++ X) (pq_179 G F X K a at_ k l tl pl ps) := by
  have hP := (rkt_p hkt hp.1 hp.2 hgK).1
  have hK16 : 0 ≤ K 1 6 ∧ K 1 6 ≤ 601 := gi_g hgK rfl
  have hko := hkt.1
  have hbL : 0 ≤ F 358 a.toNat ∧ F 358 a.toNat ≤ 4 := gi_g hgi rfl
  have h2L : (2 * at_ + 2 * (F 358 a.toNat)).toNat = 2 * (at_ + F 358 a.toNat).toNat := by omega
  have h2L1 : (2 * at_ + 2 * (F 358 a.toNat) + 1).toNat = 2 * (at_ + F 358 a.toNat).toNat + 1 := by omega
  have hL2a : 2 * (at_ + F 358 a.toNat).toNat < 2 * ((at_ + F 358 a.toNat).toNat + 1) := by omega
  have hL2c : 2 * (at_ + F 358 a.toNat).toNat + 1 < 2 * ((at_ + F 358 a.toNat).toNat + 1) := by omega
  refine ga_aload_n (v := .ref 344) hm_179 rfl rfl rfl ?_
  refine fl_bipush hm_179 rfl rfl ?_
  have b21_ : 0 ≤ Fb 344 5 ∧ Fb 344 5 ≤ 600 := gi_g hg_Fb rfl
  refine gVv (nY := 2) (F := 2) (L := 41) (As := [.int (Int32.ofInt 41)]) (b := 344) (rest := []) hm_179 rfl hm_51 rfl rfl (fl_ob sc_344) rfl rfl rfl rfl rfl (by omega) (by omega) (mc_51 hG Fb X hg_Fb (K) (41) (1) hgK hrk_b hkt (⟨by omega, by omega⟩) (by omega) (by omega)) (fun _ _ h => False.elim h) ?_
  have b23_ : 0 ≤ Fb 344 10 ∧ Fb 344 10 ≤ 600 := gi_g hg_Fb rfl
  have b24_ : 0 ≤ Fb 344 9 ∧ Fb 344 9 ≤ 5 := gi_g hg_Fb rfl
  rintro A1_ (⟨F28_, hA_, g29_, s30_, c25_, c26_, c27_⟩ | ⟨F34_, hA_, g35_, s36_, c31_, c32_, c33_⟩)
  ·
    subst hA_
    have g37_ : fs [(344, 344, 5, 5), (344, 344, 9, 10), (358, 358, 0, 100000), (360, 363, 0, 100000)] F F28_ := fs_tr hf_Fb s30_ rfl
    have rk38_ : rk K F28_ := rk_fs hrk_b s30_ (fs_rg rfl) rfl
    have c26_k := c26_.2 (by omega)
    clear c26_
    refine fl_goto hm_179 rfl ?_
    have b39_ : 0 ≤ F28_ 344 9 ∧ F28_ 344 9 ≤ 5 := gi_g g29_ rfl
    have b40_ : 0 ≤ F28_ 344 10 ∧ F28_ 344 10 ≤ 600 := gi_g g29_ rfl
    have b41_ : 0 ≤ F28_ 344 5 ∧ F28_ 344 5 ≤ 600 := gi_g g29_ rfl
    have e42_ : F28_ 358 a.toNat = Fb 358 a.toNat := (s30_ 358 a.toNat (by first | exact fs_c rfl | exact (fs_n (by omega) (fs_n (by omega) rfl)))).trans (rfl)
    exact mb_179_143 hG F X hgi K a at_ k l tl pl ps hgK hrk hkt hp ht hlt ha hpl hps hat hla hcd fr lo hfr hlo F28_ (nt) g29_ g37_ rk38_ (by omega) (⟨by omega, by omega⟩) (⟨fun h0_ => by rw [show F28_ 344 9 = Fb 344 9 by omega, show F28_ 344 10 = Fb 344 10 by omega]; exact hb.1 h0_, fun h0_ => by have h1_ := hb.2 h0_; omega⟩) (by omega) (by omega)
  exfalso; omega
set_option maxHeartbeats 16000000 in
theorem mg_179_57 {G : Nat → Nat → Option Nat} (hG : gg G) (F : fl_N) (X : xi_H) (hgi : gi F) (K : fl_N) (a at_ k : Int) (l tl pl : List Int) (ps : List (List Int)) (hgK : gi K) (hrk : rk K F) (hkt : rkt K) (hp : 0 ≤ F 344 5 ∧ F 344 5 ≤ K 1 6 - 1) (ht : trm F a k l tl) (hlt : l.length = tl.length) (ha : 0 ≤ a ∧ a ≤ 5) (hpl : rpn (F 350) (F 344 17) pl) (hps : rprd F ps ∧ ps.length = pl.length) (hat : 0 ≤ at_ ∧ at_ ≤ 40) (hla : rla a at_) (hcd : F 344 9 = 0 → F 358 a.toNat ≤ 3) (fr lo : Nat) (hfr : 5 ≤ fr) (hlo : 117 ≤ lo) (Fg : fl_N) (nt : Int) (hg_Fg : gi Fg) (hf_Fg : fs [(344, 344, 5, 5), (344, 344, 9, 10), (358, 358, 0, 100000), (360, 363, 0, 100000)] F Fg) (hrk_g : rk K Fg) (h0g : Fg 344 9 = 0 ∧ F 344 9 = 0) (hp_g : 0 ≤ Fg 344 5 ∧ Fg 344 5 ≤ K 1 6 - 1) (hnt : nt = 0 ∨ nt = 1) (h358g : Fg 358 a.toNat = F 358 a.toNat ∧ F 358 a.toNat ≤ 3) (hq_ : sp_lit K k l tl pl ps (F 344 5) = sp_l2 K k l tl pl ps nt (Fg 344 5)) (hm_ : mem_d K false l pl ps (F 344 5) = [mb_d K false l pl ps nt (Fg 344 5)]) (hlg : lfr a.toNat (at_ + F 358 a.toNat).toNat ((at_ + F 358 a.toNat).toNat + 1) F Fg) : fl_R xi_ms 179 fr lo 57 [(4, .int (Int32.ofInt nt)), (3, .int (Int32.ofInt (at_ + F 358 a.toNat))), (0, .ref 344), (1, .int (Int32.ofInt a)), (2, .int (Int32.ofInt at_))] [] (fl_H sh_T G Fg ++ X) (pq_179 G F X K a at_ k l tl pl ps) := by
  have hP := (rkt_p hkt hp.1 hp.2 hgK).1
  have hK16 : 0 ≤ K 1 6 ∧ K 1 6 ≤ 601 := gi_g hgK rfl
  have hko := hkt.1
  have hbL : 0 ≤ F 358 a.toNat ∧ F 358 a.toNat ≤ 4 := gi_g hgi rfl
  have h2L : (2 * at_ + 2 * (F 358 a.toNat)).toNat = 2 * (at_ + F 358 a.toNat).toNat := by omega
  have h2L1 : (2 * at_ + 2 * (F 358 a.toNat) + 1).toNat = 2 * (at_ + F 358 a.toNat).toNat + 1 := by omega
  have hL2a : 2 * (at_ + F 358 a.toNat).toNat < 2 * ((at_ + F 358 a.toNat).toNat + 1) := by omega
  have hL2c : 2 * (at_ + F 358 a.toNat).toNat + 1 < 2 * ((at_ + F 358 a.toNat).toNat + 1) := by omega
  refine ga_aload_n (v := .ref 344) hm_179 rfl rfl rfl ?_
  refine ga_getr (b := 361) hm_179 rfl sc_344 rfl ?_
  refine ga_iload_n (z := at_ + F 358 a.toNat) hm_179 rfl rfl ?_
  refine ga_iload (z := nt) hm_179 rfl rfl ?_
  refine fl_zast (z := at_ + F 358 a.toNat) (v := nt) hm_179 rfl sc_361 (by omega) (by omega) (by omega) (ga_vb (by omega)) ?_
  refine ga_aload_n (v := .ref 344) hm_179 rfl rfl rfl ?_
  refine ga_getr (b := 360) hm_179 rfl sc_344 rfl ?_
  refine ga_iload_n (z := at_ + F 358 a.toNat) hm_179 rfl rfl ?_
  refine ga_aload_n (v := .ref 344) hm_179 rfl rfl rfl ?_
  refine fl_bipush hm_179 rfl rfl ?_
  obtain ⟨F21_, q22_⟩ : ∃ Fq_, Fq_ = (fl_u Fg 361 (at_ + F 358 a.toNat).toNat nt) := ⟨_, rfl⟩
  rw [← q22_]
  have g23_ : gi F21_ := by rw [q22_]; exact gi_u (hg_Fg) rfl (by omega) (by omega)
  have g24_ : fs [(344, 344, 5, 5), (344, 344, 9, 10), (358, 358, 0, 100000), (360, 363, 0, 100000)] F F21_ := by rw [q22_]; exact fs_u (hf_Fg) (fs_z (fs_z (fs_z (fs_y (by omega)))))
  have rk25_ : rk K F21_ := by rw [q22_]; exact rk_u (hrk_g) (by first | decide | exact nc_ rfl | omega) (by first | decide | exact nc_ rfl | omega)
  have e26_ : F21_ 344 5 = Fg 344 5 := by rw [q22_]; exact fl_u_ne (by first | exact nc_ rfl | decide | omega)
  have b27_ : 0 ≤ Fg 344 5 ∧ Fg 344 5 ≤ 600 := gi_g hg_Fg rfl
  refine gVi (nY := 4) (F := 1) (L := 21) (As := [.int (Int32.ofInt 10)]) (b := 344) (rest := [.int (Int32.ofInt (at_ + F 358 a.toNat)), .ref 360]) hm_179 rfl hm_56 rfl rfl (fl_ob sc_344) rfl rfl rfl rfl rfl (by omega) (by omega) (mc_56 hG F21_ X g23_ (K) (10) ([61]) hgK rk25_ hkt (⟨by omega, by omega⟩) (⟨by omega, by omega⟩) (by decide) (kw_10 rk25_)) (fun _ _ h => False.elim h) ?_
  have e29_ : F21_ 344 9 = Fg 344 9 := by rw [q22_]; exact fl_u_ne (by first | exact nc_ rfl | decide | omega)
  have b30_ : 0 ≤ Fg 344 9 ∧ Fg 344 9 ≤ 5 := gi_g hg_Fg rfl
  rintro z28_ A1_ (⟨hA_, hz_, c31_⟩ | ⟨hA_, hz_, c32_, c33_⟩)
  ·
    subst hA_
    subst hz_
    try simp only [e26_, e29_] at c31_
    refine fl_zast (z := at_ + F 358 a.toNat) (v := 0) hm_179 rfl sc_360 (by omega) (by omega) (by omega) (ga_vb (by omega)) ?_
    refine ga_aload_n (v := .ref 344) hm_179 rfl rfl rfl ?_
    refine ga_getr (b := 360) hm_179 rfl sc_344 rfl ?_
    refine ga_iload_n (z := at_ + F 358 a.toNat) hm_179 rfl rfl ?_
    refine ga_zald (z := at_ + F 358 a.toNat) (w := 0) hm_179 rfl sc_360 (by omega) (by omega) (by omega) (fl_u_eq) ?_
    refine fl_if_eq hm_179 rfl ⟨by omega, by omega⟩ (fun _ => ?_) (fun h => absurd (by omega) h)
    refine ga_aload_n (v := .ref 344) hm_179 rfl rfl rfl ?_
    refine ga_iload_n (z := a) hm_179 rfl rfl ?_
    refine ga_iload_n (z := at_ + F 358 a.toNat) hm_179 rfl rfl ?_
    obtain ⟨F34_, q35_⟩ : ∃ Fq_, Fq_ = (fl_u F21_ 360 (at_ + F 358 a.toNat).toNat 0) := ⟨_, rfl⟩
    rw [← q35_]
    have g36_ : gi F34_ := by rw [q35_]; exact gi_u (g23_) rfl (by omega) (by omega)
    have g37_ : fs [(344, 344, 5, 5), (344, 344, 9, 10), (358, 358, 0, 100000), (360, 363, 0, 100000)] F F34_ := by rw [q35_]; exact fs_u (g24_) (fs_z (fs_z (fs_z (fs_y (by omega)))))
    have rk38_ : rk K F34_ := by rw [q35_]; exact rk_u (rk25_) (by first | decide | exact nc_ rfl | omega) (by first | decide | exact nc_ rfl | omega)
    have e39_ : F34_ 344 5 = Fg 344 5 := by rw [q35_]; exact (fl_u_ne (by first | exact nc_ rfl | decide | omega)).trans (e26_)
    refine gVv (nY := 7) (F := 4) (L := 91) (As := [.int (Int32.ofInt a), .int (Int32.ofInt (at_ + F 358 a.toNat))]) (b := 344) (rest := []) hm_179 rfl hm_174 rfl rfl (fl_ob sc_344) rfl rfl rfl rfl rfl (by omega) (by omega) (mc_174 hG F34_ X g36_ (K) (a) (at_ + F 358 a.toNat) (k) (l) (tl) (pl) (ps) hgK rk38_ hkt (⟨by omega, by omega⟩) ((by rw [q35_]; exact (trm_u (by rw [q22_]; exact (trm_u (trm_fs ht hf_Fg (by first | exact fs_rg rfl | exact fun r j hj => (fs_n (by omega) (fs_n (by omega) (fs_n (by omega) (fs_n (by omega) rfl)))))) (by first | decide | exact nc_ rfl | omega))) (by first | decide | exact nc_ rfl | omega)))) (hlt) (⟨by omega, by omega⟩) ((by rw [q35_]; exact (rpn_u (by rw [q22_]; exact (rpn_u (rpn_fs hpl hf_Fg (fun _ => (by first | exact fs_c rfl | exact (fs_n (by omega) (fs_n (by omega) (fs_n (by omega) (fs_n (by omega) rfl)))))) (by first | exact fs_c rfl | exact (fs_n (by omega) (fs_n (by omega) (fs_n (by omega) (fs_n (by omega) rfl)))))) (by first | decide | exact nc_ rfl | omega) (by first | decide | exact nc_ rfl | omega))) (by first | decide | exact nc_ rfl | omega) (by first | decide | exact nc_ rfl | omega)))) (⟨(by rw [q35_]; exact (rprd_u (by rw [q22_]; exact (rprd_u (rprd_fs hps.1 hf_Fg (by first | exact fs_rg rfl | exact fun r j hj => (fs_n (by omega) (fs_n (by omega) (fs_n (by omega) (fs_n (by omega) rfl)))))) (by first | decide | exact nc_ rfl | omega))) (by first | decide | exact nc_ rfl | omega))), hps.2⟩) (⟨by omega, by omega⟩) (rla_add hla (by omega))) (fun _ _ h => False.elim h) ?_
    have e41_ : F21_ 344 10 = Fg 344 10 := by rw [q22_]; exact fl_u_ne (by first | exact nc_ rfl | decide | omega)
    have e42_ : F34_ 344 10 = Fg 344 10 := by rw [q35_]; exact (fl_u_ne (by first | exact nc_ rfl | decide | omega)).trans (e41_)
    have b43_ : 0 ≤ Fg 344 10 ∧ Fg 344 10 ≤ 600 := gi_g hg_Fg rfl
    have e44_ : F34_ 344 9 = Fg 344 9 := by rw [q35_]; exact (fl_u_ne (by first | exact nc_ rfl | decide | omega)).trans (e29_)
    rintro A1_ (⟨F48_, hA_, g49_, s50_, c45_, c46_, c47_⟩ | ⟨F56_, hA_, g57_, s58_, c51_, c52_, c53_, c54_, c55_⟩)
    ·
      subst hA_
      have g59_ : fs [(344, 344, 5, 5), (344, 344, 9, 10), (358, 358, 0, 100000), (360, 363, 0, 100000)] F F48_ := fs_tr g37_ s50_ rfl
      have rk60_ : rk K F48_ := rk_fs rk38_ s50_ (fs_rg rfl) rfl
      try simp only [e39_, e42_, e44_] at c46_
      have c46_s := c46_.1 (by omega)
      clear c46_
      have b61_ : 0 ≤ F48_ 344 9 ∧ F48_ 344 9 ≤ 5 := gi_g g49_ rfl
      have b62_ : 0 ≤ F48_ 344 10 ∧ F48_ 344 10 ≤ 600 := gi_g g49_ rfl
      have b63_ : 0 ≤ F48_ 344 5 ∧ F48_ 344 5 ≤ 600 := gi_g g49_ rfl
      have e64_ : F21_ 358 a.toNat = Fg 358 a.toNat := by rw [q22_]; exact fl_u_ne (by first | exact nc_ rfl | decide | omega)
      have e65_ : F34_ 358 a.toNat = Fg 358 a.toNat := by rw [q35_]; exact (fl_u_ne (by first | exact nc_ rfl | decide | omega)).trans (e64_)
      have e66_ : F48_ 358 a.toNat = Fg 358 a.toNat := (s50_ 358 a.toNat (by first | exact fs_c rfl | exact (fs_n (by omega) (fs_n (by omega) (fs_n (by omega) rfl))))).trans (e65_)
      exact fl_R_sub (lv' := [(4, .int (Int32.ofInt nt)), (0, .ref 344), (1, .int (Int32.ofInt a)), (2, .int (Int32.ofInt at_))]) rfl rfl (mb_179_143 hG F X hgi K a at_ k l tl pl ps hgK hrk hkt hp ht hlt ha hpl hps hat hla hcd fr lo hfr hlo F48_ (nt) g49_ g59_ rk60_ (by omega) (⟨by omega, by omega⟩) (⟨by intro h0_; have hs_ := c46_s; rw [hq_, sp_l2_f (by rw [sp_lx, if_neg (fun h8_ => c31_ ⟨by omega, h8_⟩)]; rw [hs_])]; try (congr 2 <;> omega), fun h0_ => by exfalso; omega⟩) (by omega) (by omega))
    subst hA_
    have g67_ : fs [(344, 344, 5, 5), (344, 344, 9, 10), (358, 358, 0, 100000), (360, 363, 0, 100000)] F F56_ := fs_tr g37_ s58_ rfl
    have rk68_ : rk K F56_ := rk_fs rk38_ s58_ (fs_rg rfl) rfl
    try simp only [e44_] at c51_
    try simp only [e39_] at c52_
    try simp only [e39_] at c55_
    refine ga_iload (z := nt) hm_179 rfl rfl ?_
    refine fl_if_eq (a := nt) hm_179 rfl ⟨by omega, by omega⟩ (fun h69_ => ?_) (fun h70_ => ?_)
    ·
      refine ga_aload_n (v := .ref 344) hm_179 rfl rfl rfl ?_
      refine ga_getr (b := 358) hm_179 rfl sc_344 rfl ?_
      refine ga_iload_n (z := a) hm_179 rfl rfl ?_
      refine ga_dup2 hm_179 rfl ⟨rfl, rfl⟩ ?_
      have e71_ : F21_ 358 a.toNat = Fg 358 a.toNat := by rw [q22_]; exact fl_u_ne (by first | exact nc_ rfl | decide | omega)
      have e72_ : F34_ 358 a.toNat = Fg 358 a.toNat := by rw [q35_]; exact (fl_u_ne (by first | exact nc_ rfl | decide | omega)).trans (e71_)
      have e73_ : F56_ 358 a.toNat = Fg 358 a.toNat := (s58_ 358 a.toNat (by first | exact fs_c rfl | exact (fs_n (by omega) (fs_n (by omega) (fs_n (by omega) rfl))))).trans (e72_)
      have b74_ : 0 ≤ Fg 358 a.toNat ∧ Fg 358 a.toNat ≤ 4 := gi_g hg_Fg rfl
      refine ga_iald (z := a) (w := Fg 358 a.toNat) hm_179 rfl sc_358 (by omega) (by omega) (by omega) (e73_) ?_
      refine fl_iconst hm_179 rfl ?_
      refine ga_iadd (a := Fg 358 a.toNat) (b := 1) (c := Fg 358 a.toNat + 1) hm_179 rfl (by omega) ?_
      refine fl_iast (z := a) (v := Fg 358 a.toNat + 1) hm_179 rfl sc_358 (by omega) (by omega) (by omega) ?_
      obtain ⟨F75_, q76_⟩ : ∃ Fq_, Fq_ = (fl_u F56_ 358 a.toNat (Fg 358 a.toNat + 1)) := ⟨_, rfl⟩
      rw [← q76_]
      have g77_ : gi F75_ := by rw [q76_]; exact gi_u (g57_) rfl (by omega) (by omega)
      have g78_ : fs [(344, 344, 5, 5), (344, 344, 9, 10), (358, 358, 0, 100000), (360, 363, 0, 100000)] F F75_ := by rw [q76_]; exact fs_u (g67_) (fs_z (fs_z (fs_y (by omega))))
      have rk79_ : rk K F75_ := by rw [q76_]; exact rk_u (rk68_) (by first | decide | exact nc_ rfl | omega) (by first | decide | exact nc_ rfl | omega)
      refine gr_v hm_179 rfl rfl ?_
      have e80_ : F75_ 344 9 = F56_ 344 9 := by rw [q76_]; exact fl_u_ne (by first | exact nc_ rfl | decide | omega)
      have b81_ : 0 ≤ F56_ 344 9 ∧ F56_ 344 9 ≤ 5 := gi_g g57_ rfl
      have b82_ : 0 ≤ F 344 9 ∧ F 344 9 ≤ 5 := gi_g hgi rfl
      have e83_ : F75_ 344 10 = F56_ 344 10 := by rw [q76_]; exact fl_u_ne (by first | exact nc_ rfl | decide | omega)
      have e84_ : F75_ 344 5 = F56_ 344 5 := by rw [q76_]; exact fl_u_ne (by first | exact nc_ rfl | decide | omega)
      have b85_ : 0 ≤ F56_ 344 5 ∧ F56_ 344 5 ≤ 600 := gi_g g57_ rfl
      have b86_ : 0 ≤ F 344 5 ∧ F 344 5 ≤ 600 := gi_g hgi rfl
      have e87_ : F75_ 358 a.toNat = Fg 358 a.toNat + 1 := by rw [q76_]; exact fl_u_eq
      have e88_ : F21_ 361 (at_ + F 358 a.toNat).toNat = nt := by rw [q22_]; exact fl_u_eq
      have e89_ : F34_ 361 (at_ + F 358 a.toNat).toNat = nt := by rw [q35_]; exact (fl_u_ne (by first | exact nc_ rfl | decide | omega)).trans (e88_)
      have e90_ : F56_ 361 (at_ + F 358 a.toNat).toNat = nt := (s58_ 361 (at_ + F 358 a.toNat).toNat (by first | exact fs_c rfl | exact (fs_n (by omega) (fs_n (by omega) (fs_n (by omega) rfl))))).trans (e89_)
      have e91_ : F75_ 361 (at_ + F 358 a.toNat).toNat = nt := by rw [q76_]; exact (fl_u_ne (by first | exact nc_ rfl | decide | omega)).trans (e90_)
      have e92_ : F34_ 360 (at_ + F 358 a.toNat).toNat = 0 := by rw [q35_]; exact fl_u_eq
      have e93_ : F56_ 360 (at_ + F 358 a.toNat).toNat = 0 := (s58_ 360 (at_ + F 358 a.toNat).toNat (by first | exact fs_c rfl | exact (fs_n (by omega) (fs_n (by omega) (fs_n (by omega) rfl))))).trans (e92_)
      have e94_ : F75_ 360 (at_ + F 358 a.toNat).toNat = 0 := by rw [q76_]; exact (fl_u_ne (by first | exact nc_ rfl | decide | omega)).trans (e93_)
      exact Or.inr (⟨F75_, rfl, g77_, g78_, (by omega), (by rw [hq_, sp_l2, if_neg (by omega)]; rw [sp_lx, if_neg (fun h8_ => c31_ ⟨by omega, h8_⟩)]; rw [c52_]; try (congr 1; omega)), (⟨by omega, by omega⟩), (by omega), ((by rw [q76_]; exact (lfr_ua (lfr_tr (by rw [q35_]; exact (lfr_ul (by rw [q22_]; exact (lfr_ul hlg rfl (Nat.le_refl _) (Nat.lt_succ_self _))) rfl (Nat.le_refl _) (Nat.lt_succ_self _))) c54_ (Nat.le_refl _) (Nat.le_refl _)) rfl rfl))), (⟨at_d K l pl ps nt (Fg 344 5), by rw [hm_, mb_a (Or.inr (Bool.eq_false_iff.mpr (fun h8_ => c31_ ⟨by omega, h8_⟩)))], e91_, Or.inr ⟨at_ge c52_, e94_, rat_cg c55_ (show F75_ 362 (at_ + F 358 a.toNat).toNat = F56_ 362 (at_ + F 358 a.toNat).toNat from (by rw [q76_]; exact (fl_u_ne (by first | exact nc_ rfl | decide | omega)))) (show F75_ 363 (2 * (at_ + F 358 a.toNat).toNat) = F56_ 363 (2 * (at_ + F 358 a.toNat).toNat) from (by rw [q76_]; exact (fl_u_ne (by first | exact nc_ rfl | decide | omega)))) (show F75_ 363 (2 * (at_ + F 358 a.toNat).toNat + 1) = F56_ 363 (2 * (at_ + F 358 a.toNat).toNat + 1) from (by rw [q76_]; exact (fl_u_ne (by first | exact nc_ rfl | decide | omega))))⟩⟩)⟩)
    refine ga_aload_n (v := .ref 344) hm_179 rfl rfl rfl ?_
    refine fl_bipush hm_179 rfl rfl ?_
    have b95_ : 0 ≤ F56_ 344 5 ∧ F56_ 344 5 ≤ 600 := gi_g g57_ rfl
    refine gVv (nY := 2) (F := 2) (L := 41) (As := [.int (Int32.ofInt 41)]) (b := 344) (rest := []) hm_179 rfl hm_51 rfl rfl (fl_ob sc_344) rfl rfl rfl rfl rfl (by omega) (by omega) (mc_51 hG F56_ X g57_ (K) (41) (1) hgK rk68_ hkt (⟨by omega, by omega⟩) (by omega) (by omega)) (fun _ _ h => False.elim h) ?_
    have b97_ : 0 ≤ F56_ 344 10 ∧ F56_ 344 10 ≤ 600 := gi_g g57_ rfl
    have b98_ : 0 ≤ F56_ 344 9 ∧ F56_ 344 9 ≤ 5 := gi_g g57_ rfl
    rintro A1_ (⟨F102_, hA_, g103_, s104_, c99_, c100_, c101_⟩ | ⟨F108_, hA_, g109_, s110_, c105_, c106_, c107_⟩)
    ·
      subst hA_
      have g111_ : fs [(344, 344, 5, 5), (344, 344, 9, 10), (358, 358, 0, 100000), (360, 363, 0, 100000)] F F102_ := fs_tr g67_ s104_ rfl
      have rk112_ : rk K F102_ := rk_fs rk68_ s104_ (fs_rg rfl) rfl
      have c100_s := c100_.1 (by omega)
      clear c100_
      have b113_ : 0 ≤ F102_ 344 9 ∧ F102_ 344 9 ≤ 5 := gi_g g103_ rfl
      have b114_ : 0 ≤ F102_ 344 10 ∧ F102_ 344 10 ≤ 600 := gi_g g103_ rfl
      have b115_ : 0 ≤ F102_ 344 5 ∧ F102_ 344 5 ≤ 600 := gi_g g103_ rfl
      have e116_ : F21_ 358 a.toNat = Fg 358 a.toNat := by rw [q22_]; exact fl_u_ne (by first | exact nc_ rfl | decide | omega)
      have e117_ : F34_ 358 a.toNat = Fg 358 a.toNat := by rw [q35_]; exact (fl_u_ne (by first | exact nc_ rfl | decide | omega)).trans (e116_)
      have e118_ : F56_ 358 a.toNat = Fg 358 a.toNat := (s58_ 358 a.toNat (by first | exact fs_c rfl | exact (fs_n (by omega) (fs_n (by omega) (fs_n (by omega) rfl))))).trans (e117_)
      have e119_ : F102_ 358 a.toNat = Fg 358 a.toNat := (s104_ 358 a.toNat (by first | exact fs_c rfl | exact (fs_n (by omega) (fs_n (by omega) rfl)))).trans (e118_)
      exact fl_R_sub (lv' := [(0, .ref 344), (1, .int (Int32.ofInt a)), (2, .int (Int32.ofInt at_))]) rfl rfl (mb_179_154 hG F X hgi K a at_ k l tl pl ps hgK hrk hkt hp ht hlt ha hpl hps hat hla hcd fr lo hfr hlo F102_ g103_ g111_ rk112_ (by omega) (⟨by omega, by omega⟩) (⟨by intro h0_; have hs_ := c100_s; rw [hq_, sp_l2, if_pos (by omega)]; rw [sp_lx, if_neg (fun h8_ => c31_ ⟨by omega, h8_⟩)]; rw [c52_]; rw [pb_r]; rw [hs_]; try (show Sum.inl _ = _); try (congr 2 <;> omega), fun h0_ => by exfalso; omega⟩) (by omega))
    subst hA_
    have g120_ : fs [(344, 344, 5, 5), (344, 344, 9, 10), (358, 358, 0, 100000), (360, 363, 0, 100000)] F F108_ := fs_tr g67_ s110_ rfl
    have rk121_ : rk K F108_ := rk_fs rk68_ s110_ (fs_rg rfl) rfl
    refine ga_aload_n (v := .ref 344) hm_179 rfl rfl rfl ?_
    refine ga_getr (b := 358) hm_179 rfl sc_344 rfl ?_
    refine ga_iload_n (z := a) hm_179 rfl rfl ?_
    refine ga_dup2 hm_179 rfl ⟨rfl, rfl⟩ ?_
    have e122_ : F21_ 358 a.toNat = Fg 358 a.toNat := by rw [q22_]; exact fl_u_ne (by first | exact nc_ rfl | decide | omega)
    have e123_ : F34_ 358 a.toNat = Fg 358 a.toNat := by rw [q35_]; exact (fl_u_ne (by first | exact nc_ rfl | decide | omega)).trans (e122_)
    have e124_ : F56_ 358 a.toNat = Fg 358 a.toNat := (s58_ 358 a.toNat (by first | exact fs_c rfl | exact (fs_n (by omega) (fs_n (by omega) (fs_n (by omega) rfl))))).trans (e123_)
    have e125_ : F108_ 358 a.toNat = Fg 358 a.toNat := (s110_ 358 a.toNat (by first | exact fs_c rfl | exact (fs_n (by omega) (fs_n (by omega) rfl)))).trans (e124_)
    have b126_ : 0 ≤ Fg 358 a.toNat ∧ Fg 358 a.toNat ≤ 4 := gi_g hg_Fg rfl
    refine ga_iald (z := a) (w := Fg 358 a.toNat) hm_179 rfl sc_358 (by omega) (by omega) (by omega) (e125_) ?_
    refine fl_iconst hm_179 rfl ?_
    refine ga_iadd (a := Fg 358 a.toNat) (b := 1) (c := Fg 358 a.toNat + 1) hm_179 rfl (by omega) ?_
    refine fl_iast (z := a) (v := Fg 358 a.toNat + 1) hm_179 rfl sc_358 (by omega) (by omega) (by omega) ?_
    obtain ⟨F127_, q128_⟩ : ∃ Fq_, Fq_ = (fl_u F108_ 358 a.toNat (Fg 358 a.toNat + 1)) := ⟨_, rfl⟩
    rw [← q128_]
    have g129_ : gi F127_ := by rw [q128_]; exact gi_u (g109_) rfl (by omega) (by omega)
    have g130_ : fs [(344, 344, 5, 5), (344, 344, 9, 10), (358, 358, 0, 100000), (360, 363, 0, 100000)] F F127_ := by rw [q128_]; exact fs_u (g120_) (fs_z (fs_z (fs_y (by omega))))
    have rk131_ : rk K F127_ := by rw [q128_]; exact rk_u (rk121_) (by first | decide | exact nc_ rfl | omega) (by first | decide | exact nc_ rfl | omega)
    refine gr_v hm_179 rfl rfl ?_
    have e132_ : F127_ 344 9 = F108_ 344 9 := by rw [q128_]; exact fl_u_ne (by first | exact nc_ rfl | decide | omega)
    have b133_ : 0 ≤ F108_ 344 9 ∧ F108_ 344 9 ≤ 5 := gi_g g109_ rfl
    have b134_ : 0 ≤ F 344 9 ∧ F 344 9 ≤ 5 := gi_g hgi rfl
    have e135_ : F127_ 344 10 = F108_ 344 10 := by rw [q128_]; exact fl_u_ne (by first | exact nc_ rfl | decide | omega)
    have e136_ : F127_ 344 5 = F108_ 344 5 := by rw [q128_]; exact fl_u_ne (by first | exact nc_ rfl | decide | omega)
    have b137_ : 0 ≤ F108_ 344 5 ∧ F108_ 344 5 ≤ 600 := gi_g g109_ rfl
    have b138_ : 0 ≤ F 344 5 ∧ F 344 5 ≤ 600 := gi_g hgi rfl
    have e139_ : F127_ 358 a.toNat = Fg 358 a.toNat + 1 := by rw [q128_]; exact fl_u_eq
    have e140_ : F21_ 361 (at_ + F 358 a.toNat).toNat = nt := by rw [q22_]; exact fl_u_eq
    have e141_ : F34_ 361 (at_ + F 358 a.toNat).toNat = nt := by rw [q35_]; exact (fl_u_ne (by first | exact nc_ rfl | decide | omega)).trans (e140_)
    have e142_ : F56_ 361 (at_ + F 358 a.toNat).toNat = nt := (s58_ 361 (at_ + F 358 a.toNat).toNat (by first | exact fs_c rfl | exact (fs_n (by omega) (fs_n (by omega) (fs_n (by omega) rfl))))).trans (e141_)
    have e143_ : F108_ 361 (at_ + F 358 a.toNat).toNat = nt := (s110_ 361 (at_ + F 358 a.toNat).toNat (by first | exact fs_c rfl | exact (fs_n (by omega) (fs_n (by omega) rfl)))).trans (e142_)
    have e144_ : F127_ 361 (at_ + F 358 a.toNat).toNat = nt := by rw [q128_]; exact (fl_u_ne (by first | exact nc_ rfl | decide | omega)).trans (e143_)
    have e145_ : F34_ 360 (at_ + F 358 a.toNat).toNat = 0 := by rw [q35_]; exact fl_u_eq
    have e146_ : F56_ 360 (at_ + F 358 a.toNat).toNat = 0 := (s58_ 360 (at_ + F 358 a.toNat).toNat (by first | exact fs_c rfl | exact (fs_n (by omega) (fs_n (by omega) (fs_n (by omega) rfl))))).trans (e145_)
    have e147_ : F108_ 360 (at_ + F 358 a.toNat).toNat = 0 := (s110_ 360 (at_ + F 358 a.toNat).toNat (by first | exact fs_c rfl | exact (fs_n (by omega) (fs_n (by omega) rfl)))).trans (e146_)
    have e148_ : F127_ 360 (at_ + F 358 a.toNat).toNat = 0 := by rw [q128_]; exact (fl_u_ne (by first | exact nc_ rfl | decide | omega)).trans (e147_)
    exact Or.inr (⟨F127_, rfl, g129_, g130_, (by omega), (by rw [hq_, sp_l2, if_pos (by omega)]; rw [sp_lx, if_neg (fun h8_ => c31_ ⟨by omega, h8_⟩)]; rw [c52_]; rw [pb_r]; rw [c106_]; try (congr 1; omega)), (⟨by omega, by omega⟩), (by omega), ((by rw [q128_]; exact (lfr_ua (lfr_fg (lfr_tr (by rw [q35_]; exact (lfr_ul (by rw [q22_]; exact (lfr_ul hlg rfl (Nat.le_refl _) (Nat.lt_succ_self _))) rfl (Nat.le_refl _) (Nat.lt_succ_self _))) c54_ (Nat.le_refl _) (Nat.le_refl _)) s110_ rfl) rfl rfl))), (⟨at_d K l pl ps nt (Fg 344 5), by rw [hm_, mb_a (Or.inr (Bool.eq_false_iff.mpr (fun h8_ => c31_ ⟨by omega, h8_⟩)))], e144_, Or.inr ⟨at_ge c52_, e148_, rat_cg c55_ (Eq.trans (a := F127_ 362 (at_ + F 358 a.toNat).toNat) (b := F108_ 362 (at_ + F 358 a.toNat).toNat) (by rw [q128_]; exact (fl_u_ne (by first | exact nc_ rfl | decide | omega))) (show F108_ 362 (at_ + F 358 a.toNat).toNat = F56_ 362 (at_ + F 358 a.toNat).toNat from (s110_ 362 (at_ + F 358 a.toNat).toNat (by first | exact fs_c rfl | exact (fs_n (by omega) (fs_n (by omega) rfl)))))) (Eq.trans (a := F127_ 363 (2 * (at_ + F 358 a.toNat).toNat)) (b := F108_ 363 (2 * (at_ + F 358 a.toNat).toNat)) (by rw [q128_]; exact (fl_u_ne (by first | exact nc_ rfl | decide | omega))) (show F108_ 363 (2 * (at_ + F 358 a.toNat).toNat) = F56_ 363 (2 * (at_ + F 358 a.toNat).toNat) from (s110_ 363 (2 * (at_ + F 358 a.toNat).toNat) (by first | exact fs_c rfl | exact (fs_n (by omega) (fs_n (by omega) rfl)))))) (Eq.trans (a := F127_ 363 (2 * (at_ + F 358 a.toNat).toNat + 1)) (b := F108_ 363 (2 * (at_ + F 358 a.toNat).toNat + 1)) (by rw [q128_]; exact (fl_u_ne (by first | exact nc_ rfl | decide | omega))) (show F108_ 363 (2 * (at_ + F 358 a.toNat).toNat + 1) = F56_ 363 (2 * (at_ + F 358 a.toNat).toNat + 1) from (s110_ 363 (2 * (at_ + F 358 a.toNat).toNat + 1) (by first | exact fs_c rfl | exact (fs_n (by omega) (fs_n (by omega) rfl))))))⟩⟩)⟩)
  subst hA_
  subst hz_
  try simp only [e26_, e29_] at c32_
  try simp only [e26_] at c33_
  refine fl_zast (z := at_ + F 358 a.toNat) (v := 1) hm_179 rfl sc_360 (by omega) (by omega) (by omega) (ga_vb (by omega)) ?_
  refine ga_aload_n (v := .ref 344) hm_179 rfl rfl rfl ?_
  refine ga_getr (b := 360) hm_179 rfl sc_344 rfl ?_
  refine ga_iload_n (z := at_ + F 358 a.toNat) hm_179 rfl rfl ?_
  refine ga_zald (z := at_ + F 358 a.toNat) (w := 1) hm_179 rfl sc_360 (by omega) (by omega) (by omega) (fl_u_eq) ?_
  refine fl_if_eq hm_179 rfl ⟨by omega, by omega⟩ (fun h => absurd h (by omega)) (fun _ => ?_)
  have hszE := (kw_iff (w := [61]) hkt hgK (p := Fg 344 5) (by omega) (by omega) (by decide) (by decide)).mp c32_.2
  refine ga_aload_n (v := .ref 344) hm_179 rfl rfl rfl ?_
  refine ga_dup hm_179 rfl rfl ?_
  refine ga_geti (z := Fg 344 5) hm_179 rfl sc_344 rfl ((fl_u_ne (by first | exact nc_ rfl | decide | omega)).trans (e26_)) ?_
  refine fl_iconst hm_179 rfl ?_
  refine ga_iadd (a := Fg 344 5) (b := 1) (c := Fg 344 5 + 1) hm_179 rfl (by omega) ?_
  refine ga_puti (z := Fg 344 5 + 1) hm_179 rfl sc_344 rfl rfl ?_
  refine fl_iconst hm_179 rfl ?_
  refine ga_istore (lv2 := [(5, .int (Int32.ofInt 0)), (4, .int (Int32.ofInt nt)), (3, .int (Int32.ofInt (at_ + F 358 a.toNat))), (0, .ref 344), (1, .int (Int32.ofInt a)), (2, .int (Int32.ofInt at_))]) hm_179 rfl (Nat.le_of_ble_eq_true rfl) rfl ?_
  refine ga_iload (z := 0) hm_179 rfl rfl ?_
  refine fl_iconst hm_179 rfl ?_
  refine fl_icmp_ge hm_179 rfl ⟨by omega, by omega⟩ ⟨by omega, by omega⟩ (fun h => absurd h (by omega)) (fun _ => ?_)
  refine ga_aload_n (v := .ref 344) hm_179 rfl rfl rfl ?_
  refine ga_getr (b := 363) hm_179 rfl sc_344 rfl ?_
  refine fl_iconst hm_179 rfl ?_
  refine ga_iload_n (z := at_ + F 358 a.toNat) hm_179 rfl rfl ?_
  refine ga_imul (a := 2) (b := at_ + F 358 a.toNat) (c := 2 * at_ + 2 * (F 358 a.toNat)) hm_179 rfl (by omega) ?_
  refine ga_iload (z := 0) hm_179 rfl rfl ?_
  refine ga_iadd (a := 2 * at_ + 2 * (F 358 a.toNat)) (b := 0) (c := 2 * at_ + 2 * (F 358 a.toNat)) hm_179 rfl (by omega) ?_
  refine ga_aload_n (v := .ref 344) hm_179 rfl rfl rfl ?_
  refine ga_iload_n (z := a) hm_179 rfl rfl ?_
  refine fl_iconst hm_179 rfl ?_
  obtain ⟨F149_, q150_⟩ : ∃ Fq_, Fq_ = (fl_u (fl_u F21_ 360 (at_ + F 358 a.toNat).toNat 1) 344 5 (Fg 344 5 + 1)) := ⟨_, rfl⟩
  rw [← q150_]
  have g151_ : gi F149_ := by rw [q150_]; exact gi_u (gi_u (g23_) rfl (by omega) (by omega)) rfl (by omega) (by omega)
  have g152_ : fs [(344, 344, 5, 5), (344, 344, 9, 10), (358, 358, 0, 100000), (360, 363, 0, 100000)] F F149_ := by rw [q150_]; exact fs_u (fs_u (g24_) (fs_z (fs_z (fs_z (fs_y (by omega)))))) rfl
  have rk153_ : rk K F149_ := by rw [q150_]; exact rk_u (rk_u (rk25_) (by first | decide | exact nc_ rfl | omega) (by first | decide | exact nc_ rfl | omega)) (by first | decide | exact nc_ rfl | omega) (by first | decide | exact nc_ rfl | omega)
  have e154_ : F149_ 344 5 = Fg 344 5 + 1 := by rw [q150_]; exact fl_u_eq
  refine gVi (nY := 6) (F := 3) (L := 66) (As := [.int (Int32.ofInt a), .int (Int32.ofInt (-1))]) (b := 344) (rest := [.int (Int32.ofInt (2 * at_ + 2 * (F 358 a.toNat))), .ref 363]) hm_179 rfl hm_185 rfl rfl (fl_ob sc_344) rfl rfl rfl rfl rfl (by omega) (by omega) (mc_185 hG F149_ X g151_ (K) (a) (-1) (k) (-1) (l) (tl) hgK rk153_ hkt (⟨by omega, by omega⟩) ((by rw [q150_]; exact (trm_u (trm_u (by rw [q22_]; exact (trm_u (trm_fs ht hf_Fg (by first | exact fs_rg rfl | exact fun r j hj => (fs_n (by omega) (fs_n (by omega) (fs_n (by omega) (fs_n (by omega) rfl)))))) (by first | decide | exact nc_ rfl | omega))) (by first | decide | exact nc_ rfl | omega)) (by first | decide | exact nc_ rfl | omega)))) (hlt) (Or.inl ⟨by omega, by omega, rfl⟩) (⟨by omega, by omega⟩)) (fun _ _ h => False.elim h) ?_
  have e156_ : F21_ 344 10 = Fg 344 10 := by rw [q22_]; exact fl_u_ne (by first | exact nc_ rfl | decide | omega)
  have e157_ : F149_ 344 10 = Fg 344 10 := by rw [q150_]; exact (fl_u_ne (by first | exact nc_ rfl | decide | omega)).trans ((fl_u_ne (by first | exact nc_ rfl | decide | omega)).trans (e156_))
  have b158_ : 0 ≤ Fg 344 10 ∧ Fg 344 10 ≤ 600 := gi_g hg_Fg rfl
  have e159_ : F149_ 344 9 = Fg 344 9 := by rw [q150_]; exact (fl_u_ne (by first | exact nc_ rfl | decide | omega)).trans ((fl_u_ne (by first | exact nc_ rfl | decide | omega)).trans (e29_))
  rintro z155_ A1_ (⟨F165_, hA_, g166_, s167_, c160_, c161_, c162_, c163_, c164_⟩ | ⟨F175_, hA_, g176_, s177_, c168_, c169_, c170_, c171_, c172_, c173_, c174_⟩)
  ·
    subst hA_
    have g178_ : fs [(344, 344, 5, 5), (344, 344, 9, 10), (358, 358, 0, 100000), (360, 363, 0, 100000)] F F165_ := fs_tr g152_ s167_ rfl
    have rk179_ : rk K F165_ := rk_fs rk153_ s167_ (fs_rg rfl) rfl
    try simp only [e154_, e157_, e159_] at c161_
    have c161_s := c161_.1 (by omega)
    clear c161_
    refine fl_iast (z := 2 * at_ + 2 * (F 358 a.toNat)) (v := z155_) hm_179 rfl sc_363 (by omega) (by omega) (by omega) ?_
    refine ga_inc (a := 0) (c := 1) (lv2 := [(5, .int (Int32.ofInt 1)), (4, .int (Int32.ofInt nt)), (3, .int (Int32.ofInt (at_ + F 358 a.toNat))), (0, .ref 344), (1, .int (Int32.ofInt a)), (2, .int (Int32.ofInt at_))]) hm_179 rfl rfl (Nat.le_of_ble_eq_true rfl) (by omega) rfl ?_
    refine fl_goto hm_179 rfl ?_
    refine ga_iload (z := 1) hm_179 rfl rfl ?_
    refine fl_iconst hm_179 rfl ?_
    refine fl_icmp_ge hm_179 rfl ⟨by omega, by omega⟩ ⟨by omega, by omega⟩ (fun h => absurd h (by omega)) (fun _ => ?_)
    refine ga_aload_n (v := .ref 344) hm_179 rfl rfl rfl ?_
    refine ga_getr (b := 363) hm_179 rfl sc_344 rfl ?_
    refine fl_iconst hm_179 rfl ?_
    refine ga_iload_n (z := at_ + F 358 a.toNat) hm_179 rfl rfl ?_
    refine ga_imul (a := 2) (b := at_ + F 358 a.toNat) (c := 2 * at_ + 2 * (F 358 a.toNat)) hm_179 rfl (by omega) ?_
    refine ga_iload (z := 1) hm_179 rfl rfl ?_
    refine ga_iadd (a := 2 * at_ + 2 * (F 358 a.toNat)) (b := 1) (c := 2 * at_ + 2 * (F 358 a.toNat) + 1) hm_179 rfl (by omega) ?_
    refine ga_aload_n (v := .ref 344) hm_179 rfl rfl rfl ?_
    refine ga_iload_n (z := a) hm_179 rfl rfl ?_
    refine fl_iconst hm_179 rfl ?_
    obtain ⟨F180_, q181_⟩ : ∃ Fq_, Fq_ = (fl_u F165_ 363 (2 * at_ + 2 * (F 358 a.toNat)).toNat z155_) := ⟨_, rfl⟩
    rw [← q181_]
    have g182_ : gi F180_ := by rw [q181_]; exact gi_u363 (g166_) (by omega) (by omega) (rz_k (ll := at_ + F 358 a.toNat) (rla_add hla (by omega)) c164_ (by omega) (by omega)) (by omega)
    have g183_ : fs [(344, 344, 5, 5), (344, 344, 9, 10), (358, 358, 0, 100000), (360, 363, 0, 100000)] F F180_ := by rw [q181_]; exact fs_u (g178_) (fs_z (fs_z (fs_z (fs_y (by omega)))))
    have rk184_ : rk K F180_ := by rw [q181_]; exact rk_u (rk179_) (by first | decide | exact nc_ rfl | omega) (by first | decide | exact nc_ rfl | omega)
    have e185_ : F180_ 344 5 = F165_ 344 5 := by rw [q181_]; exact fl_u_ne (by first | exact nc_ rfl | decide | omega)
    have b186_ : 0 ≤ F165_ 344 5 ∧ F165_ 344 5 ≤ 600 := gi_g g166_ rfl
    refine gVi (nY := 6) (F := 3) (L := 66) (As := [.int (Int32.ofInt a), .int (Int32.ofInt (-1))]) (b := 344) (rest := [.int (Int32.ofInt (2 * at_ + 2 * (F 358 a.toNat) + 1)), .ref 363]) hm_179 rfl hm_185 rfl rfl (fl_ob sc_344) rfl rfl rfl rfl rfl (by omega) (by omega) (mc_185 hG F180_ X g182_ (K) (a) (-1) (k) (-1) (l) (tl) hgK rk184_ hkt (⟨by omega, by omega⟩) ((by rw [q181_]; exact (trm_u (trm_fs (by rw [q150_]; exact (trm_u (trm_u (by rw [q22_]; exact (trm_u (trm_fs ht hf_Fg (by first | exact fs_rg rfl | exact fun r j hj => (fs_n (by omega) (fs_n (by omega) (fs_n (by omega) (fs_n (by omega) rfl)))))) (by first | decide | exact nc_ rfl | omega))) (by first | decide | exact nc_ rfl | omega)) (by first | decide | exact nc_ rfl | omega))) s167_ (by first | exact fs_rg rfl | exact fun r j hj => (fs_n (by omega) (fs_n (by omega) rfl)))) (by first | decide | exact nc_ rfl | omega)))) (hlt) (Or.inl ⟨by omega, by omega, rfl⟩) (⟨by omega, by omega⟩)) (fun _ _ h => False.elim h) ?_
    have e188_ : F180_ 344 10 = F165_ 344 10 := by rw [q181_]; exact fl_u_ne (by first | exact nc_ rfl | decide | omega)
    have b189_ : 0 ≤ F165_ 344 10 ∧ F165_ 344 10 ≤ 600 := gi_g g166_ rfl
    have e190_ : F180_ 344 9 = F165_ 344 9 := by rw [q181_]; exact fl_u_ne (by first | exact nc_ rfl | decide | omega)
    have b191_ : 0 ≤ F165_ 344 9 ∧ F165_ 344 9 ≤ 5 := gi_g g166_ rfl
    rintro z187_ A1_ (⟨F197_, hA_, g198_, s199_, c192_, c193_, c194_, c195_, c196_⟩ | ⟨F207_, hA_, g208_, s209_, c200_, c201_, c202_, c203_, c204_, c205_, c206_⟩)
    ·
      subst hA_
      have g210_ : fs [(344, 344, 5, 5), (344, 344, 9, 10), (358, 358, 0, 100000), (360, 363, 0, 100000)] F F197_ := fs_tr g183_ s199_ rfl
      have rk211_ : rk K F197_ := rk_fs rk184_ s199_ (fs_rg rfl) rfl
      try simp only [e185_, e188_, e190_] at c193_
      have c193_k := c193_.2 (by omega)
      clear c193_
      refine fl_iast (z := 2 * at_ + 2 * (F 358 a.toNat) + 1) (v := z187_) hm_179 rfl sc_363 (by omega) (by omega) (by omega) ?_
      refine ga_inc (a := 1) (c := 2) (lv2 := [(5, .int (Int32.ofInt 2)), (4, .int (Int32.ofInt nt)), (3, .int (Int32.ofInt (at_ + F 358 a.toNat))), (0, .ref 344), (1, .int (Int32.ofInt a)), (2, .int (Int32.ofInt at_))]) hm_179 rfl rfl (Nat.le_of_ble_eq_true rfl) (by omega) rfl ?_
      refine fl_goto hm_179 rfl ?_
      refine ga_iload (z := 2) hm_179 rfl rfl ?_
      refine fl_iconst hm_179 rfl ?_
      refine fl_icmp_ge hm_179 rfl ⟨by omega, by omega⟩ ⟨by omega, by omega⟩ (fun _ => ?_) (fun h => absurd (by omega) h)
      obtain ⟨F212_, q213_⟩ : ∃ Fq_, Fq_ = (fl_u F197_ 363 (2 * at_ + 2 * (F 358 a.toNat) + 1).toNat z187_) := ⟨_, rfl⟩
      rw [← q213_]
      have g214_ : gi F212_ := by rw [q213_]; exact gi_u363 (g198_) (by omega) (by omega) (rz_k (ll := at_ + F 358 a.toNat) (rla_add hla (by omega)) c196_ (by omega) (by omega)) (by omega)
      have g215_ : fs [(344, 344, 5, 5), (344, 344, 9, 10), (358, 358, 0, 100000), (360, 363, 0, 100000)] F F212_ := by rw [q213_]; exact fs_u (g210_) (fs_z (fs_z (fs_z (fs_y (by omega)))))
      have rk216_ : rk K F212_ := by rw [q213_]; exact rk_u (rk211_) (by first | decide | exact nc_ rfl | omega) (by first | decide | exact nc_ rfl | omega)
      have e217_ : F212_ 344 9 = F197_ 344 9 := by rw [q213_]; exact fl_u_ne (by first | exact nc_ rfl | decide | omega)
      have b218_ : 0 ≤ F197_ 344 9 ∧ F197_ 344 9 ≤ 5 := gi_g g198_ rfl
      have e219_ : F212_ 344 10 = F197_ 344 10 := by rw [q213_]; exact fl_u_ne (by first | exact nc_ rfl | decide | omega)
      have b220_ : 0 ≤ F197_ 344 10 ∧ F197_ 344 10 ≤ 600 := gi_g g198_ rfl
      have e221_ : F212_ 344 5 = F197_ 344 5 := by rw [q213_]; exact fl_u_ne (by first | exact nc_ rfl | decide | omega)
      have b222_ : 0 ≤ F197_ 344 5 ∧ F197_ 344 5 ≤ 600 := gi_g g198_ rfl
      have e223_ : F21_ 358 a.toNat = Fg 358 a.toNat := by rw [q22_]; exact fl_u_ne (by first | exact nc_ rfl | decide | omega)
      have e224_ : F149_ 358 a.toNat = Fg 358 a.toNat := by rw [q150_]; exact (fl_u_ne (by first | exact nc_ rfl | decide | omega)).trans ((fl_u_ne (by first | exact nc_ rfl | decide | omega)).trans (e223_))
      have e225_ : F165_ 358 a.toNat = Fg 358 a.toNat := (s167_ 358 a.toNat (by first | exact fs_c rfl | exact (fs_n (by omega) (fs_n (by omega) rfl)))).trans (e224_)
      have e226_ : F180_ 358 a.toNat = Fg 358 a.toNat := by rw [q181_]; exact (fl_u_ne (by first | exact nc_ rfl | decide | omega)).trans (e225_)
      have e227_ : F197_ 358 a.toNat = Fg 358 a.toNat := (s199_ 358 a.toNat (by first | exact fs_c rfl | exact (fs_n (by omega) (fs_n (by omega) rfl)))).trans (e226_)
      have e228_ : F212_ 358 a.toNat = Fg 358 a.toNat := by rw [q213_]; exact (fl_u_ne (by first | exact nc_ rfl | decide | omega)).trans (e227_)
      exact fl_R_sub (lv' := [(4, .int (Int32.ofInt nt)), (0, .ref 344), (1, .int (Int32.ofInt a)), (2, .int (Int32.ofInt at_))]) rfl rfl (mb_179_128 hG F X hgi K a at_ k l tl pl ps hgK hrk hkt hp ht hlt ha hpl hps hat hla hcd fr lo hfr hlo F212_ (nt) g214_ g215_ rk216_ (by omega) (⟨by omega, by omega⟩) (⟨by intro h0_; have hs_ := c161_s; rw [hq_, sp_l2_f (by rw [sp_lx, if_pos c32_.2, sp_eq, (show sk K (Fg 344 5) = Fg 344 5 + 1 by rw [sk, if_pos (by omega)])]; rw [hs_]; first | rfl | (show Sum.inl _ = _; congr 2 <;> omega))]; try (congr 2 <;> omega), fun h0_ => by exfalso; omega⟩) (by omega) (by omega))
    exfalso; omega
  subst hA_
  have g229_ : fs [(344, 344, 5, 5), (344, 344, 9, 10), (358, 358, 0, 100000), (360, 363, 0, 100000)] F F175_ := fs_tr g152_ s177_ rfl
  have rk230_ : rk K F175_ := rk_fs rk153_ s177_ (fs_rg rfl) rfl
  try simp only [e159_] at c168_
  try simp only [e154_] at c169_
  try simp only [e154_] at c173_
  try simp only [e154_] at c174_
  refine fl_iast (z := 2 * at_ + 2 * (F 358 a.toNat)) (v := z155_) hm_179 rfl sc_363 (by omega) (by omega) (by omega) ?_
  refine ga_inc (a := 0) (c := 1) (lv2 := [(5, .int (Int32.ofInt 1)), (4, .int (Int32.ofInt nt)), (3, .int (Int32.ofInt (at_ + F 358 a.toNat))), (0, .ref 344), (1, .int (Int32.ofInt a)), (2, .int (Int32.ofInt at_))]) hm_179 rfl rfl (Nat.le_of_ble_eq_true rfl) (by omega) rfl ?_
  refine fl_goto hm_179 rfl ?_
  refine ga_iload (z := 1) hm_179 rfl rfl ?_
  refine fl_iconst hm_179 rfl ?_
  refine fl_icmp_ge hm_179 rfl ⟨by omega, by omega⟩ ⟨by omega, by omega⟩ (fun h => absurd h (by omega)) (fun _ => ?_)
  refine ga_aload_n (v := .ref 344) hm_179 rfl rfl rfl ?_
  refine ga_getr (b := 363) hm_179 rfl sc_344 rfl ?_
  refine fl_iconst hm_179 rfl ?_
  refine ga_iload_n (z := at_ + F 358 a.toNat) hm_179 rfl rfl ?_
  refine ga_imul (a := 2) (b := at_ + F 358 a.toNat) (c := 2 * at_ + 2 * (F 358 a.toNat)) hm_179 rfl (by omega) ?_
  refine ga_iload (z := 1) hm_179 rfl rfl ?_
  refine ga_iadd (a := 2 * at_ + 2 * (F 358 a.toNat)) (b := 1) (c := 2 * at_ + 2 * (F 358 a.toNat) + 1) hm_179 rfl (by omega) ?_
  refine ga_aload_n (v := .ref 344) hm_179 rfl rfl rfl ?_
  refine ga_iload_n (z := a) hm_179 rfl rfl ?_
  refine fl_iconst hm_179 rfl ?_
  obtain ⟨F231_, q232_⟩ : ∃ Fq_, Fq_ = (fl_u F175_ 363 (2 * at_ + 2 * (F 358 a.toNat)).toNat z155_) := ⟨_, rfl⟩
  rw [← q232_]
  have g233_ : gi F231_ := by rw [q232_]; exact gi_u363 (g176_) (by omega) (by omega) (rz_k (ll := at_ + F 358 a.toNat) (rla_add hla (by omega)) c172_ (by omega) (by omega)) (by omega)
  have g234_ : fs [(344, 344, 5, 5), (344, 344, 9, 10), (358, 358, 0, 100000), (360, 363, 0, 100000)] F F231_ := by rw [q232_]; exact fs_u (g229_) (fs_z (fs_z (fs_z (fs_y (by omega)))))
  have rk235_ : rk K F231_ := by rw [q232_]; exact rk_u (rk230_) (by first | decide | exact nc_ rfl | omega) (by first | decide | exact nc_ rfl | omega)
  have e236_ : F231_ 344 5 = F175_ 344 5 := by rw [q232_]; exact fl_u_ne (by first | exact nc_ rfl | decide | omega)
  have b237_ : 0 ≤ F175_ 344 5 ∧ F175_ 344 5 ≤ 600 := gi_g g176_ rfl
  refine gVi (nY := 6) (F := 3) (L := 66) (As := [.int (Int32.ofInt a), .int (Int32.ofInt (-1))]) (b := 344) (rest := [.int (Int32.ofInt (2 * at_ + 2 * (F 358 a.toNat) + 1)), .ref 363]) hm_179 rfl hm_185 rfl rfl (fl_ob sc_344) rfl rfl rfl rfl rfl (by omega) (by omega) (mc_185 hG F231_ X g233_ (K) (a) (-1) (k) (-1) (l) (tl) hgK rk235_ hkt (⟨by omega, by omega⟩) ((by rw [q232_]; exact (trm_u (trm_fs (by rw [q150_]; exact (trm_u (trm_u (by rw [q22_]; exact (trm_u (trm_fs ht hf_Fg (by first | exact fs_rg rfl | exact fun r j hj => (fs_n (by omega) (fs_n (by omega) (fs_n (by omega) (fs_n (by omega) rfl)))))) (by first | decide | exact nc_ rfl | omega))) (by first | decide | exact nc_ rfl | omega)) (by first | decide | exact nc_ rfl | omega))) s177_ (by first | exact fs_rg rfl | exact fun r j hj => (fs_n (by omega) (fs_n (by omega) rfl)))) (by first | decide | exact nc_ rfl | omega)))) (hlt) (Or.inl ⟨by omega, by omega, rfl⟩) (⟨by omega, by omega⟩)) (fun _ _ h => False.elim h) ?_
  have e239_ : F231_ 344 10 = F175_ 344 10 := by rw [q232_]; exact fl_u_ne (by first | exact nc_ rfl | decide | omega)
  have b240_ : 0 ≤ F175_ 344 10 ∧ F175_ 344 10 ≤ 600 := gi_g g176_ rfl
  have e241_ : F231_ 344 9 = F175_ 344 9 := by rw [q232_]; exact fl_u_ne (by first | exact nc_ rfl | decide | omega)
  have b242_ : 0 ≤ F175_ 344 9 ∧ F175_ 344 9 ≤ 5 := gi_g g176_ rfl
  rintro z238_ A1_ (⟨F248_, hA_, g249_, s250_, c243_, c244_, c245_, c246_, c247_⟩ | ⟨F258_, hA_, g259_, s260_, c251_, c252_, c253_, c254_, c255_, c256_, c257_⟩)
  ·
    subst hA_
    have g261_ : fs [(344, 344, 5, 5), (344, 344, 9, 10), (358, 358, 0, 100000), (360, 363, 0, 100000)] F F248_ := fs_tr g234_ s250_ rfl
    have rk262_ : rk K F248_ := rk_fs rk235_ s250_ (fs_rg rfl) rfl
    try simp only [e236_, e239_, e241_] at c244_
    have c244_s := c244_.1 (by omega)
    clear c244_
    refine fl_iast (z := 2 * at_ + 2 * (F 358 a.toNat) + 1) (v := z238_) hm_179 rfl sc_363 (by omega) (by omega) (by omega) ?_
    refine ga_inc (a := 1) (c := 2) (lv2 := [(5, .int (Int32.ofInt 2)), (4, .int (Int32.ofInt nt)), (3, .int (Int32.ofInt (at_ + F 358 a.toNat))), (0, .ref 344), (1, .int (Int32.ofInt a)), (2, .int (Int32.ofInt at_))]) hm_179 rfl rfl (Nat.le_of_ble_eq_true rfl) (by omega) rfl ?_
    refine fl_goto hm_179 rfl ?_
    refine ga_iload (z := 2) hm_179 rfl rfl ?_
    refine fl_iconst hm_179 rfl ?_
    refine fl_icmp_ge hm_179 rfl ⟨by omega, by omega⟩ ⟨by omega, by omega⟩ (fun _ => ?_) (fun h => absurd (by omega) h)
    obtain ⟨F263_, q264_⟩ : ∃ Fq_, Fq_ = (fl_u F248_ 363 (2 * at_ + 2 * (F 358 a.toNat) + 1).toNat z238_) := ⟨_, rfl⟩
    rw [← q264_]
    have g265_ : gi F263_ := by rw [q264_]; exact gi_u363 (g249_) (by omega) (by omega) (rz_k (ll := at_ + F 358 a.toNat) (rla_add hla (by omega)) c247_ (by omega) (by omega)) (by omega)
    have g266_ : fs [(344, 344, 5, 5), (344, 344, 9, 10), (358, 358, 0, 100000), (360, 363, 0, 100000)] F F263_ := by rw [q264_]; exact fs_u (g261_) (fs_z (fs_z (fs_z (fs_y (by omega)))))
    have rk267_ : rk K F263_ := by rw [q264_]; exact rk_u (rk262_) (by first | decide | exact nc_ rfl | omega) (by first | decide | exact nc_ rfl | omega)
    have e268_ : F263_ 344 9 = F248_ 344 9 := by rw [q264_]; exact fl_u_ne (by first | exact nc_ rfl | decide | omega)
    have b269_ : 0 ≤ F248_ 344 9 ∧ F248_ 344 9 ≤ 5 := gi_g g249_ rfl
    have e270_ : F263_ 344 10 = F248_ 344 10 := by rw [q264_]; exact fl_u_ne (by first | exact nc_ rfl | decide | omega)
    have b271_ : 0 ≤ F248_ 344 10 ∧ F248_ 344 10 ≤ 600 := gi_g g249_ rfl
    have e272_ : F263_ 344 5 = F248_ 344 5 := by rw [q264_]; exact fl_u_ne (by first | exact nc_ rfl | decide | omega)
    have b273_ : 0 ≤ F248_ 344 5 ∧ F248_ 344 5 ≤ 600 := gi_g g249_ rfl
    have e274_ : F21_ 358 a.toNat = Fg 358 a.toNat := by rw [q22_]; exact fl_u_ne (by first | exact nc_ rfl | decide | omega)
    have e275_ : F149_ 358 a.toNat = Fg 358 a.toNat := by rw [q150_]; exact (fl_u_ne (by first | exact nc_ rfl | decide | omega)).trans ((fl_u_ne (by first | exact nc_ rfl | decide | omega)).trans (e274_))
    have e276_ : F175_ 358 a.toNat = Fg 358 a.toNat := (s177_ 358 a.toNat (by first | exact fs_c rfl | exact (fs_n (by omega) (fs_n (by omega) rfl)))).trans (e275_)
    have e277_ : F231_ 358 a.toNat = Fg 358 a.toNat := by rw [q232_]; exact (fl_u_ne (by first | exact nc_ rfl | decide | omega)).trans (e276_)
    have e278_ : F248_ 358 a.toNat = Fg 358 a.toNat := (s250_ 358 a.toNat (by first | exact fs_c rfl | exact (fs_n (by omega) (fs_n (by omega) rfl)))).trans (e277_)
    have e279_ : F263_ 358 a.toNat = Fg 358 a.toNat := by rw [q264_]; exact (fl_u_ne (by first | exact nc_ rfl | decide | omega)).trans (e278_)
    exact fl_R_sub (lv' := [(4, .int (Int32.ofInt nt)), (0, .ref 344), (1, .int (Int32.ofInt a)), (2, .int (Int32.ofInt at_))]) rfl rfl (mb_179_128 hG F X hgi K a at_ k l tl pl ps hgK hrk hkt hp ht hlt ha hpl hps hat hla hcd fr lo hfr hlo F263_ (nt) g265_ g266_ rk267_ (by omega) (⟨by omega, by omega⟩) (⟨by intro h0_; have hs_ := c244_s; rw [hq_, sp_l2_f (by rw [sp_lx, if_pos c32_.2, sp_eq, (show sk K (Fg 344 5) = Fg 344 5 + 1 by rw [sk, if_pos (by omega)])]; rw [c169_, pb_r]; rw [hs_]; first | rfl | (show Sum.inl _ = _; congr 2 <;> omega))]; try (congr 2 <;> omega), fun h0_ => by exfalso; omega⟩) (by omega) (by omega))
  subst hA_
  have g280_ : fs [(344, 344, 5, 5), (344, 344, 9, 10), (358, 358, 0, 100000), (360, 363, 0, 100000)] F F258_ := fs_tr g234_ s260_ rfl
  have rk281_ : rk K F258_ := rk_fs rk235_ s260_ (fs_rg rfl) rfl
  try simp only [e241_] at c251_
  try simp only [e236_] at c252_
  try simp only [e236_] at c256_
  try simp only [e236_] at c257_
  refine fl_iast (z := 2 * at_ + 2 * (F 358 a.toNat) + 1) (v := z238_) hm_179 rfl sc_363 (by omega) (by omega) (by omega) ?_
  refine ga_inc (a := 1) (c := 2) (lv2 := [(5, .int (Int32.ofInt 2)), (4, .int (Int32.ofInt nt)), (3, .int (Int32.ofInt (at_ + F 358 a.toNat))), (0, .ref 344), (1, .int (Int32.ofInt a)), (2, .int (Int32.ofInt at_))]) hm_179 rfl rfl (Nat.le_of_ble_eq_true rfl) (by omega) rfl ?_
  refine fl_goto hm_179 rfl ?_
  refine ga_iload (z := 2) hm_179 rfl rfl ?_
  refine fl_iconst hm_179 rfl ?_
  refine fl_icmp_ge hm_179 rfl ⟨by omega, by omega⟩ ⟨by omega, by omega⟩ (fun _ => ?_) (fun h => absurd (by omega) h)
  refine ga_aload_n (v := .ref 344) hm_179 rfl rfl rfl ?_
  refine fl_bipush hm_179 rfl rfl ?_
  obtain ⟨F282_, q283_⟩ : ∃ Fq_, Fq_ = (fl_u F258_ 363 (2 * at_ + 2 * (F 358 a.toNat) + 1).toNat z238_) := ⟨_, rfl⟩
  rw [← q283_]
  have g284_ : gi F282_ := by rw [q283_]; exact gi_u363 (g259_) (by omega) (by omega) (rz_k (ll := at_ + F 358 a.toNat) (rla_add hla (by omega)) c255_ (by omega) (by omega)) (by omega)
  have g285_ : fs [(344, 344, 5, 5), (344, 344, 9, 10), (358, 358, 0, 100000), (360, 363, 0, 100000)] F F282_ := by rw [q283_]; exact fs_u (g280_) (fs_z (fs_z (fs_z (fs_y (by omega)))))
  have rk286_ : rk K F282_ := by rw [q283_]; exact rk_u (rk281_) (by first | decide | exact nc_ rfl | omega) (by first | decide | exact nc_ rfl | omega)
  have e287_ : F282_ 344 5 = F258_ 344 5 := by rw [q283_]; exact fl_u_ne (by first | exact nc_ rfl | decide | omega)
  have b288_ : 0 ≤ F258_ 344 5 ∧ F258_ 344 5 ≤ 600 := gi_g g259_ rfl
  refine gVv (nY := 2) (F := 2) (L := 41) (As := [.int (Int32.ofInt 41)]) (b := 344) (rest := []) hm_179 rfl hm_51 rfl rfl (fl_ob sc_344) rfl rfl rfl rfl rfl (by omega) (by omega) (mc_51 hG F282_ X g284_ (K) (41) (1) hgK rk286_ hkt (⟨by omega, by omega⟩) (by omega) (by omega)) (fun _ _ h => False.elim h) ?_
  have e290_ : F282_ 344 10 = F258_ 344 10 := by rw [q283_]; exact fl_u_ne (by first | exact nc_ rfl | decide | omega)
  have b291_ : 0 ≤ F258_ 344 10 ∧ F258_ 344 10 ≤ 600 := gi_g g259_ rfl
  have e292_ : F282_ 344 9 = F258_ 344 9 := by rw [q283_]; exact fl_u_ne (by first | exact nc_ rfl | decide | omega)
  have b293_ : 0 ≤ F258_ 344 9 ∧ F258_ 344 9 ≤ 5 := gi_g g259_ rfl
  rintro A1_ (⟨F297_, hA_, g298_, s299_, c294_, c295_, c296_⟩ | ⟨F303_, hA_, g304_, s305_, c300_, c301_, c302_⟩)
  ·
    subst hA_
    have g306_ : fs [(344, 344, 5, 5), (344, 344, 9, 10), (358, 358, 0, 100000), (360, 363, 0, 100000)] F F297_ := fs_tr g285_ s299_ rfl
    have rk307_ : rk K F297_ := rk_fs rk286_ s299_ (fs_rg rfl) rfl
    try simp only [e287_, e290_, e292_] at c295_
    have c295_s := c295_.1 (by omega)
    clear c295_
    refine fl_goto hm_179 rfl ?_
    have b308_ : 0 ≤ F297_ 344 9 ∧ F297_ 344 9 ≤ 5 := gi_g g298_ rfl
    have b309_ : 0 ≤ F297_ 344 10 ∧ F297_ 344 10 ≤ 600 := gi_g g298_ rfl
    have b310_ : 0 ≤ F297_ 344 5 ∧ F297_ 344 5 ≤ 600 := gi_g g298_ rfl
    have e311_ : F21_ 358 a.toNat = Fg 358 a.toNat := by rw [q22_]; exact fl_u_ne (by first | exact nc_ rfl | decide | omega)
    have e312_ : F149_ 358 a.toNat = Fg 358 a.toNat := by rw [q150_]; exact (fl_u_ne (by first | exact nc_ rfl | decide | omega)).trans ((fl_u_ne (by first | exact nc_ rfl | decide | omega)).trans (e311_))
    have e313_ : F175_ 358 a.toNat = Fg 358 a.toNat := (s177_ 358 a.toNat (by first | exact fs_c rfl | exact (fs_n (by omega) (fs_n (by omega) rfl)))).trans (e312_)
    have e314_ : F231_ 358 a.toNat = Fg 358 a.toNat := by rw [q232_]; exact (fl_u_ne (by first | exact nc_ rfl | decide | omega)).trans (e313_)
    have e315_ : F258_ 358 a.toNat = Fg 358 a.toNat := (s260_ 358 a.toNat (by first | exact fs_c rfl | exact (fs_n (by omega) (fs_n (by omega) rfl)))).trans (e314_)
    have e316_ : F282_ 358 a.toNat = Fg 358 a.toNat := by rw [q283_]; exact (fl_u_ne (by first | exact nc_ rfl | decide | omega)).trans (e315_)
    have e317_ : F297_ 358 a.toNat = Fg 358 a.toNat := (s299_ 358 a.toNat (by first | exact fs_c rfl | exact (fs_n (by omega) (fs_n (by omega) rfl)))).trans (e316_)
    exact fl_R_sub (lv' := [(4, .int (Int32.ofInt nt)), (0, .ref 344), (1, .int (Int32.ofInt a)), (2, .int (Int32.ofInt at_))]) rfl rfl (mb_179_143 hG F X hgi K a at_ k l tl pl ps hgK hrk hkt hp ht hlt ha hpl hps hat hla hcd fr lo hfr hlo F297_ (nt) g298_ g306_ rk307_ (by omega) (⟨by omega, by omega⟩) (⟨by intro h0_; have hs_ := c295_s; rw [hq_, sp_l2_f (by rw [sp_lx, if_pos c32_.2, sp_eq, (show sk K (Fg 344 5) = Fg 344 5 + 1 by rw [sk, if_pos (by omega)])]; rw [c169_, pb_r]; rw [c252_, pb_r]; rw [hs_])]; try (congr 2 <;> omega), fun h0_ => by exfalso; omega⟩) (by omega) (by omega))
  subst hA_
  have g318_ : fs [(344, 344, 5, 5), (344, 344, 9, 10), (358, 358, 0, 100000), (360, 363, 0, 100000)] F F303_ := fs_tr g285_ s305_ rfl
  have rk319_ : rk K F303_ := rk_fs rk286_ s305_ (fs_rg rfl) rfl
  try simp only [e292_] at c300_
  try simp only [e287_] at c301_
  refine fl_goto hm_179 rfl ?_
  refine ga_iload (z := nt) hm_179 rfl rfl ?_
  refine fl_if_eq (a := nt) hm_179 rfl ⟨by omega, by omega⟩ (fun h320_ => ?_) (fun h321_ => ?_)
  ·
    refine ga_aload_n (v := .ref 344) hm_179 rfl rfl rfl ?_
    refine ga_getr (b := 358) hm_179 rfl sc_344 rfl ?_
    refine ga_iload_n (z := a) hm_179 rfl rfl ?_
    refine ga_dup2 hm_179 rfl ⟨rfl, rfl⟩ ?_
    have e322_ : F21_ 358 a.toNat = Fg 358 a.toNat := by rw [q22_]; exact fl_u_ne (by first | exact nc_ rfl | decide | omega)
    have e323_ : F149_ 358 a.toNat = Fg 358 a.toNat := by rw [q150_]; exact (fl_u_ne (by first | exact nc_ rfl | decide | omega)).trans ((fl_u_ne (by first | exact nc_ rfl | decide | omega)).trans (e322_))
    have e324_ : F175_ 358 a.toNat = Fg 358 a.toNat := (s177_ 358 a.toNat (by first | exact fs_c rfl | exact (fs_n (by omega) (fs_n (by omega) rfl)))).trans (e323_)
    have e325_ : F231_ 358 a.toNat = Fg 358 a.toNat := by rw [q232_]; exact (fl_u_ne (by first | exact nc_ rfl | decide | omega)).trans (e324_)
    have e326_ : F258_ 358 a.toNat = Fg 358 a.toNat := (s260_ 358 a.toNat (by first | exact fs_c rfl | exact (fs_n (by omega) (fs_n (by omega) rfl)))).trans (e325_)
    have e327_ : F282_ 358 a.toNat = Fg 358 a.toNat := by rw [q283_]; exact (fl_u_ne (by first | exact nc_ rfl | decide | omega)).trans (e326_)
    have e328_ : F303_ 358 a.toNat = Fg 358 a.toNat := (s305_ 358 a.toNat (by first | exact fs_c rfl | exact (fs_n (by omega) (fs_n (by omega) rfl)))).trans (e327_)
    have b329_ : 0 ≤ Fg 358 a.toNat ∧ Fg 358 a.toNat ≤ 4 := gi_g hg_Fg rfl
    refine ga_iald (z := a) (w := Fg 358 a.toNat) hm_179 rfl sc_358 (by omega) (by omega) (by omega) (e328_) ?_
    refine fl_iconst hm_179 rfl ?_
    refine ga_iadd (a := Fg 358 a.toNat) (b := 1) (c := Fg 358 a.toNat + 1) hm_179 rfl (by omega) ?_
    refine fl_iast (z := a) (v := Fg 358 a.toNat + 1) hm_179 rfl sc_358 (by omega) (by omega) (by omega) ?_
    obtain ⟨F330_, q331_⟩ : ∃ Fq_, Fq_ = (fl_u F303_ 358 a.toNat (Fg 358 a.toNat + 1)) := ⟨_, rfl⟩
    rw [← q331_]
    have g332_ : gi F330_ := by rw [q331_]; exact gi_u (g304_) rfl (by omega) (by omega)
    have g333_ : fs [(344, 344, 5, 5), (344, 344, 9, 10), (358, 358, 0, 100000), (360, 363, 0, 100000)] F F330_ := by rw [q331_]; exact fs_u (g318_) (fs_z (fs_z (fs_y (by omega))))
    have rk334_ : rk K F330_ := by rw [q331_]; exact rk_u (rk319_) (by first | decide | exact nc_ rfl | omega) (by first | decide | exact nc_ rfl | omega)
    refine gr_v hm_179 rfl rfl ?_
    have e335_ : F330_ 344 9 = F303_ 344 9 := by rw [q331_]; exact fl_u_ne (by first | exact nc_ rfl | decide | omega)
    have b336_ : 0 ≤ F303_ 344 9 ∧ F303_ 344 9 ≤ 5 := gi_g g304_ rfl
    have b337_ : 0 ≤ F 344 9 ∧ F 344 9 ≤ 5 := gi_g hgi rfl
    have e338_ : F330_ 344 10 = F303_ 344 10 := by rw [q331_]; exact fl_u_ne (by first | exact nc_ rfl | decide | omega)
    have e339_ : F330_ 344 5 = F303_ 344 5 := by rw [q331_]; exact fl_u_ne (by first | exact nc_ rfl | decide | omega)
    have b340_ : 0 ≤ F303_ 344 5 ∧ F303_ 344 5 ≤ 600 := gi_g g304_ rfl
    have b341_ : 0 ≤ F 344 5 ∧ F 344 5 ≤ 600 := gi_g hgi rfl
    have e342_ : F330_ 358 a.toNat = Fg 358 a.toNat + 1 := by rw [q331_]; exact fl_u_eq
    have e343_ : F21_ 361 (at_ + F 358 a.toNat).toNat = nt := by rw [q22_]; exact fl_u_eq
    have e344_ : F149_ 361 (at_ + F 358 a.toNat).toNat = nt := by rw [q150_]; exact (fl_u_ne (by first | exact nc_ rfl | decide | omega)).trans ((fl_u_ne (by first | exact nc_ rfl | decide | omega)).trans (e343_))
    have e345_ : F175_ 361 (at_ + F 358 a.toNat).toNat = nt := (s177_ 361 (at_ + F 358 a.toNat).toNat (by first | exact fs_c rfl | exact (fs_n (by omega) (fs_n (by omega) rfl)))).trans (e344_)
    have e346_ : F231_ 361 (at_ + F 358 a.toNat).toNat = nt := by rw [q232_]; exact (fl_u_ne (by first | exact nc_ rfl | decide | omega)).trans (e345_)
    have e347_ : F258_ 361 (at_ + F 358 a.toNat).toNat = nt := (s260_ 361 (at_ + F 358 a.toNat).toNat (by first | exact fs_c rfl | exact (fs_n (by omega) (fs_n (by omega) rfl)))).trans (e346_)
    have e348_ : F282_ 361 (at_ + F 358 a.toNat).toNat = nt := by rw [q283_]; exact (fl_u_ne (by first | exact nc_ rfl | decide | omega)).trans (e347_)
    have e349_ : F303_ 361 (at_ + F 358 a.toNat).toNat = nt := (s305_ 361 (at_ + F 358 a.toNat).toNat (by first | exact fs_c rfl | exact (fs_n (by omega) (fs_n (by omega) rfl)))).trans (e348_)
    have e350_ : F330_ 361 (at_ + F 358 a.toNat).toNat = nt := by rw [q331_]; exact (fl_u_ne (by first | exact nc_ rfl | decide | omega)).trans (e349_)
    have e351_ : F149_ 360 (at_ + F 358 a.toNat).toNat = 1 := by rw [q150_]; exact (fl_u_ne (by first | exact nc_ rfl | decide | omega)).trans (fl_u_eq)
    have e352_ : F175_ 360 (at_ + F 358 a.toNat).toNat = 1 := (s177_ 360 (at_ + F 358 a.toNat).toNat (by first | exact fs_c rfl | exact (fs_n (by omega) (fs_n (by omega) rfl)))).trans (e351_)
    have e353_ : F231_ 360 (at_ + F 358 a.toNat).toNat = 1 := by rw [q232_]; exact (fl_u_ne (by first | exact nc_ rfl | decide | omega)).trans (e352_)
    have e354_ : F258_ 360 (at_ + F 358 a.toNat).toNat = 1 := (s260_ 360 (at_ + F 358 a.toNat).toNat (by first | exact fs_c rfl | exact (fs_n (by omega) (fs_n (by omega) rfl)))).trans (e353_)
    have e355_ : F282_ 360 (at_ + F 358 a.toNat).toNat = 1 := by rw [q283_]; exact (fl_u_ne (by first | exact nc_ rfl | decide | omega)).trans (e354_)
    have e356_ : F303_ 360 (at_ + F 358 a.toNat).toNat = 1 := (s305_ 360 (at_ + F 358 a.toNat).toNat (by first | exact fs_c rfl | exact (fs_n (by omega) (fs_n (by omega) rfl)))).trans (e355_)
    have e357_ : F330_ 360 (at_ + F 358 a.toNat).toNat = 1 := by rw [q331_]; exact (fl_u_ne (by first | exact nc_ rfl | decide | omega)).trans (e356_)
    have e358_ : F231_ 363 (2 * at_ + 2 * (F 358 a.toNat)).toNat = z155_ := by rw [q232_]; exact fl_u_eq
    have e359_ : F258_ 363 (2 * at_ + 2 * (F 358 a.toNat)).toNat = z155_ := (s260_ 363 (2 * at_ + 2 * (F 358 a.toNat)).toNat (by first | exact fs_c rfl | exact (fs_n (by omega) (fs_n (by omega) rfl)))).trans (e358_)
    have e360_ : F282_ 363 (2 * at_ + 2 * (F 358 a.toNat)).toNat = z155_ := by rw [q283_]; exact (fl_u_ne (by first | exact nc_ rfl | decide | omega)).trans (e359_)
    have e361_ : F303_ 363 (2 * at_ + 2 * (F 358 a.toNat)).toNat = z155_ := (s305_ 363 (2 * at_ + 2 * (F 358 a.toNat)).toNat (by first | exact fs_c rfl | exact (fs_n (by omega) (fs_n (by omega) rfl)))).trans (e360_)
    have e362_ : F330_ 363 (2 * at_ + 2 * (F 358 a.toNat)).toNat = z155_ := by rw [q331_]; exact (fl_u_ne (by first | exact nc_ rfl | decide | omega)).trans (e361_)
    have e363_ : F282_ 363 (2 * at_ + 2 * (F 358 a.toNat) + 1).toNat = z238_ := by rw [q283_]; exact fl_u_eq
    have e364_ : F303_ 363 (2 * at_ + 2 * (F 358 a.toNat) + 1).toNat = z238_ := (s305_ 363 (2 * at_ + 2 * (F 358 a.toNat) + 1).toNat (by first | exact fs_c rfl | exact (fs_n (by omega) (fs_n (by omega) rfl)))).trans (e363_)
    have e365_ : F330_ 363 (2 * at_ + 2 * (F 358 a.toNat) + 1).toNat = z238_ := by rw [q331_]; exact (fl_u_ne (by first | exact nc_ rfl | decide | omega)).trans (e364_)
    exact Or.inr (⟨F330_, rfl, g332_, g333_, (by omega), (by rw [hq_, sp_l2, if_neg (by omega)]; rw [sp_lx, if_pos c32_.2, sp_eq, (show sk K (Fg 344 5) = Fg 344 5 + 1 by rw [sk, if_pos (by omega)])]; rw [c169_, pb_r]; rw [c252_, pb_r]; rw [c301_]; try (congr 1; omega)), (⟨by omega, by omega⟩), (by omega), ((by rw [q331_]; exact (lfr_ua (lfr_fg (by rw [q283_]; exact (lfr_ut (lfr_fg (by rw [q232_]; exact (lfr_ut (lfr_fg (by rw [q150_]; exact (lfr_uo (lfr_ul (by rw [q22_]; exact (lfr_ul hlg rfl (Nat.le_refl _) (Nat.lt_succ_self _))) rfl (Nat.le_refl _) (Nat.lt_succ_self _)) rfl)) s177_ rfl) (Nat.le_of_eq h2L.symm) (by rw [h2L]; exact hL2a))) s260_ rfl) (by rw [h2L1]; exact Nat.le_succ _) (by rw [h2L1]; exact hL2c))) s305_ rfl) rfl rfl))), (⟨(-1, nt, z155_, z238_), by rw [hm_, mb_q rfl c32_.2, eq_dd (show sk K (Fg 344 5) = Fg 344 5 + 1 by rw [sk, if_pos (by omega)]) c173_ c174_ c256_], e350_, Or.inl ⟨rfl, e357_, (by rw [← h2L]; exact e362_), (by rw [← h2L1]; exact e365_)⟩⟩)⟩)
  refine ga_aload_n (v := .ref 344) hm_179 rfl rfl rfl ?_
  refine fl_bipush hm_179 rfl rfl ?_
  have b366_ : 0 ≤ F303_ 344 5 ∧ F303_ 344 5 ≤ 600 := gi_g g304_ rfl
  refine gVv (nY := 2) (F := 2) (L := 41) (As := [.int (Int32.ofInt 41)]) (b := 344) (rest := []) hm_179 rfl hm_51 rfl rfl (fl_ob sc_344) rfl rfl rfl rfl rfl (by omega) (by omega) (mc_51 hG F303_ X g304_ (K) (41) (1) hgK rk319_ hkt (⟨by omega, by omega⟩) (by omega) (by omega)) (fun _ _ h => False.elim h) ?_
  have b368_ : 0 ≤ F303_ 344 10 ∧ F303_ 344 10 ≤ 600 := gi_g g304_ rfl
  have b369_ : 0 ≤ F303_ 344 9 ∧ F303_ 344 9 ≤ 5 := gi_g g304_ rfl
  rintro A1_ (⟨F373_, hA_, g374_, s375_, c370_, c371_, c372_⟩ | ⟨F379_, hA_, g380_, s381_, c376_, c377_, c378_⟩)
  ·
    subst hA_
    have g382_ : fs [(344, 344, 5, 5), (344, 344, 9, 10), (358, 358, 0, 100000), (360, 363, 0, 100000)] F F373_ := fs_tr g318_ s375_ rfl
    have rk383_ : rk K F373_ := rk_fs rk319_ s375_ (fs_rg rfl) rfl
    have c371_s := c371_.1 (by omega)
    clear c371_
    have b384_ : 0 ≤ F373_ 344 9 ∧ F373_ 344 9 ≤ 5 := gi_g g374_ rfl
    have b385_ : 0 ≤ F373_ 344 10 ∧ F373_ 344 10 ≤ 600 := gi_g g374_ rfl
    have b386_ : 0 ≤ F373_ 344 5 ∧ F373_ 344 5 ≤ 600 := gi_g g374_ rfl
    have e387_ : F21_ 358 a.toNat = Fg 358 a.toNat := by rw [q22_]; exact fl_u_ne (by first | exact nc_ rfl | decide | omega)
    have e388_ : F149_ 358 a.toNat = Fg 358 a.toNat := by rw [q150_]; exact (fl_u_ne (by first | exact nc_ rfl | decide | omega)).trans ((fl_u_ne (by first | exact nc_ rfl | decide | omega)).trans (e387_))
    have e389_ : F175_ 358 a.toNat = Fg 358 a.toNat := (s177_ 358 a.toNat (by first | exact fs_c rfl | exact (fs_n (by omega) (fs_n (by omega) rfl)))).trans (e388_)
    have e390_ : F231_ 358 a.toNat = Fg 358 a.toNat := by rw [q232_]; exact (fl_u_ne (by first | exact nc_ rfl | decide | omega)).trans (e389_)
    have e391_ : F258_ 358 a.toNat = Fg 358 a.toNat := (s260_ 358 a.toNat (by first | exact fs_c rfl | exact (fs_n (by omega) (fs_n (by omega) rfl)))).trans (e390_)
    have e392_ : F282_ 358 a.toNat = Fg 358 a.toNat := by rw [q283_]; exact (fl_u_ne (by first | exact nc_ rfl | decide | omega)).trans (e391_)
    have e393_ : F303_ 358 a.toNat = Fg 358 a.toNat := (s305_ 358 a.toNat (by first | exact fs_c rfl | exact (fs_n (by omega) (fs_n (by omega) rfl)))).trans (e392_)
    have e394_ : F373_ 358 a.toNat = Fg 358 a.toNat := (s375_ 358 a.toNat (by first | exact fs_c rfl | exact (fs_n (by omega) (fs_n (by omega) rfl)))).trans (e393_)
    exact fl_R_sub (lv' := [(0, .ref 344), (1, .int (Int32.ofInt a)), (2, .int (Int32.ofInt at_))]) rfl rfl (mb_179_154 hG F X hgi K a at_ k l tl pl ps hgK hrk hkt hp ht hlt ha hpl hps hat hla hcd fr lo hfr hlo F373_ g374_ g382_ rk383_ (by omega) (⟨by omega, by omega⟩) (⟨by intro h0_; have hs_ := c371_s; rw [hq_, sp_l2, if_pos (by omega)]; rw [sp_lx, if_pos c32_.2, sp_eq, (show sk K (Fg 344 5) = Fg 344 5 + 1 by rw [sk, if_pos (by omega)])]; rw [c169_, pb_r]; rw [c252_, pb_r]; rw [c301_]; rw [pb_r]; rw [hs_]; try (show Sum.inl _ = _); try (congr 2 <;> omega), fun h0_ => by exfalso; omega⟩) (by omega))
  subst hA_
  have g395_ : fs [(344, 344, 5, 5), (344, 344, 9, 10), (358, 358, 0, 100000), (360, 363, 0, 100000)] F F379_ := fs_tr g318_ s381_ rfl
  have rk396_ : rk K F379_ := rk_fs rk319_ s381_ (fs_rg rfl) rfl
  refine ga_aload_n (v := .ref 344) hm_179 rfl rfl rfl ?_
  refine ga_getr (b := 358) hm_179 rfl sc_344 rfl ?_
  refine ga_iload_n (z := a) hm_179 rfl rfl ?_
  refine ga_dup2 hm_179 rfl ⟨rfl, rfl⟩ ?_
  have e397_ : F21_ 358 a.toNat = Fg 358 a.toNat := by rw [q22_]; exact fl_u_ne (by first | exact nc_ rfl | decide | omega)
  have e398_ : F149_ 358 a.toNat = Fg 358 a.toNat := by rw [q150_]; exact (fl_u_ne (by first | exact nc_ rfl | decide | omega)).trans ((fl_u_ne (by first | exact nc_ rfl | decide | omega)).trans (e397_))
  have e399_ : F175_ 358 a.toNat = Fg 358 a.toNat := (s177_ 358 a.toNat (by first | exact fs_c rfl | exact (fs_n (by omega) (fs_n (by omega) rfl)))).trans (e398_)
  have e400_ : F231_ 358 a.toNat = Fg 358 a.toNat := by rw [q232_]; exact (fl_u_ne (by first | exact nc_ rfl | decide | omega)).trans (e399_)
  have e401_ : F258_ 358 a.toNat = Fg 358 a.toNat := (s260_ 358 a.toNat (by first | exact fs_c rfl | exact (fs_n (by omega) (fs_n (by omega) rfl)))).trans (e400_)
  have e402_ : F282_ 358 a.toNat = Fg 358 a.toNat := by rw [q283_]; exact (fl_u_ne (by first | exact nc_ rfl | decide | omega)).trans (e401_)
  have e403_ : F303_ 358 a.toNat = Fg 358 a.toNat := (s305_ 358 a.toNat (by first | exact fs_c rfl | exact (fs_n (by omega) (fs_n (by omega) rfl)))).trans (e402_)
  have e404_ : F379_ 358 a.toNat = Fg 358 a.toNat := (s381_ 358 a.toNat (by first | exact fs_c rfl | exact (fs_n (by omega) (fs_n (by omega) rfl)))).trans (e403_)
  have b405_ : 0 ≤ Fg 358 a.toNat ∧ Fg 358 a.toNat ≤ 4 := gi_g hg_Fg rfl
  refine ga_iald (z := a) (w := Fg 358 a.toNat) hm_179 rfl sc_358 (by omega) (by omega) (by omega) (e404_) ?_
  refine fl_iconst hm_179 rfl ?_
  refine ga_iadd (a := Fg 358 a.toNat) (b := 1) (c := Fg 358 a.toNat + 1) hm_179 rfl (by omega) ?_
  refine fl_iast (z := a) (v := Fg 358 a.toNat + 1) hm_179 rfl sc_358 (by omega) (by omega) (by omega) ?_
  obtain ⟨F406_, q407_⟩ : ∃ Fq_, Fq_ = (fl_u F379_ 358 a.toNat (Fg 358 a.toNat + 1)) := ⟨_, rfl⟩
  rw [← q407_]
  have g408_ : gi F406_ := by rw [q407_]; exact gi_u (g380_) rfl (by omega) (by omega)
  have g409_ : fs [(344, 344, 5, 5), (344, 344, 9, 10), (358, 358, 0, 100000), (360, 363, 0, 100000)] F F406_ := by rw [q407_]; exact fs_u (g395_) (fs_z (fs_z (fs_y (by omega))))
  have rk410_ : rk K F406_ := by rw [q407_]; exact rk_u (rk396_) (by first | decide | exact nc_ rfl | omega) (by first | decide | exact nc_ rfl | omega)
  refine gr_v hm_179 rfl rfl ?_
  have e411_ : F406_ 344 9 = F379_ 344 9 := by rw [q407_]; exact fl_u_ne (by first | exact nc_ rfl | decide | omega)
  have b412_ : 0 ≤ F379_ 344 9 ∧ F379_ 344 9 ≤ 5 := gi_g g380_ rfl
  have b413_ : 0 ≤ F 344 9 ∧ F 344 9 ≤ 5 := gi_g hgi rfl
  have e414_ : F406_ 344 10 = F379_ 344 10 := by rw [q407_]; exact fl_u_ne (by first | exact nc_ rfl | decide | omega)
  have e415_ : F406_ 344 5 = F379_ 344 5 := by rw [q407_]; exact fl_u_ne (by first | exact nc_ rfl | decide | omega)
  have b416_ : 0 ≤ F379_ 344 5 ∧ F379_ 344 5 ≤ 600 := gi_g g380_ rfl
  have b417_ : 0 ≤ F 344 5 ∧ F 344 5 ≤ 600 := gi_g hgi rfl
  have e418_ : F406_ 358 a.toNat = Fg 358 a.toNat + 1 := by rw [q407_]; exact fl_u_eq
  have e419_ : F21_ 361 (at_ + F 358 a.toNat).toNat = nt := by rw [q22_]; exact fl_u_eq
  have e420_ : F149_ 361 (at_ + F 358 a.toNat).toNat = nt := by rw [q150_]; exact (fl_u_ne (by first | exact nc_ rfl | decide | omega)).trans ((fl_u_ne (by first | exact nc_ rfl | decide | omega)).trans (e419_))
  have e421_ : F175_ 361 (at_ + F 358 a.toNat).toNat = nt := (s177_ 361 (at_ + F 358 a.toNat).toNat (by first | exact fs_c rfl | exact (fs_n (by omega) (fs_n (by omega) rfl)))).trans (e420_)
  have e422_ : F231_ 361 (at_ + F 358 a.toNat).toNat = nt := by rw [q232_]; exact (fl_u_ne (by first | exact nc_ rfl | decide | omega)).trans (e421_)
  have e423_ : F258_ 361 (at_ + F 358 a.toNat).toNat = nt := (s260_ 361 (at_ + F 358 a.toNat).toNat (by first | exact fs_c rfl | exact (fs_n (by omega) (fs_n (by omega) rfl)))).trans (e422_)
  have e424_ : F282_ 361 (at_ + F 358 a.toNat).toNat = nt := by rw [q283_]; exact (fl_u_ne (by first | exact nc_ rfl | decide | omega)).trans (e423_)
  have e425_ : F303_ 361 (at_ + F 358 a.toNat).toNat = nt := (s305_ 361 (at_ + F 358 a.toNat).toNat (by first | exact fs_c rfl | exact (fs_n (by omega) (fs_n (by omega) rfl)))).trans (e424_)
  have e426_ : F379_ 361 (at_ + F 358 a.toNat).toNat = nt := (s381_ 361 (at_ + F 358 a.toNat).toNat (by first | exact fs_c rfl | exact (fs_n (by omega) (fs_n (by omega) rfl)))).trans (e425_)
  have e427_ : F406_ 361 (at_ + F 358 a.toNat).toNat = nt := by rw [q407_]; exact (fl_u_ne (by first | exact nc_ rfl | decide | omega)).trans (e426_)
  have e428_ : F149_ 360 (at_ + F 358 a.toNat).toNat = 1 := by rw [q150_]; exact (fl_u_ne (by first | exact nc_ rfl | decide | omega)).trans (fl_u_eq)
  have e429_ : F175_ 360 (at_ + F 358 a.toNat).toNat = 1 := (s177_ 360 (at_ + F 358 a.toNat).toNat (by first | exact fs_c rfl | exact (fs_n (by omega) (fs_n (by omega) rfl)))).trans (e428_)
  have e430_ : F231_ 360 (at_ + F 358 a.toNat).toNat = 1 := by rw [q232_]; exact (fl_u_ne (by first | exact nc_ rfl | decide | omega)).trans (e429_)
  have e431_ : F258_ 360 (at_ + F 358 a.toNat).toNat = 1 := (s260_ 360 (at_ + F 358 a.toNat).toNat (by first | exact fs_c rfl | exact (fs_n (by omega) (fs_n (by omega) rfl)))).trans (e430_)
  have e432_ : F282_ 360 (at_ + F 358 a.toNat).toNat = 1 := by rw [q283_]; exact (fl_u_ne (by first | exact nc_ rfl | decide | omega)).trans (e431_)
  have e433_ : F303_ 360 (at_ + F 358 a.toNat).toNat = 1 := (s305_ 360 (at_ + F 358 a.toNat).toNat (by first | exact fs_c rfl | exact (fs_n (by omega) (fs_n (by omega) rfl)))).trans (e432_)
  have e434_ : F379_ 360 (at_ + F 358 a.toNat).toNat = 1 := (s381_ 360 (at_ + F 358 a.toNat).toNat (by first | exact fs_c rfl | exact (fs_n (by omega) (fs_n (by omega) rfl)))).trans (e433_)
  have e435_ : F406_ 360 (at_ + F 358 a.toNat).toNat = 1 := by rw [q407_]; exact (fl_u_ne (by first | exact nc_ rfl | decide | omega)).trans (e434_)
  have e436_ : F231_ 363 (2 * at_ + 2 * (F 358 a.toNat)).toNat = z155_ := by rw [q232_]; exact fl_u_eq
  have e437_ : F258_ 363 (2 * at_ + 2 * (F 358 a.toNat)).toNat = z155_ := (s260_ 363 (2 * at_ + 2 * (F 358 a.toNat)).toNat (by first | exact fs_c rfl | exact (fs_n (by omega) (fs_n (by omega) rfl)))).trans (e436_)
  have e438_ : F282_ 363 (2 * at_ + 2 * (F 358 a.toNat)).toNat = z155_ := by rw [q283_]; exact (fl_u_ne (by first | exact nc_ rfl | decide | omega)).trans (e437_)
  have e439_ : F303_ 363 (2 * at_ + 2 * (F 358 a.toNat)).toNat = z155_ := (s305_ 363 (2 * at_ + 2 * (F 358 a.toNat)).toNat (by first | exact fs_c rfl | exact (fs_n (by omega) (fs_n (by omega) rfl)))).trans (e438_)
  have e440_ : F379_ 363 (2 * at_ + 2 * (F 358 a.toNat)).toNat = z155_ := (s381_ 363 (2 * at_ + 2 * (F 358 a.toNat)).toNat (by first | exact fs_c rfl | exact (fs_n (by omega) (fs_n (by omega) rfl)))).trans (e439_)
  have e441_ : F406_ 363 (2 * at_ + 2 * (F 358 a.toNat)).toNat = z155_ := by rw [q407_]; exact (fl_u_ne (by first | exact nc_ rfl | decide | omega)).trans (e440_)
  have e442_ : F282_ 363 (2 * at_ + 2 * (F 358 a.toNat) + 1).toNat = z238_ := by rw [q283_]; exact fl_u_eq
  have e443_ : F303_ 363 (2 * at_ + 2 * (F 358 a.toNat) + 1).toNat = z238_ := (s305_ 363 (2 * at_ + 2 * (F 358 a.toNat) + 1).toNat (by first | exact fs_c rfl | exact (fs_n (by omega) (fs_n (by omega) rfl)))).trans (e442_)
  have e444_ : F379_ 363 (2 * at_ + 2 * (F 358 a.toNat) + 1).toNat = z238_ := (s381_ 363 (2 * at_ + 2 * (F 358 a.toNat) + 1).toNat (by first | exact fs_c rfl | exact (fs_n (by omega) (fs_n (by omega) rfl)))).trans (e443_)
  have e445_ : F406_ 363 (2 * at_ + 2 * (F 358 a.toNat) + 1).toNat = z238_ := by rw [q407_]; exact (fl_u_ne (by first | exact nc_ rfl | decide | omega)).trans (e444_)
  exact Or.inr (⟨F406_, rfl, g408_, g409_, (by omega), (by rw [hq_, sp_l2, if_pos (by omega)]; rw [sp_lx, if_pos c32_.2, sp_eq, (show sk K (Fg 344 5) = Fg 344 5 + 1 by rw [sk, if_pos (by omega)])]; rw [c169_, pb_r]; rw [c252_, pb_r]; rw [c301_]; rw [pb_r]; rw [c377_]; try (congr 1; omega)), (⟨by omega, by omega⟩), (by omega), ((by rw [q407_]; exact (lfr_ua (lfr_fg (lfr_fg (by rw [q283_]; exact (lfr_ut (lfr_fg (by rw [q232_]; exact (lfr_ut (lfr_fg (by rw [q150_]; exact (lfr_uo (lfr_ul (by rw [q22_]; exact (lfr_ul hlg rfl (Nat.le_refl _) (Nat.lt_succ_self _))) rfl (Nat.le_refl _) (Nat.lt_succ_self _)) rfl)) s177_ rfl) (Nat.le_of_eq h2L.symm) (by rw [h2L]; exact hL2a))) s260_ rfl) (by rw [h2L1]; exact Nat.le_succ _) (by rw [h2L1]; exact hL2c))) s305_ rfl) s381_ rfl) rfl rfl))), (⟨(-1, nt, z155_, z238_), by rw [hm_, mb_q rfl c32_.2, eq_dd (show sk K (Fg 344 5) = Fg 344 5 + 1 by rw [sk, if_pos (by omega)]) c173_ c174_ c256_], e427_, Or.inl ⟨rfl, e435_, (by rw [← h2L]; exact e441_), (by rw [← h2L1]; exact e445_)⟩⟩)⟩)

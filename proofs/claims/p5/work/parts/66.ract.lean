def sp_a1 (K : fl_N) (ts pl : List Int) (ps : List (List Int)) (al : List Int) (p : Int) : PR (Int × List Int) := if (al.length : Int) = 5 then pf K p 1 else sp_action K ts pl ps al p
def sp_ac2 (K : fl_N) (pl : List Int) (ps : List (List Int)) (al2 l tl : List Int) (p : Int) : PR (Int × List Int) := pb (if isw K p [58, 112, 114, 101, 99, 111, 110, 100, 105, 116, 105, 111, 110] = true then sp_clause K false 3 l tl pl ps (sk K p) else .inr (p, 0)) fun s => pb (sp_word K [58, 101, 102, 102, 101, 99, 116] s.1) fun p => pb (sp_clause K true 3 l tl pl ps p) fun s => pb (sp_kind K 1 s.1) fun p => .inr (p, al2)
theorem fs_c {S : List (Nat × Nat × Nat × Nat)} {r k : Nat} (h : S.any (fun q => Nat.ble q.1 r && Nat.ble r q.2.1) = false) : fs_in S r k = false := by
  unfold fs_in
  rw [List.any_eq_false] at h ⊢
  intro q hq h9
  exact h q hq (by rw [Bool.and_eq_true] at h9; exact h9.1)
theorem fs_rg {S : List (Nat × Nat × Nat × Nat)} {a b : Nat} (h : S.all (fun q => Nat.blt q.2.1 a || Nat.blt b q.1) = true) (r k : Nat) (hr : a ≤ r ∧ r ≤ b) : fs_in S r k = false := by
  unfold fs_in
  rw [List.any_eq_false]
  intro q hq h9
  rw [List.all_eq_true] at h
  have h1 := h q hq
  rw [Bool.or_eq_true, Nat.blt_eq, Nat.blt_eq] at h1
  rw [Bool.and_eq_true, Bool.and_eq_true, Nat.ble_eq, Nat.ble_eq] at h9
  omega
theorem nc_ {a b : Nat} {p : Prop} (h : Nat.beq a b = false) : ¬ (a = b ∧ p) := fun e => by rw [e.1, Nat.beq_refl] at h; cases h
def opq (p : Prop) : Prop := p

/- CheapPlannerModel.readAction -/
abbrev pq_173 (G : Nat → Nat → Option Nat) (F : fl_N) (X : xi_H) (K : fl_N) (ts pl al : List Int) (ps : List (List Int)) : Outcome → xi_H → Prop := gqv (fun A => (∃ F' : fl_N, fl_H sh_T G F' ++ X = A ∧ gi F' ∧ fs [(344, 344, 5, 5), (344, 344, 9, 10), (344, 344, 21, 21), (344, 344, 63, 63), (353, 363, 0, 100000)] F F' ∧ (¬ F' 344 9 = 0) ∧ ((F 344 9 = 0 → sp_a1 K ts pl ps al (F 344 5) = .inl (F' 344 9, F' 344 10)) ∧ (¬ F 344 9 = 0 → F' 344 9 = F 344 9 ∧ F' 344 10 = F 344 10)) ∧ (0 ≤ F' 344 5 ∧ F' 344 5 ≤ K 1 6 - 1)) ∨ (∃ F' : fl_N, fl_H sh_T G F' ++ X = A ∧ gi F' ∧ fs [(344, 344, 5, 5), (344, 344, 9, 10), (344, 344, 21, 21), (344, 344, 63, 63), (353, 363, 0, 100000)] F F' ∧ (F' 344 9 = 0 ∧ F 344 9 = 0) ∧ (∃ c, sp_a1 K ts pl ps al (F 344 5) = .inr (F' 344 5, al ++ [c]) ∧ rpn (F' 353) (F' 344 21) (al ++ [c])) ∧ (0 ≤ F' 344 5 ∧ F' 344 5 ≤ K 1 6 - 1) ∧ (∀ j : Nat, (j : Int) < F 344 21 → F' 357 j = F 357 j) ∧ (0 ≤ F' 357 (F 344 21).toNat ∧ F' 344 21 = F 344 21 + 1))) gqn
set_option maxHeartbeats 16000000 in
theorem mb_173_187 {G : Nat → Nat → Option Nat} (hG : gg G) (F : fl_N) (X : xi_H) (hgi : gi F) (K : fl_N) (ts pl al : List Int) (ps : List (List Int)) (hgK : gi K) (hrk : rk K F) (hkt : rkt K) (hp : 0 ≤ F 344 5 ∧ F 344 5 ≤ K 1 6 - 1) (hts : rpn (F 349) (F 344 15) ts) (hal : rpn (F 353) (F 344 21) al) (hpl : rpn (F 350) (F 344 17) pl) (hps : rprd F ps ∧ ps.length = pl.length) (fr lo : Nat) (hfr : 7 ≤ fr) (hlo : 165 ≤ lo) (Fb : fl_N) (hg_Fb : gi Fb) (hf_Fb : fs [(344, 344, 5, 5), (344, 344, 9, 10), (344, 344, 21, 21), (344, 344, 63, 63), (353, 363, 0, 100000)] F Fb) (hrk_b : rk K Fb) (hbd : ¬ Fb 344 9 = 0) (hp_b : 0 ≤ Fb 344 5 ∧ Fb 344 5 ≤ K 1 6 - 1) (hb : (F 344 9 = 0 → sp_a1 K ts pl ps al (F 344 5) = .inl (Fb 344 9, Fb 344 10)) ∧ (¬ F 344 9 = 0 → Fb 344 9 = F 344 9 ∧ Fb 344 10 = F 344 10)) (h21b : Fb 344 21 = F 344 21 ∧ F 344 21 ≤ 4) : fl_R xi_ms 173 fr lo 187 [(3, .int (Int32.ofInt (F 344 21))), (0, .ref 344)] [] (fl_H sh_T G Fb ++ X) (pq_173 G F X K ts pl al ps) := by
  have hP := (rkt_p hkt hp.1 hp.2 hgK).1
  have hK16 : 0 ≤ K 1 6 ∧ K 1 6 ≤ 601 := gi_g hgK rfl
  have hko := hkt.1
  have hal1 := hal.1
  have hb21 : 0 ≤ F 344 21 ∧ F 344 21 ≤ 5 := gi_g hgi rfl
  refine ga_aload_n (v := .ref 344) hm_173 rfl rfl rfl ?_
  refine ga_dup hm_173 rfl rfl ?_
  have b21_ : 0 ≤ Fb 344 21 ∧ Fb 344 21 ≤ 5 := gi_g hg_Fb rfl
  refine ga_geti (z := Fb 344 21) hm_173 rfl sc_344 rfl (rfl) ?_
  refine fl_iconst hm_173 rfl ?_
  refine ga_iadd (a := Fb 344 21) (b := 1) (c := Fb 344 21 + 1) hm_173 rfl (by omega) ?_
  refine ga_puti (z := Fb 344 21 + 1) hm_173 rfl sc_344 rfl rfl ?_
  obtain ⟨F22_, q23_⟩ : ∃ Fq_, Fq_ = (fl_u Fb 344 21 (Fb 344 21 + 1)) := ⟨_, rfl⟩
  rw [← q23_]
  have g24_ : gi F22_ := by rw [q23_]; exact gi_u (hg_Fb) rfl (by omega) (by omega)
  have g25_ : fs [(344, 344, 5, 5), (344, 344, 9, 10), (344, 344, 21, 21), (344, 344, 63, 63), (353, 363, 0, 100000)] F F22_ := by rw [q23_]; exact fs_u (hf_Fb) rfl
  have rk26_ : rk K F22_ := by rw [q23_]; exact rk_u (hrk_b) (by first | decide | exact nc_ rfl | omega) (by first | decide | exact nc_ rfl | omega)
  refine gr_v hm_173 rfl rfl ?_
  have e27_ : F22_ 344 9 = Fb 344 9 := by rw [q23_]; exact fl_u_ne (by first | exact nc_ rfl | decide | omega)
  have b28_ : 0 ≤ Fb 344 9 ∧ Fb 344 9 ≤ 5 := gi_g hg_Fb rfl
  have e29_ : F22_ 344 10 = Fb 344 10 := by rw [q23_]; exact fl_u_ne (by first | exact nc_ rfl | decide | omega)
  have e30_ : F22_ 344 5 = Fb 344 5 := by rw [q23_]; exact fl_u_ne (by first | exact nc_ rfl | decide | omega)
  have b31_ : 0 ≤ Fb 344 10 ∧ Fb 344 10 ≤ 600 := gi_g hg_Fb rfl
  have b32_ : 0 ≤ F 344 10 ∧ F 344 10 ≤ 600 := gi_g hgi rfl
  have b33_ : 0 ≤ F 344 5 ∧ F 344 5 ≤ 600 := gi_g hgi rfl
  have b34_ : 0 ≤ F 344 9 ∧ F 344 9 ≤ 5 := gi_g hgi rfl
  have b35_ : 0 ≤ Fb 344 5 ∧ Fb 344 5 ≤ 600 := gi_g hg_Fb rfl
  exact Or.inl ⟨F22_, rfl, g24_, g25_, (by omega), (⟨fun h0_ => by rw [show F22_ 344 9 = Fb 344 9 by omega, show F22_ 344 10 = Fb 344 10 by omega]; exact hb.1 h0_, fun h0_ => by have h1_ := hb.2 h0_; omega⟩), (⟨by omega, by omega⟩)⟩
set_option maxHeartbeats 16000000 in
theorem mb_173_181 {G : Nat → Nat → Option Nat} (hG : gg G) (F : fl_N) (X : xi_H) (hgi : gi F) (K : fl_N) (ts pl al : List Int) (ps : List (List Int)) (hgK : gi K) (hrk : rk K F) (hkt : rkt K) (hp : 0 ≤ F 344 5 ∧ F 344 5 ≤ K 1 6 - 1) (hts : rpn (F 349) (F 344 15) ts) (hal : rpn (F 353) (F 344 21) al) (hpl : rpn (F 350) (F 344 17) pl) (hps : rprd F ps ∧ ps.length = pl.length) (fr lo : Nat) (hfr : 7 ≤ fr) (hlo : 165 ≤ lo) (Fb : fl_N) (hg_Fb : gi Fb) (hf_Fb : fs [(344, 344, 5, 5), (344, 344, 9, 10), (344, 344, 21, 21), (344, 344, 63, 63), (353, 363, 0, 100000)] F Fb) (hrk_b : rk K Fb) (hbd : ¬ Fb 344 9 = 0) (hp_b : 0 ≤ Fb 344 5 ∧ Fb 344 5 ≤ K 1 6 - 1) (hb : (F 344 9 = 0 → sp_a1 K ts pl ps al (F 344 5) = .inl (Fb 344 9, Fb 344 10)) ∧ (¬ F 344 9 = 0 → Fb 344 9 = F 344 9 ∧ Fb 344 10 = F 344 10)) (h21b : Fb 344 21 = F 344 21 ∧ F 344 21 ≤ 4) : fl_R xi_ms 173 fr lo 181 [(3, .int (Int32.ofInt (F 344 21))), (0, .ref 344)] [] (fl_H sh_T G Fb ++ X) (pq_173 G F X K ts pl al ps) := by
  have hP := (rkt_p hkt hp.1 hp.2 hgK).1
  have hK16 : 0 ≤ K 1 6 ∧ K 1 6 ≤ 601 := gi_g hgK rfl
  have hko := hkt.1
  have hal1 := hal.1
  have hb21 : 0 ≤ F 344 21 ∧ F 344 21 ≤ 5 := gi_g hgi rfl
  refine ga_aload_n (v := .ref 344) hm_173 rfl rfl rfl ?_
  refine fl_bipush hm_173 rfl rfl ?_
  have b21_ : 0 ≤ Fb 344 5 ∧ Fb 344 5 ≤ 600 := gi_g hg_Fb rfl
  refine gVv (nY := 2) (F := 2) (L := 41) (As := [.int (Int32.ofInt 41)]) (b := 344) (rest := []) hm_173 rfl hm_51 rfl rfl (fl_ob sc_344) rfl rfl rfl rfl rfl (by omega) (by omega) (mc_51 hG Fb X hg_Fb (K) (41) (1) hgK hrk_b hkt (⟨by omega, by omega⟩) (by omega) (by omega)) (fun _ _ h => False.elim h) ?_
  have b23_ : 0 ≤ Fb 344 10 ∧ Fb 344 10 ≤ 600 := gi_g hg_Fb rfl
  have b24_ : 0 ≤ Fb 344 9 ∧ Fb 344 9 ≤ 5 := gi_g hg_Fb rfl
  rintro A1_ (⟨F28_, hA_, g29_, s30_, c25_, c26_, c27_⟩ | ⟨F34_, hA_, g35_, s36_, c31_, c32_, c33_⟩)
  ·
    subst hA_
    have g37_ : fs [(344, 344, 5, 5), (344, 344, 9, 10), (344, 344, 21, 21), (344, 344, 63, 63), (353, 363, 0, 100000)] F F28_ := fs_tr hf_Fb s30_ rfl
    have rk38_ : rk K F28_ := rk_fs hrk_b s30_ (fs_rg rfl) rfl
    have c26_k := c26_.2 (by omega)
    clear c26_
    have b39_ : 0 ≤ F28_ 344 9 ∧ F28_ 344 9 ≤ 5 := gi_g g29_ rfl
    have b40_ : 0 ≤ F28_ 344 10 ∧ F28_ 344 10 ≤ 600 := gi_g g29_ rfl
    have b41_ : 0 ≤ F28_ 344 5 ∧ F28_ 344 5 ≤ 600 := gi_g g29_ rfl
    have e42_ : F28_ 344 21 = Fb 344 21 := (s30_ 344 21 rfl).trans (rfl)
    have b43_ : 0 ≤ Fb 344 21 ∧ Fb 344 21 ≤ 5 := gi_g hg_Fb rfl
    exact mb_173_187 hG F X hgi K ts pl al ps hgK hrk hkt hp hts hal hpl hps fr lo hfr hlo F28_ g29_ g37_ rk38_ (by omega) (⟨by omega, by omega⟩) (⟨fun h0_ => by rw [show F28_ 344 9 = Fb 344 9 by omega, show F28_ 344 10 = Fb 344 10 by omega]; exact hb.1 h0_, fun h0_ => by have h1_ := hb.2 h0_; omega⟩) (⟨by omega, by omega⟩)
  exfalso; omega
set_option maxHeartbeats 16000000 in
theorem mb_173_176 {G : Nat → Nat → Option Nat} (hG : gg G) (F : fl_N) (X : xi_H) (hgi : gi F) (K : fl_N) (ts pl al : List Int) (ps : List (List Int)) (hgK : gi K) (hrk : rk K F) (hkt : rkt K) (hp : 0 ≤ F 344 5 ∧ F 344 5 ≤ K 1 6 - 1) (hts : rpn (F 349) (F 344 15) ts) (hal : rpn (F 353) (F 344 21) al) (hpl : rpn (F 350) (F 344 17) pl) (hps : rprd F ps ∧ ps.length = pl.length) (fr lo : Nat) (hfr : 7 ≤ fr) (hlo : 165 ≤ lo) (Fb : fl_N) (hg_Fb : gi Fb) (hf_Fb : fs [(344, 344, 5, 5), (344, 344, 9, 10), (344, 344, 21, 21), (344, 344, 63, 63), (353, 363, 0, 100000)] F Fb) (hrk_b : rk K Fb) (hbd : ¬ Fb 344 9 = 0) (hp_b : 0 ≤ Fb 344 5 ∧ Fb 344 5 ≤ K 1 6 - 1) (hb : (F 344 9 = 0 → sp_a1 K ts pl ps al (F 344 5) = .inl (Fb 344 9, Fb 344 10)) ∧ (¬ F 344 9 = 0 → Fb 344 9 = F 344 9 ∧ Fb 344 10 = F 344 10)) (h21b : Fb 344 21 = F 344 21 ∧ F 344 21 ≤ 4) : fl_R xi_ms 173 fr lo 176 [(3, .int (Int32.ofInt (F 344 21))), (0, .ref 344)] [] (fl_H sh_T G Fb ++ X) (pq_173 G F X K ts pl al ps) := by
  have hP := (rkt_p hkt hp.1 hp.2 hgK).1
  have hK16 : 0 ≤ K 1 6 ∧ K 1 6 ≤ 601 := gi_g hgK rfl
  have hko := hkt.1
  have hal1 := hal.1
  have hb21 : 0 ≤ F 344 21 ∧ F 344 21 ≤ 5 := gi_g hgi rfl
  refine ga_aload_n (v := .ref 344) hm_173 rfl rfl rfl ?_
  refine ga_iload_n (z := F 344 21) hm_173 rfl rfl ?_
  have b21_ : 0 ≤ Fb 344 5 ∧ Fb 344 5 ≤ 600 := gi_g hg_Fb rfl
  refine gVv (nY := 4) (F := 6) (L := 140) (As := [.int (Int32.ofInt (F 344 21))]) (b := 344) (rest := []) hm_173 rfl hm_176 rfl rfl (fl_ob sc_344) rfl rfl rfl rfl rfl (by omega) (by omega) (mc_176 hG Fb X hg_Fb (K) (F 344 21) (3) ([]) ([]) (pl) (ps) hgK hrk_b hkt (⟨by omega, by omega⟩) (fun h9_ => absurd h9_ (by omega)) (⟨by omega, by omega⟩) ((rpn_fs hpl hf_Fb (fun _ => (by first | exact fs_c rfl | exact (fs_n (by omega) (fs_n (by omega) (fs_n (by omega) (fs_n (by omega) (fs_n (by omega) rfl))))))) (by first | exact fs_c rfl | exact (fs_n (by omega) (fs_n (by omega) (fs_n (by omega) (fs_n (by omega) (fs_n (by omega) rfl)))))))) (⟨(rprd_fs hps.1 hf_Fb (by first | exact fs_rg rfl | exact fun r j hj => (fs_n (by omega) (fs_n (by omega) (fs_n (by omega) (fs_n (by omega) (fs_n (by omega) rfl))))))), hps.2⟩) (fun h9_ => absurd h9_ (by omega))) (fun _ _ h => False.elim h) ?_
  have b23_ : 0 ≤ Fb 344 10 ∧ Fb 344 10 ≤ 600 := gi_g hg_Fb rfl
  have b24_ : 0 ≤ Fb 344 9 ∧ Fb 344 9 ≤ 5 := gi_g hg_Fb rfl
  rintro A1_ (⟨F28_, hA_, g29_, s30_, c25_, c26_, c27_⟩ | ⟨F35_, hA_, g36_, s37_, c31_, c32_, c33_, c34_⟩)
  ·
    subst hA_
    have g38_ : fs [(344, 344, 5, 5), (344, 344, 9, 10), (344, 344, 21, 21), (344, 344, 63, 63), (353, 363, 0, 100000)] F F28_ := fs_tr hf_Fb s30_ rfl
    have rk39_ : rk K F28_ := rk_fs hrk_b s30_ (fs_rg rfl) rfl
    have c26_k := c26_.2 (by omega)
    clear c26_
    have b40_ : 0 ≤ F28_ 344 9 ∧ F28_ 344 9 ≤ 5 := gi_g g29_ rfl
    have b41_ : 0 ≤ F28_ 344 10 ∧ F28_ 344 10 ≤ 600 := gi_g g29_ rfl
    have b42_ : 0 ≤ F28_ 344 5 ∧ F28_ 344 5 ≤ 600 := gi_g g29_ rfl
    have e43_ : F28_ 344 21 = Fb 344 21 := (s30_ 344 21 rfl).trans (rfl)
    have b44_ : 0 ≤ Fb 344 21 ∧ Fb 344 21 ≤ 5 := gi_g hg_Fb rfl
    exact mb_173_181 hG F X hgi K ts pl al ps hgK hrk hkt hp hts hal hpl hps fr lo hfr hlo F28_ g29_ g38_ rk39_ (by omega) (⟨by omega, by omega⟩) (⟨fun h0_ => by rw [show F28_ 344 9 = Fb 344 9 by omega, show F28_ 344 10 = Fb 344 10 by omega]; exact hb.1 h0_, fun h0_ => by have h1_ := hb.2 h0_; omega⟩) (⟨by omega, by omega⟩)
  exfalso; omega
set_option maxHeartbeats 16000000 in
theorem mb_173_170 {G : Nat → Nat → Option Nat} (hG : gg G) (F : fl_N) (X : xi_H) (hgi : gi F) (K : fl_N) (ts pl al : List Int) (ps : List (List Int)) (hgK : gi K) (hrk : rk K F) (hkt : rkt K) (hp : 0 ≤ F 344 5 ∧ F 344 5 ≤ K 1 6 - 1) (hts : rpn (F 349) (F 344 15) ts) (hal : rpn (F 353) (F 344 21) al) (hpl : rpn (F 350) (F 344 17) pl) (hps : rprd F ps ∧ ps.length = pl.length) (fr lo : Nat) (hfr : 7 ≤ fr) (hlo : 165 ≤ lo) (Fb : fl_N) (hg_Fb : gi Fb) (hf_Fb : fs [(344, 344, 5, 5), (344, 344, 9, 10), (344, 344, 21, 21), (344, 344, 63, 63), (353, 363, 0, 100000)] F Fb) (hrk_b : rk K Fb) (hbd : ¬ Fb 344 9 = 0) (hp_b : 0 ≤ Fb 344 5 ∧ Fb 344 5 ≤ K 1 6 - 1) (hb : (F 344 9 = 0 → sp_a1 K ts pl ps al (F 344 5) = .inl (Fb 344 9, Fb 344 10)) ∧ (¬ F 344 9 = 0 → Fb 344 9 = F 344 9 ∧ Fb 344 10 = F 344 10)) (h21b : Fb 344 21 = F 344 21 ∧ F 344 21 ≤ 4) : fl_R xi_ms 173 fr lo 170 [(3, .int (Int32.ofInt (F 344 21))), (0, .ref 344)] [] (fl_H sh_T G Fb ++ X) (pq_173 G F X K ts pl al ps) := by
  have hP := (rkt_p hkt hp.1 hp.2 hgK).1
  have hK16 : 0 ≤ K 1 6 ∧ K 1 6 ≤ 601 := gi_g hgK rfl
  have hko := hkt.1
  have hal1 := hal.1
  have hb21 : 0 ≤ F 344 21 ∧ F 344 21 ≤ 5 := gi_g hgi rfl
  refine ga_aload_n (v := .ref 344) hm_173 rfl rfl rfl ?_
  refine fl_bipush hm_173 rfl rfl ?_
  have b21_ : 0 ≤ Fb 344 5 ∧ Fb 344 5 ≤ 600 := gi_g hg_Fb rfl
  refine gVv (nY := 2) (F := 2) (L := 44) (As := [.int (Int32.ofInt 7)]) (b := 344) (rest := []) hm_173 rfl hm_55 rfl rfl (fl_ob sc_344) rfl rfl rfl rfl rfl (by omega) (by omega) (mc_55 hG Fb X hg_Fb (K) (7) ([58, 101, 102, 102, 101, 99, 116]) hgK hrk_b hkt (⟨by omega, by omega⟩) (⟨by omega, by omega⟩) (by decide) (kw_7 hrk_b)) (fun _ _ h => False.elim h) ?_
  have b23_ : 0 ≤ Fb 344 10 ∧ Fb 344 10 ≤ 600 := gi_g hg_Fb rfl
  have b24_ : 0 ≤ Fb 344 9 ∧ Fb 344 9 ≤ 5 := gi_g hg_Fb rfl
  rintro A1_ (⟨F28_, hA_, g29_, s30_, c25_, c26_, c27_⟩ | ⟨F34_, hA_, g35_, s36_, c31_, c32_, c33_⟩)
  ·
    subst hA_
    have g37_ : fs [(344, 344, 5, 5), (344, 344, 9, 10), (344, 344, 21, 21), (344, 344, 63, 63), (353, 363, 0, 100000)] F F28_ := fs_tr hf_Fb s30_ rfl
    have rk38_ : rk K F28_ := rk_fs hrk_b s30_ (fs_rg rfl) rfl
    have c26_k := c26_.2 (by omega)
    clear c26_
    have b39_ : 0 ≤ F28_ 344 9 ∧ F28_ 344 9 ≤ 5 := gi_g g29_ rfl
    have b40_ : 0 ≤ F28_ 344 10 ∧ F28_ 344 10 ≤ 600 := gi_g g29_ rfl
    have b41_ : 0 ≤ F28_ 344 5 ∧ F28_ 344 5 ≤ 600 := gi_g g29_ rfl
    have e42_ : F28_ 344 21 = Fb 344 21 := (s30_ 344 21 rfl).trans (rfl)
    have b43_ : 0 ≤ Fb 344 21 ∧ Fb 344 21 ≤ 5 := gi_g hg_Fb rfl
    exact mb_173_176 hG F X hgi K ts pl al ps hgK hrk hkt hp hts hal hpl hps fr lo hfr hlo F28_ g29_ g37_ rk38_ (by omega) (⟨by omega, by omega⟩) (⟨fun h0_ => by rw [show F28_ 344 9 = Fb 344 9 by omega, show F28_ 344 10 = Fb 344 10 by omega]; exact hb.1 h0_, fun h0_ => by have h1_ := hb.2 h0_; omega⟩) (⟨by omega, by omega⟩)
  exfalso; omega
set_option maxHeartbeats 16000000 in
theorem mb_173_142 {G : Nat → Nat → Option Nat} (hG : gg G) (F : fl_N) (X : xi_H) (hgi : gi F) (K : fl_N) (ts pl al : List Int) (ps : List (List Int)) (hgK : gi K) (hrk : rk K F) (hkt : rkt K) (hp : 0 ≤ F 344 5 ∧ F 344 5 ≤ K 1 6 - 1) (hts : rpn (F 349) (F 344 15) ts) (hal : rpn (F 353) (F 344 21) al) (hpl : rpn (F 350) (F 344 17) pl) (hps : rprd F ps ∧ ps.length = pl.length) (fr lo : Nat) (hfr : 7 ≤ fr) (hlo : 165 ≤ lo) (Fb : fl_N) (hg_Fb : gi Fb) (hf_Fb : fs [(344, 344, 5, 5), (344, 344, 9, 10), (344, 344, 21, 21), (344, 344, 63, 63), (353, 363, 0, 100000)] F Fb) (hrk_b : rk K Fb) (hbd : ¬ Fb 344 9 = 0) (hp_b : 0 ≤ Fb 344 5 ∧ Fb 344 5 ≤ K 1 6 - 1) (hb : (F 344 9 = 0 → sp_a1 K ts pl ps al (F 344 5) = .inl (Fb 344 9, Fb 344 10)) ∧ (¬ F 344 9 = 0 → Fb 344 9 = F 344 9 ∧ Fb 344 10 = F 344 10)) (h21b : Fb 344 21 = F 344 21 ∧ F 344 21 ≤ 4) : fl_R xi_ms 173 fr lo 142 [(3, .int (Int32.ofInt (F 344 21))), (0, .ref 344)] [] (fl_H sh_T G Fb ++ X) (pq_173 G F X K ts pl al ps) := by
  have hP := (rkt_p hkt hp.1 hp.2 hgK).1
  have hK16 : 0 ≤ K 1 6 ∧ K 1 6 ≤ 601 := gi_g hgK rfl
  have hko := hkt.1
  have hal1 := hal.1
  have hb21 : 0 ≤ F 344 21 ∧ F 344 21 ≤ 5 := gi_g hgi rfl
  refine ga_aload_n (v := .ref 344) hm_173 rfl rfl rfl ?_
  refine fl_bipush hm_173 rfl rfl ?_
  have b21_ : 0 ≤ Fb 344 5 ∧ Fb 344 5 ≤ 600 := gi_g hg_Fb rfl
  refine gVi (nY := 4) (F := 1) (L := 21) (As := [.int (Int32.ofInt 6)]) (b := 344) (rest := []) hm_173 rfl hm_56 rfl rfl (fl_ob sc_344) rfl rfl rfl rfl rfl (by omega) (by omega) (mc_56 hG Fb X hg_Fb (K) (6) ([58, 112, 114, 101, 99, 111, 110, 100, 105, 116, 105, 111, 110]) hgK hrk_b hkt (⟨by omega, by omega⟩) (⟨by omega, by omega⟩) (by decide) (kw_6 hrk_b)) (fun _ _ h => False.elim h) ?_
  have b23_ : 0 ≤ Fb 344 9 ∧ Fb 344 9 ≤ 5 := gi_g hg_Fb rfl
  rintro z22_ A1_ (⟨hA_, hz_, c24_⟩ | ⟨hA_, hz_, c25_, c26_⟩)
  ·
    subst hA_
    subst hz_
    refine fl_if_eq hm_173 rfl ⟨by omega, by omega⟩ (fun _ => ?_) (fun h => absurd (by omega) h)
    have b27_ : 0 ≤ Fb 344 10 ∧ Fb 344 10 ≤ 600 := gi_g hg_Fb rfl
    have b28_ : 0 ≤ Fb 344 21 ∧ Fb 344 21 ≤ 5 := gi_g hg_Fb rfl
    exact mb_173_170 hG F X hgi K ts pl al ps hgK hrk hkt hp hts hal hpl hps fr lo hfr hlo Fb hg_Fb hf_Fb hrk_b (by omega) (⟨by omega, by omega⟩) (hb) (⟨by omega, by omega⟩)
  exfalso; omega
set_option maxHeartbeats 16000000 in
theorem mb_173_136 {G : Nat → Nat → Option Nat} (hG : gg G) (F : fl_N) (X : xi_H) (hgi : gi F) (K : fl_N) (ts pl al : List Int) (ps : List (List Int)) (hgK : gi K) (hrk : rk K F) (hkt : rkt K) (hp : 0 ≤ F 344 5 ∧ F 344 5 ≤ K 1 6 - 1) (hts : rpn (F 349) (F 344 15) ts) (hal : rpn (F 353) (F 344 21) al) (hpl : rpn (F 350) (F 344 17) pl) (hps : rprd F ps ∧ ps.length = pl.length) (fr lo : Nat) (hfr : 7 ≤ fr) (hlo : 165 ≤ lo) (Fb : fl_N) (hg_Fb : gi Fb) (hf_Fb : fs [(344, 344, 5, 5), (344, 344, 9, 10), (344, 344, 21, 21), (344, 344, 63, 63), (353, 363, 0, 100000)] F Fb) (hrk_b : rk K Fb) (hbd : ¬ Fb 344 9 = 0) (hp_b : 0 ≤ Fb 344 5 ∧ Fb 344 5 ≤ K 1 6 - 1) (hb : (F 344 9 = 0 → sp_a1 K ts pl ps al (F 344 5) = .inl (Fb 344 9, Fb 344 10)) ∧ (¬ F 344 9 = 0 → Fb 344 9 = F 344 9 ∧ Fb 344 10 = F 344 10)) (h21b : Fb 344 21 = F 344 21 ∧ F 344 21 ≤ 4) : fl_R xi_ms 173 fr lo 136 [(3, .int (Int32.ofInt (F 344 21))), (0, .ref 344)] [] (fl_H sh_T G Fb ++ X) (pq_173 G F X K ts pl al ps) := by
  have hP := (rkt_p hkt hp.1 hp.2 hgK).1
  have hK16 : 0 ≤ K 1 6 ∧ K 1 6 ≤ 601 := gi_g hgK rfl
  have hko := hkt.1
  have hal1 := hal.1
  have hb21 : 0 ≤ F 344 21 ∧ F 344 21 ≤ 5 := gi_g hgi rfl
  refine ga_aload_n (v := .ref 344) hm_173 rfl rfl rfl ?_
  refine fl_bipush hm_173 rfl rfl ?_
  have b21_ : 0 ≤ Fb 344 5 ∧ Fb 344 5 ≤ 600 := gi_g hg_Fb rfl
  refine gVv (nY := 2) (F := 2) (L := 41) (As := [.int (Int32.ofInt 41)]) (b := 344) (rest := []) hm_173 rfl hm_51 rfl rfl (fl_ob sc_344) rfl rfl rfl rfl rfl (by omega) (by omega) (mc_51 hG Fb X hg_Fb (K) (41) (1) hgK hrk_b hkt (⟨by omega, by omega⟩) (by omega) (by omega)) (fun _ _ h => False.elim h) ?_
  have b23_ : 0 ≤ Fb 344 10 ∧ Fb 344 10 ≤ 600 := gi_g hg_Fb rfl
  have b24_ : 0 ≤ Fb 344 9 ∧ Fb 344 9 ≤ 5 := gi_g hg_Fb rfl
  rintro A1_ (⟨F28_, hA_, g29_, s30_, c25_, c26_, c27_⟩ | ⟨F34_, hA_, g35_, s36_, c31_, c32_, c33_⟩)
  ·
    subst hA_
    have g37_ : fs [(344, 344, 5, 5), (344, 344, 9, 10), (344, 344, 21, 21), (344, 344, 63, 63), (353, 363, 0, 100000)] F F28_ := fs_tr hf_Fb s30_ rfl
    have rk38_ : rk K F28_ := rk_fs hrk_b s30_ (fs_rg rfl) rfl
    have c26_k := c26_.2 (by omega)
    clear c26_
    have b39_ : 0 ≤ F28_ 344 9 ∧ F28_ 344 9 ≤ 5 := gi_g g29_ rfl
    have b40_ : 0 ≤ F28_ 344 10 ∧ F28_ 344 10 ≤ 600 := gi_g g29_ rfl
    have b41_ : 0 ≤ F28_ 344 5 ∧ F28_ 344 5 ≤ 600 := gi_g g29_ rfl
    have e42_ : F28_ 344 21 = Fb 344 21 := (s30_ 344 21 rfl).trans (rfl)
    have b43_ : 0 ≤ Fb 344 21 ∧ Fb 344 21 ≤ 5 := gi_g hg_Fb rfl
    exact mb_173_142 hG F X hgi K ts pl al ps hgK hrk hkt hp hts hal hpl hps fr lo hfr hlo F28_ g29_ g37_ rk38_ (by omega) (⟨by omega, by omega⟩) (⟨fun h0_ => by rw [show F28_ 344 9 = Fb 344 9 by omega, show F28_ 344 10 = Fb 344 10 by omega]; exact hb.1 h0_, fun h0_ => by have h1_ := hb.2 h0_; omega⟩) (⟨by omega, by omega⟩)
  exfalso; omega
set_option maxHeartbeats 16000000 in
theorem mb_173_73 {G : Nat → Nat → Option Nat} (hG : gg G) (F : fl_N) (X : xi_H) (hgi : gi F) (K : fl_N) (ts pl al : List Int) (ps : List (List Int)) (hgK : gi K) (hrk : rk K F) (hkt : rkt K) (hp : 0 ≤ F 344 5 ∧ F 344 5 ≤ K 1 6 - 1) (hts : rpn (F 349) (F 344 15) ts) (hal : rpn (F 353) (F 344 21) al) (hpl : rpn (F 350) (F 344 17) pl) (hps : rprd F ps ∧ ps.length = pl.length) (fr lo : Nat) (hfr : 7 ≤ fr) (hlo : 165 ≤ lo) (Fb : fl_N) (hg_Fb : gi Fb) (hf_Fb : fs [(344, 344, 5, 5), (344, 344, 9, 10), (344, 344, 21, 21), (344, 344, 63, 63), (353, 363, 0, 100000)] F Fb) (hrk_b : rk K Fb) (hbd : ¬ Fb 344 9 = 0) (hp_b : 0 ≤ Fb 344 5 ∧ Fb 344 5 ≤ K 1 6 - 1) (hb : (F 344 9 = 0 → sp_a1 K ts pl ps al (F 344 5) = .inl (Fb 344 9, Fb 344 10)) ∧ (¬ F 344 9 = 0 → Fb 344 9 = F 344 9 ∧ Fb 344 10 = F 344 10)) : fl_R xi_ms 173 fr lo 73 [(0, .ref 344)] [] (fl_H sh_T G Fb ++ X) (pq_173 G F X K ts pl al ps) := by
  have hP := (rkt_p hkt hp.1 hp.2 hgK).1
  have hK16 : 0 ≤ K 1 6 ∧ K 1 6 ≤ 601 := gi_g hgK rfl
  have hko := hkt.1
  have hal1 := hal.1
  have hb21 : 0 ≤ F 344 21 ∧ F 344 21 ≤ 5 := gi_g hgi rfl
  refine ga_aload_n (v := .ref 344) hm_173 rfl rfl rfl ?_
  refine gIi (nY := 1) (F := 0) (L := 0) (As := []) (b := 344) (rest := []) hm_173 rfl hm_59 rfl rfl (fl_ob sc_344) rfl rfl rfl rfl rfl (by omega) (by omega) ?_
  intro f21_ l22_ h23_ h24_
  show fl_R xi_ms 59 f21_ l22_ 0 [(0, .ref 344)] [] _ _
  refine ga_aload_n (v := .ref 344) hm_59 rfl rfl rfl ?_
  have b25_ : 0 ≤ Fb 344 9 ∧ Fb 344 9 ≤ 5 := gi_g hg_Fb rfl
  refine ga_geti (z := Fb 344 9) hm_59 rfl sc_344 rfl (rfl) ?_
  refine fl_if_le (a := Fb 344 9) hm_59 rfl ⟨by omega, by omega⟩ (fun h26_ => ?_) (fun h27_ => ?_)
  · exfalso; omega
  refine fl_iconst hm_59 rfl ?_
  refine fl_goto hm_59 rfl ?_
  refine gr_i hm_59 rfl rfl (ga_nb (by omega)) ?_
  clear h23_ h24_ f21_ l22_
  refine fl_if_eq hm_173 rfl ⟨by omega, by omega⟩ (fun h => absurd h (by omega)) (fun _ => ?_)
  refine gr_v hm_173 rfl rfl ?_
  have b28_ : 0 ≤ Fb 344 10 ∧ Fb 344 10 ≤ 600 := gi_g hg_Fb rfl
  have b29_ : 0 ≤ F 344 10 ∧ F 344 10 ≤ 600 := gi_g hgi rfl
  have b30_ : 0 ≤ F 344 5 ∧ F 344 5 ≤ 600 := gi_g hgi rfl
  have b31_ : 0 ≤ F 344 9 ∧ F 344 9 ≤ 5 := gi_g hgi rfl
  have b32_ : 0 ≤ Fb 344 5 ∧ Fb 344 5 ≤ 600 := gi_g hg_Fb rfl
  exact Or.inl ⟨Fb, rfl, hg_Fb, hf_Fb, (by omega), (hb), (⟨by omega, by omega⟩)⟩
set_option maxHeartbeats 16000000 in
theorem mb_173_67 {G : Nat → Nat → Option Nat} (hG : gg G) (F : fl_N) (X : xi_H) (hgi : gi F) (K : fl_N) (ts pl al : List Int) (ps : List (List Int)) (hgK : gi K) (hrk : rk K F) (hkt : rkt K) (hp : 0 ≤ F 344 5 ∧ F 344 5 ≤ K 1 6 - 1) (hts : rpn (F 349) (F 344 15) ts) (hal : rpn (F 353) (F 344 21) al) (hpl : rpn (F 350) (F 344 17) pl) (hps : rprd F ps ∧ ps.length = pl.length) (fr lo : Nat) (hfr : 7 ≤ fr) (hlo : 165 ≤ lo) (Fb : fl_N) (hg_Fb : gi Fb) (hf_Fb : fs [(344, 344, 5, 5), (344, 344, 9, 10), (344, 344, 21, 21), (344, 344, 63, 63), (353, 363, 0, 100000)] F Fb) (hrk_b : rk K Fb) (hbd : ¬ Fb 344 9 = 0) (hp_b : 0 ≤ Fb 344 5 ∧ Fb 344 5 ≤ K 1 6 - 1) (hb : (F 344 9 = 0 → sp_a1 K ts pl ps al (F 344 5) = .inl (Fb 344 9, Fb 344 10)) ∧ (¬ F 344 9 = 0 → Fb 344 9 = F 344 9 ∧ Fb 344 10 = F 344 10)) : fl_R xi_ms 173 fr lo 67 [(0, .ref 344)] [] (fl_H sh_T G Fb ++ X) (pq_173 G F X K ts pl al ps) := by
  have hP := (rkt_p hkt hp.1 hp.2 hgK).1
  have hK16 : 0 ≤ K 1 6 ∧ K 1 6 ≤ 601 := gi_g hgK rfl
  have hko := hkt.1
  have hal1 := hal.1
  have hb21 : 0 ≤ F 344 21 ∧ F 344 21 ≤ 5 := gi_g hgi rfl
  refine ga_aload_n (v := .ref 344) hm_173 rfl rfl rfl ?_
  refine fl_bipush hm_173 rfl rfl ?_
  have b21_ : 0 ≤ Fb 344 5 ∧ Fb 344 5 ≤ 600 := gi_g hg_Fb rfl
  refine gVv (nY := 2) (F := 2) (L := 41) (As := [.int (Int32.ofInt 40)]) (b := 344) (rest := []) hm_173 rfl hm_51 rfl rfl (fl_ob sc_344) rfl rfl rfl rfl rfl (by omega) (by omega) (mc_51 hG Fb X hg_Fb (K) (40) (0) hgK hrk_b hkt (⟨by omega, by omega⟩) (by omega) (by omega)) (fun _ _ h => False.elim h) ?_
  have b23_ : 0 ≤ Fb 344 10 ∧ Fb 344 10 ≤ 600 := gi_g hg_Fb rfl
  have b24_ : 0 ≤ Fb 344 9 ∧ Fb 344 9 ≤ 5 := gi_g hg_Fb rfl
  rintro A1_ (⟨F28_, hA_, g29_, s30_, c25_, c26_, c27_⟩ | ⟨F34_, hA_, g35_, s36_, c31_, c32_, c33_⟩)
  ·
    subst hA_
    have g37_ : fs [(344, 344, 5, 5), (344, 344, 9, 10), (344, 344, 21, 21), (344, 344, 63, 63), (353, 363, 0, 100000)] F F28_ := fs_tr hf_Fb s30_ rfl
    have rk38_ : rk K F28_ := rk_fs hrk_b s30_ (fs_rg rfl) rfl
    have c26_k := c26_.2 (by omega)
    clear c26_
    have b39_ : 0 ≤ F28_ 344 9 ∧ F28_ 344 9 ≤ 5 := gi_g g29_ rfl
    have b40_ : 0 ≤ F28_ 344 10 ∧ F28_ 344 10 ≤ 600 := gi_g g29_ rfl
    have b41_ : 0 ≤ F28_ 344 5 ∧ F28_ 344 5 ≤ 600 := gi_g g29_ rfl
    exact mb_173_73 hG F X hgi K ts pl al ps hgK hrk hkt hp hts hal hpl hps fr lo hfr hlo F28_ g29_ g37_ rk38_ (by omega) (⟨by omega, by omega⟩) (⟨fun h0_ => by rw [show F28_ 344 9 = Fb 344 9 by omega, show F28_ 344 10 = Fb 344 10 by omega]; exact hb.1 h0_, fun h0_ => by have h1_ := hb.2 h0_; omega⟩)
  exfalso; omega
set_option maxHeartbeats 16000000 in
theorem mb_173_62 {G : Nat → Nat → Option Nat} (hG : gg G) (F : fl_N) (X : xi_H) (hgi : gi F) (K : fl_N) (ts pl al : List Int) (ps : List (List Int)) (hgK : gi K) (hrk : rk K F) (hkt : rkt K) (hp : 0 ≤ F 344 5 ∧ F 344 5 ≤ K 1 6 - 1) (hts : rpn (F 349) (F 344 15) ts) (hal : rpn (F 353) (F 344 21) al) (hpl : rpn (F 350) (F 344 17) pl) (hps : rprd F ps ∧ ps.length = pl.length) (fr lo : Nat) (hfr : 7 ≤ fr) (hlo : 165 ≤ lo) (Fb : fl_N) (hg_Fb : gi Fb) (hf_Fb : fs [(344, 344, 5, 5), (344, 344, 9, 10), (344, 344, 21, 21), (344, 344, 63, 63), (353, 363, 0, 100000)] F Fb) (hrk_b : rk K Fb) (hbd : ¬ Fb 344 9 = 0) (hp_b : 0 ≤ Fb 344 5 ∧ Fb 344 5 ≤ K 1 6 - 1) (hb : (F 344 9 = 0 → sp_a1 K ts pl ps al (F 344 5) = .inl (Fb 344 9, Fb 344 10)) ∧ (¬ F 344 9 = 0 → Fb 344 9 = F 344 9 ∧ Fb 344 10 = F 344 10)) : fl_R xi_ms 173 fr lo 62 [(0, .ref 344)] [] (fl_H sh_T G Fb ++ X) (pq_173 G F X K ts pl al ps) := by
  have hP := (rkt_p hkt hp.1 hp.2 hgK).1
  have hK16 : 0 ≤ K 1 6 ∧ K 1 6 ≤ 601 := gi_g hgK rfl
  have hko := hkt.1
  have hal1 := hal.1
  have hb21 : 0 ≤ F 344 21 ∧ F 344 21 ≤ 5 := gi_g hgi rfl
  refine ga_aload_n (v := .ref 344) hm_173 rfl rfl rfl ?_
  refine fl_iconst hm_173 rfl ?_
  have b21_ : 0 ≤ Fb 344 5 ∧ Fb 344 5 ≤ 600 := gi_g hg_Fb rfl
  refine gVv (nY := 2) (F := 2) (L := 44) (As := [.int (Int32.ofInt 5)]) (b := 344) (rest := []) hm_173 rfl hm_55 rfl rfl (fl_ob sc_344) rfl rfl rfl rfl rfl (by omega) (by omega) (mc_55 hG Fb X hg_Fb (K) (5) ([58, 112, 97, 114, 97, 109, 101, 116, 101, 114, 115]) hgK hrk_b hkt (⟨by omega, by omega⟩) (⟨by omega, by omega⟩) (by decide) (kw_5 hrk_b)) (fun _ _ h => False.elim h) ?_
  have b23_ : 0 ≤ Fb 344 10 ∧ Fb 344 10 ≤ 600 := gi_g hg_Fb rfl
  have b24_ : 0 ≤ Fb 344 9 ∧ Fb 344 9 ≤ 5 := gi_g hg_Fb rfl
  rintro A1_ (⟨F28_, hA_, g29_, s30_, c25_, c26_, c27_⟩ | ⟨F34_, hA_, g35_, s36_, c31_, c32_, c33_⟩)
  ·
    subst hA_
    have g37_ : fs [(344, 344, 5, 5), (344, 344, 9, 10), (344, 344, 21, 21), (344, 344, 63, 63), (353, 363, 0, 100000)] F F28_ := fs_tr hf_Fb s30_ rfl
    have rk38_ : rk K F28_ := rk_fs hrk_b s30_ (fs_rg rfl) rfl
    have c26_k := c26_.2 (by omega)
    clear c26_
    have b39_ : 0 ≤ F28_ 344 9 ∧ F28_ 344 9 ≤ 5 := gi_g g29_ rfl
    have b40_ : 0 ≤ F28_ 344 10 ∧ F28_ 344 10 ≤ 600 := gi_g g29_ rfl
    have b41_ : 0 ≤ F28_ 344 5 ∧ F28_ 344 5 ≤ 600 := gi_g g29_ rfl
    exact mb_173_67 hG F X hgi K ts pl al ps hgK hrk hkt hp hts hal hpl hps fr lo hfr hlo F28_ g29_ g37_ rk38_ (by omega) (⟨by omega, by omega⟩) (⟨fun h0_ => by rw [show F28_ 344 9 = Fb 344 9 by omega, show F28_ 344 10 = Fb 344 10 by omega]; exact hb.1 h0_, fun h0_ => by have h1_ := hb.2 h0_; omega⟩)
  exfalso; omega
set_option maxHeartbeats 16000000 in
theorem mb_173_24 {G : Nat → Nat → Option Nat} (hG : gg G) (F : fl_N) (X : xi_H) (hgi : gi F) (K : fl_N) (ts pl al : List Int) (ps : List (List Int)) (hgK : gi K) (hrk : rk K F) (hkt : rkt K) (hp : 0 ≤ F 344 5 ∧ F 344 5 ≤ K 1 6 - 1) (hts : rpn (F 349) (F 344 15) ts) (hal : rpn (F 353) (F 344 21) al) (hpl : rpn (F 350) (F 344 17) pl) (hps : rprd F ps ∧ ps.length = pl.length) (fr lo : Nat) (hfr : 7 ≤ fr) (hlo : 165 ≤ lo) (Fb : fl_N) (hg_Fb : gi Fb) (hf_Fb : fs [(344, 344, 5, 5), (344, 344, 9, 10), (344, 344, 21, 21), (344, 344, 63, 63), (353, 363, 0, 100000)] F Fb) (hrk_b : rk K Fb) (hbd : ¬ Fb 344 9 = 0) (hp_b : 0 ≤ Fb 344 5 ∧ Fb 344 5 ≤ K 1 6 - 1) (hb : (F 344 9 = 0 → sp_a1 K ts pl ps al (F 344 5) = .inl (Fb 344 9, Fb 344 10)) ∧ (¬ F 344 9 = 0 → Fb 344 9 = F 344 9 ∧ Fb 344 10 = F 344 10)) : fl_R xi_ms 173 fr lo 24 [(0, .ref 344)] [] (fl_H sh_T G Fb ++ X) (pq_173 G F X K ts pl al ps) := by
  have hP := (rkt_p hkt hp.1 hp.2 hgK).1
  have hK16 : 0 ≤ K 1 6 ∧ K 1 6 ≤ 601 := gi_g hgK rfl
  have hko := hkt.1
  have hal1 := hal.1
  have hb21 : 0 ≤ F 344 21 ∧ F 344 21 ≤ 5 := gi_g hgi rfl
  refine ga_aload_n (v := .ref 344) hm_173 rfl rfl rfl ?_
  have b21_ : 0 ≤ Fb 344 5 ∧ Fb 344 5 ≤ 600 := gi_g hg_Fb rfl
  refine gVl (nY := 3) (F := 2) (L := 46) (As := []) (b := 344) (rest := []) hm_173 rfl hm_58 rfl rfl (fl_ob sc_344) rfl rfl rfl rfl rfl (by omega) (by omega) (mc_58 hG Fb X hg_Fb (K) hgK hrk_b hkt (⟨by omega, by omega⟩)) (fun _ _ h => False.elim h) ?_
  have b23_ : 0 ≤ Fb 344 10 ∧ Fb 344 10 ≤ 600 := gi_g hg_Fb rfl
  have b24_ : 0 ≤ Fb 344 9 ∧ Fb 344 9 ≤ 5 := gi_g hg_Fb rfl
  rintro z22_ A1_ (⟨F29_, hA_, g30_, s31_, c25_, c26_, c27_, c28_⟩ | ⟨F39_, hA_, g40_, s41_, c32_, c33_, c34_, c35_, c36_, c37_, c38_⟩)
  ·
    subst hA_
    have g42_ : fs [(344, 344, 5, 5), (344, 344, 9, 10), (344, 344, 21, 21), (344, 344, 63, 63), (353, 363, 0, 100000)] F F29_ := fs_tr hf_Fb s31_ rfl
    have rk43_ : rk K F29_ := rk_fs hrk_b s31_ (fs_rg rfl) rfl
    have c26_k := c26_.2 (by omega)
    clear c26_
    refine ga_lstore_n (lv2 := [(1, .long (Int64.ofInt z22_)), (0, .ref 344)]) hm_173 rfl (Nat.le_of_ble_eq_true rfl) rfl ?_
    refine ga_aload_n (v := .ref 344) hm_173 rfl rfl rfl ?_
    refine gIi (nY := 1) (F := 0) (L := 0) (As := []) (b := 344) (rest := []) hm_173 rfl hm_59 rfl rfl (fl_ob sc_344) rfl rfl rfl rfl rfl (by omega) (by omega) ?_
    intro f44_ l45_ h46_ h47_
    show fl_R xi_ms 59 f44_ l45_ 0 [(0, .ref 344)] [] _ _
    refine ga_aload_n (v := .ref 344) hm_59 rfl rfl rfl ?_
    have b48_ : 0 ≤ F29_ 344 9 ∧ F29_ 344 9 ≤ 5 := gi_g g30_ rfl
    refine ga_geti (z := F29_ 344 9) hm_59 rfl sc_344 rfl (rfl) ?_
    refine fl_if_le (a := F29_ 344 9) hm_59 rfl ⟨by omega, by omega⟩ (fun h49_ => ?_) (fun h50_ => ?_)
    · exfalso; omega
    refine fl_iconst hm_59 rfl ?_
    refine fl_goto hm_59 rfl ?_
    refine gr_i hm_59 rfl rfl (ga_nb (by omega)) ?_
    clear h46_ h47_ f44_ l45_
    refine fl_if_ne hm_173 rfl ⟨by omega, by omega⟩ (fun _ => ?_) (fun h => absurd (by omega) h)
    refine ga_aload_n (v := .ref 344) hm_173 rfl rfl rfl ?_
    refine gIv (nY := 1) (F := 1) (L := 20) (As := []) (b := 344) (rest := []) hm_173 rfl hm_61 rfl rfl (fl_ob sc_344) rfl rfl rfl rfl rfl (by omega) (by omega) ?_
    intro f51_ l52_ h53_ h54_
    show fl_R xi_ms 61 f51_ l52_ 0 [(0, .ref 344)] [] _ _
    refine ga_aload_n (v := .ref 344) hm_61 rfl rfl rfl ?_
    refine ga_dup hm_61 rfl rfl ?_
    have e55_ : F29_ 344 5 = Fb 344 5 := (s31_ 344 5 rfl).trans (rfl)
    refine ga_geti (z := Fb 344 5) hm_61 rfl sc_344 rfl (e55_) ?_
    refine ga_aload_n (v := .ref 344) hm_61 rfl rfl rfl ?_
    refine gIi (nY := 1) (F := 0) (L := 0) (As := []) (b := 344) (rest := [.int (Int32.ofInt (Fb 344 5)), .ref 344]) hm_61 rfl hm_59 rfl rfl (fl_ob sc_344) rfl rfl rfl rfl rfl (by omega) (by omega) ?_
    intro f56_ l57_ h58_ h59_
    show fl_R xi_ms 59 f56_ l57_ 0 [(0, .ref 344)] [] _ _
    refine ga_aload_n (v := .ref 344) hm_59 rfl rfl rfl ?_
    refine ga_geti (z := F29_ 344 9) hm_59 rfl sc_344 rfl (rfl) ?_
    refine fl_if_le (a := F29_ 344 9) hm_59 rfl ⟨by omega, by omega⟩ (fun h60_ => ?_) (fun h61_ => ?_)
    · exfalso; omega
    refine fl_iconst hm_59 rfl ?_
    refine fl_goto hm_59 rfl ?_
    refine gr_i hm_59 rfl rfl (ga_nb (by omega)) ?_
    clear h58_ h59_ f56_ l57_
    refine fl_if_eq hm_61 rfl ⟨by omega, by omega⟩ (fun h => absurd h (by omega)) (fun _ => ?_)
    refine fl_iconst hm_61 rfl ?_
    refine fl_goto hm_61 rfl ?_
    refine ga_iadd (a := Fb 344 5) (b := 0) (c := Fb 344 5) hm_61 rfl (by omega) ?_
    refine ga_puti (z := Fb 344 5) hm_61 rfl sc_344 rfl rfl ?_
    refine gr_v hm_61 rfl rfl ?_
    clear h53_ h54_ f51_ l52_
    obtain ⟨F62_, q63_⟩ : ∃ Fq_, Fq_ = (fl_u F29_ 344 5 (Fb 344 5)) := ⟨_, rfl⟩
    rw [← q63_]
    have g64_ : gi F62_ := by rw [q63_]; exact gi_u (g30_) rfl (by omega) (by omega)
    have g65_ : fs [(344, 344, 5, 5), (344, 344, 9, 10), (344, 344, 21, 21), (344, 344, 63, 63), (353, 363, 0, 100000)] F F62_ := by rw [q63_]; exact fs_u (g42_) rfl
    have rk66_ : rk K F62_ := by rw [q63_]; exact rk_u (rk43_) (by first | decide | exact nc_ rfl | omega) (by first | decide | exact nc_ rfl | omega)
    have e67_ : F62_ 344 9 = F29_ 344 9 := by rw [q63_]; exact fl_u_ne (by first | exact nc_ rfl | decide | omega)
    have e68_ : F62_ 344 10 = F29_ 344 10 := by rw [q63_]; exact fl_u_ne (by first | exact nc_ rfl | decide | omega)
    have b69_ : 0 ≤ F29_ 344 10 ∧ F29_ 344 10 ≤ 600 := gi_g g30_ rfl
    have e70_ : F62_ 344 5 = Fb 344 5 := by rw [q63_]; exact fl_u_eq
    exact fl_R_sub (lv' := [(0, .ref 344)]) rfl rfl (mb_173_62 hG F X hgi K ts pl al ps hgK hrk hkt hp hts hal hpl hps fr lo hfr hlo F62_ g64_ g65_ rk66_ (by omega) (⟨by omega, by omega⟩) (⟨fun h0_ => by rw [show F62_ 344 9 = Fb 344 9 by omega, show F62_ 344 10 = Fb 344 10 by omega]; exact hb.1 h0_, fun h0_ => by have h1_ := hb.2 h0_; omega⟩))
  exfalso; omega
set_option maxHeartbeats 16000000 in
theorem mb_173_19 {G : Nat → Nat → Option Nat} (hG : gg G) (F : fl_N) (X : xi_H) (hgi : gi F) (K : fl_N) (ts pl al : List Int) (ps : List (List Int)) (hgK : gi K) (hrk : rk K F) (hkt : rkt K) (hp : 0 ≤ F 344 5 ∧ F 344 5 ≤ K 1 6 - 1) (hts : rpn (F 349) (F 344 15) ts) (hal : rpn (F 353) (F 344 21) al) (hpl : rpn (F 350) (F 344 17) pl) (hps : rprd F ps ∧ ps.length = pl.length) (fr lo : Nat) (hfr : 7 ≤ fr) (hlo : 165 ≤ lo) (Fb : fl_N) (hg_Fb : gi Fb) (hf_Fb : fs [(344, 344, 5, 5), (344, 344, 9, 10), (344, 344, 21, 21), (344, 344, 63, 63), (353, 363, 0, 100000)] F Fb) (hrk_b : rk K Fb) (hbd : ¬ Fb 344 9 = 0) (hp_b : 0 ≤ Fb 344 5 ∧ Fb 344 5 ≤ K 1 6 - 1) (hb : (F 344 9 = 0 → sp_a1 K ts pl ps al (F 344 5) = .inl (Fb 344 9, Fb 344 10)) ∧ (¬ F 344 9 = 0 → Fb 344 9 = F 344 9 ∧ Fb 344 10 = F 344 10)) : fl_R xi_ms 173 fr lo 19 [(0, .ref 344)] [] (fl_H sh_T G Fb ++ X) (pq_173 G F X K ts pl al ps) := by
  have hP := (rkt_p hkt hp.1 hp.2 hgK).1
  have hK16 : 0 ≤ K 1 6 ∧ K 1 6 ≤ 601 := gi_g hgK rfl
  have hko := hkt.1
  have hal1 := hal.1
  have hb21 : 0 ≤ F 344 21 ∧ F 344 21 ≤ 5 := gi_g hgi rfl
  refine ga_aload_n (v := .ref 344) hm_173 rfl rfl rfl ?_
  refine fl_iconst hm_173 rfl ?_
  have b21_ : 0 ≤ Fb 344 5 ∧ Fb 344 5 ≤ 600 := gi_g hg_Fb rfl
  refine gVv (nY := 2) (F := 2) (L := 44) (As := [.int (Int32.ofInt 4)]) (b := 344) (rest := []) hm_173 rfl hm_55 rfl rfl (fl_ob sc_344) rfl rfl rfl rfl rfl (by omega) (by omega) (mc_55 hG Fb X hg_Fb (K) (4) ([58, 97, 99, 116, 105, 111, 110]) hgK hrk_b hkt (⟨by omega, by omega⟩) (⟨by omega, by omega⟩) (by decide) (kw_4 hrk_b)) (fun _ _ h => False.elim h) ?_
  have b23_ : 0 ≤ Fb 344 10 ∧ Fb 344 10 ≤ 600 := gi_g hg_Fb rfl
  have b24_ : 0 ≤ Fb 344 9 ∧ Fb 344 9 ≤ 5 := gi_g hg_Fb rfl
  rintro A1_ (⟨F28_, hA_, g29_, s30_, c25_, c26_, c27_⟩ | ⟨F34_, hA_, g35_, s36_, c31_, c32_, c33_⟩)
  ·
    subst hA_
    have g37_ : fs [(344, 344, 5, 5), (344, 344, 9, 10), (344, 344, 21, 21), (344, 344, 63, 63), (353, 363, 0, 100000)] F F28_ := fs_tr hf_Fb s30_ rfl
    have rk38_ : rk K F28_ := rk_fs hrk_b s30_ (fs_rg rfl) rfl
    have c26_k := c26_.2 (by omega)
    clear c26_
    have b39_ : 0 ≤ F28_ 344 9 ∧ F28_ 344 9 ≤ 5 := gi_g g29_ rfl
    have b40_ : 0 ≤ F28_ 344 10 ∧ F28_ 344 10 ≤ 600 := gi_g g29_ rfl
    have b41_ : 0 ≤ F28_ 344 5 ∧ F28_ 344 5 ≤ 600 := gi_g g29_ rfl
    exact mb_173_24 hG F X hgi K ts pl al ps hgK hrk hkt hp hts hal hpl hps fr lo hfr hlo F28_ g29_ g37_ rk38_ (by omega) (⟨by omega, by omega⟩) (⟨fun h0_ => by rw [show F28_ 344 9 = Fb 344 9 by omega, show F28_ 344 10 = Fb 344 10 by omega]; exact hb.1 h0_, fun h0_ => by have h1_ := hb.2 h0_; omega⟩)
  exfalso; omega
set_option maxHeartbeats 16000000 in
theorem mb_173_13 {G : Nat → Nat → Option Nat} (hG : gg G) (F : fl_N) (X : xi_H) (hgi : gi F) (K : fl_N) (ts pl al : List Int) (ps : List (List Int)) (hgK : gi K) (hrk : rk K F) (hkt : rkt K) (hp : 0 ≤ F 344 5 ∧ F 344 5 ≤ K 1 6 - 1) (hts : rpn (F 349) (F 344 15) ts) (hal : rpn (F 353) (F 344 21) al) (hpl : rpn (F 350) (F 344 17) pl) (hps : rprd F ps ∧ ps.length = pl.length) (fr lo : Nat) (hfr : 7 ≤ fr) (hlo : 165 ≤ lo) (Fb : fl_N) (hg_Fb : gi Fb) (hf_Fb : fs [(344, 344, 5, 5), (344, 344, 9, 10), (344, 344, 21, 21), (344, 344, 63, 63), (353, 363, 0, 100000)] F Fb) (hrk_b : rk K Fb) (hbd : ¬ Fb 344 9 = 0) (hp_b : 0 ≤ Fb 344 5 ∧ Fb 344 5 ≤ K 1 6 - 1) (hb : (F 344 9 = 0 → sp_a1 K ts pl ps al (F 344 5) = .inl (Fb 344 9, Fb 344 10)) ∧ (¬ F 344 9 = 0 → Fb 344 9 = F 344 9 ∧ Fb 344 10 = F 344 10)) : fl_R xi_ms 173 fr lo 13 [(0, .ref 344)] [] (fl_H sh_T G Fb ++ X) (pq_173 G F X K ts pl al ps) := by
  have hP := (rkt_p hkt hp.1 hp.2 hgK).1
  have hK16 : 0 ≤ K 1 6 ∧ K 1 6 ≤ 601 := gi_g hgK rfl
  have hko := hkt.1
  have hal1 := hal.1
  have hb21 : 0 ≤ F 344 21 ∧ F 344 21 ≤ 5 := gi_g hgi rfl
  refine ga_aload_n (v := .ref 344) hm_173 rfl rfl rfl ?_
  refine fl_bipush hm_173 rfl rfl ?_
  have b21_ : 0 ≤ Fb 344 5 ∧ Fb 344 5 ≤ 600 := gi_g hg_Fb rfl
  refine gVv (nY := 2) (F := 2) (L := 41) (As := [.int (Int32.ofInt 40)]) (b := 344) (rest := []) hm_173 rfl hm_51 rfl rfl (fl_ob sc_344) rfl rfl rfl rfl rfl (by omega) (by omega) (mc_51 hG Fb X hg_Fb (K) (40) (0) hgK hrk_b hkt (⟨by omega, by omega⟩) (by omega) (by omega)) (fun _ _ h => False.elim h) ?_
  have b23_ : 0 ≤ Fb 344 10 ∧ Fb 344 10 ≤ 600 := gi_g hg_Fb rfl
  have b24_ : 0 ≤ Fb 344 9 ∧ Fb 344 9 ≤ 5 := gi_g hg_Fb rfl
  rintro A1_ (⟨F28_, hA_, g29_, s30_, c25_, c26_, c27_⟩ | ⟨F34_, hA_, g35_, s36_, c31_, c32_, c33_⟩)
  ·
    subst hA_
    have g37_ : fs [(344, 344, 5, 5), (344, 344, 9, 10), (344, 344, 21, 21), (344, 344, 63, 63), (353, 363, 0, 100000)] F F28_ := fs_tr hf_Fb s30_ rfl
    have rk38_ : rk K F28_ := rk_fs hrk_b s30_ (fs_rg rfl) rfl
    have c26_k := c26_.2 (by omega)
    clear c26_
    have b39_ : 0 ≤ F28_ 344 9 ∧ F28_ 344 9 ≤ 5 := gi_g g29_ rfl
    have b40_ : 0 ≤ F28_ 344 10 ∧ F28_ 344 10 ≤ 600 := gi_g g29_ rfl
    have b41_ : 0 ≤ F28_ 344 5 ∧ F28_ 344 5 ≤ 600 := gi_g g29_ rfl
    exact mb_173_19 hG F X hgi K ts pl al ps hgK hrk hkt hp hts hal hpl hps fr lo hfr hlo F28_ g29_ g37_ rk38_ (by omega) (⟨by omega, by omega⟩) (⟨fun h0_ => by rw [show F28_ 344 9 = Fb 344 9 by omega, show F28_ 344 10 = Fb 344 10 by omega]; exact hb.1 h0_, fun h0_ => by have h1_ := hb.2 h0_; omega⟩)
  exfalso; omega
set_option maxHeartbeats 16000000 in
theorem mg_173_142 {G : Nat → Nat → Option Nat} (hG : gg G) (F : fl_N) (X : xi_H) (hgi : gi F) (K : fl_N) (ts pl al : List Int) (ps : List (List Int)) (hgK : gi K) (hrk : rk K F) (hkt : rkt K) (hp : 0 ≤ F 344 5 ∧ F 344 5 ≤ K 1 6 - 1) (hts : rpn (F 349) (F 344 15) ts) (hal : rpn (F 353) (F 344 21) al) (hpl : rpn (F 350) (F 344 17) pl) (hps : rprd F ps ∧ ps.length = pl.length) (fr lo : Nat) (hfr : 7 ≤ fr) (hlo : 165 ≤ lo) (Fg : fl_N) (cn_ : Int) (l2_ : List Int) (tl2_ : List Int) (hg_Fg : gi Fg) (hf_Fg : fs [(344, 344, 5, 5), (344, 344, 9, 10), (344, 344, 21, 21), (344, 344, 63, 63), (353, 363, 0, 100000)] F Fg) (hrk_g : rk K Fg) (h0g : Fg 344 9 = 0 ∧ F 344 9 = 0) (hp_g : 0 ≤ Fg 344 5 ∧ Fg 344 5 ≤ K 1 6 - 1) (hq_ : sp_a1 K ts pl ps al (F 344 5) = sp_ac2 K pl ps (al ++ [cn_]) l2_ tl2_ (Fg 344 5)) (h21g : Fg 344 21 = F 344 21 ∧ F 344 21 ≤ 4) (hnm : nrel cn_ (Fg 353 (F 344 21).toNat)) (hal_g : rpn (Fg 353) (F 344 21) al) (ct5_ : rpn (fun j => Fg 356 ((3 * F 344 21).toNat + j)) (Fg 354 (F 344 21).toNat) l2_) (ct4_ : rty (Fg 355) (3 * F 344 21).toNat tl2_) (ct6_ : l2_.length = tl2_.length) (h358 : Fg 358 (F 344 21).toNat = 0) (h359 : Fg 359 (F 344 21).toNat = 0) (hcg : 0 ≤ Fg 357 (F 344 21).toNat ∧ ∀ j : Nat, (j : Int) < F 344 21 → Fg 357 j = F 357 j) : fl_R xi_ms 173 fr lo 142 [(3, .int (Int32.ofInt (F 344 21))), (0, .ref 344)] [] (fl_H sh_T G Fg ++ X) (pq_173 G F X K ts pl al ps) := by
  have hP := (rkt_p hkt hp.1 hp.2 hgK).1
  have hK16 : 0 ≤ K 1 6 ∧ K 1 6 ≤ 601 := gi_g hgK rfl
  have hko := hkt.1
  have hal1 := hal.1
  have hb21 : 0 ≤ F 344 21 ∧ F 344 21 ≤ 5 := gi_g hgi rfl
  have hbg5 : 0 ≤ Fg 344 5 ∧ Fg 344 5 ≤ 600 := gi_g hg_Fg rfl
  refine ga_aload_n (v := .ref 344) hm_173 rfl rfl rfl ?_
  refine fl_bipush hm_173 rfl rfl ?_
  have b21_ : 0 ≤ Fg 344 5 ∧ Fg 344 5 ≤ 600 := gi_g hg_Fg rfl
  refine gVi (nY := 4) (F := 1) (L := 21) (As := [.int (Int32.ofInt 6)]) (b := 344) (rest := []) hm_173 rfl hm_56 rfl rfl (fl_ob sc_344) rfl rfl rfl rfl rfl (by omega) (by omega) (mc_56 hG Fg X hg_Fg (K) (6) ([58, 112, 114, 101, 99, 111, 110, 100, 105, 116, 105, 111, 110]) hgK hrk_g hkt (⟨by omega, by omega⟩) (⟨by omega, by omega⟩) (by decide) (kw_6 hrk_g)) (fun _ _ h => False.elim h) ?_
  have b23_ : 0 ≤ Fg 344 9 ∧ Fg 344 9 ≤ 5 := gi_g hg_Fg rfl
  rintro z22_ A1_ (⟨hA_, hz_, c24_⟩ | ⟨hA_, hz_, c25_, c26_⟩)
  ·
    subst hA_
    subst hz_
    refine fl_if_eq hm_173 rfl ⟨by omega, by omega⟩ (fun _ => ?_) (fun h => absurd (by omega) h)
    refine ga_aload_n (v := .ref 344) hm_173 rfl rfl rfl ?_
    refine fl_bipush hm_173 rfl rfl ?_
    refine gVv (nY := 2) (F := 2) (L := 44) (As := [.int (Int32.ofInt 7)]) (b := 344) (rest := []) hm_173 rfl hm_55 rfl rfl (fl_ob sc_344) rfl rfl rfl rfl rfl (by omega) (by omega) (mc_55 hG Fg X hg_Fg (K) (7) ([58, 101, 102, 102, 101, 99, 116]) hgK hrk_g hkt (⟨by omega, by omega⟩) (⟨by omega, by omega⟩) (by decide) (kw_7 hrk_g)) (fun _ _ h => False.elim h) ?_
    have b28_ : 0 ≤ Fg 344 10 ∧ Fg 344 10 ≤ 600 := gi_g hg_Fg rfl
    rintro A1_ (⟨F32_, hA_, g33_, s34_, c29_, c30_, c31_⟩ | ⟨F38_, hA_, g39_, s40_, c35_, c36_, c37_⟩)
    ·
      subst hA_
      have g41_ : fs [(344, 344, 5, 5), (344, 344, 9, 10), (344, 344, 21, 21), (344, 344, 63, 63), (353, 363, 0, 100000)] F F32_ := fs_tr hf_Fg s34_ rfl
      have rk42_ : rk K F32_ := rk_fs hrk_g s34_ (fs_rg rfl) rfl
      have c30_s := c30_.1 (by omega)
      clear c30_
      have b43_ : 0 ≤ F32_ 344 9 ∧ F32_ 344 9 ≤ 5 := gi_g g33_ rfl
      have b44_ : 0 ≤ F32_ 344 10 ∧ F32_ 344 10 ≤ 600 := gi_g g33_ rfl
      have b45_ : 0 ≤ F32_ 344 5 ∧ F32_ 344 5 ≤ 600 := gi_g g33_ rfl
      have e46_ : F32_ 344 21 = Fg 344 21 := (s34_ 344 21 rfl).trans (rfl)
      have b47_ : 0 ≤ Fg 344 21 ∧ Fg 344 21 ≤ 5 := gi_g hg_Fg rfl
      exact mb_173_176 hG F X hgi K ts pl al ps hgK hrk hkt hp hts hal hpl hps fr lo hfr hlo F32_ g33_ g41_ rk42_ (by omega) (⟨by omega, by omega⟩) (⟨by intro h0_; have hs_ := c30_s; rw [hq_, sp_ac2]; rw [if_neg (fun h8_ => c24_ ⟨by omega, h8_⟩)]; simp only [pb_r]; rw [hs_]; try (show Sum.inl _ = _); try (congr 2 <;> omega), fun h0_ => by exfalso; omega⟩) (⟨by omega, by omega⟩)
    subst hA_
    have g48_ : fs [(344, 344, 5, 5), (344, 344, 9, 10), (344, 344, 21, 21), (344, 344, 63, 63), (353, 363, 0, 100000)] F F38_ := fs_tr hf_Fg s40_ rfl
    have rk49_ : rk K F38_ := rk_fs hrk_g s40_ (fs_rg rfl) rfl
    refine ga_aload_n (v := .ref 344) hm_173 rfl rfl rfl ?_
    refine ga_iload_n (z := F 344 21) hm_173 rfl rfl ?_
    have b50_ : 0 ≤ F38_ 344 5 ∧ F38_ 344 5 ≤ 600 := gi_g g39_ rfl
    have e51_ : F38_ 354 (F 344 21).toNat = Fg 354 (F 344 21).toNat := (s40_ 354 (F 344 21).toNat (by first | exact fs_c rfl | exact (fs_n (by omega) (fs_n (by omega) rfl)))).trans (rfl)
    have e52_ : F38_ 359 (F 344 21).toNat = Fg 359 (F 344 21).toNat := (s40_ 359 (F 344 21).toNat (by first | exact fs_c rfl | exact (fs_n (by omega) (fs_n (by omega) rfl)))).trans (rfl)
    refine gVv (nY := 4) (F := 6) (L := 140) (As := [.int (Int32.ofInt (F 344 21))]) (b := 344) (rest := []) hm_173 rfl hm_176 rfl rfl (fl_ob sc_344) rfl rfl rfl rfl rfl (by omega) (by omega) (mc_176 hG F38_ X g39_ (K) (F 344 21) (3) (l2_) (tl2_) (pl) (ps) hgK rk49_ hkt (⟨by omega, by omega⟩) (fun _ => ⟨Or.inr ⟨by omega, rfl, (by rw [show F38_ 354 (F 344 21).toNat = Fg 354 (F 344 21).toNat from e51_]; exact rpn_cg ct5_ (fun j hj => (show F38_ 356 ((3 * F 344 21).toNat + j) = Fg 356 ((3 * F 344 21).toNat + j) from (s40_ 356 ((3 * F 344 21).toNat + j) (by first | exact fs_c rfl | exact (fs_n (by omega) (fs_n (by omega) rfl))))))), rty_cg ct4_ (fun j hj => (show F38_ 355 ((3 * F 344 21).toNat + j) = Fg 355 ((3 * F 344 21).toNat + j) from (s40_ 355 ((3 * F 344 21).toNat + j) (by first | exact fs_c rfl | exact (fs_n (by omega) (fs_n (by omega) rfl))))))⟩, ct6_⟩) (⟨by omega, by omega⟩) ((rpn_fs (rpn_fs hpl hf_Fg (fun _ => (by first | exact fs_c rfl | exact (fs_n (by omega) (fs_n (by omega) (fs_n (by omega) (fs_n (by omega) (fs_n (by omega) rfl))))))) (by first | exact fs_c rfl | exact (fs_n (by omega) (fs_n (by omega) (fs_n (by omega) (fs_n (by omega) (fs_n (by omega) rfl))))))) s40_ (fun _ => (by first | exact fs_c rfl | exact (fs_n (by omega) (fs_n (by omega) rfl)))) (by first | exact fs_c rfl | exact (fs_n (by omega) (fs_n (by omega) rfl))))) (⟨(rprd_fs (rprd_fs hps.1 hf_Fg (by first | exact fs_rg rfl | exact fun r j hj => (fs_n (by omega) (fs_n (by omega) (fs_n (by omega) (fs_n (by omega) (fs_n (by omega) rfl))))))) s40_ (by first | exact fs_rg rfl | exact fun r j hj => (fs_n (by omega) (fs_n (by omega) rfl)))), hps.2⟩) (fun _ => Eq.trans (e52_) h359)) (fun _ _ h => False.elim h) ?_
    have b54_ : 0 ≤ F38_ 344 10 ∧ F38_ 344 10 ≤ 600 := gi_g g39_ rfl
    have b55_ : 0 ≤ F38_ 344 9 ∧ F38_ 344 9 ≤ 5 := gi_g g39_ rfl
    rintro A1_ (⟨F59_, hA_, g60_, s61_, c56_, c57_, c58_⟩ | ⟨F66_, hA_, g67_, s68_, c62_, c63_, c64_, c65_⟩)
    ·
      subst hA_
      have g69_ : fs [(344, 344, 5, 5), (344, 344, 9, 10), (344, 344, 21, 21), (344, 344, 63, 63), (353, 363, 0, 100000)] F F59_ := fs_tr g48_ s61_ rfl
      have rk70_ : rk K F59_ := rk_fs rk49_ s61_ (fs_rg rfl) rfl
      have c57_s := c57_.1 (by omega)
      clear c57_
      have b71_ : 0 ≤ F59_ 344 9 ∧ F59_ 344 9 ≤ 5 := gi_g g60_ rfl
      have b72_ : 0 ≤ F59_ 344 10 ∧ F59_ 344 10 ≤ 600 := gi_g g60_ rfl
      have b73_ : 0 ≤ F59_ 344 5 ∧ F59_ 344 5 ≤ 600 := gi_g g60_ rfl
      have e74_ : F38_ 344 21 = Fg 344 21 := (s40_ 344 21 rfl).trans (rfl)
      have e75_ : F59_ 344 21 = Fg 344 21 := (s61_ 344 21 rfl).trans (e74_)
      have b76_ : 0 ≤ Fg 344 21 ∧ Fg 344 21 ≤ 5 := gi_g hg_Fg rfl
      exact mb_173_181 hG F X hgi K ts pl al ps hgK hrk hkt hp hts hal hpl hps fr lo hfr hlo F59_ g60_ g69_ rk70_ (by omega) (⟨by omega, by omega⟩) (⟨by intro h0_; have hs_ := c57_s; rw [hq_, sp_ac2]; rw [if_neg (fun h8_ => c24_ ⟨by omega, h8_⟩)]; simp only [pb_r]; rw [c36_]; simp only [pb_r]; rw [hs_]; try (show Sum.inl _ = _); try (congr 2 <;> omega), fun h0_ => by exfalso; omega⟩) (⟨by omega, by omega⟩)
    subst hA_
    have g77_ : fs [(344, 344, 5, 5), (344, 344, 9, 10), (344, 344, 21, 21), (344, 344, 63, 63), (353, 363, 0, 100000)] F F66_ := fs_tr g48_ s68_ rfl
    have rk78_ : rk K F66_ := rk_fs rk49_ s68_ (fs_rg rfl) rfl
    obtain ⟨c2_, ce1_⟩ := c63_
    refine ga_aload_n (v := .ref 344) hm_173 rfl rfl rfl ?_
    refine fl_bipush hm_173 rfl rfl ?_
    have b79_ : 0 ≤ F66_ 344 5 ∧ F66_ 344 5 ≤ 600 := gi_g g67_ rfl
    refine gVv (nY := 2) (F := 2) (L := 41) (As := [.int (Int32.ofInt 41)]) (b := 344) (rest := []) hm_173 rfl hm_51 rfl rfl (fl_ob sc_344) rfl rfl rfl rfl rfl (by omega) (by omega) (mc_51 hG F66_ X g67_ (K) (41) (1) hgK rk78_ hkt (⟨by omega, by omega⟩) (by omega) (by omega)) (fun _ _ h => False.elim h) ?_
    have b81_ : 0 ≤ F66_ 344 10 ∧ F66_ 344 10 ≤ 600 := gi_g g67_ rfl
    have b82_ : 0 ≤ F66_ 344 9 ∧ F66_ 344 9 ≤ 5 := gi_g g67_ rfl
    rintro A1_ (⟨F86_, hA_, g87_, s88_, c83_, c84_, c85_⟩ | ⟨F92_, hA_, g93_, s94_, c89_, c90_, c91_⟩)
    ·
      subst hA_
      have g95_ : fs [(344, 344, 5, 5), (344, 344, 9, 10), (344, 344, 21, 21), (344, 344, 63, 63), (353, 363, 0, 100000)] F F86_ := fs_tr g77_ s88_ rfl
      have rk96_ : rk K F86_ := rk_fs rk78_ s88_ (fs_rg rfl) rfl
      have c84_s := c84_.1 (by omega)
      clear c84_
      have b97_ : 0 ≤ F86_ 344 9 ∧ F86_ 344 9 ≤ 5 := gi_g g87_ rfl
      have b98_ : 0 ≤ F86_ 344 10 ∧ F86_ 344 10 ≤ 600 := gi_g g87_ rfl
      have b99_ : 0 ≤ F86_ 344 5 ∧ F86_ 344 5 ≤ 600 := gi_g g87_ rfl
      have e100_ : F38_ 344 21 = Fg 344 21 := (s40_ 344 21 rfl).trans (rfl)
      have e101_ : F66_ 344 21 = Fg 344 21 := (s68_ 344 21 rfl).trans (e100_)
      have e102_ : F86_ 344 21 = Fg 344 21 := (s88_ 344 21 rfl).trans (e101_)
      have b103_ : 0 ≤ Fg 344 21 ∧ Fg 344 21 ≤ 5 := gi_g hg_Fg rfl
      exact mb_173_187 hG F X hgi K ts pl al ps hgK hrk hkt hp hts hal hpl hps fr lo hfr hlo F86_ g87_ g95_ rk96_ (by omega) (⟨by omega, by omega⟩) (⟨by intro h0_; have hs_ := c84_s; rw [hq_, sp_ac2]; rw [if_neg (fun h8_ => c24_ ⟨by omega, h8_⟩)]; simp only [pb_r]; rw [c36_]; simp only [pb_r]; rw [ce1_]; simp only [pb_r]; rw [hs_]; try (show Sum.inl _ = _); try (congr 2 <;> omega), fun h0_ => by exfalso; omega⟩) (⟨by omega, by omega⟩)
    subst hA_
    have g104_ : fs [(344, 344, 5, 5), (344, 344, 9, 10), (344, 344, 21, 21), (344, 344, 63, 63), (353, 363, 0, 100000)] F F92_ := fs_tr g77_ s94_ rfl
    have rk105_ : rk K F92_ := rk_fs rk78_ s94_ (fs_rg rfl) rfl
    refine ga_aload_n (v := .ref 344) hm_173 rfl rfl rfl ?_
    refine ga_dup hm_173 rfl rfl ?_
    have e106_ : F38_ 344 21 = Fg 344 21 := (s40_ 344 21 rfl).trans (rfl)
    have e107_ : F66_ 344 21 = Fg 344 21 := (s68_ 344 21 rfl).trans (e106_)
    have e108_ : F92_ 344 21 = Fg 344 21 := (s94_ 344 21 rfl).trans (e107_)
    have b109_ : 0 ≤ Fg 344 21 ∧ Fg 344 21 ≤ 5 := gi_g hg_Fg rfl
    refine ga_geti (z := Fg 344 21) hm_173 rfl sc_344 rfl (e108_) ?_
    refine fl_iconst hm_173 rfl ?_
    refine ga_iadd (a := Fg 344 21) (b := 1) (c := Fg 344 21 + 1) hm_173 rfl (by omega) ?_
    refine ga_puti (z := Fg 344 21 + 1) hm_173 rfl sc_344 rfl rfl ?_
    obtain ⟨F110_, q111_⟩ : ∃ Fq_, Fq_ = (fl_u F92_ 344 21 (Fg 344 21 + 1)) := ⟨_, rfl⟩
    rw [← q111_]
    have g112_ : gi F110_ := by rw [q111_]; exact gi_u (g93_) rfl (by omega) (by omega)
    have g113_ : fs [(344, 344, 5, 5), (344, 344, 9, 10), (344, 344, 21, 21), (344, 344, 63, 63), (353, 363, 0, 100000)] F F110_ := by rw [q111_]; exact fs_u (g104_) rfl
    have rk114_ : rk K F110_ := by rw [q111_]; exact rk_u (rk105_) (by first | decide | exact nc_ rfl | omega) (by first | decide | exact nc_ rfl | omega)
    refine gr_v hm_173 rfl rfl ?_
    have e115_ : F110_ 344 9 = F92_ 344 9 := by rw [q111_]; exact fl_u_ne (by first | exact nc_ rfl | decide | omega)
    have b116_ : 0 ≤ F92_ 344 9 ∧ F92_ 344 9 ≤ 5 := gi_g g93_ rfl
    have b117_ : 0 ≤ F 344 9 ∧ F 344 9 ≤ 5 := gi_g hgi rfl
    have e118_ : F110_ 344 10 = F92_ 344 10 := by rw [q111_]; exact fl_u_ne (by first | exact nc_ rfl | decide | omega)
    have e119_ : F110_ 344 5 = F92_ 344 5 := by rw [q111_]; exact fl_u_ne (by first | exact nc_ rfl | decide | omega)
    have e120_ : F110_ 344 21 = Fg 344 21 + 1 := by rw [q111_]; exact fl_u_eq
    have b121_ : 0 ≤ F92_ 344 5 ∧ F92_ 344 5 ≤ 600 := gi_g g93_ rfl
    have b122_ : 0 ≤ F 344 5 ∧ F 344 5 ≤ 600 := gi_g hgi rfl
    have e123_ : F38_ 353 (F 344 21).toNat = Fg 353 (F 344 21).toNat := (s40_ 353 (F 344 21).toNat (by first | exact fs_c rfl | exact (fs_n (by omega) (fs_n (by omega) rfl)))).trans (rfl)
    have e124_ : F66_ 353 (F 344 21).toNat = Fg 353 (F 344 21).toNat := (s68_ 353 (F 344 21).toNat (by first | exact fs_c rfl | exact (fs_n (by omega) (fs_n (by omega) (fs_n (by omega) (fs_n (by omega) (fs_n (by omega) rfl))))))).trans (e123_)
    have e125_ : F92_ 353 (F 344 21).toNat = Fg 353 (F 344 21).toNat := (s94_ 353 (F 344 21).toNat (by first | exact fs_c rfl | exact (fs_n (by omega) (fs_n (by omega) rfl)))).trans (e124_)
    have e126_ : F110_ 353 (F 344 21).toNat = Fg 353 (F 344 21).toNat := by rw [q111_]; exact (fl_u_ne (by first | exact nc_ rfl | decide | omega)).trans (e125_)
    have b127_ : 0 ≤ F 344 21 ∧ F 344 21 ≤ 5 := gi_g hgi rfl
    exact Or.inr (⟨F110_, rfl, g112_, g113_, (by omega), (⟨cn_, by rw [hq_, sp_ac2]; rw [if_neg (fun h8_ => c24_ ⟨by omega, h8_⟩)]; simp only [pb_r]; rw [c36_]; simp only [pb_r]; rw [ce1_]; simp only [pb_r]; rw [c90_]; simp only [pb_r]; try (congr 2 <;> omega), by rw [e120_, h21g.1]; exact rpn_at hal_g (fun j hj => (Eq.trans (a := F110_ 353 j) (b := F92_ 353 j) (by rw [q111_]; exact (fl_u_ne (by first | exact nc_ rfl | decide | omega))) (Eq.trans (a := F92_ 353 j) (b := F66_ 353 j) (s94_ 353 j (by first | exact fs_c rfl | exact (fs_n (by omega) (fs_n (by omega) rfl)))) (Eq.trans (a := F66_ 353 j) (b := F38_ 353 j) (s68_ 353 j (by first | exact fs_c rfl | exact (fs_n (by omega) (fs_n (by omega) (fs_n (by omega) (fs_n (by omega) (fs_n (by omega) rfl))))))) (show F38_ 353 j = Fg 353 j from (s40_ 353 j (by first | exact fs_c rfl | exact (fs_n (by omega) (fs_n (by omega) rfl))))))))) (e126_) hnm⟩), (⟨by omega, by omega⟩), (fun j hj => ((show cst (F 344 21).toNat Fg F110_ from (by rw [q111_]; exact (cst_u (cst_fs (cst_tr (cst_fs cst_r s40_ (fun _ => (by first | exact fs_c rfl | exact (fs_n (by omega) (fs_n (by omega) rfl))))) c65_) s94_ (fun _ => (by first | exact fs_c rfl | exact (fs_n (by omega) (fs_n (by omega) rfl))))) (by decide)))).2 j (by omega)).trans (hcg.2 j hj)), (⟨(show cst (F 344 21).toNat Fg F110_ from (by rw [q111_]; exact (cst_u (cst_fs (cst_tr (cst_fs cst_r s40_ (fun _ => (by first | exact fs_c rfl | exact (fs_n (by omega) (fs_n (by omega) rfl))))) c65_) s94_ (fun _ => (by first | exact fs_c rfl | exact (fs_n (by omega) (fs_n (by omega) rfl))))) (by decide)))).1 hcg.1, by omega⟩)⟩)
  subst hA_
  subst hz_
  refine fl_if_eq hm_173 rfl ⟨by omega, by omega⟩ (fun h => absurd h (by omega)) (fun _ => ?_)
  have hszW := (kw_iff (w := [58, 112, 114, 101, 99, 111, 110, 100, 105, 116, 105, 111, 110]) hkt hgK (p := Fg 344 5) (by omega) (by omega) (by decide) (by decide)).mp c25_.2
  refine ga_aload_n (v := .ref 344) hm_173 rfl rfl rfl ?_
  refine ga_dup hm_173 rfl rfl ?_
  refine ga_geti (z := Fg 344 5) hm_173 rfl sc_344 rfl (rfl) ?_
  refine fl_iconst hm_173 rfl ?_
  refine ga_iadd (a := Fg 344 5) (b := 1) (c := Fg 344 5 + 1) hm_173 rfl (by omega) ?_
  refine ga_puti (z := Fg 344 5 + 1) hm_173 rfl sc_344 rfl rfl ?_
  refine ga_aload_n (v := .ref 344) hm_173 rfl rfl rfl ?_
  refine ga_iload_n (z := F 344 21) hm_173 rfl rfl ?_
  refine fl_bipush hm_173 rfl rfl ?_
  refine ga_iload_n (z := F 344 21) hm_173 rfl rfl ?_
  refine ga_imul (a := 8) (b := F 344 21) (c := 8 * (F 344 21)) hm_173 rfl (by omega) ?_
  obtain ⟨F128_, q129_⟩ : ∃ Fq_, Fq_ = (fl_u Fg 344 5 (Fg 344 5 + 1)) := ⟨_, rfl⟩
  rw [← q129_]
  have g130_ : gi F128_ := by rw [q129_]; exact gi_u (hg_Fg) rfl (by omega) (by omega)
  have g131_ : fs [(344, 344, 5, 5), (344, 344, 9, 10), (344, 344, 21, 21), (344, 344, 63, 63), (353, 363, 0, 100000)] F F128_ := by rw [q129_]; exact fs_u (hf_Fg) rfl
  have rk132_ : rk K F128_ := by rw [q129_]; exact rk_u (hrk_g) (by first | decide | exact nc_ rfl | omega) (by first | decide | exact nc_ rfl | omega)
  have e133_ : F128_ 344 5 = Fg 344 5 + 1 := by rw [q129_]; exact fl_u_eq
  have e134_ : F128_ 354 (F 344 21).toNat = Fg 354 (F 344 21).toNat := by rw [q129_]; exact fl_u_ne (by first | exact nc_ rfl | decide | omega)
  have e135_ : F128_ 358 (F 344 21).toNat = Fg 358 (F 344 21).toNat := by rw [q129_]; exact fl_u_ne (by first | exact nc_ rfl | decide | omega)
  refine gVv (nY := 4) (F := 6) (L := 142) (As := [.int (Int32.ofInt (F 344 21)), .int (Int32.ofInt (8 * (F 344 21)))]) (b := 344) (rest := []) hm_173 rfl hm_175 rfl rfl (fl_ob sc_344) rfl rfl rfl rfl rfl (by omega) (by omega) (mc_175 hG F128_ X g130_ (K) (F 344 21) (8 * (F 344 21)) (3) (l2_) (tl2_) (pl) (ps) hgK rk132_ hkt (⟨by omega, by omega⟩) (Or.inr ⟨by omega, rfl, (by rw [show F128_ 354 (F 344 21).toNat = Fg 354 (F 344 21).toNat from e134_]; exact rpn_cg ct5_ (fun j hj => (show F128_ 356 ((3 * F 344 21).toNat + j) = Fg 356 ((3 * F 344 21).toNat + j) from (by rw [q129_]; exact (fl_u_ne (by first | exact nc_ rfl | decide | omega)))))), rty_cg ct4_ (fun j hj => (show F128_ 355 ((3 * F 344 21).toNat + j) = Fg 355 ((3 * F 344 21).toNat + j) from (by rw [q129_]; exact (fl_u_ne (by first | exact nc_ rfl | decide | omega)))))⟩) (ct6_) (⟨by omega, by omega⟩) ((by rw [q129_]; exact (rpn_u (rpn_fs hpl hf_Fg (fun _ => (by first | exact fs_c rfl | exact (fs_n (by omega) (fs_n (by omega) (fs_n (by omega) (fs_n (by omega) (fs_n (by omega) rfl))))))) (by first | exact fs_c rfl | exact (fs_n (by omega) (fs_n (by omega) (fs_n (by omega) (fs_n (by omega) (fs_n (by omega) rfl))))))) (by first | decide | exact nc_ rfl | omega) (by first | decide | exact nc_ rfl | omega)))) (⟨(by rw [q129_]; exact (rprd_u (rprd_fs hps.1 hf_Fg (by first | exact fs_rg rfl | exact fun r j hj => (fs_n (by omega) (fs_n (by omega) (fs_n (by omega) (fs_n (by omega) (fs_n (by omega) rfl))))))) (by first | decide | exact nc_ rfl | omega))), hps.2⟩) (⟨by omega, by omega⟩) (Or.inl (by omega)) (Eq.trans (e135_) h358)) (fun _ _ h => False.elim h) ?_
  have e137_ : F128_ 344 10 = Fg 344 10 := by rw [q129_]; exact fl_u_ne (by first | exact nc_ rfl | decide | omega)
  have b138_ : 0 ≤ Fg 344 10 ∧ Fg 344 10 ≤ 600 := gi_g hg_Fg rfl
  have e139_ : F128_ 344 9 = Fg 344 9 := by rw [q129_]; exact fl_u_ne (by first | exact nc_ rfl | decide | omega)
  rintro A1_ (⟨F143_, hA_, g144_, s145_, c140_, c141_, c142_⟩ | ⟨F149_, hA_, g150_, s151_, c146_, c147_, c148_⟩)
  ·
    subst hA_
    have g152_ : fs [(344, 344, 5, 5), (344, 344, 9, 10), (344, 344, 21, 21), (344, 344, 63, 63), (353, 363, 0, 100000)] F F143_ := fs_tr g131_ s145_ rfl
    have rk153_ : rk K F143_ := rk_fs rk132_ s145_ (fs_rg rfl) rfl
    try simp only [e133_, e137_, e139_] at c141_
    have c141_s := c141_.1 (by omega)
    clear c141_
    have b154_ : 0 ≤ F143_ 344 9 ∧ F143_ 344 9 ≤ 5 := gi_g g144_ rfl
    have b155_ : 0 ≤ F143_ 344 10 ∧ F143_ 344 10 ≤ 600 := gi_g g144_ rfl
    have b156_ : 0 ≤ F143_ 344 5 ∧ F143_ 344 5 ≤ 600 := gi_g g144_ rfl
    have e157_ : F128_ 344 21 = Fg 344 21 := by rw [q129_]; exact fl_u_ne (by first | exact nc_ rfl | decide | omega)
    have e158_ : F143_ 344 21 = Fg 344 21 := (s145_ 344 21 rfl).trans (e157_)
    have b159_ : 0 ≤ Fg 344 21 ∧ Fg 344 21 ≤ 5 := gi_g hg_Fg rfl
    exact mb_173_170 hG F X hgi K ts pl al ps hgK hrk hkt hp hts hal hpl hps fr lo hfr hlo F143_ g144_ g152_ rk153_ (by omega) (⟨by omega, by omega⟩) (⟨by intro h0_; have hs_ := c141_s; rw [hq_, sp_ac2]; rw [if_pos c25_.2, (show sk K (Fg 344 5) = Fg 344 5 + 1 by rw [sk, if_pos (by omega)])]; rw [hs_]; try (show Sum.inl _ = _); try (congr 2 <;> omega), fun h0_ => by exfalso; omega⟩) (⟨by omega, by omega⟩)
  subst hA_
  have g160_ : fs [(344, 344, 5, 5), (344, 344, 9, 10), (344, 344, 21, 21), (344, 344, 63, 63), (353, 363, 0, 100000)] F F149_ := fs_tr g131_ s151_ rfl
  have rk161_ : rk K F149_ := rk_fs rk132_ s151_ (fs_rg rfl) rfl
  try simp only [e139_] at c146_
  try simp only [e133_] at c147_
  refine ga_aload_n (v := .ref 344) hm_173 rfl rfl rfl ?_
  refine fl_bipush hm_173 rfl rfl ?_
  have b162_ : 0 ≤ F149_ 344 5 ∧ F149_ 344 5 ≤ 600 := gi_g g150_ rfl
  refine gVv (nY := 2) (F := 2) (L := 44) (As := [.int (Int32.ofInt 7)]) (b := 344) (rest := []) hm_173 rfl hm_55 rfl rfl (fl_ob sc_344) rfl rfl rfl rfl rfl (by omega) (by omega) (mc_55 hG F149_ X g150_ (K) (7) ([58, 101, 102, 102, 101, 99, 116]) hgK rk161_ hkt (⟨by omega, by omega⟩) (⟨by omega, by omega⟩) (by decide) (kw_7 rk161_)) (fun _ _ h => False.elim h) ?_
  have b164_ : 0 ≤ F149_ 344 10 ∧ F149_ 344 10 ≤ 600 := gi_g g150_ rfl
  have b165_ : 0 ≤ F149_ 344 9 ∧ F149_ 344 9 ≤ 5 := gi_g g150_ rfl
  rintro A1_ (⟨F169_, hA_, g170_, s171_, c166_, c167_, c168_⟩ | ⟨F175_, hA_, g176_, s177_, c172_, c173_, c174_⟩)
  ·
    subst hA_
    have g178_ : fs [(344, 344, 5, 5), (344, 344, 9, 10), (344, 344, 21, 21), (344, 344, 63, 63), (353, 363, 0, 100000)] F F169_ := fs_tr g160_ s171_ rfl
    have rk179_ : rk K F169_ := rk_fs rk161_ s171_ (fs_rg rfl) rfl
    have c167_s := c167_.1 (by omega)
    clear c167_
    have b180_ : 0 ≤ F169_ 344 9 ∧ F169_ 344 9 ≤ 5 := gi_g g170_ rfl
    have b181_ : 0 ≤ F169_ 344 10 ∧ F169_ 344 10 ≤ 600 := gi_g g170_ rfl
    have b182_ : 0 ≤ F169_ 344 5 ∧ F169_ 344 5 ≤ 600 := gi_g g170_ rfl
    have e183_ : F128_ 344 21 = Fg 344 21 := by rw [q129_]; exact fl_u_ne (by first | exact nc_ rfl | decide | omega)
    have e184_ : F149_ 344 21 = Fg 344 21 := (s151_ 344 21 rfl).trans (e183_)
    have e185_ : F169_ 344 21 = Fg 344 21 := (s171_ 344 21 rfl).trans (e184_)
    have b186_ : 0 ≤ Fg 344 21 ∧ Fg 344 21 ≤ 5 := gi_g hg_Fg rfl
    exact mb_173_176 hG F X hgi K ts pl al ps hgK hrk hkt hp hts hal hpl hps fr lo hfr hlo F169_ g170_ g178_ rk179_ (by omega) (⟨by omega, by omega⟩) (⟨by intro h0_; have hs_ := c167_s; rw [hq_, sp_ac2]; rw [if_pos c25_.2, (show sk K (Fg 344 5) = Fg 344 5 + 1 by rw [sk, if_pos (by omega)])]; rw [c147_]; simp only [pb_r]; rw [hs_]; try (show Sum.inl _ = _); try (congr 2 <;> omega), fun h0_ => by exfalso; omega⟩) (⟨by omega, by omega⟩)
  subst hA_
  have g187_ : fs [(344, 344, 5, 5), (344, 344, 9, 10), (344, 344, 21, 21), (344, 344, 63, 63), (353, 363, 0, 100000)] F F175_ := fs_tr g160_ s177_ rfl
  have rk188_ : rk K F175_ := rk_fs rk161_ s177_ (fs_rg rfl) rfl
  refine ga_aload_n (v := .ref 344) hm_173 rfl rfl rfl ?_
  refine ga_iload_n (z := F 344 21) hm_173 rfl rfl ?_
  have b189_ : 0 ≤ F175_ 344 5 ∧ F175_ 344 5 ≤ 600 := gi_g g176_ rfl
  have e190_ : F149_ 354 (F 344 21).toNat = Fg 354 (F 344 21).toNat := (s151_ 354 (F 344 21).toNat (by first | exact fs_c rfl | exact (fs_n (by omega) (fs_n (by omega) (fs_n (by omega) (fs_n (by omega) rfl)))))).trans (e134_)
  have e191_ : F175_ 354 (F 344 21).toNat = Fg 354 (F 344 21).toNat := (s177_ 354 (F 344 21).toNat (by first | exact fs_c rfl | exact (fs_n (by omega) (fs_n (by omega) rfl)))).trans (e190_)
  have e192_ : F128_ 359 (F 344 21).toNat = Fg 359 (F 344 21).toNat := by rw [q129_]; exact fl_u_ne (by first | exact nc_ rfl | decide | omega)
  have e193_ : F149_ 359 (F 344 21).toNat = Fg 359 (F 344 21).toNat := (s151_ 359 (F 344 21).toNat (by first | exact fs_c rfl | exact (fs_n (by omega) (fs_n (by omega) (fs_n (by omega) (fs_n (by omega) rfl)))))).trans (e192_)
  have e194_ : F175_ 359 (F 344 21).toNat = Fg 359 (F 344 21).toNat := (s177_ 359 (F 344 21).toNat (by first | exact fs_c rfl | exact (fs_n (by omega) (fs_n (by omega) rfl)))).trans (e193_)
  refine gVv (nY := 4) (F := 6) (L := 140) (As := [.int (Int32.ofInt (F 344 21))]) (b := 344) (rest := []) hm_173 rfl hm_176 rfl rfl (fl_ob sc_344) rfl rfl rfl rfl rfl (by omega) (by omega) (mc_176 hG F175_ X g176_ (K) (F 344 21) (3) (l2_) (tl2_) (pl) (ps) hgK rk188_ hkt (⟨by omega, by omega⟩) (fun _ => ⟨Or.inr ⟨by omega, rfl, (by rw [show F175_ 354 (F 344 21).toNat = Fg 354 (F 344 21).toNat from e191_]; exact rpn_cg ct5_ (fun j hj => (Eq.trans (a := F175_ 356 ((3 * F 344 21).toNat + j)) (b := F149_ 356 ((3 * F 344 21).toNat + j)) (s177_ 356 ((3 * F 344 21).toNat + j) (by first | exact fs_c rfl | exact (fs_n (by omega) (fs_n (by omega) rfl)))) (Eq.trans (a := F149_ 356 ((3 * F 344 21).toNat + j)) (b := F128_ 356 ((3 * F 344 21).toNat + j)) (s151_ 356 ((3 * F 344 21).toNat + j) (by first | exact fs_c rfl | exact (fs_n (by omega) (fs_n (by omega) (fs_n (by omega) (fs_n (by omega) rfl)))))) (show F128_ 356 ((3 * F 344 21).toNat + j) = Fg 356 ((3 * F 344 21).toNat + j) from (by rw [q129_]; exact (fl_u_ne (by first | exact nc_ rfl | decide | omega)))))))), rty_cg ct4_ (fun j hj => (Eq.trans (a := F175_ 355 ((3 * F 344 21).toNat + j)) (b := F149_ 355 ((3 * F 344 21).toNat + j)) (s177_ 355 ((3 * F 344 21).toNat + j) (by first | exact fs_c rfl | exact (fs_n (by omega) (fs_n (by omega) rfl)))) (Eq.trans (a := F149_ 355 ((3 * F 344 21).toNat + j)) (b := F128_ 355 ((3 * F 344 21).toNat + j)) (s151_ 355 ((3 * F 344 21).toNat + j) (by first | exact fs_c rfl | exact (fs_n (by omega) (fs_n (by omega) (fs_n (by omega) (fs_n (by omega) rfl)))))) (show F128_ 355 ((3 * F 344 21).toNat + j) = Fg 355 ((3 * F 344 21).toNat + j) from (by rw [q129_]; exact (fl_u_ne (by first | exact nc_ rfl | decide | omega)))))))⟩, ct6_⟩) (⟨by omega, by omega⟩) ((rpn_fs (rpn_fs (by rw [q129_]; exact (rpn_u (rpn_fs hpl hf_Fg (fun _ => (by first | exact fs_c rfl | exact (fs_n (by omega) (fs_n (by omega) (fs_n (by omega) (fs_n (by omega) (fs_n (by omega) rfl))))))) (by first | exact fs_c rfl | exact (fs_n (by omega) (fs_n (by omega) (fs_n (by omega) (fs_n (by omega) (fs_n (by omega) rfl))))))) (by first | decide | exact nc_ rfl | omega) (by first | decide | exact nc_ rfl | omega))) s151_ (fun _ => (by first | exact fs_c rfl | exact (fs_n (by omega) (fs_n (by omega) (fs_n (by omega) (fs_n (by omega) rfl)))))) (by first | exact fs_c rfl | exact (fs_n (by omega) (fs_n (by omega) (fs_n (by omega) (fs_n (by omega) rfl)))))) s177_ (fun _ => (by first | exact fs_c rfl | exact (fs_n (by omega) (fs_n (by omega) rfl)))) (by first | exact fs_c rfl | exact (fs_n (by omega) (fs_n (by omega) rfl))))) (⟨(rprd_fs (rprd_fs (by rw [q129_]; exact (rprd_u (rprd_fs hps.1 hf_Fg (by first | exact fs_rg rfl | exact fun r j hj => (fs_n (by omega) (fs_n (by omega) (fs_n (by omega) (fs_n (by omega) (fs_n (by omega) rfl))))))) (by first | decide | exact nc_ rfl | omega))) s151_ (by first | exact fs_rg rfl | exact fun r j hj => (fs_n (by omega) (fs_n (by omega) (fs_n (by omega) (fs_n (by omega) rfl)))))) s177_ (by first | exact fs_rg rfl | exact fun r j hj => (fs_n (by omega) (fs_n (by omega) rfl)))), hps.2⟩) (fun _ => Eq.trans (e194_) h359)) (fun _ _ h => False.elim h) ?_
  have b196_ : 0 ≤ F175_ 344 10 ∧ F175_ 344 10 ≤ 600 := gi_g g176_ rfl
  have b197_ : 0 ≤ F175_ 344 9 ∧ F175_ 344 9 ≤ 5 := gi_g g176_ rfl
  rintro A1_ (⟨F201_, hA_, g202_, s203_, c198_, c199_, c200_⟩ | ⟨F208_, hA_, g209_, s210_, c204_, c205_, c206_, c207_⟩)
  ·
    subst hA_
    have g211_ : fs [(344, 344, 5, 5), (344, 344, 9, 10), (344, 344, 21, 21), (344, 344, 63, 63), (353, 363, 0, 100000)] F F201_ := fs_tr g187_ s203_ rfl
    have rk212_ : rk K F201_ := rk_fs rk188_ s203_ (fs_rg rfl) rfl
    have c199_s := c199_.1 (by omega)
    clear c199_
    have b213_ : 0 ≤ F201_ 344 9 ∧ F201_ 344 9 ≤ 5 := gi_g g202_ rfl
    have b214_ : 0 ≤ F201_ 344 10 ∧ F201_ 344 10 ≤ 600 := gi_g g202_ rfl
    have b215_ : 0 ≤ F201_ 344 5 ∧ F201_ 344 5 ≤ 600 := gi_g g202_ rfl
    have e216_ : F128_ 344 21 = Fg 344 21 := by rw [q129_]; exact fl_u_ne (by first | exact nc_ rfl | decide | omega)
    have e217_ : F149_ 344 21 = Fg 344 21 := (s151_ 344 21 rfl).trans (e216_)
    have e218_ : F175_ 344 21 = Fg 344 21 := (s177_ 344 21 rfl).trans (e217_)
    have e219_ : F201_ 344 21 = Fg 344 21 := (s203_ 344 21 rfl).trans (e218_)
    have b220_ : 0 ≤ Fg 344 21 ∧ Fg 344 21 ≤ 5 := gi_g hg_Fg rfl
    exact mb_173_181 hG F X hgi K ts pl al ps hgK hrk hkt hp hts hal hpl hps fr lo hfr hlo F201_ g202_ g211_ rk212_ (by omega) (⟨by omega, by omega⟩) (⟨by intro h0_; have hs_ := c199_s; rw [hq_, sp_ac2]; rw [if_pos c25_.2, (show sk K (Fg 344 5) = Fg 344 5 + 1 by rw [sk, if_pos (by omega)])]; rw [c147_]; simp only [pb_r]; rw [c173_]; simp only [pb_r]; rw [hs_]; try (show Sum.inl _ = _); try (congr 2 <;> omega), fun h0_ => by exfalso; omega⟩) (⟨by omega, by omega⟩)
  subst hA_
  have g221_ : fs [(344, 344, 5, 5), (344, 344, 9, 10), (344, 344, 21, 21), (344, 344, 63, 63), (353, 363, 0, 100000)] F F208_ := fs_tr g187_ s210_ rfl
  have rk222_ : rk K F208_ := rk_fs rk188_ s210_ (fs_rg rfl) rfl
  obtain ⟨c2_, ce1_⟩ := c205_
  refine ga_aload_n (v := .ref 344) hm_173 rfl rfl rfl ?_
  refine fl_bipush hm_173 rfl rfl ?_
  have b223_ : 0 ≤ F208_ 344 5 ∧ F208_ 344 5 ≤ 600 := gi_g g209_ rfl
  refine gVv (nY := 2) (F := 2) (L := 41) (As := [.int (Int32.ofInt 41)]) (b := 344) (rest := []) hm_173 rfl hm_51 rfl rfl (fl_ob sc_344) rfl rfl rfl rfl rfl (by omega) (by omega) (mc_51 hG F208_ X g209_ (K) (41) (1) hgK rk222_ hkt (⟨by omega, by omega⟩) (by omega) (by omega)) (fun _ _ h => False.elim h) ?_
  have b225_ : 0 ≤ F208_ 344 10 ∧ F208_ 344 10 ≤ 600 := gi_g g209_ rfl
  have b226_ : 0 ≤ F208_ 344 9 ∧ F208_ 344 9 ≤ 5 := gi_g g209_ rfl
  rintro A1_ (⟨F230_, hA_, g231_, s232_, c227_, c228_, c229_⟩ | ⟨F236_, hA_, g237_, s238_, c233_, c234_, c235_⟩)
  ·
    subst hA_
    have g239_ : fs [(344, 344, 5, 5), (344, 344, 9, 10), (344, 344, 21, 21), (344, 344, 63, 63), (353, 363, 0, 100000)] F F230_ := fs_tr g221_ s232_ rfl
    have rk240_ : rk K F230_ := rk_fs rk222_ s232_ (fs_rg rfl) rfl
    have c228_s := c228_.1 (by omega)
    clear c228_
    have b241_ : 0 ≤ F230_ 344 9 ∧ F230_ 344 9 ≤ 5 := gi_g g231_ rfl
    have b242_ : 0 ≤ F230_ 344 10 ∧ F230_ 344 10 ≤ 600 := gi_g g231_ rfl
    have b243_ : 0 ≤ F230_ 344 5 ∧ F230_ 344 5 ≤ 600 := gi_g g231_ rfl
    have e244_ : F128_ 344 21 = Fg 344 21 := by rw [q129_]; exact fl_u_ne (by first | exact nc_ rfl | decide | omega)
    have e245_ : F149_ 344 21 = Fg 344 21 := (s151_ 344 21 rfl).trans (e244_)
    have e246_ : F175_ 344 21 = Fg 344 21 := (s177_ 344 21 rfl).trans (e245_)
    have e247_ : F208_ 344 21 = Fg 344 21 := (s210_ 344 21 rfl).trans (e246_)
    have e248_ : F230_ 344 21 = Fg 344 21 := (s232_ 344 21 rfl).trans (e247_)
    have b249_ : 0 ≤ Fg 344 21 ∧ Fg 344 21 ≤ 5 := gi_g hg_Fg rfl
    exact mb_173_187 hG F X hgi K ts pl al ps hgK hrk hkt hp hts hal hpl hps fr lo hfr hlo F230_ g231_ g239_ rk240_ (by omega) (⟨by omega, by omega⟩) (⟨by intro h0_; have hs_ := c228_s; rw [hq_, sp_ac2]; rw [if_pos c25_.2, (show sk K (Fg 344 5) = Fg 344 5 + 1 by rw [sk, if_pos (by omega)])]; rw [c147_]; simp only [pb_r]; rw [c173_]; simp only [pb_r]; rw [ce1_]; simp only [pb_r]; rw [hs_]; try (show Sum.inl _ = _); try (congr 2 <;> omega), fun h0_ => by exfalso; omega⟩) (⟨by omega, by omega⟩)
  subst hA_
  have g250_ : fs [(344, 344, 5, 5), (344, 344, 9, 10), (344, 344, 21, 21), (344, 344, 63, 63), (353, 363, 0, 100000)] F F236_ := fs_tr g221_ s238_ rfl
  have rk251_ : rk K F236_ := rk_fs rk222_ s238_ (fs_rg rfl) rfl
  refine ga_aload_n (v := .ref 344) hm_173 rfl rfl rfl ?_
  refine ga_dup hm_173 rfl rfl ?_
  have e252_ : F128_ 344 21 = Fg 344 21 := by rw [q129_]; exact fl_u_ne (by first | exact nc_ rfl | decide | omega)
  have e253_ : F149_ 344 21 = Fg 344 21 := (s151_ 344 21 rfl).trans (e252_)
  have e254_ : F175_ 344 21 = Fg 344 21 := (s177_ 344 21 rfl).trans (e253_)
  have e255_ : F208_ 344 21 = Fg 344 21 := (s210_ 344 21 rfl).trans (e254_)
  have e256_ : F236_ 344 21 = Fg 344 21 := (s238_ 344 21 rfl).trans (e255_)
  have b257_ : 0 ≤ Fg 344 21 ∧ Fg 344 21 ≤ 5 := gi_g hg_Fg rfl
  refine ga_geti (z := Fg 344 21) hm_173 rfl sc_344 rfl (e256_) ?_
  refine fl_iconst hm_173 rfl ?_
  refine ga_iadd (a := Fg 344 21) (b := 1) (c := Fg 344 21 + 1) hm_173 rfl (by omega) ?_
  refine ga_puti (z := Fg 344 21 + 1) hm_173 rfl sc_344 rfl rfl ?_
  obtain ⟨F258_, q259_⟩ : ∃ Fq_, Fq_ = (fl_u F236_ 344 21 (Fg 344 21 + 1)) := ⟨_, rfl⟩
  rw [← q259_]
  have g260_ : gi F258_ := by rw [q259_]; exact gi_u (g237_) rfl (by omega) (by omega)
  have g261_ : fs [(344, 344, 5, 5), (344, 344, 9, 10), (344, 344, 21, 21), (344, 344, 63, 63), (353, 363, 0, 100000)] F F258_ := by rw [q259_]; exact fs_u (g250_) rfl
  have rk262_ : rk K F258_ := by rw [q259_]; exact rk_u (rk251_) (by first | decide | exact nc_ rfl | omega) (by first | decide | exact nc_ rfl | omega)
  refine gr_v hm_173 rfl rfl ?_
  have e263_ : F258_ 344 9 = F236_ 344 9 := by rw [q259_]; exact fl_u_ne (by first | exact nc_ rfl | decide | omega)
  have b264_ : 0 ≤ F236_ 344 9 ∧ F236_ 344 9 ≤ 5 := gi_g g237_ rfl
  have b265_ : 0 ≤ F 344 9 ∧ F 344 9 ≤ 5 := gi_g hgi rfl
  have e266_ : F258_ 344 10 = F236_ 344 10 := by rw [q259_]; exact fl_u_ne (by first | exact nc_ rfl | decide | omega)
  have e267_ : F258_ 344 5 = F236_ 344 5 := by rw [q259_]; exact fl_u_ne (by first | exact nc_ rfl | decide | omega)
  have e268_ : F258_ 344 21 = Fg 344 21 + 1 := by rw [q259_]; exact fl_u_eq
  have b269_ : 0 ≤ F236_ 344 5 ∧ F236_ 344 5 ≤ 600 := gi_g g237_ rfl
  have b270_ : 0 ≤ F 344 5 ∧ F 344 5 ≤ 600 := gi_g hgi rfl
  have e271_ : F128_ 353 (F 344 21).toNat = Fg 353 (F 344 21).toNat := by rw [q129_]; exact fl_u_ne (by first | exact nc_ rfl | decide | omega)
  have e272_ : F149_ 353 (F 344 21).toNat = Fg 353 (F 344 21).toNat := (s151_ 353 (F 344 21).toNat (by first | exact fs_c rfl | exact (fs_n (by omega) (fs_n (by omega) (fs_n (by omega) (fs_n (by omega) rfl)))))).trans (e271_)
  have e273_ : F175_ 353 (F 344 21).toNat = Fg 353 (F 344 21).toNat := (s177_ 353 (F 344 21).toNat (by first | exact fs_c rfl | exact (fs_n (by omega) (fs_n (by omega) rfl)))).trans (e272_)
  have e274_ : F208_ 353 (F 344 21).toNat = Fg 353 (F 344 21).toNat := (s210_ 353 (F 344 21).toNat (by first | exact fs_c rfl | exact (fs_n (by omega) (fs_n (by omega) (fs_n (by omega) (fs_n (by omega) (fs_n (by omega) rfl))))))).trans (e273_)
  have e275_ : F236_ 353 (F 344 21).toNat = Fg 353 (F 344 21).toNat := (s238_ 353 (F 344 21).toNat (by first | exact fs_c rfl | exact (fs_n (by omega) (fs_n (by omega) rfl)))).trans (e274_)
  have e276_ : F258_ 353 (F 344 21).toNat = Fg 353 (F 344 21).toNat := by rw [q259_]; exact (fl_u_ne (by first | exact nc_ rfl | decide | omega)).trans (e275_)
  have b277_ : 0 ≤ F 344 21 ∧ F 344 21 ≤ 5 := gi_g hgi rfl
  exact Or.inr (⟨F258_, rfl, g260_, g261_, (by omega), (⟨cn_, by rw [hq_, sp_ac2]; rw [if_pos c25_.2, (show sk K (Fg 344 5) = Fg 344 5 + 1 by rw [sk, if_pos (by omega)])]; rw [c147_]; simp only [pb_r]; rw [c173_]; simp only [pb_r]; rw [ce1_]; simp only [pb_r]; rw [c234_]; simp only [pb_r]; try (congr 2 <;> omega), by rw [e268_, h21g.1]; exact rpn_at hal_g (fun j hj => (Eq.trans (a := F258_ 353 j) (b := F236_ 353 j) (by rw [q259_]; exact (fl_u_ne (by first | exact nc_ rfl | decide | omega))) (Eq.trans (a := F236_ 353 j) (b := F208_ 353 j) (s238_ 353 j (by first | exact fs_c rfl | exact (fs_n (by omega) (fs_n (by omega) rfl)))) (Eq.trans (a := F208_ 353 j) (b := F175_ 353 j) (s210_ 353 j (by first | exact fs_c rfl | exact (fs_n (by omega) (fs_n (by omega) (fs_n (by omega) (fs_n (by omega) (fs_n (by omega) rfl))))))) (Eq.trans (a := F175_ 353 j) (b := F149_ 353 j) (s177_ 353 j (by first | exact fs_c rfl | exact (fs_n (by omega) (fs_n (by omega) rfl)))) (Eq.trans (a := F149_ 353 j) (b := F128_ 353 j) (s151_ 353 j (by first | exact fs_c rfl | exact (fs_n (by omega) (fs_n (by omega) (fs_n (by omega) (fs_n (by omega) rfl)))))) (show F128_ 353 j = Fg 353 j from (by rw [q129_]; exact (fl_u_ne (by first | exact nc_ rfl | decide | omega)))))))))) (e276_) hnm⟩), (⟨by omega, by omega⟩), (fun j hj => ((show cst (F 344 21).toNat Fg F258_ from (by rw [q259_]; exact (cst_u (cst_fs (cst_tr (cst_fs (cst_fs (by rw [q129_]; exact (cst_u cst_r (by decide))) s151_ (fun _ => (by first | exact fs_c rfl | exact (fs_n (by omega) (fs_n (by omega) (fs_n (by omega) (fs_n (by omega) rfl))))))) s177_ (fun _ => (by first | exact fs_c rfl | exact (fs_n (by omega) (fs_n (by omega) rfl))))) c207_) s238_ (fun _ => (by first | exact fs_c rfl | exact (fs_n (by omega) (fs_n (by omega) rfl))))) (by decide)))).2 j (by omega)).trans (hcg.2 j hj)), (⟨(show cst (F 344 21).toNat Fg F258_ from (by rw [q259_]; exact (cst_u (cst_fs (cst_tr (cst_fs (cst_fs (by rw [q129_]; exact (cst_u cst_r (by decide))) s151_ (fun _ => (by first | exact fs_c rfl | exact (fs_n (by omega) (fs_n (by omega) (fs_n (by omega) (fs_n (by omega) rfl))))))) s177_ (fun _ => (by first | exact fs_c rfl | exact (fs_n (by omega) (fs_n (by omega) rfl))))) c207_) s238_ (fun _ => (by first | exact fs_c rfl | exact (fs_n (by omega) (fs_n (by omega) rfl))))) (by decide)))).1 hcg.1, by omega⟩)⟩)
set_option maxHeartbeats 16000000 in
theorem mc_173 {G : Nat → Nat → Option Nat} (hG : gg G) (F : fl_N) (X : xi_H) (hgi : gi F) (K : fl_N) (ts pl al : List Int) (ps : List (List Int)) (hgK : gi K) (hrk : rk K F) (hkt : rkt K) (hp : 0 ≤ F 344 5 ∧ F 344 5 ≤ K 1 6 - 1) (hts : rpn (F 349) (F 344 15) ts) (hal : rpn (F 353) (F 344 21) al) (hpl : rpn (F 350) (F 344 17) pl) (hps : rprd F ps ∧ ps.length = pl.length) : fl_M xi_ms 173 7 165 [.ref 344] (fl_H sh_T G F ++ X) (pq_173 G F X K ts pl al ps) := by
  intro fr lo hfr hlo
  show fl_R xi_ms 173 fr lo 0 [(0, .ref 344)] [] _ _
  have hP := (rkt_p hkt hp.1 hp.2 hgK).1
  have hK16 : 0 ≤ K 1 6 ∧ K 1 6 ≤ 601 := gi_g hgK rfl
  have hko := hkt.1
  have hal1 := hal.1
  have hb21 : 0 ≤ F 344 21 ∧ F 344 21 ≤ 5 := gi_g hgi rfl
  have b1_ : 0 ≤ F 344 9 ∧ F 344 9 ≤ 5 := gi_g hgi rfl
  by_cases h2_ : F 344 9 = 0
  ·
    refine ga_aload_n (v := .ref 344) hm_173 rfl rfl rfl ?_
    have b3_ : 0 ≤ F 344 21 ∧ F 344 21 ≤ 5 := gi_g hgi rfl
    refine ga_geti (z := F 344 21) hm_173 rfl sc_344 rfl (rfl) ?_
    refine fl_iconst hm_173 rfl ?_
    refine fx_icmp_ne (a := F 344 21) (b := 5) hm_173 rfl ⟨by omega, by omega⟩ ⟨by omega, by omega⟩ (fun h4_ => ?_) (fun h5_ => ?_)
    ·
      refine ga_aload_n (v := .ref 344) hm_173 rfl rfl rfl ?_
      refine fl_bipush hm_173 rfl rfl ?_
      have b6_ : 0 ≤ F 344 5 ∧ F 344 5 ≤ 600 := gi_g hgi rfl
      refine gVv (nY := 2) (F := 2) (L := 41) (As := [.int (Int32.ofInt 40)]) (b := 344) (rest := []) hm_173 rfl hm_51 rfl rfl (fl_ob sc_344) rfl rfl rfl rfl rfl (by omega) (by omega) (mc_51 hG F X hgi (K) (40) (0) hgK hrk hkt (⟨by omega, by omega⟩) (by omega) (by omega)) (fun _ _ h => False.elim h) ?_
      have b8_ : 0 ≤ F 344 10 ∧ F 344 10 ≤ 600 := gi_g hgi rfl
      rintro A1_ (⟨F12_, hA_, g13_, s14_, c9_, c10_, c11_⟩ | ⟨F18_, hA_, g19_, s20_, c15_, c16_, c17_⟩)
      ·
        subst hA_
        have g21_ : fs [(344, 344, 5, 5), (344, 344, 9, 10), (344, 344, 21, 21), (344, 344, 63, 63), (353, 363, 0, 100000)] F F12_ := fs_tr fs_refl s14_ rfl
        have rk22_ : rk K F12_ := rk_fs hrk s14_ (fs_rg rfl) rfl
        have c10_s := c10_.1 (by omega)
        clear c10_
        have b23_ : 0 ≤ F12_ 344 9 ∧ F12_ 344 9 ≤ 5 := gi_g g13_ rfl
        have b24_ : 0 ≤ F12_ 344 10 ∧ F12_ 344 10 ≤ 600 := gi_g g13_ rfl
        have b25_ : 0 ≤ F12_ 344 5 ∧ F12_ 344 5 ≤ 600 := gi_g g13_ rfl
        exact mb_173_19 hG F X hgi K ts pl al ps hgK hrk hkt hp hts hal hpl hps fr lo hfr hlo F12_ g13_ g21_ rk22_ (by omega) (⟨by omega, by omega⟩) (⟨by intro h0_; have hs_ := c10_s; rw [sp_a1, if_neg (by omega), sp_action]; rw [hs_]; try (show Sum.inl _ = _); try (congr 2 <;> omega), fun h0_ => by exfalso; omega⟩)
      subst hA_
      have g26_ : fs [(344, 344, 5, 5), (344, 344, 9, 10), (344, 344, 21, 21), (344, 344, 63, 63), (353, 363, 0, 100000)] F F18_ := fs_tr fs_refl s20_ rfl
      have rk27_ : rk K F18_ := rk_fs hrk s20_ (fs_rg rfl) rfl
      refine ga_aload_n (v := .ref 344) hm_173 rfl rfl rfl ?_
      refine fl_iconst hm_173 rfl ?_
      have b28_ : 0 ≤ F18_ 344 5 ∧ F18_ 344 5 ≤ 600 := gi_g g19_ rfl
      refine gVv (nY := 2) (F := 2) (L := 44) (As := [.int (Int32.ofInt 4)]) (b := 344) (rest := []) hm_173 rfl hm_55 rfl rfl (fl_ob sc_344) rfl rfl rfl rfl rfl (by omega) (by omega) (mc_55 hG F18_ X g19_ (K) (4) ([58, 97, 99, 116, 105, 111, 110]) hgK rk27_ hkt (⟨by omega, by omega⟩) (⟨by omega, by omega⟩) (by decide) (kw_4 rk27_)) (fun _ _ h => False.elim h) ?_
      have b30_ : 0 ≤ F18_ 344 10 ∧ F18_ 344 10 ≤ 600 := gi_g g19_ rfl
      have b31_ : 0 ≤ F18_ 344 9 ∧ F18_ 344 9 ≤ 5 := gi_g g19_ rfl
      rintro A1_ (⟨F35_, hA_, g36_, s37_, c32_, c33_, c34_⟩ | ⟨F41_, hA_, g42_, s43_, c38_, c39_, c40_⟩)
      ·
        subst hA_
        have g44_ : fs [(344, 344, 5, 5), (344, 344, 9, 10), (344, 344, 21, 21), (344, 344, 63, 63), (353, 363, 0, 100000)] F F35_ := fs_tr g26_ s37_ rfl
        have rk45_ : rk K F35_ := rk_fs rk27_ s37_ (fs_rg rfl) rfl
        have c33_s := c33_.1 (by omega)
        clear c33_
        have b46_ : 0 ≤ F35_ 344 9 ∧ F35_ 344 9 ≤ 5 := gi_g g36_ rfl
        have b47_ : 0 ≤ F35_ 344 10 ∧ F35_ 344 10 ≤ 600 := gi_g g36_ rfl
        have b48_ : 0 ≤ F35_ 344 5 ∧ F35_ 344 5 ≤ 600 := gi_g g36_ rfl
        exact mb_173_24 hG F X hgi K ts pl al ps hgK hrk hkt hp hts hal hpl hps fr lo hfr hlo F35_ g36_ g44_ rk45_ (by omega) (⟨by omega, by omega⟩) (⟨by intro h0_; have hs_ := c33_s; rw [sp_a1, if_neg (by omega), sp_action]; rw [c16_]; simp only [pb_r]; rw [hs_]; try (show Sum.inl _ = _); try (congr 2 <;> omega), fun h0_ => by exfalso; omega⟩)
      subst hA_
      have g49_ : fs [(344, 344, 5, 5), (344, 344, 9, 10), (344, 344, 21, 21), (344, 344, 63, 63), (353, 363, 0, 100000)] F F41_ := fs_tr g26_ s43_ rfl
      have rk50_ : rk K F41_ := rk_fs rk27_ s43_ (fs_rg rfl) rfl
      refine ga_aload_n (v := .ref 344) hm_173 rfl rfl rfl ?_
      have b51_ : 0 ≤ F41_ 344 5 ∧ F41_ 344 5 ≤ 600 := gi_g g42_ rfl
      refine gVl (nY := 3) (F := 2) (L := 46) (As := []) (b := 344) (rest := []) hm_173 rfl hm_58 rfl rfl (fl_ob sc_344) rfl rfl rfl rfl rfl (by omega) (by omega) (mc_58 hG F41_ X g42_ (K) hgK rk50_ hkt (⟨by omega, by omega⟩)) (fun _ _ h => False.elim h) ?_
      have b53_ : 0 ≤ F41_ 344 10 ∧ F41_ 344 10 ≤ 600 := gi_g g42_ rfl
      have b54_ : 0 ≤ F41_ 344 9 ∧ F41_ 344 9 ≤ 5 := gi_g g42_ rfl
      rintro z52_ A1_ (⟨F59_, hA_, g60_, s61_, c55_, c56_, c57_, c58_⟩ | ⟨F69_, hA_, g70_, s71_, c62_, c63_, c64_, c65_, c66_, c67_, c68_⟩)
      ·
        subst hA_
        have g72_ : fs [(344, 344, 5, 5), (344, 344, 9, 10), (344, 344, 21, 21), (344, 344, 63, 63), (353, 363, 0, 100000)] F F59_ := fs_tr g49_ s61_ rfl
        have rk73_ : rk K F59_ := rk_fs rk50_ s61_ (fs_rg rfl) rfl
        have c56_s := c56_.1 (by omega)
        clear c56_
        refine ga_lstore_n (lv2 := [(1, .long (Int64.ofInt z52_)), (0, .ref 344)]) hm_173 rfl (Nat.le_of_ble_eq_true rfl) rfl ?_
        refine ga_aload_n (v := .ref 344) hm_173 rfl rfl rfl ?_
        refine gIi (nY := 1) (F := 0) (L := 0) (As := []) (b := 344) (rest := []) hm_173 rfl hm_59 rfl rfl (fl_ob sc_344) rfl rfl rfl rfl rfl (by omega) (by omega) ?_
        intro f74_ l75_ h76_ h77_
        show fl_R xi_ms 59 f74_ l75_ 0 [(0, .ref 344)] [] _ _
        refine ga_aload_n (v := .ref 344) hm_59 rfl rfl rfl ?_
        have b78_ : 0 ≤ F59_ 344 9 ∧ F59_ 344 9 ≤ 5 := gi_g g60_ rfl
        refine ga_geti (z := F59_ 344 9) hm_59 rfl sc_344 rfl (rfl) ?_
        refine fl_if_le (a := F59_ 344 9) hm_59 rfl ⟨by omega, by omega⟩ (fun h79_ => ?_) (fun h80_ => ?_)
        · exfalso; omega
        refine fl_iconst hm_59 rfl ?_
        refine fl_goto hm_59 rfl ?_
        refine gr_i hm_59 rfl rfl (ga_nb (by omega)) ?_
        clear h76_ h77_ f74_ l75_
        refine fl_if_ne hm_173 rfl ⟨by omega, by omega⟩ (fun _ => ?_) (fun h => absurd (by omega) h)
        refine ga_aload_n (v := .ref 344) hm_173 rfl rfl rfl ?_
        refine gIv (nY := 1) (F := 1) (L := 20) (As := []) (b := 344) (rest := []) hm_173 rfl hm_61 rfl rfl (fl_ob sc_344) rfl rfl rfl rfl rfl (by omega) (by omega) ?_
        intro f81_ l82_ h83_ h84_
        show fl_R xi_ms 61 f81_ l82_ 0 [(0, .ref 344)] [] _ _
        refine ga_aload_n (v := .ref 344) hm_61 rfl rfl rfl ?_
        refine ga_dup hm_61 rfl rfl ?_
        have e85_ : F59_ 344 5 = F41_ 344 5 := (s61_ 344 5 rfl).trans (rfl)
        refine ga_geti (z := F41_ 344 5) hm_61 rfl sc_344 rfl (e85_) ?_
        refine ga_aload_n (v := .ref 344) hm_61 rfl rfl rfl ?_
        refine gIi (nY := 1) (F := 0) (L := 0) (As := []) (b := 344) (rest := [.int (Int32.ofInt (F41_ 344 5)), .ref 344]) hm_61 rfl hm_59 rfl rfl (fl_ob sc_344) rfl rfl rfl rfl rfl (by omega) (by omega) ?_
        intro f86_ l87_ h88_ h89_
        show fl_R xi_ms 59 f86_ l87_ 0 [(0, .ref 344)] [] _ _
        refine ga_aload_n (v := .ref 344) hm_59 rfl rfl rfl ?_
        refine ga_geti (z := F59_ 344 9) hm_59 rfl sc_344 rfl (rfl) ?_
        refine fl_if_le (a := F59_ 344 9) hm_59 rfl ⟨by omega, by omega⟩ (fun h90_ => ?_) (fun h91_ => ?_)
        · exfalso; omega
        refine fl_iconst hm_59 rfl ?_
        refine fl_goto hm_59 rfl ?_
        refine gr_i hm_59 rfl rfl (ga_nb (by omega)) ?_
        clear h88_ h89_ f86_ l87_
        refine fl_if_eq hm_61 rfl ⟨by omega, by omega⟩ (fun h => absurd h (by omega)) (fun _ => ?_)
        refine fl_iconst hm_61 rfl ?_
        refine fl_goto hm_61 rfl ?_
        refine ga_iadd (a := F41_ 344 5) (b := 0) (c := F41_ 344 5) hm_61 rfl (by omega) ?_
        refine ga_puti (z := F41_ 344 5) hm_61 rfl sc_344 rfl rfl ?_
        refine gr_v hm_61 rfl rfl ?_
        clear h83_ h84_ f81_ l82_
        obtain ⟨F92_, q93_⟩ : ∃ Fq_, Fq_ = (fl_u F59_ 344 5 (F41_ 344 5)) := ⟨_, rfl⟩
        rw [← q93_]
        have g94_ : gi F92_ := by rw [q93_]; exact gi_u (g60_) rfl (by omega) (by omega)
        have g95_ : fs [(344, 344, 5, 5), (344, 344, 9, 10), (344, 344, 21, 21), (344, 344, 63, 63), (353, 363, 0, 100000)] F F92_ := by rw [q93_]; exact fs_u (g72_) rfl
        have rk96_ : rk K F92_ := by rw [q93_]; exact rk_u (rk73_) (by first | decide | exact nc_ rfl | omega) (by first | decide | exact nc_ rfl | omega)
        have e97_ : F92_ 344 9 = F59_ 344 9 := by rw [q93_]; exact fl_u_ne (by first | exact nc_ rfl | decide | omega)
        have e98_ : F92_ 344 10 = F59_ 344 10 := by rw [q93_]; exact fl_u_ne (by first | exact nc_ rfl | decide | omega)
        have b99_ : 0 ≤ F59_ 344 10 ∧ F59_ 344 10 ≤ 600 := gi_g g60_ rfl
        have e100_ : F92_ 344 5 = F41_ 344 5 := by rw [q93_]; exact fl_u_eq
        exact fl_R_sub (lv' := [(0, .ref 344)]) rfl rfl (mb_173_62 hG F X hgi K ts pl al ps hgK hrk hkt hp hts hal hpl hps fr lo hfr hlo F92_ g94_ g95_ rk96_ (by omega) (⟨by omega, by omega⟩) (⟨by intro h0_; have hs_ := c56_s; rw [sp_a1, if_neg (by omega), sp_action]; rw [c16_]; simp only [pb_r]; rw [c39_]; simp only [pb_r]; have h1_ := nm_no hs_; rw [sp_nm, if_neg h1_] at hs_; have h2_ := Prod.mk.inj (Sum.inl.inj hs_); rw [sp_new, if_neg h1_]; show Sum.inl (1, K 4 _) = _; congr 2 <;> omega, fun h0_ => by exfalso; omega⟩))
      subst hA_
      have g101_ : fs [(344, 344, 5, 5), (344, 344, 9, 10), (344, 344, 21, 21), (344, 344, 63, 63), (353, 363, 0, 100000)] F F69_ := fs_tr g49_ s71_ rfl
      have rk102_ : rk K F69_ := rk_fs rk50_ s71_ (fs_rg rfl) rfl
      refine ga_lstore_n (lv2 := [(1, .long (Int64.ofInt z52_)), (0, .ref 344)]) hm_173 rfl (Nat.le_of_ble_eq_true rfl) rfl ?_
      refine ga_aload_n (v := .ref 344) hm_173 rfl rfl rfl ?_
      refine gIi (nY := 1) (F := 0) (L := 0) (As := []) (b := 344) (rest := []) hm_173 rfl hm_59 rfl rfl (fl_ob sc_344) rfl rfl rfl rfl rfl (by omega) (by omega) ?_
      intro f103_ l104_ h105_ h106_
      show fl_R xi_ms 59 f103_ l104_ 0 [(0, .ref 344)] [] _ _
      refine ga_aload_n (v := .ref 344) hm_59 rfl rfl rfl ?_
      have b107_ : 0 ≤ F69_ 344 9 ∧ F69_ 344 9 ≤ 5 := gi_g g70_ rfl
      refine ga_geti (z := F69_ 344 9) hm_59 rfl sc_344 rfl (rfl) ?_
      refine fl_if_le (a := F69_ 344 9) hm_59 rfl ⟨by omega, by omega⟩ (fun h108_ => ?_) (fun h109_ => ?_)
      ·
        refine fl_iconst hm_59 rfl ?_
        refine gr_i hm_59 rfl rfl (ga_nb (by omega)) ?_
        clear h105_ h106_ f103_ l104_
        refine fl_if_ne hm_173 rfl ⟨by omega, by omega⟩ (fun h => absurd h (by omega)) (fun _ => ?_)
        refine ga_aload_n (v := .ref 344) hm_173 rfl rfl rfl ?_
        refine ga_getr (b := 353) hm_173 rfl sc_344 rfl ?_
        refine fl_iconst hm_173 rfl ?_
        refine ga_aload_n (v := .ref 344) hm_173 rfl rfl rfl ?_
        have e110_ : F18_ 344 21 = F 344 21 := (s20_ 344 21 rfl).trans (rfl)
        have e111_ : F41_ 344 21 = F 344 21 := (s43_ 344 21 rfl).trans (e110_)
        have e112_ : F69_ 344 21 = F 344 21 := (s71_ 344 21 rfl).trans (e111_)
        refine ga_geti (z := F 344 21) hm_173 rfl sc_344 rfl (e112_) ?_
        refine ga_lload_n (z := z52_) hm_173 rfl rfl ?_
        refine gSi (nY := 7) (F := 0) (L := 0) (As := [.ref 353, .int (Int32.ofInt 0), .int (Int32.ofInt (F 344 21)), .long (Int64.ofInt z52_)]) (rest := []) hm_173 rfl hm_162 rfl rfl (fl_pos sc_0) rfl rfl rfl rfl (by omega) (by omega) (mc_162 hG F69_ X g70_ (353) (5) (0) (F 344 21) (z52_) sc_353 (fun _ => rfl) (⟨by omega, by omega, by omega, by omega⟩) (⟨by omega, by omega⟩))  ?_
        rintro z113_ A1_ ⟨hA_, c114_, c115_, c116_⟩
        subst hA_
        have c114_b : -1 ≤ z113_ ∧ z113_ ≤ 1000 := by omega
        have c114_o : opq _ := c114_
        have c115_o : opq _ := c115_
        have c116_o : opq _ := c116_
        clear c114_ c115_ c116_
        refine fl_iconst hm_173 rfl ?_
        refine fl_icmp_eq (a := z113_) (b := -1) hm_173 rfl ⟨by omega, by omega⟩ ⟨by omega, by omega⟩ (fun h117_ => ?_) (fun h118_ => ?_)
        ·
          refine ga_aload_n (v := .ref 344) hm_173 rfl rfl rfl ?_
          refine gIv (nY := 1) (F := 1) (L := 20) (As := []) (b := 344) (rest := []) hm_173 rfl hm_61 rfl rfl (fl_ob sc_344) rfl rfl rfl rfl rfl (by omega) (by omega) ?_
          intro f119_ l120_ h121_ h122_
          show fl_R xi_ms 61 f119_ l120_ 0 [(0, .ref 344)] [] _ _
          refine ga_aload_n (v := .ref 344) hm_61 rfl rfl rfl ?_
          refine ga_dup hm_61 rfl rfl ?_
          have e123_ : F69_ 344 5 = F41_ 344 5 := (s71_ 344 5 rfl).trans (rfl)
          refine ga_geti (z := F41_ 344 5) hm_61 rfl sc_344 rfl (e123_) ?_
          refine ga_aload_n (v := .ref 344) hm_61 rfl rfl rfl ?_
          refine gIi (nY := 1) (F := 0) (L := 0) (As := []) (b := 344) (rest := [.int (Int32.ofInt (F41_ 344 5)), .ref 344]) hm_61 rfl hm_59 rfl rfl (fl_ob sc_344) rfl rfl rfl rfl rfl (by omega) (by omega) ?_
          intro f124_ l125_ h126_ h127_
          show fl_R xi_ms 59 f124_ l125_ 0 [(0, .ref 344)] [] _ _
          refine ga_aload_n (v := .ref 344) hm_59 rfl rfl rfl ?_
          refine ga_geti (z := F69_ 344 9) hm_59 rfl sc_344 rfl (rfl) ?_
          refine fl_if_le (a := F69_ 344 9) hm_59 rfl ⟨by omega, by omega⟩ (fun h128_ => ?_) (fun h129_ => ?_)
          ·
            refine fl_iconst hm_59 rfl ?_
            refine gr_i hm_59 rfl rfl (ga_nb (by omega)) ?_
            clear h126_ h127_ f124_ l125_
            refine fl_if_eq hm_61 rfl ⟨by omega, by omega⟩ (fun _ => ?_) (fun h => absurd (by omega) h)
            refine fl_iconst hm_61 rfl ?_
            refine ga_iadd (a := F41_ 344 5) (b := 1) (c := F41_ 344 5 + 1) hm_61 rfl (by omega) ?_
            refine ga_puti (z := F41_ 344 5 + 1) hm_61 rfl sc_344 rfl rfl ?_
            refine gr_v hm_61 rfl rfl ?_
            clear h121_ h122_ f119_ l120_
            refine ga_aload_n (v := .ref 344) hm_173 rfl rfl rfl ?_
            refine fl_iconst hm_173 rfl ?_
            obtain ⟨F130_, q131_⟩ : ∃ Fq_, Fq_ = (fl_u F69_ 344 5 (F41_ 344 5 + 1)) := ⟨_, rfl⟩
            rw [← q131_]
            have g132_ : gi F130_ := by rw [q131_]; exact gi_u (g70_) rfl (by omega) (by omega)
            have g133_ : fs [(344, 344, 5, 5), (344, 344, 9, 10), (344, 344, 21, 21), (344, 344, 63, 63), (353, 363, 0, 100000)] F F130_ := by rw [q131_]; exact fs_u (g101_) rfl
            have rk134_ : rk K F130_ := by rw [q131_]; exact rk_u (rk102_) (by first | decide | exact nc_ rfl | omega) (by first | decide | exact nc_ rfl | omega)
            have e135_ : F130_ 344 5 = F41_ 344 5 + 1 := by rw [q131_]; exact fl_u_eq
            refine gVv (nY := 2) (F := 2) (L := 44) (As := [.int (Int32.ofInt 5)]) (b := 344) (rest := []) hm_173 rfl hm_55 rfl rfl (fl_ob sc_344) rfl rfl rfl rfl rfl (by omega) (by omega) (mc_55 hG F130_ X g132_ (K) (5) ([58, 112, 97, 114, 97, 109, 101, 116, 101, 114, 115]) hgK rk134_ hkt (⟨by omega, by omega⟩) (⟨by omega, by omega⟩) (by decide) (kw_5 rk134_)) (fun _ _ h => False.elim h) ?_
            have e137_ : F130_ 344 10 = F69_ 344 10 := by rw [q131_]; exact fl_u_ne (by first | exact nc_ rfl | decide | omega)
            have b138_ : 0 ≤ F69_ 344 10 ∧ F69_ 344 10 ≤ 600 := gi_g g70_ rfl
            have e139_ : F130_ 344 9 = F69_ 344 9 := by rw [q131_]; exact fl_u_ne (by first | exact nc_ rfl | decide | omega)
            rintro A1_ (⟨F143_, hA_, g144_, s145_, c140_, c141_, c142_⟩ | ⟨F149_, hA_, g150_, s151_, c146_, c147_, c148_⟩)
            ·
              subst hA_
              have g152_ : fs [(344, 344, 5, 5), (344, 344, 9, 10), (344, 344, 21, 21), (344, 344, 63, 63), (353, 363, 0, 100000)] F F143_ := fs_tr g133_ s145_ rfl
              have rk153_ : rk K F143_ := rk_fs rk134_ s145_ (fs_rg rfl) rfl
              try simp only [e135_, e137_, e139_] at c141_
              have c141_s := c141_.1 (by omega)
              clear c141_
              have b154_ : 0 ≤ F143_ 344 9 ∧ F143_ 344 9 ≤ 5 := gi_g g144_ rfl
              have b155_ : 0 ≤ F143_ 344 10 ∧ F143_ 344 10 ≤ 600 := gi_g g144_ rfl
              have b156_ : 0 ≤ F143_ 344 5 ∧ F143_ 344 5 ≤ 600 := gi_g g144_ rfl
              exact fl_R_sub (lv' := [(0, .ref 344)]) rfl rfl (mb_173_67 hG F X hgi K ts pl al ps hgK hrk hkt hp hts hal hpl hps fr lo hfr hlo F143_ g144_ g152_ rk153_ (by omega) (⟨by omega, by omega⟩) (⟨by intro h0_; have hs_ := c141_s; rw [sp_a1, if_neg (by omega), sp_action]; rw [c16_]; simp only [pb_r]; rw [c39_]; simp only [pb_r]; rw [sp_new, if_pos (by omega), (ra_fi (by have x_ := (rpn_fs (rpn_fs (rpn_fs hal s20_ (fun _ => (by first | exact fs_c rfl | exact (fs_n (by omega) (fs_n (by omega) rfl)))) (by first | exact fs_c rfl | exact (fs_n (by omega) (fs_n (by omega) rfl)))) s43_ (fun _ => (by first | exact fs_c rfl | exact (fs_n (by omega) (fs_n (by omega) rfl)))) (by first | exact fs_c rfl | exact (fs_n (by omega) (fs_n (by omega) rfl)))) s71_ (fun _ => (by first | exact fs_c rfl | exact (fs_n (by omega) rfl))) (by first | exact fs_c rfl | exact (fs_n (by omega) rfl))); rw [e112_] at x_; exact x_) c65_ c114_o c115_o c116_o), if_pos (by omega), (show sk K (F41_ 344 5) = F41_ 344 5 + 1 by rw [sk, if_pos (by omega)])]; simp only [pb_r]; rw [hs_]; try (show Sum.inl _ = _); try (congr 2 <;> omega), fun h0_ => by exfalso; omega⟩))
            subst hA_
            have g157_ : fs [(344, 344, 5, 5), (344, 344, 9, 10), (344, 344, 21, 21), (344, 344, 63, 63), (353, 363, 0, 100000)] F F149_ := fs_tr g133_ s151_ rfl
            have rk158_ : rk K F149_ := rk_fs rk134_ s151_ (fs_rg rfl) rfl
            try simp only [e139_] at c146_
            try simp only [e135_] at c147_
            refine ga_aload_n (v := .ref 344) hm_173 rfl rfl rfl ?_
            refine fl_bipush hm_173 rfl rfl ?_
            have b159_ : 0 ≤ F149_ 344 5 ∧ F149_ 344 5 ≤ 600 := gi_g g150_ rfl
            refine gVv (nY := 2) (F := 2) (L := 41) (As := [.int (Int32.ofInt 40)]) (b := 344) (rest := []) hm_173 rfl hm_51 rfl rfl (fl_ob sc_344) rfl rfl rfl rfl rfl (by omega) (by omega) (mc_51 hG F149_ X g150_ (K) (40) (0) hgK rk158_ hkt (⟨by omega, by omega⟩) (by omega) (by omega)) (fun _ _ h => False.elim h) ?_
            have b161_ : 0 ≤ F149_ 344 10 ∧ F149_ 344 10 ≤ 600 := gi_g g150_ rfl
            have b162_ : 0 ≤ F149_ 344 9 ∧ F149_ 344 9 ≤ 5 := gi_g g150_ rfl
            rintro A1_ (⟨F166_, hA_, g167_, s168_, c163_, c164_, c165_⟩ | ⟨F172_, hA_, g173_, s174_, c169_, c170_, c171_⟩)
            ·
              subst hA_
              have g175_ : fs [(344, 344, 5, 5), (344, 344, 9, 10), (344, 344, 21, 21), (344, 344, 63, 63), (353, 363, 0, 100000)] F F166_ := fs_tr g157_ s168_ rfl
              have rk176_ : rk K F166_ := rk_fs rk158_ s168_ (fs_rg rfl) rfl
              have c164_s := c164_.1 (by omega)
              clear c164_
              have b177_ : 0 ≤ F166_ 344 9 ∧ F166_ 344 9 ≤ 5 := gi_g g167_ rfl
              have b178_ : 0 ≤ F166_ 344 10 ∧ F166_ 344 10 ≤ 600 := gi_g g167_ rfl
              have b179_ : 0 ≤ F166_ 344 5 ∧ F166_ 344 5 ≤ 600 := gi_g g167_ rfl
              exact fl_R_sub (lv' := [(0, .ref 344)]) rfl rfl (mb_173_73 hG F X hgi K ts pl al ps hgK hrk hkt hp hts hal hpl hps fr lo hfr hlo F166_ g167_ g175_ rk176_ (by omega) (⟨by omega, by omega⟩) (⟨by intro h0_; have hs_ := c164_s; rw [sp_a1, if_neg (by omega), sp_action]; rw [c16_]; simp only [pb_r]; rw [c39_]; simp only [pb_r]; rw [sp_new, if_pos (by omega), (ra_fi (by have x_ := (rpn_fs (rpn_fs (rpn_fs hal s20_ (fun _ => (by first | exact fs_c rfl | exact (fs_n (by omega) (fs_n (by omega) rfl)))) (by first | exact fs_c rfl | exact (fs_n (by omega) (fs_n (by omega) rfl)))) s43_ (fun _ => (by first | exact fs_c rfl | exact (fs_n (by omega) (fs_n (by omega) rfl)))) (by first | exact fs_c rfl | exact (fs_n (by omega) (fs_n (by omega) rfl)))) s71_ (fun _ => (by first | exact fs_c rfl | exact (fs_n (by omega) rfl))) (by first | exact fs_c rfl | exact (fs_n (by omega) rfl))); rw [e112_] at x_; exact x_) c65_ c114_o c115_o c116_o), if_pos (by omega), (show sk K (F41_ 344 5) = F41_ 344 5 + 1 by rw [sk, if_pos (by omega)])]; simp only [pb_r]; rw [c147_]; simp only [pb_r]; rw [hs_]; try (show Sum.inl _ = _); try (congr 2 <;> omega), fun h0_ => by exfalso; omega⟩))
            subst hA_
            have g180_ : fs [(344, 344, 5, 5), (344, 344, 9, 10), (344, 344, 21, 21), (344, 344, 63, 63), (353, 363, 0, 100000)] F F172_ := fs_tr g157_ s174_ rfl
            have rk181_ : rk K F172_ := rk_fs rk158_ s174_ (fs_rg rfl) rfl
            refine ga_aload_n (v := .ref 344) hm_173 rfl rfl rfl ?_
            refine gIi (nY := 1) (F := 0) (L := 0) (As := []) (b := 344) (rest := []) hm_173 rfl hm_59 rfl rfl (fl_ob sc_344) rfl rfl rfl rfl rfl (by omega) (by omega) ?_
            intro f182_ l183_ h184_ h185_
            show fl_R xi_ms 59 f182_ l183_ 0 [(0, .ref 344)] [] _ _
            refine ga_aload_n (v := .ref 344) hm_59 rfl rfl rfl ?_
            have b186_ : 0 ≤ F172_ 344 9 ∧ F172_ 344 9 ≤ 5 := gi_g g173_ rfl
            refine ga_geti (z := F172_ 344 9) hm_59 rfl sc_344 rfl (rfl) ?_
            refine fl_if_le (a := F172_ 344 9) hm_59 rfl ⟨by omega, by omega⟩ (fun h187_ => ?_) (fun h188_ => ?_)
            ·
              refine fl_iconst hm_59 rfl ?_
              refine gr_i hm_59 rfl rfl (ga_nb (by omega)) ?_
              clear h184_ h185_ f182_ l183_
              refine fl_if_eq hm_173 rfl ⟨by omega, by omega⟩ (fun _ => ?_) (fun h => absurd (by omega) h)
              refine ga_aload_n (v := .ref 344) hm_173 rfl rfl rfl ?_
              have e189_ : F130_ 344 21 = F 344 21 := by rw [q131_]; exact (fl_u_ne (by first | exact nc_ rfl | decide | omega)).trans (e112_)
              have e190_ : F149_ 344 21 = F 344 21 := (s151_ 344 21 rfl).trans (e189_)
              have e191_ : F172_ 344 21 = F 344 21 := (s174_ 344 21 rfl).trans (e190_)
              refine ga_geti (z := F 344 21) hm_173 rfl sc_344 rfl (e191_) ?_
              refine ga_istore_n (lv2 := [(3, .int (Int32.ofInt (F 344 21))), (1, .long (Int64.ofInt z52_)), (0, .ref 344)]) hm_173 rfl (Nat.le_of_ble_eq_true rfl) rfl ?_
              refine ga_aload_n (v := .ref 344) hm_173 rfl rfl rfl ?_
              refine ga_getr (b := 353) hm_173 rfl sc_344 rfl ?_
              refine ga_iload_n (z := F 344 21) hm_173 rfl rfl ?_
              refine ga_lload_n (z := z52_) hm_173 rfl rfl ?_
              refine fl_last (z := F 344 21) (v := z52_) hm_173 rfl sc_353 (by omega) (by omega) (by omega) ?_
              refine ga_aload_n (v := .ref 344) hm_173 rfl rfl rfl ?_
              refine ga_getr (b := 357) hm_173 rfl sc_344 rfl ?_
              refine ga_iload_n (z := F 344 21) hm_173 rfl rfl ?_
              refine fl_iconst hm_173 rfl ?_
              refine fl_iast (z := F 344 21) (v := 1) hm_173 rfl sc_357 (by omega) (by omega) (by omega) ?_
              refine ga_aload_n (v := .ref 344) hm_173 rfl rfl rfl ?_
              refine ga_getr (b := 358) hm_173 rfl sc_344 rfl ?_
              refine ga_iload_n (z := F 344 21) hm_173 rfl rfl ?_
              refine fl_iconst hm_173 rfl ?_
              refine fl_iast (z := F 344 21) (v := 0) hm_173 rfl sc_358 (by omega) (by omega) (by omega) ?_
              refine ga_aload_n (v := .ref 344) hm_173 rfl rfl rfl ?_
              refine ga_getr (b := 359) hm_173 rfl sc_344 rfl ?_
              refine ga_iload_n (z := F 344 21) hm_173 rfl rfl ?_
              refine fl_iconst hm_173 rfl ?_
              refine fl_iast (z := F 344 21) (v := 0) hm_173 rfl sc_359 (by omega) (by omega) (by omega) ?_
              refine ga_aload_n (v := .ref 344) hm_173 rfl rfl rfl ?_
              refine ga_getr (b := 354) hm_173 rfl sc_344 rfl ?_
              refine ga_iload_n (z := F 344 21) hm_173 rfl rfl ?_
              refine ga_aload_n (v := .ref 344) hm_173 rfl rfl rfl ?_
              refine fl_iconst hm_173 rfl ?_
              refine ga_aload_n (v := .ref 344) hm_173 rfl rfl rfl ?_
              refine ga_getr (b := 356) hm_173 rfl sc_344 rfl ?_
              refine ga_aload_n (v := .ref 344) hm_173 rfl rfl rfl ?_
              refine ga_getr (b := 355) hm_173 rfl sc_344 rfl ?_
              refine fl_iconst hm_173 rfl ?_
              refine ga_iload_n (z := F 344 21) hm_173 rfl rfl ?_
              refine ga_imul (a := 3) (b := F 344 21) (c := 3 * (F 344 21)) hm_173 rfl (by omega) ?_
              obtain ⟨F192_, q193_⟩ : ∃ Fq_, Fq_ = (fl_u (fl_u (fl_u (fl_u F172_ 353 (F 344 21).toNat z52_) 357 (F 344 21).toNat 1) 358 (F 344 21).toNat 0) 359 (F 344 21).toNat 0) := ⟨_, rfl⟩
              rw [← q193_]
              have g194_ : gi F192_ := by rw [q193_]; exact gi_u (gi_u (gi_u (gi_u (g173_) rfl (by omega) (by omega)) rfl (by omega) (by omega)) rfl (by omega) (by omega)) rfl (by omega) (by omega)
              have g195_ : fs [(344, 344, 5, 5), (344, 344, 9, 10), (344, 344, 21, 21), (344, 344, 63, 63), (353, 363, 0, 100000)] F F192_ := by rw [q193_]; exact fs_u (fs_u (fs_u (fs_u (g180_) (fs_z (fs_z (fs_z (fs_z (fs_y (by omega))))))) (fs_z (fs_z (fs_z (fs_z (fs_y (by omega))))))) (fs_z (fs_z (fs_z (fs_z (fs_y (by omega))))))) (fs_z (fs_z (fs_z (fs_z (fs_y (by omega))))))
              have rk196_ : rk K F192_ := by rw [q193_]; exact rk_u (rk_u (rk_u (rk_u (rk181_) (by first | decide | exact nc_ rfl | omega) (by first | decide | exact nc_ rfl | omega)) (by first | decide | exact nc_ rfl | omega) (by first | decide | exact nc_ rfl | omega)) (by first | decide | exact nc_ rfl | omega) (by first | decide | exact nc_ rfl | omega)) (by first | decide | exact nc_ rfl | omega) (by first | decide | exact nc_ rfl | omega)
              have e197_ : F192_ 344 5 = F172_ 344 5 := by rw [q193_]; exact (fl_u_ne (by first | exact nc_ rfl | decide | omega)).trans ((fl_u_ne (by first | exact nc_ rfl | decide | omega)).trans ((fl_u_ne (by first | exact nc_ rfl | decide | omega)).trans (fl_u_ne (by first | exact nc_ rfl | decide | omega))))
              have b198_ : 0 ≤ F172_ 344 5 ∧ F172_ 344 5 ≤ 600 := gi_g g173_ rfl
              refine gVi (nY := 8) (F := 4) (L := 89) (As := [.int (Int32.ofInt 3), .ref 356, .ref 355, .int (Int32.ofInt (3 * (F 344 21)))]) (b := 344) (rest := [.int (Int32.ofInt (F 344 21)), .ref 354]) hm_173 rfl hm_188 rfl rfl (fl_ob sc_344) rfl rfl rfl rfl rfl (by omega) (by omega) (mc_188 hG F192_ X g194_ (K) (3) (3 * (F 344 21)) (ts) hgK rk196_ hkt (⟨by omega, by omega⟩) ((by rw [q193_]; exact (rpn_u (rpn_u (rpn_u (rpn_u (rpn_fs (rpn_fs (by rw [q131_]; exact (rpn_u (rpn_fs (rpn_fs (rpn_fs hts s20_ (fun _ => (by first | exact fs_c rfl | exact (fs_n (by omega) (fs_n (by omega) rfl)))) (by first | exact fs_c rfl | exact (fs_n (by omega) (fs_n (by omega) rfl)))) s43_ (fun _ => (by first | exact fs_c rfl | exact (fs_n (by omega) (fs_n (by omega) rfl)))) (by first | exact fs_c rfl | exact (fs_n (by omega) (fs_n (by omega) rfl)))) s71_ (fun _ => (by first | exact fs_c rfl | exact (fs_n (by omega) rfl))) (by first | exact fs_c rfl | exact (fs_n (by omega) rfl))) (by first | decide | exact nc_ rfl | omega) (by first | decide | exact nc_ rfl | omega))) s151_ (fun _ => (by first | exact fs_c rfl | exact (fs_n (by omega) (fs_n (by omega) rfl)))) (by first | exact fs_c rfl | exact (fs_n (by omega) (fs_n (by omega) rfl)))) s174_ (fun _ => (by first | exact fs_c rfl | exact (fs_n (by omega) (fs_n (by omega) rfl)))) (by first | exact fs_c rfl | exact (fs_n (by omega) (fs_n (by omega) rfl)))) (by first | decide | exact nc_ rfl | omega) (by first | decide | exact nc_ rfl | omega)) (by first | decide | exact nc_ rfl | omega) (by first | decide | exact nc_ rfl | omega)) (by first | decide | exact nc_ rfl | omega) (by first | decide | exact nc_ rfl | omega)) (by first | decide | exact nc_ rfl | omega) (by first | decide | exact nc_ rfl | omega)))) (by omega) (⟨by omega, by omega⟩)) (fun _ _ h => False.elim h) ?_
              have e200_ : F192_ 344 10 = F172_ 344 10 := by rw [q193_]; exact (fl_u_ne (by first | exact nc_ rfl | decide | omega)).trans ((fl_u_ne (by first | exact nc_ rfl | decide | omega)).trans ((fl_u_ne (by first | exact nc_ rfl | decide | omega)).trans (fl_u_ne (by first | exact nc_ rfl | decide | omega))))
              have b201_ : 0 ≤ F172_ 344 10 ∧ F172_ 344 10 ≤ 600 := gi_g g173_ rfl
              have e202_ : F192_ 344 9 = F172_ 344 9 := by rw [q193_]; exact (fl_u_ne (by first | exact nc_ rfl | decide | omega)).trans ((fl_u_ne (by first | exact nc_ rfl | decide | omega)).trans ((fl_u_ne (by first | exact nc_ rfl | decide | omega)).trans (fl_u_ne (by first | exact nc_ rfl | decide | omega))))
              rintro z199_ A1_ (⟨F207_, hA_, g208_, s209_, c203_, c204_, c205_, c206_⟩ | ⟨F214_, hA_, g215_, s216_, c210_, c211_, c212_, c213_⟩)
              ·
                subst hA_
                have g217_ : fs [(344, 344, 5, 5), (344, 344, 9, 10), (344, 344, 21, 21), (344, 344, 63, 63), (353, 363, 0, 100000)] F F207_ := fs_tr g195_ s209_ rfl
                have rk218_ : rk K F207_ := rk_fs rk196_ s209_ (fs_rg rfl) rfl
                try simp only [e197_, e200_, e202_] at c204_
                have c204_s := c204_.1 (by omega)
                clear c204_
                refine fl_iast (z := F 344 21) (v := z199_) hm_173 rfl sc_354 (by omega) (by omega) (by omega) ?_
                obtain ⟨F219_, q220_⟩ : ∃ Fq_, Fq_ = (fl_u F207_ 354 (F 344 21).toNat z199_) := ⟨_, rfl⟩
                rw [← q220_]
                have g221_ : gi F219_ := by rw [q220_]; exact gi_u (g208_) rfl (by omega) (by omega)
                have g222_ : fs [(344, 344, 5, 5), (344, 344, 9, 10), (344, 344, 21, 21), (344, 344, 63, 63), (353, 363, 0, 100000)] F F219_ := by rw [q220_]; exact fs_u (g217_) (fs_z (fs_z (fs_z (fs_z (fs_y (by omega))))))
                have rk223_ : rk K F219_ := by rw [q220_]; exact rk_u (rk218_) (by first | decide | exact nc_ rfl | omega) (by first | decide | exact nc_ rfl | omega)
                have e224_ : F219_ 344 9 = F207_ 344 9 := by rw [q220_]; exact fl_u_ne (by first | exact nc_ rfl | decide | omega)
                have b225_ : 0 ≤ F207_ 344 9 ∧ F207_ 344 9 ≤ 5 := gi_g g208_ rfl
                have e226_ : F219_ 344 10 = F207_ 344 10 := by rw [q220_]; exact fl_u_ne (by first | exact nc_ rfl | decide | omega)
                have b227_ : 0 ≤ F207_ 344 10 ∧ F207_ 344 10 ≤ 600 := gi_g g208_ rfl
                have e228_ : F219_ 344 5 = F207_ 344 5 := by rw [q220_]; exact fl_u_ne (by first | exact nc_ rfl | decide | omega)
                have b229_ : 0 ≤ F207_ 344 5 ∧ F207_ 344 5 ≤ 600 := gi_g g208_ rfl
                have e230_ : F192_ 344 21 = F 344 21 := by rw [q193_]; exact (fl_u_ne (by first | exact nc_ rfl | decide | omega)).trans ((fl_u_ne (by first | exact nc_ rfl | decide | omega)).trans ((fl_u_ne (by first | exact nc_ rfl | decide | omega)).trans ((fl_u_ne (by first | exact nc_ rfl | decide | omega)).trans (e191_))))
                have e231_ : F207_ 344 21 = F 344 21 := (s209_ 344 21 rfl).trans (e230_)
                have e232_ : F219_ 344 21 = F 344 21 := by rw [q220_]; exact (fl_u_ne (by first | exact nc_ rfl | decide | omega)).trans (e231_)
                exact fl_R_sub (lv' := [(3, .int (Int32.ofInt (F 344 21))), (0, .ref 344)]) rfl rfl (mb_173_136 hG F X hgi K ts pl al ps hgK hrk hkt hp hts hal hpl hps fr lo hfr hlo F219_ g221_ g222_ rk223_ (by omega) (⟨by omega, by omega⟩) (⟨by intro h0_; have hs_ := c204_s; rw [sp_a1, if_neg (by omega), sp_action]; rw [c16_]; simp only [pb_r]; rw [c39_]; simp only [pb_r]; rw [sp_new, if_pos (by omega), (ra_fi (by have x_ := (rpn_fs (rpn_fs (rpn_fs hal s20_ (fun _ => (by first | exact fs_c rfl | exact (fs_n (by omega) (fs_n (by omega) rfl)))) (by first | exact fs_c rfl | exact (fs_n (by omega) (fs_n (by omega) rfl)))) s43_ (fun _ => (by first | exact fs_c rfl | exact (fs_n (by omega) (fs_n (by omega) rfl)))) (by first | exact fs_c rfl | exact (fs_n (by omega) (fs_n (by omega) rfl)))) s71_ (fun _ => (by first | exact fs_c rfl | exact (fs_n (by omega) rfl))) (by first | exact fs_c rfl | exact (fs_n (by omega) rfl))); rw [e112_] at x_; exact x_) c65_ c114_o c115_o c116_o), if_pos (by omega), (show sk K (F41_ 344 5) = F41_ 344 5 + 1 by rw [sk, if_pos (by omega)])]; simp only [pb_r]; rw [c147_]; simp only [pb_r]; rw [c170_]; simp only [pb_r]; rw [sp1_fl hs_]; try (show Sum.inl _ = _); try (congr 2 <;> omega), fun h0_ => by exfalso; omega⟩) (⟨by omega, by omega⟩))
              subst hA_
              have g233_ : fs [(344, 344, 5, 5), (344, 344, 9, 10), (344, 344, 21, 21), (344, 344, 63, 63), (353, 363, 0, 100000)] F F214_ := fs_tr g195_ s216_ rfl
              have rk234_ : rk K F214_ := rk_fs rk196_ s216_ (fs_rg rfl) rfl
              try simp only [e202_] at c210_
              try simp only [e197_] at c211_
              obtain ⟨l2_, tl2_, ⟨ct1_, ct2_⟩, ⟨ct3_, ct6n_⟩, ct4_, ct5_⟩ := c211_
              have ct6_ := ct6n_.symm
              refine fl_iast (z := F 344 21) (v := z199_) hm_173 rfl sc_354 (by omega) (by omega) (by omega) ?_
              refine ga_aload_n (v := .ref 344) hm_173 rfl rfl rfl ?_
              refine fl_bipush hm_173 rfl rfl ?_
              obtain ⟨F235_, q236_⟩ : ∃ Fq_, Fq_ = (fl_u F214_ 354 (F 344 21).toNat z199_) := ⟨_, rfl⟩
              rw [← q236_]
              have g237_ : gi F235_ := by rw [q236_]; exact gi_u (g215_) rfl (by omega) (by omega)
              have g238_ : fs [(344, 344, 5, 5), (344, 344, 9, 10), (344, 344, 21, 21), (344, 344, 63, 63), (353, 363, 0, 100000)] F F235_ := by rw [q236_]; exact fs_u (g233_) (fs_z (fs_z (fs_z (fs_z (fs_y (by omega))))))
              have rk239_ : rk K F235_ := by rw [q236_]; exact rk_u (rk234_) (by first | decide | exact nc_ rfl | omega) (by first | decide | exact nc_ rfl | omega)
              have e240_ : F235_ 344 5 = F214_ 344 5 := by rw [q236_]; exact fl_u_ne (by first | exact nc_ rfl | decide | omega)
              have b241_ : 0 ≤ F214_ 344 5 ∧ F214_ 344 5 ≤ 600 := gi_g g215_ rfl
              refine gVv (nY := 2) (F := 2) (L := 41) (As := [.int (Int32.ofInt 41)]) (b := 344) (rest := []) hm_173 rfl hm_51 rfl rfl (fl_ob sc_344) rfl rfl rfl rfl rfl (by omega) (by omega) (mc_51 hG F235_ X g237_ (K) (41) (1) hgK rk239_ hkt (⟨by omega, by omega⟩) (by omega) (by omega)) (fun _ _ h => False.elim h) ?_
              have e243_ : F235_ 344 10 = F214_ 344 10 := by rw [q236_]; exact fl_u_ne (by first | exact nc_ rfl | decide | omega)
              have b244_ : 0 ≤ F214_ 344 10 ∧ F214_ 344 10 ≤ 600 := gi_g g215_ rfl
              have e245_ : F235_ 344 9 = F214_ 344 9 := by rw [q236_]; exact fl_u_ne (by first | exact nc_ rfl | decide | omega)
              have b246_ : 0 ≤ F214_ 344 9 ∧ F214_ 344 9 ≤ 5 := gi_g g215_ rfl
              rintro A1_ (⟨F250_, hA_, g251_, s252_, c247_, c248_, c249_⟩ | ⟨F256_, hA_, g257_, s258_, c253_, c254_, c255_⟩)
              ·
                subst hA_
                have g259_ : fs [(344, 344, 5, 5), (344, 344, 9, 10), (344, 344, 21, 21), (344, 344, 63, 63), (353, 363, 0, 100000)] F F250_ := fs_tr g238_ s252_ rfl
                have rk260_ : rk K F250_ := rk_fs rk239_ s252_ (fs_rg rfl) rfl
                try simp only [e240_, e243_, e245_] at c248_
                have c248_s := c248_.1 (by omega)
                clear c248_
                have b261_ : 0 ≤ F250_ 344 9 ∧ F250_ 344 9 ≤ 5 := gi_g g251_ rfl
                have b262_ : 0 ≤ F250_ 344 10 ∧ F250_ 344 10 ≤ 600 := gi_g g251_ rfl
                have b263_ : 0 ≤ F250_ 344 5 ∧ F250_ 344 5 ≤ 600 := gi_g g251_ rfl
                have e264_ : F192_ 344 21 = F 344 21 := by rw [q193_]; exact (fl_u_ne (by first | exact nc_ rfl | decide | omega)).trans ((fl_u_ne (by first | exact nc_ rfl | decide | omega)).trans ((fl_u_ne (by first | exact nc_ rfl | decide | omega)).trans ((fl_u_ne (by first | exact nc_ rfl | decide | omega)).trans (e191_))))
                have e265_ : F214_ 344 21 = F 344 21 := (s216_ 344 21 rfl).trans (e264_)
                have e266_ : F235_ 344 21 = F 344 21 := by rw [q236_]; exact (fl_u_ne (by first | exact nc_ rfl | decide | omega)).trans (e265_)
                have e267_ : F250_ 344 21 = F 344 21 := (s252_ 344 21 rfl).trans (e266_)
                exact fl_R_sub (lv' := [(3, .int (Int32.ofInt (F 344 21))), (0, .ref 344)]) rfl rfl (mb_173_142 hG F X hgi K ts pl al ps hgK hrk hkt hp hts hal hpl hps fr lo hfr hlo F250_ g251_ g259_ rk260_ (by omega) (⟨by omega, by omega⟩) (⟨by intro h0_; have hs_ := c248_s; rw [sp_a1, if_neg (by omega), sp_action]; rw [c16_]; simp only [pb_r]; rw [c39_]; simp only [pb_r]; rw [sp_new, if_pos (by omega), (ra_fi (by have x_ := (rpn_fs (rpn_fs (rpn_fs hal s20_ (fun _ => (by first | exact fs_c rfl | exact (fs_n (by omega) (fs_n (by omega) rfl)))) (by first | exact fs_c rfl | exact (fs_n (by omega) (fs_n (by omega) rfl)))) s43_ (fun _ => (by first | exact fs_c rfl | exact (fs_n (by omega) (fs_n (by omega) rfl)))) (by first | exact fs_c rfl | exact (fs_n (by omega) (fs_n (by omega) rfl)))) s71_ (fun _ => (by first | exact fs_c rfl | exact (fs_n (by omega) rfl))) (by first | exact fs_c rfl | exact (fs_n (by omega) rfl))); rw [e112_] at x_; exact x_) c65_ c114_o c115_o c116_o), if_pos (by omega), (show sk K (F41_ 344 5) = F41_ 344 5 + 1 by rw [sk, if_pos (by omega)])]; simp only [pb_r]; rw [c147_]; simp only [pb_r]; rw [c170_]; simp only [pb_r]; rw [sp1_ok ct1_]; simp only [pb_r]; rw [hs_]; try (show Sum.inl _ = _); try (congr 2 <;> omega), fun h0_ => by exfalso; omega⟩) (⟨by omega, by omega⟩))
              subst hA_
              have g268_ : fs [(344, 344, 5, 5), (344, 344, 9, 10), (344, 344, 21, 21), (344, 344, 63, 63), (353, 363, 0, 100000)] F F256_ := fs_tr g238_ s258_ rfl
              have rk269_ : rk K F256_ := rk_fs rk239_ s258_ (fs_rg rfl) rfl
              try simp only [e245_] at c253_
              try simp only [e240_] at c254_
              have b270_ : 0 ≤ F256_ 344 9 ∧ F256_ 344 9 ≤ 5 := gi_g g257_ rfl
              have b271_ : 0 ≤ F256_ 344 10 ∧ F256_ 344 10 ≤ 600 := gi_g g257_ rfl
              have b272_ : 0 ≤ F256_ 344 5 ∧ F256_ 344 5 ≤ 600 := gi_g g257_ rfl
              have e273_ : F192_ 344 21 = F 344 21 := by rw [q193_]; exact (fl_u_ne (by first | exact nc_ rfl | decide | omega)).trans ((fl_u_ne (by first | exact nc_ rfl | decide | omega)).trans ((fl_u_ne (by first | exact nc_ rfl | decide | omega)).trans ((fl_u_ne (by first | exact nc_ rfl | decide | omega)).trans (e191_))))
              have e274_ : F214_ 344 21 = F 344 21 := (s216_ 344 21 rfl).trans (e273_)
              have e275_ : F235_ 344 21 = F 344 21 := by rw [q236_]; exact (fl_u_ne (by first | exact nc_ rfl | decide | omega)).trans (e274_)
              have e276_ : F256_ 344 21 = F 344 21 := (s258_ 344 21 rfl).trans (e275_)
              have e277_ : F192_ 353 (F 344 21).toNat = z52_ := by rw [q193_]; exact (fl_u_ne (by first | exact nc_ rfl | decide | omega)).trans ((fl_u_ne (by first | exact nc_ rfl | decide | omega)).trans ((fl_u_ne (by first | exact nc_ rfl | decide | omega)).trans (fl_u_eq)))
              have e278_ : F214_ 353 (F 344 21).toNat = z52_ := (s216_ 353 (F 344 21).toNat (by first | exact fs_c rfl | exact (fs_n (by omega) (fs_n (by omega) (fs_n (by omega) rfl))))).trans (e277_)
              have e279_ : F235_ 353 (F 344 21).toNat = z52_ := by rw [q236_]; exact (fl_u_ne (by first | exact nc_ rfl | decide | omega)).trans (e278_)
              have e280_ : F256_ 353 (F 344 21).toNat = z52_ := (s258_ 353 (F 344 21).toNat (by first | exact fs_c rfl | exact (fs_n (by omega) (fs_n (by omega) rfl)))).trans (e279_)
              have e281_ : F235_ 354 (F 344 21).toNat = z199_ := by rw [q236_]; exact fl_u_eq
              have e282_ : F256_ 354 (F 344 21).toNat = z199_ := (s258_ 354 (F 344 21).toNat (by first | exact fs_c rfl | exact (fs_n (by omega) (fs_n (by omega) rfl)))).trans (e281_)
              have e283_ : F192_ 358 (F 344 21).toNat = 0 := by rw [q193_]; exact (fl_u_ne (by first | exact nc_ rfl | decide | omega)).trans (fl_u_eq)
              have e284_ : F214_ 358 (F 344 21).toNat = 0 := (s216_ 358 (F 344 21).toNat (by first | exact fs_c rfl | exact (fs_n (by omega) (fs_n (by omega) (fs_n (by omega) rfl))))).trans (e283_)
              have e285_ : F235_ 358 (F 344 21).toNat = 0 := by rw [q236_]; exact (fl_u_ne (by first | exact nc_ rfl | decide | omega)).trans (e284_)
              have e286_ : F256_ 358 (F 344 21).toNat = 0 := (s258_ 358 (F 344 21).toNat (by first | exact fs_c rfl | exact (fs_n (by omega) (fs_n (by omega) rfl)))).trans (e285_)
              have e287_ : F192_ 359 (F 344 21).toNat = 0 := by rw [q193_]; exact fl_u_eq
              have e288_ : F214_ 359 (F 344 21).toNat = 0 := (s216_ 359 (F 344 21).toNat (by first | exact fs_c rfl | exact (fs_n (by omega) (fs_n (by omega) (fs_n (by omega) rfl))))).trans (e287_)
              have e289_ : F235_ 359 (F 344 21).toNat = 0 := by rw [q236_]; exact (fl_u_ne (by first | exact nc_ rfl | decide | omega)).trans (e288_)
              have e290_ : F256_ 359 (F 344 21).toNat = 0 := (s258_ 359 (F 344 21).toNat (by first | exact fs_c rfl | exact (fs_n (by omega) (fs_n (by omega) rfl)))).trans (e289_)
              have e291_ : F192_ 357 (F 344 21).toNat = 1 := by rw [q193_]; exact (fl_u_ne (by first | exact nc_ rfl | decide | omega)).trans ((fl_u_ne (by first | exact nc_ rfl | decide | omega)).trans (fl_u_eq))
              have e292_ : F214_ 357 (F 344 21).toNat = 1 := (s216_ 357 (F 344 21).toNat (by first | exact fs_c rfl | exact (fs_n (by omega) (fs_n (by omega) (fs_n (by omega) rfl))))).trans (e291_)
              have e293_ : F235_ 357 (F 344 21).toNat = 1 := by rw [q236_]; exact (fl_u_ne (by first | exact nc_ rfl | decide | omega)).trans (e292_)
              have e294_ : F256_ 357 (F 344 21).toNat = 1 := (s258_ 357 (F 344 21).toNat (by first | exact fs_c rfl | exact (fs_n (by omega) (fs_n (by omega) rfl)))).trans (e293_)
              exact fl_R_sub (lv' := [(3, .int (Int32.ofInt (F 344 21))), (0, .ref 344)]) rfl rfl (mg_173_142 hG F X hgi K ts pl al ps hgK hrk hkt hp hts hal hpl hps fr lo hfr hlo F256_ (K 6 (F41_ 344 5).toNat) (l2_) (tl2_) g257_ g268_ rk269_ ⟨by omega, by omega⟩ ⟨by omega, by omega⟩ (by rw [sp_a1, if_neg (by omega), sp_action]; rw [c16_]; simp only [pb_r]; rw [c39_]; simp only [pb_r]; rw [sp_new, if_pos (by omega), (ra_fi (by have x_ := (rpn_fs (rpn_fs (rpn_fs hal s20_ (fun _ => (by first | exact fs_c rfl | exact (fs_n (by omega) (fs_n (by omega) rfl)))) (by first | exact fs_c rfl | exact (fs_n (by omega) (fs_n (by omega) rfl)))) s43_ (fun _ => (by first | exact fs_c rfl | exact (fs_n (by omega) (fs_n (by omega) rfl)))) (by first | exact fs_c rfl | exact (fs_n (by omega) (fs_n (by omega) rfl)))) s71_ (fun _ => (by first | exact fs_c rfl | exact (fs_n (by omega) rfl))) (by first | exact fs_c rfl | exact (fs_n (by omega) rfl))); rw [e112_] at x_; exact x_) c65_ c114_o c115_o c116_o), if_pos (by omega), (show sk K (F41_ 344 5) = F41_ 344 5 + 1 by rw [sk, if_pos (by omega)])]; simp only [pb_r]; rw [c147_]; simp only [pb_r]; rw [c170_]; simp only [pb_r]; rw [sp1_ok ct1_]; simp only [pb_r]; rw [c254_]; simp only [pb_r]; rfl) (⟨by omega, by omega⟩) (by rw [show F256_ 353 (F 344 21).toNat = _ from e280_]; exact c65_) (rpn_cg hal (fun j hj => (Eq.trans (a := F256_ 353 j) (b := F235_ 353 j) (s258_ 353 j (by first | exact fs_c rfl | exact (fs_n (by omega) (fs_n (by omega) rfl)))) (Eq.trans (a := F235_ 353 j) (b := F214_ 353 j) (by rw [q236_]; exact (fl_u_ne (by first | exact nc_ rfl | decide | omega))) (Eq.trans (a := F214_ 353 j) (b := F192_ 353 j) (s216_ 353 j (by first | exact fs_c rfl | exact (fs_n (by omega) (fs_n (by omega) (fs_n (by omega) rfl))))) (Eq.trans (a := F192_ 353 j) (b := F172_ 353 j) (by rw [q193_]; exact (fl_u_ne (by first | exact nc_ rfl | decide | omega)).trans ((fl_u_ne (by first | exact nc_ rfl | decide | omega)).trans ((fl_u_ne (by first | exact nc_ rfl | decide | omega)).trans ((fl_u_ne (by first | exact nc_ rfl | decide | omega)))))) (Eq.trans (a := F172_ 353 j) (b := F149_ 353 j) (s174_ 353 j (by first | exact fs_c rfl | exact (fs_n (by omega) (fs_n (by omega) rfl)))) (Eq.trans (a := F149_ 353 j) (b := F130_ 353 j) (s151_ 353 j (by first | exact fs_c rfl | exact (fs_n (by omega) (fs_n (by omega) rfl)))) (Eq.trans (a := F130_ 353 j) (b := F69_ 353 j) (by rw [q131_]; exact (fl_u_ne (by first | exact nc_ rfl | decide | omega))) (Eq.trans (a := F69_ 353 j) (b := F41_ 353 j) (s71_ 353 j (by first | exact fs_c rfl | exact (fs_n (by omega) rfl))) (Eq.trans (a := F41_ 353 j) (b := F18_ 353 j) (s43_ 353 j (by first | exact fs_c rfl | exact (fs_n (by omega) (fs_n (by omega) rfl)))) (show F18_ 353 j = F 353 j from (s20_ 353 j (by first | exact fs_c rfl | exact (fs_n (by omega) (fs_n (by omega) rfl)))))))))))))))) (by rw [show F256_ 354 (F 344 21).toNat = z199_ from e282_]; exact rpn_cg ct5_ (fun j hj => (Eq.trans (a := F256_ 356 ((3 * F 344 21).toNat + j)) (b := F235_ 356 ((3 * F 344 21).toNat + j)) (s258_ 356 ((3 * F 344 21).toNat + j) (by first | exact fs_c rfl | exact (fs_n (by omega) (fs_n (by omega) rfl)))) (show F235_ 356 ((3 * F 344 21).toNat + j) = F214_ 356 ((3 * F 344 21).toNat + j) from (by rw [q236_]; exact (fl_u_ne (by first | exact nc_ rfl | decide | omega))))))) (rty_cg ct4_ (fun j hj => (Eq.trans (a := F256_ 355 ((3 * F 344 21).toNat + j)) (b := F235_ 355 ((3 * F 344 21).toNat + j)) (s258_ 355 ((3 * F 344 21).toNat + j) (by first | exact fs_c rfl | exact (fs_n (by omega) (fs_n (by omega) rfl)))) (show F235_ 355 ((3 * F 344 21).toNat + j) = F214_ 355 ((3 * F 344 21).toNat + j) from (by rw [q236_]; exact (fl_u_ne (by first | exact nc_ rfl | decide | omega))))))) (ct6_) (e286_) (e290_) (⟨by rw [show F256_ 357 (F 344 21).toNat = _ from e294_]; omega, fun j hj => (Eq.trans (a := F256_ 357 j) (b := F235_ 357 j) (s258_ 357 j (by first | exact fs_c rfl | exact (fs_n (by omega) (fs_n (by omega) rfl)))) (Eq.trans (a := F235_ 357 j) (b := F214_ 357 j) (by rw [q236_]; exact (fl_u_ne (by first | exact nc_ rfl | decide | omega))) (Eq.trans (a := F214_ 357 j) (b := F192_ 357 j) (s216_ 357 j (by first | exact fs_c rfl | exact (fs_n (by omega) (fs_n (by omega) (fs_n (by omega) rfl))))) (Eq.trans (a := F192_ 357 j) (b := F172_ 357 j) (by rw [q193_]; exact (fl_u_ne (by first | exact nc_ rfl | decide | omega)).trans ((fl_u_ne (by first | exact nc_ rfl | decide | omega)).trans ((fl_u_ne (by first | exact nc_ rfl | decide | omega)).trans ((fl_u_ne (by first | exact nc_ rfl | decide | omega)))))) (Eq.trans (a := F172_ 357 j) (b := F149_ 357 j) (s174_ 357 j (by first | exact fs_c rfl | exact (fs_n (by omega) (fs_n (by omega) rfl)))) (Eq.trans (a := F149_ 357 j) (b := F130_ 357 j) (s151_ 357 j (by first | exact fs_c rfl | exact (fs_n (by omega) (fs_n (by omega) rfl)))) (Eq.trans (a := F130_ 357 j) (b := F69_ 357 j) (by rw [q131_]; exact (fl_u_ne (by first | exact nc_ rfl | decide | omega))) (Eq.trans (a := F69_ 357 j) (b := F41_ 357 j) (s71_ 357 j (by first | exact fs_c rfl | exact (fs_n (by omega) rfl))) (Eq.trans (a := F41_ 357 j) (b := F18_ 357 j) (s43_ 357 j (by first | exact fs_c rfl | exact (fs_n (by omega) (fs_n (by omega) rfl)))) (show F18_ 357 j = F 357 j from (s20_ 357 j (by first | exact fs_c rfl | exact (fs_n (by omega) (fs_n (by omega) rfl))))))))))))))⟩))
            exfalso; omega
          exfalso; omega
        refine ga_aload_n (v := .ref 344) hm_173 rfl rfl rfl ?_
        refine fl_iconst hm_173 rfl ?_
        have e295_ : F69_ 344 5 = F41_ 344 5 := (s71_ 344 5 rfl).trans (rfl)
        refine gVv (nY := 2) (F := 0) (L := 0) (As := [.int (Int32.ofInt 2)]) (b := 344) (rest := []) hm_173 rfl hm_54 rfl rfl (fl_ob sc_344) rfl rfl rfl rfl rfl (by omega) (by omega) (mc_54 hG F69_ X g70_ (K) (2) hgK rk102_ hkt (⟨by omega, by omega⟩) (⟨by omega, by omega⟩)) (fun _ _ h => False.elim h) ?_
        have b297_ : 0 ≤ F69_ 344 10 ∧ F69_ 344 10 ≤ 600 := gi_g g70_ rfl
        rintro A1_ ⟨F301_, hA_, g302_, s303_, c298_, c299_, c300_⟩
        subst hA_
        have g304_ : fs [(344, 344, 5, 5), (344, 344, 9, 10), (344, 344, 21, 21), (344, 344, 63, 63), (353, 363, 0, 100000)] F F301_ := fs_tr g101_ s303_ rfl
        have rk305_ : rk K F301_ := rk_fs rk102_ s303_ (fs_rg rfl) rfl
        try simp only [e295_] at c299_
        try simp only [e295_] at c300_
        have c299_s := c299_.1 (by omega)
        clear c299_
        refine ga_aload_n (v := .ref 344) hm_173 rfl rfl rfl ?_
        refine gIv (nY := 1) (F := 1) (L := 20) (As := []) (b := 344) (rest := []) hm_173 rfl hm_61 rfl rfl (fl_ob sc_344) rfl rfl rfl rfl rfl (by omega) (by omega) ?_
        intro f306_ l307_ h308_ h309_
        show fl_R xi_ms 61 f306_ l307_ 0 [(0, .ref 344)] [] _ _
        refine ga_aload_n (v := .ref 344) hm_61 rfl rfl rfl ?_
        refine ga_dup hm_61 rfl rfl ?_
        have e310_ : F301_ 344 5 = F41_ 344 5 := (s303_ 344 5 rfl).trans (e295_)
        refine ga_geti (z := F41_ 344 5) hm_61 rfl sc_344 rfl (e310_) ?_
        refine ga_aload_n (v := .ref 344) hm_61 rfl rfl rfl ?_
        refine gIi (nY := 1) (F := 0) (L := 0) (As := []) (b := 344) (rest := [.int (Int32.ofInt (F41_ 344 5)), .ref 344]) hm_61 rfl hm_59 rfl rfl (fl_ob sc_344) rfl rfl rfl rfl rfl (by omega) (by omega) ?_
        intro f311_ l312_ h313_ h314_
        show fl_R xi_ms 59 f311_ l312_ 0 [(0, .ref 344)] [] _ _
        refine ga_aload_n (v := .ref 344) hm_59 rfl rfl rfl ?_
        have b315_ : 0 ≤ F301_ 344 9 ∧ F301_ 344 9 ≤ 5 := gi_g g302_ rfl
        refine ga_geti (z := F301_ 344 9) hm_59 rfl sc_344 rfl (rfl) ?_
        refine fl_if_le (a := F301_ 344 9) hm_59 rfl ⟨by omega, by omega⟩ (fun h316_ => ?_) (fun h317_ => ?_)
        · exfalso; omega
        refine fl_iconst hm_59 rfl ?_
        refine fl_goto hm_59 rfl ?_
        refine gr_i hm_59 rfl rfl (ga_nb (by omega)) ?_
        clear h313_ h314_ f311_ l312_
        refine fl_if_eq hm_61 rfl ⟨by omega, by omega⟩ (fun h => absurd h (by omega)) (fun _ => ?_)
        refine fl_iconst hm_61 rfl ?_
        refine fl_goto hm_61 rfl ?_
        refine ga_iadd (a := F41_ 344 5) (b := 0) (c := F41_ 344 5) hm_61 rfl (by omega) ?_
        refine ga_puti (z := F41_ 344 5) hm_61 rfl sc_344 rfl rfl ?_
        refine gr_v hm_61 rfl rfl ?_
        clear h308_ h309_ f306_ l307_
        obtain ⟨F318_, q319_⟩ : ∃ Fq_, Fq_ = (fl_u F301_ 344 5 (F41_ 344 5)) := ⟨_, rfl⟩
        rw [← q319_]
        have g320_ : gi F318_ := by rw [q319_]; exact gi_u (g302_) rfl (by omega) (by omega)
        have g321_ : fs [(344, 344, 5, 5), (344, 344, 9, 10), (344, 344, 21, 21), (344, 344, 63, 63), (353, 363, 0, 100000)] F F318_ := by rw [q319_]; exact fs_u (g304_) rfl
        have rk322_ : rk K F318_ := by rw [q319_]; exact rk_u (rk305_) (by first | decide | exact nc_ rfl | omega) (by first | decide | exact nc_ rfl | omega)
        have e323_ : F318_ 344 9 = F301_ 344 9 := by rw [q319_]; exact fl_u_ne (by first | exact nc_ rfl | decide | omega)
        have e324_ : F318_ 344 10 = F301_ 344 10 := by rw [q319_]; exact fl_u_ne (by first | exact nc_ rfl | decide | omega)
        have b325_ : 0 ≤ F301_ 344 10 ∧ F301_ 344 10 ≤ 600 := gi_g g302_ rfl
        have e326_ : F318_ 344 5 = F41_ 344 5 := by rw [q319_]; exact fl_u_eq
        exact fl_R_sub (lv' := [(0, .ref 344)]) rfl rfl (mb_173_62 hG F X hgi K ts pl al ps hgK hrk hkt hp hts hal hpl hps fr lo hfr hlo F318_ g320_ g321_ rk322_ (by omega) (⟨by omega, by omega⟩) (⟨by intro h0_; have hs_ := c299_s; rw [sp_a1, if_neg (by omega), sp_action]; rw [c16_]; simp only [pb_r]; rw [c39_]; simp only [pb_r]; rw [sp_new, if_pos (by omega), (ra_fi (by have x_ := (rpn_fs (rpn_fs (rpn_fs hal s20_ (fun _ => (by first | exact fs_c rfl | exact (fs_n (by omega) (fs_n (by omega) rfl)))) (by first | exact fs_c rfl | exact (fs_n (by omega) (fs_n (by omega) rfl)))) s43_ (fun _ => (by first | exact fs_c rfl | exact (fs_n (by omega) (fs_n (by omega) rfl)))) (by first | exact fs_c rfl | exact (fs_n (by omega) (fs_n (by omega) rfl)))) s71_ (fun _ => (by first | exact fs_c rfl | exact (fs_n (by omega) rfl))) (by first | exact fs_c rfl | exact (fs_n (by omega) rfl))); rw [e112_] at x_; exact x_) c65_ c114_o c115_o c116_o), if_neg (by omega)]; show Sum.inl (2, K 4 _) = _; congr 2 <;> omega, fun h0_ => by exfalso; omega⟩))
      exfalso; omega
    refine ga_aload_n (v := .ref 344) hm_173 rfl rfl rfl ?_
    refine fl_iconst hm_173 rfl ?_
    have b327_ : 0 ≤ F 344 5 ∧ F 344 5 ≤ 600 := gi_g hgi rfl
    refine gVv (nY := 2) (F := 0) (L := 0) (As := [.int (Int32.ofInt 1)]) (b := 344) (rest := []) hm_173 rfl hm_54 rfl rfl (fl_ob sc_344) rfl rfl rfl rfl rfl (by omega) (by omega) (mc_54 hG F X hgi (K) (1) hgK hrk hkt (⟨by omega, by omega⟩) (⟨by omega, by omega⟩)) (fun _ _ h => False.elim h) ?_
    have b329_ : 0 ≤ F 344 10 ∧ F 344 10 ≤ 600 := gi_g hgi rfl
    rintro A1_ ⟨F333_, hA_, g334_, s335_, c330_, c331_, c332_⟩
    subst hA_
    have g336_ : fs [(344, 344, 5, 5), (344, 344, 9, 10), (344, 344, 21, 21), (344, 344, 63, 63), (353, 363, 0, 100000)] F F333_ := fs_tr fs_refl s335_ rfl
    have rk337_ : rk K F333_ := rk_fs hrk s335_ (fs_rg rfl) rfl
    have c331_s := c331_.1 (by omega)
    clear c331_
    have b338_ : 0 ≤ F333_ 344 9 ∧ F333_ 344 9 ≤ 5 := gi_g g334_ rfl
    have b339_ : 0 ≤ F333_ 344 10 ∧ F333_ 344 10 ≤ 600 := gi_g g334_ rfl
    have e340_ : F333_ 344 5 = F 344 5 := (s335_ 344 5 rfl).trans (rfl)
    exact mb_173_13 hG F X hgi K ts pl al ps hgK hrk hkt hp hts hal hpl hps fr lo hfr hlo F333_ g334_ g336_ rk337_ (by omega) (⟨by omega, by omega⟩) (⟨by intro h0_; have hs_ := c331_s; rw [sp_a1, if_pos (by omega), pf]; congr 2 <;> omega, fun h0_ => by exfalso; omega⟩)
  refine ga_aload_n (v := .ref 344) hm_173 rfl rfl rfl ?_
  have b341_ : 0 ≤ F 344 21 ∧ F 344 21 ≤ 5 := gi_g hgi rfl
  refine ga_geti (z := F 344 21) hm_173 rfl sc_344 rfl (rfl) ?_
  refine fl_iconst hm_173 rfl ?_
  refine fx_icmp_ne (a := F 344 21) (b := 5) hm_173 rfl ⟨by omega, by omega⟩ ⟨by omega, by omega⟩ (fun h342_ => ?_) (fun h343_ => ?_)
  ·
    have b344_ : 0 ≤ F 344 10 ∧ F 344 10 ≤ 600 := gi_g hgi rfl
    have b345_ : 0 ≤ F 344 5 ∧ F 344 5 ≤ 600 := gi_g hgi rfl
    exact mb_173_13 hG F X hgi K ts pl al ps hgK hrk hkt hp hts hal hpl hps fr lo hfr hlo F hgi fs_refl hrk (by omega) (⟨by omega, by omega⟩) (⟨fun h0_ => by exfalso; omega, fun h0_ => by constructor <;> omega⟩)
  refine ga_aload_n (v := .ref 344) hm_173 rfl rfl rfl ?_
  refine fl_iconst hm_173 rfl ?_
  have b346_ : 0 ≤ F 344 5 ∧ F 344 5 ≤ 600 := gi_g hgi rfl
  refine gVv (nY := 2) (F := 0) (L := 0) (As := [.int (Int32.ofInt 1)]) (b := 344) (rest := []) hm_173 rfl hm_54 rfl rfl (fl_ob sc_344) rfl rfl rfl rfl rfl (by omega) (by omega) (mc_54 hG F X hgi (K) (1) hgK hrk hkt (⟨by omega, by omega⟩) (⟨by omega, by omega⟩)) (fun _ _ h => False.elim h) ?_
  have b348_ : 0 ≤ F 344 10 ∧ F 344 10 ≤ 600 := gi_g hgi rfl
  rintro A1_ ⟨F352_, hA_, g353_, s354_, c349_, c350_, c351_⟩
  subst hA_
  have g355_ : fs [(344, 344, 5, 5), (344, 344, 9, 10), (344, 344, 21, 21), (344, 344, 63, 63), (353, 363, 0, 100000)] F F352_ := fs_tr fs_refl s354_ rfl
  have rk356_ : rk K F352_ := rk_fs hrk s354_ (fs_rg rfl) rfl
  have c350_k := c350_.2 (by omega)
  clear c350_
  have b357_ : 0 ≤ F352_ 344 9 ∧ F352_ 344 9 ≤ 5 := gi_g g353_ rfl
  have b358_ : 0 ≤ F352_ 344 10 ∧ F352_ 344 10 ≤ 600 := gi_g g353_ rfl
  have e359_ : F352_ 344 5 = F 344 5 := (s354_ 344 5 rfl).trans (rfl)
  exact mb_173_13 hG F X hgi K ts pl al ps hgK hrk hkt hp hts hal hpl hps fr lo hfr hlo F352_ g353_ g355_ rk356_ (by omega) (⟨by omega, by omega⟩) (⟨fun h0_ => by exfalso; omega, fun h0_ => by constructor <;> omega⟩)

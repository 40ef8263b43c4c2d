def sp_a1 (K : fl_N) (ts pl : List Int) (ps : List (List Int)) (al : List Int) (p : Int) : PR (Int × List Int) := if (al.length : Int) = 5 then pf K p 1 else sp_action K ts pl ps al p
def sp_ac2 (K : fl_N) (pl : List Int) (ps : List (List Int)) (al2 l tl : List Int) (p : Int) : PR (Int × List Int) := pb (if isw K p [58, 112, 114, 101, 99, 111, 110, 100, 105, 116, 105, 111, 110] = true then sp_clause K false 3 l tl pl ps (sk K p) else .inr (p, 0)) fun s => pb (sp_word K [58, 101, 102, 102, 101, 99, 116] s.1) fun p => pb (sp_clause K true 3 l tl pl ps p) fun s => pb (sp_kind K 1 s.1) fun p => .inr (p, al2)
def opq (p : Prop) : Prop := p

/- CheapPlannerModel.readAction -/
abbrev pq_173 (G : Nat → Nat → Option Nat) (F : fl_N) (X : xi_H) (K : fl_N) (ts pl al : List Int) (ps : List (List Int)) : Outcome → xi_H → Prop := gqv (fun A => (∃ F' : fl_N, fl_H sh_T G F' ++ X = A ∧ gi F' ∧ fs [(344, 344, 5, 5), (344, 344, 9, 10), (344, 344, 21, 21), (344, 344, 63, 63), (353, 363, 0, 100000)] F F' ∧ (¬ F' 344 9 = 0) ∧ ((F 344 9 = 0 → sp_a1 K ts pl ps al (F 344 5) = .inl (F' 344 9, F' 344 10)) ∧ (¬ F 344 9 = 0 → F' 344 9 = F 344 9 ∧ F' 344 10 = F 344 10)) ∧ (0 ≤ F' 344 5 ∧ F' 344 5 ≤ K 1 6 - 1)) ∨ (∃ F' : fl_N, fl_H sh_T G F' ++ X = A ∧ gi F' ∧ fs [(344, 344, 5, 5), (344, 344, 9, 10), (344, 344, 21, 21), (344, 344, 63, 63), (353, 363, 0, 100000)] F F' ∧ (F' 344 9 = 0 ∧ F 344 9 = 0) ∧ (∃ c, sp_a1 K ts pl ps al (F 344 5) = .inr (F' 344 5, al ++ [c]) ∧ rpn (F' 353) (F' 344 21) (al ++ [c])) ∧ (0 ≤ F' 344 5 ∧ F' 344 5 ≤ K 1 6 - 1) ∧ (∀ j : Nat, (j : Int) < F 344 21 → F' 357 j = F 357 j) ∧ (0 ≤ F' 357 (F 344 21).toNat ∧ F' 344 21 = F 344 21 + 1) ∧ (lfr (F 344 21).toNat (8 * (F 344 21).toNat) (8 * (F 344 21).toNat + 8) F F') ∧ (racr F' (F 344 21).toNat (act_d K ts pl ps (F 344 5))))) gqn
set_option maxHeartbeats 16000000 in
theorem mb_173_187 {G : Nat → Nat → Option Nat} (hG : gg G) (F : fl_N) (X : xi_H) (hgi : gi F) (K : fl_N) (ts pl al : List Int) (ps : List (List Int)) (hgK : gi K) (hrk : rk K F) (hkt : rkt K) (hp : 0 ≤ F 344 5 ∧ F 344 5 ≤ K 1 6 - 1) (hts : rpn (F 349) (F 344 15) ts) (hal : rpn (F 353) (F 344 21) al) (hpl : rpn (F 350) (F 344 17) pl) (hps : rprd F ps ∧ ps.length = pl.length) (fr lo : Nat) (hfr : 7 ≤ fr) (hlo : 165 ≤ lo) (Fb : fl_N) (hg_Fb : gi Fb) (hf_Fb : fs [(344, 344, 5, 5), (344, 344, 9, 10), (344, 344, 21, 21), (344, 344, 63, 63), (353, 363, 0, 100000)] F Fb) (hrk_b : rk K Fb) (hbd : ¬ Fb 344 9 = 0) (hp_b : 0 ≤ Fb 344 5 ∧ Fb 344 5 ≤ K 1 6 - 1) (hb : (F 344 9 = 0 → sp_a1 K ts pl ps al (F 344 5) = .inl (Fb 344 9, Fb 344 10)) ∧ (¬ F 344 9 = 0 → Fb 344 9 = F 344 9 ∧ Fb 344 10 = F 344 10)) (h21b : Fb 344 21 = F 344 21 ∧ F 344 21 ≤ 4) : fl_R xi_ms 173 fr lo 187 [(3, .int (Int32.ofInt (F 344 21))), (0, .ref 344)] [] (fl_H sh_T G Fb ++ X) (pq_173 G F X K ts pl al ps) := by
  have hP := (rkt_p hkt hp.1 hp.2 hgK).1
  have hK16 : 0 ≤ K 1 6 ∧ K 1 6 ≤ 601 := gi_g hgK rfl
  have hko := hkt.1
  have hal1 := hal.1
  have hb21 : 0 ≤ F 344 21 ∧ F 344 21 ≤ 5 := gi_g hgi rfl
  refine ga_aload_n (v := .ref 344) hm_173 rfl rfl rfl ?_
  refine ga_dup hm_173 rfl rfl ?_
  have b21_ : 0 ≤ Fb 344 21 ∧ Fb 344 21 ≤ 5 := gi_g hg_Fb rfl
  refine ga_geti (z := Fb 344 21) hm_173 rfl sc_344 rfl (rfl) ?_
  refine fl_iconst hm_173 rfl ?_
  refine ga_iadd (a := Fb 344 21) (b := 1) (c := Fb 344 21 + 1) hm_173 rfl (by omega) ?_
  refine ga_puti (z := Fb 344 21 + 1) hm_173 rfl sc_344 rfl rfl ?_
  obtain ⟨F22_, q23_⟩ : ∃ Fq_, Fq_ = (fl_u Fb 344 21 (Fb 344 21 + 1)) := ⟨_, rfl⟩
  rw [← q23_]
  have g24_ : gi F22_ := by rw [q23_]; exact gi_u (hg_Fb) rfl (by omega) (by omega)
  have g25_ : fs [(344, 344, 5, 5), (344, 344, 9, 10), (344, 344, 21, 21), (344, 344, 63, 63), (353, 363, 0, 100000)] F F22_ := by rw [q23_]; exact fs_u (hf_Fb) rfl
  have rk26_ : rk K F22_ := by rw [q23_]; exact rk_u (hrk_b) (by first | decide | exact nc_ rfl | omega) (by first | decide | exact nc_ rfl | omega)
  refine gr_v hm_173 rfl rfl ?_
  have e27_ : F22_ 344 9 = Fb 344 9 := by rw [q23_]; exact fl_u_ne (by first | exact nc_ rfl | decide | omega)
  have b28_ : 0 ≤ Fb 344 9 ∧ Fb 344 9 ≤ 5 := gi_g hg_Fb rfl
  have e29_ : F22_ 344 10 = Fb 344 10 := by rw [q23_]; exact fl_u_ne (by first | exact nc_ rfl | decide | omega)
  have e30_ : F22_ 344 5 = Fb 344 5 := by rw [q23_]; exact fl_u_ne (by first | exact nc_ rfl | decide | omega)
  have b31_ : 0 ≤ Fb 344 10 ∧ Fb 344 10 ≤ 600 := gi_g hg_Fb rfl
  have b32_ : 0 ≤ F 344 10 ∧ F 344 10 ≤ 600 := gi_g hgi rfl
  have b33_ : 0 ≤ F 344 5 ∧ F 344 5 ≤ 600 := gi_g hgi rfl
  have b34_ : 0 ≤ F 344 9 ∧ F 344 9 ≤ 5 := gi_g hgi rfl
  have b35_ : 0 ≤ Fb 344 5 ∧ Fb 344 5 ≤ 600 := gi_g hg_Fb rfl
  exact Or.inl ⟨F22_, rfl, g24_, g25_, (by omega), (⟨fun h0_ => by rw [show F22_ 344 9 = Fb 344 9 by omega, show F22_ 344 10 = Fb 344 10 by omega]; exact hb.1 h0_, fun h0_ => by have h1_ := hb.2 h0_; omega⟩), (⟨by omega, by omega⟩)⟩
set_option maxHeartbeats 16000000 in
theorem mb_173_181 {G : Nat → Nat → Option Nat} (hG : gg G) (F : fl_N) (X : xi_H) (hgi : gi F) (K : fl_N) (ts pl al : List Int) (ps : List (List Int)) (hgK : gi K) (hrk : rk K F) (hkt : rkt K) (hp : 0 ≤ F 344 5 ∧ F 344 5 ≤ K 1 6 - 1) (hts : rpn (F 349) (F 344 15) ts) (hal : rpn (F 353) (F 344 21) al) (hpl : rpn (F 350) (F 344 17) pl) (hps : rprd F ps ∧ ps.length = pl.length) (fr lo : Nat) (hfr : 7 ≤ fr) (hlo : 165 ≤ lo) (Fb : fl_N) (hg_Fb : gi Fb) (hf_Fb : fs [(344, 344, 5, 5), (344, 344, 9, 10), (344, 344, 21, 21), (344, 344, 63, 63), (353, 363, 0, 100000)] F Fb) (hrk_b : rk K Fb) (hbd : ¬ Fb 344 9 = 0) (hp_b : 0 ≤ Fb 344 5 ∧ Fb 344 5 ≤ K 1 6 - 1) (hb : (F 344 9 = 0 → sp_a1 K ts pl ps al (F 344 5) = .inl (Fb 344 9, Fb 344 10)) ∧ (¬ F 344 9 = 0 → Fb 344 9 = F 344 9 ∧ Fb 344 10 = F 344 10)) (h21b : Fb 344 21 = F 344 21 ∧ F 344 21 ≤ 4) : fl_R xi_ms 173 fr lo 181 [(3, .int (Int32.ofInt (F 344 21))), (0, .ref 344)] [] (fl_H sh_T G Fb ++ X) (pq_173 G F X K ts pl al ps) := by
  have hP := (rkt_p hkt hp.1 hp.2 hgK).1
  have hK16 : 0 ≤ K 1 6 ∧ K 1 6 ≤ 601 := gi_g hgK rfl
  have hko := hkt.1
  have hal1 := hal.1
  have hb21 : 0 ≤ F 344 21 ∧ F 344 21 ≤ 5 := gi_g hgi rfl
  refine ga_aload_n (v := .ref 344) hm_173 rfl rfl rfl ?_
  refine fl_bipush hm_173 rfl rfl ?_
  have b21_ : 0 ≤ Fb 344 5 ∧ Fb 344 5 ≤ 600 := gi_g hg_Fb rfl
  refine gVv (nY := 2) (F := 2) (L := 41) (As := [.int (Int32.ofInt 41)]) (b := 344) (rest := []) hm_173 rfl hm_51 rfl rfl (fl_ob sc_344) rfl rfl rfl rfl rfl (by omega) (by omega) (mc_51 hG Fb X hg_Fb (K) (41) (1) hgK hrk_b hkt (⟨by omega, by omega⟩) (by omega) (by omega)) (fun _ _ h => False.elim h) ?_
  have b23_ : 0 ≤ Fb 344 10 ∧ Fb 344 10 ≤ 600 := gi_g hg_Fb rfl
  have b24_ : 0 ≤ Fb 344 9 ∧ Fb 344 9 ≤ 5 := gi_g hg_Fb rfl
  rintro A1_ (⟨F28_, hA_, g29_, s30_, c25_, c26_, c27_⟩ | ⟨F34_, hA_, g35_, s36_, c31_, c32_, c33_⟩)
  ·
    subst hA_
    have g37_ : fs [(344, 344, 5, 5), (344, 344, 9, 10), (344, 344, 21, 21), (344, 344, 63, 63), (353, 363, 0, 100000)] F F28_ := fs_tr hf_Fb s30_ rfl
    have rk38_ : rk K F28_ := rk_fs hrk_b s30_ (fs_rg rfl) rfl
    have c26_k := c26_.2 (by omega)
    clear c26_
    have b39_ : 0 ≤ F28_ 344 9 ∧ F28_ 344 9 ≤ 5 := gi_g g29_ rfl
    have b40_ : 0 ≤ F28_ 344 10 ∧ F28_ 344 10 ≤ 600 := gi_g g29_ rfl
    have b41_ : 0 ≤ F28_ 344 5 ∧ F28_ 344 5 ≤ 600 := gi_g g29_ rfl
    have e42_ : F28_ 344 21 = Fb 344 21 := (s30_ 344 21 rfl).trans (rfl)
    have b43_ : 0 ≤ Fb 344 21 ∧ Fb 344 21 ≤ 5 := gi_g hg_Fb rfl
    exact mb_173_187 hG F X hgi K ts pl al ps hgK hrk hkt hp hts hal hpl hps fr lo hfr hlo F28_ g29_ g37_ rk38_ (by omega) (⟨by omega, by omega⟩) (⟨fun h0_ => by rw [show F28_ 344 9 = Fb 344 9 by omega, show F28_ 344 10 = Fb 344 10 by omega]; exact hb.1 h0_, fun h0_ => by have h1_ := hb.2 h0_; omega⟩) (⟨by omega, by omega⟩)
  exfalso; omega
set_option maxHeartbeats 16000000 in
theorem mb_173_176 {G : Nat → Nat → Option Nat} (hG : gg G) (F : fl_N) (X : xi_H) (hgi : gi F) (K : fl_N) (ts pl al : List Int) (ps : List (List Int)) (hgK : gi K) (hrk : rk K F) (hkt : rkt K) (hp : 0 ≤ F 344 5 ∧ F 344 5 ≤ K 1 6 - 1) (hts : rpn (F 349) (F 344 15) ts) (hal : rpn (F 353) (F 344 21) al) (hpl : rpn (F 350) (F 344 17) pl) (hps : rprd F ps ∧ ps.length = pl.length) (fr lo : Nat) (hfr : 7 ≤ fr) (hlo : 165 ≤ lo) (Fb : fl_N) (hg_Fb : gi Fb) (hf_Fb : fs [(344, 344, 5, 5), (344, 344, 9, 10), (344, 344, 21, 21), (344, 344, 63, 63), (353, 363, 0, 100000)] F Fb) (hrk_b : rk K Fb) (hbd : ¬ Fb 344 9 = 0) (hp_b : 0 ≤ Fb 344 5 ∧ Fb 344 5 ≤ K 1 6 - 1) (hb : (F 344 9 = 0 → sp_a1 K ts pl ps al (F 344 5) = .inl (Fb 344 9, Fb 344 10)) ∧ (¬ F 344 9 = 0 → Fb 344 9 = F 344 9 ∧ Fb 344 10 = F 344 10)) (h21b : Fb 344 21 = F 344 21 ∧ F 344 21 ≤ 4) : fl_R xi_ms 173 fr lo 176 [(3, .int (Int32.ofInt (F 344 21))), (0, .ref 344)] [] (fl_H sh_T G Fb ++ X) (pq_173 G F X K ts pl al ps) := by
  have hP := (rkt_p hkt hp.1 hp.2 hgK).1
  have hK16 : 0 ≤ K 1 6 ∧ K 1 6 ≤ 601 := gi_g hgK rfl
  have hko := hkt.1
  have hal1 := hal.1
  have hb21 : 0 ≤ F 344 21 ∧ F 344 21 ≤ 5 := gi_g hgi rfl
  refine ga_aload_n (v := .ref 344) hm_173 rfl rfl rfl ?_
  refine ga_iload_n (z := F 344 21) hm_173 rfl rfl ?_
  have b21_ : 0 ≤ Fb 344 5 ∧ Fb 344 5 ≤ 600 := gi_g hg_Fb rfl
  refine gVv (nY := 4) (F := 6) (L := 140) (As := [.int (Int32.ofInt (F 344 21))]) (b := 344) (rest := []) hm_173 rfl hm_176 rfl rfl (fl_ob sc_344) rfl rfl rfl rfl rfl (by omega) (by omega) (mc_176 hG Fb X hg_Fb (K) (F 344 21) (3) ([]) ([]) (pl) (ps) hgK hrk_b hkt (⟨by omega, by omega⟩) (fun h9_ => absurd h9_ (by omega)) (⟨by omega, by omega⟩) ((rpn_fs hpl hf_Fb (fun _ => (by first | exact fs_c rfl | exact (fs_n (by omega) (fs_n (by omega) (fs_n (by omega) (fs_n (by omega) (fs_n (by omega) rfl))))))) (by first | exact fs_c rfl | exact (fs_n (by omega) (fs_n (by omega) (fs_n (by omega) (fs_n (by omega) (fs_n (by omega) rfl)))))))) (⟨(rprd_fs hps.1 hf_Fb (by first | exact fs_rg rfl | exact fun r j hj => (fs_n (by omega) (fs_n (by omega) (fs_n (by omega) (fs_n (by omega) (fs_n (by omega) rfl))))))), hps.2⟩) (fun h9_ => absurd h9_ (by omega)) (fun h9_ => absurd h9_ (by omega))) (fun _ _ h => False.elim h) ?_
  have b23_ : 0 ≤ Fb 344 10 ∧ Fb 344 10 ≤ 600 := gi_g hg_Fb rfl
  have b24_ : 0 ≤ Fb 344 9 ∧ Fb 344 9 ≤ 5 := gi_g hg_Fb rfl
  rintro A1_ (⟨F28_, hA_, g29_, s30_, c25_, c26_, c27_⟩ | ⟨F37_, hA_, g38_, s39_, c31_, c32_, c33_, c34_, c35_, c36_⟩)
  ·
    subst hA_
    have g40_ : fs [(344, 344, 5, 5), (344, 344, 9, 10), (344, 344, 21, 21), (344, 344, 63, 63), (353, 363, 0, 100000)] F F28_ := fs_tr hf_Fb s30_ rfl
    have rk41_ : rk K F28_ := rk_fs hrk_b s30_ (fs_rg rfl) rfl
    have c26_k := c26_.2 (by omega)
    clear c26_
    have b42_ : 0 ≤ F28_ 344 9 ∧ F28_ 344 9 ≤ 5 := gi_g g29_ rfl
    have b43_ : 0 ≤ F28_ 344 10 ∧ F28_ 344 10 ≤ 600 := gi_g g29_ rfl
    have b44_ : 0 ≤ F28_ 344 5 ∧ F28_ 344 5 ≤ 600 := gi_g g29_ rfl
    have e45_ : F28_ 344 21 = Fb 344 21 := (s30_ 344 21 rfl).trans (rfl)
    have b46_ : 0 ≤ Fb 344 21 ∧ Fb 344 21 ≤ 5 := gi_g hg_Fb rfl
    exact mb_173_181 hG F X hgi K ts pl al ps hgK hrk hkt hp hts hal hpl hps fr lo hfr hlo F28_ g29_ g40_ rk41_ (by omega) (⟨by omega, by omega⟩) (⟨fun h0_ => by rw [show F28_ 344 9 = Fb 344 9 by omega, show F28_ 344 10 = Fb 344 10 by omega]; exact hb.1 h0_, fun h0_ => by have h1_ := hb.2 h0_; omega⟩) (⟨by omega, by omega⟩)
  exfalso; omega
set_option maxHeartbeats 16000000 in
theorem mb_173_170 {G : Nat → Nat → Option Nat} (hG : gg G) (F : fl_N) (X : xi_H) (hgi : gi F) (K : fl_N) (ts pl al : List Int) (ps : List (List Int)) (hgK : gi K) (hrk : rk K F) (hkt : rkt K) (hp : 0 ≤ F 344 5 ∧ F 344 5 ≤ K 1 6 - 1) (hts : rpn (F 349) (F 344 15) ts) (hal : rpn (F 353) (F 344 21) al) (hpl : rpn (F 350) (F 344 17) pl) (hps : rprd F ps ∧ ps.length = pl.length) (fr lo : Nat) (hfr : 7 ≤ fr) (hlo : 165 ≤ lo) (Fb : fl_N) (hg_Fb : gi Fb) (hf_Fb : fs [(344, 344, 5, 5), (344, 344, 9, 10), (344, 344, 21, 21), (344, 344, 63, 63), (353, 363, 0, 100000)] F Fb) (hrk_b : rk K Fb) (hbd : ¬ Fb 344 9 = 0) (hp_b : 0 ≤ Fb 344 5 ∧ Fb 344 5 ≤ K 1 6 - 1) (hb : (F 344 9 = 0 → sp_a1 K ts pl ps al (F 344 5) = .inl (Fb 344 9, Fb 344 10)) ∧ (¬ F 344 9 = 0 → Fb 344 9 = F 344 9 ∧ Fb 344 10 = F 344 10)) (h21b : Fb 344 21 = F 344 21 ∧ F 344 21 ≤ 4) : fl_R xi_ms 173 fr lo 170 [(3, .int (Int32.ofInt (F 344 21))), (0, .ref 344)] [] (fl_H sh_T G Fb ++ X) (pq_173 G F X K ts pl al ps) := by
  have hP := (rkt_p hkt hp.1 hp.2 hgK).1
  have hK16 : 0 ≤ K 1 6 ∧ K 1 6 ≤ 601 := gi_g hgK rfl
  have hko := hkt.1
  have hal1 := hal.1
  have hb21 : 0 ≤ F 344 21 ∧ F 344 21 ≤ 5 := gi_g hgi rfl
  refine ga_aload_n (v := .ref 344) hm_173 rfl rfl rfl ?_
  refine fl_bipush hm_173 rfl rfl ?_
  have b21_ : 0 ≤ Fb 344 5 ∧ Fb 344 5 ≤ 600 := gi_g hg_Fb rfl
  refine gVv (nY := 2) (F := 2) (L := 44) (As := [.int (Int32.ofInt 7)]) (b := 344) (rest := []) hm_173 rfl hm_55 rfl rfl (fl_ob sc_344) rfl rfl rfl rfl rfl (by omega) (by omega) (mc_55 hG Fb X hg_Fb (K) (7) ([58, 101, 102, 102, 101, 99, 116]) hgK hrk_b hkt (⟨by omega, by omega⟩) (⟨by omega, by omega⟩) (by decide) (kw_7 hrk_b)) (fun _ _ h => False.elim h) ?_
  have b23_ : 0 ≤ Fb 344 10 ∧ Fb 344 10 ≤ 600 := gi_g hg_Fb rfl
  have b24_ : 0 ≤ Fb 344 9 ∧ Fb 344 9 ≤ 5 := gi_g hg_Fb rfl
  rintro A1_ (⟨F28_, hA_, g29_, s30_, c25_, c26_, c27_⟩ | ⟨F34_, hA_, g35_, s36_, c31_, c32_, c33_⟩)
  ·
    subst hA_
    have g37_ : fs [(344, 344, 5, 5), (344, 344, 9, 10), (344, 344, 21, 21), (344, 344, 63, 63), (353, 363, 0, 100000)] F F28_ := fs_tr hf_Fb s30_ rfl
    have rk38_ : rk K F28_ := rk_fs hrk_b s30_ (fs_rg rfl) rfl
    have c26_k := c26_.2 (by omega)
    clear c26_
    have b39_ : 0 ≤ F28_ 344 9 ∧ F28_ 344 9 ≤ 5 := gi_g g29_ rfl
    have b40_ : 0 ≤ F28_ 344 10 ∧ F28_ 344 10 ≤ 600 := gi_g g29_ rfl
    have b41_ : 0 ≤ F28_ 344 5 ∧ F28_ 344 5 ≤ 600 := gi_g g29_ rfl
    have e42_ : F28_ 344 21 = Fb 344 21 := (s30_ 344 21 rfl).trans (rfl)
    have b43_ : 0 ≤ Fb 344 21 ∧ Fb 344 21 ≤ 5 := gi_g hg_Fb rfl
    exact mb_173_176 hG F X hgi K ts pl al ps hgK hrk hkt hp hts hal hpl hps fr lo hfr hlo F28_ g29_ g37_ rk38_ (by omega) (⟨by omega, by omega⟩) (⟨fun h0_ => by rw [show F28_ 344 9 = Fb 344 9 by omega, show F28_ 344 10 = Fb 344 10 by omega]; exact hb.1 h0_, fun h0_ => by have h1_ := hb.2 h0_; omega⟩) (⟨by omega, by omega⟩)
  exfalso; omega
set_option maxHeartbeats 16000000 in
theorem mb_173_142 {G : Nat → Nat → Option Nat} (hG : gg G) (F : fl_N) (X : xi_H) (hgi : gi F) (K : fl_N) (ts pl al : List Int) (ps : List (List Int)) (hgK : gi K) (hrk : rk K F) (hkt : rkt K) (hp : 0 ≤ F 344 5 ∧ F 344 5 ≤ K 1 6 - 1) (hts : rpn (F 349) (F 344 15) ts) (hal : rpn (F 353) (F 344 21) al) (hpl : rpn (F 350) (F 344 17) pl) (hps : rprd F ps ∧ ps.length = pl.length) (fr lo : Nat) (hfr : 7 ≤ fr) (hlo : 165 ≤ lo) (Fb : fl_N) (hg_Fb : gi Fb) (hf_Fb : fs [(344, 344, 5, 5), (344, 344, 9, 10), (344, 344, 21, 21), (344, 344, 63, 63), (353, 363, 0, 100000)] F Fb) (hrk_b : rk K Fb) (hbd : ¬ Fb 344 9 = 0) (hp_b : 0 ≤ Fb 344 5 ∧ Fb 344 5 ≤ K 1 6 - 1) (hb : (F 344 9 = 0 → sp_a1 K ts pl ps al (F 344 5) = .inl (Fb 344 9, Fb 344 10)) ∧ (¬ F 344 9 = 0 → Fb 344 9 = F 344 9 ∧ Fb 344 10 = F 344 10)) (h21b : Fb 344 21 = F 344 21 ∧ F 344 21 ≤ 4) : fl_R xi_ms 173 fr lo 142 [(3, .int (Int32.ofInt (F 344 21))), (0, .ref 344)] [] (fl_H sh_T G Fb ++ X) (pq_173 G F X K ts pl al ps) := by
  have hP := (rkt_p hkt hp.1 hp.2 hgK).1
  have hK16 : 0 ≤ K 1 6 ∧ K 1 6 ≤ 601 := gi_g hgK rfl
  have hko := hkt.1
  have hal1 := hal.1
  have hb21 : 0 ≤ F 344 21 ∧ F 344 21 ≤ 5 := gi_g hgi rfl
  refine ga_aload_n (v := .ref 344) hm_173 rfl rfl rfl ?_
  refine fl_bipush hm_173 rfl rfl ?_
  have b21_ : 0 ≤ Fb 344 5 ∧ Fb 344 5 ≤ 600 := gi_g hg_Fb rfl
  refine gVi (nY := 4) (F := 1) (L := 21) (As := [.int (Int32.ofInt 6)]) (b := 344) (rest := []) hm_173 rfl hm_56 rfl rfl (fl_ob sc_344) rfl rfl rfl rfl rfl (by omega) (by omega) (mc_56 hG Fb X hg_Fb (K) (6) ([58, 112, 114, 101, 99, 111, 110, 100, 105, 116, 105, 111, 110]) hgK hrk_b hkt (⟨by omega, by omega⟩) (⟨by omega, by omega⟩) (by decide) (kw_6 hrk_b)) (fun _ _ h => False.elim h) ?_
  have b23_ : 0 ≤ Fb 344 9 ∧ Fb 344 9 ≤ 5 := gi_g hg_Fb rfl
  rintro z22_ A1_ (⟨hA_, hz_, c24_⟩ | ⟨hA_, hz_, c25_, c26_⟩)
  ·
    subst hA_
    subst hz_
    refine fl_if_eq hm_173 rfl ⟨by omega, by omega⟩ (fun _ => ?_) (fun h => absurd (by omega) h)
    have b27_ : 0 ≤ Fb 344 10 ∧ Fb 344 10 ≤ 600 := gi_g hg_Fb rfl
    have b28_ : 0 ≤ Fb 344 21 ∧ Fb 344 21 ≤ 5 := gi_g hg_Fb rfl
    exact mb_173_170 hG F X hgi K ts pl al ps hgK hrk hkt hp hts hal hpl hps fr lo hfr hlo Fb hg_Fb hf_Fb hrk_b (by omega) (⟨by omega, by omega⟩) (hb) (⟨by omega, by omega⟩)
  exfalso; omega
set_option maxHeartbeats 16000000 in
theorem mb_173_136 {G : Nat → Nat → Option Nat} (hG : gg G) (F : fl_N) (X : xi_H) (hgi : gi F) (K : fl_N) (ts pl al : List Int) (ps : List (List Int)) (hgK : gi K) (hrk : rk K F) (hkt : rkt K) (hp : 0 ≤ F 344 5 ∧ F 344 5 ≤ K 1 6 - 1) (hts : rpn (F 349) (F 344 15) ts) (hal : rpn (F 353) (F 344 21) al) (hpl : rpn (F 350) (F 344 17) pl) (hps : rprd F ps ∧ ps.length = pl.length) (fr lo : Nat) (hfr : 7 ≤ fr) (hlo : 165 ≤ lo) (Fb : fl_N) (hg_Fb : gi Fb) (hf_Fb : fs [(344, 344, 5, 5), (344, 344, 9, 10), (344, 344, 21, 21), (344, 344, 63, 63), (353, 363, 0, 100000)] F Fb) (hrk_b : rk K Fb) (hbd : ¬ Fb 344 9 = 0) (hp_b : 0 ≤ Fb 344 5 ∧ Fb 344 5 ≤ K 1 6 - 1) (hb : (F 344 9 = 0 → sp_a1 K ts pl ps al (F 344 5) = .inl (Fb 344 9, Fb 344 10)) ∧ (¬ F 344 9 = 0 → Fb 344 9 = F 344 9 ∧ Fb 344 10 = F 344 10)) (h21b : Fb 344 21 = F 344 21 ∧ F 344 21 ≤ 4) : fl_R xi_ms 173 fr lo 136 [(3, .int (Int32.ofInt (F 344 21))), (0, .ref 344)] [] (fl_H sh_T G Fb ++ X) (pq_173 G F X K ts pl al ps) := by
  have hP := (rkt_p hkt hp.1 hp.2 hgK).1
  have hK16 : 0 ≤ K 1 6 ∧ K 1 6 ≤ 601 := gi_g hgK rfl
  have hko := hkt.1
  have hal1 := hal.1
  have hb21 : 0 ≤ F 344 21 ∧ F 344 21 ≤ 5 := gi_g hgi rfl
  refine ga_aload_n (v := .ref 344) hm_173 rfl rfl rfl ?_
  refine fl_bipush hm_173 rfl rfl ?_
  have b21_ : 0 ≤ Fb 344 5 ∧ Fb 344 5 ≤ 600 := gi_g hg_Fb rfl
  refine gVv (nY := 2) (F := 2) (L := 41) (As := [.int (Int32.ofInt 41)]) (b := 344) (rest := []) hm_173 rfl hm_51 rfl rfl (fl_ob sc_344) rfl rfl rfl rfl rfl (by omega) (by omega) (mc_51 hG Fb X hg_Fb (K) (41) (1) hgK hrk_b hkt (⟨by omega, by omega⟩) (by omega) (by omega)) (fun _ _ h => False.elim h) ?_
  have b23_ : 0 ≤ Fb 344 10 ∧ Fb 344 10 ≤ 600 := gi_g hg_Fb rfl
  have b24_ : 0 ≤ Fb 344 9 ∧ Fb 344 9 ≤ 5 := gi_g hg_Fb rfl
  rintro A1_ (⟨F28_, hA_, g29_, s30_, c25_, c26_, c27_⟩ | ⟨F34_, hA_, g35_, s36_, c31_, c32_, c33_⟩)
  ·
    subst hA_
    have g37_ : fs [(344, 344, 5, 5), (344, 344, 9, 10), (344, 344, 21, 21), (344, 344, 63, 63), (353, 363, 0, 100000)] F F28_ := fs_tr hf_Fb s30_ rfl
    have rk38_ : rk K F28_ := rk_fs hrk_b s30_ (fs_rg rfl) rfl
    have c26_k := c26_.2 (by omega)
    clear c26_
    have b39_ : 0 ≤ F28_ 344 9 ∧ F28_ 344 9 ≤ 5 := gi_g g29_ rfl
    have b40_ : 0 ≤ F28_ 344 10 ∧ F28_ 344 10 ≤ 600 := gi_g g29_ rfl
    have b41_ : 0 ≤ F28_ 344 5 ∧ F28_ 344 5 ≤ 600 := gi_g g29_ rfl
    have e42_ : F28_ 344 21 = Fb 344 21 := (s30_ 344 21 rfl).trans (rfl)
    have b43_ : 0 ≤ Fb 344 21 ∧ Fb 344 21 ≤ 5 := gi_g hg_Fb rfl
    exact mb_173_142 hG F X hgi K ts pl al ps hgK hrk hkt hp hts hal hpl hps fr lo hfr hlo F28_ g29_ g37_ rk38_ (by omega) (⟨by omega, by omega⟩) (⟨fun h0_ => by rw [show F28_ 344 9 = Fb 344 9 by omega, show F28_ 344 10 = Fb 344 10 by omega]; exact hb.1 h0_, fun h0_ => by have h1_ := hb.2 h0_; omega⟩) (⟨by omega, by omega⟩)
  exfalso; omega
set_option maxHeartbeats 16000000 in
theorem mb_173_73 {G : Nat → Nat → Option Nat} (hG : gg G) (F : fl_N) (X : xi_H) (hgi : gi F) (K : fl_N) (ts pl al : List Int) (ps : List (List Int)) (hgK : gi K) (hrk : rk K F) (hkt : rkt K) (hp : 0 ≤ F 344 5 ∧ F 344 5 ≤ K 1 6 - 1) (hts : rpn (F 349) (F 344 15) ts) (hal : rpn (F 353) (F 344 21) al) (hpl : rpn (F 350) (F 344 17) pl) (hps : rprd F ps ∧ ps.length = pl.length) (fr lo : Nat) (hfr : 7 ≤ fr) (hlo : 165 ≤ lo) (Fb : fl_N) (hg_Fb : gi Fb) (hf_Fb : fs [(344, 344, 5, 5), (344, 344, 9, 10), (344, 344, 21, 21), (344, 344, 63, 63), (353, 363, 0, 100000)] F Fb) (hrk_b : rk K Fb) (hbd : ¬ Fb 344 9 = 0) (hp_b : 0 ≤ Fb 344 5 ∧ Fb 344 5 ≤ K 1 6 - 1) (hb : (F 344 9 = 0 → sp_a1 K ts pl ps al (F 344 5) = .inl (Fb 344 9, Fb 344 10)) ∧ (¬ F 344 9 = 0 → Fb 344 9 = F 344 9 ∧ Fb 344 10 = F 344 10)) : fl_R xi_ms 173 fr lo 73 [(0, .ref 344)] [] (fl_H sh_T G Fb ++ X) (pq_173 G F X K ts pl al ps) := by
  have hP := (rkt_p hkt hp.1 hp.2 hgK).1
  have hK16 : 0 ≤ K 1 6 ∧ K 1 6 ≤ 601 := gi_g hgK rfl
  have hko := hkt.1
  have hal1 := hal.1
  have hb21 : 0 ≤ F 344 21 ∧ F 344 21 ≤ 5 := gi_g hgi rfl
  refine ga_aload_n (v := .ref 344) hm_173 rfl rfl rfl ?_
  refine gIi (nY := 1) (F := 0) (L := 0) (As := []) (b := 344) (rest := []) hm_173 rfl hm_59 rfl rfl (fl_ob sc_344) rfl rfl rfl rfl rfl (by omega) (by omega) ?_
  intro f21_ l22_ h23_ h24_
  show fl_R xi_ms 59 f21_ l22_ 0 [(0, .ref 344)] [] _ _
  refine ga_aload_n (v := .ref 344) hm_59 rfl rfl rfl ?_
  have b25_ : 0 ≤ Fb 344 9 ∧ Fb 344 9 ≤ 5 := gi_g hg_Fb rfl
  refine ga_geti (z := Fb 344 9) hm_59 rfl sc_344 rfl (rfl) ?_
  refine fl_if_le (a := Fb 344 9) hm_59 rfl ⟨by omega, by omega⟩ (fun h26_ => ?_) (fun h27_ => ?_)
  · exfalso; omega
  refine fl_iconst hm_59 rfl ?_
  refine fl_goto hm_59 rfl ?_
  refine gr_i hm_59 rfl rfl (ga_nb (by omega)) ?_
  clear h23_ h24_ f21_ l22_
  refine fl_if_eq hm_173 rfl ⟨by omega, by omega⟩ (fun h => absurd h (by omega)) (fun _ => ?_)
  refine gr_v hm_173 rfl rfl ?_
  have b28_ : 0 ≤ Fb 344 10 ∧ Fb 344 10 ≤ 600 := gi_g hg_Fb rfl
  have b29_ : 0 ≤ F 344 10 ∧ F 344 10 ≤ 600 := gi_g hgi rfl
  have b30_ : 0 ≤ F 344 5 ∧ F 344 5 ≤ 600 := gi_g hgi rfl
  have b31_ : 0 ≤ F 344 9 ∧ F 344 9 ≤ 5 := gi_g hgi rfl
  have b32_ : 0 ≤ Fb 344 5 ∧ Fb 344 5 ≤ 600 := gi_g hg_Fb rfl
  exact Or.inl ⟨Fb, rfl, hg_Fb, hf_Fb, (by omega), (hb), (⟨by omega, by omega⟩)⟩
set_option maxHeartbeats 16000000 in
theorem mb_173_67 {G : Nat → Nat → Option Nat} (hG : gg G) (F : fl_N) (X : xi_H) (hgi : gi F) (K : fl_N) (ts pl al : List Int) (ps : List (List Int)) (hgK : gi K) (hrk : rk K F) (hkt : rkt K) (hp : 0 ≤ F 344 5 ∧ F 344 5 ≤ K 1 6 - 1) (hts : rpn (F 349) (F 344 15) ts) (hal : rpn (F 353) (F 344 21) al) (hpl : rpn (F 350) (F 344 17) pl) (hps : rprd F ps ∧ ps.length = pl.length) (fr lo : Nat) (hfr : 7 ≤ fr) (hlo : 165 ≤ lo) (Fb : fl_N) (hg_Fb : gi Fb) (hf_Fb : fs [(344, 344, 5, 5), (344, 344, 9, 10), (344, 344, 21, 21), (344, 344, 63, 63), (353, 363, 0, 100000)] F Fb) (hrk_b : rk K Fb) (hbd : ¬ Fb 344 9 = 0) (hp_b : 0 ≤ Fb 344 5 ∧ Fb 344 5 ≤ K 1 6 - 1) (hb : (F 344 9 = 0 → sp_a1 K ts pl ps al (F 344 5) = .inl (Fb 344 9, Fb 344 10)) ∧ (¬ F 344 9 = 0 → Fb 344 9 = F 344 9 ∧ Fb 344 10 = F 344 10)) : fl_R xi_ms 173 fr lo 67 [(0, .ref 344)] [] (fl_H sh_T G Fb ++ X) (pq_173 G F X K ts pl al ps) := by
  have hP := (rkt_p hkt hp.1 hp.2 hgK).1
  have hK16 : 0 ≤ K 1 6 ∧ K 1 6 ≤ 601 := gi_g hgK rfl
  have hko := hkt.1
  have hal1 := hal.1
  have hb21 : 0 ≤ F 344 21 ∧ F 344 21 ≤ 5 := gi_g hgi rfl
  refine ga_aload_n (v := .ref 344) hm_173 rfl rfl rfl ?_
  refine fl_bipush hm_173 rfl rfl ?_
  have b21_ : 0 ≤ Fb 344 5 ∧ Fb 344 5 ≤ 600 := gi_g hg_Fb rfl
  refine gVv (nY := 2) (F := 2) (L := 41) (As := [.int (Int32.ofInt 40)]) (b := 344) (rest := []) hm_173 rfl hm_51 rfl rfl (fl_ob sc_344) rfl rfl rfl rfl rfl (by omega) (by omega) (mc_51 hG Fb X hg_Fb (K) (40) (0) hgK hrk_b hkt (⟨by omega, by omega⟩) (by omega) (by omega)) (fun _ _ h => False.elim h) ?_
  have b23_ : 0 ≤ Fb 344 10 ∧ Fb 344 10 ≤ 600 := gi_g hg_Fb rfl
  have b24_ : 0 ≤ Fb 344 9 ∧ Fb 344 9 ≤ 5 := gi_g hg_Fb rfl
  rintro A1_ (⟨F28_, hA_, g29_, s30_, c25_, c26_, c27_⟩ | ⟨F34_, hA_, g35_, s36_, c31_, c32_, c33_⟩)
  ·
    subst hA_
    have g37_ : fs [(344, 344, 5, 5), (344, 344, 9, 10), (344, 344, 21, 21), (344, 344, 63, 63), (353, 363, 0, 100000)] F F28_ := fs_tr hf_Fb s30_ rfl
    have rk38_ : rk K F28_ := rk_fs hrk_b s30_ (fs_rg rfl) rfl
    have c26_k := c26_.2 (by omega)
    clear c26_
    have b39_ : 0 ≤ F28_ 344 9 ∧ F28_ 344 9 ≤ 5 := gi_g g29_ rfl
    have b40_ : 0 ≤ F28_ 344 10 ∧ F28_ 344 10 ≤ 600 := gi_g g29_ rfl
    have b41_ : 0 ≤ F28_ 344 5 ∧ F28_ 344 5 ≤ 600 := gi_g g29_ rfl
    exact mb_173_73 hG F X hgi K ts pl al ps hgK hrk hkt hp hts hal hpl hps fr lo hfr hlo F28_ g29_ g37_ rk38_ (by omega) (⟨by omega, by omega⟩) (⟨fun h0_ => by rw [show F28_ 344 9 = Fb 344 9 by omega, show F28_ 344 10 = Fb 344 10 by omega]; exact hb.1 h0_, fun h0_ => by have h1_ := hb.2 h0_; omega⟩)
  exfalso; omega
set_option maxHeartbeats 16000000 in
theorem mb_173_62 {G : Nat → Nat → Option Nat} (hG : gg G) (F : fl_N) (X : xi_H) (hgi : gi F) (K : fl_N) (ts pl al : List Int) (ps : List (List Int)) (hgK : gi K) (hrk : rk K F) (hkt : rkt K) (hp : 0 ≤ F 344 5 ∧ F 344 5 ≤ K 1 6 - 1) (hts : rpn (F 349) (F 344 15) ts) (hal : rpn (F 353) (F 344 21) al) (hpl : rpn (F 350) (F 344 17) pl) (hps : rprd F ps ∧ ps.length = pl.length) (fr lo : Nat) (hfr : 7 ≤ fr) (hlo : 165 ≤ lo) (Fb : fl_N) (hg_Fb : gi Fb) (hf_Fb : fs [(344, 344, 5, 5), (344, 344, 9, 10), (344, 344, 21, 21), (344, 344, 63, 63), (353, 363, 0, 100000)] F Fb) (hrk_b : rk K Fb) (hbd : ¬ Fb 344 9 = 0) (hp_b : 0 ≤ Fb 344 5 ∧ Fb 344 5 ≤ K 1 6 - 1) (hb : (F 344 9 = 0 → sp_a1 K ts pl ps al (F 344 5) = .inl (Fb 344 9, Fb 344 10)) ∧ (¬ F 344 9 = 0 → Fb 344 9 = F 344 9 ∧ Fb 344 10 = F 344 10)) : fl_R xi_ms 173 fr lo 62 [(0, .ref 344)] [] (fl_H sh_T G Fb ++ X) (pq_173 G F X K ts pl al ps) := by
  have hP := (rkt_p hkt hp.1 hp.2 hgK).1
  have hK16 : 0 ≤ K 1 6 ∧ K 1 6 ≤ 601 := gi_g hgK rfl
  have hko := hkt.1
  have hal1 := hal.1
  have hb21 : 0 ≤ F 344 21 ∧ F 344 21 ≤ 5 := gi_g hgi rfl
  refine ga_aload_n (v := .ref 344) hm_173 rfl rfl rfl ?_
  refine fl_iconst hm_173 rfl ?_
  have b21_ : 0 ≤ Fb 344 5 ∧ Fb 344 5 ≤ 600 := gi_g hg_Fb rfl
  refine gVv (nY := 2) (F := 2) (L := 44) (As := [.int (Int32.ofInt 5)]) (b := 344) (rest := []) hm_173 rfl hm_55 rfl rfl (fl_ob sc_344) rfl rfl rfl rfl rfl (by omega) (by omega) (mc_55 hG Fb X hg_Fb (K) (5) ([58, 112, 97, 114, 97, 109, 101, 116, 101, 114, 115]) hgK hrk_b hkt (⟨by omega, by omega⟩) (⟨by omega, by omega⟩) (by decide) (kw_5 hrk_b)) (fun _ _ h => False.elim h) ?_
  have b23_ : 0 ≤ Fb 344 10 ∧ Fb 344 10 ≤ 600 := gi_g hg_Fb rfl
  have b24_ : 0 ≤ Fb 344 9 ∧ Fb 344 9 ≤ 5 := gi_g hg_Fb rfl
  rintro A1_ (⟨F28_, hA_, g29_, s30_, c25_, c26_, c27_⟩ | ⟨F34_, hA_, g35_, s36_, c31_, c32_, c33_⟩)
  ·
    subst hA_
    have g37_ : fs [(344, 344, 5, 5), (344, 344, 9, 10), (344, 344, 21, 21), (344, 344, 63, 63), (353, 363, 0, 100000)] F F28_ := fs_tr hf_Fb s30_ rfl
    have rk38_ : rk K F28_ := rk_fs hrk_b s30_ (fs_rg rfl) rfl
    have c26_k := c26_.2 (by omega)
    clear c26_
    have b39_ : 0 ≤ F28_ 344 9 ∧ F28_ 344 9 ≤ 5 := gi_g g29_ rfl
    have b40_ : 0 ≤ F28_ 344 10 ∧ F28_ 344 10 ≤ 600 := gi_g g29_ rfl
    have b41_ : 0 ≤ F28_ 344 5 ∧ F28_ 344 5 ≤ 600 := gi_g g29_ rfl
    exact mb_173_67 hG F X hgi K ts pl al ps hgK hrk hkt hp hts hal hpl hps fr lo hfr hlo F28_ g29_ g37_ rk38_ (by omega) (⟨by omega, by omega⟩) (⟨fun h0_ => by rw [show F28_ 344 9 = Fb 344 9 by omega, show F28_ 344 10 = Fb 344 10 by omega]; exact hb.1 h0_, fun h0_ => by have h1_ := hb.2 h0_; omega⟩)
  exfalso; omega
set_option maxHeartbeats 16000000 in
theorem mb_173_24 {G : Nat → Nat → Option Nat} (hG : gg G) (F : fl_N) (X : xi_H) (hgi : gi F) (K : fl_N) (ts pl al : List Int) (ps : List (List Int)) (hgK : gi K) (hrk : rk K F) (hkt : rkt K) (hp : 0 ≤ F 344 5 ∧ F 344 5 ≤ K 1 6 - 1) (hts : rpn (F 349) (F 344 15) ts) (hal : rpn (F 353) (F 344 21) al) (hpl : rpn (F 350) (F 344 17) pl) (hps : rprd F ps ∧ ps.length = pl.length) (fr lo : Nat) (hfr : 7 ≤ fr) (hlo : 165 ≤ lo) (Fb : fl_N) (hg_Fb : gi Fb) (hf_Fb : fs [(344, 344, 5, 5), (344, 344, 9, 10), (344, 344, 21, 21), (344, 344, 63, 63), (353, 363, 0, 100000)] F Fb) (hrk_b : rk K Fb) (hbd : ¬ Fb 344 9 = 0) (hp_b : 0 ≤ Fb 344 5 ∧ Fb 344 5 ≤ K 1 6 - 1) (hb : (F 344 9 = 0 → sp_a1 K ts pl ps al (F 344 5) = .inl (Fb 344 9, Fb 344 10)) ∧ (¬ F 344 9 = 0 → Fb 344 9 = F 344 9 ∧ Fb 344 10 = F 344 10)) : fl_R xi_ms 173 fr lo 24 [(0, .ref 344)] [] (fl_H sh_T G Fb ++ X) (pq_173 G F X K ts pl al ps) := by
  have hP := (rkt_p hkt hp.1 hp.2 hgK).1
  have hK16 : 0 ≤ K 1 6 ∧ K 1 6 ≤ 601 := gi_g hgK rfl
  have hko := hkt.1
  have hal1 := hal.1
  have hb21 : 0 ≤ F 344 21 ∧ F 344 21 ≤ 5 := gi_g hgi rfl
  refine ga_aload_n (v := .ref 344) hm_173 rfl rfl rfl ?_
  have b21_ : 0 ≤ Fb 344 5 ∧ Fb 344 5 ≤ 600 := gi_g hg_Fb rfl
  refine gVl (nY := 3) (F := 2) (L := 46) (As := []) (b := 344) (rest := []) hm_173 rfl hm_58 rfl rfl (fl_ob sc_344) rfl rfl rfl rfl rfl (by omega) (by omega) (mc_58 hG Fb X hg_Fb (K) hgK hrk_b hkt (⟨by omega, by omega⟩)) (fun _ _ h => False.elim h) ?_
  have b23_ : 0 ≤ Fb 344 10 ∧ Fb 344 10 ≤ 600 := gi_g hg_Fb rfl
  have b24_ : 0 ≤ Fb 344 9 ∧ Fb 344 9 ≤ 5 := gi_g hg_Fb rfl
  rintro z22_ A1_ (⟨F29_, hA_, g30_, s31_, c25_, c26_, c27_, c28_⟩ | ⟨F39_, hA_, g40_, s41_, c32_, c33_, c34_, c35_, c36_, c37_, c38_⟩)
  ·
    subst hA_
    have g42_ : fs [(344, 344, 5, 5), (344, 344, 9, 10), (344, 344, 21, 21), (344, 344, 63, 63), (353, 363, 0, 100000)] F F29_ := fs_tr hf_Fb s31_ rfl
    have rk43_ : rk K F29_ := rk_fs hrk_b s31_ (fs_rg rfl) rfl
    have c26_k := c26_.2 (by omega)
    clear c26_
    refine ga_lstore_n (lv2 := [(1, .long (Int64.ofInt z22_)), (0, .ref 344)]) hm_173 rfl (Nat.le_of_ble_eq_true rfl) rfl ?_
    refine ga_aload_n (v := .ref 344) hm_173 rfl rfl rfl ?_
    refine gIi (nY := 1) (F := 0) (L := 0) (As := []) (b := 344) (rest := []) hm_173 rfl hm_59 rfl rfl (fl_ob sc_344) rfl rfl rfl rfl rfl (by omega) (by omega) ?_
    intro f44_ l45_ h46_ h47_
    show fl_R xi_ms 59 f44_ l45_ 0 [(0, .ref 344)] [] _ _
    refine ga_aload_n (v := .ref 344) hm_59 rfl rfl rfl ?_
    have b48_ : 0 ≤ F29_ 344 9 ∧ F29_ 344 9 ≤ 5 := gi_g g30_ rfl
    refine ga_geti (z := F29_ 344 9) hm_59 rfl sc_344 rfl (rfl) ?_
    refine fl_if_le (a := F29_ 344 9) hm_59 rfl ⟨by omega, by omega⟩ (fun h49_ => ?_) (fun h50_ => ?_)
    · exfalso; omega
    refine fl_iconst hm_59 rfl ?_
    refine fl_goto hm_59 rfl ?_
    refine gr_i hm_59 rfl rfl (ga_nb (by omega)) ?_
    clear h46_ h47_ f44_ l45_
    refine fl_if_ne hm_173 rfl ⟨by omega, by omega⟩ (fun _ => ?_) (fun h => absurd (by omega) h)
    refine ga_aload_n (v := .ref 344) hm_173 rfl rfl rfl ?_
    refine gIv (nY := 1) (F := 1) (L := 20) (As := []) (b := 344) (rest := []) hm_173 rfl hm_61 rfl rfl (fl_ob sc_344) rfl rfl rfl rfl rfl (by omega) (by omega) ?_
    intro f51_ l52_ h53_ h54_
    show fl_R xi_ms 61 f51_ l52_ 0 [(0, .ref 344)] [] _ _
    refine ga_aload_n (v := .ref 344) hm_61 rfl rfl rfl ?_
    refine ga_dup hm_61 rfl rfl ?_
    have e55_ : F29_ 344 5 = Fb 344 5 := (s31_ 344 5 rfl).trans (rfl)
    refine ga_geti (z := Fb 344 5) hm_61 rfl sc_344 rfl (e55_) ?_
    refine ga_aload_n (v := .ref 344) hm_61 rfl rfl rfl ?_
    refine gIi (nY := 1) (F := 0) (L := 0) (As := []) (b := 344) (rest := [.int (Int32.ofInt (Fb 344 5)), .ref 344]) hm_61 rfl hm_59 rfl rfl (fl_ob sc_344) rfl rfl rfl rfl rfl (by omega) (by omega) ?_
    intro f56_ l57_ h58_ h59_
    show fl_R xi_ms 59 f56_ l57_ 0 [(0, .ref 344)] [] _ _
    refine ga_aload_n (v := .ref 344) hm_59 rfl rfl rfl ?_
    refine ga_geti (z := F29_ 344 9) hm_59 rfl sc_344 rfl (rfl) ?_
    refine fl_if_le (a := F29_ 344 9) hm_59 rfl ⟨by omega, by omega⟩ (fun h60_ => ?_) (fun h61_ => ?_)
    · exfalso; omega
    refine fl_iconst hm_59 rfl ?_
    refine fl_goto hm_59 rfl ?_
    refine gr_i hm_59 rfl rfl (ga_nb (by omega)) ?_
    clear h58_ h59_ f56_ l57_
    refine fl_if_eq hm_61 rfl ⟨by omega, by omega⟩ (fun h => absurd h (by omega)) (fun _ => ?_)
    refine fl_iconst hm_61 rfl ?_
    refine fl_goto hm_61 rfl ?_
    refine ga_iadd (a := Fb 344 5) (b := 0) (c := Fb 344 5) hm_61 rfl (by omega) ?_
    refine ga_puti (z := Fb 344 5) hm_61 rfl sc_344 rfl rfl ?_
    refine gr_v hm_61 rfl rfl ?_
    clear h53_ h54_ f51_ l52_
    obtain ⟨F62_, q63_⟩ : ∃ Fq_, Fq_ = (fl_u F29_ 344 5 (Fb 344 5)) := ⟨_, rfl⟩
    rw [← q63_]
    have g64_ : gi F62_ := by rw [q63_]; exact gi_u (g30_) rfl (by omega) (by omega)
    have g65_ : fs [(344, 344, 5, 5), (344, 344, 9, 10), (344, 344, 21, 21), (344, 344, 63, 63), (353, 363, 0, 100000)] F F62_ := by rw [q63_]; exact fs_u (g42_) rfl
    have rk66_ : rk K F62_ := by rw [q63_]; exact rk_u (rk43_) (by first | decide | exact nc_ rfl | omega) (by first | decide | exact nc_ rfl | omega)
    have e67_ : F62_ 344 9 = F29_ 344 9 := by rw [q63_]; exact fl_u_ne (by first | exact nc_ rfl | decide | omega)
    have e68_ : F62_ 344 10 = F29_ 344 10 := by rw [q63_]; exact fl_u_ne (by first | exact nc_ rfl | decide | omega)
    have b69_ : 0 ≤ F29_ 344 10 ∧ F29_ 344 10 ≤ 600 := gi_g g30_ rfl
    have e70_ : F62_ 344 5 = Fb 344 5 := by rw [q63_]; exact fl_u_eq
    exact fl_R_sub (lv' := [(0, .ref 344)]) rfl rfl (mb_173_62 hG F X hgi K ts pl al ps hgK hrk hkt hp hts hal hpl hps fr lo hfr hlo F62_ g64_ g65_ rk66_ (by omega) (⟨by omega, by omega⟩) (⟨fun h0_ => by rw [show F62_ 344 9 = Fb 344 9 by omega, show F62_ 344 10 = Fb 344 10 by omega]; exact hb.1 h0_, fun h0_ => by have h1_ := hb.2 h0_; omega⟩))
  exfalso; omega
set_option maxHeartbeats 16000000 in
theorem mb_173_19 {G : Nat → Nat → Option Nat} (hG : gg G) (F : fl_N) (X : xi_H) (hgi : gi F) (K : fl_N) (ts pl al : List Int) (ps : List (List Int)) (hgK : gi K) (hrk : rk K F) (hkt : rkt K) (hp : 0 ≤ F 344 5 ∧ F 344 5 ≤ K 1 6 - 1) (hts : rpn (F 349) (F 344 15) ts) (hal : rpn (F 353) (F 344 21) al) (hpl : rpn (F 350) (F 344 17) pl) (hps : rprd F ps ∧ ps.length = pl.length) (fr lo : Nat) (hfr : 7 ≤ fr) (hlo : 165 ≤ lo) (Fb : fl_N) (hg_Fb : gi Fb) (hf_Fb : fs [(344, 344, 5, 5), (344, 344, 9, 10), (344, 344, 21, 21), (344, 344, 63, 63), (353, 363, 0, 100000)] F Fb) (hrk_b : rk K Fb) (hbd : ¬ Fb 344 9 = 0) (hp_b : 0 ≤ Fb 344 5 ∧ Fb 344 5 ≤ K 1 6 - 1) (hb : (F 344 9 = 0 → sp_a1 K ts pl ps al (F 344 5) = .inl (Fb 344 9, Fb 344 10)) ∧ (¬ F 344 9 = 0 → Fb 344 9 = F 344 9 ∧ Fb 344 10 = F 344 10)) : fl_R xi_ms 173 fr lo 19 [(0, .ref 344)] [] (fl_H sh_T G Fb ++ X) (pq_173 G F X K ts pl al ps) := by
  have hP := (rkt_p hkt hp.1 hp.2 hgK).1
  have hK16 : 0 ≤ K 1 6 ∧ K 1 6 ≤ 601 := gi_g hgK rfl
  have hko := hkt.1
  have hal1 := hal.1
  have hb21 : 0 ≤ F 344 21 ∧ F 344 21 ≤ 5 := gi_g hgi rfl
  refine ga_aload_n (v := .ref 344) hm_173 rfl rfl rfl ?_
  refine fl_iconst hm_173 rfl ?_
  have b21_ : 0 ≤ Fb 344 5 ∧ Fb 344 5 ≤ 600 := gi_g hg_Fb rfl
  refine gVv (nY := 2) (F := 2) (L := 44) (As := [.int (Int32.ofInt 4)]) (b := 344) (rest := []) hm_173 rfl hm_55 rfl rfl (fl_ob sc_344) rfl rfl rfl rfl rfl (by omega) (by omega) (mc_55 hG Fb X hg_Fb (K) (4) ([58, 97, 99, 116, 105, 111, 110]) hgK hrk_b hkt (⟨by omega, by omega⟩) (⟨by omega, by omega⟩) (by decide) (kw_4 hrk_b)) (fun _ _ h => False.elim h) ?_
  have b23_ : 0 ≤ Fb 344 10 ∧ Fb 344 10 ≤ 600 := gi_g hg_Fb rfl
  have b24_ : 0 ≤ Fb 344 9 ∧ Fb 344 9 ≤ 5 := gi_g hg_Fb rfl
  rintro A1_ (⟨F28_, hA_, g29_, s30_, c25_, c26_, c27_⟩ | ⟨F34_, hA_, g35_, s36_, c31_, c32_, c33_⟩)
  ·
    subst hA_
    have g37_ : fs [(344, 344, 5, 5), (344, 344, 9, 10), (344, 344, 21, 21), (344, 344, 63, 63), (353, 363, 0, 100000)] F F28_ := fs_tr hf_Fb s30_ rfl
    have rk38_ : rk K F28_ := rk_fs hrk_b s30_ (fs_rg rfl) rfl
    have c26_k := c26_.2 (by omega)
    clear c26_
    have b39_ : 0 ≤ F28_ 344 9 ∧ F28_ 344 9 ≤ 5 := gi_g g29_ rfl
    have b40_ : 0 ≤ F28_ 344 10 ∧ F28_ 344 10 ≤ 600 := gi_g g29_ rfl
    have b41_ : 0 ≤ F28_ 344 5 ∧ F28_ 344 5 ≤ 600 := gi_g g29_ rfl
    exact mb_173_24 hG F X hgi K ts pl al ps hgK hrk hkt hp hts hal hpl hps fr lo hfr hlo F28_ g29_ g37_ rk38_ (by omega) (⟨by omega, by omega⟩) (⟨fun h0_ => by rw [show F28_ 344 9 = Fb 344 9 by omega, show F28_ 344 10 = Fb 344 10 by omega]; exact hb.1 h0_, fun h0_ => by have h1_ := hb.2 h0_; omega⟩)
  exfalso; omega
set_option maxHeartbeats 16000000 in
theorem mb_173_13 {G : Nat → Nat → Option Nat} (hG : gg G) (F : fl_N) (X : xi_H) (hgi : gi F) (K : fl_N) (ts pl al : List Int) (ps : List (List Int)) (hgK : gi K) (hrk : rk K F) (hkt : rkt K) (hp : 0 ≤ F 344 5 ∧ F 344 5 ≤ K 1 6 - 1) (hts : rpn (F 349) (F 344 15) ts) (hal : rpn (F 353) (F 344 21) al) (hpl : rpn (F 350) (F 344 17) pl) (hps : rprd F ps ∧ ps.length = pl.length) (fr lo : Nat) (hfr : 7 ≤ fr) (hlo : 165 ≤ lo) (Fb : fl_N) (hg_Fb : gi Fb) (hf_Fb : fs [(344, 344, 5, 5), (344, 344, 9, 10), (344, 344, 21, 21), (344, 344, 63, 63), (353, 363, 0, 100000)] F Fb) (hrk_b : rk K Fb) (hbd : ¬ Fb 344 9 = 0) (hp_b : 0 ≤ Fb 344 5 ∧ Fb 344 5 ≤ K 1 6 - 1) (hb : (F 344 9 = 0 → sp_a1 K ts pl ps al (F 344 5) = .inl (Fb 344 9, Fb 344 10)) ∧ (¬ F 344 9 = 0 → Fb 344 9 = F 344 9 ∧ Fb 344 10 = F 344 10)) : fl_R xi_ms 173 fr lo 13 [(0, .ref 344)] [] (fl_H sh_T G Fb ++ X) (pq_173 G F X K ts pl al ps) := by
  have hP := (rkt_p hkt hp.1 hp.2 hgK).1
  have hK16 : 0 ≤ K 1 6 ∧ K 1 6 ≤ 601 := gi_g hgK rfl
  have hko := hkt.1
  have hal1 := hal.1
  have hb21 : 0 ≤ F 344 21 ∧ F 344 21 ≤ 5 := gi_g hgi rfl
  refine ga_aload_n (v := .ref 344) hm_173 rfl rfl rfl ?_
  refine fl_bipush hm_173 rfl rfl ?_
  have b21_ : 0 ≤ Fb 344 5 ∧ Fb 344 5 ≤ 600 := gi_g hg_Fb rfl
  refine gVv (nY := 2) (F := 2) (L := 41) (As := [.int (Int32.ofInt 40)]) (b := 344) (rest := []) hm_173 rfl hm_51 rfl rfl (fl_ob sc_344) rfl rfl rfl rfl rfl (by omega) (by omega) (mc_51 hG Fb X hg_Fb (K) (40) (0) hgK hrk_b hkt (⟨by omega, by omega⟩) (by omega) (by omega)) (fun _ _ h => False.elim h) ?_
  have b23_ : 0 ≤ Fb 344 10 ∧ Fb 344 10 ≤ 600 := gi_g hg_Fb rfl
  have b24_ : 0 ≤ Fb 344 9 ∧ Fb 344 9 ≤ 5 := gi_g hg_Fb rfl
  rintro A1_ (⟨F28_, hA_, g29_, s30_, c25_, c26_, c27_⟩ | ⟨F34_, hA_, g35_, s36_, c31_, c32_, c33_⟩)
  ·
    subst hA_
    have g37_ : fs [(344, 344, 5, 5), (344, 344, 9, 10), (344, 344, 21, 21), (344, 344, 63, 63), (353, 363, 0, 100000)] F F28_ := fs_tr hf_Fb s30_ rfl
    have rk38_ : rk K F28_ := rk_fs hrk_b s30_ (fs_rg rfl) rfl
    have c26_k := c26_.2 (by omega)
    clear c26_
    have b39_ : 0 ≤ F28_ 344 9 ∧ F28_ 344 9 ≤ 5 := gi_g g29_ rfl
    have b40_ : 0 ≤ F28_ 344 10 ∧ F28_ 344 10 ≤ 600 := gi_g g29_ rfl
    have b41_ : 0 ≤ F28_ 344 5 ∧ F28_ 344 5 ≤ 600 := gi_g g29_ rfl
    exact mb_173_19 hG F X hgi K ts pl al ps hgK hrk hkt hp hts hal hpl hps fr lo hfr hlo F28_ g29_ g37_ rk38_ (by omega) (⟨by omega, by omega⟩) (⟨fun h0_ => by rw [show F28_ 344 9 = Fb 344 9 by omega, show F28_ 344 10 = Fb 344 10 by omega]; exact hb.1 h0_, fun h0_ => by have h1_ := hb.2 h0_; omega⟩)
  exfalso; omega
set_option maxHeartbeats 16000000 in
theorem mg_173_142 {G : Nat → Nat → Option Nat} (hG : gg G) (F : fl_N) (X : xi_H) (hgi : gi F) (K : fl_N) (ts pl al : List Int) (ps : List (List Int)) (hgK : gi K) (hrk : rk K F) (hkt : rkt K) (hp : 0 ≤ F 344 5 ∧ F 344 5 ≤ K 1 6 - 1) (hts : rpn (F 349) (F 344 15) ts) (hal : rpn (F 353) (F 344 21) al) (hpl : rpn (F 350) (F 344 17) pl) (hps : rprd F ps ∧ ps.length = pl.length) (fr lo : Nat) (hfr : 7 ≤ fr) (hlo : 165 ≤ lo) (Fg : fl_N) (cn_ : Int) (l2_ : List Int) (tl2_ : List Int) (hg_Fg : gi Fg) (hf_Fg : fs [(344, 344, 5, 5), (344, 344, 9, 10), (344, 344, 21, 21), (344, 344, 63, 63), (353, 363, 0, 100000)] F Fg) (hrk_g : rk K Fg) (h0g : Fg 344 9 = 0 ∧ F 344 9 = 0) (hp_g : 0 ≤ Fg 344 5 ∧ Fg 344 5 ≤ K 1 6 - 1) (hq_ : sp_a1 K ts pl ps al (F 344 5) = sp_ac2 K pl ps (al ++ [cn_]) l2_ tl2_ (Fg 344 5)) (h21g : Fg 344 21 = F 344 21 ∧ F 344 21 ≤ 4) (hnm : nrel cn_ (Fg 353 (F 344 21).toNat)) (hal_g : rpn (Fg 353) (F 344 21) al) (ct5_ : rpn (fun j => Fg 356 ((3 * F 344 21).toNat + j)) (Fg 354 (F 344 21).toNat) l2_) (ct4_ : rty (Fg 355) (3 * F 344 21).toNat tl2_) (ct6_ : l2_.length = tl2_.length) (h358 : Fg 358 (F 344 21).toNat = 0) (h359 : Fg 359 (F 344 21).toNat = 0) (hcg : 0 ≤ Fg 357 (F 344 21).toNat ∧ ∀ j : Nat, (j : Int) < F 344 21 → Fg 357 j = F 357 j) (hc1g : Fg 357 (F 344 21).toNat = 1) (hlg : lfr (F 344 21).toNat (8 * (F 344 21).toNat) (8 * (F 344 21).toNat + 8) F Fg) (hqd_ : act_d K ts pl ps (F 344 5) = act_2 K pl ps l2_ tl2_ (Fg 344 5)) : fl_R xi_ms 173 fr lo 142 [(3, .int (Int32.ofInt (F 344 21))), (0, .ref 344)] [] (fl_H sh_T G Fg ++ X) (pq_173 G F X K ts pl al ps) := by
  have hP := (rkt_p hkt hp.1 hp.2 hgK).1
  have hK16 : 0 ≤ K 1 6 ∧ K 1 6 ≤ 601 := gi_g hgK rfl
  have hko := hkt.1
  have hal1 := hal.1
  have hb21 : 0 ≤ F 344 21 ∧ F 344 21 ≤ 5 := gi_g hgi rfl
  have hbg5 : 0 ≤ Fg 344 5 ∧ Fg 344 5 ≤ 600 := gi_g hg_Fg rfl
  refine ga_aload_n (v := .ref 344) hm_173 rfl rfl rfl ?_
  refine fl_bipush hm_173 rfl rfl ?_
  have b21_ : 0 ≤ Fg 344 5 ∧ Fg 344 5 ≤ 600 := gi_g hg_Fg rfl
  refine gVi (nY := 4) (F := 1) (L := 21) (As := [.int (Int32.ofInt 6)]) (b := 344) (rest := []) hm_173 rfl hm_56 rfl rfl (fl_ob sc_344) rfl rfl rfl rfl rfl (by omega) (by omega) (mc_56 hG Fg X hg_Fg (K) (6) ([58, 112, 114, 101, 99, 111, 110, 100, 105, 116, 105, 111, 110]) hgK hrk_g hkt (⟨by omega, by omega⟩) (⟨by omega, by omega⟩) (by decide) (kw_6 hrk_g)) (fun _ _ h => False.elim h) ?_
  have b23_ : 0 ≤ Fg 344 9 ∧ Fg 344 9 ≤ 5 := gi_g hg_Fg rfl
  rintro z22_ A1_ (⟨hA_, hz_, c24_⟩ | ⟨hA_, hz_, c25_, c26_⟩)
  ·
    subst hA_
    subst hz_
    refine fl_if_eq hm_173 rfl ⟨by omega, by omega⟩ (fun _ => ?_) (fun h => absurd (by omega) h)
    refine ga_aload_n (v := .ref 344) hm_173 rfl rfl rfl ?_
    refine fl_bipush hm_173 rfl rfl ?_
    refine gVv (nY := 2) (F := 2) (L := 44) (As := [.int (Int32.ofInt 7)]) (b := 344) (rest := []) hm_173 rfl hm_55 rfl rfl (fl_ob sc_344) rfl rfl rfl rfl rfl (by omega) (by omega) (mc_55 hG Fg X hg_Fg (K) (7) ([58, 101, 102, 102, 101, 99, 116]) hgK hrk_g hkt (⟨by omega, by omega⟩) (⟨by omega, by omega⟩) (by decide) (kw_7 hrk_g)) (fun _ _ h => False.elim h) ?_
    have b28_ : 0 ≤ Fg 344 10 ∧ Fg 344 10 ≤ 600 := gi_g hg_Fg rfl
    rintro A1_ (⟨F32_, hA_, g33_, s34_, c29_, c30_, c31_⟩ | ⟨F38_, hA_, g39_, s40_, c35_, c36_, c37_⟩)
    ·
      subst hA_
      have g41_ : fs [(344, 344, 5, 5), (344, 344, 9, 10), (344, 344, 21, 21), (344, 344, 63, 63), (353, 363, 0, 100000)] F F32_ := fs_tr hf_Fg s34_ rfl
      have rk42_ : rk K F32_ := rk_fs hrk_g s34_ (fs_rg rfl) rfl
      have c30_s := c30_.1 (by omega)
      clear c30_
      have b43_ : 0 ≤ F32_ 344 9 ∧ F32_ 344 9 ≤ 5 := gi_g g33_ rfl
      have b44_ : 0 ≤ F32_ 344 10 ∧ F32_ 344 10 ≤ 600 := gi_g g33_ rfl
      have b45_ : 0 ≤ F32_ 344 5 ∧ F32_ 344 5 ≤ 600 := gi_g g33_ rfl
      have e46_ : F32_ 344 21 = Fg 344 21 := (s34_ 344 21 rfl).trans (rfl)
      have b47_ : 0 ≤ Fg 344 21 ∧ Fg 344 21 ≤ 5 := gi_g hg_Fg rfl
      exact mb_173_176 hG F X hgi K ts pl al ps hgK hrk hkt hp hts hal hpl hps fr lo hfr hlo F32_ g33_ g41_ rk42_ (by omega) (⟨by omega, by omega⟩) (⟨by intro h0_; have hs_ := c30_s; rw [hq_, sp_ac2]; rw [if_neg (fun h8_ => c24_ ⟨by omega, h8_⟩)]; simp only [pb_r]; rw [hs_]; try (show Sum.inl _ = _); try (congr 2 <;> omega), fun h0_ => by exfalso; omega⟩) (⟨by omega, by omega⟩)
    subst hA_
    have g48_ : fs [(344, 344, 5, 5), (344, 344, 9, 10), (344, 344, 21, 21), (344, 344, 63, 63), (353, 363, 0, 100000)] F F38_ := fs_tr hf_Fg s40_ rfl
    have rk49_ : rk K F38_ := rk_fs hrk_g s40_ (fs_rg rfl) rfl
    refine ga_aload_n (v := .ref 344) hm_173 rfl rfl rfl ?_
    refine ga_iload_n (z := F 344 21) hm_173 rfl rfl ?_
    have b50_ : 0 ≤ F38_ 344 5 ∧ F38_ 344 5 ≤ 600 := gi_g g39_ rfl
    have e51_ : F38_ 354 (F 344 21).toNat = Fg 354 (F 344 21).toNat := (s40_ 354 (F 344 21).toNat (by first | exact fs_c rfl | exact (fs_n (by omega) (fs_n (by omega) rfl)))).trans (rfl)
    have e52_ : F38_ 359 (F 344 21).toNat = Fg 359 (F 344 21).toNat := (s40_ 359 (F 344 21).toNat (by first | exact fs_c rfl | exact (fs_n (by omega) (fs_n (by omega) rfl)))).trans (rfl)
    have e53_ : F38_ 357 (F 344 21).toNat = Fg 357 (F 344 21).toNat := (s40_ 357 (F 344 21).toNat (by first | exact fs_c rfl | exact (fs_n (by omega) (fs_n (by omega) rfl)))).trans (rfl)
    refine gVv (nY := 4) (F := 6) (L := 140) (As := [.int (Int32.ofInt (F 344 21))]) (b := 344) (rest := []) hm_173 rfl hm_176 rfl rfl (fl_ob sc_344) rfl rfl rfl rfl rfl (by omega) (by omega) (mc_176 hG F38_ X g39_ (K) (F 344 21) (3) (l2_) (tl2_) (pl) (ps) hgK rk49_ hkt (⟨by omega, by omega⟩) (fun _ => ⟨Or.inr ⟨by omega, rfl, (by rw [show F38_ 354 (F 344 21).toNat = Fg 354 (F 344 21).toNat from e51_]; exact rpn_cg ct5_ (fun j hj => (show F38_ 356 ((3 * F 344 21).toNat + j) = Fg 356 ((3 * F 344 21).toNat + j) from (s40_ 356 ((3 * F 344 21).toNat + j) (by first | exact fs_c rfl | exact (fs_n (by omega) (fs_n (by omega) rfl))))))), rty_cg ct4_ (fun j hj => (show F38_ 355 ((3 * F 344 21).toNat + j) = Fg 355 ((3 * F 344 21).toNat + j) from (s40_ 355 ((3 * F 344 21).toNat + j) (by first | exact fs_c rfl | exact (fs_n (by omega) (fs_n (by omega) rfl))))))⟩, ct6_⟩) (⟨by omega, by omega⟩) ((rpn_fs (rpn_fs hpl hf_Fg (fun _ => (by first | exact fs_c rfl | exact (fs_n (by omega) (fs_n (by omega) (fs_n (by omega) (fs_n (by omega) (fs_n (by omega) rfl))))))) (by first | exact fs_c rfl | exact (fs_n (by omega) (fs_n (by omega) (fs_n (by omega) (fs_n (by omega) (fs_n (by omega) rfl))))))) s40_ (fun _ => (by first | exact fs_c rfl | exact (fs_n (by omega) (fs_n (by omega) rfl)))) (by first | exact fs_c rfl | exact (fs_n (by omega) (fs_n (by omega) rfl))))) (⟨(rprd_fs (rprd_fs hps.1 hf_Fg (by first | exact fs_rg rfl | exact fun r j hj => (fs_n (by omega) (fs_n (by omega) (fs_n (by omega) (fs_n (by omega) (fs_n (by omega) rfl))))))) s40_ (by first | exact fs_rg rfl | exact fun r j hj => (fs_n (by omega) (fs_n (by omega) rfl)))), hps.2⟩) (fun _ => Eq.trans (e52_) h359) (fun _ => Eq.trans (e53_) hc1g)) (fun _ _ h => False.elim h) ?_
    have b55_ : 0 ≤ F38_ 344 10 ∧ F38_ 344 10 ≤ 600 := gi_g g39_ rfl
    have b56_ : 0 ≤ F38_ 344 9 ∧ F38_ 344 9 ≤ 5 := gi_g g39_ rfl
    rintro A1_ (⟨F60_, hA_, g61_, s62_, c57_, c58_, c59_⟩ | ⟨F69_, hA_, g70_, s71_, c63_, c64_, c65_, c66_, c67_, c68_⟩)
    ·
      subst hA_
      have g72_ : fs [(344, 344, 5, 5), (344, 344, 9, 10), (344, 344, 21, 21), (344, 344, 63, 63), (353, 363, 0, 100000)] F F60_ := fs_tr g48_ s62_ rfl
      have rk73_ : rk K F60_ := rk_fs rk49_ s62_ (fs_rg rfl) rfl
      have c58_s := c58_.1 (by omega)
      clear c58_
      have b74_ : 0 ≤ F60_ 344 9 ∧ F60_ 344 9 ≤ 5 := gi_g g61_ rfl
      have b75_ : 0 ≤ F60_ 344 10 ∧ F60_ 344 10 ≤ 600 := gi_g g61_ rfl
      have b76_ : 0 ≤ F60_ 344 5 ∧ F60_ 344 5 ≤ 600 := gi_g g61_ rfl
      have e77_ : F38_ 344 21 = Fg 344 21 := (s40_ 344 21 rfl).trans (rfl)
      have e78_ : F60_ 344 21 = Fg 344 21 := (s62_ 344 21 rfl).trans (e77_)
      have b79_ : 0 ≤ Fg 344 21 ∧ Fg 344 21 ≤ 5 := gi_g hg_Fg rfl
      exact mb_173_181 hG F X hgi K ts pl al ps hgK hrk hkt hp hts hal hpl hps fr lo hfr hlo F60_ g61_ g72_ rk73_ (by omega) (⟨by omega, by omega⟩) (⟨by intro h0_; have hs_ := c58_s; rw [hq_, sp_ac2]; rw [if_neg (fun h8_ => c24_ ⟨by omega, h8_⟩)]; simp only [pb_r]; rw [c36_]; simp only [pb_r]; rw [hs_]; try (show Sum.inl _ = _); try (congr 2 <;> omega), fun h0_ => by exfalso; omega⟩) (⟨by omega, by omega⟩)
    subst hA_
    have g80_ : fs [(344, 344, 5, 5), (344, 344, 9, 10), (344, 344, 21, 21), (344, 344, 63, 63), (353, 363, 0, 100000)] F F69_ := fs_tr g48_ s71_ rfl
    have rk81_ : rk K F69_ := rk_fs rk49_ s71_ (fs_rg rfl) rfl
    obtain ⟨c2_, ce1_, ce3_⟩ := c64_
    refine ga_aload_n (v := .ref 344) hm_173 rfl rfl rfl ?_
    refine fl_bipush hm_173 rfl rfl ?_
    have b82_ : 0 ≤ F69_ 344 5 ∧ F69_ 344 5 ≤ 600 := gi_g g70_ rfl
    refine gVv (nY := 2) (F := 2) (L := 41) (As := [.int (Int32.ofInt 41)]) (b := 344) (rest := []) hm_173 rfl hm_51 rfl rfl (fl_ob sc_344) rfl rfl rfl rfl rfl (by omega) (by omega) (mc_51 hG F69_ X g70_ (K) (41) (1) hgK rk81_ hkt (⟨by omega, by omega⟩) (by omega) (by omega)) (fun _ _ h => False.elim h) ?_
    have b84_ : 0 ≤ F69_ 344 10 ∧ F69_ 344 10 ≤ 600 := gi_g g70_ rfl
    have b85_ : 0 ≤ F69_ 344 9 ∧ F69_ 344 9 ≤ 5 := gi_g g70_ rfl
    rintro A1_ (⟨F89_, hA_, g90_, s91_, c86_, c87_, c88_⟩ | ⟨F95_, hA_, g96_, s97_, c92_, c93_, c94_⟩)
    ·
      subst hA_
      have g98_ : fs [(344, 344, 5, 5), (344, 344, 9, 10), (344, 344, 21, 21), (344, 344, 63, 63), (353, 363, 0, 100000)] F F89_ := fs_tr g80_ s91_ rfl
      have rk99_ : rk K F89_ := rk_fs rk81_ s91_ (fs_rg rfl) rfl
      have c87_s := c87_.1 (by omega)
      clear c87_
      have b100_ : 0 ≤ F89_ 344 9 ∧ F89_ 344 9 ≤ 5 := gi_g g90_ rfl
      have b101_ : 0 ≤ F89_ 344 10 ∧ F89_ 344 10 ≤ 600 := gi_g g90_ rfl
      have b102_ : 0 ≤ F89_ 344 5 ∧ F89_ 344 5 ≤ 600 := gi_g g90_ rfl
      have e103_ : F38_ 344 21 = Fg 344 21 := (s40_ 344 21 rfl).trans (rfl)
      have e104_ : F69_ 344 21 = Fg 344 21 := (s71_ 344 21 rfl).trans (e103_)
      have e105_ : F89_ 344 21 = Fg 344 21 := (s91_ 344 21 rfl).trans (e104_)
      have b106_ : 0 ≤ Fg 344 21 ∧ Fg 344 21 ≤ 5 := gi_g hg_Fg rfl
      exact mb_173_187 hG F X hgi K ts pl al ps hgK hrk hkt hp hts hal hpl hps fr lo hfr hlo F89_ g90_ g98_ rk99_ (by omega) (⟨by omega, by omega⟩) (⟨by intro h0_; have hs_ := c87_s; rw [hq_, sp_ac2]; rw [if_neg (fun h8_ => c24_ ⟨by omega, h8_⟩)]; simp only [pb_r]; rw [c36_]; simp only [pb_r]; rw [ce1_]; simp only [pb_r]; rw [hs_]; try (show Sum.inl _ = _); try (congr 2 <;> omega), fun h0_ => by exfalso; omega⟩) (⟨by omega, by omega⟩)
    subst hA_
    have g107_ : fs [(344, 344, 5, 5), (344, 344, 9, 10), (344, 344, 21, 21), (344, 344, 63, 63), (353, 363, 0, 100000)] F F95_ := fs_tr g80_ s97_ rfl
    have rk108_ : rk K F95_ := rk_fs rk81_ s97_ (fs_rg rfl) rfl
    refine ga_aload_n (v := .ref 344) hm_173 rfl rfl rfl ?_
    refine ga_dup hm_173 rfl rfl ?_
    have e109_ : F38_ 344 21 = Fg 344 21 := (s40_ 344 21 rfl).trans (rfl)
    have e110_ : F69_ 344 21 = Fg 344 21 := (s71_ 344 21 rfl).trans (e109_)
    have e111_ : F95_ 344 21 = Fg 344 21 := (s97_ 344 21 rfl).trans (e110_)
    have b112_ : 0 ≤ Fg 344 21 ∧ Fg 344 21 ≤ 5 := gi_g hg_Fg rfl
    refine ga_geti (z := Fg 344 21) hm_173 rfl sc_344 rfl (e111_) ?_
    refine fl_iconst hm_173 rfl ?_
    refine ga_iadd (a := Fg 344 21) (b := 1) (c := Fg 344 21 + 1) hm_173 rfl (by omega) ?_
    refine ga_puti (z := Fg 344 21 + 1) hm_173 rfl sc_344 rfl rfl ?_
    obtain ⟨F113_, q114_⟩ : ∃ Fq_, Fq_ = (fl_u F95_ 344 21 (Fg 344 21 + 1)) := ⟨_, rfl⟩
    rw [← q114_]
    have g115_ : gi F113_ := by rw [q114_]; exact gi_u (g96_) rfl (by omega) (by omega)
    have g116_ : fs [(344, 344, 5, 5), (344, 344, 9, 10), (344, 344, 21, 21), (344, 344, 63, 63), (353, 363, 0, 100000)] F F113_ := by rw [q114_]; exact fs_u (g107_) rfl
    have rk117_ : rk K F113_ := by rw [q114_]; exact rk_u (rk108_) (by first | decide | exact nc_ rfl | omega) (by first | decide | exact nc_ rfl | omega)
    refine gr_v hm_173 rfl rfl ?_
    have e118_ : F113_ 344 9 = F95_ 344 9 := by rw [q114_]; exact fl_u_ne (by first | exact nc_ rfl | decide | omega)
    have b119_ : 0 ≤ F95_ 344 9 ∧ F95_ 344 9 ≤ 5 := gi_g g96_ rfl
    have b120_ : 0 ≤ F 344 9 ∧ F 344 9 ≤ 5 := gi_g hgi rfl
    have e121_ : F113_ 344 10 = F95_ 344 10 := by rw [q114_]; exact fl_u_ne (by first | exact nc_ rfl | decide | omega)
    have e122_ : F113_ 344 5 = F95_ 344 5 := by rw [q114_]; exact fl_u_ne (by first | exact nc_ rfl | decide | omega)
    have e123_ : F113_ 344 21 = Fg 344 21 + 1 := by rw [q114_]; exact fl_u_eq
    have b124_ : 0 ≤ F95_ 344 5 ∧ F95_ 344 5 ≤ 600 := gi_g g96_ rfl
    have b125_ : 0 ≤ F 344 5 ∧ F 344 5 ≤ 600 := gi_g hgi rfl
    have e126_ : F38_ 353 (F 344 21).toNat = Fg 353 (F 344 21).toNat := (s40_ 353 (F 344 21).toNat (by first | exact fs_c rfl | exact (fs_n (by omega) (fs_n (by omega) rfl)))).trans (rfl)
    have e127_ : F69_ 353 (F 344 21).toNat = Fg 353 (F 344 21).toNat := (s71_ 353 (F 344 21).toNat (by first | exact fs_c rfl | exact (fs_n (by omega) (fs_n (by omega) (fs_n (by omega) (fs_n (by omega) (fs_n (by omega) rfl))))))).trans (e126_)
    have e128_ : F95_ 353 (F 344 21).toNat = Fg 353 (F 344 21).toNat := (s97_ 353 (F 344 21).toNat (by first | exact fs_c rfl | exact (fs_n (by omega) (fs_n (by omega) rfl)))).trans (e127_)
    have e129_ : F113_ 353 (F 344 21).toNat = Fg 353 (F 344 21).toNat := by rw [q114_]; exact (fl_u_ne (by first | exact nc_ rfl | decide | omega)).trans (e128_)
    have b130_ : 0 ≤ F 344 21 ∧ F 344 21 ≤ 5 := gi_g hgi rfl
    exact Or.inr (⟨F113_, rfl, g115_, g116_, (by omega), (⟨cn_, by rw [hq_, sp_ac2]; rw [if_neg (fun h8_ => c24_ ⟨by omega, h8_⟩)]; simp only [pb_r]; rw [c36_]; simp only [pb_r]; rw [ce1_]; simp only [pb_r]; rw [c93_]; simp only [pb_r]; try (congr 2 <;> omega), by rw [e123_, h21g.1]; exact rpn_at hal_g (fun j hj => (Eq.trans (a := F113_ 353 j) (b := F95_ 353 j) (by rw [q114_]; exact (fl_u_ne (by first | exact nc_ rfl | decide | omega))) (Eq.trans (a := F95_ 353 j) (b := F69_ 353 j) (s97_ 353 j (by first | exact fs_c rfl | exact (fs_n (by omega) (fs_n (by omega) rfl)))) (Eq.trans (a := F69_ 353 j) (b := F38_ 353 j) (s71_ 353 j (by first | exact fs_c rfl | exact (fs_n (by omega) (fs_n (by omega) (fs_n (by omega) (fs_n (by omega) (fs_n (by omega) rfl))))))) (show F38_ 353 j = Fg 353 j from (s40_ 353 j (by first | exact fs_c rfl | exact (fs_n (by omega) (fs_n (by omega) rfl))))))))) (e129_) hnm⟩), (⟨by omega, by omega⟩), (fun j hj => ((show cst (F 344 21).toNat Fg F113_ from (by rw [q114_]; exact (cst_u (cst_fs (cst_tr (cst_fs cst_r s40_ (fun _ => (by first | exact fs_c rfl | exact (fs_n (by omega) (fs_n (by omega) rfl))))) c66_) s97_ (fun _ => (by first | exact fs_c rfl | exact (fs_n (by omega) (fs_n (by omega) rfl))))) (by decide)))).2 j (by omega)).trans (hcg.2 j hj)), (⟨(show cst (F 344 21).toNat Fg F113_ from (by rw [q114_]; exact (cst_u (cst_fs (cst_tr (cst_fs cst_r s40_ (fun _ => (by first | exact fs_c rfl | exact (fs_n (by omega) (fs_n (by omega) rfl))))) c66_) s97_ (fun _ => (by first | exact fs_c rfl | exact (fs_n (by omega) (fs_n (by omega) rfl))))) (by decide)))).1 hcg.1, by omega⟩), ((by rw [q114_]; exact (lfr_uo (lfr_fg (lfr_tr (lfr_fg hlg s40_ rfl) c67_ (by first | omega | (simp <;> omega)) (by first | omega | (simp <;> omega))) s97_ rfl) rfl))), (by rw [hqd_, act_n (Bool.eq_false_iff.mpr (fun h8_ => c24_ ⟨by omega, h8_⟩)) c36_ ce1_]; unfold racr; dsimp only; exact ⟨⟨(by show _ = (tl2_.length : Int); have h9_ := ct5_.1; have h8_ : F113_ 354 (F 344 21).toNat = Fg 354 (F 344 21).toNat := (Eq.trans (a := F113_ 354 (F 344 21).toNat) (b := F95_ 354 (F 344 21).toNat) (by rw [q114_]; exact (fl_u_ne (by first | exact nc_ rfl | decide | omega))) (Eq.trans (a := F95_ 354 (F 344 21).toNat) (b := F69_ 354 (F 344 21).toNat) (s97_ 354 (F 344 21).toNat (by first | exact fs_c rfl | exact (fs_n (by omega) (fs_n (by omega) rfl)))) (Eq.trans (a := F69_ 354 (F 344 21).toNat) (b := F38_ 354 (F 344 21).toNat) (s71_ 354 (F 344 21).toNat (by first | exact fs_c rfl | exact (fs_n (by omega) (fs_n (by omega) (fs_n (by omega) (fs_n (by omega) (fs_n (by omega) rfl))))))) (show F38_ 354 (F 344 21).toNat = Fg 354 (F 344 21).toNat from (s40_ 354 (F 344 21).toNat (by first | exact fs_c rfl | exact (fs_n (by omega) (fs_n (by omega) rfl)))))))); omega), rty_cg ct4_ (fun j hj => (Eq.trans (a := F113_ 355 ((3 * F 344 21).toNat + j)) (b := F95_ 355 ((3 * F 344 21).toNat + j)) (by rw [q114_]; exact (fl_u_ne (by first | exact nc_ rfl | decide | omega))) (Eq.trans (a := F95_ 355 ((3 * F 344 21).toNat + j)) (b := F69_ 355 ((3 * F 344 21).toNat + j)) (s97_ 355 ((3 * F 344 21).toNat + j) (by first | exact fs_c rfl | exact (fs_n (by omega) (fs_n (by omega) rfl)))) (Eq.trans (a := F69_ 355 ((3 * F 344 21).toNat + j)) (b := F38_ 355 ((3 * F 344 21).toNat + j)) (s71_ 355 ((3 * F 344 21).toNat + j) (by first | exact fs_c rfl | exact (fs_n (by omega) (fs_n (by omega) (fs_n (by omega) (fs_n (by omega) (fs_n (by omega) rfl))))))) (show F38_ 355 ((3 * F 344 21).toNat + j) = Fg 355 ((3 * F 344 21).toNat + j) from (s40_ 355 ((3 * F 344 21).toNat + j) (by first | exact fs_c rfl | exact (fs_n (by omega) (fs_n (by omega) rfl)))))))))⟩, ⟨(Eq.trans ((Eq.trans (a := F113_ 358 (F 344 21).toNat) (b := F95_ 358 (F 344 21).toNat) (by rw [q114_]; exact (fl_u_ne (by first | exact nc_ rfl | decide | omega))) (Eq.trans (a := F95_ 358 (F 344 21).toNat) (b := F69_ 358 (F 344 21).toNat) (s97_ 358 (F 344 21).toNat (by first | exact fs_c rfl | exact (fs_n (by omega) (fs_n (by omega) rfl)))) (Eq.trans (a := F69_ 358 (F 344 21).toNat) (b := F38_ 358 (F 344 21).toNat) (s71_ 358 (F 344 21).toNat (by first | exact fs_c rfl | exact (fs_n (by omega) (fs_n (by omega) (fs_n (by omega) (fs_n (by omega) (fs_n (by omega) rfl))))))) (show F38_ 358 (F 344 21).toNat = Fg 358 (F 344 21).toNat from (s40_ 358 (F 344 21).toNat (by first | exact fs_c rfl | exact (fs_n (by omega) (fs_n (by omega) rfl))))))))) h358), rcl_nil⟩, ⟨(Eq.trans ((Eq.trans (a := F113_ 359 (F 344 21).toNat) (b := F95_ 359 (F 344 21).toNat) (by rw [q114_]; exact (fl_u_ne (by first | exact nc_ rfl | decide | omega))) (show F95_ 359 (F 344 21).toNat = F69_ 359 (F 344 21).toNat from (s97_ 359 (F 344 21).toNat (by first | exact fs_c rfl | exact (fs_n (by omega) (fs_n (by omega) rfl))))))) c68_.2.symm), rcl_lfr c68_.1 (show lfr (F 344 21).toNat 0 0 F69_ F113_ from (by rw [q114_]; exact (lfr_uo (lfr_fg lfr_r s97_ rfl) rfl))) (by omega)⟩, (Eq.trans ((Eq.trans (a := F113_ 357 (F 344 21).toNat) (b := F95_ 357 (F 344 21).toNat) (by rw [q114_]; exact (fl_u_ne (by first | exact nc_ rfl | decide | omega))) (show F95_ 357 (F 344 21).toNat = F69_ 357 (F 344 21).toNat from (s97_ 357 (F 344 21).toNat (by first | exact fs_c rfl | exact (fs_n (by omega) (fs_n (by omega) rfl))))))) ce3_)⟩)⟩)
  subst hA_
  subst hz_
  refine fl_if_eq hm_173 rfl ⟨by omega, by omega⟩ (fun h => absurd h (by omega)) (fun _ => ?_)
  have hszW := (kw_iff (w := [58, 112, 114, 101, 99, 111, 110, 100, 105, 116, 105, 111, 110]) hkt hgK (p := Fg 344 5) (by omega) (by omega) (by decide) (by decide)).mp c25_.2
  refine ga_aload_n (v := .ref 344) hm_173 rfl rfl rfl ?_
  refine ga_dup hm_173 rfl rfl ?_
  refine ga_geti (z := Fg 344 5) hm_173 rfl sc_344 rfl (rfl) ?_
  refine fl_iconst hm_173 rfl ?_
  refine ga_iadd (a := Fg 344 5) (b := 1) (c := Fg 344 5 + 1) hm_173 rfl (by omega) ?_
  refine ga_puti (z := Fg 344 5 + 1) hm_173 rfl sc_344 rfl rfl ?_
  refine ga_aload_n (v := .ref 344) hm_173 rfl rfl rfl ?_
  refine ga_iload_n (z := F 344 21) hm_173 rfl rfl ?_
  refine fl_bipush hm_173 rfl rfl ?_
  refine ga_iload_n (z := F 344 21) hm_173 rfl rfl ?_
  refine ga_imul (a := 8) (b := F 344 21) (c := 8 * (F 344 21)) hm_173 rfl (by omega) ?_
  obtain ⟨F131_, q132_⟩ : ∃ Fq_, Fq_ = (fl_u Fg 344 5 (Fg 344 5 + 1)) := ⟨_, rfl⟩
  rw [← q132_]
  have g133_ : gi F131_ := by rw [q132_]; exact gi_u (hg_Fg) rfl (by omega) (by omega)
  have g134_ : fs [(344, 344, 5, 5), (344, 344, 9, 10), (344, 344, 21, 21), (344, 344, 63, 63), (353, 363, 0, 100000)] F F131_ := by rw [q132_]; exact fs_u (hf_Fg) rfl
  have rk135_ : rk K F131_ := by rw [q132_]; exact rk_u (hrk_g) (by first | decide | exact nc_ rfl | omega) (by first | decide | exact nc_ rfl | omega)
  have e136_ : F131_ 344 5 = Fg 344 5 + 1 := by rw [q132_]; exact fl_u_eq
  have e137_ : F131_ 354 (F 344 21).toNat = Fg 354 (F 344 21).toNat := by rw [q132_]; exact fl_u_ne (by first | exact nc_ rfl | decide | omega)
  have e138_ : F131_ 358 (F 344 21).toNat = Fg 358 (F 344 21).toNat := by rw [q132_]; exact fl_u_ne (by first | exact nc_ rfl | decide | omega)
  refine gVv (nY := 4) (F := 6) (L := 142) (As := [.int (Int32.ofInt (F 344 21)), .int (Int32.ofInt (8 * (F 344 21)))]) (b := 344) (rest := []) hm_173 rfl hm_175 rfl rfl (fl_ob sc_344) rfl rfl rfl rfl rfl (by omega) (by omega) (mc_175 hG F131_ X g133_ (K) (F 344 21) (8 * (F 344 21)) (3) (l2_) (tl2_) (pl) (ps) hgK rk135_ hkt (⟨by omega, by omega⟩) (Or.inr ⟨by omega, rfl, (by rw [show F131_ 354 (F 344 21).toNat = Fg 354 (F 344 21).toNat from e137_]; exact rpn_cg ct5_ (fun j hj => (show F131_ 356 ((3 * F 344 21).toNat + j) = Fg 356 ((3 * F 344 21).toNat + j) from (by rw [q132_]; exact (fl_u_ne (by first | exact nc_ rfl | decide | omega)))))), rty_cg ct4_ (fun j hj => (show F131_ 355 ((3 * F 344 21).toNat + j) = Fg 355 ((3 * F 344 21).toNat + j) from (by rw [q132_]; exact (fl_u_ne (by first | exact nc_ rfl | decide | omega)))))⟩) (ct6_) (⟨by omega, by omega⟩) ((by rw [q132_]; exact (rpn_u (rpn_fs hpl hf_Fg (fun _ => (by first | exact fs_c rfl | exact (fs_n (by omega) (fs_n (by omega) (fs_n (by omega) (fs_n (by omega) (fs_n (by omega) rfl))))))) (by first | exact fs_c rfl | exact (fs_n (by omega) (fs_n (by omega) (fs_n (by omega) (fs_n (by omega) (fs_n (by omega) rfl))))))) (by first | decide | exact nc_ rfl | omega) (by first | decide | exact nc_ rfl | omega)))) (⟨(by rw [q132_]; exact (rprd_u (rprd_fs hps.1 hf_Fg (by first | exact fs_rg rfl | exact fun r j hj => (fs_n (by omega) (fs_n (by omega) (fs_n (by omega) (fs_n (by omega) (fs_n (by omega) rfl))))))) (by first | decide | exact nc_ rfl | omega))), hps.2⟩) (⟨by omega, by omega⟩) (Or.inl (by omega)) (Eq.trans (e138_) h358)) (fun _ _ h => False.elim h) ?_
  have e140_ : F131_ 344 10 = Fg 344 10 := by rw [q132_]; exact fl_u_ne (by first | exact nc_ rfl | decide | omega)
  have b141_ : 0 ≤ Fg 344 10 ∧ Fg 344 10 ≤ 600 := gi_g hg_Fg rfl
  have e142_ : F131_ 344 9 = Fg 344 9 := by rw [q132_]; exact fl_u_ne (by first | exact nc_ rfl | decide | omega)
  rintro A1_ (⟨F146_, hA_, g147_, s148_, c143_, c144_, c145_⟩ | ⟨F154_, hA_, g155_, s156_, c149_, c150_, c151_, c152_, c153_⟩)
  ·
    subst hA_
    have g157_ : fs [(344, 344, 5, 5), (344, 344, 9, 10), (344, 344, 21, 21), (344, 344, 63, 63), (353, 363, 0, 100000)] F F146_ := fs_tr g134_ s148_ rfl
    have rk158_ : rk K F146_ := rk_fs rk135_ s148_ (fs_rg rfl) rfl
    try simp only [e136_, e140_, e142_] at c144_
    have c144_s := c144_.1 (by omega)
    clear c144_
    have b159_ : 0 ≤ F146_ 344 9 ∧ F146_ 344 9 ≤ 5 := gi_g g147_ rfl
    have b160_ : 0 ≤ F146_ 344 10 ∧ F146_ 344 10 ≤ 600 := gi_g g147_ rfl
    have b161_ : 0 ≤ F146_ 344 5 ∧ F146_ 344 5 ≤ 600 := gi_g g147_ rfl
    have e162_ : F131_ 344 21 = Fg 344 21 := by rw [q132_]; exact fl_u_ne (by first | exact nc_ rfl | decide | omega)
    have e163_ : F146_ 344 21 = Fg 344 21 := (s148_ 344 21 rfl).trans (e162_)
    have b164_ : 0 ≤ Fg 344 21 ∧ Fg 344 21 ≤ 5 := gi_g hg_Fg rfl
    exact mb_173_170 hG F X hgi K ts pl al ps hgK hrk hkt hp hts hal hpl hps fr lo hfr hlo F146_ g147_ g157_ rk158_ (by omega) (⟨by omega, by omega⟩) (⟨by intro h0_; have hs_ := c144_s; rw [hq_, sp_ac2]; rw [if_pos c25_.2, (show sk K (Fg 344 5) = Fg 344 5 + 1 by rw [sk, if_pos (by omega)])]; rw [hs_]; try (show Sum.inl _ = _); try (congr 2 <;> omega), fun h0_ => by exfalso; omega⟩) (⟨by omega, by omega⟩)
  subst hA_
  have g165_ : fs [(344, 344, 5, 5), (344, 344, 9, 10), (344, 344, 21, 21), (344, 344, 63, 63), (353, 363, 0, 100000)] F F154_ := fs_tr g134_ s156_ rfl
  have rk166_ : rk K F154_ := rk_fs rk135_ s156_ (fs_rg rfl) rfl
  try simp only [e142_] at c149_
  try simp only [e136_] at c150_
  try simp only [e136_] at c153_
  refine ga_aload_n (v := .ref 344) hm_173 rfl rfl rfl ?_
  refine fl_bipush hm_173 rfl rfl ?_
  have b167_ : 0 ≤ F154_ 344 5 ∧ F154_ 344 5 ≤ 600 := gi_g g155_ rfl
  refine gVv (nY := 2) (F := 2) (L := 44) (As := [.int (Int32.ofInt 7)]) (b := 344) (rest := []) hm_173 rfl hm_55 rfl rfl (fl_ob sc_344) rfl rfl rfl rfl rfl (by omega) (by omega) (mc_55 hG F154_ X g155_ (K) (7) ([58, 101, 102, 102, 101, 99, 116]) hgK rk166_ hkt (⟨by omega, by omega⟩) (⟨by omega, by omega⟩) (by decide) (kw_7 rk166_)) (fun _ _ h => False.elim h) ?_
  have b169_ : 0 ≤ F154_ 344 10 ∧ F154_ 344 10 ≤ 600 := gi_g g155_ rfl
  have b170_ : 0 ≤ F154_ 344 9 ∧ F154_ 344 9 ≤ 5 := gi_g g155_ rfl
  rintro A1_ (⟨F174_, hA_, g175_, s176_, c171_, c172_, c173_⟩ | ⟨F180_, hA_, g181_, s182_, c177_, c178_, c179_⟩)
  ·
    subst hA_
    have g183_ : fs [(344, 344, 5, 5), (344, 344, 9, 10), (344, 344, 21, 21), (344, 344, 63, 63), (353, 363, 0, 100000)] F F174_ := fs_tr g165_ s176_ rfl
    have rk184_ : rk K F174_ := rk_fs rk166_ s176_ (fs_rg rfl) rfl
    have c172_s := c172_.1 (by omega)
    clear c172_
    have b185_ : 0 ≤ F174_ 344 9 ∧ F174_ 344 9 ≤ 5 := gi_g g175_ rfl
    have b186_ : 0 ≤ F174_ 344 10 ∧ F174_ 344 10 ≤ 600 := gi_g g175_ rfl
    have b187_ : 0 ≤ F174_ 344 5 ∧ F174_ 344 5 ≤ 600 := gi_g g175_ rfl
    have e188_ : F131_ 344 21 = Fg 344 21 := by rw [q132_]; exact fl_u_ne (by first | exact nc_ rfl | decide | omega)
    have e189_ : F154_ 344 21 = Fg 344 21 := (s156_ 344 21 rfl).trans (e188_)
    have e190_ : F174_ 344 21 = Fg 344 21 := (s176_ 344 21 rfl).trans (e189_)
    have b191_ : 0 ≤ Fg 344 21 ∧ Fg 344 21 ≤ 5 := gi_g hg_Fg rfl
    exact mb_173_176 hG F X hgi K ts pl al ps hgK hrk hkt hp hts hal hpl hps fr lo hfr hlo F174_ g175_ g183_ rk184_ (by omega) (⟨by omega, by omega⟩) (⟨by intro h0_; have hs_ := c172_s; rw [hq_, sp_ac2]; rw [if_pos c25_.2, (show sk K (Fg 344 5) = Fg 344 5 + 1 by rw [sk, if_pos (by omega)])]; rw [c150_]; simp only [pb_r]; rw [hs_]; try (show Sum.inl _ = _); try (congr 2 <;> omega), fun h0_ => by exfalso; omega⟩) (⟨by omega, by omega⟩)
  subst hA_
  have g192_ : fs [(344, 344, 5, 5), (344, 344, 9, 10), (344, 344, 21, 21), (344, 344, 63, 63), (353, 363, 0, 100000)] F F180_ := fs_tr g165_ s182_ rfl
  have rk193_ : rk K F180_ := rk_fs rk166_ s182_ (fs_rg rfl) rfl
  refine ga_aload_n (v := .ref 344) hm_173 rfl rfl rfl ?_
  refine ga_iload_n (z := F 344 21) hm_173 rfl rfl ?_
  have b194_ : 0 ≤ F180_ 344 5 ∧ F180_ 344 5 ≤ 600 := gi_g g181_ rfl
  have e195_ : F154_ 354 (F 344 21).toNat = Fg 354 (F 344 21).toNat := (s156_ 354 (F 344 21).toNat (by first | exact fs_c rfl | exact (fs_n (by omega) (fs_n (by omega) (fs_n (by omega) (fs_n (by omega) rfl)))))).trans (e137_)
  have e196_ : F180_ 354 (F 344 21).toNat = Fg 354 (F 344 21).toNat := (s182_ 354 (F 344 21).toNat (by first | exact fs_c rfl | exact (fs_n (by omega) (fs_n (by omega) rfl)))).trans (e195_)
  have e197_ : F131_ 359 (F 344 21).toNat = Fg 359 (F 344 21).toNat := by rw [q132_]; exact fl_u_ne (by first | exact nc_ rfl | decide | omega)
  have e198_ : F154_ 359 (F 344 21).toNat = Fg 359 (F 344 21).toNat := (s156_ 359 (F 344 21).toNat (by first | exact fs_c rfl | exact (fs_n (by omega) (fs_n (by omega) (fs_n (by omega) (fs_n (by omega) rfl)))))).trans (e197_)
  have e199_ : F180_ 359 (F 344 21).toNat = Fg 359 (F 344 21).toNat := (s182_ 359 (F 344 21).toNat (by first | exact fs_c rfl | exact (fs_n (by omega) (fs_n (by omega) rfl)))).trans (e198_)
  have e200_ : F131_ 357 (F 344 21).toNat = Fg 357 (F 344 21).toNat := by rw [q132_]; exact fl_u_ne (by first | exact nc_ rfl | decide | omega)
  have e201_ : F154_ 357 (F 344 21).toNat = Fg 357 (F 344 21).toNat := (s156_ 357 (F 344 21).toNat (by first | exact fs_c rfl | exact (fs_n (by omega) (fs_n (by omega) (fs_n (by omega) (fs_n (by omega) rfl)))))).trans (e200_)
  have e202_ : F180_ 357 (F 344 21).toNat = Fg 357 (F 344 21).toNat := (s182_ 357 (F 344 21).toNat (by first | exact fs_c rfl | exact (fs_n (by omega) (fs_n (by omega) rfl)))).trans (e201_)
  refine gVv (nY := 4) (F := 6) (L := 140) (As := [.int (Int32.ofInt (F 344 21))]) (b := 344) (rest := []) hm_173 rfl hm_176 rfl rfl (fl_ob sc_344) rfl rfl rfl rfl rfl (by omega) (by omega) (mc_176 hG F180_ X g181_ (K) (F 344 21) (3) (l2_) (tl2_) (pl) (ps) hgK rk193_ hkt (⟨by omega, by omega⟩) (fun _ => ⟨Or.inr ⟨by omega, rfl, (by rw [show F180_ 354 (F 344 21).toNat = Fg 354 (F 344 21).toNat from e196_]; exact rpn_cg ct5_ (fun j hj => (Eq.trans (a := F180_ 356 ((3 * F 344 21).toNat + j)) (b := F154_ 356 ((3 * F 344 21).toNat + j)) (s182_ 356 ((3 * F 344 21).toNat + j) (by first | exact fs_c rfl | exact (fs_n (by omega) (fs_n (by omega) rfl)))) (Eq.trans (a := F154_ 356 ((3 * F 344 21).toNat + j)) (b := F131_ 356 ((3 * F 344 21).toNat + j)) (s156_ 356 ((3 * F 344 21).toNat + j) (by first | exact fs_c rfl | exact (fs_n (by omega) (fs_n (by omega) (fs_n (by omega) (fs_n (by omega) rfl)))))) (show F131_ 356 ((3 * F 344 21).toNat + j) = Fg 356 ((3 * F 344 21).toNat + j) from (by rw [q132_]; exact (fl_u_ne (by first | exact nc_ rfl | decide | omega)))))))), rty_cg ct4_ (fun j hj => (Eq.trans (a := F180_ 355 ((3 * F 344 21).toNat + j)) (b := F154_ 355 ((3 * F 344 21).toNat + j)) (s182_ 355 ((3 * F 344 21).toNat + j) (by first | exact fs_c rfl | exact (fs_n (by omega) (fs_n (by omega) rfl)))) (Eq.trans (a := F154_ 355 ((3 * F 344 21).toNat + j)) (b := F131_ 355 ((3 * F 344 21).toNat + j)) (s156_ 355 ((3 * F 344 21).toNat + j) (by first | exact fs_c rfl | exact (fs_n (by omega) (fs_n (by omega) (fs_n (by omega) (fs_n (by omega) rfl)))))) (show F131_ 355 ((3 * F 344 21).toNat + j) = Fg 355 ((3 * F 344 21).toNat + j) from (by rw [q132_]; exact (fl_u_ne (by first | exact nc_ rfl | decide | omega)))))))⟩, ct6_⟩) (⟨by omega, by omega⟩) ((rpn_fs (rpn_fs (by rw [q132_]; exact (rpn_u (rpn_fs hpl hf_Fg (fun _ => (by first | exact fs_c rfl | exact (fs_n (by omega) (fs_n (by omega) (fs_n (by omega) (fs_n (by omega) (fs_n (by omega) rfl))))))) (by first | exact fs_c rfl | exact (fs_n (by omega) (fs_n (by omega) (fs_n (by omega) (fs_n (by omega) (fs_n (by omega) rfl))))))) (by first | decide | exact nc_ rfl | omega) (by first | decide | exact nc_ rfl | omega))) s156_ (fun _ => (by first | exact fs_c rfl | exact (fs_n (by omega) (fs_n (by omega) (fs_n (by omega) (fs_n (by omega) rfl)))))) (by first | exact fs_c rfl | exact (fs_n (by omega) (fs_n (by omega) (fs_n (by omega) (fs_n (by omega) rfl)))))) s182_ (fun _ => (by first | exact fs_c rfl | exact (fs_n (by omega) (fs_n (by omega) rfl)))) (by first | exact fs_c rfl | exact (fs_n (by omega) (fs_n (by omega) rfl))))) (⟨(rprd_fs (rprd_fs (by rw [q132_]; exact (rprd_u (rprd_fs hps.1 hf_Fg (by first | exact fs_rg rfl | exact fun r j hj => (fs_n (by omega) (fs_n (by omega) (fs_n (by omega) (fs_n (by omega) (fs_n (by omega) rfl))))))) (by first | decide | exact nc_ rfl | omega))) s156_ (by first | exact fs_rg rfl | exact fun r j hj => (fs_n (by omega) (fs_n (by omega) (fs_n (by omega) (fs_n (by omega) rfl)))))) s182_ (by first | exact fs_rg rfl | exact fun r j hj => (fs_n (by omega) (fs_n (by omega) rfl)))), hps.2⟩) (fun _ => Eq.trans (e199_) h359) (fun _ => Eq.trans (e202_) hc1g)) (fun _ _ h => False.elim h) ?_
  have b204_ : 0 ≤ F180_ 344 10 ∧ F180_ 344 10 ≤ 600 := gi_g g181_ rfl
  have b205_ : 0 ≤ F180_ 344 9 ∧ F180_ 344 9 ≤ 5 := gi_g g181_ rfl
  rintro A1_ (⟨F209_, hA_, g210_, s211_, c206_, c207_, c208_⟩ | ⟨F218_, hA_, g219_, s220_, c212_, c213_, c214_, c215_, c216_, c217_⟩)
  ·
    subst hA_
    have g221_ : fs [(344, 344, 5, 5), (344, 344, 9, 10), (344, 344, 21, 21), (344, 344, 63, 63), (353, 363, 0, 100000)] F F209_ := fs_tr g192_ s211_ rfl
    have rk222_ : rk K F209_ := rk_fs rk193_ s211_ (fs_rg rfl) rfl
    have c207_s := c207_.1 (by omega)
    clear c207_
    have b223_ : 0 ≤ F209_ 344 9 ∧ F209_ 344 9 ≤ 5 := gi_g g210_ rfl
    have b224_ : 0 ≤ F209_ 344 10 ∧ F209_ 344 10 ≤ 600 := gi_g g210_ rfl
    have b225_ : 0 ≤ F209_ 344 5 ∧ F209_ 344 5 ≤ 600 := gi_g g210_ rfl
    have e226_ : F131_ 344 21 = Fg 344 21 := by rw [q132_]; exact fl_u_ne (by first | exact nc_ rfl | decide | omega)
    have e227_ : F154_ 344 21 = Fg 344 21 := (s156_ 344 21 rfl).trans (e226_)
    have e228_ : F180_ 344 21 = Fg 344 21 := (s182_ 344 21 rfl).trans (e227_)
    have e229_ : F209_ 344 21 = Fg 344 21 := (s211_ 344 21 rfl).trans (e228_)
    have b230_ : 0 ≤ Fg 344 21 ∧ Fg 344 21 ≤ 5 := gi_g hg_Fg rfl
    exact mb_173_181 hG F X hgi K ts pl al ps hgK hrk hkt hp hts hal hpl hps fr lo hfr hlo F209_ g210_ g221_ rk222_ (by omega) (⟨by omega, by omega⟩) (⟨by intro h0_; have hs_ := c207_s; rw [hq_, sp_ac2]; rw [if_pos c25_.2, (show sk K (Fg 344 5) = Fg 344 5 + 1 by rw [sk, if_pos (by omega)])]; rw [c150_]; simp only [pb_r]; rw [c178_]; simp only [pb_r]; rw [hs_]; try (show Sum.inl _ = _); try (congr 2 <;> omega), fun h0_ => by exfalso; omega⟩) (⟨by omega, by omega⟩)
  subst hA_
  have g231_ : fs [(344, 344, 5, 5), (344, 344, 9, 10), (344, 344, 21, 21), (344, 344, 63, 63), (353, 363, 0, 100000)] F F218_ := fs_tr g192_ s220_ rfl
  have rk232_ : rk K F218_ := rk_fs rk193_ s220_ (fs_rg rfl) rfl
  obtain ⟨c2_, ce1_, ce3_⟩ := c213_
  refine ga_aload_n (v := .ref 344) hm_173 rfl rfl rfl ?_
  refine fl_bipush hm_173 rfl rfl ?_
  have b233_ : 0 ≤ F218_ 344 5 ∧ F218_ 344 5 ≤ 600 := gi_g g219_ rfl
  refine gVv (nY := 2) (F := 2) (L := 41) (As := [.int (Int32.ofInt 41)]) (b := 344) (rest := []) hm_173 rfl hm_51 rfl rfl (fl_ob sc_344) rfl rfl rfl rfl rfl (by omega) (by omega) (mc_51 hG F218_ X g219_ (K) (41) (1) hgK rk232_ hkt (⟨by omega, by omega⟩) (by omega) (by omega)) (fun _ _ h => False.elim h) ?_
  have b235_ : 0 ≤ F218_ 344 10 ∧ F218_ 344 10 ≤ 600 := gi_g g219_ rfl
  have b236_ : 0 ≤ F218_ 344 9 ∧ F218_ 344 9 ≤ 5 := gi_g g219_ rfl
  rintro A1_ (⟨F240_, hA_, g241_, s242_, c237_, c238_, c239_⟩ | ⟨F246_, hA_, g247_, s248_, c243_, c244_, c245_⟩)
  ·
    subst hA_
    have g249_ : fs [(344, 344, 5, 5), (344, 344, 9, 10), (344, 344, 21, 21), (344, 344, 63, 63), (353, 363, 0, 100000)] F F240_ := fs_tr g231_ s242_ rfl
    have rk250_ : rk K F240_ := rk_fs rk232_ s242_ (fs_rg rfl) rfl
    have c238_s := c238_.1 (by omega)
    clear c238_
    have b251_ : 0 ≤ F240_ 344 9 ∧ F240_ 344 9 ≤ 5 := gi_g g241_ rfl
    have b252_ : 0 ≤ F240_ 344 10 ∧ F240_ 344 10 ≤ 600 := gi_g g241_ rfl
    have b253_ : 0 ≤ F240_ 344 5 ∧ F240_ 344 5 ≤ 600 := gi_g g241_ rfl
    have e254_ : F131_ 344 21 = Fg 344 21 := by rw [q132_]; exact fl_u_ne (by first | exact nc_ rfl | decide | omega)
    have e255_ : F154_ 344 21 = Fg 344 21 := (s156_ 344 21 rfl).trans (e254_)
    have e256_ : F180_ 344 21 = Fg 344 21 := (s182_ 344 21 rfl).trans (e255_)
    have e257_ : F218_ 344 21 = Fg 344 21 := (s220_ 344 21 rfl).trans (e256_)
    have e258_ : F240_ 344 21 = Fg 344 21 := (s242_ 344 21 rfl).trans (e257_)
    have b259_ : 0 ≤ Fg 344 21 ∧ Fg 344 21 ≤ 5 := gi_g hg_Fg rfl
    exact mb_173_187 hG F X hgi K ts pl al ps hgK hrk hkt hp hts hal hpl hps fr lo hfr hlo F240_ g241_ g249_ rk250_ (by omega) (⟨by omega, by omega⟩) (⟨by intro h0_; have hs_ := c238_s; rw [hq_, sp_ac2]; rw [if_pos c25_.2, (show sk K (Fg 344 5) = Fg 344 5 + 1 by rw [sk, if_pos (by omega)])]; rw [c150_]; simp only [pb_r]; rw [c178_]; simp only [pb_r]; rw [ce1_]; simp only [pb_r]; rw [hs_]; try (show Sum.inl _ = _); try (congr 2 <;> omega), fun h0_ => by exfalso; omega⟩) (⟨by omega, by omega⟩)
  subst hA_
  have g260_ : fs [(344, 344, 5, 5), (344, 344, 9, 10), (344, 344, 21, 21), (344, 344, 63, 63), (353, 363, 0, 100000)] F F246_ := fs_tr g231_ s248_ rfl
  have rk261_ : rk K F246_ := rk_fs rk232_ s248_ (fs_rg rfl) rfl
  refine ga_aload_n (v := .ref 344) hm_173 rfl rfl rfl ?_
  refine ga_dup hm_173 rfl rfl ?_
  have e262_ : F131_ 344 21 = Fg 344 21 := by rw [q132_]; exact fl_u_ne (by first | exact nc_ rfl | decide | omega)
  have e263_ : F154_ 344 21 = Fg 344 21 := (s156_ 344 21 rfl).trans (e262_)
  have e264_ : F180_ 344 21 = Fg 344 21 := (s182_ 344 21 rfl).trans (e263_)
  have e265_ : F218_ 344 21 = Fg 344 21 := (s220_ 344 21 rfl).trans (e264_)
  have e266_ : F246_ 344 21 = Fg 344 21 := (s248_ 344 21 rfl).trans (e265_)
  have b267_ : 0 ≤ Fg 344 21 ∧ Fg 344 21 ≤ 5 := gi_g hg_Fg rfl
  refine ga_geti (z := Fg 344 21) hm_173 rfl sc_344 rfl (e266_) ?_
  refine fl_iconst hm_173 rfl ?_
  refine ga_iadd (a := Fg 344 21) (b := 1) (c := Fg 344 21 + 1) hm_173 rfl (by omega) ?_
  refine ga_puti (z := Fg 344 21 + 1) hm_173 rfl sc_344 rfl rfl ?_
  obtain ⟨F268_, q269_⟩ : ∃ Fq_, Fq_ = (fl_u F246_ 344 21 (Fg 344 21 + 1)) := ⟨_, rfl⟩
  rw [← q269_]
  have g270_ : gi F268_ := by rw [q269_]; exact gi_u (g247_) rfl (by omega) (by omega)
  have g271_ : fs [(344, 344, 5, 5), (344, 344, 9, 10), (344, 344, 21, 21), (344, 344, 63, 63), (353, 363, 0, 100000)] F F268_ := by rw [q269_]; exact fs_u (g260_) rfl
  have rk272_ : rk K F268_ := by rw [q269_]; exact rk_u (rk261_) (by first | decide | exact nc_ rfl | omega) (by first | decide | exact nc_ rfl | omega)
  refine gr_v hm_173 rfl rfl ?_
  have e273_ : F268_ 344 9 = F246_ 344 9 := by rw [q269_]; exact fl_u_ne (by first | exact nc_ rfl | decide | omega)
  have b274_ : 0 ≤ F246_ 344 9 ∧ F246_ 344 9 ≤ 5 := gi_g g247_ rfl
  have b275_ : 0 ≤ F 344 9 ∧ F 344 9 ≤ 5 := gi_g hgi rfl
  have e276_ : F268_ 344 10 = F246_ 344 10 := by rw [q269_]; exact fl_u_ne (by first | exact nc_ rfl | decide | omega)
  have e277_ : F268_ 344 5 = F246_ 344 5 := by rw [q269_]; exact fl_u_ne (by first | exact nc_ rfl | decide | omega)
  have e278_ : F268_ 344 21 = Fg 344 21 + 1 := by rw [q269_]; exact fl_u_eq
  have b279_ : 0 ≤ F246_ 344 5 ∧ F246_ 344 5 ≤ 600 := gi_g g247_ rfl
  have b280_ : 0 ≤ F 344 5 ∧ F 344 5 ≤ 600 := gi_g hgi rfl
  have e281_ : F131_ 353 (F 344 21).toNat = Fg 353 (F 344 21).toNat := by rw [q132_]; exact fl_u_ne (by first | exact nc_ rfl | decide | omega)
  have e282_ : F154_ 353 (F 344 21).toNat = Fg 353 (F 344 21).toNat := (s156_ 353 (F 344 21).toNat (by first | exact fs_c rfl | exact (fs_n (by omega) (fs_n (by omega) (fs_n (by omega) (fs_n (by omega) rfl)))))).trans (e281_)
  have e283_ : F180_ 353 (F 344 21).toNat = Fg 353 (F 344 21).toNat := (s182_ 353 (F 344 21).toNat (by first | exact fs_c rfl | exact (fs_n (by omega) (fs_n (by omega) rfl)))).trans (e282_)
  have e284_ : F218_ 353 (F 344 21).toNat = Fg 353 (F 344 21).toNat := (s220_ 353 (F 344 21).toNat (by first | exact fs_c rfl | exact (fs_n (by omega) (fs_n (by omega) (fs_n (by omega) (fs_n (by omega) (fs_n (by omega) rfl))))))).trans (e283_)
  have e285_ : F246_ 353 (F 344 21).toNat = Fg 353 (F 344 21).toNat := (s248_ 353 (F 344 21).toNat (by first | exact fs_c rfl | exact (fs_n (by omega) (fs_n (by omega) rfl)))).trans (e284_)
  have e286_ : F268_ 353 (F 344 21).toNat = Fg 353 (F 344 21).toNat := by rw [q269_]; exact (fl_u_ne (by first | exact nc_ rfl | decide | omega)).trans (e285_)
  have b287_ : 0 ≤ F 344 21 ∧ F 344 21 ≤ 5 := gi_g hgi rfl
  exact Or.inr (⟨F268_, rfl, g270_, g271_, (by omega), (⟨cn_, by rw [hq_, sp_ac2]; rw [if_pos c25_.2, (show sk K (Fg 344 5) = Fg 344 5 + 1 by rw [sk, if_pos (by omega)])]; rw [c150_]; simp only [pb_r]; rw [c178_]; simp only [pb_r]; rw [ce1_]; simp only [pb_r]; rw [c244_]; simp only [pb_r]; try (congr 2 <;> omega), by rw [e278_, h21g.1]; exact rpn_at hal_g (fun j hj => (Eq.trans (a := F268_ 353 j) (b := F246_ 353 j) (by rw [q269_]; exact (fl_u_ne (by first | exact nc_ rfl | decide | omega))) (Eq.trans (a := F246_ 353 j) (b := F218_ 353 j) (s248_ 353 j (by first | exact fs_c rfl | exact (fs_n (by omega) (fs_n (by omega) rfl)))) (Eq.trans (a := F218_ 353 j) (b := F180_ 353 j) (s220_ 353 j (by first | exact fs_c rfl | exact (fs_n (by omega) (fs_n (by omega) (fs_n (by omega) (fs_n (by omega) (fs_n (by omega) rfl))))))) (Eq.trans (a := F180_ 353 j) (b := F154_ 353 j) (s182_ 353 j (by first | exact fs_c rfl | exact (fs_n (by omega) (fs_n (by omega) rfl)))) (Eq.trans (a := F154_ 353 j) (b := F131_ 353 j) (s156_ 353 j (by first | exact fs_c rfl | exact (fs_n (by omega) (fs_n (by omega) (fs_n (by omega) (fs_n (by omega) rfl)))))) (show F131_ 353 j = Fg 353 j from (by rw [q132_]; exact (fl_u_ne (by first | exact nc_ rfl | decide | omega)))))))))) (e286_) hnm⟩), (⟨by omega, by omega⟩), (fun j hj => ((show cst (F 344 21).toNat Fg F268_ from (by rw [q269_]; exact (cst_u (cst_fs (cst_tr (cst_fs (cst_fs (by rw [q132_]; exact (cst_u cst_r (by decide))) s156_ (fun _ => (by first | exact fs_c rfl | exact (fs_n (by omega) (fs_n (by omega) (fs_n (by omega) (fs_n (by omega) rfl))))))) s182_ (fun _ => (by first | exact fs_c rfl | exact (fs_n (by omega) (fs_n (by omega) rfl))))) c215_) s248_ (fun _ => (by first | exact fs_c rfl | exact (fs_n (by omega) (fs_n (by omega) rfl))))) (by decide)))).2 j (by omega)).trans (hcg.2 j hj)), (⟨(show cst (F 344 21).toNat Fg F268_ from (by rw [q269_]; exact (cst_u (cst_fs (cst_tr (cst_fs (cst_fs (by rw [q132_]; exact (cst_u cst_r (by decide))) s156_ (fun _ => (by first | exact fs_c rfl | exact (fs_n (by omega) (fs_n (by omega) (fs_n (by omega) (fs_n (by omega) rfl))))))) s182_ (fun _ => (by first | exact fs_c rfl | exact (fs_n (by omega) (fs_n (by omega) rfl))))) c215_) s248_ (fun _ => (by first | exact fs_c rfl | exact (fs_n (by omega) (fs_n (by omega) rfl))))) (by decide)))).1 hcg.1, by omega⟩), ((by rw [q269_]; exact (lfr_uo (lfr_fg (lfr_tr (lfr_fg (lfr_tr (by rw [q132_]; exact (lfr_uo hlg rfl)) c152_ (by first | omega | (simp <;> omega)) (by first | omega | (simp <;> omega))) s182_ rfl) c216_ (by first | omega | (simp <;> omega)) (by first | omega | (simp <;> omega))) s248_ rfl) rfl))), (by rw [hqd_, act_y c25_.2 (show sk K (Fg 344 5) = Fg 344 5 + 1 by rw [sk, if_pos (by omega)]) c150_ c178_ ce1_]; unfold racr; dsimp only; exact ⟨⟨(by show _ = (tl2_.length : Int); have h9_ := ct5_.1; have h8_ : F268_ 354 (F 344 21).toNat = Fg 354 (F 344 21).toNat := (Eq.trans (a := F268_ 354 (F 344 21).toNat) (b := F246_ 354 (F 344 21).toNat) (by rw [q269_]; exact (fl_u_ne (by first | exact nc_ rfl | decide | omega))) (Eq.trans (a := F246_ 354 (F 344 21).toNat) (b := F218_ 354 (F 344 21).toNat) (s248_ 354 (F 344 21).toNat (by first | exact fs_c rfl | exact (fs_n (by omega) (fs_n (by omega) rfl)))) (Eq.trans (a := F218_ 354 (F 344 21).toNat) (b := F180_ 354 (F 344 21).toNat) (s220_ 354 (F 344 21).toNat (by first | exact fs_c rfl | exact (fs_n (by omega) (fs_n (by omega) (fs_n (by omega) (fs_n (by omega) (fs_n (by omega) rfl))))))) (Eq.trans (a := F180_ 354 (F 344 21).toNat) (b := F154_ 354 (F 344 21).toNat) (s182_ 354 (F 344 21).toNat (by first | exact fs_c rfl | exact (fs_n (by omega) (fs_n (by omega) rfl)))) (Eq.trans (a := F154_ 354 (F 344 21).toNat) (b := F131_ 354 (F 344 21).toNat) (s156_ 354 (F 344 21).toNat (by first | exact fs_c rfl | exact (fs_n (by omega) (fs_n (by omega) (fs_n (by omega) (fs_n (by omega) rfl)))))) (show F131_ 354 (F 344 21).toNat = Fg 354 (F 344 21).toNat from (by rw [q132_]; exact (fl_u_ne (by first | exact nc_ rfl | decide | omega))))))))); omega), rty_cg ct4_ (fun j hj => (Eq.trans (a := F268_ 355 ((3 * F 344 21).toNat + j)) (b := F246_ 355 ((3 * F 344 21).toNat + j)) (by rw [q269_]; exact (fl_u_ne (by first | exact nc_ rfl | decide | omega))) (Eq.trans (a := F246_ 355 ((3 * F 344 21).toNat + j)) (b := F218_ 355 ((3 * F 344 21).toNat + j)) (s248_ 355 ((3 * F 344 21).toNat + j) (by first | exact fs_c rfl | exact (fs_n (by omega) (fs_n (by omega) rfl)))) (Eq.trans (a := F218_ 355 ((3 * F 344 21).toNat + j)) (b := F180_ 355 ((3 * F 344 21).toNat + j)) (s220_ 355 ((3 * F 344 21).toNat + j) (by first | exact fs_c rfl | exact (fs_n (by omega) (fs_n (by omega) (fs_n (by omega) (fs_n (by omega) (fs_n (by omega) rfl))))))) (Eq.trans (a := F180_ 355 ((3 * F 344 21).toNat + j)) (b := F154_ 355 ((3 * F 344 21).toNat + j)) (s182_ 355 ((3 * F 344 21).toNat + j) (by first | exact fs_c rfl | exact (fs_n (by omega) (fs_n (by omega) rfl)))) (Eq.trans (a := F154_ 355 ((3 * F 344 21).toNat + j)) (b := F131_ 355 ((3 * F 344 21).toNat + j)) (s156_ 355 ((3 * F 344 21).toNat + j) (by first | exact fs_c rfl | exact (fs_n (by omega) (fs_n (by omega) (fs_n (by omega) (fs_n (by omega) rfl)))))) (show F131_ 355 ((3 * F 344 21).toNat + j) = Fg 355 ((3 * F 344 21).toNat + j) from (by rw [q132_]; exact (fl_u_ne (by first | exact nc_ rfl | decide | omega))))))))))⟩, ⟨(Eq.trans ((Eq.trans (a := F268_ 358 (F 344 21).toNat) (b := F246_ 358 (F 344 21).toNat) (by rw [q269_]; exact (fl_u_ne (by first | exact nc_ rfl | decide | omega))) (Eq.trans (a := F246_ 358 (F 344 21).toNat) (b := F218_ 358 (F 344 21).toNat) (s248_ 358 (F 344 21).toNat (by first | exact fs_c rfl | exact (fs_n (by omega) (fs_n (by omega) rfl)))) (Eq.trans (a := F218_ 358 (F 344 21).toNat) (b := F180_ 358 (F 344 21).toNat) (s220_ 358 (F 344 21).toNat (by first | exact fs_c rfl | exact (fs_n (by omega) (fs_n (by omega) (fs_n (by omega) (fs_n (by omega) (fs_n (by omega) rfl))))))) (show F180_ 358 (F 344 21).toNat = F154_ 358 (F 344 21).toNat from (s182_ 358 (F 344 21).toNat (by first | exact fs_c rfl | exact (fs_n (by omega) (fs_n (by omega) rfl))))))))) c153_.2), (by rw [show 8 * (F 344 21).toNat = (8 * F 344 21).toNat by omega]; exact rcl_lfr c153_.1 (show lfr (F 344 21).toNat (8 * (F 344 21).toNat + 4) (8 * (F 344 21).toNat + 8) F154_ F268_ from (by rw [q269_]; exact (lfr_uo (lfr_fg (lfr_tr (lfr_fg lfr_r s182_ rfl) c216_ (by first | omega | (simp <;> omega)) (by first | omega | (simp <;> omega))) s248_ rfl) rfl))) (by have h9_ := c153_.2; have h8_ : 0 ≤ F154_ 358 (F 344 21).toNat ∧ F154_ 358 (F 344 21).toNat ≤ 4 := gi_g g155_ rfl; omega))⟩, ⟨(Eq.trans ((Eq.trans (a := F268_ 359 (F 344 21).toNat) (b := F246_ 359 (F 344 21).toNat) (by rw [q269_]; exact (fl_u_ne (by first | exact nc_ rfl | decide | omega))) (show F246_ 359 (F 344 21).toNat = F218_ 359 (F 344 21).toNat from (s248_ 359 (F 344 21).toNat (by first | exact fs_c rfl | exact (fs_n (by omega) (fs_n (by omega) rfl))))))) c217_.2.symm), rcl_lfr c217_.1 (show lfr (F 344 21).toNat 0 0 F218_ F268_ from (by rw [q269_]; exact (lfr_uo (lfr_fg lfr_r s248_ rfl) rfl))) (by omega)⟩, (Eq.trans ((Eq.trans (a := F268_ 357 (F 344 21).toNat) (b := F246_ 357 (F 344 21).toNat) (by rw [q269_]; exact (fl_u_ne (by first | exact nc_ rfl | decide | omega))) (show F246_ 357 (F 344 21).toNat = F218_ 357 (F 344 21).toNat from (s248_ 357 (F 344 21).toNat (by first | exact fs_c rfl | exact (fs_n (by omega) (fs_n (by omega) rfl))))))) ce3_)⟩)⟩)

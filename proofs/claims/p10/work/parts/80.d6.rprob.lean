/- CheapPlannerModel.readProblem -/
abbrev pq_184 (G : Nat → Nat → Option Nat) (F : fl_N) (X : xi_H) (K : fl_N) (nm : Int) (ts pl : List Int) (ps : List (List Int)) : Outcome → xi_H → Prop := gqv (fun A => (∃ F' : fl_N, fl_H sh_T G F' ++ X = A ∧ gi F' ∧ fs [(344, 344, 5, 5), (344, 344, 9, 10), (344, 344, 33, 33), (344, 344, 36, 36), (344, 344, 64, 64), (358, 358, 5, 5), (360, 362, 40, 43), (363, 363, 80, 87), (364, 366, 0, 100000)] F F' ∧ (¬ F' 344 9 = 0) ∧ ((F 344 9 = 0 → sp_prb K nm ts pl ps = .inl (F' 344 9, F' 344 10)) ∧ (¬ F 344 9 = 0 → F' 344 9 = F 344 9 ∧ F' 344 10 = F 344 10)) ∧ (0 ≤ F' 344 5 ∧ F' 344 5 ≤ K 1 6 - 1)) ∨ (∃ F' : fl_N, fl_H sh_T G F' ++ X = A ∧ gi F' ∧ fs [(344, 344, 5, 5), (344, 344, 9, 10), (344, 344, 33, 33), (344, 344, 36, 36), (344, 344, 64, 64), (358, 358, 5, 5), (360, 362, 40, 43), (363, 363, 80, 87), (364, 366, 0, 100000)] F F' ∧ (F' 344 9 = 0 ∧ F 344 9 = 0) ∧ (∃ l tl, sp_prb K nm ts pl ps = .inr (l, tl) ∧ trm F' 5 2 l tl ∧ F' 344 36 = (nfc ps tl 216 : Int) ∧ fnr F' 366 ps tl 216 ∧ rcl F' 40 (prb_g K nm ts pl ps) ∧ F' 358 5 = ((prb_g K nm ts pl ps).length : Int) ∧ (F' 344 36 ≤ 40 → F' 344 64 = msk (F' 366) (fun j : Nat => (j : Int)) 0 (prb_i K nm ts pl ps))) ∧ (0 ≤ F' 344 5 ∧ F' 344 5 ≤ K 1 6 - 1))) gqn
set_option maxHeartbeats 16000000 in
theorem mb_184_210 {G : Nat → Nat → Option Nat} (hG : gg G) (F : fl_N) (X : xi_H) (hgi : gi F) (K : fl_N) (nm : Int) (ts pl : List Int) (ps : List (List Int)) (hgK : gi K) (hrk : rk K F) (hkt : rkt K) (hp : 0 ≤ F 344 5 ∧ F 344 5 ≤ K 1 6 - 1) (h0 : F 344 9 = 0) (h5 : F 344 5 = 0) (hnm : nrel nm (F 344 14)) (hts : rpn (F 349) (F 344 15) ts) (hpl : rpn (F 350) (F 344 17) pl) (hps : rprd F ps ∧ ps.length = pl.length) (h33 : F 344 33 = 0) (fr lo : Nat) (hfr : 7 ≤ fr) (hlo : 165 ≤ lo) (Fb : fl_N) (hg_Fb : gi Fb) (hf_Fb : fs [(344, 344, 5, 5), (344, 344, 9, 10), (344, 344, 33, 33), (344, 344, 36, 36), (344, 344, 64, 64), (358, 358, 5, 5), (360, 362, 40, 43), (363, 363, 80, 87), (364, 366, 0, 100000)] F Fb) (hrk_b : rk K Fb) (hbd : ¬ Fb 344 9 = 0) (hp_b : 0 ≤ Fb 344 5 ∧ Fb 344 5 ≤ K 1 6 - 1) (hb : (F 344 9 = 0 → sp_prb K nm ts pl ps = .inl (Fb 344 9, Fb 344 10)) ∧ (¬ F 344 9 = 0 → Fb 344 9 = F 344 9 ∧ Fb 344 10 = F 344 10)) (htb : ∃ l tl, trm Fb 5 2 l tl ∧ l.length = tl.length) : fl_R xi_ms 184 fr lo 210 [(0, .ref 344)] [] (fl_H sh_T G Fb ++ X) (pq_184 G F X K nm ts pl ps) := by
  have hP := (rkt_p hkt hp.1 hp.2 hgK).1
  have hK16 : 0 ≤ K 1 6 ∧ K 1 6 ≤ 601 := gi_g hgK rfl
  have hko := hkt.1
  obtain ⟨lb_, tlb_, htb1_, htb2_⟩ := htb
  refine ga_aload_n (v := .ref 344) hm_184 rfl rfl rfl ?_
  refine gIi (nY := 1) (F := 0) (L := 0) (As := []) (b := 344) (rest := []) hm_184 rfl hm_59 rfl rfl (fl_ob sc_344) rfl rfl rfl rfl rfl (by omega) (by omega) ?_
  intro f21_ l22_ h23_ h24_
  show fl_R xi_ms 59 f21_ l22_ 0 [(0, .ref 344)] [] _ _
  refine ga_aload_n (v := .ref 344) hm_59 rfl rfl rfl ?_
  have b25_ : 0 ≤ Fb 344 9 ∧ Fb 344 9 ≤ 5 := gi_g hg_Fb rfl
  refine ga_geti (z := Fb 344 9) hm_59 rfl sc_344 rfl (rfl) ?_
  refine fl_if_le (a := Fb 344 9) hm_59 rfl ⟨by omega, by omega⟩ (fun h26_ => ?_) (fun h27_ => ?_)
  · exfalso; omega
  refine fl_iconst hm_59 rfl ?_
  refine fl_goto hm_59 rfl ?_
  refine gr_i hm_59 rfl rfl (ga_nb (by omega)) ?_
  clear h23_ h24_ f21_ l22_
  refine fl_if_ne hm_184 rfl ⟨by omega, by omega⟩ (fun _ => ?_) (fun h => absurd (by omega) h)
  refine gr_v hm_184 rfl rfl ?_
  have b28_ : 0 ≤ Fb 344 10 ∧ Fb 344 10 ≤ 600 := gi_g hg_Fb rfl
  have b29_ : 0 ≤ F 344 10 ∧ F 344 10 ≤ 600 := gi_g hgi rfl
  have b30_ : 0 ≤ F 344 9 ∧ F 344 9 ≤ 5 := gi_g hgi rfl
  have b31_ : 0 ≤ Fb 344 5 ∧ Fb 344 5 ≤ 600 := gi_g hg_Fb rfl
  exact Or.inl ⟨Fb, rfl, hg_Fb, hf_Fb, (by omega), (hb), (⟨by omega, by omega⟩)⟩
set_option maxHeartbeats 16000000 in
theorem mb_184_204 {G : Nat → Nat → Option Nat} (hG : gg G) (F : fl_N) (X : xi_H) (hgi : gi F) (K : fl_N) (nm : Int) (ts pl : List Int) (ps : List (List Int)) (hgK : gi K) (hrk : rk K F) (hkt : rkt K) (hp : 0 ≤ F 344 5 ∧ F 344 5 ≤ K 1 6 - 1) (h0 : F 344 9 = 0) (h5 : F 344 5 = 0) (hnm : nrel nm (F 344 14)) (hts : rpn (F 349) (F 344 15) ts) (hpl : rpn (F 350) (F 344 17) pl) (hps : rprd F ps ∧ ps.length = pl.length) (h33 : F 344 33 = 0) (fr lo : Nat) (hfr : 7 ≤ fr) (hlo : 165 ≤ lo) (Fb : fl_N) (hg_Fb : gi Fb) (hf_Fb : fs [(344, 344, 5, 5), (344, 344, 9, 10), (344, 344, 33, 33), (344, 344, 36, 36), (344, 344, 64, 64), (358, 358, 5, 5), (360, 362, 40, 43), (363, 363, 80, 87), (364, 366, 0, 100000)] F Fb) (hrk_b : rk K Fb) (hbd : ¬ Fb 344 9 = 0) (hp_b : 0 ≤ Fb 344 5 ∧ Fb 344 5 ≤ K 1 6 - 1) (hb : (F 344 9 = 0 → sp_prb K nm ts pl ps = .inl (Fb 344 9, Fb 344 10)) ∧ (¬ F 344 9 = 0 → Fb 344 9 = F 344 9 ∧ Fb 344 10 = F 344 10)) (htb : ∃ l tl, trm Fb 5 2 l tl ∧ l.length = tl.length) : fl_R xi_ms 184 fr lo 204 [(0, .ref 344)] [] (fl_H sh_T G Fb ++ X) (pq_184 G F X K nm ts pl ps) := by
  have hP := (rkt_p hkt hp.1 hp.2 hgK).1
  have hK16 : 0 ≤ K 1 6 ∧ K 1 6 ≤ 601 := gi_g hgK rfl
  have hko := hkt.1
  obtain ⟨lb_, tlb_, htb1_, htb2_⟩ := htb
  refine ga_aload_n (v := .ref 344) hm_184 rfl rfl rfl ?_
  refine fl_bipush hm_184 rfl rfl ?_
  have b21_ : 0 ≤ Fb 344 5 ∧ Fb 344 5 ≤ 600 := gi_g hg_Fb rfl
  refine gVv (nY := 2) (F := 2) (L := 41) (As := [.int (Int32.ofInt 41)]) (b := 344) (rest := []) hm_184 rfl hm_51 rfl rfl (fl_ob sc_344) rfl rfl rfl rfl rfl (by omega) (by omega) (mc_51 hG Fb X hg_Fb (K) (41) (1) hgK hrk_b hkt (⟨by omega, by omega⟩) (by omega) (by omega)) (fun _ _ h => False.elim h) ?_
  have b23_ : 0 ≤ Fb 344 10 ∧ Fb 344 10 ≤ 600 := gi_g hg_Fb rfl
  have b24_ : 0 ≤ Fb 344 9 ∧ Fb 344 9 ≤ 5 := gi_g hg_Fb rfl
  rintro A1_ (⟨F28_, hA_, g29_, s30_, c25_, c26_, c27_⟩ | ⟨F34_, hA_, g35_, s36_, c31_, c32_, c33_⟩)
  ·
    subst hA_
    have g37_ : fs [(344, 344, 5, 5), (344, 344, 9, 10), (344, 344, 33, 33), (344, 344, 36, 36), (344, 344, 64, 64), (358, 358, 5, 5), (360, 362, 40, 43), (363, 363, 80, 87), (364, 366, 0, 100000)] F F28_ := fs_tr hf_Fb s30_ rfl
    have rk38_ : rk K F28_ := rk_fs hrk_b s30_ (fs_rg rfl) rfl
    have c26_k := c26_.2 (by omega)
    clear c26_
    have b39_ : 0 ≤ F28_ 344 9 ∧ F28_ 344 9 ≤ 5 := gi_g g29_ rfl
    have b40_ : 0 ≤ F28_ 344 10 ∧ F28_ 344 10 ≤ 600 := gi_g g29_ rfl
    have b41_ : 0 ≤ F28_ 344 5 ∧ F28_ 344 5 ≤ 600 := gi_g g29_ rfl
    have e42_ : Fb 5 2 = F 5 2 := (hf_Fb 5 2 rfl).trans (rfl)
    have e43_ : F28_ 5 2 = F 5 2 := (s30_ 5 2 rfl).trans (e42_)
    have b44_ : 0 ≤ F 5 2 ∧ F 5 2 ≤ 600 := gi_g hgi rfl
    exact mb_184_210 hG F X hgi K nm ts pl ps hgK hrk hkt hp h0 h5 hnm hts hpl hps h33 fr lo hfr hlo F28_ g29_ g37_ rk38_ (by omega) (⟨by omega, by omega⟩) (⟨fun h0_ => by rw [show F28_ 344 9 = Fb 344 9 by omega, show F28_ 344 10 = Fb 344 10 by omega]; exact hb.1 h0_, fun h0_ => by have h1_ := hb.2 h0_; omega⟩) (⟨lb_, tlb_, (trm_fs htb1_ s30_ (by first | exact fs_rg rfl | exact fun r j hj => (fs_n (by omega) (fs_n (by omega) rfl)))), htb2_⟩)
  exfalso; omega
set_option maxHeartbeats 16000000 in
theorem mb_184_198 {G : Nat → Nat → Option Nat} (hG : gg G) (F : fl_N) (X : xi_H) (hgi : gi F) (K : fl_N) (nm : Int) (ts pl : List Int) (ps : List (List Int)) (hgK : gi K) (hrk : rk K F) (hkt : rkt K) (hp : 0 ≤ F 344 5 ∧ F 344 5 ≤ K 1 6 - 1) (h0 : F 344 9 = 0) (h5 : F 344 5 = 0) (hnm : nrel nm (F 344 14)) (hts : rpn (F 349) (F 344 15) ts) (hpl : rpn (F 350) (F 344 17) pl) (hps : rprd F ps ∧ ps.length = pl.length) (h33 : F 344 33 = 0) (fr lo : Nat) (hfr : 7 ≤ fr) (hlo : 165 ≤ lo) (Fb : fl_N) (hg_Fb : gi Fb) (hf_Fb : fs [(344, 344, 5, 5), (344, 344, 9, 10), (344, 344, 33, 33), (344, 344, 36, 36), (344, 344, 64, 64), (358, 358, 5, 5), (360, 362, 40, 43), (363, 363, 80, 87), (364, 366, 0, 100000)] F Fb) (hrk_b : rk K Fb) (hbd : ¬ Fb 344 9 = 0) (hp_b : 0 ≤ Fb 344 5 ∧ Fb 344 5 ≤ K 1 6 - 1) (hb : (F 344 9 = 0 → sp_prb K nm ts pl ps = .inl (Fb 344 9, Fb 344 10)) ∧ (¬ F 344 9 = 0 → Fb 344 9 = F 344 9 ∧ Fb 344 10 = F 344 10)) (htb : ∃ l tl, trm Fb 5 2 l tl ∧ l.length = tl.length) : fl_R xi_ms 184 fr lo 198 [(0, .ref 344)] [] (fl_H sh_T G Fb ++ X) (pq_184 G F X K nm ts pl ps) := by
  have hP := (rkt_p hkt hp.1 hp.2 hgK).1
  have hK16 : 0 ≤ K 1 6 ∧ K 1 6 ≤ 601 := gi_g hgK rfl
  have hko := hkt.1
  obtain ⟨lb_, tlb_, htb1_, htb2_⟩ := htb
  refine ga_aload_n (v := .ref 344) hm_184 rfl rfl rfl ?_
  refine fl_bipush hm_184 rfl rfl ?_
  have b21_ : 0 ≤ Fb 344 5 ∧ Fb 344 5 ≤ 600 := gi_g hg_Fb rfl
  refine gVv (nY := 2) (F := 2) (L := 41) (As := [.int (Int32.ofInt 41)]) (b := 344) (rest := []) hm_184 rfl hm_51 rfl rfl (fl_ob sc_344) rfl rfl rfl rfl rfl (by omega) (by omega) (mc_51 hG Fb X hg_Fb (K) (41) (1) hgK hrk_b hkt (⟨by omega, by omega⟩) (by omega) (by omega)) (fun _ _ h => False.elim h) ?_
  have b23_ : 0 ≤ Fb 344 10 ∧ Fb 344 10 ≤ 600 := gi_g hg_Fb rfl
  have b24_ : 0 ≤ Fb 344 9 ∧ Fb 344 9 ≤ 5 := gi_g hg_Fb rfl
  rintro A1_ (⟨F28_, hA_, g29_, s30_, c25_, c26_, c27_⟩ | ⟨F34_, hA_, g35_, s36_, c31_, c32_, c33_⟩)
  ·
    subst hA_
    have g37_ : fs [(344, 344, 5, 5), (344, 344, 9, 10), (344, 344, 33, 33), (344, 344, 36, 36), (344, 344, 64, 64), (358, 358, 5, 5), (360, 362, 40, 43), (363, 363, 80, 87), (364, 366, 0, 100000)] F F28_ := fs_tr hf_Fb s30_ rfl
    have rk38_ : rk K F28_ := rk_fs hrk_b s30_ (fs_rg rfl) rfl
    have c26_k := c26_.2 (by omega)
    clear c26_
    have b39_ : 0 ≤ F28_ 344 9 ∧ F28_ 344 9 ≤ 5 := gi_g g29_ rfl
    have b40_ : 0 ≤ F28_ 344 10 ∧ F28_ 344 10 ≤ 600 := gi_g g29_ rfl
    have b41_ : 0 ≤ F28_ 344 5 ∧ F28_ 344 5 ≤ 600 := gi_g g29_ rfl
    have e42_ : Fb 5 2 = F 5 2 := (hf_Fb 5 2 rfl).trans (rfl)
    have e43_ : F28_ 5 2 = F 5 2 := (s30_ 5 2 rfl).trans (e42_)
    have b44_ : 0 ≤ F 5 2 ∧ F 5 2 ≤ 600 := gi_g hgi rfl
    exact mb_184_204 hG F X hgi K nm ts pl ps hgK hrk hkt hp h0 h5 hnm hts hpl hps h33 fr lo hfr hlo F28_ g29_ g37_ rk38_ (by omega) (⟨by omega, by omega⟩) (⟨fun h0_ => by rw [show F28_ 344 9 = Fb 344 9 by omega, show F28_ 344 10 = Fb 344 10 by omega]; exact hb.1 h0_, fun h0_ => by have h1_ := hb.2 h0_; omega⟩) (⟨lb_, tlb_, (trm_fs htb1_ s30_ (by first | exact fs_rg rfl | exact fun r j hj => (fs_n (by omega) (fs_n (by omega) rfl)))), htb2_⟩)
  exfalso; omega
set_option maxHeartbeats 16000000 in
theorem mb_184_184 {G : Nat → Nat → Option Nat} (hG : gg G) (F : fl_N) (X : xi_H) (hgi : gi F) (K : fl_N) (nm : Int) (ts pl : List Int) (ps : List (List Int)) (hgK : gi K) (hrk : rk K F) (hkt : rkt K) (hp : 0 ≤ F 344 5 ∧ F 344 5 ≤ K 1 6 - 1) (h0 : F 344 9 = 0) (h5 : F 344 5 = 0) (hnm : nrel nm (F 344 14)) (hts : rpn (F 349) (F 344 15) ts) (hpl : rpn (F 350) (F 344 17) pl) (hps : rprd F ps ∧ ps.length = pl.length) (h33 : F 344 33 = 0) (fr lo : Nat) (hfr : 7 ≤ fr) (hlo : 165 ≤ lo) (Fb : fl_N) (hg_Fb : gi Fb) (hf_Fb : fs [(344, 344, 5, 5), (344, 344, 9, 10), (344, 344, 33, 33), (344, 344, 36, 36), (344, 344, 64, 64), (358, 358, 5, 5), (360, 362, 40, 43), (363, 363, 80, 87), (364, 366, 0, 100000)] F Fb) (hrk_b : rk K Fb) (hbd : ¬ Fb 344 9 = 0) (hp_b : 0 ≤ Fb 344 5 ∧ Fb 344 5 ≤ K 1 6 - 1) (hb : (F 344 9 = 0 → sp_prb K nm ts pl ps = .inl (Fb 344 9, Fb 344 10)) ∧ (¬ F 344 9 = 0 → Fb 344 9 = F 344 9 ∧ Fb 344 10 = F 344 10)) (htb : ∃ l tl, trm Fb 5 2 l tl ∧ l.length = tl.length) : fl_R xi_ms 184 fr lo 184 [(0, .ref 344)] [] (fl_H sh_T G Fb ++ X) (pq_184 G F X K nm ts pl ps) := by
  have hP := (rkt_p hkt hp.1 hp.2 hgK).1
  have hK16 : 0 ≤ K 1 6 ∧ K 1 6 ≤ 601 := gi_g hgK rfl
  have hko := hkt.1
  obtain ⟨lb_, tlb_, htb1_, htb2_⟩ := htb
  refine ga_aload_n (v := .ref 344) hm_184 rfl rfl rfl ?_
  refine ga_getr (b := 358) hm_184 rfl sc_344 rfl ?_
  refine fl_iconst hm_184 rfl ?_
  refine fl_iconst hm_184 rfl ?_
  refine fl_iast (z := 5) (v := 0) hm_184 rfl sc_358 (by omega) (by omega) (by omega) ?_
  refine ga_aload_n (v := .ref 344) hm_184 rfl rfl rfl ?_
  refine fl_iconst hm_184 rfl ?_
  refine fl_bipush hm_184 rfl rfl ?_
  obtain ⟨F21_, q22_⟩ : ∃ Fq_, Fq_ = (fl_u Fb 358 (5 : Int).toNat 0) := ⟨_, rfl⟩
  rw [← q22_]
  have g23_ : gi F21_ := by rw [q22_]; exact gi_u (hg_Fb) rfl (by omega) (by omega)
  have g24_ : fs [(344, 344, 5, 5), (344, 344, 9, 10), (344, 344, 33, 33), (344, 344, 36, 36), (344, 344, 64, 64), (358, 358, 5, 5), (360, 362, 40, 43), (363, 363, 80, 87), (364, 366, 0, 100000)] F F21_ := by rw [q22_]; exact fs_u (hf_Fb) rfl
  have rk25_ : rk K F21_ := by rw [q22_]; exact rk_u (hrk_b) (by first | decide | exact nc_ rfl | omega) (by first | decide | exact nc_ rfl | omega)
  have e26_ : F21_ 344 5 = Fb 344 5 := by rw [q22_]; exact fl_u_ne (by first | exact nc_ rfl | decide | omega)
  have b27_ : 0 ≤ Fb 344 5 ∧ Fb 344 5 ≤ 600 := gi_g hg_Fb rfl
  refine gVv (nY := 4) (F := 6) (L := 142) (As := [.int (Int32.ofInt 5), .int (Int32.ofInt 40)]) (b := 344) (rest := []) hm_184 rfl hm_175 rfl rfl (fl_ob sc_344) rfl rfl rfl rfl rfl (by omega) (by omega) (mc_175z hG F21_ X g23_ (K) (5) (40) (2) (lb_) (tlb_) (pl) (ps) hgK rk25_ hkt (⟨by omega, by omega⟩) ((by rw [q22_]; exact (trm_u htb1_ (by first | decide | exact nc_ rfl | omega)))) (htb2_) (by omega) ((by rw [q22_]; exact (rpn_u (rpn_fs hpl hf_Fb (fun _ => (by first | exact fs_c rfl | exact (fs_n (by omega) (fs_n (by omega) (fs_n (by omega) (fs_n (by omega) (fs_n (by omega) (fs_n (by omega) (fs_n (by omega) (fs_n (by omega) (fs_n (by omega) rfl))))))))))) (by first | exact fs_c rfl | exact (fs_n (by omega) (fs_n (by omega) (fs_n (by omega) (fs_n (by omega) (fs_n (by omega) (fs_n (by omega) (fs_n (by omega) (fs_n (by omega) (fs_n (by omega) rfl))))))))))) (by first | decide | exact nc_ rfl | omega) (by first | decide | exact nc_ rfl | omega)))) (⟨(by rw [q22_]; exact (rprd_u (rprd_fs hps.1 hf_Fb (by first | exact fs_rg rfl | exact fun r j hj => (fs_n (by omega) (fs_n (by omega) (fs_n (by omega) (fs_n (by omega) (fs_n (by omega) (fs_n (by omega) (fs_n (by omega) (fs_n (by omega) (fs_n (by omega) rfl))))))))))) (by first | decide | exact nc_ rfl | omega))), hps.2⟩) (by omega) (Or.inr (by omega)) (by rw [q22_]; exact fl_u_eq)) (fun _ _ h => False.elim h) ?_
  have e29_ : F21_ 344 10 = Fb 344 10 := by rw [q22_]; exact fl_u_ne (by first | exact nc_ rfl | decide | omega)
  have b30_ : 0 ≤ Fb 344 10 ∧ Fb 344 10 ≤ 600 := gi_g hg_Fb rfl
  have e31_ : F21_ 344 9 = Fb 344 9 := by rw [q22_]; exact fl_u_ne (by first | exact nc_ rfl | decide | omega)
  have b32_ : 0 ≤ Fb 344 9 ∧ Fb 344 9 ≤ 5 := gi_g hg_Fb rfl
  rintro A1_ (⟨F36_, hA_, g37_, s38_, c33_, c34_, c35_⟩ | ⟨F44_, hA_, g45_, s46_, c39_, c40_, c41_, c42_, c43_⟩)
  ·
    subst hA_
    have g47_ : fs [(344, 344, 5, 5), (344, 344, 9, 10), (344, 344, 33, 33), (344, 344, 36, 36), (344, 344, 64, 64), (358, 358, 5, 5), (360, 362, 40, 43), (363, 363, 80, 87), (364, 366, 0, 100000)] F F36_ := fs_tr g24_ s38_ rfl
    have rk48_ : rk K F36_ := rk_fs rk25_ s38_ (fs_rg rfl) rfl
    try simp only [e26_, e29_, e31_] at c34_
    have c34_k := c34_.2 (by omega)
    clear c34_
    have b49_ : 0 ≤ F36_ 344 9 ∧ F36_ 344 9 ≤ 5 := gi_g g37_ rfl
    have b50_ : 0 ≤ F36_ 344 10 ∧ F36_ 344 10 ≤ 600 := gi_g g37_ rfl
    have b51_ : 0 ≤ F36_ 344 5 ∧ F36_ 344 5 ≤ 600 := gi_g g37_ rfl
    have e52_ : Fb 5 2 = F 5 2 := (hf_Fb 5 2 rfl).trans (rfl)
    have e53_ : F21_ 5 2 = F 5 2 := by rw [q22_]; exact (fl_u_ne (by first | exact nc_ rfl | decide | omega)).trans (e52_)
    have e54_ : F36_ 5 2 = F 5 2 := (s38_ 5 2 rfl).trans (e53_)
    have b55_ : 0 ≤ F 5 2 ∧ F 5 2 ≤ 600 := gi_g hgi rfl
    exact mb_184_198 hG F X hgi K nm ts pl ps hgK hrk hkt hp h0 h5 hnm hts hpl hps h33 fr lo hfr hlo F36_ g37_ g47_ rk48_ (by omega) (⟨by omega, by omega⟩) (⟨fun h0_ => by rw [show F36_ 344 9 = Fb 344 9 by omega, show F36_ 344 10 = Fb 344 10 by omega]; exact hb.1 h0_, fun h0_ => by have h1_ := hb.2 h0_; omega⟩) (⟨lb_, tlb_, (trm_fs (by rw [q22_]; exact (trm_u htb1_ (by first | decide | exact nc_ rfl | omega))) s38_ (by first | exact fs_rg rfl | exact fun r j hj => (fs_n (by omega) (fs_n (by omega) (fs_n (by omega) (fs_n (by omega) (fs_n (by omega) rfl))))))), htb2_⟩)
  exfalso; omega
set_option maxHeartbeats 16000000 in
theorem mb_184_178 {G : Nat → Nat → Option Nat} (hG : gg G) (F : fl_N) (X : xi_H) (hgi : gi F) (K : fl_N) (nm : Int) (ts pl : List Int) (ps : List (List Int)) (hgK : gi K) (hrk : rk K F) (hkt : rkt K) (hp : 0 ≤ F 344 5 ∧ F 344 5 ≤ K 1 6 - 1) (h0 : F 344 9 = 0) (h5 : F 344 5 = 0) (hnm : nrel nm (F 344 14)) (hts : rpn (F 349) (F 344 15) ts) (hpl : rpn (F 350) (F 344 17) pl) (hps : rprd F ps ∧ ps.length = pl.length) (h33 : F 344 33 = 0) (fr lo : Nat) (hfr : 7 ≤ fr) (hlo : 165 ≤ lo) (Fb : fl_N) (hg_Fb : gi Fb) (hf_Fb : fs [(344, 344, 5, 5), (344, 344, 9, 10), (344, 344, 33, 33), (344, 344, 36, 36), (344, 344, 64, 64), (358, 358, 5, 5), (360, 362, 40, 43), (363, 363, 80, 87), (364, 366, 0, 100000)] F Fb) (hrk_b : rk K Fb) (hbd : ¬ Fb 344 9 = 0) (hp_b : 0 ≤ Fb 344 5 ∧ Fb 344 5 ≤ K 1 6 - 1) (hb : (F 344 9 = 0 → sp_prb K nm ts pl ps = .inl (Fb 344 9, Fb 344 10)) ∧ (¬ F 344 9 = 0 → Fb 344 9 = F 344 9 ∧ Fb 344 10 = F 344 10)) (htb : ∃ l tl, trm Fb 5 2 l tl ∧ l.length = tl.length) : fl_R xi_ms 184 fr lo 178 [(0, .ref 344)] [] (fl_H sh_T G Fb ++ X) (pq_184 G F X K nm ts pl ps) := by
  have hP := (rkt_p hkt hp.1 hp.2 hgK).1
  have hK16 : 0 ≤ K 1 6 ∧ K 1 6 ≤ 601 := gi_g hgK rfl
  have hko := hkt.1
  obtain ⟨lb_, tlb_, htb1_, htb2_⟩ := htb
  refine ga_aload_n (v := .ref 344) hm_184 rfl rfl rfl ?_
  refine fl_bipush hm_184 rfl rfl ?_
  have b21_ : 0 ≤ Fb 344 5 ∧ Fb 344 5 ≤ 600 := gi_g hg_Fb rfl
  refine gVv (nY := 2) (F := 2) (L := 44) (As := [.int (Int32.ofInt 17)]) (b := 344) (rest := []) hm_184 rfl hm_55 rfl rfl (fl_ob sc_344) rfl rfl rfl rfl rfl (by omega) (by omega) (mc_55 hG Fb X hg_Fb (K) (17) ([58, 103, 111, 97, 108]) hgK hrk_b hkt (⟨by omega, by omega⟩) (⟨by omega, by omega⟩) (by decide) (kw_17 hrk_b)) (fun _ _ h => False.elim h) ?_
  have b23_ : 0 ≤ Fb 344 10 ∧ Fb 344 10 ≤ 600 := gi_g hg_Fb rfl
  have b24_ : 0 ≤ Fb 344 9 ∧ Fb 344 9 ≤ 5 := gi_g hg_Fb rfl
  rintro A1_ (⟨F28_, hA_, g29_, s30_, c25_, c26_, c27_⟩ | ⟨F34_, hA_, g35_, s36_, c31_, c32_, c33_⟩)
  ·
    subst hA_
    have g37_ : fs [(344, 344, 5, 5), (344, 344, 9, 10), (344, 344, 33, 33), (344, 344, 36, 36), (344, 344, 64, 64), (358, 358, 5, 5), (360, 362, 40, 43), (363, 363, 80, 87), (364, 366, 0, 100000)] F F28_ := fs_tr hf_Fb s30_ rfl
    have rk38_ : rk K F28_ := rk_fs hrk_b s30_ (fs_rg rfl) rfl
    have c26_k := c26_.2 (by omega)
    clear c26_
    have b39_ : 0 ≤ F28_ 344 9 ∧ F28_ 344 9 ≤ 5 := gi_g g29_ rfl
    have b40_ : 0 ≤ F28_ 344 10 ∧ F28_ 344 10 ≤ 600 := gi_g g29_ rfl
    have b41_ : 0 ≤ F28_ 344 5 ∧ F28_ 344 5 ≤ 600 := gi_g g29_ rfl
    have e42_ : Fb 5 2 = F 5 2 := (hf_Fb 5 2 rfl).trans (rfl)
    have e43_ : F28_ 5 2 = F 5 2 := (s30_ 5 2 rfl).trans (e42_)
    have b44_ : 0 ≤ F 5 2 ∧ F 5 2 ≤ 600 := gi_g hgi rfl
    exact mb_184_184 hG F X hgi K nm ts pl ps hgK hrk hkt hp h0 h5 hnm hts hpl hps h33 fr lo hfr hlo F28_ g29_ g37_ rk38_ (by omega) (⟨by omega, by omega⟩) (⟨fun h0_ => by rw [show F28_ 344 9 = Fb 344 9 by omega, show F28_ 344 10 = Fb 344 10 by omega]; exact hb.1 h0_, fun h0_ => by have h1_ := hb.2 h0_; omega⟩) (⟨lb_, tlb_, (trm_fs htb1_ s30_ (by first | exact fs_rg rfl | exact fun r j hj => (fs_n (by omega) (fs_n (by omega) rfl)))), htb2_⟩)
  exfalso; omega
set_option maxHeartbeats 16000000 in
theorem mb_184_172 {G : Nat → Nat → Option Nat} (hG : gg G) (F : fl_N) (X : xi_H) (hgi : gi F) (K : fl_N) (nm : Int) (ts pl : List Int) (ps : List (List Int)) (hgK : gi K) (hrk : rk K F) (hkt : rkt K) (hp : 0 ≤ F 344 5 ∧ F 344 5 ≤ K 1 6 - 1) (h0 : F 344 9 = 0) (h5 : F 344 5 = 0) (hnm : nrel nm (F 344 14)) (hts : rpn (F 349) (F 344 15) ts) (hpl : rpn (F 350) (F 344 17) pl) (hps : rprd F ps ∧ ps.length = pl.length) (h33 : F 344 33 = 0) (fr lo : Nat) (hfr : 7 ≤ fr) (hlo : 165 ≤ lo) (Fb : fl_N) (hg_Fb : gi Fb) (hf_Fb : fs [(344, 344, 5, 5), (344, 344, 9, 10), (344, 344, 33, 33), (344, 344, 36, 36), (344, 344, 64, 64), (358, 358, 5, 5), (360, 362, 40, 43), (363, 363, 80, 87), (364, 366, 0, 100000)] F Fb) (hrk_b : rk K Fb) (hbd : ¬ Fb 344 9 = 0) (hp_b : 0 ≤ Fb 344 5 ∧ Fb 344 5 ≤ K 1 6 - 1) (hb : (F 344 9 = 0 → sp_prb K nm ts pl ps = .inl (Fb 344 9, Fb 344 10)) ∧ (¬ F 344 9 = 0 → Fb 344 9 = F 344 9 ∧ Fb 344 10 = F 344 10)) (htb : ∃ l tl, trm Fb 5 2 l tl ∧ l.length = tl.length) : fl_R xi_ms 184 fr lo 172 [(0, .ref 344)] [] (fl_H sh_T G Fb ++ X) (pq_184 G F X K nm ts pl ps) := by
  have hP := (rkt_p hkt hp.1 hp.2 hgK).1
  have hK16 : 0 ≤ K 1 6 ∧ K 1 6 ≤ 601 := gi_g hgK rfl
  have hko := hkt.1
  obtain ⟨lb_, tlb_, htb1_, htb2_⟩ := htb
  refine ga_aload_n (v := .ref 344) hm_184 rfl rfl rfl ?_
  refine fl_bipush hm_184 rfl rfl ?_
  have b21_ : 0 ≤ Fb 344 5 ∧ Fb 344 5 ≤ 600 := gi_g hg_Fb rfl
  refine gVv (nY := 2) (F := 2) (L := 41) (As := [.int (Int32.ofInt 40)]) (b := 344) (rest := []) hm_184 rfl hm_51 rfl rfl (fl_ob sc_344) rfl rfl rfl rfl rfl (by omega) (by omega) (mc_51 hG Fb X hg_Fb (K) (40) (0) hgK hrk_b hkt (⟨by omega, by omega⟩) (by omega) (by omega)) (fun _ _ h => False.elim h) ?_
  have b23_ : 0 ≤ Fb 344 10 ∧ Fb 344 10 ≤ 600 := gi_g hg_Fb rfl
  have b24_ : 0 ≤ Fb 344 9 ∧ Fb 344 9 ≤ 5 := gi_g hg_Fb rfl
  rintro A1_ (⟨F28_, hA_, g29_, s30_, c25_, c26_, c27_⟩ | ⟨F34_, hA_, g35_, s36_, c31_, c32_, c33_⟩)
  ·
    subst hA_
    have g37_ : fs [(344, 344, 5, 5), (344, 344, 9, 10), (344, 344, 33, 33), (344, 344, 36, 36), (344, 344, 64, 64), (358, 358, 5, 5), (360, 362, 40, 43), (363, 363, 80, 87), (364, 366, 0, 100000)] F F28_ := fs_tr hf_Fb s30_ rfl
    have rk38_ : rk K F28_ := rk_fs hrk_b s30_ (fs_rg rfl) rfl
    have c26_k := c26_.2 (by omega)
    clear c26_
    have b39_ : 0 ≤ F28_ 344 9 ∧ F28_ 344 9 ≤ 5 := gi_g g29_ rfl
    have b40_ : 0 ≤ F28_ 344 10 ∧ F28_ 344 10 ≤ 600 := gi_g g29_ rfl
    have b41_ : 0 ≤ F28_ 344 5 ∧ F28_ 344 5 ≤ 600 := gi_g g29_ rfl
    have e42_ : Fb 5 2 = F 5 2 := (hf_Fb 5 2 rfl).trans (rfl)
    have e43_ : F28_ 5 2 = F 5 2 := (s30_ 5 2 rfl).trans (e42_)
    have b44_ : 0 ≤ F 5 2 ∧ F 5 2 ≤ 600 := gi_g hgi rfl
    exact mb_184_178 hG F X hgi K nm ts pl ps hgK hrk hkt hp h0 h5 hnm hts hpl hps h33 fr lo hfr hlo F28_ g29_ g37_ rk38_ (by omega) (⟨by omega, by omega⟩) (⟨fun h0_ => by rw [show F28_ 344 9 = Fb 344 9 by omega, show F28_ 344 10 = Fb 344 10 by omega]; exact hb.1 h0_, fun h0_ => by have h1_ := hb.2 h0_; omega⟩) (⟨lb_, tlb_, (trm_fs htb1_ s30_ (by first | exact fs_rg rfl | exact fun r j hj => (fs_n (by omega) (fs_n (by omega) rfl)))), htb2_⟩)
  exfalso; omega
set_option maxHeartbeats 16000000 in
theorem mb_184_166 {G : Nat → Nat → Option Nat} (hG : gg G) (F : fl_N) (X : xi_H) (hgi : gi F) (K : fl_N) (nm : Int) (ts pl : List Int) (ps : List (List Int)) (hgK : gi K) (hrk : rk K F) (hkt : rkt K) (hp : 0 ≤ F 344 5 ∧ F 344 5 ≤ K 1 6 - 1) (h0 : F 344 9 = 0) (h5 : F 344 5 = 0) (hnm : nrel nm (F 344 14)) (hts : rpn (F 349) (F 344 15) ts) (hpl : rpn (F 350) (F 344 17) pl) (hps : rprd F ps ∧ ps.length = pl.length) (h33 : F 344 33 = 0) (fr lo : Nat) (hfr : 7 ≤ fr) (hlo : 165 ≤ lo) (Fb : fl_N) (hg_Fb : gi Fb) (hf_Fb : fs [(344, 344, 5, 5), (344, 344, 9, 10), (344, 344, 33, 33), (344, 344, 36, 36), (344, 344, 64, 64), (358, 358, 5, 5), (360, 362, 40, 43), (363, 363, 80, 87), (364, 366, 0, 100000)] F Fb) (hrk_b : rk K Fb) (hbd : ¬ Fb 344 9 = 0) (hp_b : 0 ≤ Fb 344 5 ∧ Fb 344 5 ≤ K 1 6 - 1) (hb : (F 344 9 = 0 → sp_prb K nm ts pl ps = .inl (Fb 344 9, Fb 344 10)) ∧ (¬ F 344 9 = 0 → Fb 344 9 = F 344 9 ∧ Fb 344 10 = F 344 10)) (htb : ∃ l tl, trm Fb 5 2 l tl ∧ l.length = tl.length) : fl_R xi_ms 184 fr lo 166 [(0, .ref 344)] [] (fl_H sh_T G Fb ++ X) (pq_184 G F X K nm ts pl ps) := by
  have hP := (rkt_p hkt hp.1 hp.2 hgK).1
  have hK16 : 0 ≤ K 1 6 ∧ K 1 6 ≤ 601 := gi_g hgK rfl
  have hko := hkt.1
  obtain ⟨lb_, tlb_, htb1_, htb2_⟩ := htb
  refine ga_aload_n (v := .ref 344) hm_184 rfl rfl rfl ?_
  refine fl_bipush hm_184 rfl rfl ?_
  have b21_ : 0 ≤ Fb 344 5 ∧ Fb 344 5 ≤ 600 := gi_g hg_Fb rfl
  refine gVv (nY := 2) (F := 2) (L := 41) (As := [.int (Int32.ofInt 41)]) (b := 344) (rest := []) hm_184 rfl hm_51 rfl rfl (fl_ob sc_344) rfl rfl rfl rfl rfl (by omega) (by omega) (mc_51 hG Fb X hg_Fb (K) (41) (1) hgK hrk_b hkt (⟨by omega, by omega⟩) (by omega) (by omega)) (fun _ _ h => False.elim h) ?_
  have b23_ : 0 ≤ Fb 344 10 ∧ Fb 344 10 ≤ 600 := gi_g hg_Fb rfl
  have b24_ : 0 ≤ Fb 344 9 ∧ Fb 344 9 ≤ 5 := gi_g hg_Fb rfl
  rintro A1_ (⟨F28_, hA_, g29_, s30_, c25_, c26_, c27_⟩ | ⟨F34_, hA_, g35_, s36_, c31_, c32_, c33_⟩)
  ·
    subst hA_
    have g37_ : fs [(344, 344, 5, 5), (344, 344, 9, 10), (344, 344, 33, 33), (344, 344, 36, 36), (344, 344, 64, 64), (358, 358, 5, 5), (360, 362, 40, 43), (363, 363, 80, 87), (364, 366, 0, 100000)] F F28_ := fs_tr hf_Fb s30_ rfl
    have rk38_ : rk K F28_ := rk_fs hrk_b s30_ (fs_rg rfl) rfl
    have c26_k := c26_.2 (by omega)
    clear c26_
    have b39_ : 0 ≤ F28_ 344 9 ∧ F28_ 344 9 ≤ 5 := gi_g g29_ rfl
    have b40_ : 0 ≤ F28_ 344 10 ∧ F28_ 344 10 ≤ 600 := gi_g g29_ rfl
    have b41_ : 0 ≤ F28_ 344 5 ∧ F28_ 344 5 ≤ 600 := gi_g g29_ rfl
    have e42_ : Fb 5 2 = F 5 2 := (hf_Fb 5 2 rfl).trans (rfl)
    have e43_ : F28_ 5 2 = F 5 2 := (s30_ 5 2 rfl).trans (e42_)
    have b44_ : 0 ≤ F 5 2 ∧ F 5 2 ≤ 600 := gi_g hgi rfl
    exact mb_184_172 hG F X hgi K nm ts pl ps hgK hrk hkt hp h0 h5 hnm hts hpl hps h33 fr lo hfr hlo F28_ g29_ g37_ rk38_ (by omega) (⟨by omega, by omega⟩) (⟨fun h0_ => by rw [show F28_ 344 9 = Fb 344 9 by omega, show F28_ 344 10 = Fb 344 10 by omega]; exact hb.1 h0_, fun h0_ => by have h1_ := hb.2 h0_; omega⟩) (⟨lb_, tlb_, (trm_fs htb1_ s30_ (by first | exact fs_rg rfl | exact fun r j hj => (fs_n (by omega) (fs_n (by omega) rfl)))), htb2_⟩)
  exfalso; omega
set_option maxHeartbeats 16000000 in
theorem mb_184_162 {G : Nat → Nat → Option Nat} (hG : gg G) (F : fl_N) (X : xi_H) (hgi : gi F) (K : fl_N) (nm : Int) (ts pl : List Int) (ps : List (List Int)) (hgK : gi K) (hrk : rk K F) (hkt : rkt K) (hp : 0 ≤ F 344 5 ∧ F 344 5 ≤ K 1 6 - 1) (h0 : F 344 9 = 0) (h5 : F 344 5 = 0) (hnm : nrel nm (F 344 14)) (hts : rpn (F 349) (F 344 15) ts) (hpl : rpn (F 350) (F 344 17) pl) (hps : rprd F ps ∧ ps.length = pl.length) (h33 : F 344 33 = 0) (fr lo : Nat) (hfr : 7 ≤ fr) (hlo : 165 ≤ lo) (Fb : fl_N) (hg_Fb : gi Fb) (hf_Fb : fs [(344, 344, 5, 5), (344, 344, 9, 10), (344, 344, 33, 33), (344, 344, 36, 36), (344, 344, 64, 64), (358, 358, 5, 5), (360, 362, 40, 43), (363, 363, 80, 87), (364, 366, 0, 100000)] F Fb) (hrk_b : rk K Fb) (hbd : ¬ Fb 344 9 = 0) (hp_b : 0 ≤ Fb 344 5 ∧ Fb 344 5 ≤ K 1 6 - 1) (hb : (F 344 9 = 0 → sp_prb K nm ts pl ps = .inl (Fb 344 9, Fb 344 10)) ∧ (¬ F 344 9 = 0 → Fb 344 9 = F 344 9 ∧ Fb 344 10 = F 344 10)) (htb : ∃ l tl, trm Fb 5 2 l tl ∧ l.length = tl.length) : fl_R xi_ms 184 fr lo 162 [(0, .ref 344)] [] (fl_H sh_T G Fb ++ X) (pq_184 G F X K nm ts pl ps) := by
  have hP := (rkt_p hkt hp.1 hp.2 hgK).1
  have hK16 : 0 ≤ K 1 6 ∧ K 1 6 ≤ 601 := gi_g hgK rfl
  have hko := hkt.1
  obtain ⟨lb_, tlb_, htb1_, htb2_⟩ := htb
  refine ga_aload_n (v := .ref 344) hm_184 rfl rfl rfl ?_
  have b21_ : 0 ≤ Fb 344 5 ∧ Fb 344 5 ≤ 600 := gi_g hg_Fb rfl
  refine gVv (nY := 2) (F := 5) (L := 117) (As := []) (b := 344) (rest := []) hm_184 rfl hm_178 rfl rfl (fl_ob sc_344) rfl rfl rfl rfl rfl (by omega) (by omega) (mc_178 hG Fb X hg_Fb (K) (lb_) (tlb_) (pl) (ps) hgK hrk_b hkt (⟨by omega, by omega⟩) (htb1_) (htb2_) ((rpn_fs hpl hf_Fb (fun _ => (by first | exact fs_c rfl | exact (fs_n (by omega) (fs_n (by omega) (fs_n (by omega) (fs_n (by omega) (fs_n (by omega) (fs_n (by omega) (fs_n (by omega) (fs_n (by omega) (fs_n (by omega) rfl))))))))))) (by first | exact fs_c rfl | exact (fs_n (by omega) (fs_n (by omega) (fs_n (by omega) (fs_n (by omega) (fs_n (by omega) (fs_n (by omega) (fs_n (by omega) (fs_n (by omega) (fs_n (by omega) rfl)))))))))))) (⟨(rprd_fs hps.1 hf_Fb (by first | exact fs_rg rfl | exact fun r j hj => (fs_n (by omega) (fs_n (by omega) (fs_n (by omega) (fs_n (by omega) (fs_n (by omega) (fs_n (by omega) (fs_n (by omega) (fs_n (by omega) (fs_n (by omega) rfl))))))))))), hps.2⟩)) (fun _ _ h => False.elim h) ?_
  have b23_ : 0 ≤ Fb 344 10 ∧ Fb 344 10 ≤ 600 := gi_g hg_Fb rfl
  have b24_ : 0 ≤ Fb 344 9 ∧ Fb 344 9 ≤ 5 := gi_g hg_Fb rfl
  have b25_ : 0 ≤ Fb 344 36 ∧ Fb 344 36 ≤ 216 := gi_g hg_Fb rfl
  rintro A1_ (⟨F29_, hA_, g30_, s31_, c26_, c27_, c28_⟩ | ⟨F36_, hA_, g37_, s38_, c32_, c33_, c34_, c35_⟩)
  ·
    subst hA_
    have g39_ : fs [(344, 344, 5, 5), (344, 344, 9, 10), (344, 344, 33, 33), (344, 344, 36, 36), (344, 344, 64, 64), (358, 358, 5, 5), (360, 362, 40, 43), (363, 363, 80, 87), (364, 366, 0, 100000)] F F29_ := fs_tr hf_Fb s31_ rfl
    have rk40_ : rk K F29_ := rk_fs hrk_b s31_ (fs_rg rfl) rfl
    have c27_k := c27_.2 (by omega)
    clear c27_
    have b41_ : 0 ≤ F29_ 344 9 ∧ F29_ 344 9 ≤ 5 := gi_g g30_ rfl
    have b42_ : 0 ≤ F29_ 344 10 ∧ F29_ 344 10 ≤ 600 := gi_g g30_ rfl
    have b43_ : 0 ≤ F29_ 344 5 ∧ F29_ 344 5 ≤ 600 := gi_g g30_ rfl
    have e44_ : Fb 5 2 = F 5 2 := (hf_Fb 5 2 rfl).trans (rfl)
    have e45_ : F29_ 5 2 = F 5 2 := (s31_ 5 2 rfl).trans (e44_)
    have b46_ : 0 ≤ F 5 2 ∧ F 5 2 ≤ 600 := gi_g hgi rfl
    exact mb_184_166 hG F X hgi K nm ts pl ps hgK hrk hkt hp h0 h5 hnm hts hpl hps h33 fr lo hfr hlo F29_ g30_ g39_ rk40_ (by omega) (⟨by omega, by omega⟩) (⟨fun h0_ => by rw [show F29_ 344 9 = Fb 344 9 by omega, show F29_ 344 10 = Fb 344 10 by omega]; exact hb.1 h0_, fun h0_ => by have h1_ := hb.2 h0_; omega⟩) (⟨lb_, tlb_, (trm_fs htb1_ s31_ (by first | exact fs_rg rfl | exact fun r j hj => (fs_n (by omega) (fs_n (by omega) (fs_n (by omega) (fs_n (by omega) (fs_n (by omega) rfl))))))), htb2_⟩)
  exfalso; omega
set_option maxHeartbeats 16000000 in
theorem mb_184_156 {G : Nat → Nat → Option Nat} (hG : gg G) (F : fl_N) (X : xi_H) (hgi : gi F) (K : fl_N) (nm : Int) (ts pl : List Int) (ps : List (List Int)) (hgK : gi K) (hrk : rk K F) (hkt : rkt K) (hp : 0 ≤ F 344 5 ∧ F 344 5 ≤ K 1 6 - 1) (h0 : F 344 9 = 0) (h5 : F 344 5 = 0) (hnm : nrel nm (F 344 14)) (hts : rpn (F 349) (F 344 15) ts) (hpl : rpn (F 350) (F 344 17) pl) (hps : rprd F ps ∧ ps.length = pl.length) (h33 : F 344 33 = 0) (fr lo : Nat) (hfr : 7 ≤ fr) (hlo : 165 ≤ lo) (Fb : fl_N) (hg_Fb : gi Fb) (hf_Fb : fs [(344, 344, 5, 5), (344, 344, 9, 10), (344, 344, 33, 33), (344, 344, 36, 36), (344, 344, 64, 64), (358, 358, 5, 5), (360, 362, 40, 43), (363, 363, 80, 87), (364, 366, 0, 100000)] F Fb) (hrk_b : rk K Fb) (hbd : ¬ Fb 344 9 = 0) (hp_b : 0 ≤ Fb 344 5 ∧ Fb 344 5 ≤ K 1 6 - 1) (hb : (F 344 9 = 0 → sp_prb K nm ts pl ps = .inl (Fb 344 9, Fb 344 10)) ∧ (¬ F 344 9 = 0 → Fb 344 9 = F 344 9 ∧ Fb 344 10 = F 344 10)) (htb : ∃ l tl, trm Fb 5 2 l tl ∧ l.length = tl.length) : fl_R xi_ms 184 fr lo 156 [(0, .ref 344)] [] (fl_H sh_T G Fb ++ X) (pq_184 G F X K nm ts pl ps) := by
  have hP := (rkt_p hkt hp.1 hp.2 hgK).1
  have hK16 : 0 ≤ K 1 6 ∧ K 1 6 ≤ 601 := gi_g hgK rfl
  have hko := hkt.1
  obtain ⟨lb_, tlb_, htb1_, htb2_⟩ := htb
  refine ga_aload_n (v := .ref 344) hm_184 rfl rfl rfl ?_
  refine fl_bipush hm_184 rfl rfl ?_
  have b21_ : 0 ≤ Fb 344 5 ∧ Fb 344 5 ≤ 600 := gi_g hg_Fb rfl
  refine gVv (nY := 2) (F := 2) (L := 44) (As := [.int (Int32.ofInt 16)]) (b := 344) (rest := []) hm_184 rfl hm_55 rfl rfl (fl_ob sc_344) rfl rfl rfl rfl rfl (by omega) (by omega) (mc_55 hG Fb X hg_Fb (K) (16) ([58, 105, 110, 105, 116]) hgK hrk_b hkt (⟨by omega, by omega⟩) (⟨by omega, by omega⟩) (by decide) (kw_16 hrk_b)) (fun _ _ h => False.elim h) ?_
  have b23_ : 0 ≤ Fb 344 10 ∧ Fb 344 10 ≤ 600 := gi_g hg_Fb rfl
  have b24_ : 0 ≤ Fb 344 9 ∧ Fb 344 9 ≤ 5 := gi_g hg_Fb rfl
  rintro A1_ (⟨F28_, hA_, g29_, s30_, c25_, c26_, c27_⟩ | ⟨F34_, hA_, g35_, s36_, c31_, c32_, c33_⟩)
  ·
    subst hA_
    have g37_ : fs [(344, 344, 5, 5), (344, 344, 9, 10), (344, 344, 33, 33), (344, 344, 36, 36), (344, 344, 64, 64), (358, 358, 5, 5), (360, 362, 40, 43), (363, 363, 80, 87), (364, 366, 0, 100000)] F F28_ := fs_tr hf_Fb s30_ rfl
    have rk38_ : rk K F28_ := rk_fs hrk_b s30_ (fs_rg rfl) rfl
    have c26_k := c26_.2 (by omega)
    clear c26_
    have b39_ : 0 ≤ F28_ 344 9 ∧ F28_ 344 9 ≤ 5 := gi_g g29_ rfl
    have b40_ : 0 ≤ F28_ 344 10 ∧ F28_ 344 10 ≤ 600 := gi_g g29_ rfl
    have b41_ : 0 ≤ F28_ 344 5 ∧ F28_ 344 5 ≤ 600 := gi_g g29_ rfl
    have e42_ : Fb 5 2 = F 5 2 := (hf_Fb 5 2 rfl).trans (rfl)
    have e43_ : F28_ 5 2 = F 5 2 := (s30_ 5 2 rfl).trans (e42_)
    have b44_ : 0 ≤ F 5 2 ∧ F 5 2 ≤ 600 := gi_g hgi rfl
    exact mb_184_162 hG F X hgi K nm ts pl ps hgK hrk hkt hp h0 h5 hnm hts hpl hps h33 fr lo hfr hlo F28_ g29_ g37_ rk38_ (by omega) (⟨by omega, by omega⟩) (⟨fun h0_ => by rw [show F28_ 344 9 = Fb 344 9 by omega, show F28_ 344 10 = Fb 344 10 by omega]; exact hb.1 h0_, fun h0_ => by have h1_ := hb.2 h0_; omega⟩) (⟨lb_, tlb_, (trm_fs htb1_ s30_ (by first | exact fs_rg rfl | exact fun r j hj => (fs_n (by omega) (fs_n (by omega) rfl)))), htb2_⟩)
  exfalso; omega
set_option maxHeartbeats 16000000 in
theorem mb_184_150 {G : Nat → Nat → Option Nat} (hG : gg G) (F : fl_N) (X : xi_H) (hgi : gi F) (K : fl_N) (nm : Int) (ts pl : List Int) (ps : List (List Int)) (hgK : gi K) (hrk : rk K F) (hkt : rkt K) (hp : 0 ≤ F 344 5 ∧ F 344 5 ≤ K 1 6 - 1) (h0 : F 344 9 = 0) (h5 : F 344 5 = 0) (hnm : nrel nm (F 344 14)) (hts : rpn (F 349) (F 344 15) ts) (hpl : rpn (F 350) (F 344 17) pl) (hps : rprd F ps ∧ ps.length = pl.length) (h33 : F 344 33 = 0) (fr lo : Nat) (hfr : 7 ≤ fr) (hlo : 165 ≤ lo) (Fb : fl_N) (hg_Fb : gi Fb) (hf_Fb : fs [(344, 344, 5, 5), (344, 344, 9, 10), (344, 344, 33, 33), (344, 344, 36, 36), (344, 344, 64, 64), (358, 358, 5, 5), (360, 362, 40, 43), (363, 363, 80, 87), (364, 366, 0, 100000)] F Fb) (hrk_b : rk K Fb) (hbd : ¬ Fb 344 9 = 0) (hp_b : 0 ≤ Fb 344 5 ∧ Fb 344 5 ≤ K 1 6 - 1) (hb : (F 344 9 = 0 → sp_prb K nm ts pl ps = .inl (Fb 344 9, Fb 344 10)) ∧ (¬ F 344 9 = 0 → Fb 344 9 = F 344 9 ∧ Fb 344 10 = F 344 10)) (htb : ∃ l tl, trm Fb 5 2 l tl ∧ l.length = tl.length) : fl_R xi_ms 184 fr lo 150 [(0, .ref 344)] [] (fl_H sh_T G Fb ++ X) (pq_184 G F X K nm ts pl ps) := by
  have hP := (rkt_p hkt hp.1 hp.2 hgK).1
  have hK16 : 0 ≤ K 1 6 ∧ K 1 6 ≤ 601 := gi_g hgK rfl
  have hko := hkt.1
  obtain ⟨lb_, tlb_, htb1_, htb2_⟩ := htb
  refine ga_aload_n (v := .ref 344) hm_184 rfl rfl rfl ?_
  refine fl_bipush hm_184 rfl rfl ?_
  have b21_ : 0 ≤ Fb 344 5 ∧ Fb 344 5 ≤ 600 := gi_g hg_Fb rfl
  refine gVv (nY := 2) (F := 2) (L := 41) (As := [.int (Int32.ofInt 40)]) (b := 344) (rest := []) hm_184 rfl hm_51 rfl rfl (fl_ob sc_344) rfl rfl rfl rfl rfl (by omega) (by omega) (mc_51 hG Fb X hg_Fb (K) (40) (0) hgK hrk_b hkt (⟨by omega, by omega⟩) (by omega) (by omega)) (fun _ _ h => False.elim h) ?_
  have b23_ : 0 ≤ Fb 344 10 ∧ Fb 344 10 ≤ 600 := gi_g hg_Fb rfl
  have b24_ : 0 ≤ Fb 344 9 ∧ Fb 344 9 ≤ 5 := gi_g hg_Fb rfl
  rintro A1_ (⟨F28_, hA_, g29_, s30_, c25_, c26_, c27_⟩ | ⟨F34_, hA_, g35_, s36_, c31_, c32_, c33_⟩)
  ·
    subst hA_
    have g37_ : fs [(344, 344, 5, 5), (344, 344, 9, 10), (344, 344, 33, 33), (344, 344, 36, 36), (344, 344, 64, 64), (358, 358, 5, 5), (360, 362, 40, 43), (363, 363, 80, 87), (364, 366, 0, 100000)] F F28_ := fs_tr hf_Fb s30_ rfl
    have rk38_ : rk K F28_ := rk_fs hrk_b s30_ (fs_rg rfl) rfl
    have c26_k := c26_.2 (by omega)
    clear c26_
    have b39_ : 0 ≤ F28_ 344 9 ∧ F28_ 344 9 ≤ 5 := gi_g g29_ rfl
    have b40_ : 0 ≤ F28_ 344 10 ∧ F28_ 344 10 ≤ 600 := gi_g g29_ rfl
    have b41_ : 0 ≤ F28_ 344 5 ∧ F28_ 344 5 ≤ 600 := gi_g g29_ rfl
    have e42_ : Fb 5 2 = F 5 2 := (hf_Fb 5 2 rfl).trans (rfl)
    have e43_ : F28_ 5 2 = F 5 2 := (s30_ 5 2 rfl).trans (e42_)
    have b44_ : 0 ≤ F 5 2 ∧ F 5 2 ≤ 600 := gi_g hgi rfl
    exact mb_184_156 hG F X hgi K nm ts pl ps hgK hrk hkt hp h0 h5 hnm hts hpl hps h33 fr lo hfr hlo F28_ g29_ g37_ rk38_ (by omega) (⟨by omega, by omega⟩) (⟨fun h0_ => by rw [show F28_ 344 9 = Fb 344 9 by omega, show F28_ 344 10 = Fb 344 10 by omega]; exact hb.1 h0_, fun h0_ => by have h1_ := hb.2 h0_; omega⟩) (⟨lb_, tlb_, (trm_fs htb1_ s30_ (by first | exact fs_rg rfl | exact fun r j hj => (fs_n (by omega) (fs_n (by omega) rfl)))), htb2_⟩)
  exfalso; omega
set_option maxHeartbeats 16000000 in
theorem mb_184_139 {G : Nat → Nat → Option Nat} (hG : gg G) (F : fl_N) (X : xi_H) (hgi : gi F) (K : fl_N) (nm : Int) (ts pl : List Int) (ps : List (List Int)) (hgK : gi K) (hrk : rk K F) (hkt : rkt K) (hp : 0 ≤ F 344 5 ∧ F 344 5 ≤ K 1 6 - 1) (h0 : F 344 9 = 0) (h5 : F 344 5 = 0) (hnm : nrel nm (F 344 14)) (hts : rpn (F 349) (F 344 15) ts) (hpl : rpn (F 350) (F 344 17) pl) (hps : rprd F ps ∧ ps.length = pl.length) (h33 : F 344 33 = 0) (fr lo : Nat) (hfr : 7 ≤ fr) (hlo : 165 ≤ lo) (Fb : fl_N) (hg_Fb : gi Fb) (hf_Fb : fs [(344, 344, 5, 5), (344, 344, 9, 10), (344, 344, 33, 33), (344, 344, 36, 36), (344, 344, 64, 64), (358, 358, 5, 5), (360, 362, 40, 43), (363, 363, 80, 87), (364, 366, 0, 100000)] F Fb) (hrk_b : rk K Fb) (hbd : ¬ Fb 344 9 = 0) (hp_b : 0 ≤ Fb 344 5 ∧ Fb 344 5 ≤ K 1 6 - 1) (hb : (F 344 9 = 0 → sp_prb K nm ts pl ps = .inl (Fb 344 9, Fb 344 10)) ∧ (¬ F 344 9 = 0 → Fb 344 9 = F 344 9 ∧ Fb 344 10 = F 344 10)) (htb : ∃ l tl, trm Fb 5 2 l tl ∧ l.length = tl.length) : fl_R xi_ms 184 fr lo 139 [(0, .ref 344)] [] (fl_H sh_T G Fb ++ X) (pq_184 G F X K nm ts pl ps) := by
  have hP := (rkt_p hkt hp.1 hp.2 hgK).1
  have hK16 : 0 ≤ K 1 6 ∧ K 1 6 ≤ 601 := gi_g hgK rfl
  have hko := hkt.1
  obtain ⟨lb_, tlb_, htb1_, htb2_⟩ := htb
  refine ga_aload_n (v := .ref 344) hm_184 rfl rfl rfl ?_
  refine gIi (nY := 1) (F := 0) (L := 0) (As := []) (b := 344) (rest := []) hm_184 rfl hm_59 rfl rfl (fl_ob sc_344) rfl rfl rfl rfl rfl (by omega) (by omega) ?_
  intro f21_ l22_ h23_ h24_
  show fl_R xi_ms 59 f21_ l22_ 0 [(0, .ref 344)] [] _ _
  refine ga_aload_n (v := .ref 344) hm_59 rfl rfl rfl ?_
  have b25_ : 0 ≤ Fb 344 9 ∧ Fb 344 9 ≤ 5 := gi_g hg_Fb rfl
  refine ga_geti (z := Fb 344 9) hm_59 rfl sc_344 rfl (rfl) ?_
  refine fl_if_le (a := Fb 344 9) hm_59 rfl ⟨by omega, by omega⟩ (fun h26_ => ?_) (fun h27_ => ?_)
  · exfalso; omega
  refine fl_iconst hm_59 rfl ?_
  refine fl_goto hm_59 rfl ?_
  refine gr_i hm_59 rfl rfl (ga_nb (by omega)) ?_
  clear h23_ h24_ f21_ l22_
  refine fl_if_ne hm_184 rfl ⟨by omega, by omega⟩ (fun _ => ?_) (fun h => absurd (by omega) h)
  have b28_ : 0 ≤ Fb 344 10 ∧ Fb 344 10 ≤ 600 := gi_g hg_Fb rfl
  have b29_ : 0 ≤ Fb 344 5 ∧ Fb 344 5 ≤ 600 := gi_g hg_Fb rfl
  have e30_ : Fb 5 2 = F 5 2 := (hf_Fb 5 2 rfl).trans (rfl)
  have b31_ : 0 ≤ F 5 2 ∧ F 5 2 ≤ 600 := gi_g hgi rfl
  exact mb_184_150 hG F X hgi K nm ts pl ps hgK hrk hkt hp h0 h5 hnm hts hpl hps h33 fr lo hfr hlo Fb hg_Fb hf_Fb hrk_b (by omega) (⟨by omega, by omega⟩) (hb) (⟨lb_, tlb_, htb1_, htb2_⟩)
set_option maxHeartbeats 16000000 in
theorem mb_184_98 {G : Nat → Nat → Option Nat} (hG : gg G) (F : fl_N) (X : xi_H) (hgi : gi F) (K : fl_N) (nm : Int) (ts pl : List Int) (ps : List (List Int)) (hgK : gi K) (hrk : rk K F) (hkt : rkt K) (hp : 0 ≤ F 344 5 ∧ F 344 5 ≤ K 1 6 - 1) (h0 : F 344 9 = 0) (h5 : F 344 5 = 0) (hnm : nrel nm (F 344 14)) (hts : rpn (F 349) (F 344 15) ts) (hpl : rpn (F 350) (F 344 17) pl) (hps : rprd F ps ∧ ps.length = pl.length) (h33 : F 344 33 = 0) (fr lo : Nat) (hfr : 7 ≤ fr) (hlo : 165 ≤ lo) (Fb : fl_N) (hg_Fb : gi Fb) (hf_Fb : fs [(344, 344, 5, 5), (344, 344, 9, 10), (344, 344, 33, 33), (344, 344, 36, 36), (344, 344, 64, 64), (358, 358, 5, 5), (360, 362, 40, 43), (363, 363, 80, 87), (364, 366, 0, 100000)] F Fb) (hrk_b : rk K Fb) (hbd : ¬ Fb 344 9 = 0) (hp_b : 0 ≤ Fb 344 5 ∧ Fb 344 5 ≤ K 1 6 - 1) (hb : (F 344 9 = 0 → sp_prb K nm ts pl ps = .inl (Fb 344 9, Fb 344 10)) ∧ (¬ F 344 9 = 0 → Fb 344 9 = F 344 9 ∧ Fb 344 10 = F 344 10)) (htb : ∃ l tl, trm Fb 5 2 l tl ∧ l.length = tl.length) : fl_R xi_ms 184 fr lo 98 [(0, .ref 344)] [] (fl_H sh_T G Fb ++ X) (pq_184 G F X K nm ts pl ps) := by
  have hP := (rkt_p hkt hp.1 hp.2 hgK).1
  have hK16 : 0 ≤ K 1 6 ∧ K 1 6 ≤ 601 := gi_g hgK rfl
  have hko := hkt.1
  obtain ⟨lb_, tlb_, htb1_, htb2_⟩ := htb
  refine fl_iconst hm_184 rfl ?_
  refine ga_istore_n (lv2 := [(3, .int (Int32.ofInt 1)), (0, .ref 344)]) hm_184 rfl (Nat.le_of_ble_eq_true rfl) rfl ?_
  refine ga_iload_n (z := 1) hm_184 rfl rfl ?_
  refine fl_if_eq hm_184 rfl ⟨by omega, by omega⟩ (fun h => absurd h (by omega)) (fun _ => ?_)
  refine ga_aload_n (v := .ref 344) hm_184 rfl rfl rfl ?_
  refine gIi (nY := 1) (F := 0) (L := 0) (As := []) (b := 344) (rest := []) hm_184 rfl hm_59 rfl rfl (fl_ob sc_344) rfl rfl rfl rfl rfl (by omega) (by omega) ?_
  intro f21_ l22_ h23_ h24_
  show fl_R xi_ms 59 f21_ l22_ 0 [(0, .ref 344)] [] _ _
  refine ga_aload_n (v := .ref 344) hm_59 rfl rfl rfl ?_
  have b25_ : 0 ≤ Fb 344 9 ∧ Fb 344 9 ≤ 5 := gi_g hg_Fb rfl
  refine ga_geti (z := Fb 344 9) hm_59 rfl sc_344 rfl (rfl) ?_
  refine fl_if_le (a := Fb 344 9) hm_59 rfl ⟨by omega, by omega⟩ (fun h26_ => ?_) (fun h27_ => ?_)
  · exfalso; omega
  refine fl_iconst hm_59 rfl ?_
  refine fl_goto hm_59 rfl ?_
  refine gr_i hm_59 rfl rfl (ga_nb (by omega)) ?_
  clear h23_ h24_ f21_ l22_
  refine fl_if_ne hm_184 rfl ⟨by omega, by omega⟩ (fun _ => ?_) (fun h => absurd (by omega) h)
  refine ga_aload_n (v := .ref 344) hm_184 rfl rfl rfl ?_
  refine fl_bipush hm_184 rfl rfl ?_
  have b28_ : 0 ≤ Fb 344 5 ∧ Fb 344 5 ≤ 600 := gi_g hg_Fb rfl
  refine gVv (nY := 2) (F := 2) (L := 41) (As := [.int (Int32.ofInt 41)]) (b := 344) (rest := []) hm_184 rfl hm_51 rfl rfl (fl_ob sc_344) rfl rfl rfl rfl rfl (by omega) (by omega) (mc_51 hG Fb X hg_Fb (K) (41) (1) hgK hrk_b hkt (⟨by omega, by omega⟩) (by omega) (by omega)) (fun _ _ h => False.elim h) ?_
  have b30_ : 0 ≤ Fb 344 10 ∧ Fb 344 10 ≤ 600 := gi_g hg_Fb rfl
  rintro A1_ (⟨F34_, hA_, g35_, s36_, c31_, c32_, c33_⟩ | ⟨F40_, hA_, g41_, s42_, c37_, c38_, c39_⟩)
  ·
    subst hA_
    have g43_ : fs [(344, 344, 5, 5), (344, 344, 9, 10), (344, 344, 33, 33), (344, 344, 36, 36), (344, 344, 64, 64), (358, 358, 5, 5), (360, 362, 40, 43), (363, 363, 80, 87), (364, 366, 0, 100000)] F F34_ := fs_tr hf_Fb s36_ rfl
    have rk44_ : rk K F34_ := rk_fs hrk_b s36_ (fs_rg rfl) rfl
    have c32_k := c32_.2 (by omega)
    clear c32_
    have b45_ : 0 ≤ F34_ 344 9 ∧ F34_ 344 9 ≤ 5 := gi_g g35_ rfl
    have b46_ : 0 ≤ F34_ 344 10 ∧ F34_ 344 10 ≤ 600 := gi_g g35_ rfl
    have b47_ : 0 ≤ F34_ 344 5 ∧ F34_ 344 5 ≤ 600 := gi_g g35_ rfl
    have e48_ : Fb 5 2 = F 5 2 := (hf_Fb 5 2 rfl).trans (rfl)
    have e49_ : F34_ 5 2 = F 5 2 := (s36_ 5 2 rfl).trans (e48_)
    have b50_ : 0 ≤ F 5 2 ∧ F 5 2 ≤ 600 := gi_g hgi rfl
    exact fl_R_sub (lv' := [(0, .ref 344)]) rfl rfl (mb_184_139 hG F X hgi K nm ts pl ps hgK hrk hkt hp h0 h5 hnm hts hpl hps h33 fr lo hfr hlo F34_ g35_ g43_ rk44_ (by omega) (⟨by omega, by omega⟩) (⟨fun h0_ => by rw [show F34_ 344 9 = Fb 344 9 by omega, show F34_ 344 10 = Fb 344 10 by omega]; exact hb.1 h0_, fun h0_ => by have h1_ := hb.2 h0_; omega⟩) (⟨lb_, tlb_, (trm_fs htb1_ s36_ (by first | exact fs_rg rfl | exact fun r j hj => (fs_n (by omega) (fs_n (by omega) rfl)))), htb2_⟩))
  exfalso; omega
set_option maxHeartbeats 16000000 in
theorem mb_184_92 {G : Nat → Nat → Option Nat} (hG : gg G) (F : fl_N) (X : xi_H) (hgi : gi F) (K : fl_N) (nm : Int) (ts pl : List Int) (ps : List (List Int)) (hgK : gi K) (hrk : rk K F) (hkt : rkt K) (hp : 0 ≤ F 344 5 ∧ F 344 5 ≤ K 1 6 - 1) (h0 : F 344 9 = 0) (h5 : F 344 5 = 0) (hnm : nrel nm (F 344 14)) (hts : rpn (F 349) (F 344 15) ts) (hpl : rpn (F 350) (F 344 17) pl) (hps : rprd F ps ∧ ps.length = pl.length) (h33 : F 344 33 = 0) (fr lo : Nat) (hfr : 7 ≤ fr) (hlo : 165 ≤ lo) (Fb : fl_N) (hg_Fb : gi Fb) (hf_Fb : fs [(344, 344, 5, 5), (344, 344, 9, 10), (344, 344, 33, 33), (344, 344, 36, 36), (344, 344, 64, 64), (358, 358, 5, 5), (360, 362, 40, 43), (363, 363, 80, 87), (364, 366, 0, 100000)] F Fb) (hrk_b : rk K Fb) (hbd : ¬ Fb 344 9 = 0) (hp_b : 0 ≤ Fb 344 5 ∧ Fb 344 5 ≤ K 1 6 - 1) (hb : (F 344 9 = 0 → sp_prb K nm ts pl ps = .inl (Fb 344 9, Fb 344 10)) ∧ (¬ F 344 9 = 0 → Fb 344 9 = F 344 9 ∧ Fb 344 10 = F 344 10)) (htb : ∃ l tl, trm Fb 5 2 l tl ∧ l.length = tl.length) : fl_R xi_ms 184 fr lo 92 [(0, .ref 344)] [] (fl_H sh_T G Fb ++ X) (pq_184 G F X K nm ts pl ps) := by
  have hP := (rkt_p hkt hp.1 hp.2 hgK).1
  have hK16 : 0 ≤ K 1 6 ∧ K 1 6 ≤ 601 := gi_g hgK rfl
  have hko := hkt.1
  obtain ⟨lb_, tlb_, htb1_, htb2_⟩ := htb
  refine ga_aload_n (v := .ref 344) hm_184 rfl rfl rfl ?_
  refine fl_bipush hm_184 rfl rfl ?_
  have b21_ : 0 ≤ Fb 344 5 ∧ Fb 344 5 ≤ 600 := gi_g hg_Fb rfl
  refine gVv (nY := 2) (F := 2) (L := 44) (As := [.int (Int32.ofInt 15)]) (b := 344) (rest := []) hm_184 rfl hm_55 rfl rfl (fl_ob sc_344) rfl rfl rfl rfl rfl (by omega) (by omega) (mc_55 hG Fb X hg_Fb (K) (15) ([58, 111, 98, 106, 101, 99, 116, 115]) hgK hrk_b hkt (⟨by omega, by omega⟩) (⟨by omega, by omega⟩) (by decide) (kw_15 hrk_b)) (fun _ _ h => False.elim h) ?_
  have b23_ : 0 ≤ Fb 344 10 ∧ Fb 344 10 ≤ 600 := gi_g hg_Fb rfl
  have b24_ : 0 ≤ Fb 344 9 ∧ Fb 344 9 ≤ 5 := gi_g hg_Fb rfl
  rintro A1_ (⟨F28_, hA_, g29_, s30_, c25_, c26_, c27_⟩ | ⟨F34_, hA_, g35_, s36_, c31_, c32_, c33_⟩)
  ·
    subst hA_
    have g37_ : fs [(344, 344, 5, 5), (344, 344, 9, 10), (344, 344, 33, 33), (344, 344, 36, 36), (344, 344, 64, 64), (358, 358, 5, 5), (360, 362, 40, 43), (363, 363, 80, 87), (364, 366, 0, 100000)] F F28_ := fs_tr hf_Fb s30_ rfl
    have rk38_ : rk K F28_ := rk_fs hrk_b s30_ (fs_rg rfl) rfl
    have c26_k := c26_.2 (by omega)
    clear c26_
    have b39_ : 0 ≤ F28_ 344 9 ∧ F28_ 344 9 ≤ 5 := gi_g g29_ rfl
    have b40_ : 0 ≤ F28_ 344 10 ∧ F28_ 344 10 ≤ 600 := gi_g g29_ rfl
    have b41_ : 0 ≤ F28_ 344 5 ∧ F28_ 344 5 ≤ 600 := gi_g g29_ rfl
    have e42_ : Fb 5 2 = F 5 2 := (hf_Fb 5 2 rfl).trans (rfl)
    have e43_ : F28_ 5 2 = F 5 2 := (s30_ 5 2 rfl).trans (e42_)
    have b44_ : 0 ≤ F 5 2 ∧ F 5 2 ≤ 600 := gi_g hgi rfl
    exact mb_184_98 hG F X hgi K nm ts pl ps hgK hrk hkt hp h0 h5 hnm hts hpl hps h33 fr lo hfr hlo F28_ g29_ g37_ rk38_ (by omega) (⟨by omega, by omega⟩) (⟨fun h0_ => by rw [show F28_ 344 9 = Fb 344 9 by omega, show F28_ 344 10 = Fb 344 10 by omega]; exact hb.1 h0_, fun h0_ => by have h1_ := hb.2 h0_; omega⟩) (⟨lb_, tlb_, (trm_fs htb1_ s30_ (by first | exact fs_rg rfl | exact fun r j hj => (fs_n (by omega) (fs_n (by omega) rfl)))), htb2_⟩)
  exfalso; omega
set_option maxHeartbeats 16000000 in
theorem mb_184_86 {G : Nat → Nat → Option Nat} (hG : gg G) (F : fl_N) (X : xi_H) (hgi : gi F) (K : fl_N) (nm : Int) (ts pl : List Int) (ps : List (List Int)) (hgK : gi K) (hrk : rk K F) (hkt : rkt K) (hp : 0 ≤ F 344 5 ∧ F 344 5 ≤ K 1 6 - 1) (h0 : F 344 9 = 0) (h5 : F 344 5 = 0) (hnm : nrel nm (F 344 14)) (hts : rpn (F 349) (F 344 15) ts) (hpl : rpn (F 350) (F 344 17) pl) (hps : rprd F ps ∧ ps.length = pl.length) (h33 : F 344 33 = 0) (fr lo : Nat) (hfr : 7 ≤ fr) (hlo : 165 ≤ lo) (Fb : fl_N) (hg_Fb : gi Fb) (hf_Fb : fs [(344, 344, 5, 5), (344, 344, 9, 10), (344, 344, 33, 33), (344, 344, 36, 36), (344, 344, 64, 64), (358, 358, 5, 5), (360, 362, 40, 43), (363, 363, 80, 87), (364, 366, 0, 100000)] F Fb) (hrk_b : rk K Fb) (hbd : ¬ Fb 344 9 = 0) (hp_b : 0 ≤ Fb 344 5 ∧ Fb 344 5 ≤ K 1 6 - 1) (hb : (F 344 9 = 0 → sp_prb K nm ts pl ps = .inl (Fb 344 9, Fb 344 10)) ∧ (¬ F 344 9 = 0 → Fb 344 9 = F 344 9 ∧ Fb 344 10 = F 344 10)) (htb : ∃ l tl, trm Fb 5 2 l tl ∧ l.length = tl.length) : fl_R xi_ms 184 fr lo 86 [(0, .ref 344)] [] (fl_H sh_T G Fb ++ X) (pq_184 G F X K nm ts pl ps) := by
  have hP := (rkt_p hkt hp.1 hp.2 hgK).1
  have hK16 : 0 ≤ K 1 6 ∧ K 1 6 ≤ 601 := gi_g hgK rfl
  have hko := hkt.1
  obtain ⟨lb_, tlb_, htb1_, htb2_⟩ := htb
  refine ga_aload_n (v := .ref 344) hm_184 rfl rfl rfl ?_
  refine fl_bipush hm_184 rfl rfl ?_
  have b21_ : 0 ≤ Fb 344 5 ∧ Fb 344 5 ≤ 600 := gi_g hg_Fb rfl
  refine gVv (nY := 2) (F := 2) (L := 41) (As := [.int (Int32.ofInt 40)]) (b := 344) (rest := []) hm_184 rfl hm_51 rfl rfl (fl_ob sc_344) rfl rfl rfl rfl rfl (by omega) (by omega) (mc_51 hG Fb X hg_Fb (K) (40) (0) hgK hrk_b hkt (⟨by omega, by omega⟩) (by omega) (by omega)) (fun _ _ h => False.elim h) ?_
  have b23_ : 0 ≤ Fb 344 10 ∧ Fb 344 10 ≤ 600 := gi_g hg_Fb rfl
  have b24_ : 0 ≤ Fb 344 9 ∧ Fb 344 9 ≤ 5 := gi_g hg_Fb rfl
  rintro A1_ (⟨F28_, hA_, g29_, s30_, c25_, c26_, c27_⟩ | ⟨F34_, hA_, g35_, s36_, c31_, c32_, c33_⟩)
  ·
    subst hA_
    have g37_ : fs [(344, 344, 5, 5), (344, 344, 9, 10), (344, 344, 33, 33), (344, 344, 36, 36), (344, 344, 64, 64), (358, 358, 5, 5), (360, 362, 40, 43), (363, 363, 80, 87), (364, 366, 0, 100000)] F F28_ := fs_tr hf_Fb s30_ rfl
    have rk38_ : rk K F28_ := rk_fs hrk_b s30_ (fs_rg rfl) rfl
    have c26_k := c26_.2 (by omega)
    clear c26_
    have b39_ : 0 ≤ F28_ 344 9 ∧ F28_ 344 9 ≤ 5 := gi_g g29_ rfl
    have b40_ : 0 ≤ F28_ 344 10 ∧ F28_ 344 10 ≤ 600 := gi_g g29_ rfl
    have b41_ : 0 ≤ F28_ 344 5 ∧ F28_ 344 5 ≤ 600 := gi_g g29_ rfl
    have e42_ : Fb 5 2 = F 5 2 := (hf_Fb 5 2 rfl).trans (rfl)
    have e43_ : F28_ 5 2 = F 5 2 := (s30_ 5 2 rfl).trans (e42_)
    have b44_ : 0 ≤ F 5 2 ∧ F 5 2 ≤ 600 := gi_g hgi rfl
    exact mb_184_92 hG F X hgi K nm ts pl ps hgK hrk hkt hp h0 h5 hnm hts hpl hps h33 fr lo hfr hlo F28_ g29_ g37_ rk38_ (by omega) (⟨by omega, by omega⟩) (⟨fun h0_ => by rw [show F28_ 344 9 = Fb 344 9 by omega, show F28_ 344 10 = Fb 344 10 by omega]; exact hb.1 h0_, fun h0_ => by have h1_ := hb.2 h0_; omega⟩) (⟨lb_, tlb_, (trm_fs htb1_ s30_ (by first | exact fs_rg rfl | exact fun r j hj => (fs_n (by omega) (fs_n (by omega) rfl)))), htb2_⟩)
  exfalso; omega
set_option maxHeartbeats 16000000 in
theorem mb_184_76 {G : Nat → Nat → Option Nat} (hG : gg G) (F : fl_N) (X : xi_H) (hgi : gi F) (K : fl_N) (nm : Int) (ts pl : List Int) (ps : List (List Int)) (hgK : gi K) (hrk : rk K F) (hkt : rkt K) (hp : 0 ≤ F 344 5 ∧ F 344 5 ≤ K 1 6 - 1) (h0 : F 344 9 = 0) (h5 : F 344 5 = 0) (hnm : nrel nm (F 344 14)) (hts : rpn (F 349) (F 344 15) ts) (hpl : rpn (F 350) (F 344 17) pl) (hps : rprd F ps ∧ ps.length = pl.length) (h33 : F 344 33 = 0) (fr lo : Nat) (hfr : 7 ≤ fr) (hlo : 165 ≤ lo) (Fb : fl_N) (hg_Fb : gi Fb) (hf_Fb : fs [(344, 344, 5, 5), (344, 344, 9, 10), (344, 344, 33, 33), (344, 344, 36, 36), (344, 344, 64, 64), (358, 358, 5, 5), (360, 362, 40, 43), (363, 363, 80, 87), (364, 366, 0, 100000)] F Fb) (hrk_b : rk K Fb) (hbd : ¬ Fb 344 9 = 0) (hp_b : 0 ≤ Fb 344 5 ∧ Fb 344 5 ≤ K 1 6 - 1) (hb : (F 344 9 = 0 → sp_prb K nm ts pl ps = .inl (Fb 344 9, Fb 344 10)) ∧ (¬ F 344 9 = 0 → Fb 344 9 = F 344 9 ∧ Fb 344 10 = F 344 10)) (htb : ∃ l tl, trm Fb 5 2 l tl ∧ l.length = tl.length) : fl_R xi_ms 184 fr lo 76 [(0, .ref 344)] [] (fl_H sh_T G Fb ++ X) (pq_184 G F X K nm ts pl ps) := by
  have hP := (rkt_p hkt hp.1 hp.2 hgK).1
  have hK16 : 0 ≤ K 1 6 ∧ K 1 6 ≤ 601 := gi_g hgK rfl
  have hko := hkt.1
  obtain ⟨lb_, tlb_, htb1_, htb2_⟩ := htb
  refine ga_aload_n (v := .ref 344) hm_184 rfl rfl rfl ?_
  refine gIv (nY := 1) (F := 1) (L := 20) (As := []) (b := 344) (rest := []) hm_184 rfl hm_61 rfl rfl (fl_ob sc_344) rfl rfl rfl rfl rfl (by omega) (by omega) ?_
  intro f21_ l22_ h23_ h24_
  show fl_R xi_ms 61 f21_ l22_ 0 [(0, .ref 344)] [] _ _
  refine ga_aload_n (v := .ref 344) hm_61 rfl rfl rfl ?_
  refine ga_dup hm_61 rfl rfl ?_
  have b25_ : 0 ≤ Fb 344 5 ∧ Fb 344 5 ≤ 600 := gi_g hg_Fb rfl
  refine ga_geti (z := Fb 344 5) hm_61 rfl sc_344 rfl (rfl) ?_
  refine ga_aload_n (v := .ref 344) hm_61 rfl rfl rfl ?_
  refine gIi (nY := 1) (F := 0) (L := 0) (As := []) (b := 344) (rest := [.int (Int32.ofInt (Fb 344 5)), .ref 344]) hm_61 rfl hm_59 rfl rfl (fl_ob sc_344) rfl rfl rfl rfl rfl (by omega) (by omega) ?_
  intro f26_ l27_ h28_ h29_
  show fl_R xi_ms 59 f26_ l27_ 0 [(0, .ref 344)] [] _ _
  refine ga_aload_n (v := .ref 344) hm_59 rfl rfl rfl ?_
  have b30_ : 0 ≤ Fb 344 9 ∧ Fb 344 9 ≤ 5 := gi_g hg_Fb rfl
  refine ga_geti (z := Fb 344 9) hm_59 rfl sc_344 rfl (rfl) ?_
  refine fl_if_le (a := Fb 344 9) hm_59 rfl ⟨by omega, by omega⟩ (fun h31_ => ?_) (fun h32_ => ?_)
  · exfalso; omega
  refine fl_iconst hm_59 rfl ?_
  refine fl_goto hm_59 rfl ?_
  refine gr_i hm_59 rfl rfl (ga_nb (by omega)) ?_
  clear h28_ h29_ f26_ l27_
  refine fl_if_eq hm_61 rfl ⟨by omega, by omega⟩ (fun h => absurd h (by omega)) (fun _ => ?_)
  refine fl_iconst hm_61 rfl ?_
  refine fl_goto hm_61 rfl ?_
  refine ga_iadd (a := Fb 344 5) (b := 0) (c := Fb 344 5) hm_61 rfl (by omega) ?_
  refine ga_puti (z := Fb 344 5) hm_61 rfl sc_344 rfl rfl ?_
  refine gr_v hm_61 rfl rfl ?_
  clear h23_ h24_ f21_ l22_
  refine ga_aload_n (v := .ref 344) hm_184 rfl rfl rfl ?_
  refine fl_bipush hm_184 rfl rfl ?_
  obtain ⟨F33_, q34_⟩ : ∃ Fq_, Fq_ = (fl_u Fb 344 5 (Fb 344 5)) := ⟨_, rfl⟩
  rw [← q34_]
  have g35_ : gi F33_ := by rw [q34_]; exact gi_u (hg_Fb) rfl (by omega) (by omega)
  have g36_ : fs [(344, 344, 5, 5), (344, 344, 9, 10), (344, 344, 33, 33), (344, 344, 36, 36), (344, 344, 64, 64), (358, 358, 5, 5), (360, 362, 40, 43), (363, 363, 80, 87), (364, 366, 0, 100000)] F F33_ := by rw [q34_]; exact fs_u (hf_Fb) rfl
  have rk37_ : rk K F33_ := by rw [q34_]; exact rk_u (hrk_b) (by first | decide | exact nc_ rfl | omega) (by first | decide | exact nc_ rfl | omega)
  have e38_ : F33_ 344 5 = Fb 344 5 := by rw [q34_]; exact fl_u_eq
  refine gVv (nY := 2) (F := 2) (L := 41) (As := [.int (Int32.ofInt 41)]) (b := 344) (rest := []) hm_184 rfl hm_51 rfl rfl (fl_ob sc_344) rfl rfl rfl rfl rfl (by omega) (by omega) (mc_51 hG F33_ X g35_ (K) (41) (1) hgK rk37_ hkt (⟨by omega, by omega⟩) (by omega) (by omega)) (fun _ _ h => False.elim h) ?_
  have e40_ : F33_ 344 10 = Fb 344 10 := by rw [q34_]; exact fl_u_ne (by first | exact nc_ rfl | decide | omega)
  have b41_ : 0 ≤ Fb 344 10 ∧ Fb 344 10 ≤ 600 := gi_g hg_Fb rfl
  have e42_ : F33_ 344 9 = Fb 344 9 := by rw [q34_]; exact fl_u_ne (by first | exact nc_ rfl | decide | omega)
  rintro A1_ (⟨F46_, hA_, g47_, s48_, c43_, c44_, c45_⟩ | ⟨F52_, hA_, g53_, s54_, c49_, c50_, c51_⟩)
  ·
    subst hA_
    have g55_ : fs [(344, 344, 5, 5), (344, 344, 9, 10), (344, 344, 33, 33), (344, 344, 36, 36), (344, 344, 64, 64), (358, 358, 5, 5), (360, 362, 40, 43), (363, 363, 80, 87), (364, 366, 0, 100000)] F F46_ := fs_tr g36_ s48_ rfl
    have rk56_ : rk K F46_ := rk_fs rk37_ s48_ (fs_rg rfl) rfl
    try simp only [e38_, e40_, e42_] at c44_
    have c44_k := c44_.2 (by omega)
    clear c44_
    have b57_ : 0 ≤ F46_ 344 9 ∧ F46_ 344 9 ≤ 5 := gi_g g47_ rfl
    have b58_ : 0 ≤ F46_ 344 10 ∧ F46_ 344 10 ≤ 600 := gi_g g47_ rfl
    have b59_ : 0 ≤ F46_ 344 5 ∧ F46_ 344 5 ≤ 600 := gi_g g47_ rfl
    have e60_ : Fb 5 2 = F 5 2 := (hf_Fb 5 2 rfl).trans (rfl)
    have e61_ : F33_ 5 2 = F 5 2 := by rw [q34_]; exact (fl_u_ne (by first | exact nc_ rfl | decide | omega)).trans (e60_)
    have e62_ : F46_ 5 2 = F 5 2 := (s48_ 5 2 rfl).trans (e61_)
    have b63_ : 0 ≤ F 5 2 ∧ F 5 2 ≤ 600 := gi_g hgi rfl
    exact mb_184_86 hG F X hgi K nm ts pl ps hgK hrk hkt hp h0 h5 hnm hts hpl hps h33 fr lo hfr hlo F46_ g47_ g55_ rk56_ (by omega) (⟨by omega, by omega⟩) (⟨fun h0_ => by rw [show F46_ 344 9 = Fb 344 9 by omega, show F46_ 344 10 = Fb 344 10 by omega]; exact hb.1 h0_, fun h0_ => by have h1_ := hb.2 h0_; omega⟩) (⟨lb_, tlb_, (trm_fs (by rw [q34_]; exact (trm_u htb1_ (by first | decide | exact nc_ rfl | omega))) s48_ (by first | exact fs_rg rfl | exact fun r j hj => (fs_n (by omega) (fs_n (by omega) rfl)))), htb2_⟩)
  exfalso; omega
set_option maxHeartbeats 16000000 in
theorem mb_184_50 {G : Nat → Nat → Option Nat} (hG : gg G) (F : fl_N) (X : xi_H) (hgi : gi F) (K : fl_N) (nm : Int) (ts pl : List Int) (ps : List (List Int)) (hgK : gi K) (hrk : rk K F) (hkt : rkt K) (hp : 0 ≤ F 344 5 ∧ F 344 5 ≤ K 1 6 - 1) (h0 : F 344 9 = 0) (h5 : F 344 5 = 0) (hnm : nrel nm (F 344 14)) (hts : rpn (F 349) (F 344 15) ts) (hpl : rpn (F 350) (F 344 17) pl) (hps : rprd F ps ∧ ps.length = pl.length) (h33 : F 344 33 = 0) (fr lo : Nat) (hfr : 7 ≤ fr) (hlo : 165 ≤ lo) (Fb : fl_N) (hg_Fb : gi Fb) (hf_Fb : fs [(344, 344, 5, 5), (344, 344, 9, 10), (344, 344, 33, 33), (344, 344, 36, 36), (344, 344, 64, 64), (358, 358, 5, 5), (360, 362, 40, 43), (363, 363, 80, 87), (364, 366, 0, 100000)] F Fb) (hrk_b : rk K Fb) (hbd : ¬ Fb 344 9 = 0) (hp_b : 0 ≤ Fb 344 5 ∧ Fb 344 5 ≤ K 1 6 - 1) (hb : (F 344 9 = 0 → sp_prb K nm ts pl ps = .inl (Fb 344 9, Fb 344 10)) ∧ (¬ F 344 9 = 0 → Fb 344 9 = F 344 9 ∧ Fb 344 10 = F 344 10)) (htb : ∃ l tl, trm Fb 5 2 l tl ∧ l.length = tl.length) : fl_R xi_ms 184 fr lo 50 [(0, .ref 344)] [] (fl_H sh_T G Fb ++ X) (pq_184 G F X K nm ts pl ps) := by
  have hP := (rkt_p hkt hp.1 hp.2 hgK).1
  have hK16 : 0 ≤ K 1 6 ∧ K 1 6 ≤ 601 := gi_g hgK rfl
  have hko := hkt.1
  obtain ⟨lb_, tlb_, htb1_, htb2_⟩ := htb
  refine ga_aload_n (v := .ref 344) hm_184 rfl rfl rfl ?_
  have b21_ : 0 ≤ Fb 344 5 ∧ Fb 344 5 ≤ 600 := gi_g hg_Fb rfl
  refine gVl (nY := 3) (F := 2) (L := 46) (As := []) (b := 344) (rest := []) hm_184 rfl hm_58 rfl rfl (fl_ob sc_344) rfl rfl rfl rfl rfl (by omega) (by omega) (mc_58 hG Fb X hg_Fb (K) hgK hrk_b hkt (⟨by omega, by omega⟩)) (fun _ _ h => False.elim h) ?_
  have b23_ : 0 ≤ Fb 344 10 ∧ Fb 344 10 ≤ 600 := gi_g hg_Fb rfl
  have b24_ : 0 ≤ Fb 344 9 ∧ Fb 344 9 ≤ 5 := gi_g hg_Fb rfl
  rintro z22_ A1_ (⟨F29_, hA_, g30_, s31_, c25_, c26_, c27_, c28_⟩ | ⟨F39_, hA_, g40_, s41_, c32_, c33_, c34_, c35_, c36_, c37_, c38_⟩)
  ·
    subst hA_
    have g42_ : fs [(344, 344, 5, 5), (344, 344, 9, 10), (344, 344, 33, 33), (344, 344, 36, 36), (344, 344, 64, 64), (358, 358, 5, 5), (360, 362, 40, 43), (363, 363, 80, 87), (364, 366, 0, 100000)] F F29_ := fs_tr hf_Fb s31_ rfl
    have rk43_ : rk K F29_ := rk_fs hrk_b s31_ (fs_rg rfl) rfl
    have c26_k := c26_.2 (by omega)
    clear c26_
    refine ga_lstore_n (lv2 := [(1, .long (Int64.ofInt z22_)), (0, .ref 344)]) hm_184 rfl (Nat.le_of_ble_eq_true rfl) rfl ?_
    refine ga_aload_n (v := .ref 344) hm_184 rfl rfl rfl ?_
    refine gIi (nY := 1) (F := 0) (L := 0) (As := []) (b := 344) (rest := []) hm_184 rfl hm_59 rfl rfl (fl_ob sc_344) rfl rfl rfl rfl rfl (by omega) (by omega) ?_
    intro f44_ l45_ h46_ h47_
    show fl_R xi_ms 59 f44_ l45_ 0 [(0, .ref 344)] [] _ _
    refine ga_aload_n (v := .ref 344) hm_59 rfl rfl rfl ?_
    have b48_ : 0 ≤ F29_ 344 9 ∧ F29_ 344 9 ≤ 5 := gi_g g30_ rfl
    refine ga_geti (z := F29_ 344 9) hm_59 rfl sc_344 rfl (rfl) ?_
    refine fl_if_le (a := F29_ 344 9) hm_59 rfl ⟨by omega, by omega⟩ (fun h49_ => ?_) (fun h50_ => ?_)
    · exfalso; omega
    refine fl_iconst hm_59 rfl ?_
    refine fl_goto hm_59 rfl ?_
    refine gr_i hm_59 rfl rfl (ga_nb (by omega)) ?_
    clear h46_ h47_ f44_ l45_
    refine fl_if_ne hm_184 rfl ⟨by omega, by omega⟩ (fun _ => ?_) (fun h => absurd (by omega) h)
    have b51_ : 0 ≤ F29_ 344 10 ∧ F29_ 344 10 ≤ 600 := gi_g g30_ rfl
    have e52_ : F29_ 344 5 = Fb 344 5 := (s31_ 344 5 rfl).trans (rfl)
    have e53_ : Fb 5 2 = F 5 2 := (hf_Fb 5 2 rfl).trans (rfl)
    have e54_ : F29_ 5 2 = F 5 2 := (s31_ 5 2 rfl).trans (e53_)
    have b55_ : 0 ≤ F 5 2 ∧ F 5 2 ≤ 600 := gi_g hgi rfl
    exact fl_R_sub (lv' := [(0, .ref 344)]) rfl rfl (mb_184_76 hG F X hgi K nm ts pl ps hgK hrk hkt hp h0 h5 hnm hts hpl hps h33 fr lo hfr hlo F29_ g30_ g42_ rk43_ (by omega) (⟨by omega, by omega⟩) (⟨fun h0_ => by rw [show F29_ 344 9 = Fb 344 9 by omega, show F29_ 344 10 = Fb 344 10 by omega]; exact hb.1 h0_, fun h0_ => by have h1_ := hb.2 h0_; omega⟩) (⟨lb_, tlb_, (trm_fs htb1_ s31_ (by first | exact fs_rg rfl | exact fun r j hj => (fs_n (by omega) rfl))), htb2_⟩))
  exfalso; omega
set_option maxHeartbeats 16000000 in
theorem mb_184_44 {G : Nat → Nat → Option Nat} (hG : gg G) (F : fl_N) (X : xi_H) (hgi : gi F) (K : fl_N) (nm : Int) (ts pl : List Int) (ps : List (List Int)) (hgK : gi K) (hrk : rk K F) (hkt : rkt K) (hp : 0 ≤ F 344 5 ∧ F 344 5 ≤ K 1 6 - 1) (h0 : F 344 9 = 0) (h5 : F 344 5 = 0) (hnm : nrel nm (F 344 14)) (hts : rpn (F 349) (F 344 15) ts) (hpl : rpn (F 350) (F 344 17) pl) (hps : rprd F ps ∧ ps.length = pl.length) (h33 : F 344 33 = 0) (fr lo : Nat) (hfr : 7 ≤ fr) (hlo : 165 ≤ lo) (Fb : fl_N) (hg_Fb : gi Fb) (hf_Fb : fs [(344, 344, 5, 5), (344, 344, 9, 10), (344, 344, 33, 33), (344, 344, 36, 36), (344, 344, 64, 64), (358, 358, 5, 5), (360, 362, 40, 43), (363, 363, 80, 87), (364, 366, 0, 100000)] F Fb) (hrk_b : rk K Fb) (hbd : ¬ Fb 344 9 = 0) (hp_b : 0 ≤ Fb 344 5 ∧ Fb 344 5 ≤ K 1 6 - 1) (hb : (F 344 9 = 0 → sp_prb K nm ts pl ps = .inl (Fb 344 9, Fb 344 10)) ∧ (¬ F 344 9 = 0 → Fb 344 9 = F 344 9 ∧ Fb 344 10 = F 344 10)) (htb : ∃ l tl, trm Fb 5 2 l tl ∧ l.length = tl.length) : fl_R xi_ms 184 fr lo 44 [(0, .ref 344)] [] (fl_H sh_T G Fb ++ X) (pq_184 G F X K nm ts pl ps) := by
  have hP := (rkt_p hkt hp.1 hp.2 hgK).1
  have hK16 : 0 ≤ K 1 6 ∧ K 1 6 ≤ 601 := gi_g hgK rfl
  have hko := hkt.1
  obtain ⟨lb_, tlb_, htb1_, htb2_⟩ := htb
  refine ga_aload_n (v := .ref 344) hm_184 rfl rfl rfl ?_
  refine fl_bipush hm_184 rfl rfl ?_
  have b21_ : 0 ≤ Fb 344 5 ∧ Fb 344 5 ≤ 600 := gi_g hg_Fb rfl
  refine gVv (nY := 2) (F := 2) (L := 44) (As := [.int (Int32.ofInt 14)]) (b := 344) (rest := []) hm_184 rfl hm_55 rfl rfl (fl_ob sc_344) rfl rfl rfl rfl rfl (by omega) (by omega) (mc_55 hG Fb X hg_Fb (K) (14) ([58, 100, 111, 109, 97, 105, 110]) hgK hrk_b hkt (⟨by omega, by omega⟩) (⟨by omega, by omega⟩) (by decide) (kw_14 hrk_b)) (fun _ _ h => False.elim h) ?_
  have b23_ : 0 ≤ Fb 344 10 ∧ Fb 344 10 ≤ 600 := gi_g hg_Fb rfl
  have b24_ : 0 ≤ Fb 344 9 ∧ Fb 344 9 ≤ 5 := gi_g hg_Fb rfl
  rintro A1_ (⟨F28_, hA_, g29_, s30_, c25_, c26_, c27_⟩ | ⟨F34_, hA_, g35_, s36_, c31_, c32_, c33_⟩)
  ·
    subst hA_
    have g37_ : fs [(344, 344, 5, 5), (344, 344, 9, 10), (344, 344, 33, 33), (344, 344, 36, 36), (344, 344, 64, 64), (358, 358, 5, 5), (360, 362, 40, 43), (363, 363, 80, 87), (364, 366, 0, 100000)] F F28_ := fs_tr hf_Fb s30_ rfl
    have rk38_ : rk K F28_ := rk_fs hrk_b s30_ (fs_rg rfl) rfl
    have c26_k := c26_.2 (by omega)
    clear c26_
    have b39_ : 0 ≤ F28_ 344 9 ∧ F28_ 344 9 ≤ 5 := gi_g g29_ rfl
    have b40_ : 0 ≤ F28_ 344 10 ∧ F28_ 344 10 ≤ 600 := gi_g g29_ rfl
    have b41_ : 0 ≤ F28_ 344 5 ∧ F28_ 344 5 ≤ 600 := gi_g g29_ rfl
    have e42_ : Fb 5 2 = F 5 2 := (hf_Fb 5 2 rfl).trans (rfl)
    have e43_ : F28_ 5 2 = F 5 2 := (s30_ 5 2 rfl).trans (e42_)
    have b44_ : 0 ≤ F 5 2 ∧ F 5 2 ≤ 600 := gi_g hgi rfl
    exact mb_184_50 hG F X hgi K nm ts pl ps hgK hrk hkt hp h0 h5 hnm hts hpl hps h33 fr lo hfr hlo F28_ g29_ g37_ rk38_ (by omega) (⟨by omega, by omega⟩) (⟨fun h0_ => by rw [show F28_ 344 9 = Fb 344 9 by omega, show F28_ 344 10 = Fb 344 10 by omega]; exact hb.1 h0_, fun h0_ => by have h1_ := hb.2 h0_; omega⟩) (⟨lb_, tlb_, (trm_fs htb1_ s30_ (by first | exact fs_rg rfl | exact fun r j hj => (fs_n (by omega) (fs_n (by omega) rfl)))), htb2_⟩)
  exfalso; omega
set_option maxHeartbeats 16000000 in
theorem mb_184_38 {G : Nat → Nat → Option Nat} (hG : gg G) (F : fl_N) (X : xi_H) (hgi : gi F) (K : fl_N) (nm : Int) (ts pl : List Int) (ps : List (List Int)) (hgK : gi K) (hrk : rk K F) (hkt : rkt K) (hp : 0 ≤ F 344 5 ∧ F 344 5 ≤ K 1 6 - 1) (h0 : F 344 9 = 0) (h5 : F 344 5 = 0) (hnm : nrel nm (F 344 14)) (hts : rpn (F 349) (F 344 15) ts) (hpl : rpn (F 350) (F 344 17) pl) (hps : rprd F ps ∧ ps.length = pl.length) (h33 : F 344 33 = 0) (fr lo : Nat) (hfr : 7 ≤ fr) (hlo : 165 ≤ lo) (Fb : fl_N) (hg_Fb : gi Fb) (hf_Fb : fs [(344, 344, 5, 5), (344, 344, 9, 10), (344, 344, 33, 33), (344, 344, 36, 36), (344, 344, 64, 64), (358, 358, 5, 5), (360, 362, 40, 43), (363, 363, 80, 87), (364, 366, 0, 100000)] F Fb) (hrk_b : rk K Fb) (hbd : ¬ Fb 344 9 = 0) (hp_b : 0 ≤ Fb 344 5 ∧ Fb 344 5 ≤ K 1 6 - 1) (hb : (F 344 9 = 0 → sp_prb K nm ts pl ps = .inl (Fb 344 9, Fb 344 10)) ∧ (¬ F 344 9 = 0 → Fb 344 9 = F 344 9 ∧ Fb 344 10 = F 344 10)) (htb : ∃ l tl, trm Fb 5 2 l tl ∧ l.length = tl.length) : fl_R xi_ms 184 fr lo 38 [(0, .ref 344)] [] (fl_H sh_T G Fb ++ X) (pq_184 G F X K nm ts pl ps) := by
  have hP := (rkt_p hkt hp.1 hp.2 hgK).1
  have hK16 : 0 ≤ K 1 6 ∧ K 1 6 ≤ 601 := gi_g hgK rfl
  have hko := hkt.1
  obtain ⟨lb_, tlb_, htb1_, htb2_⟩ := htb
  refine ga_aload_n (v := .ref 344) hm_184 rfl rfl rfl ?_
  refine fl_bipush hm_184 rfl rfl ?_
  have b21_ : 0 ≤ Fb 344 5 ∧ Fb 344 5 ≤ 600 := gi_g hg_Fb rfl
  refine gVv (nY := 2) (F := 2) (L := 41) (As := [.int (Int32.ofInt 40)]) (b := 344) (rest := []) hm_184 rfl hm_51 rfl rfl (fl_ob sc_344) rfl rfl rfl rfl rfl (by omega) (by omega) (mc_51 hG Fb X hg_Fb (K) (40) (0) hgK hrk_b hkt (⟨by omega, by omega⟩) (by omega) (by omega)) (fun _ _ h => False.elim h) ?_
  have b23_ : 0 ≤ Fb 344 10 ∧ Fb 344 10 ≤ 600 := gi_g hg_Fb rfl
  have b24_ : 0 ≤ Fb 344 9 ∧ Fb 344 9 ≤ 5 := gi_g hg_Fb rfl
  rintro A1_ (⟨F28_, hA_, g29_, s30_, c25_, c26_, c27_⟩ | ⟨F34_, hA_, g35_, s36_, c31_, c32_, c33_⟩)
  ·
    subst hA_
    have g37_ : fs [(344, 344, 5, 5), (344, 344, 9, 10), (344, 344, 33, 33), (344, 344, 36, 36), (344, 344, 64, 64), (358, 358, 5, 5), (360, 362, 40, 43), (363, 363, 80, 87), (364, 366, 0, 100000)] F F28_ := fs_tr hf_Fb s30_ rfl
    have rk38_ : rk K F28_ := rk_fs hrk_b s30_ (fs_rg rfl) rfl
    have c26_k := c26_.2 (by omega)
    clear c26_
    have b39_ : 0 ≤ F28_ 344 9 ∧ F28_ 344 9 ≤ 5 := gi_g g29_ rfl
    have b40_ : 0 ≤ F28_ 344 10 ∧ F28_ 344 10 ≤ 600 := gi_g g29_ rfl
    have b41_ : 0 ≤ F28_ 344 5 ∧ F28_ 344 5 ≤ 600 := gi_g g29_ rfl
    have e42_ : Fb 5 2 = F 5 2 := (hf_Fb 5 2 rfl).trans (rfl)
    have e43_ : F28_ 5 2 = F 5 2 := (s30_ 5 2 rfl).trans (e42_)
    have b44_ : 0 ≤ F 5 2 ∧ F 5 2 ≤ 600 := gi_g hgi rfl
    exact mb_184_44 hG F X hgi K nm ts pl ps hgK hrk hkt hp h0 h5 hnm hts hpl hps h33 fr lo hfr hlo F28_ g29_ g37_ rk38_ (by omega) (⟨by omega, by omega⟩) (⟨fun h0_ => by rw [show F28_ 344 9 = Fb 344 9 by omega, show F28_ 344 10 = Fb 344 10 by omega]; exact hb.1 h0_, fun h0_ => by have h1_ := hb.2 h0_; omega⟩) (⟨lb_, tlb_, (trm_fs htb1_ s30_ (by first | exact fs_rg rfl | exact fun r j hj => (fs_n (by omega) (fs_n (by omega) rfl)))), htb2_⟩)
  exfalso; omega
set_option maxHeartbeats 16000000 in
theorem mb_184_28 {G : Nat → Nat → Option Nat} (hG : gg G) (F : fl_N) (X : xi_H) (hgi : gi F) (K : fl_N) (nm : Int) (ts pl : List Int) (ps : List (List Int)) (hgK : gi K) (hrk : rk K F) (hkt : rkt K) (hp : 0 ≤ F 344 5 ∧ F 344 5 ≤ K 1 6 - 1) (h0 : F 344 9 = 0) (h5 : F 344 5 = 0) (hnm : nrel nm (F 344 14)) (hts : rpn (F 349) (F 344 15) ts) (hpl : rpn (F 350) (F 344 17) pl) (hps : rprd F ps ∧ ps.length = pl.length) (h33 : F 344 33 = 0) (fr lo : Nat) (hfr : 7 ≤ fr) (hlo : 165 ≤ lo) (Fb : fl_N) (hg_Fb : gi Fb) (hf_Fb : fs [(344, 344, 5, 5), (344, 344, 9, 10), (344, 344, 33, 33), (344, 344, 36, 36), (344, 344, 64, 64), (358, 358, 5, 5), (360, 362, 40, 43), (363, 363, 80, 87), (364, 366, 0, 100000)] F Fb) (hrk_b : rk K Fb) (hbd : ¬ Fb 344 9 = 0) (hp_b : 0 ≤ Fb 344 5 ∧ Fb 344 5 ≤ K 1 6 - 1) (hb : (F 344 9 = 0 → sp_prb K nm ts pl ps = .inl (Fb 344 9, Fb 344 10)) ∧ (¬ F 344 9 = 0 → Fb 344 9 = F 344 9 ∧ Fb 344 10 = F 344 10)) (htb : ∃ l tl, trm Fb 5 2 l tl ∧ l.length = tl.length) : fl_R xi_ms 184 fr lo 28 [(0, .ref 344)] [] (fl_H sh_T G Fb ++ X) (pq_184 G F X K nm ts pl ps) := by
  have hP := (rkt_p hkt hp.1 hp.2 hgK).1
  have hK16 : 0 ≤ K 1 6 ∧ K 1 6 ≤ 601 := gi_g hgK rfl
  have hko := hkt.1
  obtain ⟨lb_, tlb_, htb1_, htb2_⟩ := htb
  refine ga_aload_n (v := .ref 344) hm_184 rfl rfl rfl ?_
  refine gIv (nY := 1) (F := 1) (L := 20) (As := []) (b := 344) (rest := []) hm_184 rfl hm_61 rfl rfl (fl_ob sc_344) rfl rfl rfl rfl rfl (by omega) (by omega) ?_
  intro f21_ l22_ h23_ h24_
  show fl_R xi_ms 61 f21_ l22_ 0 [(0, .ref 344)] [] _ _
  refine ga_aload_n (v := .ref 344) hm_61 rfl rfl rfl ?_
  refine ga_dup hm_61 rfl rfl ?_
  have b25_ : 0 ≤ Fb 344 5 ∧ Fb 344 5 ≤ 600 := gi_g hg_Fb rfl
  refine ga_geti (z := Fb 344 5) hm_61 rfl sc_344 rfl (rfl) ?_
  refine ga_aload_n (v := .ref 344) hm_61 rfl rfl rfl ?_
  refine gIi (nY := 1) (F := 0) (L := 0) (As := []) (b := 344) (rest := [.int (Int32.ofInt (Fb 344 5)), .ref 344]) hm_61 rfl hm_59 rfl rfl (fl_ob sc_344) rfl rfl rfl rfl rfl (by omega) (by omega) ?_
  intro f26_ l27_ h28_ h29_
  show fl_R xi_ms 59 f26_ l27_ 0 [(0, .ref 344)] [] _ _
  refine ga_aload_n (v := .ref 344) hm_59 rfl rfl rfl ?_
  have b30_ : 0 ≤ Fb 344 9 ∧ Fb 344 9 ≤ 5 := gi_g hg_Fb rfl
  refine ga_geti (z := Fb 344 9) hm_59 rfl sc_344 rfl (rfl) ?_
  refine fl_if_le (a := Fb 344 9) hm_59 rfl ⟨by omega, by omega⟩ (fun h31_ => ?_) (fun h32_ => ?_)
  · exfalso; omega
  refine fl_iconst hm_59 rfl ?_
  refine fl_goto hm_59 rfl ?_
  refine gr_i hm_59 rfl rfl (ga_nb (by omega)) ?_
  clear h28_ h29_ f26_ l27_
  refine fl_if_eq hm_61 rfl ⟨by omega, by omega⟩ (fun h => absurd h (by omega)) (fun _ => ?_)
  refine fl_iconst hm_61 rfl ?_
  refine fl_goto hm_61 rfl ?_
  refine ga_iadd (a := Fb 344 5) (b := 0) (c := Fb 344 5) hm_61 rfl (by omega) ?_
  refine ga_puti (z := Fb 344 5) hm_61 rfl sc_344 rfl rfl ?_
  refine gr_v hm_61 rfl rfl ?_
  clear h23_ h24_ f21_ l22_
  refine ga_aload_n (v := .ref 344) hm_184 rfl rfl rfl ?_
  refine fl_bipush hm_184 rfl rfl ?_
  obtain ⟨F33_, q34_⟩ : ∃ Fq_, Fq_ = (fl_u Fb 344 5 (Fb 344 5)) := ⟨_, rfl⟩
  rw [← q34_]
  have g35_ : gi F33_ := by rw [q34_]; exact gi_u (hg_Fb) rfl (by omega) (by omega)
  have g36_ : fs [(344, 344, 5, 5), (344, 344, 9, 10), (344, 344, 33, 33), (344, 344, 36, 36), (344, 344, 64, 64), (358, 358, 5, 5), (360, 362, 40, 43), (363, 363, 80, 87), (364, 366, 0, 100000)] F F33_ := by rw [q34_]; exact fs_u (hf_Fb) rfl
  have rk37_ : rk K F33_ := by rw [q34_]; exact rk_u (hrk_b) (by first | decide | exact nc_ rfl | omega) (by first | decide | exact nc_ rfl | omega)
  have e38_ : F33_ 344 5 = Fb 344 5 := by rw [q34_]; exact fl_u_eq
  refine gVv (nY := 2) (F := 2) (L := 41) (As := [.int (Int32.ofInt 41)]) (b := 344) (rest := []) hm_184 rfl hm_51 rfl rfl (fl_ob sc_344) rfl rfl rfl rfl rfl (by omega) (by omega) (mc_51 hG F33_ X g35_ (K) (41) (1) hgK rk37_ hkt (⟨by omega, by omega⟩) (by omega) (by omega)) (fun _ _ h => False.elim h) ?_
  have e40_ : F33_ 344 10 = Fb 344 10 := by rw [q34_]; exact fl_u_ne (by first | exact nc_ rfl | decide | omega)
  have b41_ : 0 ≤ Fb 344 10 ∧ Fb 344 10 ≤ 600 := gi_g hg_Fb rfl
  have e42_ : F33_ 344 9 = Fb 344 9 := by rw [q34_]; exact fl_u_ne (by first | exact nc_ rfl | decide | omega)
  rintro A1_ (⟨F46_, hA_, g47_, s48_, c43_, c44_, c45_⟩ | ⟨F52_, hA_, g53_, s54_, c49_, c50_, c51_⟩)
  ·
    subst hA_
    have g55_ : fs [(344, 344, 5, 5), (344, 344, 9, 10), (344, 344, 33, 33), (344, 344, 36, 36), (344, 344, 64, 64), (358, 358, 5, 5), (360, 362, 40, 43), (363, 363, 80, 87), (364, 366, 0, 100000)] F F46_ := fs_tr g36_ s48_ rfl
    have rk56_ : rk K F46_ := rk_fs rk37_ s48_ (fs_rg rfl) rfl
    try simp only [e38_, e40_, e42_] at c44_
    have c44_k := c44_.2 (by omega)
    clear c44_
    have b57_ : 0 ≤ F46_ 344 9 ∧ F46_ 344 9 ≤ 5 := gi_g g47_ rfl
    have b58_ : 0 ≤ F46_ 344 10 ∧ F46_ 344 10 ≤ 600 := gi_g g47_ rfl
    have b59_ : 0 ≤ F46_ 344 5 ∧ F46_ 344 5 ≤ 600 := gi_g g47_ rfl
    have e60_ : Fb 5 2 = F 5 2 := (hf_Fb 5 2 rfl).trans (rfl)
    have e61_ : F33_ 5 2 = F 5 2 := by rw [q34_]; exact (fl_u_ne (by first | exact nc_ rfl | decide | omega)).trans (e60_)
    have e62_ : F46_ 5 2 = F 5 2 := (s48_ 5 2 rfl).trans (e61_)
    have b63_ : 0 ≤ F 5 2 ∧ F 5 2 ≤ 600 := gi_g hgi rfl
    exact mb_184_38 hG F X hgi K nm ts pl ps hgK hrk hkt hp h0 h5 hnm hts hpl hps h33 fr lo hfr hlo F46_ g47_ g55_ rk56_ (by omega) (⟨by omega, by omega⟩) (⟨fun h0_ => by rw [show F46_ 344 9 = Fb 344 9 by omega, show F46_ 344 10 = Fb 344 10 by omega]; exact hb.1 h0_, fun h0_ => by have h1_ := hb.2 h0_; omega⟩) (⟨lb_, tlb_, (trm_fs (by rw [q34_]; exact (trm_u htb1_ (by first | decide | exact nc_ rfl | omega))) s48_ (by first | exact fs_rg rfl | exact fun r j hj => (fs_n (by omega) (fs_n (by omega) rfl)))), htb2_⟩)
  exfalso; omega
set_option maxHeartbeats 16000000 in
theorem mb_184_23 {G : Nat → Nat → Option Nat} (hG : gg G) (F : fl_N) (X : xi_H) (hgi : gi F) (K : fl_N) (nm : Int) (ts pl : List Int) (ps : List (List Int)) (hgK : gi K) (hrk : rk K F) (hkt : rkt K) (hp : 0 ≤ F 344 5 ∧ F 344 5 ≤ K 1 6 - 1) (h0 : F 344 9 = 0) (h5 : F 344 5 = 0) (hnm : nrel nm (F 344 14)) (hts : rpn (F 349) (F 344 15) ts) (hpl : rpn (F 350) (F 344 17) pl) (hps : rprd F ps ∧ ps.length = pl.length) (h33 : F 344 33 = 0) (fr lo : Nat) (hfr : 7 ≤ fr) (hlo : 165 ≤ lo) (Fb : fl_N) (hg_Fb : gi Fb) (hf_Fb : fs [(344, 344, 5, 5), (344, 344, 9, 10), (344, 344, 33, 33), (344, 344, 36, 36), (344, 344, 64, 64), (358, 358, 5, 5), (360, 362, 40, 43), (363, 363, 80, 87), (364, 366, 0, 100000)] F Fb) (hrk_b : rk K Fb) (hbd : ¬ Fb 344 9 = 0) (hp_b : 0 ≤ Fb 344 5 ∧ Fb 344 5 ≤ K 1 6 - 1) (hb : (F 344 9 = 0 → sp_prb K nm ts pl ps = .inl (Fb 344 9, Fb 344 10)) ∧ (¬ F 344 9 = 0 → Fb 344 9 = F 344 9 ∧ Fb 344 10 = F 344 10)) (htb : ∃ l tl, trm Fb 5 2 l tl ∧ l.length = tl.length) : fl_R xi_ms 184 fr lo 23 [(0, .ref 344)] [] (fl_H sh_T G Fb ++ X) (pq_184 G F X K nm ts pl ps) := by
  have hP := (rkt_p hkt hp.1 hp.2 hgK).1
  have hK16 : 0 ≤ K 1 6 ∧ K 1 6 ≤ 601 := gi_g hgK rfl
  have hko := hkt.1
  obtain ⟨lb_, tlb_, htb1_, htb2_⟩ := htb
  refine ga_aload_n (v := .ref 344) hm_184 rfl rfl rfl ?_
  have b21_ : 0 ≤ Fb 344 5 ∧ Fb 344 5 ≤ 600 := gi_g hg_Fb rfl
  refine gVl (nY := 3) (F := 2) (L := 46) (As := []) (b := 344) (rest := []) hm_184 rfl hm_58 rfl rfl (fl_ob sc_344) rfl rfl rfl rfl rfl (by omega) (by omega) (mc_58 hG Fb X hg_Fb (K) hgK hrk_b hkt (⟨by omega, by omega⟩)) (fun _ _ h => False.elim h) ?_
  have b23_ : 0 ≤ Fb 344 10 ∧ Fb 344 10 ≤ 600 := gi_g hg_Fb rfl
  have b24_ : 0 ≤ Fb 344 9 ∧ Fb 344 9 ≤ 5 := gi_g hg_Fb rfl
  rintro z22_ A1_ (⟨F29_, hA_, g30_, s31_, c25_, c26_, c27_, c28_⟩ | ⟨F39_, hA_, g40_, s41_, c32_, c33_, c34_, c35_, c36_, c37_, c38_⟩)
  ·
    subst hA_
    have g42_ : fs [(344, 344, 5, 5), (344, 344, 9, 10), (344, 344, 33, 33), (344, 344, 36, 36), (344, 344, 64, 64), (358, 358, 5, 5), (360, 362, 40, 43), (363, 363, 80, 87), (364, 366, 0, 100000)] F F29_ := fs_tr hf_Fb s31_ rfl
    have rk43_ : rk K F29_ := rk_fs hrk_b s31_ (fs_rg rfl) rfl
    have c26_k := c26_.2 (by omega)
    clear c26_
    refine ga_pop2 hm_184 rfl rfl ?_
    have b44_ : 0 ≤ F29_ 344 9 ∧ F29_ 344 9 ≤ 5 := gi_g g30_ rfl
    have b45_ : 0 ≤ F29_ 344 10 ∧ F29_ 344 10 ≤ 600 := gi_g g30_ rfl
    have e46_ : F29_ 344 5 = Fb 344 5 := (s31_ 344 5 rfl).trans (rfl)
    have e47_ : Fb 5 2 = F 5 2 := (hf_Fb 5 2 rfl).trans (rfl)
    have e48_ : F29_ 5 2 = F 5 2 := (s31_ 5 2 rfl).trans (e47_)
    have b49_ : 0 ≤ F 5 2 ∧ F 5 2 ≤ 600 := gi_g hgi rfl
    exact mb_184_28 hG F X hgi K nm ts pl ps hgK hrk hkt hp h0 h5 hnm hts hpl hps h33 fr lo hfr hlo F29_ g30_ g42_ rk43_ (by omega) (⟨by omega, by omega⟩) (⟨fun h0_ => by rw [show F29_ 344 9 = Fb 344 9 by omega, show F29_ 344 10 = Fb 344 10 by omega]; exact hb.1 h0_, fun h0_ => by have h1_ := hb.2 h0_; omega⟩) (⟨lb_, tlb_, (trm_fs htb1_ s31_ (by first | exact fs_rg rfl | exact fun r j hj => (fs_n (by omega) rfl))), htb2_⟩)
  exfalso; omega
set_option maxHeartbeats 16000000 in
theorem mb_184_17 {G : Nat → Nat → Option Nat} (hG : gg G) (F : fl_N) (X : xi_H) (hgi : gi F) (K : fl_N) (nm : Int) (ts pl : List Int) (ps : List (List Int)) (hgK : gi K) (hrk : rk K F) (hkt : rkt K) (hp : 0 ≤ F 344 5 ∧ F 344 5 ≤ K 1 6 - 1) (h0 : F 344 9 = 0) (h5 : F 344 5 = 0) (hnm : nrel nm (F 344 14)) (hts : rpn (F 349) (F 344 15) ts) (hpl : rpn (F 350) (F 344 17) pl) (hps : rprd F ps ∧ ps.length = pl.length) (h33 : F 344 33 = 0) (fr lo : Nat) (hfr : 7 ≤ fr) (hlo : 165 ≤ lo) (Fb : fl_N) (hg_Fb : gi Fb) (hf_Fb : fs [(344, 344, 5, 5), (344, 344, 9, 10), (344, 344, 33, 33), (344, 344, 36, 36), (344, 344, 64, 64), (358, 358, 5, 5), (360, 362, 40, 43), (363, 363, 80, 87), (364, 366, 0, 100000)] F Fb) (hrk_b : rk K Fb) (hbd : ¬ Fb 344 9 = 0) (hp_b : 0 ≤ Fb 344 5 ∧ Fb 344 5 ≤ K 1 6 - 1) (hb : (F 344 9 = 0 → sp_prb K nm ts pl ps = .inl (Fb 344 9, Fb 344 10)) ∧ (¬ F 344 9 = 0 → Fb 344 9 = F 344 9 ∧ Fb 344 10 = F 344 10)) (htb : ∃ l tl, trm Fb 5 2 l tl ∧ l.length = tl.length) : fl_R xi_ms 184 fr lo 17 [(0, .ref 344)] [] (fl_H sh_T G Fb ++ X) (pq_184 G F X K nm ts pl ps) := by
  have hP := (rkt_p hkt hp.1 hp.2 hgK).1
  have hK16 : 0 ≤ K 1 6 ∧ K 1 6 ≤ 601 := gi_g hgK rfl
  have hko := hkt.1
  obtain ⟨lb_, tlb_, htb1_, htb2_⟩ := htb
  refine ga_aload_n (v := .ref 344) hm_184 rfl rfl rfl ?_
  refine fl_bipush hm_184 rfl rfl ?_
  have b21_ : 0 ≤ Fb 344 5 ∧ Fb 344 5 ≤ 600 := gi_g hg_Fb rfl
  refine gVv (nY := 2) (F := 2) (L := 44) (As := [.int (Int32.ofInt 13)]) (b := 344) (rest := []) hm_184 rfl hm_55 rfl rfl (fl_ob sc_344) rfl rfl rfl rfl rfl (by omega) (by omega) (mc_55 hG Fb X hg_Fb (K) (13) ([112, 114, 111, 98, 108, 101, 109]) hgK hrk_b hkt (⟨by omega, by omega⟩) (⟨by omega, by omega⟩) (by decide) (kw_13 hrk_b)) (fun _ _ h => False.elim h) ?_
  have b23_ : 0 ≤ Fb 344 10 ∧ Fb 344 10 ≤ 600 := gi_g hg_Fb rfl
  have b24_ : 0 ≤ Fb 344 9 ∧ Fb 344 9 ≤ 5 := gi_g hg_Fb rfl
  rintro A1_ (⟨F28_, hA_, g29_, s30_, c25_, c26_, c27_⟩ | ⟨F34_, hA_, g35_, s36_, c31_, c32_, c33_⟩)
  ·
    subst hA_
    have g37_ : fs [(344, 344, 5, 5), (344, 344, 9, 10), (344, 344, 33, 33), (344, 344, 36, 36), (344, 344, 64, 64), (358, 358, 5, 5), (360, 362, 40, 43), (363, 363, 80, 87), (364, 366, 0, 100000)] F F28_ := fs_tr hf_Fb s30_ rfl
    have rk38_ : rk K F28_ := rk_fs hrk_b s30_ (fs_rg rfl) rfl
    have c26_k := c26_.2 (by omega)
    clear c26_
    have b39_ : 0 ≤ F28_ 344 9 ∧ F28_ 344 9 ≤ 5 := gi_g g29_ rfl
    have b40_ : 0 ≤ F28_ 344 10 ∧ F28_ 344 10 ≤ 600 := gi_g g29_ rfl
    have b41_ : 0 ≤ F28_ 344 5 ∧ F28_ 344 5 ≤ 600 := gi_g g29_ rfl
    have e42_ : Fb 5 2 = F 5 2 := (hf_Fb 5 2 rfl).trans (rfl)
    have e43_ : F28_ 5 2 = F 5 2 := (s30_ 5 2 rfl).trans (e42_)
    have b44_ : 0 ≤ F 5 2 ∧ F 5 2 ≤ 600 := gi_g hgi rfl
    exact mb_184_23 hG F X hgi K nm ts pl ps hgK hrk hkt hp h0 h5 hnm hts hpl hps h33 fr lo hfr hlo F28_ g29_ g37_ rk38_ (by omega) (⟨by omega, by omega⟩) (⟨fun h0_ => by rw [show F28_ 344 9 = Fb 344 9 by omega, show F28_ 344 10 = Fb 344 10 by omega]; exact hb.1 h0_, fun h0_ => by have h1_ := hb.2 h0_; omega⟩) (⟨lb_, tlb_, (trm_fs htb1_ s30_ (by first | exact fs_rg rfl | exact fun r j hj => (fs_n (by omega) (fs_n (by omega) rfl)))), htb2_⟩)
  exfalso; omega
set_option maxHeartbeats 16000000 in
theorem mb_184_11 {G : Nat → Nat → Option Nat} (hG : gg G) (F : fl_N) (X : xi_H) (hgi : gi F) (K : fl_N) (nm : Int) (ts pl : List Int) (ps : List (List Int)) (hgK : gi K) (hrk : rk K F) (hkt : rkt K) (hp : 0 ≤ F 344 5 ∧ F 344 5 ≤ K 1 6 - 1) (h0 : F 344 9 = 0) (h5 : F 344 5 = 0) (hnm : nrel nm (F 344 14)) (hts : rpn (F 349) (F 344 15) ts) (hpl : rpn (F 350) (F 344 17) pl) (hps : rprd F ps ∧ ps.length = pl.length) (h33 : F 344 33 = 0) (fr lo : Nat) (hfr : 7 ≤ fr) (hlo : 165 ≤ lo) (Fb : fl_N) (hg_Fb : gi Fb) (hf_Fb : fs [(344, 344, 5, 5), (344, 344, 9, 10), (344, 344, 33, 33), (344, 344, 36, 36), (344, 344, 64, 64), (358, 358, 5, 5), (360, 362, 40, 43), (363, 363, 80, 87), (364, 366, 0, 100000)] F Fb) (hrk_b : rk K Fb) (hbd : ¬ Fb 344 9 = 0) (hp_b : 0 ≤ Fb 344 5 ∧ Fb 344 5 ≤ K 1 6 - 1) (hb : (F 344 9 = 0 → sp_prb K nm ts pl ps = .inl (Fb 344 9, Fb 344 10)) ∧ (¬ F 344 9 = 0 → Fb 344 9 = F 344 9 ∧ Fb 344 10 = F 344 10)) (htb : ∃ l tl, trm Fb 5 2 l tl ∧ l.length = tl.length) : fl_R xi_ms 184 fr lo 11 [(0, .ref 344)] [] (fl_H sh_T G Fb ++ X) (pq_184 G F X K nm ts pl ps) := by
  have hP := (rkt_p hkt hp.1 hp.2 hgK).1
  have hK16 : 0 ≤ K 1 6 ∧ K 1 6 ≤ 601 := gi_g hgK rfl
  have hko := hkt.1
  obtain ⟨lb_, tlb_, htb1_, htb2_⟩ := htb
  refine ga_aload_n (v := .ref 344) hm_184 rfl rfl rfl ?_
  refine fl_bipush hm_184 rfl rfl ?_
  have b21_ : 0 ≤ Fb 344 5 ∧ Fb 344 5 ≤ 600 := gi_g hg_Fb rfl
  refine gVv (nY := 2) (F := 2) (L := 41) (As := [.int (Int32.ofInt 40)]) (b := 344) (rest := []) hm_184 rfl hm_51 rfl rfl (fl_ob sc_344) rfl rfl rfl rfl rfl (by omega) (by omega) (mc_51 hG Fb X hg_Fb (K) (40) (0) hgK hrk_b hkt (⟨by omega, by omega⟩) (by omega) (by omega)) (fun _ _ h => False.elim h) ?_
  have b23_ : 0 ≤ Fb 344 10 ∧ Fb 344 10 ≤ 600 := gi_g hg_Fb rfl
  have b24_ : 0 ≤ Fb 344 9 ∧ Fb 344 9 ≤ 5 := gi_g hg_Fb rfl
  rintro A1_ (⟨F28_, hA_, g29_, s30_, c25_, c26_, c27_⟩ | ⟨F34_, hA_, g35_, s36_, c31_, c32_, c33_⟩)
  ·
    subst hA_
    have g37_ : fs [(344, 344, 5, 5), (344, 344, 9, 10), (344, 344, 33, 33), (344, 344, 36, 36), (344, 344, 64, 64), (358, 358, 5, 5), (360, 362, 40, 43), (363, 363, 80, 87), (364, 366, 0, 100000)] F F28_ := fs_tr hf_Fb s30_ rfl
    have rk38_ : rk K F28_ := rk_fs hrk_b s30_ (fs_rg rfl) rfl
    have c26_k := c26_.2 (by omega)
    clear c26_
    have b39_ : 0 ≤ F28_ 344 9 ∧ F28_ 344 9 ≤ 5 := gi_g g29_ rfl
    have b40_ : 0 ≤ F28_ 344 10 ∧ F28_ 344 10 ≤ 600 := gi_g g29_ rfl
    have b41_ : 0 ≤ F28_ 344 5 ∧ F28_ 344 5 ≤ 600 := gi_g g29_ rfl
    have e42_ : Fb 5 2 = F 5 2 := (hf_Fb 5 2 rfl).trans (rfl)
    have e43_ : F28_ 5 2 = F 5 2 := (s30_ 5 2 rfl).trans (e42_)
    have b44_ : 0 ≤ F 5 2 ∧ F 5 2 ≤ 600 := gi_g hgi rfl
    exact mb_184_17 hG F X hgi K nm ts pl ps hgK hrk hkt hp h0 h5 hnm hts hpl hps h33 fr lo hfr hlo F28_ g29_ g37_ rk38_ (by omega) (⟨by omega, by omega⟩) (⟨fun h0_ => by rw [show F28_ 344 9 = Fb 344 9 by omega, show F28_ 344 10 = Fb 344 10 by omega]; exact hb.1 h0_, fun h0_ => by have h1_ := hb.2 h0_; omega⟩) (⟨lb_, tlb_, (trm_fs htb1_ s30_ (by first | exact fs_rg rfl | exact fun r j hj => (fs_n (by omega) (fs_n (by omega) rfl)))), htb2_⟩)
  exfalso; omega
set_option maxHeartbeats 16000000 in
theorem mb_184_6 {G : Nat → Nat → Option Nat} (hG : gg G) (F : fl_N) (X : xi_H) (hgi : gi F) (K : fl_N) (nm : Int) (ts pl : List Int) (ps : List (List Int)) (hgK : gi K) (hrk : rk K F) (hkt : rkt K) (hp : 0 ≤ F 344 5 ∧ F 344 5 ≤ K 1 6 - 1) (h0 : F 344 9 = 0) (h5 : F 344 5 = 0) (hnm : nrel nm (F 344 14)) (hts : rpn (F 349) (F 344 15) ts) (hpl : rpn (F 350) (F 344 17) pl) (hps : rprd F ps ∧ ps.length = pl.length) (h33 : F 344 33 = 0) (fr lo : Nat) (hfr : 7 ≤ fr) (hlo : 165 ≤ lo) (Fb : fl_N) (hg_Fb : gi Fb) (hf_Fb : fs [(344, 344, 5, 5), (344, 344, 9, 10), (344, 344, 33, 33), (344, 344, 36, 36), (344, 344, 64, 64), (358, 358, 5, 5), (360, 362, 40, 43), (363, 363, 80, 87), (364, 366, 0, 100000)] F Fb) (hrk_b : rk K Fb) (hbd : ¬ Fb 344 9 = 0) (hp_b : 0 ≤ Fb 344 5 ∧ Fb 344 5 ≤ K 1 6 - 1) (hb : (F 344 9 = 0 → sp_prb K nm ts pl ps = .inl (Fb 344 9, Fb 344 10)) ∧ (¬ F 344 9 = 0 → Fb 344 9 = F 344 9 ∧ Fb 344 10 = F 344 10)) (htb : ∃ l tl, trm Fb 5 2 l tl ∧ l.length = tl.length) : fl_R xi_ms 184 fr lo 6 [(0, .ref 344)] [] (fl_H sh_T G Fb ++ X) (pq_184 G F X K nm ts pl ps) := by
  have hP := (rkt_p hkt hp.1 hp.2 hgK).1
  have hK16 : 0 ≤ K 1 6 ∧ K 1 6 ≤ 601 := gi_g hgK rfl
  have hko := hkt.1
  obtain ⟨lb_, tlb_, htb1_, htb2_⟩ := htb
  refine ga_aload_n (v := .ref 344) hm_184 rfl rfl rfl ?_
  refine fl_iconst hm_184 rfl ?_
  have b21_ : 0 ≤ Fb 344 5 ∧ Fb 344 5 ≤ 600 := gi_g hg_Fb rfl
  refine gVv (nY := 2) (F := 2) (L := 44) (As := [.int (Int32.ofInt 0)]) (b := 344) (rest := []) hm_184 rfl hm_55 rfl rfl (fl_ob sc_344) rfl rfl rfl rfl rfl (by omega) (by omega) (mc_55 hG Fb X hg_Fb (K) (0) ([100, 101, 102, 105, 110, 101]) hgK hrk_b hkt (⟨by omega, by omega⟩) (⟨by omega, by omega⟩) (by decide) (kw_0 hrk_b)) (fun _ _ h => False.elim h) ?_
  have b23_ : 0 ≤ Fb 344 10 ∧ Fb 344 10 ≤ 600 := gi_g hg_Fb rfl
  have b24_ : 0 ≤ Fb 344 9 ∧ Fb 344 9 ≤ 5 := gi_g hg_Fb rfl
  rintro A1_ (⟨F28_, hA_, g29_, s30_, c25_, c26_, c27_⟩ | ⟨F34_, hA_, g35_, s36_, c31_, c32_, c33_⟩)
  ·
    subst hA_
    have g37_ : fs [(344, 344, 5, 5), (344, 344, 9, 10), (344, 344, 33, 33), (344, 344, 36, 36), (344, 344, 64, 64), (358, 358, 5, 5), (360, 362, 40, 43), (363, 363, 80, 87), (364, 366, 0, 100000)] F F28_ := fs_tr hf_Fb s30_ rfl
    have rk38_ : rk K F28_ := rk_fs hrk_b s30_ (fs_rg rfl) rfl
    have c26_k := c26_.2 (by omega)
    clear c26_
    have b39_ : 0 ≤ F28_ 344 9 ∧ F28_ 344 9 ≤ 5 := gi_g g29_ rfl
    have b40_ : 0 ≤ F28_ 344 10 ∧ F28_ 344 10 ≤ 600 := gi_g g29_ rfl
    have b41_ : 0 ≤ F28_ 344 5 ∧ F28_ 344 5 ≤ 600 := gi_g g29_ rfl
    have e42_ : Fb 5 2 = F 5 2 := (hf_Fb 5 2 rfl).trans (rfl)
    have e43_ : F28_ 5 2 = F 5 2 := (s30_ 5 2 rfl).trans (e42_)
    have b44_ : 0 ≤ F 5 2 ∧ F 5 2 ≤ 600 := gi_g hgi rfl
    exact mb_184_11 hG F X hgi K nm ts pl ps hgK hrk hkt hp h0 h5 hnm hts hpl hps h33 fr lo hfr hlo F28_ g29_ g37_ rk38_ (by omega) (⟨by omega, by omega⟩) (⟨fun h0_ => by rw [show F28_ 344 9 = Fb 344 9 by omega, show F28_ 344 10 = Fb 344 10 by omega]; exact hb.1 h0_, fun h0_ => by have h1_ := hb.2 h0_; omega⟩) (⟨lb_, tlb_, (trm_fs htb1_ s30_ (by first | exact fs_rg rfl | exact fun r j hj => (fs_n (by omega) (fs_n (by omega) rfl)))), htb2_⟩)
  exfalso; omega
set_option maxHeartbeats 16000000 in
theorem mg_184_150 {G : Nat → Nat → Option Nat} (hG : gg G) (F : fl_N) (X : xi_H) (hgi : gi F) (K : fl_N) (nm : Int) (ts pl : List Int) (ps : List (List Int)) (hgK : gi K) (hrk : rk K F) (hkt : rkt K) (hp : 0 ≤ F 344 5 ∧ F 344 5 ≤ K 1 6 - 1) (h0 : F 344 9 = 0) (h5 : F 344 5 = 0) (hnm : nrel nm (F 344 14)) (hts : rpn (F 349) (F 344 15) ts) (hpl : rpn (F 350) (F 344 17) pl) (hps : rprd F ps ∧ ps.length = pl.length) (h33 : F 344 33 = 0) (fr lo : Nat) (hfr : 7 ≤ fr) (hlo : 165 ≤ lo) (Fg : fl_N) (l : List Int) (tl : List Int) (hg_Fg : gi Fg) (hf_Fg : fs [(344, 344, 5, 5), (344, 344, 9, 10), (344, 344, 33, 33), (344, 344, 36, 36), (344, 344, 64, 64), (358, 358, 5, 5), (360, 362, 40, 43), (363, 363, 80, 87), (364, 366, 0, 100000)] F Fg) (hrk_g : rk K Fg) (h0g : Fg 344 9 = 0 ∧ F 344 9 = 0) (hp_g : 0 ≤ Fg 344 5 ∧ Fg 344 5 ≤ K 1 6 - 1) (hq_ : sp_prb K nm ts pl ps = sp_r3 K l tl pl ps (Fg 344 5)) (ht_g : trm Fg 5 2 l tl) (hlt_g : l.length = tl.length) (hpl_g : rpn (Fg 350) (Fg 344 17) pl) (hps_g : rprd Fg ps ∧ ps.length = pl.length) (hh_ : pr_h K nm ts = .inr (Fg 344 5, l, tl)) (hfc_ : Fg 344 36 = (nfc ps tl 216 : Int) ∧ fnr Fg 366 ps tl 216) : fl_R xi_ms 184 fr lo 150 [(0, .ref 344)] [] (fl_H sh_T G Fg ++ X) (pq_184 G F X K nm ts pl ps) := by
  have hP := (rkt_p hkt hp.1 hp.2 hgK).1
  have hK16 : 0 ≤ K 1 6 ∧ K 1 6 ≤ 601 := gi_g hgK rfl
  have hko := hkt.1
  refine ga_aload_n (v := .ref 344) hm_184 rfl rfl rfl ?_
  refine fl_bipush hm_184 rfl rfl ?_
  have b21_ : 0 ≤ Fg 344 5 ∧ Fg 344 5 ≤ 600 := gi_g hg_Fg rfl
  refine gVv (nY := 2) (F := 2) (L := 41) (As := [.int (Int32.ofInt 40)]) (b := 344) (rest := []) hm_184 rfl hm_51 rfl rfl (fl_ob sc_344) rfl rfl rfl rfl rfl (by omega) (by omega) (mc_51 hG Fg X hg_Fg (K) (40) (0) hgK hrk_g hkt (⟨by omega, by omega⟩) (by omega) (by omega)) (fun _ _ h => False.elim h) ?_
  have b23_ : 0 ≤ Fg 344 10 ∧ Fg 344 10 ≤ 600 := gi_g hg_Fg rfl
  have b24_ : 0 ≤ Fg 344 9 ∧ Fg 344 9 ≤ 5 := gi_g hg_Fg rfl
  rintro A1_ (⟨F28_, hA_, g29_, s30_, c25_, c26_, c27_⟩ | ⟨F34_, hA_, g35_, s36_, c31_, c32_, c33_⟩)
  ·
    subst hA_
    have g37_ : fs [(344, 344, 5, 5), (344, 344, 9, 10), (344, 344, 33, 33), (344, 344, 36, 36), (344, 344, 64, 64), (358, 358, 5, 5), (360, 362, 40, 43), (363, 363, 80, 87), (364, 366, 0, 100000)] F F28_ := fs_tr hf_Fg s30_ rfl
    have rk38_ : rk K F28_ := rk_fs hrk_g s30_ (fs_rg rfl) rfl
    have c26_s := c26_.1 (by omega)
    clear c26_
    have b39_ : 0 ≤ F28_ 344 9 ∧ F28_ 344 9 ≤ 5 := gi_g g29_ rfl
    have b40_ : 0 ≤ F28_ 344 10 ∧ F28_ 344 10 ≤ 600 := gi_g g29_ rfl
    have b41_ : 0 ≤ F28_ 344 5 ∧ F28_ 344 5 ≤ 600 := gi_g g29_ rfl
    have e42_ : Fg 5 2 = F 5 2 := (hf_Fg 5 2 rfl).trans (rfl)
    have e43_ : F28_ 5 2 = F 5 2 := (s30_ 5 2 rfl).trans (e42_)
    have b44_ : 0 ≤ F 5 2 ∧ F 5 2 ≤ 600 := gi_g hgi rfl
    exact mb_184_156 hG F X hgi K nm ts pl ps hgK hrk hkt hp h0 h5 hnm hts hpl hps h33 fr lo hfr hlo F28_ g29_ g37_ rk38_ (by omega) (⟨by omega, by omega⟩) (⟨by intro h0_; have hs_ := c26_s; rw [hq_, sp_r3, sp_part]; rw [hs_]; try (show Sum.inl _ = _); try (congr 2 <;> omega), fun h0_ => by exfalso; omega⟩) (⟨l, tl, (trm_fs ht_g s30_ (by first | exact fs_rg rfl | exact fun r j hj => (fs_n (by omega) (fs_n (by omega) rfl)))), hlt_g⟩)
  subst hA_
  have g45_ : fs [(344, 344, 5, 5), (344, 344, 9, 10), (344, 344, 33, 33), (344, 344, 36, 36), (344, 344, 64, 64), (358, 358, 5, 5), (360, 362, 40, 43), (363, 363, 80, 87), (364, 366, 0, 100000)] F F34_ := fs_tr hf_Fg s36_ rfl
  have rk46_ : rk K F34_ := rk_fs hrk_g s36_ (fs_rg rfl) rfl
  refine ga_aload_n (v := .ref 344) hm_184 rfl rfl rfl ?_
  refine fl_bipush hm_184 rfl rfl ?_
  have b47_ : 0 ≤ F34_ 344 5 ∧ F34_ 344 5 ≤ 600 := gi_g g35_ rfl
  refine gVv (nY := 2) (F := 2) (L := 44) (As := [.int (Int32.ofInt 16)]) (b := 344) (rest := []) hm_184 rfl hm_55 rfl rfl (fl_ob sc_344) rfl rfl rfl rfl rfl (by omega) (by omega) (mc_55 hG F34_ X g35_ (K) (16) ([58, 105, 110, 105, 116]) hgK rk46_ hkt (⟨by omega, by omega⟩) (⟨by omega, by omega⟩) (by decide) (kw_16 rk46_)) (fun _ _ h => False.elim h) ?_
  have b49_ : 0 ≤ F34_ 344 10 ∧ F34_ 344 10 ≤ 600 := gi_g g35_ rfl
  have b50_ : 0 ≤ F34_ 344 9 ∧ F34_ 344 9 ≤ 5 := gi_g g35_ rfl
  rintro A1_ (⟨F54_, hA_, g55_, s56_, c51_, c52_, c53_⟩ | ⟨F60_, hA_, g61_, s62_, c57_, c58_, c59_⟩)
  ·
    subst hA_
    have g63_ : fs [(344, 344, 5, 5), (344, 344, 9, 10), (344, 344, 33, 33), (344, 344, 36, 36), (344, 344, 64, 64), (358, 358, 5, 5), (360, 362, 40, 43), (363, 363, 80, 87), (364, 366, 0, 100000)] F F54_ := fs_tr g45_ s56_ rfl
    have rk64_ : rk K F54_ := rk_fs rk46_ s56_ (fs_rg rfl) rfl
    have c52_s := c52_.1 (by omega)
    clear c52_
    have b65_ : 0 ≤ F54_ 344 9 ∧ F54_ 344 9 ≤ 5 := gi_g g55_ rfl
    have b66_ : 0 ≤ F54_ 344 10 ∧ F54_ 344 10 ≤ 600 := gi_g g55_ rfl
    have b67_ : 0 ≤ F54_ 344 5 ∧ F54_ 344 5 ≤ 600 := gi_g g55_ rfl
    have e68_ : Fg 5 2 = F 5 2 := (hf_Fg 5 2 rfl).trans (rfl)
    have e69_ : F34_ 5 2 = F 5 2 := (s36_ 5 2 rfl).trans (e68_)
    have e70_ : F54_ 5 2 = F 5 2 := (s56_ 5 2 rfl).trans (e69_)
    have b71_ : 0 ≤ F 5 2 ∧ F 5 2 ≤ 600 := gi_g hgi rfl
    exact mb_184_162 hG F X hgi K nm ts pl ps hgK hrk hkt hp h0 h5 hnm hts hpl hps h33 fr lo hfr hlo F54_ g55_ g63_ rk64_ (by omega) (⟨by omega, by omega⟩) (⟨by intro h0_; have hs_ := c52_s; rw [hq_, sp_r3, sp_part]; rw [c32_]; simp only [pb_r]; rw [hs_]; try (show Sum.inl _ = _); try (congr 2 <;> omega), fun h0_ => by exfalso; omega⟩) (⟨l, tl, (trm_fs (trm_fs ht_g s36_ (by first | exact fs_rg rfl | exact fun r j hj => (fs_n (by omega) (fs_n (by omega) rfl)))) s56_ (by first | exact fs_rg rfl | exact fun r j hj => (fs_n (by omega) (fs_n (by omega) rfl)))), hlt_g⟩)
  subst hA_
  have g72_ : fs [(344, 344, 5, 5), (344, 344, 9, 10), (344, 344, 33, 33), (344, 344, 36, 36), (344, 344, 64, 64), (358, 358, 5, 5), (360, 362, 40, 43), (363, 363, 80, 87), (364, 366, 0, 100000)] F F60_ := fs_tr g45_ s62_ rfl
  have rk73_ : rk K F60_ := rk_fs rk46_ s62_ (fs_rg rfl) rfl
  refine ga_aload_n (v := .ref 344) hm_184 rfl rfl rfl ?_
  have b74_ : 0 ≤ F60_ 344 5 ∧ F60_ 344 5 ≤ 600 := gi_g g61_ rfl
  refine gVv (nY := 2) (F := 5) (L := 117) (As := []) (b := 344) (rest := []) hm_184 rfl hm_178 rfl rfl (fl_ob sc_344) rfl rfl rfl rfl rfl (by omega) (by omega) (mc_178 hG F60_ X g61_ (K) (l) (tl) (pl) (ps) hgK rk73_ hkt (⟨by omega, by omega⟩) ((trm_fs (trm_fs ht_g s36_ (by first | exact fs_rg rfl | exact fun r j hj => (fs_n (by omega) (fs_n (by omega) rfl)))) s62_ (by first | exact fs_rg rfl | exact fun r j hj => (fs_n (by omega) (fs_n (by omega) rfl))))) (hlt_g) ((rpn_fs (rpn_fs hpl_g s36_ (fun _ => (by first | exact fs_c rfl | exact (fs_n (by omega) (fs_n (by omega) rfl)))) (by first | exact fs_c rfl | exact (fs_n (by omega) (fs_n (by omega) rfl)))) s62_ (fun _ => (by first | exact fs_c rfl | exact (fs_n (by omega) (fs_n (by omega) rfl)))) (by first | exact fs_c rfl | exact (fs_n (by omega) (fs_n (by omega) rfl))))) (⟨(rprd_fs (rprd_fs hps_g.1 s36_ (by first | exact fs_rg rfl | exact fun r j hj => (fs_n (by omega) (fs_n (by omega) rfl)))) s62_ (by first | exact fs_rg rfl | exact fun r j hj => (fs_n (by omega) (fs_n (by omega) rfl)))), hps_g.2⟩)) (fun _ _ h => False.elim h) ?_
  have b76_ : 0 ≤ F60_ 344 10 ∧ F60_ 344 10 ≤ 600 := gi_g g61_ rfl
  have b77_ : 0 ≤ F60_ 344 9 ∧ F60_ 344 9 ≤ 5 := gi_g g61_ rfl
  have e78_ : F34_ 344 36 = Fg 344 36 := (s36_ 344 36 rfl).trans (rfl)
  have e79_ : F60_ 344 36 = Fg 344 36 := (s62_ 344 36 rfl).trans (e78_)
  have b80_ : 0 ≤ Fg 344 36 ∧ Fg 344 36 ≤ 216 := gi_g hg_Fg rfl
  rintro A1_ (⟨F84_, hA_, g85_, s86_, c81_, c82_, c83_⟩ | ⟨F91_, hA_, g92_, s93_, c87_, c88_, c89_, c90_⟩)
  ·
    subst hA_
    have g94_ : fs [(344, 344, 5, 5), (344, 344, 9, 10), (344, 344, 33, 33), (344, 344, 36, 36), (344, 344, 64, 64), (358, 358, 5, 5), (360, 362, 40, 43), (363, 363, 80, 87), (364, 366, 0, 100000)] F F84_ := fs_tr g72_ s86_ rfl
    have rk95_ : rk K F84_ := rk_fs rk73_ s86_ (fs_rg rfl) rfl
    have c82_s := c82_.1 (by omega)
    clear c82_
    have b96_ : 0 ≤ F84_ 344 9 ∧ F84_ 344 9 ≤ 5 := gi_g g85_ rfl
    have b97_ : 0 ≤ F84_ 344 10 ∧ F84_ 344 10 ≤ 600 := gi_g g85_ rfl
    have b98_ : 0 ≤ F84_ 344 5 ∧ F84_ 344 5 ≤ 600 := gi_g g85_ rfl
    have e99_ : Fg 5 2 = F 5 2 := (hf_Fg 5 2 rfl).trans (rfl)
    have e100_ : F34_ 5 2 = F 5 2 := (s36_ 5 2 rfl).trans (e99_)
    have e101_ : F60_ 5 2 = F 5 2 := (s62_ 5 2 rfl).trans (e100_)
    have e102_ : F84_ 5 2 = F 5 2 := (s86_ 5 2 rfl).trans (e101_)
    have b103_ : 0 ≤ F 5 2 ∧ F 5 2 ≤ 600 := gi_g hgi rfl
    exact mb_184_166 hG F X hgi K nm ts pl ps hgK hrk hkt hp h0 h5 hnm hts hpl hps h33 fr lo hfr hlo F84_ g85_ g94_ rk95_ (by omega) (⟨by omega, by omega⟩) (⟨by intro h0_; have hs_ := c82_s; rw [hq_, sp_r3, sp_part]; rw [c32_]; simp only [pb_r]; rw [c58_]; simp only [pb_r]; rw [si1_fl hs_]; try (show Sum.inl _ = _); try (congr 2 <;> omega), fun h0_ => by exfalso; omega⟩) (⟨l, tl, (trm_fs (trm_fs (trm_fs ht_g s36_ (by first | exact fs_rg rfl | exact fun r j hj => (fs_n (by omega) (fs_n (by omega) rfl)))) s62_ (by first | exact fs_rg rfl | exact fun r j hj => (fs_n (by omega) (fs_n (by omega) rfl)))) s86_ (by first | exact fs_rg rfl | exact fun r j hj => (fs_n (by omega) (fs_n (by omega) (fs_n (by omega) (fs_n (by omega) (fs_n (by omega) rfl))))))), hlt_g⟩)
  subst hA_
  have g104_ : fs [(344, 344, 5, 5), (344, 344, 9, 10), (344, 344, 33, 33), (344, 344, 36, 36), (344, 344, 64, 64), (358, 358, 5, 5), (360, 362, 40, 43), (363, 363, 80, 87), (364, 366, 0, 100000)] F F91_ := fs_tr g72_ s93_ rfl
  have rk105_ : rk K F91_ := rk_fs rk73_ s93_ (fs_rg rfl) rfl
  try simp only [e79_] at c90_
  refine ga_aload_n (v := .ref 344) hm_184 rfl rfl rfl ?_
  refine fl_bipush hm_184 rfl rfl ?_
  have b106_ : 0 ≤ F91_ 344 5 ∧ F91_ 344 5 ≤ 600 := gi_g g92_ rfl
  refine gVv (nY := 2) (F := 2) (L := 41) (As := [.int (Int32.ofInt 41)]) (b := 344) (rest := []) hm_184 rfl hm_51 rfl rfl (fl_ob sc_344) rfl rfl rfl rfl rfl (by omega) (by omega) (mc_51 hG F91_ X g92_ (K) (41) (1) hgK rk105_ hkt (⟨by omega, by omega⟩) (by omega) (by omega)) (fun _ _ h => False.elim h) ?_
  have b108_ : 0 ≤ F91_ 344 10 ∧ F91_ 344 10 ≤ 600 := gi_g g92_ rfl
  have b109_ : 0 ≤ F91_ 344 9 ∧ F91_ 344 9 ≤ 5 := gi_g g92_ rfl
  rintro A1_ (⟨F113_, hA_, g114_, s115_, c110_, c111_, c112_⟩ | ⟨F119_, hA_, g120_, s121_, c116_, c117_, c118_⟩)
  ·
    subst hA_
    have g122_ : fs [(344, 344, 5, 5), (344, 344, 9, 10), (344, 344, 33, 33), (344, 344, 36, 36), (344, 344, 64, 64), (358, 358, 5, 5), (360, 362, 40, 43), (363, 363, 80, 87), (364, 366, 0, 100000)] F F113_ := fs_tr g104_ s115_ rfl
    have rk123_ : rk K F113_ := rk_fs rk105_ s115_ (fs_rg rfl) rfl
    have c111_s := c111_.1 (by omega)
    clear c111_
    have b124_ : 0 ≤ F113_ 344 9 ∧ F113_ 344 9 ≤ 5 := gi_g g114_ rfl
    have b125_ : 0 ≤ F113_ 344 10 ∧ F113_ 344 10 ≤ 600 := gi_g g114_ rfl
    have b126_ : 0 ≤ F113_ 344 5 ∧ F113_ 344 5 ≤ 600 := gi_g g114_ rfl
    have e127_ : Fg 5 2 = F 5 2 := (hf_Fg 5 2 rfl).trans (rfl)
    have e128_ : F34_ 5 2 = F 5 2 := (s36_ 5 2 rfl).trans (e127_)
    have e129_ : F60_ 5 2 = F 5 2 := (s62_ 5 2 rfl).trans (e128_)
    have e130_ : F91_ 5 2 = F 5 2 := (s93_ 5 2 rfl).trans (e129_)
    have e131_ : F113_ 5 2 = F 5 2 := (s115_ 5 2 rfl).trans (e130_)
    have b132_ : 0 ≤ F 5 2 ∧ F 5 2 ≤ 600 := gi_g hgi rfl
    exact mb_184_172 hG F X hgi K nm ts pl ps hgK hrk hkt hp h0 h5 hnm hts hpl hps h33 fr lo hfr hlo F113_ g114_ g122_ rk123_ (by omega) (⟨by omega, by omega⟩) (⟨by intro h0_; have hs_ := c111_s; rw [hq_, sp_r3, sp_part]; rw [c32_]; simp only [pb_r]; rw [c58_]; simp only [pb_r]; rw [si1_ok c88_.1]; simp only [pb_r]; rw [hs_]; try (show Sum.inl _ = _); try (congr 2 <;> omega), fun h0_ => by exfalso; omega⟩) (⟨l, tl, (trm_fs (trm_fs (trm_fs (trm_fs ht_g s36_ (by first | exact fs_rg rfl | exact fun r j hj => (fs_n (by omega) (fs_n (by omega) rfl)))) s62_ (by first | exact fs_rg rfl | exact fun r j hj => (fs_n (by omega) (fs_n (by omega) rfl)))) s93_ (by first | exact fs_rg rfl | exact fun r j hj => (fs_n (by omega) (fs_n (by omega) (fs_n (by omega) (fs_n (by omega) (fs_n (by omega) rfl))))))) s115_ (by first | exact fs_rg rfl | exact fun r j hj => (fs_n (by omega) (fs_n (by omega) rfl)))), hlt_g⟩)
  subst hA_
  have g133_ : fs [(344, 344, 5, 5), (344, 344, 9, 10), (344, 344, 33, 33), (344, 344, 36, 36), (344, 344, 64, 64), (358, 358, 5, 5), (360, 362, 40, 43), (363, 363, 80, 87), (364, 366, 0, 100000)] F F119_ := fs_tr g104_ s121_ rfl
  have rk134_ : rk K F119_ := rk_fs rk105_ s121_ (fs_rg rfl) rfl
  refine ga_aload_n (v := .ref 344) hm_184 rfl rfl rfl ?_
  refine fl_bipush hm_184 rfl rfl ?_
  have b135_ : 0 ≤ F119_ 344 5 ∧ F119_ 344 5 ≤ 600 := gi_g g120_ rfl
  refine gVv (nY := 2) (F := 2) (L := 41) (As := [.int (Int32.ofInt 40)]) (b := 344) (rest := []) hm_184 rfl hm_51 rfl rfl (fl_ob sc_344) rfl rfl rfl rfl rfl (by omega) (by omega) (mc_51 hG F119_ X g120_ (K) (40) (0) hgK rk134_ hkt (⟨by omega, by omega⟩) (by omega) (by omega)) (fun _ _ h => False.elim h) ?_
  have b137_ : 0 ≤ F119_ 344 10 ∧ F119_ 344 10 ≤ 600 := gi_g g120_ rfl
  have b138_ : 0 ≤ F119_ 344 9 ∧ F119_ 344 9 ≤ 5 := gi_g g120_ rfl
  rintro A1_ (⟨F142_, hA_, g143_, s144_, c139_, c140_, c141_⟩ | ⟨F148_, hA_, g149_, s150_, c145_, c146_, c147_⟩)
  ·
    subst hA_
    have g151_ : fs [(344, 344, 5, 5), (344, 344, 9, 10), (344, 344, 33, 33), (344, 344, 36, 36), (344, 344, 64, 64), (358, 358, 5, 5), (360, 362, 40, 43), (363, 363, 80, 87), (364, 366, 0, 100000)] F F142_ := fs_tr g133_ s144_ rfl
    have rk152_ : rk K F142_ := rk_fs rk134_ s144_ (fs_rg rfl) rfl
    have c140_s := c140_.1 (by omega)
    clear c140_
    have b153_ : 0 ≤ F142_ 344 9 ∧ F142_ 344 9 ≤ 5 := gi_g g143_ rfl
    have b154_ : 0 ≤ F142_ 344 10 ∧ F142_ 344 10 ≤ 600 := gi_g g143_ rfl
    have b155_ : 0 ≤ F142_ 344 5 ∧ F142_ 344 5 ≤ 600 := gi_g g143_ rfl
    have e156_ : Fg 5 2 = F 5 2 := (hf_Fg 5 2 rfl).trans (rfl)
    have e157_ : F34_ 5 2 = F 5 2 := (s36_ 5 2 rfl).trans (e156_)
    have e158_ : F60_ 5 2 = F 5 2 := (s62_ 5 2 rfl).trans (e157_)
    have e159_ : F91_ 5 2 = F 5 2 := (s93_ 5 2 rfl).trans (e158_)
    have e160_ : F119_ 5 2 = F 5 2 := (s121_ 5 2 rfl).trans (e159_)
    have e161_ : F142_ 5 2 = F 5 2 := (s144_ 5 2 rfl).trans (e160_)
    have b162_ : 0 ≤ F 5 2 ∧ F 5 2 ≤ 600 := gi_g hgi rfl
    exact mb_184_178 hG F X hgi K nm ts pl ps hgK hrk hkt hp h0 h5 hnm hts hpl hps h33 fr lo hfr hlo F142_ g143_ g151_ rk152_ (by omega) (⟨by omega, by omega⟩) (⟨by intro h0_; have hs_ := c140_s; rw [hq_, sp_r3, sp_part]; rw [c32_]; simp only [pb_r]; rw [c58_]; simp only [pb_r]; rw [si1_ok c88_.1]; simp only [pb_r]; rw [c117_]; simp only [pb_r]; rw [sp_part]; rw [hs_]; try (show Sum.inl _ = _); try (congr 2 <;> omega), fun h0_ => by exfalso; omega⟩) (⟨l, tl, (trm_fs (trm_fs (trm_fs (trm_fs (trm_fs ht_g s36_ (by first | exact fs_rg rfl | exact fun r j hj => (fs_n (by omega) (fs_n (by omega) rfl)))) s62_ (by first | exact fs_rg rfl | exact fun r j hj => (fs_n (by omega) (fs_n (by omega) rfl)))) s93_ (by first | exact fs_rg rfl | exact fun r j hj => (fs_n (by omega) (fs_n (by omega) (fs_n (by omega) (fs_n (by omega) (fs_n (by omega) rfl))))))) s121_ (by first | exact fs_rg rfl | exact fun r j hj => (fs_n (by omega) (fs_n (by omega) rfl)))) s144_ (by first | exact fs_rg rfl | exact fun r j hj => (fs_n (by omega) (fs_n (by omega) rfl)))), hlt_g⟩)
  subst hA_
  have g163_ : fs [(344, 344, 5, 5), (344, 344, 9, 10), (344, 344, 33, 33), (344, 344, 36, 36), (344, 344, 64, 64), (358, 358, 5, 5), (360, 362, 40, 43), (363, 363, 80, 87), (364, 366, 0, 100000)] F F148_ := fs_tr g133_ s150_ rfl
  have rk164_ : rk K F148_ := rk_fs rk134_ s150_ (fs_rg rfl) rfl
  refine ga_aload_n (v := .ref 344) hm_184 rfl rfl rfl ?_
  refine fl_bipush hm_184 rfl rfl ?_
  have b165_ : 0 ≤ F148_ 344 5 ∧ F148_ 344 5 ≤ 600 := gi_g g149_ rfl
  refine gVv (nY := 2) (F := 2) (L := 44) (As := [.int (Int32.ofInt 17)]) (b := 344) (rest := []) hm_184 rfl hm_55 rfl rfl (fl_ob sc_344) rfl rfl rfl rfl rfl (by omega) (by omega) (mc_55 hG F148_ X g149_ (K) (17) ([58, 103, 111, 97, 108]) hgK rk164_ hkt (⟨by omega, by omega⟩) (⟨by omega, by omega⟩) (by decide) (kw_17 rk164_)) (fun _ _ h => False.elim h) ?_
  have b167_ : 0 ≤ F148_ 344 10 ∧ F148_ 344 10 ≤ 600 := gi_g g149_ rfl
  have b168_ : 0 ≤ F148_ 344 9 ∧ F148_ 344 9 ≤ 5 := gi_g g149_ rfl
  rintro A1_ (⟨F172_, hA_, g173_, s174_, c169_, c170_, c171_⟩ | ⟨F178_, hA_, g179_, s180_, c175_, c176_, c177_⟩)
  ·
    subst hA_
    have g181_ : fs [(344, 344, 5, 5), (344, 344, 9, 10), (344, 344, 33, 33), (344, 344, 36, 36), (344, 344, 64, 64), (358, 358, 5, 5), (360, 362, 40, 43), (363, 363, 80, 87), (364, 366, 0, 100000)] F F172_ := fs_tr g163_ s174_ rfl
    have rk182_ : rk K F172_ := rk_fs rk164_ s174_ (fs_rg rfl) rfl
    have c170_s := c170_.1 (by omega)
    clear c170_
    have b183_ : 0 ≤ F172_ 344 9 ∧ F172_ 344 9 ≤ 5 := gi_g g173_ rfl
    have b184_ : 0 ≤ F172_ 344 10 ∧ F172_ 344 10 ≤ 600 := gi_g g173_ rfl
    have b185_ : 0 ≤ F172_ 344 5 ∧ F172_ 344 5 ≤ 600 := gi_g g173_ rfl
    have e186_ : Fg 5 2 = F 5 2 := (hf_Fg 5 2 rfl).trans (rfl)
    have e187_ : F34_ 5 2 = F 5 2 := (s36_ 5 2 rfl).trans (e186_)
    have e188_ : F60_ 5 2 = F 5 2 := (s62_ 5 2 rfl).trans (e187_)
    have e189_ : F91_ 5 2 = F 5 2 := (s93_ 5 2 rfl).trans (e188_)
    have e190_ : F119_ 5 2 = F 5 2 := (s121_ 5 2 rfl).trans (e189_)
    have e191_ : F148_ 5 2 = F 5 2 := (s150_ 5 2 rfl).trans (e190_)
    have e192_ : F172_ 5 2 = F 5 2 := (s174_ 5 2 rfl).trans (e191_)
    have b193_ : 0 ≤ F 5 2 ∧ F 5 2 ≤ 600 := gi_g hgi rfl
    exact mb_184_184 hG F X hgi K nm ts pl ps hgK hrk hkt hp h0 h5 hnm hts hpl hps h33 fr lo hfr hlo F172_ g173_ g181_ rk182_ (by omega) (⟨by omega, by omega⟩) (⟨by intro h0_; have hs_ := c170_s; rw [hq_, sp_r3, sp_part]; rw [c32_]; simp only [pb_r]; rw [c58_]; simp only [pb_r]; rw [si1_ok c88_.1]; simp only [pb_r]; rw [c117_]; simp only [pb_r]; rw [sp_part]; rw [c146_]; simp only [pb_r]; rw [hs_]; try (show Sum.inl _ = _); try (congr 2 <;> omega), fun h0_ => by exfalso; omega⟩) (⟨l, tl, (trm_fs (trm_fs (trm_fs (trm_fs (trm_fs (trm_fs ht_g s36_ (by first | exact fs_rg rfl | exact fun r j hj => (fs_n (by omega) (fs_n (by omega) rfl)))) s62_ (by first | exact fs_rg rfl | exact fun r j hj => (fs_n (by omega) (fs_n (by omega) rfl)))) s93_ (by first | exact fs_rg rfl | exact fun r j hj => (fs_n (by omega) (fs_n (by omega) (fs_n (by omega) (fs_n (by omega) (fs_n (by omega) rfl))))))) s121_ (by first | exact fs_rg rfl | exact fun r j hj => (fs_n (by omega) (fs_n (by omega) rfl)))) s150_ (by first | exact fs_rg rfl | exact fun r j hj => (fs_n (by omega) (fs_n (by omega) rfl)))) s174_ (by first | exact fs_rg rfl | exact fun r j hj => (fs_n (by omega) (fs_n (by omega) rfl)))), hlt_g⟩)
  subst hA_
  have g194_ : fs [(344, 344, 5, 5), (344, 344, 9, 10), (344, 344, 33, 33), (344, 344, 36, 36), (344, 344, 64, 64), (358, 358, 5, 5), (360, 362, 40, 43), (363, 363, 80, 87), (364, 366, 0, 100000)] F F178_ := fs_tr g163_ s180_ rfl
  have rk195_ : rk K F178_ := rk_fs rk164_ s180_ (fs_rg rfl) rfl
  refine ga_aload_n (v := .ref 344) hm_184 rfl rfl rfl ?_
  refine ga_getr (b := 358) hm_184 rfl sc_344 rfl ?_
  refine fl_iconst hm_184 rfl ?_
  refine fl_iconst hm_184 rfl ?_
  refine fl_iast (z := 5) (v := 0) hm_184 rfl sc_358 (by omega) (by omega) (by omega) ?_
  refine ga_aload_n (v := .ref 344) hm_184 rfl rfl rfl ?_
  refine fl_iconst hm_184 rfl ?_
  refine fl_bipush hm_184 rfl rfl ?_
  obtain ⟨F196_, q197_⟩ : ∃ Fq_, Fq_ = (fl_u F178_ 358 (5 : Int).toNat 0) := ⟨_, rfl⟩
  rw [← q197_]
  have g198_ : gi F196_ := by rw [q197_]; exact gi_u (g179_) rfl (by omega) (by omega)
  have g199_ : fs [(344, 344, 5, 5), (344, 344, 9, 10), (344, 344, 33, 33), (344, 344, 36, 36), (344, 344, 64, 64), (358, 358, 5, 5), (360, 362, 40, 43), (363, 363, 80, 87), (364, 366, 0, 100000)] F F196_ := by rw [q197_]; exact fs_u (g194_) rfl
  have rk200_ : rk K F196_ := by rw [q197_]; exact rk_u (rk195_) (by first | decide | exact nc_ rfl | omega) (by first | decide | exact nc_ rfl | omega)
  have e201_ : F196_ 344 5 = F178_ 344 5 := by rw [q197_]; exact fl_u_ne (by first | exact nc_ rfl | decide | omega)
  have b202_ : 0 ≤ F178_ 344 5 ∧ F178_ 344 5 ≤ 600 := gi_g g179_ rfl
  refine gVv (nY := 4) (F := 6) (L := 142) (As := [.int (Int32.ofInt 5), .int (Int32.ofInt 40)]) (b := 344) (rest := []) hm_184 rfl hm_175 rfl rfl (fl_ob sc_344) rfl rfl rfl rfl rfl (by omega) (by omega) (mc_175z hG F196_ X g198_ (K) (5) (40) (2) (l) (tl) (pl) (ps) hgK rk200_ hkt (⟨by omega, by omega⟩) ((by rw [q197_]; exact (trm_u (trm_fs (trm_fs (trm_fs (trm_fs (trm_fs (trm_fs ht_g s36_ (by first | exact fs_rg rfl | exact fun r j hj => (fs_n (by omega) (fs_n (by omega) rfl)))) s62_ (by first | exact fs_rg rfl | exact fun r j hj => (fs_n (by omega) (fs_n (by omega) rfl)))) s93_ (by first | exact fs_rg rfl | exact fun r j hj => (fs_n (by omega) (fs_n (by omega) (fs_n (by omega) (fs_n (by omega) (fs_n (by omega) rfl))))))) s121_ (by first | exact fs_rg rfl | exact fun r j hj => (fs_n (by omega) (fs_n (by omega) rfl)))) s150_ (by first | exact fs_rg rfl | exact fun r j hj => (fs_n (by omega) (fs_n (by omega) rfl)))) s180_ (by first | exact fs_rg rfl | exact fun r j hj => (fs_n (by omega) (fs_n (by omega) rfl)))) (by first | decide | exact nc_ rfl | omega)))) (hlt_g) (by omega) ((by rw [q197_]; exact (rpn_u (rpn_fs (rpn_fs (rpn_fs (rpn_fs (rpn_fs (rpn_fs hpl_g s36_ (fun _ => (by first | exact fs_c rfl | exact (fs_n (by omega) (fs_n (by omega) rfl)))) (by first | exact fs_c rfl | exact (fs_n (by omega) (fs_n (by omega) rfl)))) s62_ (fun _ => (by first | exact fs_c rfl | exact (fs_n (by omega) (fs_n (by omega) rfl)))) (by first | exact fs_c rfl | exact (fs_n (by omega) (fs_n (by omega) rfl)))) s93_ (fun _ => (by first | exact fs_c rfl | exact (fs_n (by omega) (fs_n (by omega) (fs_n (by omega) (fs_n (by omega) (fs_n (by omega) rfl))))))) (by first | exact fs_c rfl | exact (fs_n (by omega) (fs_n (by omega) (fs_n (by omega) (fs_n (by omega) (fs_n (by omega) rfl))))))) s121_ (fun _ => (by first | exact fs_c rfl | exact (fs_n (by omega) (fs_n (by omega) rfl)))) (by first | exact fs_c rfl | exact (fs_n (by omega) (fs_n (by omega) rfl)))) s150_ (fun _ => (by first | exact fs_c rfl | exact (fs_n (by omega) (fs_n (by omega) rfl)))) (by first | exact fs_c rfl | exact (fs_n (by omega) (fs_n (by omega) rfl)))) s180_ (fun _ => (by first | exact fs_c rfl | exact (fs_n (by omega) (fs_n (by omega) rfl)))) (by first | exact fs_c rfl | exact (fs_n (by omega) (fs_n (by omega) rfl)))) (by first | decide | exact nc_ rfl | omega) (by first | decide | exact nc_ rfl | omega)))) (⟨(by rw [q197_]; exact (rprd_u (rprd_fs (rprd_fs (rprd_fs (rprd_fs (rprd_fs (rprd_fs hps_g.1 s36_ (by first | exact fs_rg rfl | exact fun r j hj => (fs_n (by omega) (fs_n (by omega) rfl)))) s62_ (by first | exact fs_rg rfl | exact fun r j hj => (fs_n (by omega) (fs_n (by omega) rfl)))) s93_ (by first | exact fs_rg rfl | exact fun r j hj => (fs_n (by omega) (fs_n (by omega) (fs_n (by omega) (fs_n (by omega) (fs_n (by omega) rfl))))))) s121_ (by first | exact fs_rg rfl | exact fun r j hj => (fs_n (by omega) (fs_n (by omega) rfl)))) s150_ (by first | exact fs_rg rfl | exact fun r j hj => (fs_n (by omega) (fs_n (by omega) rfl)))) s180_ (by first | exact fs_rg rfl | exact fun r j hj => (fs_n (by omega) (fs_n (by omega) rfl)))) (by first | decide | exact nc_ rfl | omega))), hps_g.2⟩) (by omega) (Or.inr (by omega)) (by rw [q197_]; exact fl_u_eq)) (fun _ _ h => False.elim h) ?_
  have e204_ : F196_ 344 10 = F178_ 344 10 := by rw [q197_]; exact fl_u_ne (by first | exact nc_ rfl | decide | omega)
  have b205_ : 0 ≤ F178_ 344 10 ∧ F178_ 344 10 ≤ 600 := gi_g g179_ rfl
  have e206_ : F196_ 344 9 = F178_ 344 9 := by rw [q197_]; exact fl_u_ne (by first | exact nc_ rfl | decide | omega)
  have b207_ : 0 ≤ F178_ 344 9 ∧ F178_ 344 9 ≤ 5 := gi_g g179_ rfl
  rintro A1_ (⟨F211_, hA_, g212_, s213_, c208_, c209_, c210_⟩ | ⟨F219_, hA_, g220_, s221_, c214_, c215_, c216_, c217_, c218_⟩)
  ·
    subst hA_
    have g222_ : fs [(344, 344, 5, 5), (344, 344, 9, 10), (344, 344, 33, 33), (344, 344, 36, 36), (344, 344, 64, 64), (358, 358, 5, 5), (360, 362, 40, 43), (363, 363, 80, 87), (364, 366, 0, 100000)] F F211_ := fs_tr g199_ s213_ rfl
    have rk223_ : rk K F211_ := rk_fs rk200_ s213_ (fs_rg rfl) rfl
    try simp only [e201_, e204_, e206_] at c209_
    have c209_s := c209_.1 (by omega)
    clear c209_
    have b224_ : 0 ≤ F211_ 344 9 ∧ F211_ 344 9 ≤ 5 := gi_g g212_ rfl
    have b225_ : 0 ≤ F211_ 344 10 ∧ F211_ 344 10 ≤ 600 := gi_g g212_ rfl
    have b226_ : 0 ≤ F211_ 344 5 ∧ F211_ 344 5 ≤ 600 := gi_g g212_ rfl
    have e227_ : Fg 5 2 = F 5 2 := (hf_Fg 5 2 rfl).trans (rfl)
    have e228_ : F34_ 5 2 = F 5 2 := (s36_ 5 2 rfl).trans (e227_)
    have e229_ : F60_ 5 2 = F 5 2 := (s62_ 5 2 rfl).trans (e228_)
    have e230_ : F91_ 5 2 = F 5 2 := (s93_ 5 2 rfl).trans (e229_)
    have e231_ : F119_ 5 2 = F 5 2 := (s121_ 5 2 rfl).trans (e230_)
    have e232_ : F148_ 5 2 = F 5 2 := (s150_ 5 2 rfl).trans (e231_)
    have e233_ : F178_ 5 2 = F 5 2 := (s180_ 5 2 rfl).trans (e232_)
    have e234_ : F196_ 5 2 = F 5 2 := by rw [q197_]; exact (fl_u_ne (by first | exact nc_ rfl | decide | omega)).trans (e233_)
    have e235_ : F211_ 5 2 = F 5 2 := (s213_ 5 2 rfl).trans (e234_)
    have b236_ : 0 ≤ F 5 2 ∧ F 5 2 ≤ 600 := gi_g hgi rfl
    exact mb_184_198 hG F X hgi K nm ts pl ps hgK hrk hkt hp h0 h5 hnm hts hpl hps h33 fr lo hfr hlo F211_ g212_ g222_ rk223_ (by omega) (⟨by omega, by omega⟩) (⟨by intro h0_; have hs_ := c209_s; rw [hq_, sp_r3, sp_part]; rw [c32_]; simp only [pb_r]; rw [c58_]; simp only [pb_r]; rw [si1_ok c88_.1]; simp only [pb_r]; rw [c117_]; simp only [pb_r]; rw [sp_part]; rw [c146_]; simp only [pb_r]; rw [c176_]; simp only [pb_r]; rw [hs_]; try (show Sum.inl _ = _); try (congr 2 <;> omega), fun h0_ => by exfalso; omega⟩) (⟨l, tl, (trm_fs (by rw [q197_]; exact (trm_u (trm_fs (trm_fs (trm_fs (trm_fs (trm_fs (trm_fs ht_g s36_ (by first | exact fs_rg rfl | exact fun r j hj => (fs_n (by omega) (fs_n (by omega) rfl)))) s62_ (by first | exact fs_rg rfl | exact fun r j hj => (fs_n (by omega) (fs_n (by omega) rfl)))) s93_ (by first | exact fs_rg rfl | exact fun r j hj => (fs_n (by omega) (fs_n (by omega) (fs_n (by omega) (fs_n (by omega) (fs_n (by omega) rfl))))))) s121_ (by first | exact fs_rg rfl | exact fun r j hj => (fs_n (by omega) (fs_n (by omega) rfl)))) s150_ (by first | exact fs_rg rfl | exact fun r j hj => (fs_n (by omega) (fs_n (by omega) rfl)))) s180_ (by first | exact fs_rg rfl | exact fun r j hj => (fs_n (by omega) (fs_n (by omega) rfl)))) (by first | decide | exact nc_ rfl | omega))) s213_ (by first | exact fs_rg rfl | exact fun r j hj => (fs_n (by omega) (fs_n (by omega) (fs_n (by omega) (fs_n (by omega) (fs_n (by omega) rfl))))))), hlt_g⟩)
  subst hA_
  have g237_ : fs [(344, 344, 5, 5), (344, 344, 9, 10), (344, 344, 33, 33), (344, 344, 36, 36), (344, 344, 64, 64), (358, 358, 5, 5), (360, 362, 40, 43), (363, 363, 80, 87), (364, 366, 0, 100000)] F F219_ := fs_tr g199_ s221_ rfl
  have rk238_ : rk K F219_ := rk_fs rk200_ s221_ (fs_rg rfl) rfl
  try simp only [e206_] at c214_
  try simp only [e201_] at c215_
  try simp only [e201_] at c218_
  refine ga_aload_n (v := .ref 344) hm_184 rfl rfl rfl ?_
  refine fl_bipush hm_184 rfl rfl ?_
  have b239_ : 0 ≤ F219_ 344 5 ∧ F219_ 344 5 ≤ 600 := gi_g g220_ rfl
  refine gVv (nY := 2) (F := 2) (L := 41) (As := [.int (Int32.ofInt 41)]) (b := 344) (rest := []) hm_184 rfl hm_51 rfl rfl (fl_ob sc_344) rfl rfl rfl rfl rfl (by omega) (by omega) (mc_51 hG F219_ X g220_ (K) (41) (1) hgK rk238_ hkt (⟨by omega, by omega⟩) (by omega) (by omega)) (fun _ _ h => False.elim h) ?_
  have b241_ : 0 ≤ F219_ 344 10 ∧ F219_ 344 10 ≤ 600 := gi_g g220_ rfl
  have b242_ : 0 ≤ F219_ 344 9 ∧ F219_ 344 9 ≤ 5 := gi_g g220_ rfl
  rintro A1_ (⟨F246_, hA_, g247_, s248_, c243_, c244_, c245_⟩ | ⟨F252_, hA_, g253_, s254_, c249_, c250_, c251_⟩)
  ·
    subst hA_
    have g255_ : fs [(344, 344, 5, 5), (344, 344, 9, 10), (344, 344, 33, 33), (344, 344, 36, 36), (344, 344, 64, 64), (358, 358, 5, 5), (360, 362, 40, 43), (363, 363, 80, 87), (364, 366, 0, 100000)] F F246_ := fs_tr g237_ s248_ rfl
    have rk256_ : rk K F246_ := rk_fs rk238_ s248_ (fs_rg rfl) rfl
    have c244_s := c244_.1 (by omega)
    clear c244_
    have b257_ : 0 ≤ F246_ 344 9 ∧ F246_ 344 9 ≤ 5 := gi_g g247_ rfl
    have b258_ : 0 ≤ F246_ 344 10 ∧ F246_ 344 10 ≤ 600 := gi_g g247_ rfl
    have b259_ : 0 ≤ F246_ 344 5 ∧ F246_ 344 5 ≤ 600 := gi_g g247_ rfl
    have e260_ : Fg 5 2 = F 5 2 := (hf_Fg 5 2 rfl).trans (rfl)
    have e261_ : F34_ 5 2 = F 5 2 := (s36_ 5 2 rfl).trans (e260_)
    have e262_ : F60_ 5 2 = F 5 2 := (s62_ 5 2 rfl).trans (e261_)
    have e263_ : F91_ 5 2 = F 5 2 := (s93_ 5 2 rfl).trans (e262_)
    have e264_ : F119_ 5 2 = F 5 2 := (s121_ 5 2 rfl).trans (e263_)
    have e265_ : F148_ 5 2 = F 5 2 := (s150_ 5 2 rfl).trans (e264_)
    have e266_ : F178_ 5 2 = F 5 2 := (s180_ 5 2 rfl).trans (e265_)
    have e267_ : F196_ 5 2 = F 5 2 := by rw [q197_]; exact (fl_u_ne (by first | exact nc_ rfl | decide | omega)).trans (e266_)
    have e268_ : F219_ 5 2 = F 5 2 := (s221_ 5 2 rfl).trans (e267_)
    have e269_ : F246_ 5 2 = F 5 2 := (s248_ 5 2 rfl).trans (e268_)
    have b270_ : 0 ≤ F 5 2 ∧ F 5 2 ≤ 600 := gi_g hgi rfl
    exact mb_184_204 hG F X hgi K nm ts pl ps hgK hrk hkt hp h0 h5 hnm hts hpl hps h33 fr lo hfr hlo F246_ g247_ g255_ rk256_ (by omega) (⟨by omega, by omega⟩) (⟨by intro h0_; have hs_ := c244_s; rw [hq_, sp_r3, sp_part]; rw [c32_]; simp only [pb_r]; rw [c58_]; simp only [pb_r]; rw [si1_ok c88_.1]; simp only [pb_r]; rw [c117_]; simp only [pb_r]; rw [sp_part]; rw [c146_]; simp only [pb_r]; rw [c176_]; simp only [pb_r]; rw [c215_]; simp only [pb_r]; rw [hs_]; try (show Sum.inl _ = _); try (congr 2 <;> omega), fun h0_ => by exfalso; omega⟩) (⟨l, tl, (trm_fs (trm_fs (by rw [q197_]; exact (trm_u (trm_fs (trm_fs (trm_fs (trm_fs (trm_fs (trm_fs ht_g s36_ (by first | exact fs_rg rfl | exact fun r j hj => (fs_n (by omega) (fs_n (by omega) rfl)))) s62_ (by first | exact fs_rg rfl | exact fun r j hj => (fs_n (by omega) (fs_n (by omega) rfl)))) s93_ (by first | exact fs_rg rfl | exact fun r j hj => (fs_n (by omega) (fs_n (by omega) (fs_n (by omega) (fs_n (by omega) (fs_n (by omega) rfl))))))) s121_ (by first | exact fs_rg rfl | exact fun r j hj => (fs_n (by omega) (fs_n (by omega) rfl)))) s150_ (by first | exact fs_rg rfl | exact fun r j hj => (fs_n (by omega) (fs_n (by omega) rfl)))) s180_ (by first | exact fs_rg rfl | exact fun r j hj => (fs_n (by omega) (fs_n (by omega) rfl)))) (by first | decide | exact nc_ rfl | omega))) s221_ (by first | exact fs_rg rfl | exact fun r j hj => (fs_n (by omega) (fs_n (by omega) (fs_n (by omega) (fs_n (by omega) (fs_n (by omega) rfl))))))) s248_ (by first | exact fs_rg rfl | exact fun r j hj => (fs_n (by omega) (fs_n (by omega) rfl)))), hlt_g⟩)
  subst hA_
  have g271_ : fs [(344, 344, 5, 5), (344, 344, 9, 10), (344, 344, 33, 33), (344, 344, 36, 36), (344, 344, 64, 64), (358, 358, 5, 5), (360, 362, 40, 43), (363, 363, 80, 87), (364, 366, 0, 100000)] F F252_ := fs_tr g237_ s254_ rfl
  have rk272_ : rk K F252_ := rk_fs rk238_ s254_ (fs_rg rfl) rfl
  refine ga_aload_n (v := .ref 344) hm_184 rfl rfl rfl ?_
  refine fl_bipush hm_184 rfl rfl ?_
  have b273_ : 0 ≤ F252_ 344 5 ∧ F252_ 344 5 ≤ 600 := gi_g g253_ rfl
  refine gVv (nY := 2) (F := 2) (L := 41) (As := [.int (Int32.ofInt 41)]) (b := 344) (rest := []) hm_184 rfl hm_51 rfl rfl (fl_ob sc_344) rfl rfl rfl rfl rfl (by omega) (by omega) (mc_51 hG F252_ X g253_ (K) (41) (1) hgK rk272_ hkt (⟨by omega, by omega⟩) (by omega) (by omega)) (fun _ _ h => False.elim h) ?_
  have b275_ : 0 ≤ F252_ 344 10 ∧ F252_ 344 10 ≤ 600 := gi_g g253_ rfl
  have b276_ : 0 ≤ F252_ 344 9 ∧ F252_ 344 9 ≤ 5 := gi_g g253_ rfl
  rintro A1_ (⟨F280_, hA_, g281_, s282_, c277_, c278_, c279_⟩ | ⟨F286_, hA_, g287_, s288_, c283_, c284_, c285_⟩)
  ·
    subst hA_
    have g289_ : fs [(344, 344, 5, 5), (344, 344, 9, 10), (344, 344, 33, 33), (344, 344, 36, 36), (344, 344, 64, 64), (358, 358, 5, 5), (360, 362, 40, 43), (363, 363, 80, 87), (364, 366, 0, 100000)] F F280_ := fs_tr g271_ s282_ rfl
    have rk290_ : rk K F280_ := rk_fs rk272_ s282_ (fs_rg rfl) rfl
    have c278_s := c278_.1 (by omega)
    clear c278_
    have b291_ : 0 ≤ F280_ 344 9 ∧ F280_ 344 9 ≤ 5 := gi_g g281_ rfl
    have b292_ : 0 ≤ F280_ 344 10 ∧ F280_ 344 10 ≤ 600 := gi_g g281_ rfl
    have b293_ : 0 ≤ F280_ 344 5 ∧ F280_ 344 5 ≤ 600 := gi_g g281_ rfl
    have e294_ : Fg 5 2 = F 5 2 := (hf_Fg 5 2 rfl).trans (rfl)
    have e295_ : F34_ 5 2 = F 5 2 := (s36_ 5 2 rfl).trans (e294_)
    have e296_ : F60_ 5 2 = F 5 2 := (s62_ 5 2 rfl).trans (e295_)
    have e297_ : F91_ 5 2 = F 5 2 := (s93_ 5 2 rfl).trans (e296_)
    have e298_ : F119_ 5 2 = F 5 2 := (s121_ 5 2 rfl).trans (e297_)
    have e299_ : F148_ 5 2 = F 5 2 := (s150_ 5 2 rfl).trans (e298_)
    have e300_ : F178_ 5 2 = F 5 2 := (s180_ 5 2 rfl).trans (e299_)
    have e301_ : F196_ 5 2 = F 5 2 := by rw [q197_]; exact (fl_u_ne (by first | exact nc_ rfl | decide | omega)).trans (e300_)
    have e302_ : F219_ 5 2 = F 5 2 := (s221_ 5 2 rfl).trans (e301_)
    have e303_ : F252_ 5 2 = F 5 2 := (s254_ 5 2 rfl).trans (e302_)
    have e304_ : F280_ 5 2 = F 5 2 := (s282_ 5 2 rfl).trans (e303_)
    have b305_ : 0 ≤ F 5 2 ∧ F 5 2 ≤ 600 := gi_g hgi rfl
    exact mb_184_210 hG F X hgi K nm ts pl ps hgK hrk hkt hp h0 h5 hnm hts hpl hps h33 fr lo hfr hlo F280_ g281_ g289_ rk290_ (by omega) (⟨by omega, by omega⟩) (⟨by intro h0_; have hs_ := c278_s; rw [hq_, sp_r3, sp_part]; rw [c32_]; simp only [pb_r]; rw [c58_]; simp only [pb_r]; rw [si1_ok c88_.1]; simp only [pb_r]; rw [c117_]; simp only [pb_r]; rw [sp_part]; rw [c146_]; simp only [pb_r]; rw [c176_]; simp only [pb_r]; rw [c215_]; simp only [pb_r]; rw [c250_]; simp only [pb_r]; rw [sp_close]; rw [hs_]; try (show Sum.inl _ = _); try (congr 2 <;> omega), fun h0_ => by exfalso; omega⟩) (⟨l, tl, (trm_fs (trm_fs (trm_fs (by rw [q197_]; exact (trm_u (trm_fs (trm_fs (trm_fs (trm_fs (trm_fs (trm_fs ht_g s36_ (by first | exact fs_rg rfl | exact fun r j hj => (fs_n (by omega) (fs_n (by omega) rfl)))) s62_ (by first | exact fs_rg rfl | exact fun r j hj => (fs_n (by omega) (fs_n (by omega) rfl)))) s93_ (by first | exact fs_rg rfl | exact fun r j hj => (fs_n (by omega) (fs_n (by omega) (fs_n (by omega) (fs_n (by omega) (fs_n (by omega) rfl))))))) s121_ (by first | exact fs_rg rfl | exact fun r j hj => (fs_n (by omega) (fs_n (by omega) rfl)))) s150_ (by first | exact fs_rg rfl | exact fun r j hj => (fs_n (by omega) (fs_n (by omega) rfl)))) s180_ (by first | exact fs_rg rfl | exact fun r j hj => (fs_n (by omega) (fs_n (by omega) rfl)))) (by first | decide | exact nc_ rfl | omega))) s221_ (by first | exact fs_rg rfl | exact fun r j hj => (fs_n (by omega) (fs_n (by omega) (fs_n (by omega) (fs_n (by omega) (fs_n (by omega) rfl))))))) s254_ (by first | exact fs_rg rfl | exact fun r j hj => (fs_n (by omega) (fs_n (by omega) rfl)))) s282_ (by first | exact fs_rg rfl | exact fun r j hj => (fs_n (by omega) (fs_n (by omega) rfl)))), hlt_g⟩)
  subst hA_
  have g306_ : fs [(344, 344, 5, 5), (344, 344, 9, 10), (344, 344, 33, 33), (344, 344, 36, 36), (344, 344, 64, 64), (358, 358, 5, 5), (360, 362, 40, 43), (363, 363, 80, 87), (364, 366, 0, 100000)] F F286_ := fs_tr g271_ s288_ rfl
  have rk307_ : rk K F286_ := rk_fs rk272_ s288_ (fs_rg rfl) rfl
  refine ga_aload_n (v := .ref 344) hm_184 rfl rfl rfl ?_
  refine gIi (nY := 1) (F := 0) (L := 0) (As := []) (b := 344) (rest := []) hm_184 rfl hm_59 rfl rfl (fl_ob sc_344) rfl rfl rfl rfl rfl (by omega) (by omega) ?_
  intro f308_ l309_ h310_ h311_
  show fl_R xi_ms 59 f308_ l309_ 0 [(0, .ref 344)] [] _ _
  refine ga_aload_n (v := .ref 344) hm_59 rfl rfl rfl ?_
  have b312_ : 0 ≤ F286_ 344 9 ∧ F286_ 344 9 ≤ 5 := gi_g g287_ rfl
  refine ga_geti (z := F286_ 344 9) hm_59 rfl sc_344 rfl (rfl) ?_
  refine fl_if_le (a := F286_ 344 9) hm_59 rfl ⟨by omega, by omega⟩ (fun h313_ => ?_) (fun h314_ => ?_)
  ·
    refine fl_iconst hm_59 rfl ?_
    refine gr_i hm_59 rfl rfl (ga_nb (by omega)) ?_
    clear h310_ h311_ f308_ l309_
    refine fl_if_ne hm_184 rfl ⟨by omega, by omega⟩ (fun h => absurd h (by omega)) (fun _ => ?_)
    refine ga_aload_n (v := .ref 344) hm_184 rfl rfl rfl ?_
    have b315_ : 0 ≤ F286_ 344 5 ∧ F286_ 344 5 ≤ 600 := gi_g g287_ rfl
    refine ga_geti (z := F286_ 344 5) hm_184 rfl sc_344 rfl (rfl) ?_
    refine ga_aload_n (v := .ref 344) hm_184 rfl rfl rfl ?_
    have e316_ : F286_ 344 4 = K 1 6 - 1 := rk307_.2.1
    refine ga_geti (z := K 1 6 - 1) hm_184 rfl sc_344 rfl (e316_) ?_
    refine fl_icmp_ge (a := F286_ 344 5) (b := K 1 6 - 1) hm_184 rfl ⟨by omega, by omega⟩ ⟨by omega, by omega⟩ (fun h317_ => ?_) (fun h318_ => ?_)
    ·
      refine gr_v hm_184 rfl rfl ?_
      have b319_ : 0 ≤ F 344 9 ∧ F 344 9 ≤ 5 := gi_g hgi rfl
      have e320_ : F91_ 344 36 = Fg 344 36 := (s93_ 344 36 rfl).trans (e79_)
      have e321_ : F119_ 344 36 = Fg 344 36 := (s121_ 344 36 rfl).trans (e320_)
      have e322_ : F148_ 344 36 = Fg 344 36 := (s150_ 344 36 rfl).trans (e321_)
      have e323_ : F178_ 344 36 = Fg 344 36 := (s180_ 344 36 rfl).trans (e322_)
      have e324_ : F196_ 344 36 = Fg 344 36 := by rw [q197_]; exact (fl_u_ne (by first | exact nc_ rfl | decide | omega)).trans (e323_)
      have e325_ : F219_ 344 36 = Fg 344 36 := (s221_ 344 36 rfl).trans (e324_)
      have e326_ : F252_ 344 36 = Fg 344 36 := (s254_ 344 36 rfl).trans (e325_)
      have e327_ : F286_ 344 36 = Fg 344 36 := (s288_ 344 36 rfl).trans (e326_)
      have e328_ : F119_ 344 64 = F91_ 344 64 := (s121_ 344 64 rfl).trans (rfl)
      have e329_ : F148_ 344 64 = F91_ 344 64 := (s150_ 344 64 rfl).trans (e328_)
      have e330_ : F178_ 344 64 = F91_ 344 64 := (s180_ 344 64 rfl).trans (e329_)
      have e331_ : F196_ 344 64 = F91_ 344 64 := by rw [q197_]; exact (fl_u_ne (by first | exact nc_ rfl | decide | omega)).trans (e330_)
      have e332_ : F219_ 344 64 = F91_ 344 64 := (s221_ 344 64 rfl).trans (e331_)
      have e333_ : F252_ 344 64 = F91_ 344 64 := (s254_ 344 64 rfl).trans (e332_)
      have e334_ : F286_ 344 64 = F91_ 344 64 := (s288_ 344 64 rfl).trans (e333_)
      have b335_ : -9223372036854775808 ≤ F91_ 344 64 ∧ F91_ 344 64 ≤ 9223372036854775807 := gi_g g92_ rfl
      have e336_ : F252_ 358 5 = F219_ 358 5 := (s254_ 358 5 rfl).trans (rfl)
      have e337_ : F286_ 358 5 = F219_ 358 5 := (s288_ 358 5 rfl).trans (e336_)
      have b338_ : 0 ≤ F219_ 358 5 ∧ F219_ 358 5 ≤ 4 := gi_g g220_ rfl
      have e339_ : Fg 5 2 = F 5 2 := (hf_Fg 5 2 rfl).trans (rfl)
      have e340_ : F34_ 5 2 = F 5 2 := (s36_ 5 2 rfl).trans (e339_)
      have e341_ : F60_ 5 2 = F 5 2 := (s62_ 5 2 rfl).trans (e340_)
      have e342_ : F91_ 5 2 = F 5 2 := (s93_ 5 2 rfl).trans (e341_)
      have e343_ : F119_ 5 2 = F 5 2 := (s121_ 5 2 rfl).trans (e342_)
      have e344_ : F148_ 5 2 = F 5 2 := (s150_ 5 2 rfl).trans (e343_)
      have e345_ : F178_ 5 2 = F 5 2 := (s180_ 5 2 rfl).trans (e344_)
      have e346_ : F196_ 5 2 = F 5 2 := by rw [q197_]; exact (fl_u_ne (by first | exact nc_ rfl | decide | omega)).trans (e345_)
      have e347_ : F219_ 5 2 = F 5 2 := (s221_ 5 2 rfl).trans (e346_)
      have e348_ : F252_ 5 2 = F 5 2 := (s254_ 5 2 rfl).trans (e347_)
      have e349_ : F286_ 5 2 = F 5 2 := (s288_ 5 2 rfl).trans (e348_)
      have b350_ : 0 ≤ F 5 2 ∧ F 5 2 ≤ 600 := gi_g hgi rfl
      exact Or.inr (⟨F286_, rfl, g287_, g306_, (by omega), (⟨l, tl, by rw [hq_, sp_r3, sp_part]; rw [c32_]; simp only [pb_r]; rw [c58_]; simp only [pb_r]; rw [si1_ok c88_.1]; simp only [pb_r]; rw [c117_]; simp only [pb_r]; rw [sp_part]; rw [c146_]; simp only [pb_r]; rw [c176_]; simp only [pb_r]; rw [c215_]; simp only [pb_r]; rw [c250_]; simp only [pb_r]; rw [sp_close]; rw [c284_]; simp only [pb_r]; rw [sp_kind, if_pos ((rkt_p hkt (p := F286_ 344 5) (by omega) (by omega) hgK).2.2 (by omega)).2]; simp only [pb_r], (trm_fs (trm_fs (trm_fs (by rw [q197_]; exact (trm_u (trm_fs (trm_fs (trm_fs (trm_fs (trm_fs (trm_fs ht_g s36_ (by first | exact fs_rg rfl | exact fun r j hj => (fs_n (by omega) (fs_n (by omega) rfl)))) s62_ (by first | exact fs_rg rfl | exact fun r j hj => (fs_n (by omega) (fs_n (by omega) rfl)))) s93_ (by first | exact fs_rg rfl | exact fun r j hj => (fs_n (by omega) (fs_n (by omega) (fs_n (by omega) (fs_n (by omega) (fs_n (by omega) rfl))))))) s121_ (by first | exact fs_rg rfl | exact fun r j hj => (fs_n (by omega) (fs_n (by omega) rfl)))) s150_ (by first | exact fs_rg rfl | exact fun r j hj => (fs_n (by omega) (fs_n (by omega) rfl)))) s180_ (by first | exact fs_rg rfl | exact fun r j hj => (fs_n (by omega) (fs_n (by omega) rfl)))) (by first | decide | exact nc_ rfl | omega))) s221_ (by first | exact fs_rg rfl | exact fun r j hj => (fs_n (by omega) (fs_n (by omega) (fs_n (by omega) (fs_n (by omega) (fs_n (by omega) rfl))))))) s254_ (by first | exact fs_rg rfl | exact fun r j hj => (fs_n (by omega) (fs_n (by omega) rfl)))) s288_ (by first | exact fs_rg rfl | exact fun r j hj => (fs_n (by omega) (fs_n (by omega) rfl)))), Eq.trans ((Eq.trans (a := F286_ 344 36) (b := F252_ 344 36) (s288_ 344 36 (by first | exact fs_c rfl | exact (fs_n (by omega) (fs_n (by omega) rfl)))) (Eq.trans (a := F252_ 344 36) (b := F219_ 344 36) (s254_ 344 36 (by first | exact fs_c rfl | exact (fs_n (by omega) (fs_n (by omega) rfl)))) (Eq.trans (a := F219_ 344 36) (b := F196_ 344 36) (s221_ 344 36 (by first | exact fs_c rfl | exact (fs_n (by omega) (fs_n (by omega) (fs_n (by omega) (fs_n (by omega) (fs_n (by omega) rfl))))))) (Eq.trans (a := F196_ 344 36) (b := F178_ 344 36) (by rw [q197_]; exact (fl_u_ne (by first | exact nc_ rfl | decide | omega))) (Eq.trans (a := F178_ 344 36) (b := F148_ 344 36) (s180_ 344 36 (by first | exact fs_c rfl | exact (fs_n (by omega) (fs_n (by omega) rfl)))) (Eq.trans (a := F148_ 344 36) (b := F119_ 344 36) (s150_ 344 36 (by first | exact fs_c rfl | exact (fs_n (by omega) (fs_n (by omega) rfl)))) (Eq.trans (a := F119_ 344 36) (b := F91_ 344 36) (s121_ 344 36 (by first | exact fs_c rfl | exact (fs_n (by omega) (fs_n (by omega) rfl)))) (Eq.trans (a := F91_ 344 36) (b := F60_ 344 36) (s93_ 344 36 (by first | exact fs_c rfl | exact (fs_n (by omega) (fs_n (by omega) (fs_n (by omega) (fs_n (by omega) (fs_n (by omega) rfl))))))) (Eq.trans (a := F60_ 344 36) (b := F34_ 344 36) (s62_ 344 36 (by first | exact fs_c rfl | exact (fs_n (by omega) (fs_n (by omega) rfl)))) (show F34_ 344 36 = Fg 344 36 from (s36_ 344 36 (by first | exact fs_c rfl | exact (fs_n (by omega) (fs_n (by omega) rfl))))))))))))))) hfc_.1, fnr_cg hfc_.2 (fun j => (Eq.trans (a := F286_ 366 j) (b := F252_ 366 j) (s288_ 366 j (by first | exact fs_c rfl | exact (fs_n (by omega) (fs_n (by omega) rfl)))) (Eq.trans (a := F252_ 366 j) (b := F219_ 366 j) (s254_ 366 j (by first | exact fs_c rfl | exact (fs_n (by omega) (fs_n (by omega) rfl)))) (Eq.trans (a := F219_ 366 j) (b := F196_ 366 j) (s221_ 366 j (by first | exact fs_c rfl | exact (fs_n (by omega) (fs_n (by omega) (fs_n (by omega) (fs_n (by omega) (fs_n (by omega) rfl))))))) (Eq.trans (a := F196_ 366 j) (b := F178_ 366 j) (by rw [q197_]; exact (fl_u_ne (by first | exact nc_ rfl | decide | omega))) (Eq.trans (a := F178_ 366 j) (b := F148_ 366 j) (s180_ 366 j (by first | exact fs_c rfl | exact (fs_n (by omega) (fs_n (by omega) rfl)))) (Eq.trans (a := F148_ 366 j) (b := F119_ 366 j) (s150_ 366 j (by first | exact fs_c rfl | exact (fs_n (by omega) (fs_n (by omega) rfl)))) (Eq.trans (a := F119_ 366 j) (b := F91_ 366 j) (s121_ 366 j (by first | exact fs_c rfl | exact (fs_n (by omega) (fs_n (by omega) rfl)))) (Eq.trans (a := F91_ 366 j) (b := F60_ 366 j) (s93_ 366 j (by first | exact fs_c rfl | exact (fs_n (by omega) (fs_n (by omega) (fs_n (by omega) (fs_n (by omega) (fs_n (by omega) rfl))))))) (Eq.trans (a := F60_ 366 j) (b := F34_ 366 j) (s62_ 366 j (by first | exact fs_c rfl | exact (fs_n (by omega) (fs_n (by omega) rfl)))) (show F34_ 366 j = Fg 366 j from (s36_ 366 j (by first | exact fs_c rfl | exact (fs_n (by omega) (fs_n (by omega) rfl))))))))))))))), by rw [(prb_gg (pl := pl) (ps := ps) hh_ c32_ c58_ (si1_ok c88_.1) c117_ c146_ c176_)]; exact rcl_lfr c218_.1 (show lfr 0 0 0 F219_ F286_ from (lfr_fg (lfr_fg lfr_r s254_ rfl) s288_ rfl)) (Or.inr (Nat.zero_le _)), by rw [(prb_gg (pl := pl) (ps := ps) hh_ c32_ c58_ (si1_ok c88_.1) c117_ c146_ c176_)]; exact Eq.trans ((Eq.trans (a := F286_ 358 5) (b := F252_ 358 5) (s288_ 358 5 (by first | exact fs_c rfl | exact (fs_n (by omega) (fs_n (by omega) rfl)))) (show F252_ 358 5 = F219_ 358 5 from (s254_ 358 5 (by first | exact fs_c rfl | exact (fs_n (by omega) (fs_n (by omega) rfl))))))) c218_.2, fun h9_ => by rw [prb_ii (pl := pl) (ps := ps) hh_ c32_ c58_, (show F286_ 366 = F60_ 366 from funext (fun j => (Eq.trans (a := F286_ 366 j) (b := F252_ 366 j) (s288_ 366 j (by first | exact fs_c rfl | exact (fs_n (by omega) (fs_n (by omega) rfl)))) (Eq.trans (a := F252_ 366 j) (b := F219_ 366 j) (s254_ 366 j (by first | exact fs_c rfl | exact (fs_n (by omega) (fs_n (by omega) rfl)))) (Eq.trans (a := F219_ 366 j) (b := F196_ 366 j) (s221_ 366 j (by first | exact fs_c rfl | exact (fs_n (by omega) (fs_n (by omega) (fs_n (by omega) (fs_n (by omega) (fs_n (by omega) rfl))))))) (Eq.trans (a := F196_ 366 j) (b := F178_ 366 j) (by rw [q197_]; exact (fl_u_ne (by first | exact nc_ rfl | decide | omega))) (Eq.trans (a := F178_ 366 j) (b := F148_ 366 j) (s180_ 366 j (by first | exact fs_c rfl | exact (fs_n (by omega) (fs_n (by omega) rfl)))) (Eq.trans (a := F148_ 366 j) (b := F119_ 366 j) (s150_ 366 j (by first | exact fs_c rfl | exact (fs_n (by omega) (fs_n (by omega) rfl)))) (Eq.trans (a := F119_ 366 j) (b := F91_ 366 j) (s121_ 366 j (by first | exact fs_c rfl | exact (fs_n (by omega) (fs_n (by omega) rfl)))) (show F91_ 366 j = F60_ 366 j from (s93_ 366 j (by first | exact fs_c rfl | exact (fs_n (by omega) (fs_n (by omega) (fs_n (by omega) (fs_n (by omega) (fs_n (by omega) rfl)))))))))))))))))]; exact Eq.trans ((Eq.trans (a := F286_ 344 64) (b := F252_ 344 64) (s288_ 344 64 (by first | exact fs_c rfl | exact (fs_n (by omega) (fs_n (by omega) rfl)))) (Eq.trans (a := F252_ 344 64) (b := F219_ 344 64) (s254_ 344 64 (by first | exact fs_c rfl | exact (fs_n (by omega) (fs_n (by omega) rfl)))) (Eq.trans (a := F219_ 344 64) (b := F196_ 344 64) (s221_ 344 64 (by first | exact fs_c rfl | exact (fs_n (by omega) (fs_n (by omega) (fs_n (by omega) (fs_n (by omega) (fs_n (by omega) rfl))))))) (Eq.trans (a := F196_ 344 64) (b := F178_ 344 64) (by rw [q197_]; exact (fl_u_ne (by first | exact nc_ rfl | decide | omega))) (Eq.trans (a := F178_ 344 64) (b := F148_ 344 64) (s180_ 344 64 (by first | exact fs_c rfl | exact (fs_n (by omega) (fs_n (by omega) rfl)))) (Eq.trans (a := F148_ 344 64) (b := F119_ 344 64) (s150_ 344 64 (by first | exact fs_c rfl | exact (fs_n (by omega) (fs_n (by omega) rfl)))) (show F119_ 344 64 = F91_ 344 64 from (s121_ 344 64 (by first | exact fs_c rfl | exact (fs_n (by omega) (fs_n (by omega) rfl)))))))))))) (c90_ (by omega))⟩), (⟨by omega, by omega⟩)⟩)
    refine ga_aload_n (v := .ref 344) hm_184 rfl rfl rfl ?_
    refine fl_iconst hm_184 rfl ?_
    refine gVv (nY := 2) (F := 0) (L := 0) (As := [.int (Int32.ofInt 1)]) (b := 344) (rest := []) hm_184 rfl hm_54 rfl rfl (fl_ob sc_344) rfl rfl rfl rfl rfl (by omega) (by omega) (mc_54 hG F286_ X g287_ (K) (1) hgK rk307_ hkt (⟨by omega, by omega⟩) (⟨by omega, by omega⟩)) (fun _ _ h => False.elim h) ?_
    have b352_ : 0 ≤ F286_ 344 10 ∧ F286_ 344 10 ≤ 600 := gi_g g287_ rfl
    rintro A1_ ⟨F356_, hA_, g357_, s358_, c353_, c354_, c355_⟩
    subst hA_
    have g359_ : fs [(344, 344, 5, 5), (344, 344, 9, 10), (344, 344, 33, 33), (344, 344, 36, 36), (344, 344, 64, 64), (358, 358, 5, 5), (360, 362, 40, 43), (363, 363, 80, 87), (364, 366, 0, 100000)] F F356_ := fs_tr g306_ s358_ rfl
    have rk360_ : rk K F356_ := rk_fs rk307_ s358_ (fs_rg rfl) rfl
    have c354_s := c354_.1 (by omega)
    clear c354_
    refine gr_v hm_184 rfl rfl ?_
    have b361_ : 0 ≤ F356_ 344 9 ∧ F356_ 344 9 ≤ 5 := gi_g g357_ rfl
    have e362_ : F356_ 344 5 = F286_ 344 5 := (s358_ 344 5 rfl).trans (rfl)
    have b363_ : 0 ≤ F356_ 344 10 ∧ F356_ 344 10 ≤ 600 := gi_g g357_ rfl
    have b364_ : 0 ≤ F 344 10 ∧ F 344 10 ≤ 600 := gi_g hgi rfl
    have b365_ : 0 ≤ F 344 9 ∧ F 344 9 ≤ 5 := gi_g hgi rfl
    exact Or.inl ⟨F356_, rfl, g357_, g359_, (by omega), (⟨by intro h0_; have hs_ := c354_s; rw [hq_, sp_r3, sp_part]; rw [c32_]; simp only [pb_r]; rw [c58_]; simp only [pb_r]; rw [si1_ok c88_.1]; simp only [pb_r]; rw [c117_]; simp only [pb_r]; rw [sp_part]; rw [c146_]; simp only [pb_r]; rw [c176_]; simp only [pb_r]; rw [c215_]; simp only [pb_r]; rw [c250_]; simp only [pb_r]; rw [sp_close]; rw [c284_]; simp only [pb_r]; rw [sp_kind, if_neg (hko.2.2 (F286_ 344 5) (by omega) (by omega)).1]; show Sum.inl (1, K 4 _) = _; congr 2 <;> omega, fun h0_ => by exfalso; omega⟩), (⟨by omega, by omega⟩)⟩
  exfalso; omega
set_option maxHeartbeats 16000000 in
theorem mg_184_98 {G : Nat → Nat → Option Nat} (hG : gg G) (F : fl_N) (X : xi_H) (hgi : gi F) (K : fl_N) (nm : Int) (ts pl : List Int) (ps : List (List Int)) (hgK : gi K) (hrk : rk K F) (hkt : rkt K) (hp : 0 ≤ F 344 5 ∧ F 344 5 ≤ K 1 6 - 1) (h0 : F 344 9 = 0) (h5 : F 344 5 = 0) (hnm : nrel nm (F 344 14)) (hts : rpn (F 349) (F 344 15) ts) (hpl : rpn (F 350) (F 344 17) pl) (hps : rprd F ps ∧ ps.length = pl.length) (h33 : F 344 33 = 0) (fr lo : Nat) (hfr : 7 ≤ fr) (hlo : 165 ≤ lo) (Fg : fl_N) (hg_Fg : gi Fg) (hf_Fg : fs [(344, 344, 5, 5), (344, 344, 9, 10), (344, 344, 33, 33), (344, 344, 36, 36), (344, 344, 64, 64), (358, 358, 5, 5), (360, 362, 40, 43), (363, 363, 80, 87), (364, 366, 0, 100000)] F Fg) (hrk_g : rk K Fg) (h0g : Fg 344 9 = 0 ∧ F 344 9 = 0) (hp_g : 0 ≤ Fg 344 5 ∧ Fg 344 5 ≤ K 1 6 - 1) (hq_ : sp_prb K nm ts pl ps = sp_r2 K ts pl ps (Fg 344 5)) (hts_g : rpn (Fg 349) (Fg 344 15) ts) (hpl_g : rpn (Fg 350) (Fg 344 17) pl) (hps_g : rprd Fg ps ∧ ps.length = pl.length) (h33g : Fg 344 33 = 0) (hh_ : pr_h K nm ts = sp_rh K ts (Fg 344 5)) : fl_R xi_ms 184 fr lo 98 [(0, .ref 344)] [] (fl_H sh_T G Fg ++ X) (pq_184 G F X K nm ts pl ps) := by
  have hP := (rkt_p hkt hp.1 hp.2 hgK).1
  have hK16 : 0 ≤ K 1 6 ∧ K 1 6 ≤ 601 := gi_g hgK rfl
  have hko := hkt.1
  refine fl_iconst hm_184 rfl ?_
  refine ga_istore_n (lv2 := [(3, .int (Int32.ofInt 1)), (0, .ref 344)]) hm_184 rfl (Nat.le_of_ble_eq_true rfl) rfl ?_
  have b24_ : 0 ≤ Fg 344 5 ∧ Fg 344 5 ≤ 600 := gi_g hg_Fg rfl
  have L22_ : ∀ (n21_ : Nat) (mo : Int) (l : List Int) (tl : List Int) (F1 : fl_N), (7 - F1 344 33 : Int).toNat = n21_ → (gi F1) → (fs [(344, 344, 5, 5), (344, 344, 9, 10), (344, 344, 33, 33), (364, 365, 0, 100000)] Fg F1) → (F1 344 9 = 0) → ((mo = 1 ∧ ((l.length : Int) = 0 ∨ ¬ K 3 (F1 344 5).toNat = 1)) ∨ (mo = 0 ∧ 0 < (l.length : Int) ∧ K 3 (F1 344 5).toNat = 1)) → (0 ≤ F1 344 5 ∧ F1 344 5 ≤ K 1 6 - 1) → (trm F1 5 2 l tl ∧ l.length = tl.length) → (sp_objs K ts 6 [] [] (Fg 344 5) = sp_objs K ts (6 - l.length) l tl (F1 344 5)) → fl_R xi_ms 184 fr lo 100 [(3, .int (Int32.ofInt mo)), (0, .ref 344)] [] (fl_H sh_T G F1 ++ X) (pq_184 G F X K nm ts pl ps) := by
    intro n21_
    induction n21_ using Nat.strongRecOn with
    | ind n21_ ih23_ =>
    intro mo l tl F1 hn25_ hg_F1 hf_F1 hk hmo hp1 ht1 hspo
    have g26_ : fs [(344, 344, 5, 5), (344, 344, 9, 10), (344, 344, 33, 33), (344, 344, 36, 36), (344, 344, 64, 64), (358, 358, 5, 5), (360, 362, 40, 43), (363, 363, 80, 87), (364, 366, 0, 100000)] F F1 := fs_tr hf_Fg hf_F1 rfl
    have rk27_ : rk K F1 := rk_fs hrk_g hf_F1 (fs_rg rfl) rfl
    have hP1 := (rkt_p hkt (p := F1 344 5) (by omega) (by omega) hgK).1
    have hb33 : 0 ≤ F1 344 33 ∧ F1 344 33 ≤ 6 := gi_g hg_F1 rfl
    have hT1_ := (tr5 ht1.1).1.1
    refine ga_iload_n (z := mo) hm_184 rfl rfl ?_
    refine fl_if_eq (a := mo) hm_184 rfl ⟨by omega, by omega⟩ (fun h28_ => ?_) (fun h29_ => ?_)
    ·
      refine ga_aload_n (v := .ref 344) hm_184 rfl rfl rfl ?_
      refine fl_bipush hm_184 rfl rfl ?_
      have b30_ : 0 ≤ F1 344 5 ∧ F1 344 5 ≤ 600 := gi_g hg_F1 rfl
      refine gVv (nY := 2) (F := 2) (L := 41) (As := [.int (Int32.ofInt 41)]) (b := 344) (rest := []) hm_184 rfl hm_51 rfl rfl (fl_ob sc_344) rfl rfl rfl rfl rfl (by omega) (by omega) (mc_51 hG F1 X hg_F1 (K) (41) (1) hgK rk27_ hkt (⟨by omega, by omega⟩) (by omega) (by omega)) (fun _ _ h => False.elim h) ?_
      have b32_ : 0 ≤ F1 344 10 ∧ F1 344 10 ≤ 600 := gi_g hg_F1 rfl
      have b33_ : 0 ≤ F1 344 9 ∧ F1 344 9 ≤ 5 := gi_g hg_F1 rfl
      rintro A1_ (⟨F37_, hA_, g38_, s39_, c34_, c35_, c36_⟩ | ⟨F43_, hA_, g44_, s45_, c40_, c41_, c42_⟩)
      ·
        subst hA_
        have g46_ : fs [(344, 344, 5, 5), (344, 344, 9, 10), (344, 344, 33, 33), (344, 344, 36, 36), (344, 344, 64, 64), (358, 358, 5, 5), (360, 362, 40, 43), (363, 363, 80, 87), (364, 366, 0, 100000)] F F37_ := fs_tr g26_ s39_ rfl
        have rk47_ : rk K F37_ := rk_fs rk27_ s39_ (fs_rg rfl) rfl
        have c35_s := c35_.1 (by omega)
        clear c35_
        have b48_ : 0 ≤ F37_ 344 9 ∧ F37_ 344 9 ≤ 5 := gi_g g38_ rfl
        have b49_ : 0 ≤ F37_ 344 10 ∧ F37_ 344 10 ≤ 600 := gi_g g38_ rfl
        have b50_ : 0 ≤ F37_ 344 5 ∧ F37_ 344 5 ≤ 600 := gi_g g38_ rfl
        have e51_ : Fg 5 2 = F 5 2 := (hf_Fg 5 2 rfl).trans (rfl)
        have e52_ : F1 5 2 = F 5 2 := (hf_F1 5 2 rfl).trans (e51_)
        have e53_ : F37_ 5 2 = F 5 2 := (s39_ 5 2 rfl).trans (e52_)
        have b54_ : 0 ≤ F 5 2 ∧ F 5 2 ≤ 600 := gi_g hgi rfl
        exact fl_R_sub (lv' := [(0, .ref 344)]) rfl rfl (mb_184_139 hG F X hgi K nm ts pl ps hgK hrk hkt hp h0 h5 hnm hts hpl hps h33 fr lo hfr hlo F37_ g38_ g46_ rk47_ (by omega) (⟨by omega, by omega⟩) (⟨by intro h0_; have hs_ := c35_s; rw [hq_, sp_r2]; rw [hspo, so_e (by omega) (by omega)]; simp only [pb_r]; rw [hs_]; try (show Sum.inl _ = _); try (congr 2 <;> omega), fun h0_ => by exfalso; omega⟩) (⟨l, tl, (trm_fs ht1.1 s39_ (by first | exact fs_rg rfl | exact fun r j hj => (fs_n (by omega) (fs_n (by omega) rfl)))), ht1.2⟩))
      subst hA_
      have g55_ : fs [(344, 344, 5, 5), (344, 344, 9, 10), (344, 344, 33, 33), (344, 344, 36, 36), (344, 344, 64, 64), (358, 358, 5, 5), (360, 362, 40, 43), (363, 363, 80, 87), (364, 366, 0, 100000)] F F43_ := fs_tr g26_ s45_ rfl
      have rk56_ : rk K F43_ := rk_fs rk27_ s45_ (fs_rg rfl) rfl
      refine ga_aload_n (v := .ref 344) hm_184 rfl rfl rfl ?_
      refine gIi (nY := 1) (F := 0) (L := 0) (As := []) (b := 344) (rest := []) hm_184 rfl hm_59 rfl rfl (fl_ob sc_344) rfl rfl rfl rfl rfl (by omega) (by omega) ?_
      intro f57_ l58_ h59_ h60_
      show fl_R xi_ms 59 f57_ l58_ 0 [(0, .ref 344)] [] _ _
      refine ga_aload_n (v := .ref 344) hm_59 rfl rfl rfl ?_
      have b61_ : 0 ≤ F43_ 344 9 ∧ F43_ 344 9 ≤ 5 := gi_g g44_ rfl
      refine ga_geti (z := F43_ 344 9) hm_59 rfl sc_344 rfl (rfl) ?_
      refine fl_if_le (a := F43_ 344 9) hm_59 rfl ⟨by omega, by omega⟩ (fun h62_ => ?_) (fun h63_ => ?_)
      ·
        refine fl_iconst hm_59 rfl ?_
        refine gr_i hm_59 rfl rfl (ga_nb (by omega)) ?_
        clear h59_ h60_ f57_ l58_
        refine fl_if_ne hm_184 rfl ⟨by omega, by omega⟩ (fun h => absurd h (by omega)) (fun _ => ?_)
        refine ga_aload_n (v := .ref 344) hm_184 rfl rfl rfl ?_
        refine gVv (nY := 6) (F := 1) (L := 22) (As := []) (b := 344) (rest := []) hm_184 rfl hm_171 rfl rfl (fl_ob sc_344) rfl rfl rfl rfl rfl (by omega) (by omega) (mc_171 hG F43_ X g44_ (ps) (tl) (⟨(rprd_fs (rprd_fs hps_g.1 hf_F1 (by first | exact fs_rg rfl | exact fun r j hj => (fs_n (by omega) (fs_n (by omega) (fs_n (by omega) (fs_n (by omega) rfl)))))) s45_ (by first | exact fs_rg rfl | exact fun r j hj => (fs_n (by omega) (fs_n (by omega) rfl)))), by have h9_ := (rpn_fs (rpn_fs hpl_g hf_F1 (fun _ => (by first | exact fs_c rfl | exact (fs_n (by omega) (fs_n (by omega) (fs_n (by omega) (fs_n (by omega) rfl)))))) (by first | exact fs_c rfl | exact (fs_n (by omega) (fs_n (by omega) (fs_n (by omega) (fs_n (by omega) rfl)))))) s45_ (fun _ => (by first | exact fs_c rfl | exact (fs_n (by omega) (fs_n (by omega) rfl)))) (by first | exact fs_c rfl | exact (fs_n (by omega) (fs_n (by omega) rfl)))).1; have h8_ := hps_g.2; omega⟩) (⟨by have h9_ := (tr5 (trm_fs ht1.1 s45_ (by first | exact fs_rg rfl | exact fun r j hj => (fs_n (by omega) (fs_n (by omega) rfl))))).1.1; have h8_ := ht1.2; omega, (tr5 (trm_fs ht1.1 s45_ (by first | exact fs_rg rfl | exact fun r j hj => (fs_n (by omega) (fs_n (by omega) rfl))))).2⟩)) (fun _ _ h => False.elim h) ?_
        rintro A1_ ⟨F67_, hA_, g68_, s69_, c65_, c66_⟩
        subst hA_
        have g70_ : fs [(344, 344, 5, 5), (344, 344, 9, 10), (344, 344, 33, 33), (344, 344, 36, 36), (344, 344, 64, 64), (358, 358, 5, 5), (360, 362, 40, 43), (363, 363, 80, 87), (364, 366, 0, 100000)] F F67_ := fs_tr g55_ s69_ rfl
        have rk71_ : rk K F67_ := rk_fs rk56_ s69_ (fs_rg rfl) rfl
        have e72_ : F67_ 344 9 = F43_ 344 9 := (s69_ 344 9 rfl).trans (rfl)
        have e73_ : F67_ 344 10 = F43_ 344 10 := (s69_ 344 10 rfl).trans (rfl)
        have b74_ : 0 ≤ F43_ 344 10 ∧ F43_ 344 10 ≤ 600 := gi_g g44_ rfl
        have e75_ : F67_ 344 5 = F43_ 344 5 := (s69_ 344 5 rfl).trans (rfl)
        have b76_ : 0 ≤ F43_ 344 5 ∧ F43_ 344 5 ≤ 600 := gi_g g44_ rfl
        exact fl_R_sub (lv' := [(0, .ref 344)]) rfl rfl (mg_184_150 hG F X hgi K nm ts pl ps hgK hrk hkt hp h0 h5 hnm hts hpl hps h33 fr lo hfr hlo F67_ (l) (tl) g68_ g70_ rk71_ ⟨by omega, by omega⟩ ⟨by omega, by omega⟩ (by rw [hq_, sp_r2]; rw [hspo, so_e (by omega) (by omega)]; simp only [pb_r]; rw [c41_]; simp only [pb_r]; first | rfl | (congr 1; omega)) ((trm_fs (trm_fs ht1.1 s45_ (by first | exact fs_rg rfl | exact fun r j hj => (fs_n (by omega) (fs_n (by omega) rfl)))) s69_ (by first | exact fs_rg rfl | exact fun r j hj => (fs_n (by omega) (fs_n (by omega) rfl))))) (ht1.2) ((rpn_fs (rpn_fs (rpn_fs hpl_g hf_F1 (fun _ => (by first | exact fs_c rfl | exact (fs_n (by omega) (fs_n (by omega) (fs_n (by omega) (fs_n (by omega) rfl)))))) (by first | exact fs_c rfl | exact (fs_n (by omega) (fs_n (by omega) (fs_n (by omega) (fs_n (by omega) rfl)))))) s45_ (fun _ => (by first | exact fs_c rfl | exact (fs_n (by omega) (fs_n (by omega) rfl)))) (by first | exact fs_c rfl | exact (fs_n (by omega) (fs_n (by omega) rfl)))) s69_ (fun _ => (by first | exact fs_c rfl | exact (fs_n (by omega) (fs_n (by omega) rfl)))) (by first | exact fs_c rfl | exact (fs_n (by omega) (fs_n (by omega) rfl))))) (⟨(rprd_fs (rprd_fs (rprd_fs hps_g.1 hf_F1 (by first | exact fs_rg rfl | exact fun r j hj => (fs_n (by omega) (fs_n (by omega) (fs_n (by omega) (fs_n (by omega) rfl)))))) s45_ (by first | exact fs_rg rfl | exact fun r j hj => (fs_n (by omega) (fs_n (by omega) rfl)))) s69_ (by first | exact fs_rg rfl | exact fun r j hj => (fs_n (by omega) (fs_n (by omega) rfl)))), hps_g.2⟩) (by rw [hh_, sp_rh]; rw [hspo, so_e (by omega) (by omega)]; simp only [pb_r]; rw [c41_]; simp only [pb_r]; first | rfl | (congr 2; omega)) (⟨c65_, c66_⟩))
      exfalso; omega
    refine ga_aload_n (v := .ref 344) hm_184 rfl rfl rfl ?_
    refine gIi (nY := 1) (F := 0) (L := 0) (As := []) (b := 344) (rest := []) hm_184 rfl hm_59 rfl rfl (fl_ob sc_344) rfl rfl rfl rfl rfl (by omega) (by omega) ?_
    intro f77_ l78_ h79_ h80_
    show fl_R xi_ms 59 f77_ l78_ 0 [(0, .ref 344)] [] _ _
    refine ga_aload_n (v := .ref 344) hm_59 rfl rfl rfl ?_
    have b81_ : 0 ≤ F1 344 9 ∧ F1 344 9 ≤ 5 := gi_g hg_F1 rfl
    refine ga_geti (z := F1 344 9) hm_59 rfl sc_344 rfl (rfl) ?_
    refine fl_if_le (a := F1 344 9) hm_59 rfl ⟨by omega, by omega⟩ (fun h82_ => ?_) (fun h83_ => ?_)
    ·
      refine fl_iconst hm_59 rfl ?_
      refine gr_i hm_59 rfl rfl (ga_nb (by omega)) ?_
      clear h79_ h80_ f77_ l78_
      refine fl_if_ne hm_184 rfl ⟨by omega, by omega⟩ (fun h => absurd h (by omega)) (fun _ => ?_)
      refine ga_aload_n (v := .ref 344) hm_184 rfl rfl rfl ?_
      have b84_ : 0 ≤ F1 344 5 ∧ F1 344 5 ≤ 600 := gi_g hg_F1 rfl
      refine gVv (nY := 3) (F := 4) (L := 89) (As := []) (b := 344) (rest := []) hm_184 rfl hm_180 rfl rfl (fl_ob sc_344) rfl rfl rfl rfl rfl (by omega) (by omega) (mc_180 hG F1 X hg_F1 (K) (ts) (l) (tl) hgK rk27_ hkt (⟨by omega, by omega⟩) ((rpn_fs hts_g hf_F1 (fun _ => (by first | exact fs_c rfl | exact (fs_n (by omega) (fs_n (by omega) (fs_n (by omega) (fs_n (by omega) rfl)))))) (by first | exact fs_c rfl | exact (fs_n (by omega) (fs_n (by omega) (fs_n (by omega) (fs_n (by omega) rfl))))))) (ht1.1) (ht1.2)) (fun _ _ h => False.elim h) ?_
      have b86_ : 0 ≤ F1 344 10 ∧ F1 344 10 ≤ 600 := gi_g hg_F1 rfl
      rintro A1_ (⟨F91_, hA_, g92_, s93_, c87_, c88_, c89_, c90_⟩ | ⟨F97_, hA_, g98_, s99_, c94_, c95_, c96_⟩)
      ·
        subst hA_
        have g100_ : fs [(344, 344, 5, 5), (344, 344, 9, 10), (344, 344, 33, 33), (344, 344, 36, 36), (344, 344, 64, 64), (358, 358, 5, 5), (360, 362, 40, 43), (363, 363, 80, 87), (364, 366, 0, 100000)] F F91_ := fs_tr g26_ s93_ rfl
        have rk101_ : rk K F91_ := rk_fs rk27_ s93_ (fs_rg rfl) rfl
        have c88_s := c88_.1 (by omega)
        clear c88_
        refine ga_aload_n (v := .ref 344) hm_184 rfl rfl rfl ?_
        refine fl_bipush hm_184 rfl rfl ?_
        have b102_ : 0 ≤ F91_ 344 5 ∧ F91_ 344 5 ≤ 600 := gi_g g92_ rfl
        refine gVi (nY := 2) (F := 1) (L := 20) (As := [.int (Int32.ofInt 41)]) (b := 344) (rest := []) hm_184 rfl hm_52 rfl rfl (fl_ob sc_344) rfl rfl rfl rfl rfl (by omega) (by omega) (mc_52 hG F91_ X g92_ (K) (41) hgK rk101_ hkt (⟨by omega, by omega⟩) (by omega)) (fun _ _ h => False.elim h) ?_
        have b104_ : 0 ≤ F91_ 344 9 ∧ F91_ 344 9 ≤ 5 := gi_g g92_ rfl
        rintro z103_ A1_ (⟨hA_, hz_, c105_⟩ | ⟨hA_, hz_, c106_, c107_⟩)
        ·
          subst hA_
          subst hz_
          refine fl_if_ne hm_184 rfl ⟨by omega, by omega⟩ (fun h => absurd h (by omega)) (fun _ => ?_)
          refine fl_iconst hm_184 rfl ?_
          refine fl_goto hm_184 rfl ?_
          refine ga_istore_n (lv2 := [(3, .int (Int32.ofInt 1)), (0, .ref 344)]) hm_184 rfl (Nat.le_of_ble_eq_true rfl) rfl ?_
          refine fl_goto hm_184 rfl ?_
          refine ga_iload_n (z := 1) hm_184 rfl rfl ?_
          refine fl_if_eq hm_184 rfl ⟨by omega, by omega⟩ (fun h => absurd h (by omega)) (fun _ => ?_)
          refine ga_aload_n (v := .ref 344) hm_184 rfl rfl rfl ?_
          refine gIi (nY := 1) (F := 0) (L := 0) (As := []) (b := 344) (rest := []) hm_184 rfl hm_59 rfl rfl (fl_ob sc_344) rfl rfl rfl rfl rfl (by omega) (by omega) ?_
          intro f108_ l109_ h110_ h111_
          show fl_R xi_ms 59 f108_ l109_ 0 [(0, .ref 344)] [] _ _
          refine ga_aload_n (v := .ref 344) hm_59 rfl rfl rfl ?_
          refine ga_geti (z := F91_ 344 9) hm_59 rfl sc_344 rfl (rfl) ?_
          refine fl_if_le (a := F91_ 344 9) hm_59 rfl ⟨by omega, by omega⟩ (fun h112_ => ?_) (fun h113_ => ?_)
          · exfalso; omega
          refine fl_iconst hm_59 rfl ?_
          refine fl_goto hm_59 rfl ?_
          refine gr_i hm_59 rfl rfl (ga_nb (by omega)) ?_
          clear h110_ h111_ f108_ l109_
          refine fl_if_ne hm_184 rfl ⟨by omega, by omega⟩ (fun _ => ?_) (fun h => absurd (by omega) h)
          refine ga_aload_n (v := .ref 344) hm_184 rfl rfl rfl ?_
          refine fl_bipush hm_184 rfl rfl ?_
          refine gVv (nY := 2) (F := 2) (L := 41) (As := [.int (Int32.ofInt 41)]) (b := 344) (rest := []) hm_184 rfl hm_51 rfl rfl (fl_ob sc_344) rfl rfl rfl rfl rfl (by omega) (by omega) (mc_51 hG F91_ X g92_ (K) (41) (1) hgK rk101_ hkt (⟨by omega, by omega⟩) (by omega) (by omega)) (fun _ _ h => False.elim h) ?_
          have b115_ : 0 ≤ F91_ 344 10 ∧ F91_ 344 10 ≤ 600 := gi_g g92_ rfl
          rintro A1_ (⟨F119_, hA_, g120_, s121_, c116_, c117_, c118_⟩ | ⟨F125_, hA_, g126_, s127_, c122_, c123_, c124_⟩)
          ·
            subst hA_
            have g128_ : fs [(344, 344, 5, 5), (344, 344, 9, 10), (344, 344, 33, 33), (344, 344, 36, 36), (344, 344, 64, 64), (358, 358, 5, 5), (360, 362, 40, 43), (363, 363, 80, 87), (364, 366, 0, 100000)] F F119_ := fs_tr g100_ s121_ rfl
            have rk129_ : rk K F119_ := rk_fs rk101_ s121_ (fs_rg rfl) rfl
            have c117_k := c117_.2 (by omega)
            clear c117_
            have b130_ : 0 ≤ F119_ 344 9 ∧ F119_ 344 9 ≤ 5 := gi_g g120_ rfl
            have b131_ : 0 ≤ F119_ 344 10 ∧ F119_ 344 10 ≤ 600 := gi_g g120_ rfl
            have b132_ : 0 ≤ F119_ 344 5 ∧ F119_ 344 5 ≤ 600 := gi_g g120_ rfl
            have e133_ : Fg 5 2 = F 5 2 := (hf_Fg 5 2 rfl).trans (rfl)
            have e134_ : F1 5 2 = F 5 2 := (hf_F1 5 2 rfl).trans (e133_)
            have e135_ : F91_ 5 2 = F 5 2 := (s93_ 5 2 rfl).trans (e134_)
            have e136_ : F119_ 5 2 = F 5 2 := (s121_ 5 2 rfl).trans (e135_)
            have b137_ : 0 ≤ F 5 2 ∧ F 5 2 ≤ 600 := gi_g hgi rfl
            exact fl_R_sub (lv' := [(0, .ref 344)]) rfl rfl (mb_184_139 hG F X hgi K nm ts pl ps hgK hrk hkt hp h0 h5 hnm hts hpl hps h33 fr lo hfr hlo F119_ g120_ g128_ rk129_ (by omega) (⟨by omega, by omega⟩) (⟨by intro h0_; have hs_ := c88_s; rw [hq_, sp_r2]; rw [hspo, so_f (by omega) hs_]; try (show Sum.inl _ = _); try (congr 2 <;> omega), fun h0_ => by exfalso; omega⟩) (by obtain ⟨l8_, tl8_, h8_, h9_⟩ := c90_; exact ⟨l8_, tl8_, (trm_fs h8_ s121_ (by first | exact fs_rg rfl | exact fun r j hj => (fs_n (by omega) (fs_n (by omega) rfl)))), h9_⟩))
          exfalso; omega
        exfalso; omega
      subst hA_
      have g138_ : fs [(344, 344, 5, 5), (344, 344, 9, 10), (344, 344, 33, 33), (344, 344, 36, 36), (344, 344, 64, 64), (358, 358, 5, 5), (360, 362, 40, 43), (363, 363, 80, 87), (364, 366, 0, 100000)] F F97_ := fs_tr g26_ s99_ rfl
      have rk139_ : rk K F97_ := rk_fs rk27_ s99_ (fs_rg rfl) rfl
      obtain ⟨co_, to_, co1_, co2_⟩ := c95_
      have co3_ := (tr5 co2_).1.1
      rw [List.length_append, List.length_singleton] at co3_
      refine ga_aload_n (v := .ref 344) hm_184 rfl rfl rfl ?_
      refine fl_bipush hm_184 rfl rfl ?_
      have b140_ : 0 ≤ F97_ 344 5 ∧ F97_ 344 5 ≤ 600 := gi_g g98_ rfl
      refine gVi (nY := 2) (F := 1) (L := 20) (As := [.int (Int32.ofInt 41)]) (b := 344) (rest := []) hm_184 rfl hm_52 rfl rfl (fl_ob sc_344) rfl rfl rfl rfl rfl (by omega) (by omega) (mc_52 hG F97_ X g98_ (K) (41) hgK rk139_ hkt (⟨by omega, by omega⟩) (by omega)) (fun _ _ h => False.elim h) ?_
      have b142_ : 0 ≤ F97_ 344 9 ∧ F97_ 344 9 ≤ 5 := gi_g g98_ rfl
      rintro z141_ A1_ (⟨hA_, hz_, c143_⟩ | ⟨hA_, hz_, c144_, c145_⟩)
      ·
        subst hA_
        subst hz_
        refine fl_if_ne hm_184 rfl ⟨by omega, by omega⟩ (fun h => absurd h (by omega)) (fun _ => ?_)
        refine fl_iconst hm_184 rfl ?_
        refine fl_goto hm_184 rfl ?_
        refine ga_istore_n (lv2 := [(3, .int (Int32.ofInt 1)), (0, .ref 344)]) hm_184 rfl (Nat.le_of_ble_eq_true rfl) rfl ?_
        refine fl_goto hm_184 rfl ?_
        have b146_ : 0 ≤ K 1 6 ∧ K 1 6 ≤ 601 := gi_g hgK rfl
        have e147_ : Fg 5 2 = F 5 2 := (hf_Fg 5 2 rfl).trans (rfl)
        have e148_ : F1 5 2 = F 5 2 := (hf_F1 5 2 rfl).trans (e147_)
        have e149_ : F97_ 5 2 = F 5 2 := (s99_ 5 2 rfl).trans (e148_)
        have b150_ : 0 ≤ F 5 2 ∧ F 5 2 ≤ 600 := gi_g hgi rfl
        have b151_ : 0 ≤ F97_ 344 33 ∧ F97_ 344 33 ≤ 6 := gi_g g98_ rfl
        have b152_ : 0 ≤ F1 344 33 ∧ F1 344 33 ≤ 6 := gi_g hg_F1 rfl
        exact ih23_ _ (by omega) (1) (_) (_) F97_ rfl g98_ (fs_tr hf_F1 s99_ rfl) (by omega) (Or.inl ⟨rfl, Or.inr (by omega)⟩) (⟨by omega, by omega⟩) (⟨co2_, by simp only [List.length_append, List.length_singleton]; omega⟩) (by rw [hspo]; exact so_step (by omega) co1_ (by simp))
      subst hA_
      subst hz_
      refine fl_if_ne hm_184 rfl ⟨by omega, by omega⟩ (fun _ => ?_) (fun h => absurd (by omega) h)
      refine fl_iconst hm_184 rfl ?_
      refine ga_istore_n (lv2 := [(3, .int (Int32.ofInt 0)), (0, .ref 344)]) hm_184 rfl (Nat.le_of_ble_eq_true rfl) rfl ?_
      refine fl_goto hm_184 rfl ?_
      have b153_ : 0 ≤ K 1 6 ∧ K 1 6 ≤ 601 := gi_g hgK rfl
      have e154_ : Fg 5 2 = F 5 2 := (hf_Fg 5 2 rfl).trans (rfl)
      have e155_ : F1 5 2 = F 5 2 := (hf_F1 5 2 rfl).trans (e154_)
      have e156_ : F97_ 5 2 = F 5 2 := (s99_ 5 2 rfl).trans (e155_)
      have b157_ : 0 ≤ F 5 2 ∧ F 5 2 ≤ 600 := gi_g hgi rfl
      have b158_ : 0 ≤ F97_ 344 33 ∧ F97_ 344 33 ≤ 6 := gi_g g98_ rfl
      have b159_ : 0 ≤ F1 344 33 ∧ F1 344 33 ≤ 6 := gi_g hg_F1 rfl
      exact ih23_ _ (by omega) (0) (_) (_) F97_ rfl g98_ (fs_tr hf_F1 s99_ rfl) (by omega) (Or.inr ⟨rfl, by simp only [List.length_append, List.length_singleton]; omega, by omega⟩) (⟨by omega, by omega⟩) (⟨co2_, by simp only [List.length_append, List.length_singleton]; omega⟩) (by rw [hspo]; exact so_step (by omega) co1_ (by simp))
    exfalso; omega
  have b160_ : 0 ≤ Fg 344 9 ∧ Fg 344 9 ≤ 5 := gi_g hg_Fg rfl
  have b161_ : 0 ≤ K 1 6 ∧ K 1 6 ≤ 601 := gi_g hgK rfl
  have e162_ : Fg 5 2 = F 5 2 := (hf_Fg 5 2 rfl).trans (rfl)
  have b163_ : 0 ≤ F 5 2 ∧ F 5 2 ≤ 600 := gi_g hgi rfl
  have b164_ : 0 ≤ Fg 344 33 ∧ Fg 344 33 ≤ 6 := gi_g hg_Fg rfl
  exact L22_ _ (1) ([]) ([]) Fg rfl hg_Fg fs_refl (by omega) (Or.inl ⟨rfl, Or.inl rfl⟩) (⟨by omega, by omega⟩) (⟨(tr5_0 h33g), rfl⟩) (rfl)
set_option maxHeartbeats 16000000 in
theorem mc_184 {G : Nat → Nat → Option Nat} (hG : gg G) (F : fl_N) (X : xi_H) (hgi : gi F) (K : fl_N) (nm : Int) (ts pl : List Int) (ps : List (List Int)) (hgK : gi K) (hrk : rk K F) (hkt : rkt K) (hp : 0 ≤ F 344 5 ∧ F 344 5 ≤ K 1 6 - 1) (h0 : F 344 9 = 0) (h5 : F 344 5 = 0) (hnm : nrel nm (F 344 14)) (hts : rpn (F 349) (F 344 15) ts) (hpl : rpn (F 350) (F 344 17) pl) (hps : rprd F ps ∧ ps.length = pl.length) (h33 : F 344 33 = 0) : fl_M xi_ms 184 7 165 [.ref 344] (fl_H sh_T G F ++ X) (pq_184 G F X K nm ts pl ps) := by
  intro fr lo hfr hlo
  show fl_R xi_ms 184 fr lo 0 [(0, .ref 344)] [] _ _
  have hP := (rkt_p hkt hp.1 hp.2 hgK).1
  have hK16 : 0 ≤ K 1 6 ∧ K 1 6 ≤ 601 := gi_g hgK rfl
  have hko := hkt.1
  have h0_9 := h0
  refine ga_aload_n (v := .ref 344) hm_184 rfl rfl rfl ?_
  refine fl_bipush hm_184 rfl rfl ?_
  have b1_ : 0 ≤ F 344 5 ∧ F 344 5 ≤ 600 := gi_g hgi rfl
  refine gVv (nY := 2) (F := 2) (L := 41) (As := [.int (Int32.ofInt 40)]) (b := 344) (rest := []) hm_184 rfl hm_51 rfl rfl (fl_ob sc_344) rfl rfl rfl rfl rfl (by omega) (by omega) (mc_51 hG F X hgi (K) (40) (0) hgK hrk hkt (⟨by omega, by omega⟩) (by omega) (by omega)) (fun _ _ h => False.elim h) ?_
  have b3_ : 0 ≤ F 344 10 ∧ F 344 10 ≤ 600 := gi_g hgi rfl
  have b4_ : 0 ≤ F 344 9 ∧ F 344 9 ≤ 5 := gi_g hgi rfl
  rintro A1_ (⟨F8_, hA_, g9_, s10_, c5_, c6_, c7_⟩ | ⟨F14_, hA_, g15_, s16_, c11_, c12_, c13_⟩)
  ·
    subst hA_
    have g17_ : fs [(344, 344, 5, 5), (344, 344, 9, 10), (344, 344, 33, 33), (344, 344, 36, 36), (344, 344, 64, 64), (358, 358, 5, 5), (360, 362, 40, 43), (363, 363, 80, 87), (364, 366, 0, 100000)] F F8_ := fs_tr fs_refl s10_ rfl
    have rk18_ : rk K F8_ := rk_fs hrk s10_ (fs_rg rfl) rfl
    have c6_s := c6_.1 (by omega)
    clear c6_
    have b19_ : 0 ≤ F8_ 344 9 ∧ F8_ 344 9 ≤ 5 := gi_g g9_ rfl
    have b20_ : 0 ≤ F8_ 344 10 ∧ F8_ 344 10 ≤ 600 := gi_g g9_ rfl
    have b21_ : 0 ≤ F8_ 344 5 ∧ F8_ 344 5 ≤ 600 := gi_g g9_ rfl
    have e22_ : F8_ 5 2 = F 5 2 := (s10_ 5 2 rfl).trans (rfl)
    have b23_ : 0 ≤ F 5 2 ∧ F 5 2 ≤ 600 := gi_g hgi rfl
    exact mb_184_6 hG F X hgi K nm ts pl ps hgK hrk hkt hp h0 h5 hnm hts hpl hps h33 fr lo hfr hlo F8_ g9_ g17_ rk18_ (by omega) (⟨by omega, by omega⟩) (⟨by intro h0_; have hs_ := c6_s; rw [sp_prb, sp_open]; rw [h5] at hs_; rw [hs_]; try (show Sum.inl _ = _); try (congr 2 <;> omega), fun h0_ => by exfalso; omega⟩) (⟨[], [], (trm_fs (tr5_0 h33) s10_ (by first | exact fs_rg rfl | exact fun r j hj => (fs_n (by omega) (fs_n (by omega) rfl)))), rfl⟩)
  subst hA_
  have g24_ : fs [(344, 344, 5, 5), (344, 344, 9, 10), (344, 344, 33, 33), (344, 344, 36, 36), (344, 344, 64, 64), (358, 358, 5, 5), (360, 362, 40, 43), (363, 363, 80, 87), (364, 366, 0, 100000)] F F14_ := fs_tr fs_refl s16_ rfl
  have rk25_ : rk K F14_ := rk_fs hrk s16_ (fs_rg rfl) rfl
  refine ga_aload_n (v := .ref 344) hm_184 rfl rfl rfl ?_
  refine fl_iconst hm_184 rfl ?_
  have b26_ : 0 ≤ F14_ 344 5 ∧ F14_ 344 5 ≤ 600 := gi_g g15_ rfl
  refine gVv (nY := 2) (F := 2) (L := 44) (As := [.int (Int32.ofInt 0)]) (b := 344) (rest := []) hm_184 rfl hm_55 rfl rfl (fl_ob sc_344) rfl rfl rfl rfl rfl (by omega) (by omega) (mc_55 hG F14_ X g15_ (K) (0) ([100, 101, 102, 105, 110, 101]) hgK rk25_ hkt (⟨by omega, by omega⟩) (⟨by omega, by omega⟩) (by decide) (kw_0 rk25_)) (fun _ _ h => False.elim h) ?_
  have b28_ : 0 ≤ F14_ 344 10 ∧ F14_ 344 10 ≤ 600 := gi_g g15_ rfl
  have b29_ : 0 ≤ F14_ 344 9 ∧ F14_ 344 9 ≤ 5 := gi_g g15_ rfl
  rintro A1_ (⟨F33_, hA_, g34_, s35_, c30_, c31_, c32_⟩ | ⟨F39_, hA_, g40_, s41_, c36_, c37_, c38_⟩)
  ·
    subst hA_
    have g42_ : fs [(344, 344, 5, 5), (344, 344, 9, 10), (344, 344, 33, 33), (344, 344, 36, 36), (344, 344, 64, 64), (358, 358, 5, 5), (360, 362, 40, 43), (363, 363, 80, 87), (364, 366, 0, 100000)] F F33_ := fs_tr g24_ s35_ rfl
    have rk43_ : rk K F33_ := rk_fs rk25_ s35_ (fs_rg rfl) rfl
    have c31_s := c31_.1 (by omega)
    clear c31_
    have b44_ : 0 ≤ F33_ 344 9 ∧ F33_ 344 9 ≤ 5 := gi_g g34_ rfl
    have b45_ : 0 ≤ F33_ 344 10 ∧ F33_ 344 10 ≤ 600 := gi_g g34_ rfl
    have b46_ : 0 ≤ F33_ 344 5 ∧ F33_ 344 5 ≤ 600 := gi_g g34_ rfl
    have e47_ : F14_ 5 2 = F 5 2 := (s16_ 5 2 rfl).trans (rfl)
    have e48_ : F33_ 5 2 = F 5 2 := (s35_ 5 2 rfl).trans (e47_)
    have b49_ : 0 ≤ F 5 2 ∧ F 5 2 ≤ 600 := gi_g hgi rfl
    exact mb_184_11 hG F X hgi K nm ts pl ps hgK hrk hkt hp h0 h5 hnm hts hpl hps h33 fr lo hfr hlo F33_ g34_ g42_ rk43_ (by omega) (⟨by omega, by omega⟩) (⟨by intro h0_; have hs_ := c31_s; rw [sp_prb, sp_open]; rw [(congrArg (sp_kind K 0) h5.symm).trans c12_]; simp only [pb_r]; rw [hs_]; try (show Sum.inl _ = _); try (congr 2 <;> omega), fun h0_ => by exfalso; omega⟩) (⟨[], [], (trm_fs (trm_fs (tr5_0 h33) s16_ (by first | exact fs_rg rfl | exact fun r j hj => (fs_n (by omega) (fs_n (by omega) rfl)))) s35_ (by first | exact fs_rg rfl | exact fun r j hj => (fs_n (by omega) (fs_n (by omega) rfl)))), rfl⟩)
  subst hA_
  have g50_ : fs [(344, 344, 5, 5), (344, 344, 9, 10), (344, 344, 33, 33), (344, 344, 36, 36), (344, 344, 64, 64), (358, 358, 5, 5), (360, 362, 40, 43), (363, 363, 80, 87), (364, 366, 0, 100000)] F F39_ := fs_tr g24_ s41_ rfl
  have rk51_ : rk K F39_ := rk_fs rk25_ s41_ (fs_rg rfl) rfl
  refine ga_aload_n (v := .ref 344) hm_184 rfl rfl rfl ?_
  refine fl_bipush hm_184 rfl rfl ?_
  have b52_ : 0 ≤ F39_ 344 5 ∧ F39_ 344 5 ≤ 600 := gi_g g40_ rfl
  refine gVv (nY := 2) (F := 2) (L := 41) (As := [.int (Int32.ofInt 40)]) (b := 344) (rest := []) hm_184 rfl hm_51 rfl rfl (fl_ob sc_344) rfl rfl rfl rfl rfl (by omega) (by omega) (mc_51 hG F39_ X g40_ (K) (40) (0) hgK rk51_ hkt (⟨by omega, by omega⟩) (by omega) (by omega)) (fun _ _ h => False.elim h) ?_
  have b54_ : 0 ≤ F39_ 344 10 ∧ F39_ 344 10 ≤ 600 := gi_g g40_ rfl
  have b55_ : 0 ≤ F39_ 344 9 ∧ F39_ 344 9 ≤ 5 := gi_g g40_ rfl
  rintro A1_ (⟨F59_, hA_, g60_, s61_, c56_, c57_, c58_⟩ | ⟨F65_, hA_, g66_, s67_, c62_, c63_, c64_⟩)
  ·
    subst hA_
    have g68_ : fs [(344, 344, 5, 5), (344, 344, 9, 10), (344, 344, 33, 33), (344, 344, 36, 36), (344, 344, 64, 64), (358, 358, 5, 5), (360, 362, 40, 43), (363, 363, 80, 87), (364, 366, 0, 100000)] F F59_ := fs_tr g50_ s61_ rfl
    have rk69_ : rk K F59_ := rk_fs rk51_ s61_ (fs_rg rfl) rfl
    have c57_s := c57_.1 (by omega)
    clear c57_
    have b70_ : 0 ≤ F59_ 344 9 ∧ F59_ 344 9 ≤ 5 := gi_g g60_ rfl
    have b71_ : 0 ≤ F59_ 344 10 ∧ F59_ 344 10 ≤ 600 := gi_g g60_ rfl
    have b72_ : 0 ≤ F59_ 344 5 ∧ F59_ 344 5 ≤ 600 := gi_g g60_ rfl
    have e73_ : F14_ 5 2 = F 5 2 := (s16_ 5 2 rfl).trans (rfl)
    have e74_ : F39_ 5 2 = F 5 2 := (s41_ 5 2 rfl).trans (e73_)
    have e75_ : F59_ 5 2 = F 5 2 := (s61_ 5 2 rfl).trans (e74_)
    have b76_ : 0 ≤ F 5 2 ∧ F 5 2 ≤ 600 := gi_g hgi rfl
    exact mb_184_17 hG F X hgi K nm ts pl ps hgK hrk hkt hp h0 h5 hnm hts hpl hps h33 fr lo hfr hlo F59_ g60_ g68_ rk69_ (by omega) (⟨by omega, by omega⟩) (⟨by intro h0_; have hs_ := c57_s; rw [sp_prb, sp_open]; rw [(congrArg (sp_kind K 0) h5.symm).trans c12_]; simp only [pb_r]; rw [c37_]; simp only [pb_r]; rw [hs_]; try (show Sum.inl _ = _); try (congr 2 <;> omega), fun h0_ => by exfalso; omega⟩) (⟨[], [], (trm_fs (trm_fs (trm_fs (tr5_0 h33) s16_ (by first | exact fs_rg rfl | exact fun r j hj => (fs_n (by omega) (fs_n (by omega) rfl)))) s41_ (by first | exact fs_rg rfl | exact fun r j hj => (fs_n (by omega) (fs_n (by omega) rfl)))) s61_ (by first | exact fs_rg rfl | exact fun r j hj => (fs_n (by omega) (fs_n (by omega) rfl)))), rfl⟩)
  subst hA_
  have g77_ : fs [(344, 344, 5, 5), (344, 344, 9, 10), (344, 344, 33, 33), (344, 344, 36, 36), (344, 344, 64, 64), (358, 358, 5, 5), (360, 362, 40, 43), (363, 363, 80, 87), (364, 366, 0, 100000)] F F65_ := fs_tr g50_ s67_ rfl
  have rk78_ : rk K F65_ := rk_fs rk51_ s67_ (fs_rg rfl) rfl
  refine ga_aload_n (v := .ref 344) hm_184 rfl rfl rfl ?_
  refine fl_bipush hm_184 rfl rfl ?_
  have b79_ : 0 ≤ F65_ 344 5 ∧ F65_ 344 5 ≤ 600 := gi_g g66_ rfl
  refine gVv (nY := 2) (F := 2) (L := 44) (As := [.int (Int32.ofInt 13)]) (b := 344) (rest := []) hm_184 rfl hm_55 rfl rfl (fl_ob sc_344) rfl rfl rfl rfl rfl (by omega) (by omega) (mc_55 hG F65_ X g66_ (K) (13) ([112, 114, 111, 98, 108, 101, 109]) hgK rk78_ hkt (⟨by omega, by omega⟩) (⟨by omega, by omega⟩) (by decide) (kw_13 rk78_)) (fun _ _ h => False.elim h) ?_
  have b81_ : 0 ≤ F65_ 344 10 ∧ F65_ 344 10 ≤ 600 := gi_g g66_ rfl
  have b82_ : 0 ≤ F65_ 344 9 ∧ F65_ 344 9 ≤ 5 := gi_g g66_ rfl
  rintro A1_ (⟨F86_, hA_, g87_, s88_, c83_, c84_, c85_⟩ | ⟨F92_, hA_, g93_, s94_, c89_, c90_, c91_⟩)
  ·
    subst hA_
    have g95_ : fs [(344, 344, 5, 5), (344, 344, 9, 10), (344, 344, 33, 33), (344, 344, 36, 36), (344, 344, 64, 64), (358, 358, 5, 5), (360, 362, 40, 43), (363, 363, 80, 87), (364, 366, 0, 100000)] F F86_ := fs_tr g77_ s88_ rfl
    have rk96_ : rk K F86_ := rk_fs rk78_ s88_ (fs_rg rfl) rfl
    have c84_s := c84_.1 (by omega)
    clear c84_
    have b97_ : 0 ≤ F86_ 344 9 ∧ F86_ 344 9 ≤ 5 := gi_g g87_ rfl
    have b98_ : 0 ≤ F86_ 344 10 ∧ F86_ 344 10 ≤ 600 := gi_g g87_ rfl
    have b99_ : 0 ≤ F86_ 344 5 ∧ F86_ 344 5 ≤ 600 := gi_g g87_ rfl
    have e100_ : F14_ 5 2 = F 5 2 := (s16_ 5 2 rfl).trans (rfl)
    have e101_ : F39_ 5 2 = F 5 2 := (s41_ 5 2 rfl).trans (e100_)
    have e102_ : F65_ 5 2 = F 5 2 := (s67_ 5 2 rfl).trans (e101_)
    have e103_ : F86_ 5 2 = F 5 2 := (s88_ 5 2 rfl).trans (e102_)
    have b104_ : 0 ≤ F 5 2 ∧ F 5 2 ≤ 600 := gi_g hgi rfl
    exact mb_184_23 hG F X hgi K nm ts pl ps hgK hrk hkt hp h0 h5 hnm hts hpl hps h33 fr lo hfr hlo F86_ g87_ g95_ rk96_ (by omega) (⟨by omega, by omega⟩) (⟨by intro h0_; have hs_ := c84_s; rw [sp_prb, sp_open]; rw [(congrArg (sp_kind K 0) h5.symm).trans c12_]; simp only [pb_r]; rw [c37_]; simp only [pb_r]; rw [c63_]; simp only [pb_r]; rw [hs_]; try (show Sum.inl _ = _); try (congr 2 <;> omega), fun h0_ => by exfalso; omega⟩) (⟨[], [], (trm_fs (trm_fs (trm_fs (trm_fs (tr5_0 h33) s16_ (by first | exact fs_rg rfl | exact fun r j hj => (fs_n (by omega) (fs_n (by omega) rfl)))) s41_ (by first | exact fs_rg rfl | exact fun r j hj => (fs_n (by omega) (fs_n (by omega) rfl)))) s67_ (by first | exact fs_rg rfl | exact fun r j hj => (fs_n (by omega) (fs_n (by omega) rfl)))) s88_ (by first | exact fs_rg rfl | exact fun r j hj => (fs_n (by omega) (fs_n (by omega) rfl)))), rfl⟩)
  subst hA_
  have g105_ : fs [(344, 344, 5, 5), (344, 344, 9, 10), (344, 344, 33, 33), (344, 344, 36, 36), (344, 344, 64, 64), (358, 358, 5, 5), (360, 362, 40, 43), (363, 363, 80, 87), (364, 366, 0, 100000)] F F92_ := fs_tr g77_ s94_ rfl
  have rk106_ : rk K F92_ := rk_fs rk78_ s94_ (fs_rg rfl) rfl
  refine ga_aload_n (v := .ref 344) hm_184 rfl rfl rfl ?_
  have b107_ : 0 ≤ F92_ 344 5 ∧ F92_ 344 5 ≤ 600 := gi_g g93_ rfl
  refine gVl (nY := 3) (F := 2) (L := 46) (As := []) (b := 344) (rest := []) hm_184 rfl hm_58 rfl rfl (fl_ob sc_344) rfl rfl rfl rfl rfl (by omega) (by omega) (mc_58 hG F92_ X g93_ (K) hgK rk106_ hkt (⟨by omega, by omega⟩)) (fun _ _ h => False.elim h) ?_
  have b109_ : 0 ≤ F92_ 344 10 ∧ F92_ 344 10 ≤ 600 := gi_g g93_ rfl
  have b110_ : 0 ≤ F92_ 344 9 ∧ F92_ 344 9 ≤ 5 := gi_g g93_ rfl
  rintro z108_ A1_ (⟨F115_, hA_, g116_, s117_, c111_, c112_, c113_, c114_⟩ | ⟨F125_, hA_, g126_, s127_, c118_, c119_, c120_, c121_, c122_, c123_, c124_⟩)
  ·
    subst hA_
    have g128_ : fs [(344, 344, 5, 5), (344, 344, 9, 10), (344, 344, 33, 33), (344, 344, 36, 36), (344, 344, 64, 64), (358, 358, 5, 5), (360, 362, 40, 43), (363, 363, 80, 87), (364, 366, 0, 100000)] F F115_ := fs_tr g105_ s117_ rfl
    have rk129_ : rk K F115_ := rk_fs rk106_ s117_ (fs_rg rfl) rfl
    have c112_s := c112_.1 (by omega)
    clear c112_
    refine ga_pop2 hm_184 rfl rfl ?_
    have b130_ : 0 ≤ F115_ 344 9 ∧ F115_ 344 9 ≤ 5 := gi_g g116_ rfl
    have b131_ : 0 ≤ F115_ 344 10 ∧ F115_ 344 10 ≤ 600 := gi_g g116_ rfl
    have e132_ : F115_ 344 5 = F92_ 344 5 := (s117_ 344 5 rfl).trans (rfl)
    have e133_ : F14_ 5 2 = F 5 2 := (s16_ 5 2 rfl).trans (rfl)
    have e134_ : F39_ 5 2 = F 5 2 := (s41_ 5 2 rfl).trans (e133_)
    have e135_ : F65_ 5 2 = F 5 2 := (s67_ 5 2 rfl).trans (e134_)
    have e136_ : F92_ 5 2 = F 5 2 := (s94_ 5 2 rfl).trans (e135_)
    have e137_ : F115_ 5 2 = F 5 2 := (s117_ 5 2 rfl).trans (e136_)
    have b138_ : 0 ≤ F 5 2 ∧ F 5 2 ≤ 600 := gi_g hgi rfl
    exact mb_184_28 hG F X hgi K nm ts pl ps hgK hrk hkt hp h0 h5 hnm hts hpl hps h33 fr lo hfr hlo F115_ g116_ g128_ rk129_ (by omega) (⟨by omega, by omega⟩) (⟨by intro h0_; have hs_ := c112_s; rw [sp_prb, sp_open]; rw [(congrArg (sp_kind K 0) h5.symm).trans c12_]; simp only [pb_r]; rw [c37_]; simp only [pb_r]; rw [c63_]; simp only [pb_r]; rw [c90_]; simp only [pb_r]; have h1_ := nm_no hs_; rw [sp_nm, if_neg h1_] at hs_; have h2_ := Prod.mk.inj (Sum.inl.inj hs_); rw [sp_kind, if_neg h1_]; show Sum.inl (1, K 4 _) = _; congr 2 <;> omega, fun h0_ => by exfalso; omega⟩) (⟨[], [], (trm_fs (trm_fs (trm_fs (trm_fs (trm_fs (tr5_0 h33) s16_ (by first | exact fs_rg rfl | exact fun r j hj => (fs_n (by omega) (fs_n (by omega) rfl)))) s41_ (by first | exact fs_rg rfl | exact fun r j hj => (fs_n (by omega) (fs_n (by omega) rfl)))) s67_ (by first | exact fs_rg rfl | exact fun r j hj => (fs_n (by omega) (fs_n (by omega) rfl)))) s94_ (by first | exact fs_rg rfl | exact fun r j hj => (fs_n (by omega) (fs_n (by omega) rfl)))) s117_ (by first | exact fs_rg rfl | exact fun r j hj => (fs_n (by omega) rfl))), rfl⟩)
  subst hA_
  have g139_ : fs [(344, 344, 5, 5), (344, 344, 9, 10), (344, 344, 33, 33), (344, 344, 36, 36), (344, 344, 64, 64), (358, 358, 5, 5), (360, 362, 40, 43), (363, 363, 80, 87), (364, 366, 0, 100000)] F F125_ := fs_tr g105_ s127_ rfl
  have rk140_ : rk K F125_ := rk_fs rk106_ s127_ (fs_rg rfl) rfl
  refine ga_pop2 hm_184 rfl rfl ?_
  refine ga_aload_n (v := .ref 344) hm_184 rfl rfl rfl ?_
  refine gIv (nY := 1) (F := 1) (L := 20) (As := []) (b := 344) (rest := []) hm_184 rfl hm_61 rfl rfl (fl_ob sc_344) rfl rfl rfl rfl rfl (by omega) (by omega) ?_
  intro f141_ l142_ h143_ h144_
  show fl_R xi_ms 61 f141_ l142_ 0 [(0, .ref 344)] [] _ _
  refine ga_aload_n (v := .ref 344) hm_61 rfl rfl rfl ?_
  refine ga_dup hm_61 rfl rfl ?_
  have e145_ : F125_ 344 5 = F92_ 344 5 := (s127_ 344 5 rfl).trans (rfl)
  refine ga_geti (z := F92_ 344 5) hm_61 rfl sc_344 rfl (e145_) ?_
  refine ga_aload_n (v := .ref 344) hm_61 rfl rfl rfl ?_
  refine gIi (nY := 1) (F := 0) (L := 0) (As := []) (b := 344) (rest := [.int (Int32.ofInt (F92_ 344 5)), .ref 344]) hm_61 rfl hm_59 rfl rfl (fl_ob sc_344) rfl rfl rfl rfl rfl (by omega) (by omega) ?_
  intro f146_ l147_ h148_ h149_
  show fl_R xi_ms 59 f146_ l147_ 0 [(0, .ref 344)] [] _ _
  refine ga_aload_n (v := .ref 344) hm_59 rfl rfl rfl ?_
  have b150_ : 0 ≤ F125_ 344 9 ∧ F125_ 344 9 ≤ 5 := gi_g g126_ rfl
  refine ga_geti (z := F125_ 344 9) hm_59 rfl sc_344 rfl (rfl) ?_
  refine fl_if_le (a := F125_ 344 9) hm_59 rfl ⟨by omega, by omega⟩ (fun h151_ => ?_) (fun h152_ => ?_)
  ·
    refine fl_iconst hm_59 rfl ?_
    refine gr_i hm_59 rfl rfl (ga_nb (by omega)) ?_
    clear h148_ h149_ f146_ l147_
    refine fl_if_eq hm_61 rfl ⟨by omega, by omega⟩ (fun _ => ?_) (fun h => absurd (by omega) h)
    refine fl_iconst hm_61 rfl ?_
    refine ga_iadd (a := F92_ 344 5) (b := 1) (c := F92_ 344 5 + 1) hm_61 rfl (by omega) ?_
    refine ga_puti (z := F92_ 344 5 + 1) hm_61 rfl sc_344 rfl rfl ?_
    refine gr_v hm_61 rfl rfl ?_
    clear h143_ h144_ f141_ l142_
    refine ga_aload_n (v := .ref 344) hm_184 rfl rfl rfl ?_
    refine fl_bipush hm_184 rfl rfl ?_
    obtain ⟨F153_, q154_⟩ : ∃ Fq_, Fq_ = (fl_u F125_ 344 5 (F92_ 344 5 + 1)) := ⟨_, rfl⟩
    rw [← q154_]
    have g155_ : gi F153_ := by rw [q154_]; exact gi_u (g126_) rfl (by omega) (by omega)
    have g156_ : fs [(344, 344, 5, 5), (344, 344, 9, 10), (344, 344, 33, 33), (344, 344, 36, 36), (344, 344, 64, 64), (358, 358, 5, 5), (360, 362, 40, 43), (363, 363, 80, 87), (364, 366, 0, 100000)] F F153_ := by rw [q154_]; exact fs_u (g139_) rfl
    have rk157_ : rk K F153_ := by rw [q154_]; exact rk_u (rk140_) (by first | decide | exact nc_ rfl | omega) (by first | decide | exact nc_ rfl | omega)
    have e158_ : F153_ 344 5 = F92_ 344 5 + 1 := by rw [q154_]; exact fl_u_eq
    refine gVv (nY := 2) (F := 2) (L := 41) (As := [.int (Int32.ofInt 41)]) (b := 344) (rest := []) hm_184 rfl hm_51 rfl rfl (fl_ob sc_344) rfl rfl rfl rfl rfl (by omega) (by omega) (mc_51 hG F153_ X g155_ (K) (41) (1) hgK rk157_ hkt (⟨by omega, by omega⟩) (by omega) (by omega)) (fun _ _ h => False.elim h) ?_
    have e160_ : F153_ 344 10 = F125_ 344 10 := by rw [q154_]; exact fl_u_ne (by first | exact nc_ rfl | decide | omega)
    have b161_ : 0 ≤ F125_ 344 10 ∧ F125_ 344 10 ≤ 600 := gi_g g126_ rfl
    have e162_ : F153_ 344 9 = F125_ 344 9 := by rw [q154_]; exact fl_u_ne (by first | exact nc_ rfl | decide | omega)
    rintro A1_ (⟨F166_, hA_, g167_, s168_, c163_, c164_, c165_⟩ | ⟨F172_, hA_, g173_, s174_, c169_, c170_, c171_⟩)
    ·
      subst hA_
      have g175_ : fs [(344, 344, 5, 5), (344, 344, 9, 10), (344, 344, 33, 33), (344, 344, 36, 36), (344, 344, 64, 64), (358, 358, 5, 5), (360, 362, 40, 43), (363, 363, 80, 87), (364, 366, 0, 100000)] F F166_ := fs_tr g156_ s168_ rfl
      have rk176_ : rk K F166_ := rk_fs rk157_ s168_ (fs_rg rfl) rfl
      try simp only [e158_, e160_, e162_] at c164_
      have c164_s := c164_.1 (by omega)
      clear c164_
      have b177_ : 0 ≤ F166_ 344 9 ∧ F166_ 344 9 ≤ 5 := gi_g g167_ rfl
      have b178_ : 0 ≤ F166_ 344 10 ∧ F166_ 344 10 ≤ 600 := gi_g g167_ rfl
      have b179_ : 0 ≤ F166_ 344 5 ∧ F166_ 344 5 ≤ 600 := gi_g g167_ rfl
      have e180_ : F14_ 5 2 = F 5 2 := (s16_ 5 2 rfl).trans (rfl)
      have e181_ : F39_ 5 2 = F 5 2 := (s41_ 5 2 rfl).trans (e180_)
      have e182_ : F65_ 5 2 = F 5 2 := (s67_ 5 2 rfl).trans (e181_)
      have e183_ : F92_ 5 2 = F 5 2 := (s94_ 5 2 rfl).trans (e182_)
      have e184_ : F125_ 5 2 = F 5 2 := (s127_ 5 2 rfl).trans (e183_)
      have e185_ : F153_ 5 2 = F 5 2 := by rw [q154_]; exact (fl_u_ne (by first | exact nc_ rfl | decide | omega)).trans (e184_)
      have e186_ : F166_ 5 2 = F 5 2 := (s168_ 5 2 rfl).trans (e185_)
      have b187_ : 0 ≤ F 5 2 ∧ F 5 2 ≤ 600 := gi_g hgi rfl
      exact mb_184_38 hG F X hgi K nm ts pl ps hgK hrk hkt hp h0 h5 hnm hts hpl hps h33 fr lo hfr hlo F166_ g167_ g175_ rk176_ (by omega) (⟨by omega, by omega⟩) (⟨by intro h0_; have hs_ := c164_s; rw [sp_prb, sp_open]; rw [(congrArg (sp_kind K 0) h5.symm).trans c12_]; simp only [pb_r]; rw [c37_]; simp only [pb_r]; rw [c63_]; simp only [pb_r]; rw [c90_]; simp only [pb_r]; rw [(show sp_kind K 2 (F92_ 344 5) = .inr (F92_ 344 5 + 1) by rw [sp_kind, if_pos (by omega), sk, if_pos (by omega)])]; simp only [pb_r]; rw [hs_]; try (show Sum.inl _ = _); try (congr 2 <;> omega), fun h0_ => by exfalso; omega⟩) (⟨[], [], (trm_fs (by rw [q154_]; exact (trm_u (trm_fs (trm_fs (trm_fs (trm_fs (trm_fs (tr5_0 h33) s16_ (by first | exact fs_rg rfl | exact fun r j hj => (fs_n (by omega) (fs_n (by omega) rfl)))) s41_ (by first | exact fs_rg rfl | exact fun r j hj => (fs_n (by omega) (fs_n (by omega) rfl)))) s67_ (by first | exact fs_rg rfl | exact fun r j hj => (fs_n (by omega) (fs_n (by omega) rfl)))) s94_ (by first | exact fs_rg rfl | exact fun r j hj => (fs_n (by omega) (fs_n (by omega) rfl)))) s127_ (by first | exact fs_rg rfl | exact fun r j hj => (fs_n (by omega) rfl))) (by first | decide | exact nc_ rfl | omega))) s168_ (by first | exact fs_rg rfl | exact fun r j hj => (fs_n (by omega) (fs_n (by omega) rfl)))), rfl⟩)
    subst hA_
    have g188_ : fs [(344, 344, 5, 5), (344, 344, 9, 10), (344, 344, 33, 33), (344, 344, 36, 36), (344, 344, 64, 64), (358, 358, 5, 5), (360, 362, 40, 43), (363, 363, 80, 87), (364, 366, 0, 100000)] F F172_ := fs_tr g156_ s174_ rfl
    have rk189_ : rk K F172_ := rk_fs rk157_ s174_ (fs_rg rfl) rfl
    try simp only [e162_] at c169_
    try simp only [e158_] at c170_
    refine ga_aload_n (v := .ref 344) hm_184 rfl rfl rfl ?_
    refine fl_bipush hm_184 rfl rfl ?_
    have b190_ : 0 ≤ F172_ 344 5 ∧ F172_ 344 5 ≤ 600 := gi_g g173_ rfl
    refine gVv (nY := 2) (F := 2) (L := 41) (As := [.int (Int32.ofInt 40)]) (b := 344) (rest := []) hm_184 rfl hm_51 rfl rfl (fl_ob sc_344) rfl rfl rfl rfl rfl (by omega) (by omega) (mc_51 hG F172_ X g173_ (K) (40) (0) hgK rk189_ hkt (⟨by omega, by omega⟩) (by omega) (by omega)) (fun _ _ h => False.elim h) ?_
    have b192_ : 0 ≤ F172_ 344 10 ∧ F172_ 344 10 ≤ 600 := gi_g g173_ rfl
    have b193_ : 0 ≤ F172_ 344 9 ∧ F172_ 344 9 ≤ 5 := gi_g g173_ rfl
    rintro A1_ (⟨F197_, hA_, g198_, s199_, c194_, c195_, c196_⟩ | ⟨F203_, hA_, g204_, s205_, c200_, c201_, c202_⟩)
    ·
      subst hA_
      have g206_ : fs [(344, 344, 5, 5), (344, 344, 9, 10), (344, 344, 33, 33), (344, 344, 36, 36), (344, 344, 64, 64), (358, 358, 5, 5), (360, 362, 40, 43), (363, 363, 80, 87), (364, 366, 0, 100000)] F F197_ := fs_tr g188_ s199_ rfl
      have rk207_ : rk K F197_ := rk_fs rk189_ s199_ (fs_rg rfl) rfl
      have c195_s := c195_.1 (by omega)
      clear c195_
      have b208_ : 0 ≤ F197_ 344 9 ∧ F197_ 344 9 ≤ 5 := gi_g g198_ rfl
      have b209_ : 0 ≤ F197_ 344 10 ∧ F197_ 344 10 ≤ 600 := gi_g g198_ rfl
      have b210_ : 0 ≤ F197_ 344 5 ∧ F197_ 344 5 ≤ 600 := gi_g g198_ rfl
      have e211_ : F14_ 5 2 = F 5 2 := (s16_ 5 2 rfl).trans (rfl)
      have e212_ : F39_ 5 2 = F 5 2 := (s41_ 5 2 rfl).trans (e211_)
      have e213_ : F65_ 5 2 = F 5 2 := (s67_ 5 2 rfl).trans (e212_)
      have e214_ : F92_ 5 2 = F 5 2 := (s94_ 5 2 rfl).trans (e213_)
      have e215_ : F125_ 5 2 = F 5 2 := (s127_ 5 2 rfl).trans (e214_)
      have e216_ : F153_ 5 2 = F 5 2 := by rw [q154_]; exact (fl_u_ne (by first | exact nc_ rfl | decide | omega)).trans (e215_)
      have e217_ : F172_ 5 2 = F 5 2 := (s174_ 5 2 rfl).trans (e216_)
      have e218_ : F197_ 5 2 = F 5 2 := (s199_ 5 2 rfl).trans (e217_)
      have b219_ : 0 ≤ F 5 2 ∧ F 5 2 ≤ 600 := gi_g hgi rfl
      exact mb_184_44 hG F X hgi K nm ts pl ps hgK hrk hkt hp h0 h5 hnm hts hpl hps h33 fr lo hfr hlo F197_ g198_ g206_ rk207_ (by omega) (⟨by omega, by omega⟩) (⟨by intro h0_; have hs_ := c195_s; rw [sp_prb, sp_open]; rw [(congrArg (sp_kind K 0) h5.symm).trans c12_]; simp only [pb_r]; rw [c37_]; simp only [pb_r]; rw [c63_]; simp only [pb_r]; rw [c90_]; simp only [pb_r]; rw [(show sp_kind K 2 (F92_ 344 5) = .inr (F92_ 344 5 + 1) by rw [sp_kind, if_pos (by omega), sk, if_pos (by omega)])]; simp only [pb_r]; rw [c170_]; simp only [pb_r]; rw [sp_dname, sp_part]; rw [hs_]; try (show Sum.inl _ = _); try (congr 2 <;> omega), fun h0_ => by exfalso; omega⟩) (⟨[], [], (trm_fs (trm_fs (by rw [q154_]; exact (trm_u (trm_fs (trm_fs (trm_fs (trm_fs (trm_fs (tr5_0 h33) s16_ (by first | exact fs_rg rfl | exact fun r j hj => (fs_n (by omega) (fs_n (by omega) rfl)))) s41_ (by first | exact fs_rg rfl | exact fun r j hj => (fs_n (by omega) (fs_n (by omega) rfl)))) s67_ (by first | exact fs_rg rfl | exact fun r j hj => (fs_n (by omega) (fs_n (by omega) rfl)))) s94_ (by first | exact fs_rg rfl | exact fun r j hj => (fs_n (by omega) (fs_n (by omega) rfl)))) s127_ (by first | exact fs_rg rfl | exact fun r j hj => (fs_n (by omega) rfl))) (by first | decide | exact nc_ rfl | omega))) s174_ (by first | exact fs_rg rfl | exact fun r j hj => (fs_n (by omega) (fs_n (by omega) rfl)))) s199_ (by first | exact fs_rg rfl | exact fun r j hj => (fs_n (by omega) (fs_n (by omega) rfl)))), rfl⟩)
    subst hA_
    have g220_ : fs [(344, 344, 5, 5), (344, 344, 9, 10), (344, 344, 33, 33), (344, 344, 36, 36), (344, 344, 64, 64), (358, 358, 5, 5), (360, 362, 40, 43), (363, 363, 80, 87), (364, 366, 0, 100000)] F F203_ := fs_tr g188_ s205_ rfl
    have rk221_ : rk K F203_ := rk_fs rk189_ s205_ (fs_rg rfl) rfl
    refine ga_aload_n (v := .ref 344) hm_184 rfl rfl rfl ?_
    refine fl_bipush hm_184 rfl rfl ?_
    have b222_ : 0 ≤ F203_ 344 5 ∧ F203_ 344 5 ≤ 600 := gi_g g204_ rfl
    refine gVv (nY := 2) (F := 2) (L := 44) (As := [.int (Int32.ofInt 14)]) (b := 344) (rest := []) hm_184 rfl hm_55 rfl rfl (fl_ob sc_344) rfl rfl rfl rfl rfl (by omega) (by omega) (mc_55 hG F203_ X g204_ (K) (14) ([58, 100, 111, 109, 97, 105, 110]) hgK rk221_ hkt (⟨by omega, by omega⟩) (⟨by omega, by omega⟩) (by decide) (kw_14 rk221_)) (fun _ _ h => False.elim h) ?_
    have b224_ : 0 ≤ F203_ 344 10 ∧ F203_ 344 10 ≤ 600 := gi_g g204_ rfl
    have b225_ : 0 ≤ F203_ 344 9 ∧ F203_ 344 9 ≤ 5 := gi_g g204_ rfl
    rintro A1_ (⟨F229_, hA_, g230_, s231_, c226_, c227_, c228_⟩ | ⟨F235_, hA_, g236_, s237_, c232_, c233_, c234_⟩)
    ·
      subst hA_
      have g238_ : fs [(344, 344, 5, 5), (344, 344, 9, 10), (344, 344, 33, 33), (344, 344, 36, 36), (344, 344, 64, 64), (358, 358, 5, 5), (360, 362, 40, 43), (363, 363, 80, 87), (364, 366, 0, 100000)] F F229_ := fs_tr g220_ s231_ rfl
      have rk239_ : rk K F229_ := rk_fs rk221_ s231_ (fs_rg rfl) rfl
      have c227_s := c227_.1 (by omega)
      clear c227_
      have b240_ : 0 ≤ F229_ 344 9 ∧ F229_ 344 9 ≤ 5 := gi_g g230_ rfl
      have b241_ : 0 ≤ F229_ 344 10 ∧ F229_ 344 10 ≤ 600 := gi_g g230_ rfl
      have b242_ : 0 ≤ F229_ 344 5 ∧ F229_ 344 5 ≤ 600 := gi_g g230_ rfl
      have e243_ : F14_ 5 2 = F 5 2 := (s16_ 5 2 rfl).trans (rfl)
      have e244_ : F39_ 5 2 = F 5 2 := (s41_ 5 2 rfl).trans (e243_)
      have e245_ : F65_ 5 2 = F 5 2 := (s67_ 5 2 rfl).trans (e244_)
      have e246_ : F92_ 5 2 = F 5 2 := (s94_ 5 2 rfl).trans (e245_)
      have e247_ : F125_ 5 2 = F 5 2 := (s127_ 5 2 rfl).trans (e246_)
      have e248_ : F153_ 5 2 = F 5 2 := by rw [q154_]; exact (fl_u_ne (by first | exact nc_ rfl | decide | omega)).trans (e247_)
      have e249_ : F172_ 5 2 = F 5 2 := (s174_ 5 2 rfl).trans (e248_)
      have e250_ : F203_ 5 2 = F 5 2 := (s205_ 5 2 rfl).trans (e249_)
      have e251_ : F229_ 5 2 = F 5 2 := (s231_ 5 2 rfl).trans (e250_)
      have b252_ : 0 ≤ F 5 2 ∧ F 5 2 ≤ 600 := gi_g hgi rfl
      exact mb_184_50 hG F X hgi K nm ts pl ps hgK hrk hkt hp h0 h5 hnm hts hpl hps h33 fr lo hfr hlo F229_ g230_ g238_ rk239_ (by omega) (⟨by omega, by omega⟩) (⟨by intro h0_; have hs_ := c227_s; rw [sp_prb, sp_open]; rw [(congrArg (sp_kind K 0) h5.symm).trans c12_]; simp only [pb_r]; rw [c37_]; simp only [pb_r]; rw [c63_]; simp only [pb_r]; rw [c90_]; simp only [pb_r]; rw [(show sp_kind K 2 (F92_ 344 5) = .inr (F92_ 344 5 + 1) by rw [sp_kind, if_pos (by omega), sk, if_pos (by omega)])]; simp only [pb_r]; rw [c170_]; simp only [pb_r]; rw [sp_dname, sp_part]; rw [c201_]; simp only [pb_r]; rw [hs_]; try (show Sum.inl _ = _); try (congr 2 <;> omega), fun h0_ => by exfalso; omega⟩) (⟨[], [], (trm_fs (trm_fs (trm_fs (by rw [q154_]; exact (trm_u (trm_fs (trm_fs (trm_fs (trm_fs (trm_fs (tr5_0 h33) s16_ (by first | exact fs_rg rfl | exact fun r j hj => (fs_n (by omega) (fs_n (by omega) rfl)))) s41_ (by first | exact fs_rg rfl | exact fun r j hj => (fs_n (by omega) (fs_n (by omega) rfl)))) s67_ (by first | exact fs_rg rfl | exact fun r j hj => (fs_n (by omega) (fs_n (by omega) rfl)))) s94_ (by first | exact fs_rg rfl | exact fun r j hj => (fs_n (by omega) (fs_n (by omega) rfl)))) s127_ (by first | exact fs_rg rfl | exact fun r j hj => (fs_n (by omega) rfl))) (by first | decide | exact nc_ rfl | omega))) s174_ (by first | exact fs_rg rfl | exact fun r j hj => (fs_n (by omega) (fs_n (by omega) rfl)))) s205_ (by first | exact fs_rg rfl | exact fun r j hj => (fs_n (by omega) (fs_n (by omega) rfl)))) s231_ (by first | exact fs_rg rfl | exact fun r j hj => (fs_n (by omega) (fs_n (by omega) rfl)))), rfl⟩)
    subst hA_
    have g253_ : fs [(344, 344, 5, 5), (344, 344, 9, 10), (344, 344, 33, 33), (344, 344, 36, 36), (344, 344, 64, 64), (358, 358, 5, 5), (360, 362, 40, 43), (363, 363, 80, 87), (364, 366, 0, 100000)] F F235_ := fs_tr g220_ s237_ rfl
    have rk254_ : rk K F235_ := rk_fs rk221_ s237_ (fs_rg rfl) rfl
    refine ga_aload_n (v := .ref 344) hm_184 rfl rfl rfl ?_
    have b255_ : 0 ≤ F235_ 344 5 ∧ F235_ 344 5 ≤ 600 := gi_g g236_ rfl
    refine gVl (nY := 3) (F := 2) (L := 46) (As := []) (b := 344) (rest := []) hm_184 rfl hm_58 rfl rfl (fl_ob sc_344) rfl rfl rfl rfl rfl (by omega) (by omega) (mc_58 hG F235_ X g236_ (K) hgK rk254_ hkt (⟨by omega, by omega⟩)) (fun _ _ h => False.elim h) ?_
    have b257_ : 0 ≤ F235_ 344 10 ∧ F235_ 344 10 ≤ 600 := gi_g g236_ rfl
    have b258_ : 0 ≤ F235_ 344 9 ∧ F235_ 344 9 ≤ 5 := gi_g g236_ rfl
    rintro z256_ A1_ (⟨F263_, hA_, g264_, s265_, c259_, c260_, c261_, c262_⟩ | ⟨F273_, hA_, g274_, s275_, c266_, c267_, c268_, c269_, c270_, c271_, c272_⟩)
    ·
      subst hA_
      have g276_ : fs [(344, 344, 5, 5), (344, 344, 9, 10), (344, 344, 33, 33), (344, 344, 36, 36), (344, 344, 64, 64), (358, 358, 5, 5), (360, 362, 40, 43), (363, 363, 80, 87), (364, 366, 0, 100000)] F F263_ := fs_tr g253_ s265_ rfl
      have rk277_ : rk K F263_ := rk_fs rk254_ s265_ (fs_rg rfl) rfl
      have c260_s := c260_.1 (by omega)
      clear c260_
      refine ga_lstore_n (lv2 := [(1, .long (Int64.ofInt z256_)), (0, .ref 344)]) hm_184 rfl (Nat.le_of_ble_eq_true rfl) rfl ?_
      refine ga_aload_n (v := .ref 344) hm_184 rfl rfl rfl ?_
      refine gIi (nY := 1) (F := 0) (L := 0) (As := []) (b := 344) (rest := []) hm_184 rfl hm_59 rfl rfl (fl_ob sc_344) rfl rfl rfl rfl rfl (by omega) (by omega) ?_
      intro f278_ l279_ h280_ h281_
      show fl_R xi_ms 59 f278_ l279_ 0 [(0, .ref 344)] [] _ _
      refine ga_aload_n (v := .ref 344) hm_59 rfl rfl rfl ?_
      have b282_ : 0 ≤ F263_ 344 9 ∧ F263_ 344 9 ≤ 5 := gi_g g264_ rfl
      refine ga_geti (z := F263_ 344 9) hm_59 rfl sc_344 rfl (rfl) ?_
      refine fl_if_le (a := F263_ 344 9) hm_59 rfl ⟨by omega, by omega⟩ (fun h283_ => ?_) (fun h284_ => ?_)
      · exfalso; omega
      refine fl_iconst hm_59 rfl ?_
      refine fl_goto hm_59 rfl ?_
      refine gr_i hm_59 rfl rfl (ga_nb (by omega)) ?_
      clear h280_ h281_ f278_ l279_
      refine fl_if_ne hm_184 rfl ⟨by omega, by omega⟩ (fun _ => ?_) (fun h => absurd (by omega) h)
      have b285_ : 0 ≤ F263_ 344 10 ∧ F263_ 344 10 ≤ 600 := gi_g g264_ rfl
      have e286_ : F263_ 344 5 = F235_ 344 5 := (s265_ 344 5 rfl).trans (rfl)
      have e287_ : F14_ 5 2 = F 5 2 := (s16_ 5 2 rfl).trans (rfl)
      have e288_ : F39_ 5 2 = F 5 2 := (s41_ 5 2 rfl).trans (e287_)
      have e289_ : F65_ 5 2 = F 5 2 := (s67_ 5 2 rfl).trans (e288_)
      have e290_ : F92_ 5 2 = F 5 2 := (s94_ 5 2 rfl).trans (e289_)
      have e291_ : F125_ 5 2 = F 5 2 := (s127_ 5 2 rfl).trans (e290_)
      have e292_ : F153_ 5 2 = F 5 2 := by rw [q154_]; exact (fl_u_ne (by first | exact nc_ rfl | decide | omega)).trans (e291_)
      have e293_ : F172_ 5 2 = F 5 2 := (s174_ 5 2 rfl).trans (e292_)
      have e294_ : F203_ 5 2 = F 5 2 := (s205_ 5 2 rfl).trans (e293_)
      have e295_ : F235_ 5 2 = F 5 2 := (s237_ 5 2 rfl).trans (e294_)
      have e296_ : F263_ 5 2 = F 5 2 := (s265_ 5 2 rfl).trans (e295_)
      have b297_ : 0 ≤ F 5 2 ∧ F 5 2 ≤ 600 := gi_g hgi rfl
      exact fl_R_sub (lv' := [(0, .ref 344)]) rfl rfl (mb_184_76 hG F X hgi K nm ts pl ps hgK hrk hkt hp h0 h5 hnm hts hpl hps h33 fr lo hfr hlo F263_ g264_ g276_ rk277_ (by omega) (⟨by omega, by omega⟩) (⟨by intro h0_; have hs_ := c260_s; rw [sp_prb, sp_open]; rw [(congrArg (sp_kind K 0) h5.symm).trans c12_]; simp only [pb_r]; rw [c37_]; simp only [pb_r]; rw [c63_]; simp only [pb_r]; rw [c90_]; simp only [pb_r]; rw [(show sp_kind K 2 (F92_ 344 5) = .inr (F92_ 344 5 + 1) by rw [sp_kind, if_pos (by omega), sk, if_pos (by omega)])]; simp only [pb_r]; rw [c170_]; simp only [pb_r]; rw [sp_dname, sp_part]; rw [c201_]; simp only [pb_r]; rw [c233_]; simp only [pb_r]; have h1_ := nm_no hs_; rw [sp_nm, if_neg h1_] at hs_; have h2_ := Prod.mk.inj (Sum.inl.inj hs_); rw [if_neg (fun h8_ => h1_ h8_.1), sp_kind, if_neg h1_]; show Sum.inl (1, K 4 _) = _; congr 2 <;> omega, fun h0_ => by exfalso; omega⟩) (⟨[], [], (trm_fs (trm_fs (trm_fs (trm_fs (by rw [q154_]; exact (trm_u (trm_fs (trm_fs (trm_fs (trm_fs (trm_fs (tr5_0 h33) s16_ (by first | exact fs_rg rfl | exact fun r j hj => (fs_n (by omega) (fs_n (by omega) rfl)))) s41_ (by first | exact fs_rg rfl | exact fun r j hj => (fs_n (by omega) (fs_n (by omega) rfl)))) s67_ (by first | exact fs_rg rfl | exact fun r j hj => (fs_n (by omega) (fs_n (by omega) rfl)))) s94_ (by first | exact fs_rg rfl | exact fun r j hj => (fs_n (by omega) (fs_n (by omega) rfl)))) s127_ (by first | exact fs_rg rfl | exact fun r j hj => (fs_n (by omega) rfl))) (by first | decide | exact nc_ rfl | omega))) s174_ (by first | exact fs_rg rfl | exact fun r j hj => (fs_n (by omega) (fs_n (by omega) rfl)))) s205_ (by first | exact fs_rg rfl | exact fun r j hj => (fs_n (by omega) (fs_n (by omega) rfl)))) s237_ (by first | exact fs_rg rfl | exact fun r j hj => (fs_n (by omega) (fs_n (by omega) rfl)))) s265_ (by first | exact fs_rg rfl | exact fun r j hj => (fs_n (by omega) rfl))), rfl⟩))
    subst hA_
    have g298_ : fs [(344, 344, 5, 5), (344, 344, 9, 10), (344, 344, 33, 33), (344, 344, 36, 36), (344, 344, 64, 64), (358, 358, 5, 5), (360, 362, 40, 43), (363, 363, 80, 87), (364, 366, 0, 100000)] F F273_ := fs_tr g253_ s275_ rfl
    have rk299_ : rk K F273_ := rk_fs rk254_ s275_ (fs_rg rfl) rfl
    refine ga_lstore_n (lv2 := [(1, .long (Int64.ofInt z256_)), (0, .ref 344)]) hm_184 rfl (Nat.le_of_ble_eq_true rfl) rfl ?_
    refine ga_aload_n (v := .ref 344) hm_184 rfl rfl rfl ?_
    refine gIi (nY := 1) (F := 0) (L := 0) (As := []) (b := 344) (rest := []) hm_184 rfl hm_59 rfl rfl (fl_ob sc_344) rfl rfl rfl rfl rfl (by omega) (by omega) ?_
    intro f300_ l301_ h302_ h303_
    show fl_R xi_ms 59 f300_ l301_ 0 [(0, .ref 344)] [] _ _
    refine ga_aload_n (v := .ref 344) hm_59 rfl rfl rfl ?_
    have b304_ : 0 ≤ F273_ 344 9 ∧ F273_ 344 9 ≤ 5 := gi_g g274_ rfl
    refine ga_geti (z := F273_ 344 9) hm_59 rfl sc_344 rfl (rfl) ?_
    refine fl_if_le (a := F273_ 344 9) hm_59 rfl ⟨by omega, by omega⟩ (fun h305_ => ?_) (fun h306_ => ?_)
    ·
      refine fl_iconst hm_59 rfl ?_
      refine gr_i hm_59 rfl rfl (ga_nb (by omega)) ?_
      clear h302_ h303_ f300_ l301_
      refine fl_if_ne hm_184 rfl ⟨by omega, by omega⟩ (fun h => absurd h (by omega)) (fun _ => ?_)
      refine ga_lload_n (z := z256_) hm_184 rfl rfl ?_
      refine ga_aload_n (v := .ref 344) hm_184 rfl rfl rfl ?_
      have e307_ : F14_ 344 14 = F 344 14 := (s16_ 344 14 rfl).trans (rfl)
      have e308_ : F39_ 344 14 = F 344 14 := (s41_ 344 14 rfl).trans (e307_)
      have e309_ : F65_ 344 14 = F 344 14 := (s67_ 344 14 rfl).trans (e308_)
      have e310_ : F92_ 344 14 = F 344 14 := (s94_ 344 14 rfl).trans (e309_)
      have e311_ : F125_ 344 14 = F 344 14 := (s127_ 344 14 rfl).trans (e310_)
      have e312_ : F153_ 344 14 = F 344 14 := by rw [q154_]; exact (fl_u_ne (by first | exact nc_ rfl | decide | omega)).trans (e311_)
      have e313_ : F172_ 344 14 = F 344 14 := (s174_ 344 14 rfl).trans (e312_)
      have e314_ : F203_ 344 14 = F 344 14 := (s205_ 344 14 rfl).trans (e313_)
      have e315_ : F235_ 344 14 = F 344 14 := (s237_ 344 14 rfl).trans (e314_)
      have e316_ : F273_ 344 14 = F 344 14 := (s275_ 344 14 rfl).trans (e315_)
      have b317_ : 0 ≤ F 344 14 ∧ F 344 14 ≤ 2565726408 := gi_g hgi rfl
      refine ga_getl (z := F 344 14) hm_184 rfl sc_344 rfl (e316_) ?_
      refine ga_lcmpq (a := z256_) (b := F 344 14) hm_184 rfl rfl ⟨by omega, by omega⟩ ⟨by omega, by omega⟩ (fun h318_ => ?_) (fun h319_ => ?_)
      ·
        refine ga_aload_n (v := .ref 344) hm_184 rfl rfl rfl ?_
        refine gIv (nY := 1) (F := 1) (L := 20) (As := []) (b := 344) (rest := []) hm_184 rfl hm_61 rfl rfl (fl_ob sc_344) rfl rfl rfl rfl rfl (by omega) (by omega) ?_
        intro f320_ l321_ h322_ h323_
        show fl_R xi_ms 61 f320_ l321_ 0 [(0, .ref 344)] [] _ _
        refine ga_aload_n (v := .ref 344) hm_61 rfl rfl rfl ?_
        refine ga_dup hm_61 rfl rfl ?_
        have e324_ : F273_ 344 5 = F235_ 344 5 := (s275_ 344 5 rfl).trans (rfl)
        refine ga_geti (z := F235_ 344 5) hm_61 rfl sc_344 rfl (e324_) ?_
        refine ga_aload_n (v := .ref 344) hm_61 rfl rfl rfl ?_
        refine gIi (nY := 1) (F := 0) (L := 0) (As := []) (b := 344) (rest := [.int (Int32.ofInt (F235_ 344 5)), .ref 344]) hm_61 rfl hm_59 rfl rfl (fl_ob sc_344) rfl rfl rfl rfl rfl (by omega) (by omega) ?_
        intro f325_ l326_ h327_ h328_
        show fl_R xi_ms 59 f325_ l326_ 0 [(0, .ref 344)] [] _ _
        refine ga_aload_n (v := .ref 344) hm_59 rfl rfl rfl ?_
        refine ga_geti (z := F273_ 344 9) hm_59 rfl sc_344 rfl (rfl) ?_
        refine fl_if_le (a := F273_ 344 9) hm_59 rfl ⟨by omega, by omega⟩ (fun h329_ => ?_) (fun h330_ => ?_)
        ·
          refine fl_iconst hm_59 rfl ?_
          refine gr_i hm_59 rfl rfl (ga_nb (by omega)) ?_
          clear h327_ h328_ f325_ l326_
          refine fl_if_eq hm_61 rfl ⟨by omega, by omega⟩ (fun _ => ?_) (fun h => absurd (by omega) h)
          refine fl_iconst hm_61 rfl ?_
          refine ga_iadd (a := F235_ 344 5) (b := 1) (c := F235_ 344 5 + 1) hm_61 rfl (by omega) ?_
          refine ga_puti (z := F235_ 344 5 + 1) hm_61 rfl sc_344 rfl rfl ?_
          refine gr_v hm_61 rfl rfl ?_
          clear h322_ h323_ f320_ l321_
          refine ga_aload_n (v := .ref 344) hm_184 rfl rfl rfl ?_
          refine fl_bipush hm_184 rfl rfl ?_
          obtain ⟨F331_, q332_⟩ : ∃ Fq_, Fq_ = (fl_u F273_ 344 5 (F235_ 344 5 + 1)) := ⟨_, rfl⟩
          rw [← q332_]
          have g333_ : gi F331_ := by rw [q332_]; exact gi_u (g274_) rfl (by omega) (by omega)
          have g334_ : fs [(344, 344, 5, 5), (344, 344, 9, 10), (344, 344, 33, 33), (344, 344, 36, 36), (344, 344, 64, 64), (358, 358, 5, 5), (360, 362, 40, 43), (363, 363, 80, 87), (364, 366, 0, 100000)] F F331_ := by rw [q332_]; exact fs_u (g298_) rfl
          have rk335_ : rk K F331_ := by rw [q332_]; exact rk_u (rk299_) (by first | decide | exact nc_ rfl | omega) (by first | decide | exact nc_ rfl | omega)
          have e336_ : F331_ 344 5 = F235_ 344 5 + 1 := by rw [q332_]; exact fl_u_eq
          refine gVv (nY := 2) (F := 2) (L := 41) (As := [.int (Int32.ofInt 41)]) (b := 344) (rest := []) hm_184 rfl hm_51 rfl rfl (fl_ob sc_344) rfl rfl rfl rfl rfl (by omega) (by omega) (mc_51 hG F331_ X g333_ (K) (41) (1) hgK rk335_ hkt (⟨by omega, by omega⟩) (by omega) (by omega)) (fun _ _ h => False.elim h) ?_
          have e338_ : F331_ 344 10 = F273_ 344 10 := by rw [q332_]; exact fl_u_ne (by first | exact nc_ rfl | decide | omega)
          have b339_ : 0 ≤ F273_ 344 10 ∧ F273_ 344 10 ≤ 600 := gi_g g274_ rfl
          have e340_ : F331_ 344 9 = F273_ 344 9 := by rw [q332_]; exact fl_u_ne (by first | exact nc_ rfl | decide | omega)
          rintro A1_ (⟨F344_, hA_, g345_, s346_, c341_, c342_, c343_⟩ | ⟨F350_, hA_, g351_, s352_, c347_, c348_, c349_⟩)
          ·
            subst hA_
            have g353_ : fs [(344, 344, 5, 5), (344, 344, 9, 10), (344, 344, 33, 33), (344, 344, 36, 36), (344, 344, 64, 64), (358, 358, 5, 5), (360, 362, 40, 43), (363, 363, 80, 87), (364, 366, 0, 100000)] F F344_ := fs_tr g334_ s346_ rfl
            have rk354_ : rk K F344_ := rk_fs rk335_ s346_ (fs_rg rfl) rfl
            try simp only [e336_, e338_, e340_] at c342_
            have c342_s := c342_.1 (by omega)
            clear c342_
            have b355_ : 0 ≤ F344_ 344 9 ∧ F344_ 344 9 ≤ 5 := gi_g g345_ rfl
            have b356_ : 0 ≤ F344_ 344 10 ∧ F344_ 344 10 ≤ 600 := gi_g g345_ rfl
            have b357_ : 0 ≤ F344_ 344 5 ∧ F344_ 344 5 ≤ 600 := gi_g g345_ rfl
            have e358_ : F14_ 5 2 = F 5 2 := (s16_ 5 2 rfl).trans (rfl)
            have e359_ : F39_ 5 2 = F 5 2 := (s41_ 5 2 rfl).trans (e358_)
            have e360_ : F65_ 5 2 = F 5 2 := (s67_ 5 2 rfl).trans (e359_)
            have e361_ : F92_ 5 2 = F 5 2 := (s94_ 5 2 rfl).trans (e360_)
            have e362_ : F125_ 5 2 = F 5 2 := (s127_ 5 2 rfl).trans (e361_)
            have e363_ : F153_ 5 2 = F 5 2 := by rw [q154_]; exact (fl_u_ne (by first | exact nc_ rfl | decide | omega)).trans (e362_)
            have e364_ : F172_ 5 2 = F 5 2 := (s174_ 5 2 rfl).trans (e363_)
            have e365_ : F203_ 5 2 = F 5 2 := (s205_ 5 2 rfl).trans (e364_)
            have e366_ : F235_ 5 2 = F 5 2 := (s237_ 5 2 rfl).trans (e365_)
            have e367_ : F273_ 5 2 = F 5 2 := (s275_ 5 2 rfl).trans (e366_)
            have e368_ : F331_ 5 2 = F 5 2 := by rw [q332_]; exact (fl_u_ne (by first | exact nc_ rfl | decide | omega)).trans (e367_)
            have e369_ : F344_ 5 2 = F 5 2 := (s346_ 5 2 rfl).trans (e368_)
            have b370_ : 0 ≤ F 5 2 ∧ F 5 2 ≤ 600 := gi_g hgi rfl
            exact fl_R_sub (lv' := [(0, .ref 344)]) rfl rfl (mb_184_86 hG F X hgi K nm ts pl ps hgK hrk hkt hp h0 h5 hnm hts hpl hps h33 fr lo hfr hlo F344_ g345_ g353_ rk354_ (by omega) (⟨by omega, by omega⟩) (⟨by intro h0_; have hs_ := c342_s; rw [sp_prb, sp_open]; rw [(congrArg (sp_kind K 0) h5.symm).trans c12_]; simp only [pb_r]; rw [c37_]; simp only [pb_r]; rw [c63_]; simp only [pb_r]; rw [c90_]; simp only [pb_r]; rw [(show sp_kind K 2 (F92_ 344 5) = .inr (F92_ 344 5 + 1) by rw [sp_kind, if_pos (by omega), sk, if_pos (by omega)])]; simp only [pb_r]; rw [c170_]; simp only [pb_r]; rw [sp_dname, sp_part]; rw [c201_]; simp only [pb_r]; rw [c233_]; simp only [pb_r]; rw [if_neg (fun h8_ => h8_.2 ((nrel_inj c269_ hnm).mpr (by omega))), (show sp_kind K 2 (F235_ 344 5) = .inr (F235_ 344 5 + 1) by rw [sp_kind, if_pos (by omega), sk, if_pos (by omega)])]; simp only [pb_r]; rw [hs_]; try (show Sum.inl _ = _); try (congr 2 <;> omega), fun h0_ => by exfalso; omega⟩) (⟨[], [], (trm_fs (by rw [q332_]; exact (trm_u (trm_fs (trm_fs (trm_fs (trm_fs (by rw [q154_]; exact (trm_u (trm_fs (trm_fs (trm_fs (trm_fs (trm_fs (tr5_0 h33) s16_ (by first | exact fs_rg rfl | exact fun r j hj => (fs_n (by omega) (fs_n (by omega) rfl)))) s41_ (by first | exact fs_rg rfl | exact fun r j hj => (fs_n (by omega) (fs_n (by omega) rfl)))) s67_ (by first | exact fs_rg rfl | exact fun r j hj => (fs_n (by omega) (fs_n (by omega) rfl)))) s94_ (by first | exact fs_rg rfl | exact fun r j hj => (fs_n (by omega) (fs_n (by omega) rfl)))) s127_ (by first | exact fs_rg rfl | exact fun r j hj => (fs_n (by omega) rfl))) (by first | decide | exact nc_ rfl | omega))) s174_ (by first | exact fs_rg rfl | exact fun r j hj => (fs_n (by omega) (fs_n (by omega) rfl)))) s205_ (by first | exact fs_rg rfl | exact fun r j hj => (fs_n (by omega) (fs_n (by omega) rfl)))) s237_ (by first | exact fs_rg rfl | exact fun r j hj => (fs_n (by omega) (fs_n (by omega) rfl)))) s275_ (by first | exact fs_rg rfl | exact fun r j hj => (fs_n (by omega) rfl))) (by first | decide | exact nc_ rfl | omega))) s346_ (by first | exact fs_rg rfl | exact fun r j hj => (fs_n (by omega) (fs_n (by omega) rfl)))), rfl⟩))
          subst hA_
          have g371_ : fs [(344, 344, 5, 5), (344, 344, 9, 10), (344, 344, 33, 33), (344, 344, 36, 36), (344, 344, 64, 64), (358, 358, 5, 5), (360, 362, 40, 43), (363, 363, 80, 87), (364, 366, 0, 100000)] F F350_ := fs_tr g334_ s352_ rfl
          have rk372_ : rk K F350_ := rk_fs rk335_ s352_ (fs_rg rfl) rfl
          try simp only [e340_] at c347_
          try simp only [e336_] at c348_
          refine ga_aload_n (v := .ref 344) hm_184 rfl rfl rfl ?_
          refine fl_bipush hm_184 rfl rfl ?_
          have b373_ : 0 ≤ F350_ 344 5 ∧ F350_ 344 5 ≤ 600 := gi_g g351_ rfl
          refine gVv (nY := 2) (F := 2) (L := 41) (As := [.int (Int32.ofInt 40)]) (b := 344) (rest := []) hm_184 rfl hm_51 rfl rfl (fl_ob sc_344) rfl rfl rfl rfl rfl (by omega) (by omega) (mc_51 hG F350_ X g351_ (K) (40) (0) hgK rk372_ hkt (⟨by omega, by omega⟩) (by omega) (by omega)) (fun _ _ h => False.elim h) ?_
          have b375_ : 0 ≤ F350_ 344 10 ∧ F350_ 344 10 ≤ 600 := gi_g g351_ rfl
          have b376_ : 0 ≤ F350_ 344 9 ∧ F350_ 344 9 ≤ 5 := gi_g g351_ rfl
          rintro A1_ (⟨F380_, hA_, g381_, s382_, c377_, c378_, c379_⟩ | ⟨F386_, hA_, g387_, s388_, c383_, c384_, c385_⟩)
          ·
            subst hA_
            have g389_ : fs [(344, 344, 5, 5), (344, 344, 9, 10), (344, 344, 33, 33), (344, 344, 36, 36), (344, 344, 64, 64), (358, 358, 5, 5), (360, 362, 40, 43), (363, 363, 80, 87), (364, 366, 0, 100000)] F F380_ := fs_tr g371_ s382_ rfl
            have rk390_ : rk K F380_ := rk_fs rk372_ s382_ (fs_rg rfl) rfl
            have c378_s := c378_.1 (by omega)
            clear c378_
            have b391_ : 0 ≤ F380_ 344 9 ∧ F380_ 344 9 ≤ 5 := gi_g g381_ rfl
            have b392_ : 0 ≤ F380_ 344 10 ∧ F380_ 344 10 ≤ 600 := gi_g g381_ rfl
            have b393_ : 0 ≤ F380_ 344 5 ∧ F380_ 344 5 ≤ 600 := gi_g g381_ rfl
            have e394_ : F14_ 5 2 = F 5 2 := (s16_ 5 2 rfl).trans (rfl)
            have e395_ : F39_ 5 2 = F 5 2 := (s41_ 5 2 rfl).trans (e394_)
            have e396_ : F65_ 5 2 = F 5 2 := (s67_ 5 2 rfl).trans (e395_)
            have e397_ : F92_ 5 2 = F 5 2 := (s94_ 5 2 rfl).trans (e396_)
            have e398_ : F125_ 5 2 = F 5 2 := (s127_ 5 2 rfl).trans (e397_)
            have e399_ : F153_ 5 2 = F 5 2 := by rw [q154_]; exact (fl_u_ne (by first | exact nc_ rfl | decide | omega)).trans (e398_)
            have e400_ : F172_ 5 2 = F 5 2 := (s174_ 5 2 rfl).trans (e399_)
            have e401_ : F203_ 5 2 = F 5 2 := (s205_ 5 2 rfl).trans (e400_)
            have e402_ : F235_ 5 2 = F 5 2 := (s237_ 5 2 rfl).trans (e401_)
            have e403_ : F273_ 5 2 = F 5 2 := (s275_ 5 2 rfl).trans (e402_)
            have e404_ : F331_ 5 2 = F 5 2 := by rw [q332_]; exact (fl_u_ne (by first | exact nc_ rfl | decide | omega)).trans (e403_)
            have e405_ : F350_ 5 2 = F 5 2 := (s352_ 5 2 rfl).trans (e404_)
            have e406_ : F380_ 5 2 = F 5 2 := (s382_ 5 2 rfl).trans (e405_)
            have b407_ : 0 ≤ F 5 2 ∧ F 5 2 ≤ 600 := gi_g hgi rfl
            exact fl_R_sub (lv' := [(0, .ref 344)]) rfl rfl (mb_184_92 hG F X hgi K nm ts pl ps hgK hrk hkt hp h0 h5 hnm hts hpl hps h33 fr lo hfr hlo F380_ g381_ g389_ rk390_ (by omega) (⟨by omega, by omega⟩) (⟨by intro h0_; have hs_ := c378_s; rw [sp_prb, sp_open]; rw [(congrArg (sp_kind K 0) h5.symm).trans c12_]; simp only [pb_r]; rw [c37_]; simp only [pb_r]; rw [c63_]; simp only [pb_r]; rw [c90_]; simp only [pb_r]; rw [(show sp_kind K 2 (F92_ 344 5) = .inr (F92_ 344 5 + 1) by rw [sp_kind, if_pos (by omega), sk, if_pos (by omega)])]; simp only [pb_r]; rw [c170_]; simp only [pb_r]; rw [sp_dname, sp_part]; rw [c201_]; simp only [pb_r]; rw [c233_]; simp only [pb_r]; rw [if_neg (fun h8_ => h8_.2 ((nrel_inj c269_ hnm).mpr (by omega))), (show sp_kind K 2 (F235_ 344 5) = .inr (F235_ 344 5 + 1) by rw [sp_kind, if_pos (by omega), sk, if_pos (by omega)])]; simp only [pb_r]; rw [c348_]; simp only [pb_r]; rw [sp_robjs, sp_part]; rw [hs_]; try (show Sum.inl _ = _); try (congr 2 <;> omega), fun h0_ => by exfalso; omega⟩) (⟨[], [], (trm_fs (trm_fs (by rw [q332_]; exact (trm_u (trm_fs (trm_fs (trm_fs (trm_fs (by rw [q154_]; exact (trm_u (trm_fs (trm_fs (trm_fs (trm_fs (trm_fs (tr5_0 h33) s16_ (by first | exact fs_rg rfl | exact fun r j hj => (fs_n (by omega) (fs_n (by omega) rfl)))) s41_ (by first | exact fs_rg rfl | exact fun r j hj => (fs_n (by omega) (fs_n (by omega) rfl)))) s67_ (by first | exact fs_rg rfl | exact fun r j hj => (fs_n (by omega) (fs_n (by omega) rfl)))) s94_ (by first | exact fs_rg rfl | exact fun r j hj => (fs_n (by omega) (fs_n (by omega) rfl)))) s127_ (by first | exact fs_rg rfl | exact fun r j hj => (fs_n (by omega) rfl))) (by first | decide | exact nc_ rfl | omega))) s174_ (by first | exact fs_rg rfl | exact fun r j hj => (fs_n (by omega) (fs_n (by omega) rfl)))) s205_ (by first | exact fs_rg rfl | exact fun r j hj => (fs_n (by omega) (fs_n (by omega) rfl)))) s237_ (by first | exact fs_rg rfl | exact fun r j hj => (fs_n (by omega) (fs_n (by omega) rfl)))) s275_ (by first | exact fs_rg rfl | exact fun r j hj => (fs_n (by omega) rfl))) (by first | decide | exact nc_ rfl | omega))) s352_ (by first | exact fs_rg rfl | exact fun r j hj => (fs_n (by omega) (fs_n (by omega) rfl)))) s382_ (by first | exact fs_rg rfl | exact fun r j hj => (fs_n (by omega) (fs_n (by omega) rfl)))), rfl⟩))
          subst hA_
          have g408_ : fs [(344, 344, 5, 5), (344, 344, 9, 10), (344, 344, 33, 33), (344, 344, 36, 36), (344, 344, 64, 64), (358, 358, 5, 5), (360, 362, 40, 43), (363, 363, 80, 87), (364, 366, 0, 100000)] F F386_ := fs_tr g371_ s388_ rfl
          have rk409_ : rk K F386_ := rk_fs rk372_ s388_ (fs_rg rfl) rfl
          refine ga_aload_n (v := .ref 344) hm_184 rfl rfl rfl ?_
          refine fl_bipush hm_184 rfl rfl ?_
          have b410_ : 0 ≤ F386_ 344 5 ∧ F386_ 344 5 ≤ 600 := gi_g g387_ rfl
          refine gVv (nY := 2) (F := 2) (L := 44) (As := [.int (Int32.ofInt 15)]) (b := 344) (rest := []) hm_184 rfl hm_55 rfl rfl (fl_ob sc_344) rfl rfl rfl rfl rfl (by omega) (by omega) (mc_55 hG F386_ X g387_ (K) (15) ([58, 111, 98, 106, 101, 99, 116, 115]) hgK rk409_ hkt (⟨by omega, by omega⟩) (⟨by omega, by omega⟩) (by decide) (kw_15 rk409_)) (fun _ _ h => False.elim h) ?_
          have b412_ : 0 ≤ F386_ 344 10 ∧ F386_ 344 10 ≤ 600 := gi_g g387_ rfl
          have b413_ : 0 ≤ F386_ 344 9 ∧ F386_ 344 9 ≤ 5 := gi_g g387_ rfl
          rintro A1_ (⟨F417_, hA_, g418_, s419_, c414_, c415_, c416_⟩ | ⟨F423_, hA_, g424_, s425_, c420_, c421_, c422_⟩)
          ·
            subst hA_
            have g426_ : fs [(344, 344, 5, 5), (344, 344, 9, 10), (344, 344, 33, 33), (344, 344, 36, 36), (344, 344, 64, 64), (358, 358, 5, 5), (360, 362, 40, 43), (363, 363, 80, 87), (364, 366, 0, 100000)] F F417_ := fs_tr g408_ s419_ rfl
            have rk427_ : rk K F417_ := rk_fs rk409_ s419_ (fs_rg rfl) rfl
            have c415_s := c415_.1 (by omega)
            clear c415_
            have b428_ : 0 ≤ F417_ 344 9 ∧ F417_ 344 9 ≤ 5 := gi_g g418_ rfl
            have b429_ : 0 ≤ F417_ 344 10 ∧ F417_ 344 10 ≤ 600 := gi_g g418_ rfl
            have b430_ : 0 ≤ F417_ 344 5 ∧ F417_ 344 5 ≤ 600 := gi_g g418_ rfl
            have e431_ : F14_ 5 2 = F 5 2 := (s16_ 5 2 rfl).trans (rfl)
            have e432_ : F39_ 5 2 = F 5 2 := (s41_ 5 2 rfl).trans (e431_)
            have e433_ : F65_ 5 2 = F 5 2 := (s67_ 5 2 rfl).trans (e432_)
            have e434_ : F92_ 5 2 = F 5 2 := (s94_ 5 2 rfl).trans (e433_)
            have e435_ : F125_ 5 2 = F 5 2 := (s127_ 5 2 rfl).trans (e434_)
            have e436_ : F153_ 5 2 = F 5 2 := by rw [q154_]; exact (fl_u_ne (by first | exact nc_ rfl | decide | omega)).trans (e435_)
            have e437_ : F172_ 5 2 = F 5 2 := (s174_ 5 2 rfl).trans (e436_)
            have e438_ : F203_ 5 2 = F 5 2 := (s205_ 5 2 rfl).trans (e437_)
            have e439_ : F235_ 5 2 = F 5 2 := (s237_ 5 2 rfl).trans (e438_)
            have e440_ : F273_ 5 2 = F 5 2 := (s275_ 5 2 rfl).trans (e439_)
            have e441_ : F331_ 5 2 = F 5 2 := by rw [q332_]; exact (fl_u_ne (by first | exact nc_ rfl | decide | omega)).trans (e440_)
            have e442_ : F350_ 5 2 = F 5 2 := (s352_ 5 2 rfl).trans (e441_)
            have e443_ : F386_ 5 2 = F 5 2 := (s388_ 5 2 rfl).trans (e442_)
            have e444_ : F417_ 5 2 = F 5 2 := (s419_ 5 2 rfl).trans (e443_)
            have b445_ : 0 ≤ F 5 2 ∧ F 5 2 ≤ 600 := gi_g hgi rfl
            exact fl_R_sub (lv' := [(0, .ref 344)]) rfl rfl (mb_184_98 hG F X hgi K nm ts pl ps hgK hrk hkt hp h0 h5 hnm hts hpl hps h33 fr lo hfr hlo F417_ g418_ g426_ rk427_ (by omega) (⟨by omega, by omega⟩) (⟨by intro h0_; have hs_ := c415_s; rw [sp_prb, sp_open]; rw [(congrArg (sp_kind K 0) h5.symm).trans c12_]; simp only [pb_r]; rw [c37_]; simp only [pb_r]; rw [c63_]; simp only [pb_r]; rw [c90_]; simp only [pb_r]; rw [(show sp_kind K 2 (F92_ 344 5) = .inr (F92_ 344 5 + 1) by rw [sp_kind, if_pos (by omega), sk, if_pos (by omega)])]; simp only [pb_r]; rw [c170_]; simp only [pb_r]; rw [sp_dname, sp_part]; rw [c201_]; simp only [pb_r]; rw [c233_]; simp only [pb_r]; rw [if_neg (fun h8_ => h8_.2 ((nrel_inj c269_ hnm).mpr (by omega))), (show sp_kind K 2 (F235_ 344 5) = .inr (F235_ 344 5 + 1) by rw [sp_kind, if_pos (by omega), sk, if_pos (by omega)])]; simp only [pb_r]; rw [c348_]; simp only [pb_r]; rw [sp_robjs, sp_part]; rw [c384_]; simp only [pb_r]; rw [hs_]; try (show Sum.inl _ = _); try (congr 2 <;> omega), fun h0_ => by exfalso; omega⟩) (⟨[], [], (trm_fs (trm_fs (trm_fs (by rw [q332_]; exact (trm_u (trm_fs (trm_fs (trm_fs (trm_fs (by rw [q154_]; exact (trm_u (trm_fs (trm_fs (trm_fs (trm_fs (trm_fs (tr5_0 h33) s16_ (by first | exact fs_rg rfl | exact fun r j hj => (fs_n (by omega) (fs_n (by omega) rfl)))) s41_ (by first | exact fs_rg rfl | exact fun r j hj => (fs_n (by omega) (fs_n (by omega) rfl)))) s67_ (by first | exact fs_rg rfl | exact fun r j hj => (fs_n (by omega) (fs_n (by omega) rfl)))) s94_ (by first | exact fs_rg rfl | exact fun r j hj => (fs_n (by omega) (fs_n (by omega) rfl)))) s127_ (by first | exact fs_rg rfl | exact fun r j hj => (fs_n (by omega) rfl))) (by first | decide | exact nc_ rfl | omega))) s174_ (by first | exact fs_rg rfl | exact fun r j hj => (fs_n (by omega) (fs_n (by omega) rfl)))) s205_ (by first | exact fs_rg rfl | exact fun r j hj => (fs_n (by omega) (fs_n (by omega) rfl)))) s237_ (by first | exact fs_rg rfl | exact fun r j hj => (fs_n (by omega) (fs_n (by omega) rfl)))) s275_ (by first | exact fs_rg rfl | exact fun r j hj => (fs_n (by omega) rfl))) (by first | decide | exact nc_ rfl | omega))) s352_ (by first | exact fs_rg rfl | exact fun r j hj => (fs_n (by omega) (fs_n (by omega) rfl)))) s388_ (by first | exact fs_rg rfl | exact fun r j hj => (fs_n (by omega) (fs_n (by omega) rfl)))) s419_ (by first | exact fs_rg rfl | exact fun r j hj => (fs_n (by omega) (fs_n (by omega) rfl)))), rfl⟩))
          subst hA_
          have g446_ : fs [(344, 344, 5, 5), (344, 344, 9, 10), (344, 344, 33, 33), (344, 344, 36, 36), (344, 344, 64, 64), (358, 358, 5, 5), (360, 362, 40, 43), (363, 363, 80, 87), (364, 366, 0, 100000)] F F423_ := fs_tr g408_ s425_ rfl
          have rk447_ : rk K F423_ := rk_fs rk409_ s425_ (fs_rg rfl) rfl
          have b448_ : 0 ≤ F423_ 344 9 ∧ F423_ 344 9 ≤ 5 := gi_g g424_ rfl
          have b449_ : 0 ≤ F423_ 344 10 ∧ F423_ 344 10 ≤ 600 := gi_g g424_ rfl
          have b450_ : 0 ≤ F423_ 344 5 ∧ F423_ 344 5 ≤ 600 := gi_g g424_ rfl
          have e451_ : F14_ 344 33 = F 344 33 := (s16_ 344 33 rfl).trans (rfl)
          have e452_ : F39_ 344 33 = F 344 33 := (s41_ 344 33 rfl).trans (e451_)
          have e453_ : F65_ 344 33 = F 344 33 := (s67_ 344 33 rfl).trans (e452_)
          have e454_ : F92_ 344 33 = F 344 33 := (s94_ 344 33 rfl).trans (e453_)
          have e455_ : F125_ 344 33 = F 344 33 := (s127_ 344 33 rfl).trans (e454_)
          have e456_ : F153_ 344 33 = F 344 33 := by rw [q154_]; exact (fl_u_ne (by first | exact nc_ rfl | decide | omega)).trans (e455_)
          have e457_ : F172_ 344 33 = F 344 33 := (s174_ 344 33 rfl).trans (e456_)
          have e458_ : F203_ 344 33 = F 344 33 := (s205_ 344 33 rfl).trans (e457_)
          have e459_ : F235_ 344 33 = F 344 33 := (s237_ 344 33 rfl).trans (e458_)
          have e460_ : F273_ 344 33 = F 344 33 := (s275_ 344 33 rfl).trans (e459_)
          have e461_ : F331_ 344 33 = F 344 33 := by rw [q332_]; exact (fl_u_ne (by first | exact nc_ rfl | decide | omega)).trans (e460_)
          have e462_ : F350_ 344 33 = F 344 33 := (s352_ 344 33 rfl).trans (e461_)
          have e463_ : F386_ 344 33 = F 344 33 := (s388_ 344 33 rfl).trans (e462_)
          have e464_ : F423_ 344 33 = F 344 33 := (s425_ 344 33 rfl).trans (e463_)
          have b465_ : 0 ≤ F 344 33 ∧ F 344 33 ≤ 6 := gi_g hgi rfl
          exact fl_R_sub (lv' := [(0, .ref 344)]) rfl rfl (mg_184_98 hG F X hgi K nm ts pl ps hgK hrk hkt hp h0 h5 hnm hts hpl hps h33 fr lo hfr hlo F423_ g424_ g446_ rk447_ ⟨by omega, by omega⟩ ⟨by omega, by omega⟩ (by rw [sp_prb, sp_open]; rw [(congrArg (sp_kind K 0) h5.symm).trans c12_]; simp only [pb_r]; rw [c37_]; simp only [pb_r]; rw [c63_]; simp only [pb_r]; rw [c90_]; simp only [pb_r]; rw [(show sp_kind K 2 (F92_ 344 5) = .inr (F92_ 344 5 + 1) by rw [sp_kind, if_pos (by omega), sk, if_pos (by omega)])]; simp only [pb_r]; rw [c170_]; simp only [pb_r]; rw [sp_dname, sp_part]; rw [c201_]; simp only [pb_r]; rw [c233_]; simp only [pb_r]; rw [if_neg (fun h8_ => h8_.2 ((nrel_inj c269_ hnm).mpr (by omega))), (show sp_kind K 2 (F235_ 344 5) = .inr (F235_ 344 5 + 1) by rw [sp_kind, if_pos (by omega), sk, if_pos (by omega)])]; simp only [pb_r]; rw [c348_]; simp only [pb_r]; rw [sp_robjs, sp_part]; rw [c384_]; simp only [pb_r]; rw [c421_]; simp only [pb_r]; first | rfl | (congr 1; omega)) ((rpn_fs (rpn_fs (rpn_fs (by rw [q332_]; exact (rpn_u (rpn_fs (rpn_fs (rpn_fs (rpn_fs (by rw [q154_]; exact (rpn_u (rpn_fs (rpn_fs (rpn_fs (rpn_fs (rpn_fs hts s16_ (fun _ => (by first | exact fs_c rfl | exact (fs_n (by omega) (fs_n (by omega) rfl)))) (by first | exact fs_c rfl | exact (fs_n (by omega) (fs_n (by omega) rfl)))) s41_ (fun _ => (by first | exact fs_c rfl | exact (fs_n (by omega) (fs_n (by omega) rfl)))) (by first | exact fs_c rfl | exact (fs_n (by omega) (fs_n (by omega) rfl)))) s67_ (fun _ => (by first | exact fs_c rfl | exact (fs_n (by omega) (fs_n (by omega) rfl)))) (by first | exact fs_c rfl | exact (fs_n (by omega) (fs_n (by omega) rfl)))) s94_ (fun _ => (by first | exact fs_c rfl | exact (fs_n (by omega) (fs_n (by omega) rfl)))) (by first | exact fs_c rfl | exact (fs_n (by omega) (fs_n (by omega) rfl)))) s127_ (fun _ => (by first | exact fs_c rfl | exact (fs_n (by omega) rfl))) (by first | exact fs_c rfl | exact (fs_n (by omega) rfl))) (by first | decide | exact nc_ rfl | omega) (by first | decide | exact nc_ rfl | omega))) s174_ (fun _ => (by first | exact fs_c rfl | exact (fs_n (by omega) (fs_n (by omega) rfl)))) (by first | exact fs_c rfl | exact (fs_n (by omega) (fs_n (by omega) rfl)))) s205_ (fun _ => (by first | exact fs_c rfl | exact (fs_n (by omega) (fs_n (by omega) rfl)))) (by first | exact fs_c rfl | exact (fs_n (by omega) (fs_n (by omega) rfl)))) s237_ (fun _ => (by first | exact fs_c rfl | exact (fs_n (by omega) (fs_n (by omega) rfl)))) (by first | exact fs_c rfl | exact (fs_n (by omega) (fs_n (by omega) rfl)))) s275_ (fun _ => (by first | exact fs_c rfl | exact (fs_n (by omega) rfl))) (by first | exact fs_c rfl | exact (fs_n (by omega) rfl))) (by first | decide | exact nc_ rfl | omega) (by first | decide | exact nc_ rfl | omega))) s352_ (fun _ => (by first | exact fs_c rfl | exact (fs_n (by omega) (fs_n (by omega) rfl)))) (by first | exact fs_c rfl | exact (fs_n (by omega) (fs_n (by omega) rfl)))) s388_ (fun _ => (by first | exact fs_c rfl | exact (fs_n (by omega) (fs_n (by omega) rfl)))) (by first | exact fs_c rfl | exact (fs_n (by omega) (fs_n (by omega) rfl)))) s425_ (fun _ => (by first | exact fs_c rfl | exact (fs_n (by omega) (fs_n (by omega) rfl)))) (by first | exact fs_c rfl | exact (fs_n (by omega) (fs_n (by omega) rfl))))) ((rpn_fs (rpn_fs (rpn_fs (by rw [q332_]; exact (rpn_u (rpn_fs (rpn_fs (rpn_fs (rpn_fs (by rw [q154_]; exact (rpn_u (rpn_fs (rpn_fs (rpn_fs (rpn_fs (rpn_fs hpl s16_ (fun _ => (by first | exact fs_c rfl | exact (fs_n (by omega) (fs_n (by omega) rfl)))) (by first | exact fs_c rfl | exact (fs_n (by omega) (fs_n (by omega) rfl)))) s41_ (fun _ => (by first | exact fs_c rfl | exact (fs_n (by omega) (fs_n (by omega) rfl)))) (by first | exact fs_c rfl | exact (fs_n (by omega) (fs_n (by omega) rfl)))) s67_ (fun _ => (by first | exact fs_c rfl | exact (fs_n (by omega) (fs_n (by omega) rfl)))) (by first | exact fs_c rfl | exact (fs_n (by omega) (fs_n (by omega) rfl)))) s94_ (fun _ => (by first | exact fs_c rfl | exact (fs_n (by omega) (fs_n (by omega) rfl)))) (by first | exact fs_c rfl | exact (fs_n (by omega) (fs_n (by omega) rfl)))) s127_ (fun _ => (by first | exact fs_c rfl | exact (fs_n (by omega) rfl))) (by first | exact fs_c rfl | exact (fs_n (by omega) rfl))) (by first | decide | exact nc_ rfl | omega) (by first | decide | exact nc_ rfl | omega))) s174_ (fun _ => (by first | exact fs_c rfl | exact (fs_n (by omega) (fs_n (by omega) rfl)))) (by first | exact fs_c rfl | exact (fs_n (by omega) (fs_n (by omega) rfl)))) s205_ (fun _ => (by first | exact fs_c rfl | exact (fs_n (by omega) (fs_n (by omega) rfl)))) (by first | exact fs_c rfl | exact (fs_n (by omega) (fs_n (by omega) rfl)))) s237_ (fun _ => (by first | exact fs_c rfl | exact (fs_n (by omega) (fs_n (by omega) rfl)))) (by first | exact fs_c rfl | exact (fs_n (by omega) (fs_n (by omega) rfl)))) s275_ (fun _ => (by first | exact fs_c rfl | exact (fs_n (by omega) rfl))) (by first | exact fs_c rfl | exact (fs_n (by omega) rfl))) (by first | decide | exact nc_ rfl | omega) (by first | decide | exact nc_ rfl | omega))) s352_ (fun _ => (by first | exact fs_c rfl | exact (fs_n (by omega) (fs_n (by omega) rfl)))) (by first | exact fs_c rfl | exact (fs_n (by omega) (fs_n (by omega) rfl)))) s388_ (fun _ => (by first | exact fs_c rfl | exact (fs_n (by omega) (fs_n (by omega) rfl)))) (by first | exact fs_c rfl | exact (fs_n (by omega) (fs_n (by omega) rfl)))) s425_ (fun _ => (by first | exact fs_c rfl | exact (fs_n (by omega) (fs_n (by omega) rfl)))) (by first | exact fs_c rfl | exact (fs_n (by omega) (fs_n (by omega) rfl))))) (⟨(rprd_fs (rprd_fs (rprd_fs (by rw [q332_]; exact (rprd_u (rprd_fs (rprd_fs (rprd_fs (rprd_fs (by rw [q154_]; exact (rprd_u (rprd_fs (rprd_fs (rprd_fs (rprd_fs (rprd_fs hps.1 s16_ (by first | exact fs_rg rfl | exact fun r j hj => (fs_n (by omega) (fs_n (by omega) rfl)))) s41_ (by first | exact fs_rg rfl | exact fun r j hj => (fs_n (by omega) (fs_n (by omega) rfl)))) s67_ (by first | exact fs_rg rfl | exact fun r j hj => (fs_n (by omega) (fs_n (by omega) rfl)))) s94_ (by first | exact fs_rg rfl | exact fun r j hj => (fs_n (by omega) (fs_n (by omega) rfl)))) s127_ (by first | exact fs_rg rfl | exact fun r j hj => (fs_n (by omega) rfl))) (by first | decide | exact nc_ rfl | omega))) s174_ (by first | exact fs_rg rfl | exact fun r j hj => (fs_n (by omega) (fs_n (by omega) rfl)))) s205_ (by first | exact fs_rg rfl | exact fun r j hj => (fs_n (by omega) (fs_n (by omega) rfl)))) s237_ (by first | exact fs_rg rfl | exact fun r j hj => (fs_n (by omega) (fs_n (by omega) rfl)))) s275_ (by first | exact fs_rg rfl | exact fun r j hj => (fs_n (by omega) rfl))) (by first | decide | exact nc_ rfl | omega))) s352_ (by first | exact fs_rg rfl | exact fun r j hj => (fs_n (by omega) (fs_n (by omega) rfl)))) s388_ (by first | exact fs_rg rfl | exact fun r j hj => (fs_n (by omega) (fs_n (by omega) rfl)))) s425_ (by first | exact fs_rg rfl | exact fun r j hj => (fs_n (by omega) (fs_n (by omega) rfl)))), hps.2⟩) (by omega) (by rw [pr_h, sp_open]; rw [(congrArg (sp_kind K 0) h5.symm).trans c12_]; simp only [pb_r]; rw [c37_]; simp only [pb_r]; rw [c63_]; simp only [pb_r]; rw [c90_]; simp only [pb_r]; rw [(show sp_kind K 2 (F92_ 344 5) = .inr (F92_ 344 5 + 1) by rw [sp_kind, if_pos (by omega), sk, if_pos (by omega)])]; simp only [pb_r]; rw [c170_]; simp only [pb_r]; rw [sp_dname, sp_part]; rw [c201_]; simp only [pb_r]; rw [c233_]; simp only [pb_r]; rw [if_neg (fun h8_ => h8_.2 ((nrel_inj c269_ hnm).mpr (by omega))), (show sp_kind K 2 (F235_ 344 5) = .inr (F235_ 344 5 + 1) by rw [sp_kind, if_pos (by omega), sk, if_pos (by omega)])]; simp only [pb_r]; rw [c348_]; simp only [pb_r]; rw [sp_robjs, sp_part]; rw [c384_]; simp only [pb_r]; rw [c421_]; simp only [pb_r]; first | rfl | (congr 1; omega)))
        exfalso; omega
      refine ga_aload_n (v := .ref 344) hm_184 rfl rfl rfl ?_
      refine fl_iconst hm_184 rfl ?_
      have e466_ : F273_ 344 5 = F235_ 344 5 := (s275_ 344 5 rfl).trans (rfl)
      refine gVv (nY := 2) (F := 0) (L := 0) (As := [.int (Int32.ofInt 3)]) (b := 344) (rest := []) hm_184 rfl hm_54 rfl rfl (fl_ob sc_344) rfl rfl rfl rfl rfl (by omega) (by omega) (mc_54 hG F273_ X g274_ (K) (3) hgK rk299_ hkt (⟨by omega, by omega⟩) (⟨by omega, by omega⟩)) (fun _ _ h => False.elim h) ?_
      have b468_ : 0 ≤ F273_ 344 10 ∧ F273_ 344 10 ≤ 600 := gi_g g274_ rfl
      rintro A1_ ⟨F472_, hA_, g473_, s474_, c469_, c470_, c471_⟩
      subst hA_
      have g475_ : fs [(344, 344, 5, 5), (344, 344, 9, 10), (344, 344, 33, 33), (344, 344, 36, 36), (344, 344, 64, 64), (358, 358, 5, 5), (360, 362, 40, 43), (363, 363, 80, 87), (364, 366, 0, 100000)] F F472_ := fs_tr g298_ s474_ rfl
      have rk476_ : rk K F472_ := rk_fs rk299_ s474_ (fs_rg rfl) rfl
      try simp only [e466_] at c470_
      try simp only [e466_] at c471_
      have c470_s := c470_.1 (by omega)
      clear c470_
      have b477_ : 0 ≤ F472_ 344 9 ∧ F472_ 344 9 ≤ 5 := gi_g g473_ rfl
      have b478_ : 0 ≤ F472_ 344 10 ∧ F472_ 344 10 ≤ 600 := gi_g g473_ rfl
      have e479_ : F472_ 344 5 = F235_ 344 5 := (s474_ 344 5 rfl).trans (e466_)
      have e480_ : F14_ 5 2 = F 5 2 := (s16_ 5 2 rfl).trans (rfl)
      have e481_ : F39_ 5 2 = F 5 2 := (s41_ 5 2 rfl).trans (e480_)
      have e482_ : F65_ 5 2 = F 5 2 := (s67_ 5 2 rfl).trans (e481_)
      have e483_ : F92_ 5 2 = F 5 2 := (s94_ 5 2 rfl).trans (e482_)
      have e484_ : F125_ 5 2 = F 5 2 := (s127_ 5 2 rfl).trans (e483_)
      have e485_ : F153_ 5 2 = F 5 2 := by rw [q154_]; exact (fl_u_ne (by first | exact nc_ rfl | decide | omega)).trans (e484_)
      have e486_ : F172_ 5 2 = F 5 2 := (s174_ 5 2 rfl).trans (e485_)
      have e487_ : F203_ 5 2 = F 5 2 := (s205_ 5 2 rfl).trans (e486_)
      have e488_ : F235_ 5 2 = F 5 2 := (s237_ 5 2 rfl).trans (e487_)
      have e489_ : F273_ 5 2 = F 5 2 := (s275_ 5 2 rfl).trans (e488_)
      have e490_ : F472_ 5 2 = F 5 2 := (s474_ 5 2 rfl).trans (e489_)
      have b491_ : 0 ≤ F 5 2 ∧ F 5 2 ≤ 600 := gi_g hgi rfl
      exact fl_R_sub (lv' := [(0, .ref 344)]) rfl rfl (mb_184_76 hG F X hgi K nm ts pl ps hgK hrk hkt hp h0 h5 hnm hts hpl hps h33 fr lo hfr hlo F472_ g473_ g475_ rk476_ (by omega) (⟨by omega, by omega⟩) (⟨by intro h0_; have hs_ := c470_s; rw [sp_prb, sp_open]; rw [(congrArg (sp_kind K 0) h5.symm).trans c12_]; simp only [pb_r]; rw [c37_]; simp only [pb_r]; rw [c63_]; simp only [pb_r]; rw [c90_]; simp only [pb_r]; rw [(show sp_kind K 2 (F92_ 344 5) = .inr (F92_ 344 5 + 1) by rw [sp_kind, if_pos (by omega), sk, if_pos (by omega)])]; simp only [pb_r]; rw [c170_]; simp only [pb_r]; rw [sp_dname, sp_part]; rw [c201_]; simp only [pb_r]; rw [c233_]; simp only [pb_r]; rw [if_pos ⟨by omega, fun h8_ => absurd ((nrel_inj c269_ hnm).mp h8_) (by omega)⟩]; show Sum.inl (3, K 4 _) = _; congr 2 <;> omega, fun h0_ => by exfalso; omega⟩) (⟨[], [], (trm_fs (trm_fs (trm_fs (trm_fs (trm_fs (by rw [q154_]; exact (trm_u (trm_fs (trm_fs (trm_fs (trm_fs (trm_fs (tr5_0 h33) s16_ (by first | exact fs_rg rfl | exact fun r j hj => (fs_n (by omega) (fs_n (by omega) rfl)))) s41_ (by first | exact fs_rg rfl | exact fun r j hj => (fs_n (by omega) (fs_n (by omega) rfl)))) s67_ (by first | exact fs_rg rfl | exact fun r j hj => (fs_n (by omega) (fs_n (by omega) rfl)))) s94_ (by first | exact fs_rg rfl | exact fun r j hj => (fs_n (by omega) (fs_n (by omega) rfl)))) s127_ (by first | exact fs_rg rfl | exact fun r j hj => (fs_n (by omega) rfl))) (by first | decide | exact nc_ rfl | omega))) s174_ (by first | exact fs_rg rfl | exact fun r j hj => (fs_n (by omega) (fs_n (by omega) rfl)))) s205_ (by first | exact fs_rg rfl | exact fun r j hj => (fs_n (by omega) (fs_n (by omega) rfl)))) s237_ (by first | exact fs_rg rfl | exact fun r j hj => (fs_n (by omega) (fs_n (by omega) rfl)))) s275_ (by first | exact fs_rg rfl | exact fun r j hj => (fs_n (by omega) rfl))) s474_ (by first | exact fs_rg rfl | exact fun r j hj => (fs_n (by omega) rfl))), rfl⟩))
    exfalso; omega
  exfalso; omega

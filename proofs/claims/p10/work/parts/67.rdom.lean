def sp_d2 (K : fl_N) (ts : List Int) (p : Int) : PR (List Int × List Int × List (List Int) × List Int) := pb (sp_rpreds K ts p) fun q => pb (sp_actions K ts q.2.1 q.2.2 5 [] q.1) fun a => pb (sp_close K a.1) fun _ => .inr (ts, q.2.1, q.2.2, a.2)
def sp_d3 (K : fl_N) (ts l : List Int) (ps : List (List Int)) (p : Int) : PR (List Int × List Int × List (List Int) × List Int) := pb (sp_actions K ts l ps 5 [] p) fun a => pb (sp_close K a.1) fun _ => .inr (ts, l, ps, a.2)
theorem st1_ok {K : fl_N} {l : List Int} {m : Nat} {p : Int} {q : Int × List Int} (h : sp_t1 K m l p = .inr q) : sp_types K m l p = .inr q := by
  unfold sp_t1 at h
  obtain ⟨a, h1, h2⟩ := pb_ok h
  split at h2
  · rw [h1, Sum.inr.inj h2]
  · cases h2
theorem st1_fl {K : fl_N} {l : List Int} {m : Nat} {p : Int} {e : Int × Int} {α : Type} {f : Int × List Int → Int → PR α} (h : sp_t1 K m l p = .inl e) : pb (sp_types K m l p) (fun r => pb (sp_kind K 1 r.1) (f r)) = .inl e := by
  unfold sp_t1 at h
  cases hx : sp_types K m l p with
  | inl e2 =>
    rw [hx] at h
    have h9 : e2 = e := Sum.inl.inj h
    rw [h9]
    rfl
  | inr a =>
    rw [hx, pb_r] at h
    split at h
    · cases h
    · rename_i hk
      rw [pb_r, sp_kind, if_neg hk]
      have h9 := Sum.inl.inj h
      show Sum.inl (1, K 4 _) = _
      rw [h9]
theorem sq_step {K : fl_N} {ts l l2 t : List Int} {ps : List (List Int)} {p p2 : Int} (hl : (l.length : Int) ≤ 6) (hk : (l.length : Int) = 0 ∨ K 3 p.toNat = 0) (h : sp_q1 K ts l p = .inr (p2, l2, t)) (h2 : l2.length = l.length + 1) : sp_preds K ts (6 - l.length) l ps p = sp_preds K ts (6 - l2.length) l2 (ps ++ [t]) p2 := by
  unfold sp_q1 at h
  split at h
  · cases h
  · rename_i h6
    have hs := spq_step (K := K) (ts := ts) (l := l) (ps := ps) (i := (l.length : Int)) (p := p) (by omega) rfl hk
    rw [show ((6 : Int) - (l.length : Int)).toNat = 6 - l.length by omega, show ((6 : Int) - ((l.length : Int) + 1)).toNat = 6 - l2.length by omega] at hs
    rw [hs]
    obtain ⟨a, e1, h⟩ := pb_ok h
    rw [e1, pb_r]
    obtain ⟨b, e2, h⟩ := pb_ok h
    rw [e2, pb_r]
    obtain ⟨c, e3, h⟩ := pb_ok h
    rw [e3, pb_r]
    obtain ⟨d, e4, h⟩ := pb_ok h
    rw [e4, pb_r]
    have h9 := Prod.mk.inj (Sum.inr.inj h)
    have h8 := Prod.mk.inj h9.2
    rw [h9.1, h8.1, h8.2]
theorem sq_f {K : fl_N} {ts l : List Int} {ps : List (List Int)} {p : Int} {e : Int × Int} {α : Type} {f : Int × List Int × List (List Int) → Int → PR α} (hl : (l.length : Int) ≤ 6) (hk : (l.length : Int) = 0 ∨ K 3 p.toNat = 0) (h : sp_q1 K ts l p = .inl e) : pb (sp_preds K ts (6 - l.length) l ps p) (fun q => pb (sp_kind K 1 q.1) (f q)) = .inl e := by
  unfold sp_q1 at h
  split at h
  · rename_i h6
    have h5 : K 3 p.toNat = 0 := by omega
    rw [show 6 - l.length = 0 by omega, sp_preds, pb_r, sp_kind, if_neg (show ¬ K 3 (p, l, ps).1.toNat = 1 by show ¬ K 3 p.toNat = 1; omega)]
    have h9 : ((1 : Int), K 4 p.toNat) = e := Sum.inl.inj h
    rw [← h9]
    rfl
  · rename_i h6
    have hs := spq_step (K := K) (ts := ts) (l := l) (ps := ps) (i := (l.length : Int)) (p := p) (by omega) rfl hk
    rw [show ((6 : Int) - (l.length : Int)).toNat = 6 - l.length by omega] at hs
    rw [hs]
    cases e1 : sp_kind K 0 p with
    | inl x => rw [e1] at h; have h9 : x = e := Sum.inl.inj h; rw [h9]; rfl
    | inr a =>
      rw [e1, pb_r] at h
      rw [pb_r]
      cases e2 : sp_new K 2 l a with
      | inl x => rw [e2] at h; have h9 : x = e := Sum.inl.inj h; rw [h9]; rfl
      | inr b =>
        rw [e2, pb_r] at h
        rw [pb_r]
        cases e3 : sp_params K ts 2 [] [] b.1 with
        | inl x => rw [e3] at h; have h9 : x = e := Sum.inl.inj h; rw [h9]; rfl
        | inr c =>
          rw [e3, pb_r] at h
          rw [pb_r]
          cases e4 : sp_kind K 1 c.1 with
          | inl x => rw [e4] at h; have h9 : x = e := Sum.inl.inj h; rw [h9]; rfl
          | inr d => rw [e4] at h; cases h
theorem sq_e {K : fl_N} {ts l : List Int} {ps : List (List Int)} {m : Nat} {p : Int} (hl : 0 < (l.length : Int)) (hk : ¬ K 3 p.toNat = 0) : sp_preds K ts m l ps p = .inr (p, l, ps) := spq_e rfl (by omega) hk
theorem sa_step {K : fl_N} {ts pl al al2 : List Int} {ps : List (List Int)} {p p2 : Int} (hl : (al.length : Int) ≤ 5) (hk : (al.length : Int) = 0 ∨ K 3 p.toNat = 0) (h : sp_a1 K ts pl ps al p = .inr (p2, al2)) (h2 : al2.length = al.length + 1) : sp_actions K ts pl ps (5 - al.length) al p = sp_actions K ts pl ps (5 - al2.length) al2 p2 := by
  unfold sp_a1 at h
  split at h
  · cases h
  · rename_i h6
    have hs := spa_step (K := K) (ts := ts) (pl := pl) (ps := ps) (al := al) (i := (al.length : Int)) (p := p) (by omega) rfl hk
    rw [show ((5 : Int) - (al.length : Int)).toNat = 5 - al.length by omega, show ((5 : Int) - ((al.length : Int) + 1)).toNat = 5 - al2.length by omega] at hs
    rw [hs, h, pb_r]
theorem sa_f {K : fl_N} {ts pl al : List Int} {ps : List (List Int)} {p : Int} {e : Int × Int} {α : Type} {f : Int × List Int → Int → PR α} (hl : (al.length : Int) ≤ 5) (hk : (al.length : Int) = 0 ∨ K 3 p.toNat = 0) (h : sp_a1 K ts pl ps al p = .inl e) : pb (sp_actions K ts pl ps (5 - al.length) al p) (fun a => pb (sp_close K a.1) (f a)) = .inl e := by
  unfold sp_a1 at h
  split at h
  · rename_i h6
    have h5 : K 3 p.toNat = 0 := by omega
    rw [show 5 - al.length = 0 by omega, sp_actions, pb_r, sp_close, sp_kind, if_neg (show ¬ K 3 (p, al).1.toNat = 1 by show ¬ K 3 p.toNat = 1; omega)]
    have h9 : ((1 : Int), K 4 p.toNat) = e := Sum.inl.inj h
    rw [← h9]
    rfl
  · rename_i h6
    have hs := spa_step (K := K) (ts := ts) (pl := pl) (ps := ps) (al := al) (i := (al.length : Int)) (p := p) (by omega) rfl hk
    rw [show ((5 : Int) - (al.length : Int)).toNat = 5 - al.length by omega] at hs
    rw [hs, h]
    rfl
theorem sa_e {K : fl_N} {ts pl al : List Int} {ps : List (List Int)} {m : Nat} {p : Int} (hl : 0 < (al.length : Int)) (hk : ¬ K 3 p.toNat = 0) : sp_actions K ts pl ps m al p = .inr (p, al) := spa_e rfl (by omega) hk

theorem ad_s2 {K : fl_N} {ts pl al al2 : List Int} {ps : List (List Int)} {p p2 : Int} (hl : (al.length : Int) ≤ 5) (hk : (al.length : Int) = 0 ∨ K 3 p.toNat = 0) (h : sp_a1 K ts pl ps al p = .inr (p2, al2)) (h2 : al2.length = al.length + 1) : acts_d K ts pl ps (5 - al.length) al p = act_d K ts pl ps p :: acts_d K ts pl ps (5 - al2.length) al2 p2 := by
  unfold sp_a1 at h
  split at h
  · cases h
  · rename_i h6
    have hs := ad_step (K := K) (ts := ts) (pl := pl) (ps := ps) (al := al) (p := p) (i := (al.length : Int)) (by omega) rfl hk h
    rw [show ((5 : Int) - (al.length : Int)).toNat = 5 - al.length by omega, show ((5 : Int) - ((al.length : Int) + 1)).toNat = 5 - al2.length by omega] at hs
    exact hs

/- CheapPlannerModel.readDomain -/
abbrev pq_50 (G : Nat → Nat → Option Nat) (F : fl_N) (X : xi_H) (K : fl_N) : Outcome → xi_H → Prop := gqv (fun A => (∃ F' : fl_N, fl_H sh_T G F' ++ X = A ∧ gi F' ∧ fs [(344, 344, 5, 5), (344, 344, 9, 10), (344, 344, 14, 15), (344, 344, 17, 17), (344, 344, 21, 21), (344, 344, 63, 63), (349, 363, 0, 100000), (383, 383, 0, 100000)] F F' ∧ (¬ F' 344 9 = 0) ∧ ((F 344 9 = 0 → sp_dom K = .inl (F' 344 9, F' 344 10)) ∧ (¬ F 344 9 = 0 → F' 344 9 = F 344 9 ∧ F' 344 10 = F 344 10)) ∧ (0 ≤ F' 344 5 ∧ F' 344 5 ≤ K 1 6 - 1)) ∨ (∃ F' : fl_N, fl_H sh_T G F' ++ X = A ∧ gi F' ∧ fs [(344, 344, 5, 5), (344, 344, 9, 10), (344, 344, 14, 15), (344, 344, 17, 17), (344, 344, 21, 21), (344, 344, 63, 63), (349, 363, 0, 100000), (383, 383, 0, 100000)] F F' ∧ (F' 344 9 = 0 ∧ F 344 9 = 0) ∧ (∃ ts pl ps al, sp_dom K = .inr (ts, pl, ps, al) ∧ rpn (F' 349) (F' 344 15) ts ∧ rpn (F' 350) (F' 344 17) pl ∧ (rprd F' ps ∧ ps.length = pl.length) ∧ rpn (F' 353) (F' 344 21) al ∧ nrel (sp_dnm K) (F' 344 14) ∧ (rdar F' (dom_d K) ∧ (dom_d K).length = al.length)) ∧ (0 ≤ F' 344 5 ∧ F' 344 5 ≤ K 1 6 - 1) ∧ (∀ j : Nat, (j : Int) < F' 344 21 → 0 ≤ F' 357 j))) gqn
set_option maxHeartbeats 16000000 in
theorem mb_50_151 {G : Nat → Nat → Option Nat} (hG : gg G) (F : fl_N) (X : xi_H) (hgi : gi F) (K : fl_N) (hgK : gi K) (hrk : rk K F) (hkt : rkt K) (hp : 0 ≤ F 344 5 ∧ F 344 5 ≤ K 1 6 - 1) (h0 : F 344 9 = 0) (h5 : F 344 5 = 0) (h15 : F 344 15 = 0) (h17 : F 344 17 = 0) (h21 : F 344 21 = 0) (fr lo : Nat) (hfr : 8 ≤ fr) (hlo : 188 ≤ lo) (Fb : fl_N) (hg_Fb : gi Fb) (hf_Fb : fs [(344, 344, 5, 5), (344, 344, 9, 10), (344, 344, 14, 15), (344, 344, 17, 17), (344, 344, 21, 21), (344, 344, 63, 63), (349, 363, 0, 100000), (383, 383, 0, 100000)] F Fb) (hrk_b : rk K Fb) (hbd : ¬ Fb 344 9 = 0) (hp_b : 0 ≤ Fb 344 5 ∧ Fb 344 5 ≤ K 1 6 - 1) (hb : (F 344 9 = 0 → sp_dom K = .inl (Fb 344 9, Fb 344 10)) ∧ (¬ F 344 9 = 0 → Fb 344 9 = F 344 9 ∧ Fb 344 10 = F 344 10)) : fl_R xi_ms 50 fr lo 151 [(0, .ref 344)] [] (fl_H sh_T G Fb ++ X) (pq_50 G F X K) := by
  have hP := (rkt_p hkt hp.1 hp.2 hgK).1
  have hK16 : 0 ≤ K 1 6 ∧ K 1 6 ≤ 601 := gi_g hgK rfl
  have hko := hkt.1
  refine ga_aload_n (v := .ref 344) hm_50 rfl rfl rfl ?_
  refine gIi (nY := 1) (F := 0) (L := 0) (As := []) (b := 344) (rest := []) hm_50 rfl hm_59 rfl rfl (fl_ob sc_344) rfl rfl rfl rfl rfl (by omega) (by omega) ?_
  intro f21_ l22_ h23_ h24_
  show fl_R xi_ms 59 f21_ l22_ 0 [(0, .ref 344)] [] _ _
  refine ga_aload_n (v := .ref 344) hm_59 rfl rfl rfl ?_
  have b25_ : 0 ≤ Fb 344 9 ∧ Fb 344 9 ≤ 5 := gi_g hg_Fb rfl
  refine ga_geti (z := Fb 344 9) hm_59 rfl sc_344 rfl (rfl) ?_
  refine fl_if_le (a := Fb 344 9) hm_59 rfl ⟨by omega, by omega⟩ (fun h26_ => ?_) (fun h27_ => ?_)
  · exfalso; omega
  refine fl_iconst hm_59 rfl ?_
  refine fl_goto hm_59 rfl ?_
  refine gr_i hm_59 rfl rfl (ga_nb (by omega)) ?_
  clear h23_ h24_ f21_ l22_
  refine fl_if_ne hm_50 rfl ⟨by omega, by omega⟩ (fun _ => ?_) (fun h => absurd (by omega) h)
  refine gr_v hm_50 rfl rfl ?_
  have b28_ : 0 ≤ Fb 344 10 ∧ Fb 344 10 ≤ 600 := gi_g hg_Fb rfl
  have b29_ : 0 ≤ F 344 10 ∧ F 344 10 ≤ 600 := gi_g hgi rfl
  have b30_ : 0 ≤ F 344 9 ∧ F 344 9 ≤ 5 := gi_g hgi rfl
  have b31_ : 0 ≤ Fb 344 5 ∧ Fb 344 5 ≤ 600 := gi_g hg_Fb rfl
  exact Or.inl ⟨Fb, rfl, hg_Fb, hf_Fb, (by omega), (hb), (⟨by omega, by omega⟩)⟩
set_option maxHeartbeats 16000000 in
theorem mb_50_145 {G : Nat → Nat → Option Nat} (hG : gg G) (F : fl_N) (X : xi_H) (hgi : gi F) (K : fl_N) (hgK : gi K) (hrk : rk K F) (hkt : rkt K) (hp : 0 ≤ F 344 5 ∧ F 344 5 ≤ K 1 6 - 1) (h0 : F 344 9 = 0) (h5 : F 344 5 = 0) (h15 : F 344 15 = 0) (h17 : F 344 17 = 0) (h21 : F 344 21 = 0) (fr lo : Nat) (hfr : 8 ≤ fr) (hlo : 188 ≤ lo) (Fb : fl_N) (hg_Fb : gi Fb) (hf_Fb : fs [(344, 344, 5, 5), (344, 344, 9, 10), (344, 344, 14, 15), (344, 344, 17, 17), (344, 344, 21, 21), (344, 344, 63, 63), (349, 363, 0, 100000), (383, 383, 0, 100000)] F Fb) (hrk_b : rk K Fb) (hbd : ¬ Fb 344 9 = 0) (hp_b : 0 ≤ Fb 344 5 ∧ Fb 344 5 ≤ K 1 6 - 1) (hb : (F 344 9 = 0 → sp_dom K = .inl (Fb 344 9, Fb 344 10)) ∧ (¬ F 344 9 = 0 → Fb 344 9 = F 344 9 ∧ Fb 344 10 = F 344 10)) : fl_R xi_ms 50 fr lo 145 [(0, .ref 344)] [] (fl_H sh_T G Fb ++ X) (pq_50 G F X K) := by
  have hP := (rkt_p hkt hp.1 hp.2 hgK).1
  have hK16 : 0 ≤ K 1 6 ∧ K 1 6 ≤ 601 := gi_g hgK rfl
  have hko := hkt.1
  refine ga_aload_n (v := .ref 344) hm_50 rfl rfl rfl ?_
  refine fl_bipush hm_50 rfl rfl ?_
  have b21_ : 0 ≤ Fb 344 5 ∧ Fb 344 5 ≤ 600 := gi_g hg_Fb rfl
  refine gVv (nY := 2) (F := 2) (L := 41) (As := [.int (Int32.ofInt 41)]) (b := 344) (rest := []) hm_50 rfl hm_51 rfl rfl (fl_ob sc_344) rfl rfl rfl rfl rfl (by omega) (by omega) (mc_51 hG Fb X hg_Fb (K) (41) (1) hgK hrk_b hkt (⟨by omega, by omega⟩) (by omega) (by omega)) (fun _ _ h => False.elim h) ?_
  have b23_ : 0 ≤ Fb 344 10 ∧ Fb 344 10 ≤ 600 := gi_g hg_Fb rfl
  have b24_ : 0 ≤ Fb 344 9 ∧ Fb 344 9 ≤ 5 := gi_g hg_Fb rfl
  rintro A1_ (⟨F28_, hA_, g29_, s30_, c25_, c26_, c27_⟩ | ⟨F34_, hA_, g35_, s36_, c31_, c32_, c33_⟩)
  ·
    subst hA_
    have g37_ : fs [(344, 344, 5, 5), (344, 344, 9, 10), (344, 344, 14, 15), (344, 344, 17, 17), (344, 344, 21, 21), (344, 344, 63, 63), (349, 363, 0, 100000), (383, 383, 0, 100000)] F F28_ := fs_tr hf_Fb s30_ rfl
    have rk38_ : rk K F28_ := rk_fs hrk_b s30_ (fs_rg rfl) rfl
    have c26_k := c26_.2 (by omega)
    clear c26_
    have b39_ : 0 ≤ F28_ 344 9 ∧ F28_ 344 9 ≤ 5 := gi_g g29_ rfl
    have b40_ : 0 ≤ F28_ 344 10 ∧ F28_ 344 10 ≤ 600 := gi_g g29_ rfl
    have b41_ : 0 ≤ F28_ 344 5 ∧ F28_ 344 5 ≤ 600 := gi_g g29_ rfl
    exact mb_50_151 hG F X hgi K hgK hrk hkt hp h0 h5 h15 h17 h21 fr lo hfr hlo F28_ g29_ g37_ rk38_ (by omega) (⟨by omega, by omega⟩) (⟨fun h0_ => by rw [show F28_ 344 9 = Fb 344 9 by omega, show F28_ 344 10 = Fb 344 10 by omega]; exact hb.1 h0_, fun h0_ => by have h1_ := hb.2 h0_; omega⟩)
  exfalso; omega
set_option maxHeartbeats 16000000 in
theorem mb_50_135 {G : Nat → Nat → Option Nat} (hG : gg G) (F : fl_N) (X : xi_H) (hgi : gi F) (K : fl_N) (hgK : gi K) (hrk : rk K F) (hkt : rkt K) (hp : 0 ≤ F 344 5 ∧ F 344 5 ≤ K 1 6 - 1) (h0 : F 344 9 = 0) (h5 : F 344 5 = 0) (h15 : F 344 15 = 0) (h17 : F 344 17 = 0) (h21 : F 344 21 = 0) (fr lo : Nat) (hfr : 8 ≤ fr) (hlo : 188 ≤ lo) (Fb : fl_N) (hg_Fb : gi Fb) (hf_Fb : fs [(344, 344, 5, 5), (344, 344, 9, 10), (344, 344, 14, 15), (344, 344, 17, 17), (344, 344, 21, 21), (344, 344, 63, 63), (349, 363, 0, 100000), (383, 383, 0, 100000)] F Fb) (hrk_b : rk K Fb) (hbd : ¬ Fb 344 9 = 0) (hp_b : 0 ≤ Fb 344 5 ∧ Fb 344 5 ≤ K 1 6 - 1) (hb : (F 344 9 = 0 → sp_dom K = .inl (Fb 344 9, Fb 344 10)) ∧ (¬ F 344 9 = 0 → Fb 344 9 = F 344 9 ∧ Fb 344 10 = F 344 10)) : fl_R xi_ms 50 fr lo 135 [(0, .ref 344)] [] (fl_H sh_T G Fb ++ X) (pq_50 G F X K) := by
  have hP := (rkt_p hkt hp.1 hp.2 hgK).1
  have hK16 : 0 ≤ K 1 6 ∧ K 1 6 ≤ 601 := gi_g hgK rfl
  have hko := hkt.1
  refine ga_aload_n (v := .ref 344) hm_50 rfl rfl rfl ?_
  refine fl_bipush hm_50 rfl rfl ?_
  have b21_ : 0 ≤ Fb 344 5 ∧ Fb 344 5 ≤ 600 := gi_g hg_Fb rfl
  refine gVi (nY := 2) (F := 1) (L := 20) (As := [.int (Int32.ofInt 40)]) (b := 344) (rest := []) hm_50 rfl hm_52 rfl rfl (fl_ob sc_344) rfl rfl rfl rfl rfl (by omega) (by omega) (mc_52 hG Fb X hg_Fb (K) (40) hgK hrk_b hkt (⟨by omega, by omega⟩) (by omega)) (fun _ _ h => False.elim h) ?_
  have b23_ : 0 ≤ Fb 344 9 ∧ Fb 344 9 ≤ 5 := gi_g hg_Fb rfl
  rintro z22_ A1_ (⟨hA_, hz_, c24_⟩ | ⟨hA_, hz_, c25_, c26_⟩)
  ·
    subst hA_
    subst hz_
    refine ga_istore_n (lv2 := [(1, .int (Int32.ofInt 0)), (0, .ref 344)]) hm_50 rfl (Nat.le_of_ble_eq_true rfl) rfl ?_
    refine fl_goto hm_50 rfl ?_
    refine ga_iload_n (z := 0) hm_50 rfl rfl ?_
    refine fl_if_eq hm_50 rfl ⟨by omega, by omega⟩ (fun _ => ?_) (fun h => absurd (by omega) h)
    have b27_ : 0 ≤ Fb 344 10 ∧ Fb 344 10 ≤ 600 := gi_g hg_Fb rfl
    exact fl_R_sub (lv' := [(0, .ref 344)]) rfl rfl (mb_50_145 hG F X hgi K hgK hrk hkt hp h0 h5 h15 h17 h21 fr lo hfr hlo Fb hg_Fb hf_Fb hrk_b (by omega) (⟨by omega, by omega⟩) (hb))
  exfalso; omega
set_option maxHeartbeats 16000000 in
theorem mb_50_118 {G : Nat → Nat → Option Nat} (hG : gg G) (F : fl_N) (X : xi_H) (hgi : gi F) (K : fl_N) (hgK : gi K) (hrk : rk K F) (hkt : rkt K) (hp : 0 ≤ F 344 5 ∧ F 344 5 ≤ K 1 6 - 1) (h0 : F 344 9 = 0) (h5 : F 344 5 = 0) (h15 : F 344 15 = 0) (h17 : F 344 17 = 0) (h21 : F 344 21 = 0) (fr lo : Nat) (hfr : 8 ≤ fr) (hlo : 188 ≤ lo) (Fb : fl_N) (hg_Fb : gi Fb) (hf_Fb : fs [(344, 344, 5, 5), (344, 344, 9, 10), (344, 344, 14, 15), (344, 344, 17, 17), (344, 344, 21, 21), (344, 344, 63, 63), (349, 363, 0, 100000), (383, 383, 0, 100000)] F Fb) (hrk_b : rk K Fb) (hbd : ¬ Fb 344 9 = 0) (hp_b : 0 ≤ Fb 344 5 ∧ Fb 344 5 ≤ K 1 6 - 1) (hb : (F 344 9 = 0 → sp_dom K = .inl (Fb 344 9, Fb 344 10)) ∧ (¬ F 344 9 = 0 → Fb 344 9 = F 344 9 ∧ Fb 344 10 = F 344 10)) : fl_R xi_ms 50 fr lo 118 [(0, .ref 344)] [] (fl_H sh_T G Fb ++ X) (pq_50 G F X K) := by
  have hP := (rkt_p hkt hp.1 hp.2 hgK).1
  have hK16 : 0 ≤ K 1 6 ∧ K 1 6 ≤ 601 := gi_g hgK rfl
  have hko := hkt.1
  refine fl_iconst hm_50 rfl ?_
  refine ga_istore_n (lv2 := [(1, .int (Int32.ofInt 1)), (0, .ref 344)]) hm_50 rfl (Nat.le_of_ble_eq_true rfl) rfl ?_
  refine ga_iload_n (z := 1) hm_50 rfl rfl ?_
  refine fl_if_eq hm_50 rfl ⟨by omega, by omega⟩ (fun h => absurd h (by omega)) (fun _ => ?_)
  refine ga_aload_n (v := .ref 344) hm_50 rfl rfl rfl ?_
  refine gIi (nY := 1) (F := 0) (L := 0) (As := []) (b := 344) (rest := []) hm_50 rfl hm_59 rfl rfl (fl_ob sc_344) rfl rfl rfl rfl rfl (by omega) (by omega) ?_
  intro f21_ l22_ h23_ h24_
  show fl_R xi_ms 59 f21_ l22_ 0 [(0, .ref 344)] [] _ _
  refine ga_aload_n (v := .ref 344) hm_59 rfl rfl rfl ?_
  have b25_ : 0 ≤ Fb 344 9 ∧ Fb 344 9 ≤ 5 := gi_g hg_Fb rfl
  refine ga_geti (z := Fb 344 9) hm_59 rfl sc_344 rfl (rfl) ?_
  refine fl_if_le (a := Fb 344 9) hm_59 rfl ⟨by omega, by omega⟩ (fun h26_ => ?_) (fun h27_ => ?_)
  · exfalso; omega
  refine fl_iconst hm_59 rfl ?_
  refine fl_goto hm_59 rfl ?_
  refine gr_i hm_59 rfl rfl (ga_nb (by omega)) ?_
  clear h23_ h24_ f21_ l22_
  refine fl_if_ne hm_50 rfl ⟨by omega, by omega⟩ (fun _ => ?_) (fun h => absurd (by omega) h)
  have b28_ : 0 ≤ Fb 344 10 ∧ Fb 344 10 ≤ 600 := gi_g hg_Fb rfl
  have b29_ : 0 ≤ Fb 344 5 ∧ Fb 344 5 ≤ 600 := gi_g hg_Fb rfl
  exact fl_R_sub (lv' := [(0, .ref 344)]) rfl rfl (mb_50_145 hG F X hgi K hgK hrk hkt hp h0 h5 h15 h17 h21 fr lo hfr hlo Fb hg_Fb hf_Fb hrk_b (by omega) (⟨by omega, by omega⟩) (hb))
set_option maxHeartbeats 16000000 in
theorem mb_50_112 {G : Nat → Nat → Option Nat} (hG : gg G) (F : fl_N) (X : xi_H) (hgi : gi F) (K : fl_N) (hgK : gi K) (hrk : rk K F) (hkt : rkt K) (hp : 0 ≤ F 344 5 ∧ F 344 5 ≤ K 1 6 - 1) (h0 : F 344 9 = 0) (h5 : F 344 5 = 0) (h15 : F 344 15 = 0) (h17 : F 344 17 = 0) (h21 : F 344 21 = 0) (fr lo : Nat) (hfr : 8 ≤ fr) (hlo : 188 ≤ lo) (Fb : fl_N) (hg_Fb : gi Fb) (hf_Fb : fs [(344, 344, 5, 5), (344, 344, 9, 10), (344, 344, 14, 15), (344, 344, 17, 17), (344, 344, 21, 21), (344, 344, 63, 63), (349, 363, 0, 100000), (383, 383, 0, 100000)] F Fb) (hrk_b : rk K Fb) (hbd : ¬ Fb 344 9 = 0) (hp_b : 0 ≤ Fb 344 5 ∧ Fb 344 5 ≤ K 1 6 - 1) (hb : (F 344 9 = 0 → sp_dom K = .inl (Fb 344 9, Fb 344 10)) ∧ (¬ F 344 9 = 0 → Fb 344 9 = F 344 9 ∧ Fb 344 10 = F 344 10)) : fl_R xi_ms 50 fr lo 112 [(0, .ref 344)] [] (fl_H sh_T G Fb ++ X) (pq_50 G F X K) := by
  have hP := (rkt_p hkt hp.1 hp.2 hgK).1
  have hK16 : 0 ≤ K 1 6 ∧ K 1 6 ≤ 601 := gi_g hgK rfl
  have hko := hkt.1
  refine ga_aload_n (v := .ref 344) hm_50 rfl rfl rfl ?_
  refine fl_bipush hm_50 rfl rfl ?_
  have b21_ : 0 ≤ Fb 344 5 ∧ Fb 344 5 ≤ 600 := gi_g hg_Fb rfl
  refine gVv (nY := 2) (F := 2) (L := 41) (As := [.int (Int32.ofInt 41)]) (b := 344) (rest := []) hm_50 rfl hm_51 rfl rfl (fl_ob sc_344) rfl rfl rfl rfl rfl (by omega) (by omega) (mc_51 hG Fb X hg_Fb (K) (41) (1) hgK hrk_b hkt (⟨by omega, by omega⟩) (by omega) (by omega)) (fun _ _ h => False.elim h) ?_
  have b23_ : 0 ≤ Fb 344 10 ∧ Fb 344 10 ≤ 600 := gi_g hg_Fb rfl
  have b24_ : 0 ≤ Fb 344 9 ∧ Fb 344 9 ≤ 5 := gi_g hg_Fb rfl
  rintro A1_ (⟨F28_, hA_, g29_, s30_, c25_, c26_, c27_⟩ | ⟨F34_, hA_, g35_, s36_, c31_, c32_, c33_⟩)
  ·
    subst hA_
    have g37_ : fs [(344, 344, 5, 5), (344, 344, 9, 10), (344, 344, 14, 15), (344, 344, 17, 17), (344, 344, 21, 21), (344, 344, 63, 63), (349, 363, 0, 100000), (383, 383, 0, 100000)] F F28_ := fs_tr hf_Fb s30_ rfl
    have rk38_ : rk K F28_ := rk_fs hrk_b s30_ (fs_rg rfl) rfl
    have c26_k := c26_.2 (by omega)
    clear c26_
    have b39_ : 0 ≤ F28_ 344 9 ∧ F28_ 344 9 ≤ 5 := gi_g g29_ rfl
    have b40_ : 0 ≤ F28_ 344 10 ∧ F28_ 344 10 ≤ 600 := gi_g g29_ rfl
    have b41_ : 0 ≤ F28_ 344 5 ∧ F28_ 344 5 ≤ 600 := gi_g g29_ rfl
    exact mb_50_118 hG F X hgi K hgK hrk hkt hp h0 h5 h15 h17 h21 fr lo hfr hlo F28_ g29_ g37_ rk38_ (by omega) (⟨by omega, by omega⟩) (⟨fun h0_ => by rw [show F28_ 344 9 = Fb 344 9 by omega, show F28_ 344 10 = Fb 344 10 by omega]; exact hb.1 h0_, fun h0_ => by have h1_ := hb.2 h0_; omega⟩)
  exfalso; omega
set_option maxHeartbeats 16000000 in
theorem mb_50_102 {G : Nat → Nat → Option Nat} (hG : gg G) (F : fl_N) (X : xi_H) (hgi : gi F) (K : fl_N) (hgK : gi K) (hrk : rk K F) (hkt : rkt K) (hp : 0 ≤ F 344 5 ∧ F 344 5 ≤ K 1 6 - 1) (h0 : F 344 9 = 0) (h5 : F 344 5 = 0) (h15 : F 344 15 = 0) (h17 : F 344 17 = 0) (h21 : F 344 21 = 0) (fr lo : Nat) (hfr : 8 ≤ fr) (hlo : 188 ≤ lo) (Fb : fl_N) (hg_Fb : gi Fb) (hf_Fb : fs [(344, 344, 5, 5), (344, 344, 9, 10), (344, 344, 14, 15), (344, 344, 17, 17), (344, 344, 21, 21), (344, 344, 63, 63), (349, 363, 0, 100000), (383, 383, 0, 100000)] F Fb) (hrk_b : rk K Fb) (hbd : ¬ Fb 344 9 = 0) (hp_b : 0 ≤ Fb 344 5 ∧ Fb 344 5 ≤ K 1 6 - 1) (hb : (F 344 9 = 0 → sp_dom K = .inl (Fb 344 9, Fb 344 10)) ∧ (¬ F 344 9 = 0 → Fb 344 9 = F 344 9 ∧ Fb 344 10 = F 344 10)) : fl_R xi_ms 50 fr lo 102 [(0, .ref 344)] [] (fl_H sh_T G Fb ++ X) (pq_50 G F X K) := by
  have hP := (rkt_p hkt hp.1 hp.2 hgK).1
  have hK16 : 0 ≤ K 1 6 ∧ K 1 6 ≤ 601 := gi_g hgK rfl
  have hko := hkt.1
  refine ga_aload_n (v := .ref 344) hm_50 rfl rfl rfl ?_
  refine fl_bipush hm_50 rfl rfl ?_
  have b21_ : 0 ≤ Fb 344 5 ∧ Fb 344 5 ≤ 600 := gi_g hg_Fb rfl
  refine gVi (nY := 2) (F := 1) (L := 20) (As := [.int (Int32.ofInt 40)]) (b := 344) (rest := []) hm_50 rfl hm_52 rfl rfl (fl_ob sc_344) rfl rfl rfl rfl rfl (by omega) (by omega) (mc_52 hG Fb X hg_Fb (K) (40) hgK hrk_b hkt (⟨by omega, by omega⟩) (by omega)) (fun _ _ h => False.elim h) ?_
  have b23_ : 0 ≤ Fb 344 9 ∧ Fb 344 9 ≤ 5 := gi_g hg_Fb rfl
  rintro z22_ A1_ (⟨hA_, hz_, c24_⟩ | ⟨hA_, hz_, c25_, c26_⟩)
  ·
    subst hA_
    subst hz_
    refine ga_istore_n (lv2 := [(1, .int (Int32.ofInt 0)), (0, .ref 344)]) hm_50 rfl (Nat.le_of_ble_eq_true rfl) rfl ?_
    refine fl_goto hm_50 rfl ?_
    refine ga_iload_n (z := 0) hm_50 rfl rfl ?_
    refine fl_if_eq hm_50 rfl ⟨by omega, by omega⟩ (fun _ => ?_) (fun h => absurd (by omega) h)
    have b27_ : 0 ≤ Fb 344 10 ∧ Fb 344 10 ≤ 600 := gi_g hg_Fb rfl
    exact fl_R_sub (lv' := [(0, .ref 344)]) rfl rfl (mb_50_112 hG F X hgi K hgK hrk hkt hp h0 h5 h15 h17 h21 fr lo hfr hlo Fb hg_Fb hf_Fb hrk_b (by omega) (⟨by omega, by omega⟩) (hb))
  exfalso; omega
set_option maxHeartbeats 16000000 in
theorem mb_50_85 {G : Nat → Nat → Option Nat} (hG : gg G) (F : fl_N) (X : xi_H) (hgi : gi F) (K : fl_N) (hgK : gi K) (hrk : rk K F) (hkt : rkt K) (hp : 0 ≤ F 344 5 ∧ F 344 5 ≤ K 1 6 - 1) (h0 : F 344 9 = 0) (h5 : F 344 5 = 0) (h15 : F 344 15 = 0) (h17 : F 344 17 = 0) (h21 : F 344 21 = 0) (fr lo : Nat) (hfr : 8 ≤ fr) (hlo : 188 ≤ lo) (Fb : fl_N) (hg_Fb : gi Fb) (hf_Fb : fs [(344, 344, 5, 5), (344, 344, 9, 10), (344, 344, 14, 15), (344, 344, 17, 17), (344, 344, 21, 21), (344, 344, 63, 63), (349, 363, 0, 100000), (383, 383, 0, 100000)] F Fb) (hrk_b : rk K Fb) (hbd : ¬ Fb 344 9 = 0) (hp_b : 0 ≤ Fb 344 5 ∧ Fb 344 5 ≤ K 1 6 - 1) (hb : (F 344 9 = 0 → sp_dom K = .inl (Fb 344 9, Fb 344 10)) ∧ (¬ F 344 9 = 0 → Fb 344 9 = F 344 9 ∧ Fb 344 10 = F 344 10)) : fl_R xi_ms 50 fr lo 85 [(0, .ref 344)] [] (fl_H sh_T G Fb ++ X) (pq_50 G F X K) := by
  have hP := (rkt_p hkt hp.1 hp.2 hgK).1
  have hK16 : 0 ≤ K 1 6 ∧ K 1 6 ≤ 601 := gi_g hgK rfl
  have hko := hkt.1
  refine fl_iconst hm_50 rfl ?_
  refine ga_istore_n (lv2 := [(1, .int (Int32.ofInt 1)), (0, .ref 344)]) hm_50 rfl (Nat.le_of_ble_eq_true rfl) rfl ?_
  refine ga_iload_n (z := 1) hm_50 rfl rfl ?_
  refine fl_if_eq hm_50 rfl ⟨by omega, by omega⟩ (fun h => absurd h (by omega)) (fun _ => ?_)
  refine ga_aload_n (v := .ref 344) hm_50 rfl rfl rfl ?_
  refine gIi (nY := 1) (F := 0) (L := 0) (As := []) (b := 344) (rest := []) hm_50 rfl hm_59 rfl rfl (fl_ob sc_344) rfl rfl rfl rfl rfl (by omega) (by omega) ?_
  intro f21_ l22_ h23_ h24_
  show fl_R xi_ms 59 f21_ l22_ 0 [(0, .ref 344)] [] _ _
  refine ga_aload_n (v := .ref 344) hm_59 rfl rfl rfl ?_
  have b25_ : 0 ≤ Fb 344 9 ∧ Fb 344 9 ≤ 5 := gi_g hg_Fb rfl
  refine ga_geti (z := Fb 344 9) hm_59 rfl sc_344 rfl (rfl) ?_
  refine fl_if_le (a := Fb 344 9) hm_59 rfl ⟨by omega, by omega⟩ (fun h26_ => ?_) (fun h27_ => ?_)
  · exfalso; omega
  refine fl_iconst hm_59 rfl ?_
  refine fl_goto hm_59 rfl ?_
  refine gr_i hm_59 rfl rfl (ga_nb (by omega)) ?_
  clear h23_ h24_ f21_ l22_
  refine fl_if_ne hm_50 rfl ⟨by omega, by omega⟩ (fun _ => ?_) (fun h => absurd (by omega) h)
  have b28_ : 0 ≤ Fb 344 10 ∧ Fb 344 10 ≤ 600 := gi_g hg_Fb rfl
  have b29_ : 0 ≤ Fb 344 5 ∧ Fb 344 5 ≤ 600 := gi_g hg_Fb rfl
  exact fl_R_sub (lv' := [(0, .ref 344)]) rfl rfl (mb_50_112 hG F X hgi K hgK hrk hkt hp h0 h5 h15 h17 h21 fr lo hfr hlo Fb hg_Fb hf_Fb hrk_b (by omega) (⟨by omega, by omega⟩) (hb))
set_option maxHeartbeats 16000000 in
theorem mb_50_80 {G : Nat → Nat → Option Nat} (hG : gg G) (F : fl_N) (X : xi_H) (hgi : gi F) (K : fl_N) (hgK : gi K) (hrk : rk K F) (hkt : rkt K) (hp : 0 ≤ F 344 5 ∧ F 344 5 ≤ K 1 6 - 1) (h0 : F 344 9 = 0) (h5 : F 344 5 = 0) (h15 : F 344 15 = 0) (h17 : F 344 17 = 0) (h21 : F 344 21 = 0) (fr lo : Nat) (hfr : 8 ≤ fr) (hlo : 188 ≤ lo) (Fb : fl_N) (hg_Fb : gi Fb) (hf_Fb : fs [(344, 344, 5, 5), (344, 344, 9, 10), (344, 344, 14, 15), (344, 344, 17, 17), (344, 344, 21, 21), (344, 344, 63, 63), (349, 363, 0, 100000), (383, 383, 0, 100000)] F Fb) (hrk_b : rk K Fb) (hbd : ¬ Fb 344 9 = 0) (hp_b : 0 ≤ Fb 344 5 ∧ Fb 344 5 ≤ K 1 6 - 1) (hb : (F 344 9 = 0 → sp_dom K = .inl (Fb 344 9, Fb 344 10)) ∧ (¬ F 344 9 = 0 → Fb 344 9 = F 344 9 ∧ Fb 344 10 = F 344 10)) : fl_R xi_ms 50 fr lo 80 [(0, .ref 344)] [] (fl_H sh_T G Fb ++ X) (pq_50 G F X K) := by
  have hP := (rkt_p hkt hp.1 hp.2 hgK).1
  have hK16 : 0 ≤ K 1 6 ∧ K 1 6 ≤ 601 := gi_g hgK rfl
  have hko := hkt.1
  refine ga_aload_n (v := .ref 344) hm_50 rfl rfl rfl ?_
  refine fl_iconst hm_50 rfl ?_
  have b21_ : 0 ≤ Fb 344 5 ∧ Fb 344 5 ≤ 600 := gi_g hg_Fb rfl
  refine gVv (nY := 2) (F := 2) (L := 44) (As := [.int (Int32.ofInt 3)]) (b := 344) (rest := []) hm_50 rfl hm_55 rfl rfl (fl_ob sc_344) rfl rfl rfl rfl rfl (by omega) (by omega) (mc_55 hG Fb X hg_Fb (K) (3) ([58, 112, 114, 101, 100, 105, 99, 97, 116, 101, 115]) hgK hrk_b hkt (⟨by omega, by omega⟩) (⟨by omega, by omega⟩) (by decide) (kw_3 hrk_b)) (fun _ _ h => False.elim h) ?_
  have b23_ : 0 ≤ Fb 344 10 ∧ Fb 344 10 ≤ 600 := gi_g hg_Fb rfl
  have b24_ : 0 ≤ Fb 344 9 ∧ Fb 344 9 ≤ 5 := gi_g hg_Fb rfl
  rintro A1_ (⟨F28_, hA_, g29_, s30_, c25_, c26_, c27_⟩ | ⟨F34_, hA_, g35_, s36_, c31_, c32_, c33_⟩)
  ·
    subst hA_
    have g37_ : fs [(344, 344, 5, 5), (344, 344, 9, 10), (344, 344, 14, 15), (344, 344, 17, 17), (344, 344, 21, 21), (344, 344, 63, 63), (349, 363, 0, 100000), (383, 383, 0, 100000)] F F28_ := fs_tr hf_Fb s30_ rfl
    have rk38_ : rk K F28_ := rk_fs hrk_b s30_ (fs_rg rfl) rfl
    have c26_k := c26_.2 (by omega)
    clear c26_
    have b39_ : 0 ≤ F28_ 344 9 ∧ F28_ 344 9 ≤ 5 := gi_g g29_ rfl
    have b40_ : 0 ≤ F28_ 344 10 ∧ F28_ 344 10 ≤ 600 := gi_g g29_ rfl
    have b41_ : 0 ≤ F28_ 344 5 ∧ F28_ 344 5 ≤ 600 := gi_g g29_ rfl
    exact mb_50_85 hG F X hgi K hgK hrk hkt hp h0 h5 h15 h17 h21 fr lo hfr hlo F28_ g29_ g37_ rk38_ (by omega) (⟨by omega, by omega⟩) (⟨fun h0_ => by rw [show F28_ 344 9 = Fb 344 9 by omega, show F28_ 344 10 = Fb 344 10 by omega]; exact hb.1 h0_, fun h0_ => by have h1_ := hb.2 h0_; omega⟩)
  exfalso; omega
set_option maxHeartbeats 16000000 in
theorem mb_50_74 {G : Nat → Nat → Option Nat} (hG : gg G) (F : fl_N) (X : xi_H) (hgi : gi F) (K : fl_N) (hgK : gi K) (hrk : rk K F) (hkt : rkt K) (hp : 0 ≤ F 344 5 ∧ F 344 5 ≤ K 1 6 - 1) (h0 : F 344 9 = 0) (h5 : F 344 5 = 0) (h15 : F 344 15 = 0) (h17 : F 344 17 = 0) (h21 : F 344 21 = 0) (fr lo : Nat) (hfr : 8 ≤ fr) (hlo : 188 ≤ lo) (Fb : fl_N) (hg_Fb : gi Fb) (hf_Fb : fs [(344, 344, 5, 5), (344, 344, 9, 10), (344, 344, 14, 15), (344, 344, 17, 17), (344, 344, 21, 21), (344, 344, 63, 63), (349, 363, 0, 100000), (383, 383, 0, 100000)] F Fb) (hrk_b : rk K Fb) (hbd : ¬ Fb 344 9 = 0) (hp_b : 0 ≤ Fb 344 5 ∧ Fb 344 5 ≤ K 1 6 - 1) (hb : (F 344 9 = 0 → sp_dom K = .inl (Fb 344 9, Fb 344 10)) ∧ (¬ F 344 9 = 0 → Fb 344 9 = F 344 9 ∧ Fb 344 10 = F 344 10)) : fl_R xi_ms 50 fr lo 74 [(0, .ref 344)] [] (fl_H sh_T G Fb ++ X) (pq_50 G F X K) := by
  have hP := (rkt_p hkt hp.1 hp.2 hgK).1
  have hK16 : 0 ≤ K 1 6 ∧ K 1 6 ≤ 601 := gi_g hgK rfl
  have hko := hkt.1
  refine ga_aload_n (v := .ref 344) hm_50 rfl rfl rfl ?_
  refine fl_bipush hm_50 rfl rfl ?_
  have b21_ : 0 ≤ Fb 344 5 ∧ Fb 344 5 ≤ 600 := gi_g hg_Fb rfl
  refine gVv (nY := 2) (F := 2) (L := 41) (As := [.int (Int32.ofInt 40)]) (b := 344) (rest := []) hm_50 rfl hm_51 rfl rfl (fl_ob sc_344) rfl rfl rfl rfl rfl (by omega) (by omega) (mc_51 hG Fb X hg_Fb (K) (40) (0) hgK hrk_b hkt (⟨by omega, by omega⟩) (by omega) (by omega)) (fun _ _ h => False.elim h) ?_
  have b23_ : 0 ≤ Fb 344 10 ∧ Fb 344 10 ≤ 600 := gi_g hg_Fb rfl
  have b24_ : 0 ≤ Fb 344 9 ∧ Fb 344 9 ≤ 5 := gi_g hg_Fb rfl
  rintro A1_ (⟨F28_, hA_, g29_, s30_, c25_, c26_, c27_⟩ | ⟨F34_, hA_, g35_, s36_, c31_, c32_, c33_⟩)
  ·
    subst hA_
    have g37_ : fs [(344, 344, 5, 5), (344, 344, 9, 10), (344, 344, 14, 15), (344, 344, 17, 17), (344, 344, 21, 21), (344, 344, 63, 63), (349, 363, 0, 100000), (383, 383, 0, 100000)] F F28_ := fs_tr hf_Fb s30_ rfl
    have rk38_ : rk K F28_ := rk_fs hrk_b s30_ (fs_rg rfl) rfl
    have c26_k := c26_.2 (by omega)
    clear c26_
    have b39_ : 0 ≤ F28_ 344 9 ∧ F28_ 344 9 ≤ 5 := gi_g g29_ rfl
    have b40_ : 0 ≤ F28_ 344 10 ∧ F28_ 344 10 ≤ 600 := gi_g g29_ rfl
    have b41_ : 0 ≤ F28_ 344 5 ∧ F28_ 344 5 ≤ 600 := gi_g g29_ rfl
    exact mb_50_80 hG F X hgi K hgK hrk hkt hp h0 h5 h15 h17 h21 fr lo hfr hlo F28_ g29_ g37_ rk38_ (by omega) (⟨by omega, by omega⟩) (⟨fun h0_ => by rw [show F28_ 344 9 = Fb 344 9 by omega, show F28_ 344 10 = Fb 344 10 by omega]; exact hb.1 h0_, fun h0_ => by have h1_ := hb.2 h0_; omega⟩)
  exfalso; omega
set_option maxHeartbeats 16000000 in
theorem mb_50_68 {G : Nat → Nat → Option Nat} (hG : gg G) (F : fl_N) (X : xi_H) (hgi : gi F) (K : fl_N) (hgK : gi K) (hrk : rk K F) (hkt : rkt K) (hp : 0 ≤ F 344 5 ∧ F 344 5 ≤ K 1 6 - 1) (h0 : F 344 9 = 0) (h5 : F 344 5 = 0) (h15 : F 344 15 = 0) (h17 : F 344 17 = 0) (h21 : F 344 21 = 0) (fr lo : Nat) (hfr : 8 ≤ fr) (hlo : 188 ≤ lo) (Fb : fl_N) (hg_Fb : gi Fb) (hf_Fb : fs [(344, 344, 5, 5), (344, 344, 9, 10), (344, 344, 14, 15), (344, 344, 17, 17), (344, 344, 21, 21), (344, 344, 63, 63), (349, 363, 0, 100000), (383, 383, 0, 100000)] F Fb) (hrk_b : rk K Fb) (hbd : ¬ Fb 344 9 = 0) (hp_b : 0 ≤ Fb 344 5 ∧ Fb 344 5 ≤ K 1 6 - 1) (hb : (F 344 9 = 0 → sp_dom K = .inl (Fb 344 9, Fb 344 10)) ∧ (¬ F 344 9 = 0 → Fb 344 9 = F 344 9 ∧ Fb 344 10 = F 344 10)) : fl_R xi_ms 50 fr lo 68 [(0, .ref 344)] [] (fl_H sh_T G Fb ++ X) (pq_50 G F X K) := by
  have hP := (rkt_p hkt hp.1 hp.2 hgK).1
  have hK16 : 0 ≤ K 1 6 ∧ K 1 6 ≤ 601 := gi_g hgK rfl
  have hko := hkt.1
  refine ga_aload_n (v := .ref 344) hm_50 rfl rfl rfl ?_
  refine fl_bipush hm_50 rfl rfl ?_
  have b21_ : 0 ≤ Fb 344 5 ∧ Fb 344 5 ≤ 600 := gi_g hg_Fb rfl
  refine gVv (nY := 2) (F := 2) (L := 41) (As := [.int (Int32.ofInt 41)]) (b := 344) (rest := []) hm_50 rfl hm_51 rfl rfl (fl_ob sc_344) rfl rfl rfl rfl rfl (by omega) (by omega) (mc_51 hG Fb X hg_Fb (K) (41) (1) hgK hrk_b hkt (⟨by omega, by omega⟩) (by omega) (by omega)) (fun _ _ h => False.elim h) ?_
  have b23_ : 0 ≤ Fb 344 10 ∧ Fb 344 10 ≤ 600 := gi_g hg_Fb rfl
  have b24_ : 0 ≤ Fb 344 9 ∧ Fb 344 9 ≤ 5 := gi_g hg_Fb rfl
  rintro A1_ (⟨F28_, hA_, g29_, s30_, c25_, c26_, c27_⟩ | ⟨F34_, hA_, g35_, s36_, c31_, c32_, c33_⟩)
  ·
    subst hA_
    have g37_ : fs [(344, 344, 5, 5), (344, 344, 9, 10), (344, 344, 14, 15), (344, 344, 17, 17), (344, 344, 21, 21), (344, 344, 63, 63), (349, 363, 0, 100000), (383, 383, 0, 100000)] F F28_ := fs_tr hf_Fb s30_ rfl
    have rk38_ : rk K F28_ := rk_fs hrk_b s30_ (fs_rg rfl) rfl
    have c26_k := c26_.2 (by omega)
    clear c26_
    have b39_ : 0 ≤ F28_ 344 9 ∧ F28_ 344 9 ≤ 5 := gi_g g29_ rfl
    have b40_ : 0 ≤ F28_ 344 10 ∧ F28_ 344 10 ≤ 600 := gi_g g29_ rfl
    have b41_ : 0 ≤ F28_ 344 5 ∧ F28_ 344 5 ≤ 600 := gi_g g29_ rfl
    exact mb_50_74 hG F X hgi K hgK hrk hkt hp h0 h5 h15 h17 h21 fr lo hfr hlo F28_ g29_ g37_ rk38_ (by omega) (⟨by omega, by omega⟩) (⟨fun h0_ => by rw [show F28_ 344 9 = Fb 344 9 by omega, show F28_ 344 10 = Fb 344 10 by omega]; exact hb.1 h0_, fun h0_ => by have h1_ := hb.2 h0_; omega⟩)
  exfalso; omega
set_option maxHeartbeats 16000000 in
theorem mb_50_46 {G : Nat → Nat → Option Nat} (hG : gg G) (F : fl_N) (X : xi_H) (hgi : gi F) (K : fl_N) (hgK : gi K) (hrk : rk K F) (hkt : rkt K) (hp : 0 ≤ F 344 5 ∧ F 344 5 ≤ K 1 6 - 1) (h0 : F 344 9 = 0) (h5 : F 344 5 = 0) (h15 : F 344 15 = 0) (h17 : F 344 17 = 0) (h21 : F 344 21 = 0) (fr lo : Nat) (hfr : 8 ≤ fr) (hlo : 188 ≤ lo) (Fb : fl_N) (hg_Fb : gi Fb) (hf_Fb : fs [(344, 344, 5, 5), (344, 344, 9, 10), (344, 344, 14, 15), (344, 344, 17, 17), (344, 344, 21, 21), (344, 344, 63, 63), (349, 363, 0, 100000), (383, 383, 0, 100000)] F Fb) (hrk_b : rk K Fb) (hbd : ¬ Fb 344 9 = 0) (hp_b : 0 ≤ Fb 344 5 ∧ Fb 344 5 ≤ K 1 6 - 1) (hb : (F 344 9 = 0 → sp_dom K = .inl (Fb 344 9, Fb 344 10)) ∧ (¬ F 344 9 = 0 → Fb 344 9 = F 344 9 ∧ Fb 344 10 = F 344 10)) : fl_R xi_ms 50 fr lo 46 [(0, .ref 344)] [] (fl_H sh_T G Fb ++ X) (pq_50 G F X K) := by
  have hP := (rkt_p hkt hp.1 hp.2 hgK).1
  have hK16 : 0 ≤ K 1 6 ∧ K 1 6 ≤ 601 := gi_g hgK rfl
  have hko := hkt.1
  refine ga_aload_n (v := .ref 344) hm_50 rfl rfl rfl ?_
  refine fl_iconst hm_50 rfl ?_
  have b21_ : 0 ≤ Fb 344 5 ∧ Fb 344 5 ≤ 600 := gi_g hg_Fb rfl
  refine gVi (nY := 4) (F := 1) (L := 21) (As := [.int (Int32.ofInt 2)]) (b := 344) (rest := []) hm_50 rfl hm_56 rfl rfl (fl_ob sc_344) rfl rfl rfl rfl rfl (by omega) (by omega) (mc_56 hG Fb X hg_Fb (K) (2) ([58, 116, 121, 112, 101, 115]) hgK hrk_b hkt (⟨by omega, by omega⟩) (⟨by omega, by omega⟩) (by decide) (kw_2 hrk_b)) (fun _ _ h => False.elim h) ?_
  have b23_ : 0 ≤ Fb 344 9 ∧ Fb 344 9 ≤ 5 := gi_g hg_Fb rfl
  rintro z22_ A1_ (⟨hA_, hz_, c24_⟩ | ⟨hA_, hz_, c25_, c26_⟩)
  ·
    subst hA_
    subst hz_
    refine fl_if_eq hm_50 rfl ⟨by omega, by omega⟩ (fun _ => ?_) (fun h => absurd (by omega) h)
    have b27_ : 0 ≤ Fb 344 10 ∧ Fb 344 10 ≤ 600 := gi_g hg_Fb rfl
    exact mb_50_80 hG F X hgi K hgK hrk hkt hp h0 h5 h15 h17 h21 fr lo hfr hlo Fb hg_Fb hf_Fb hrk_b (by omega) (⟨by omega, by omega⟩) (hb)
  exfalso; omega
set_option maxHeartbeats 16000000 in
theorem mb_50_40 {G : Nat → Nat → Option Nat} (hG : gg G) (F : fl_N) (X : xi_H) (hgi : gi F) (K : fl_N) (hgK : gi K) (hrk : rk K F) (hkt : rkt K) (hp : 0 ≤ F 344 5 ∧ F 344 5 ≤ K 1 6 - 1) (h0 : F 344 9 = 0) (h5 : F 344 5 = 0) (h15 : F 344 15 = 0) (h17 : F 344 17 = 0) (h21 : F 344 21 = 0) (fr lo : Nat) (hfr : 8 ≤ fr) (hlo : 188 ≤ lo) (Fb : fl_N) (hg_Fb : gi Fb) (hf_Fb : fs [(344, 344, 5, 5), (344, 344, 9, 10), (344, 344, 14, 15), (344, 344, 17, 17), (344, 344, 21, 21), (344, 344, 63, 63), (349, 363, 0, 100000), (383, 383, 0, 100000)] F Fb) (hrk_b : rk K Fb) (hbd : ¬ Fb 344 9 = 0) (hp_b : 0 ≤ Fb 344 5 ∧ Fb 344 5 ≤ K 1 6 - 1) (hb : (F 344 9 = 0 → sp_dom K = .inl (Fb 344 9, Fb 344 10)) ∧ (¬ F 344 9 = 0 → Fb 344 9 = F 344 9 ∧ Fb 344 10 = F 344 10)) : fl_R xi_ms 50 fr lo 40 [(0, .ref 344)] [] (fl_H sh_T G Fb ++ X) (pq_50 G F X K) := by
  have hP := (rkt_p hkt hp.1 hp.2 hgK).1
  have hK16 : 0 ≤ K 1 6 ∧ K 1 6 ≤ 601 := gi_g hgK rfl
  have hko := hkt.1
  refine ga_aload_n (v := .ref 344) hm_50 rfl rfl rfl ?_
  refine fl_bipush hm_50 rfl rfl ?_
  have b21_ : 0 ≤ Fb 344 5 ∧ Fb 344 5 ≤ 600 := gi_g hg_Fb rfl
  refine gVv (nY := 2) (F := 2) (L := 41) (As := [.int (Int32.ofInt 40)]) (b := 344) (rest := []) hm_50 rfl hm_51 rfl rfl (fl_ob sc_344) rfl rfl rfl rfl rfl (by omega) (by omega) (mc_51 hG Fb X hg_Fb (K) (40) (0) hgK hrk_b hkt (⟨by omega, by omega⟩) (by omega) (by omega)) (fun _ _ h => False.elim h) ?_
  have b23_ : 0 ≤ Fb 344 10 ∧ Fb 344 10 ≤ 600 := gi_g hg_Fb rfl
  have b24_ : 0 ≤ Fb 344 9 ∧ Fb 344 9 ≤ 5 := gi_g hg_Fb rfl
  rintro A1_ (⟨F28_, hA_, g29_, s30_, c25_, c26_, c27_⟩ | ⟨F34_, hA_, g35_, s36_, c31_, c32_, c33_⟩)
  ·
    subst hA_
    have g37_ : fs [(344, 344, 5, 5), (344, 344, 9, 10), (344, 344, 14, 15), (344, 344, 17, 17), (344, 344, 21, 21), (344, 344, 63, 63), (349, 363, 0, 100000), (383, 383, 0, 100000)] F F28_ := fs_tr hf_Fb s30_ rfl
    have rk38_ : rk K F28_ := rk_fs hrk_b s30_ (fs_rg rfl) rfl
    have c26_k := c26_.2 (by omega)
    clear c26_
    have b39_ : 0 ≤ F28_ 344 9 ∧ F28_ 344 9 ≤ 5 := gi_g g29_ rfl
    have b40_ : 0 ≤ F28_ 344 10 ∧ F28_ 344 10 ≤ 600 := gi_g g29_ rfl
    have b41_ : 0 ≤ F28_ 344 5 ∧ F28_ 344 5 ≤ 600 := gi_g g29_ rfl
    exact mb_50_46 hG F X hgi K hgK hrk hkt hp h0 h5 h15 h17 h21 fr lo hfr hlo F28_ g29_ g37_ rk38_ (by omega) (⟨by omega, by omega⟩) (⟨fun h0_ => by rw [show F28_ 344 9 = Fb 344 9 by omega, show F28_ 344 10 = Fb 344 10 by omega]; exact hb.1 h0_, fun h0_ => by have h1_ := hb.2 h0_; omega⟩)
  exfalso; omega
set_option maxHeartbeats 16000000 in
theorem mb_50_34 {G : Nat → Nat → Option Nat} (hG : gg G) (F : fl_N) (X : xi_H) (hgi : gi F) (K : fl_N) (hgK : gi K) (hrk : rk K F) (hkt : rkt K) (hp : 0 ≤ F 344 5 ∧ F 344 5 ≤ K 1 6 - 1) (h0 : F 344 9 = 0) (h5 : F 344 5 = 0) (h15 : F 344 15 = 0) (h17 : F 344 17 = 0) (h21 : F 344 21 = 0) (fr lo : Nat) (hfr : 8 ≤ fr) (hlo : 188 ≤ lo) (Fb : fl_N) (hg_Fb : gi Fb) (hf_Fb : fs [(344, 344, 5, 5), (344, 344, 9, 10), (344, 344, 14, 15), (344, 344, 17, 17), (344, 344, 21, 21), (344, 344, 63, 63), (349, 363, 0, 100000), (383, 383, 0, 100000)] F Fb) (hrk_b : rk K Fb) (hbd : ¬ Fb 344 9 = 0) (hp_b : 0 ≤ Fb 344 5 ∧ Fb 344 5 ≤ K 1 6 - 1) (hb : (F 344 9 = 0 → sp_dom K = .inl (Fb 344 9, Fb 344 10)) ∧ (¬ F 344 9 = 0 → Fb 344 9 = F 344 9 ∧ Fb 344 10 = F 344 10)) : fl_R xi_ms 50 fr lo 34 [(0, .ref 344)] [] (fl_H sh_T G Fb ++ X) (pq_50 G F X K) := by
  have hP := (rkt_p hkt hp.1 hp.2 hgK).1
  have hK16 : 0 ≤ K 1 6 ∧ K 1 6 ≤ 601 := gi_g hgK rfl
  have hko := hkt.1
  refine ga_aload_n (v := .ref 344) hm_50 rfl rfl rfl ?_
  refine fl_bipush hm_50 rfl rfl ?_
  have b21_ : 0 ≤ Fb 344 5 ∧ Fb 344 5 ≤ 600 := gi_g hg_Fb rfl
  refine gVv (nY := 2) (F := 2) (L := 41) (As := [.int (Int32.ofInt 41)]) (b := 344) (rest := []) hm_50 rfl hm_51 rfl rfl (fl_ob sc_344) rfl rfl rfl rfl rfl (by omega) (by omega) (mc_51 hG Fb X hg_Fb (K) (41) (1) hgK hrk_b hkt (⟨by omega, by omega⟩) (by omega) (by omega)) (fun _ _ h => False.elim h) ?_
  have b23_ : 0 ≤ Fb 344 10 ∧ Fb 344 10 ≤ 600 := gi_g hg_Fb rfl
  have b24_ : 0 ≤ Fb 344 9 ∧ Fb 344 9 ≤ 5 := gi_g hg_Fb rfl
  rintro A1_ (⟨F28_, hA_, g29_, s30_, c25_, c26_, c27_⟩ | ⟨F34_, hA_, g35_, s36_, c31_, c32_, c33_⟩)
  ·
    subst hA_
    have g37_ : fs [(344, 344, 5, 5), (344, 344, 9, 10), (344, 344, 14, 15), (344, 344, 17, 17), (344, 344, 21, 21), (344, 344, 63, 63), (349, 363, 0, 100000), (383, 383, 0, 100000)] F F28_ := fs_tr hf_Fb s30_ rfl
    have rk38_ : rk K F28_ := rk_fs hrk_b s30_ (fs_rg rfl) rfl
    have c26_k := c26_.2 (by omega)
    clear c26_
    have b39_ : 0 ≤ F28_ 344 9 ∧ F28_ 344 9 ≤ 5 := gi_g g29_ rfl
    have b40_ : 0 ≤ F28_ 344 10 ∧ F28_ 344 10 ≤ 600 := gi_g g29_ rfl
    have b41_ : 0 ≤ F28_ 344 5 ∧ F28_ 344 5 ≤ 600 := gi_g g29_ rfl
    exact mb_50_40 hG F X hgi K hgK hrk hkt hp h0 h5 h15 h17 h21 fr lo hfr hlo F28_ g29_ g37_ rk38_ (by omega) (⟨by omega, by omega⟩) (⟨fun h0_ => by rw [show F28_ 344 9 = Fb 344 9 by omega, show F28_ 344 10 = Fb 344 10 by omega]; exact hb.1 h0_, fun h0_ => by have h1_ := hb.2 h0_; omega⟩)
  exfalso; omega
set_option maxHeartbeats 16000000 in
theorem mb_50_22 {G : Nat → Nat → Option Nat} (hG : gg G) (F : fl_N) (X : xi_H) (hgi : gi F) (K : fl_N) (hgK : gi K) (hrk : rk K F) (hkt : rkt K) (hp : 0 ≤ F 344 5 ∧ F 344 5 ≤ K 1 6 - 1) (h0 : F 344 9 = 0) (h5 : F 344 5 = 0) (h15 : F 344 15 = 0) (h17 : F 344 17 = 0) (h21 : F 344 21 = 0) (fr lo : Nat) (hfr : 8 ≤ fr) (hlo : 188 ≤ lo) (Fb : fl_N) (hg_Fb : gi Fb) (hf_Fb : fs [(344, 344, 5, 5), (344, 344, 9, 10), (344, 344, 14, 15), (344, 344, 17, 17), (344, 344, 21, 21), (344, 344, 63, 63), (349, 363, 0, 100000), (383, 383, 0, 100000)] F Fb) (hrk_b : rk K Fb) (hbd : ¬ Fb 344 9 = 0) (hp_b : 0 ≤ Fb 344 5 ∧ Fb 344 5 ≤ K 1 6 - 1) (hb : (F 344 9 = 0 → sp_dom K = .inl (Fb 344 9, Fb 344 10)) ∧ (¬ F 344 9 = 0 → Fb 344 9 = F 344 9 ∧ Fb 344 10 = F 344 10)) : fl_R xi_ms 50 fr lo 22 [(0, .ref 344)] [] (fl_H sh_T G Fb ++ X) (pq_50 G F X K) := by
  have hP := (rkt_p hkt hp.1 hp.2 hgK).1
  have hK16 : 0 ≤ K 1 6 ∧ K 1 6 ≤ 601 := gi_g hgK rfl
  have hko := hkt.1
  refine ga_aload_n (v := .ref 344) hm_50 rfl rfl rfl ?_
  refine ga_aload_n (v := .ref 344) hm_50 rfl rfl rfl ?_
  have b21_ : 0 ≤ Fb 344 5 ∧ Fb 344 5 ≤ 600 := gi_g hg_Fb rfl
  refine gVl (nY := 3) (F := 2) (L := 46) (As := []) (b := 344) (rest := [.ref 344]) hm_50 rfl hm_58 rfl rfl (fl_ob sc_344) rfl rfl rfl rfl rfl (by omega) (by omega) (mc_58 hG Fb X hg_Fb (K) hgK hrk_b hkt (⟨by omega, by omega⟩)) (fun _ _ h => False.elim h) ?_
  have b23_ : 0 ≤ Fb 344 10 ∧ Fb 344 10 ≤ 600 := gi_g hg_Fb rfl
  have b24_ : 0 ≤ Fb 344 9 ∧ Fb 344 9 ≤ 5 := gi_g hg_Fb rfl
  rintro z22_ A1_ (⟨F29_, hA_, g30_, s31_, c25_, c26_, c27_, c28_⟩ | ⟨F39_, hA_, g40_, s41_, c32_, c33_, c34_, c35_, c36_, c37_, c38_⟩)
  ·
    subst hA_
    have g42_ : fs [(344, 344, 5, 5), (344, 344, 9, 10), (344, 344, 14, 15), (344, 344, 17, 17), (344, 344, 21, 21), (344, 344, 63, 63), (349, 363, 0, 100000), (383, 383, 0, 100000)] F F29_ := fs_tr hf_Fb s31_ rfl
    have rk43_ : rk K F29_ := rk_fs hrk_b s31_ (fs_rg rfl) rfl
    have c26_k := c26_.2 (by omega)
    clear c26_
    refine ga_putl hm_50 rfl sc_344 rfl rfl ?_
    refine ga_aload_n (v := .ref 344) hm_50 rfl rfl rfl ?_
    refine gIv (nY := 1) (F := 1) (L := 20) (As := []) (b := 344) (rest := []) hm_50 rfl hm_61 rfl rfl (fl_ob sc_344) rfl rfl rfl rfl rfl (by omega) (by omega) ?_
    intro f44_ l45_ h46_ h47_
    show fl_R xi_ms 61 f44_ l45_ 0 [(0, .ref 344)] [] _ _
    refine ga_aload_n (v := .ref 344) hm_61 rfl rfl rfl ?_
    refine ga_dup hm_61 rfl rfl ?_
    have e48_ : F29_ 344 5 = Fb 344 5 := (s31_ 344 5 rfl).trans (rfl)
    refine ga_geti (z := Fb 344 5) hm_61 rfl sc_344 rfl ((fl_u_ne (by first | exact nc_ rfl | decide | omega)).trans (e48_)) ?_
    refine ga_aload_n (v := .ref 344) hm_61 rfl rfl rfl ?_
    refine gIi (nY := 1) (F := 0) (L := 0) (As := []) (b := 344) (rest := [.int (Int32.ofInt (Fb 344 5)), .ref 344]) hm_61 rfl hm_59 rfl rfl (fl_ob sc_344) rfl rfl rfl rfl rfl (by omega) (by omega) ?_
    intro f49_ l50_ h51_ h52_
    show fl_R xi_ms 59 f49_ l50_ 0 [(0, .ref 344)] [] _ _
    refine ga_aload_n (v := .ref 344) hm_59 rfl rfl rfl ?_
    have b53_ : 0 ≤ F29_ 344 9 ∧ F29_ 344 9 ≤ 5 := gi_g g30_ rfl
    refine ga_geti (z := F29_ 344 9) hm_59 rfl sc_344 rfl (fl_u_ne (by first | exact nc_ rfl | decide | omega)) ?_
    refine fl_if_le (a := F29_ 344 9) hm_59 rfl ⟨by omega, by omega⟩ (fun h54_ => ?_) (fun h55_ => ?_)
    · exfalso; omega
    refine fl_iconst hm_59 rfl ?_
    refine fl_goto hm_59 rfl ?_
    refine gr_i hm_59 rfl rfl (ga_nb (by omega)) ?_
    clear h51_ h52_ f49_ l50_
    refine fl_if_eq hm_61 rfl ⟨by omega, by omega⟩ (fun h => absurd h (by omega)) (fun _ => ?_)
    refine fl_iconst hm_61 rfl ?_
    refine fl_goto hm_61 rfl ?_
    refine ga_iadd (a := Fb 344 5) (b := 0) (c := Fb 344 5) hm_61 rfl (by omega) ?_
    refine ga_puti (z := Fb 344 5) hm_61 rfl sc_344 rfl rfl ?_
    refine gr_v hm_61 rfl rfl ?_
    clear h46_ h47_ f44_ l45_
    obtain ⟨F56_, q57_⟩ : ∃ Fq_, Fq_ = (fl_u (fl_u F29_ 344 14 z22_) 344 5 (Fb 344 5)) := ⟨_, rfl⟩
    rw [← q57_]
    have g58_ : gi F56_ := by rw [q57_]; exact gi_u (gi_u (g30_) rfl (by omega) (by omega)) rfl (by omega) (by omega)
    have g59_ : fs [(344, 344, 5, 5), (344, 344, 9, 10), (344, 344, 14, 15), (344, 344, 17, 17), (344, 344, 21, 21), (344, 344, 63, 63), (349, 363, 0, 100000), (383, 383, 0, 100000)] F F56_ := by rw [q57_]; exact fs_u (fs_u (g42_) rfl) rfl
    have rk60_ : rk K F56_ := by rw [q57_]; exact rk_u (rk_u (rk43_) (by first | decide | exact nc_ rfl | omega) (by first | decide | exact nc_ rfl | omega)) (by first | decide | exact nc_ rfl | omega) (by first | decide | exact nc_ rfl | omega)
    have e61_ : F56_ 344 9 = F29_ 344 9 := by rw [q57_]; exact (fl_u_ne (by first | exact nc_ rfl | decide | omega)).trans (fl_u_ne (by first | exact nc_ rfl | decide | omega))
    have e62_ : F56_ 344 10 = F29_ 344 10 := by rw [q57_]; exact (fl_u_ne (by first | exact nc_ rfl | decide | omega)).trans (fl_u_ne (by first | exact nc_ rfl | decide | omega))
    have b63_ : 0 ≤ F29_ 344 10 ∧ F29_ 344 10 ≤ 600 := gi_g g30_ rfl
    have e64_ : F56_ 344 5 = Fb 344 5 := by rw [q57_]; exact fl_u_eq
    exact mb_50_34 hG F X hgi K hgK hrk hkt hp h0 h5 h15 h17 h21 fr lo hfr hlo F56_ g58_ g59_ rk60_ (by omega) (⟨by omega, by omega⟩) (⟨fun h0_ => by rw [show F56_ 344 9 = Fb 344 9 by omega, show F56_ 344 10 = Fb 344 10 by omega]; exact hb.1 h0_, fun h0_ => by have h1_ := hb.2 h0_; omega⟩)
  exfalso; omega
set_option maxHeartbeats 16000000 in
theorem mb_50_17 {G : Nat → Nat → Option Nat} (hG : gg G) (F : fl_N) (X : xi_H) (hgi : gi F) (K : fl_N) (hgK : gi K) (hrk : rk K F) (hkt : rkt K) (hp : 0 ≤ F 344 5 ∧ F 344 5 ≤ K 1 6 - 1) (h0 : F 344 9 = 0) (h5 : F 344 5 = 0) (h15 : F 344 15 = 0) (h17 : F 344 17 = 0) (h21 : F 344 21 = 0) (fr lo : Nat) (hfr : 8 ≤ fr) (hlo : 188 ≤ lo) (Fb : fl_N) (hg_Fb : gi Fb) (hf_Fb : fs [(344, 344, 5, 5), (344, 344, 9, 10), (344, 344, 14, 15), (344, 344, 17, 17), (344, 344, 21, 21), (344, 344, 63, 63), (349, 363, 0, 100000), (383, 383, 0, 100000)] F Fb) (hrk_b : rk K Fb) (hbd : ¬ Fb 344 9 = 0) (hp_b : 0 ≤ Fb 344 5 ∧ Fb 344 5 ≤ K 1 6 - 1) (hb : (F 344 9 = 0 → sp_dom K = .inl (Fb 344 9, Fb 344 10)) ∧ (¬ F 344 9 = 0 → Fb 344 9 = F 344 9 ∧ Fb 344 10 = F 344 10)) : fl_R xi_ms 50 fr lo 17 [(0, .ref 344)] [] (fl_H sh_T G Fb ++ X) (pq_50 G F X K) := by
  have hP := (rkt_p hkt hp.1 hp.2 hgK).1
  have hK16 : 0 ≤ K 1 6 ∧ K 1 6 ≤ 601 := gi_g hgK rfl
  have hko := hkt.1
  refine ga_aload_n (v := .ref 344) hm_50 rfl rfl rfl ?_
  refine fl_iconst hm_50 rfl ?_
  have b21_ : 0 ≤ Fb 344 5 ∧ Fb 344 5 ≤ 600 := gi_g hg_Fb rfl
  refine gVv (nY := 2) (F := 2) (L := 44) (As := [.int (Int32.ofInt 1)]) (b := 344) (rest := []) hm_50 rfl hm_55 rfl rfl (fl_ob sc_344) rfl rfl rfl rfl rfl (by omega) (by omega) (mc_55 hG Fb X hg_Fb (K) (1) ([100, 111, 109, 97, 105, 110]) hgK hrk_b hkt (⟨by omega, by omega⟩) (⟨by omega, by omega⟩) (by decide) (kw_1 hrk_b)) (fun _ _ h => False.elim h) ?_
  have b23_ : 0 ≤ Fb 344 10 ∧ Fb 344 10 ≤ 600 := gi_g hg_Fb rfl
  have b24_ : 0 ≤ Fb 344 9 ∧ Fb 344 9 ≤ 5 := gi_g hg_Fb rfl
  rintro A1_ (⟨F28_, hA_, g29_, s30_, c25_, c26_, c27_⟩ | ⟨F34_, hA_, g35_, s36_, c31_, c32_, c33_⟩)
  ·
    subst hA_
    have g37_ : fs [(344, 344, 5, 5), (344, 344, 9, 10), (344, 344, 14, 15), (344, 344, 17, 17), (344, 344, 21, 21), (344, 344, 63, 63), (349, 363, 0, 100000), (383, 383, 0, 100000)] F F28_ := fs_tr hf_Fb s30_ rfl
    have rk38_ : rk K F28_ := rk_fs hrk_b s30_ (fs_rg rfl) rfl
    have c26_k := c26_.2 (by omega)
    clear c26_
    have b39_ : 0 ≤ F28_ 344 9 ∧ F28_ 344 9 ≤ 5 := gi_g g29_ rfl
    have b40_ : 0 ≤ F28_ 344 10 ∧ F28_ 344 10 ≤ 600 := gi_g g29_ rfl
    have b41_ : 0 ≤ F28_ 344 5 ∧ F28_ 344 5 ≤ 600 := gi_g g29_ rfl
    exact mb_50_22 hG F X hgi K hgK hrk hkt hp h0 h5 h15 h17 h21 fr lo hfr hlo F28_ g29_ g37_ rk38_ (by omega) (⟨by omega, by omega⟩) (⟨fun h0_ => by rw [show F28_ 344 9 = Fb 344 9 by omega, show F28_ 344 10 = Fb 344 10 by omega]; exact hb.1 h0_, fun h0_ => by have h1_ := hb.2 h0_; omega⟩)
  exfalso; omega
set_option maxHeartbeats 16000000 in
theorem mb_50_11 {G : Nat → Nat → Option Nat} (hG : gg G) (F : fl_N) (X : xi_H) (hgi : gi F) (K : fl_N) (hgK : gi K) (hrk : rk K F) (hkt : rkt K) (hp : 0 ≤ F 344 5 ∧ F 344 5 ≤ K 1 6 - 1) (h0 : F 344 9 = 0) (h5 : F 344 5 = 0) (h15 : F 344 15 = 0) (h17 : F 344 17 = 0) (h21 : F 344 21 = 0) (fr lo : Nat) (hfr : 8 ≤ fr) (hlo : 188 ≤ lo) (Fb : fl_N) (hg_Fb : gi Fb) (hf_Fb : fs [(344, 344, 5, 5), (344, 344, 9, 10), (344, 344, 14, 15), (344, 344, 17, 17), (344, 344, 21, 21), (344, 344, 63, 63), (349, 363, 0, 100000), (383, 383, 0, 100000)] F Fb) (hrk_b : rk K Fb) (hbd : ¬ Fb 344 9 = 0) (hp_b : 0 ≤ Fb 344 5 ∧ Fb 344 5 ≤ K 1 6 - 1) (hb : (F 344 9 = 0 → sp_dom K = .inl (Fb 344 9, Fb 344 10)) ∧ (¬ F 344 9 = 0 → Fb 344 9 = F 344 9 ∧ Fb 344 10 = F 344 10)) : fl_R xi_ms 50 fr lo 11 [(0, .ref 344)] [] (fl_H sh_T G Fb ++ X) (pq_50 G F X K) := by
  have hP := (rkt_p hkt hp.1 hp.2 hgK).1
  have hK16 : 0 ≤ K 1 6 ∧ K 1 6 ≤ 601 := gi_g hgK rfl
  have hko := hkt.1
  refine ga_aload_n (v := .ref 344) hm_50 rfl rfl rfl ?_
  refine fl_bipush hm_50 rfl rfl ?_
  have b21_ : 0 ≤ Fb 344 5 ∧ Fb 344 5 ≤ 600 := gi_g hg_Fb rfl
  refine gVv (nY := 2) (F := 2) (L := 41) (As := [.int (Int32.ofInt 40)]) (b := 344) (rest := []) hm_50 rfl hm_51 rfl rfl (fl_ob sc_344) rfl rfl rfl rfl rfl (by omega) (by omega) (mc_51 hG Fb X hg_Fb (K) (40) (0) hgK hrk_b hkt (⟨by omega, by omega⟩) (by omega) (by omega)) (fun _ _ h => False.elim h) ?_
  have b23_ : 0 ≤ Fb 344 10 ∧ Fb 344 10 ≤ 600 := gi_g hg_Fb rfl
  have b24_ : 0 ≤ Fb 344 9 ∧ Fb 344 9 ≤ 5 := gi_g hg_Fb rfl
  rintro A1_ (⟨F28_, hA_, g29_, s30_, c25_, c26_, c27_⟩ | ⟨F34_, hA_, g35_, s36_, c31_, c32_, c33_⟩)
  ·
    subst hA_
    have g37_ : fs [(344, 344, 5, 5), (344, 344, 9, 10), (344, 344, 14, 15), (344, 344, 17, 17), (344, 344, 21, 21), (344, 344, 63, 63), (349, 363, 0, 100000), (383, 383, 0, 100000)] F F28_ := fs_tr hf_Fb s30_ rfl
    have rk38_ : rk K F28_ := rk_fs hrk_b s30_ (fs_rg rfl) rfl
    have c26_k := c26_.2 (by omega)
    clear c26_
    have b39_ : 0 ≤ F28_ 344 9 ∧ F28_ 344 9 ≤ 5 := gi_g g29_ rfl
    have b40_ : 0 ≤ F28_ 344 10 ∧ F28_ 344 10 ≤ 600 := gi_g g29_ rfl
    have b41_ : 0 ≤ F28_ 344 5 ∧ F28_ 344 5 ≤ 600 := gi_g g29_ rfl
    exact mb_50_17 hG F X hgi K hgK hrk hkt hp h0 h5 h15 h17 h21 fr lo hfr hlo F28_ g29_ g37_ rk38_ (by omega) (⟨by omega, by omega⟩) (⟨fun h0_ => by rw [show F28_ 344 9 = Fb 344 9 by omega, show F28_ 344 10 = Fb 344 10 by omega]; exact hb.1 h0_, fun h0_ => by have h1_ := hb.2 h0_; omega⟩)
  exfalso; omega
set_option maxHeartbeats 16000000 in
theorem mb_50_6 {G : Nat → Nat → Option Nat} (hG : gg G) (F : fl_N) (X : xi_H) (hgi : gi F) (K : fl_N) (hgK : gi K) (hrk : rk K F) (hkt : rkt K) (hp : 0 ≤ F 344 5 ∧ F 344 5 ≤ K 1 6 - 1) (h0 : F 344 9 = 0) (h5 : F 344 5 = 0) (h15 : F 344 15 = 0) (h17 : F 344 17 = 0) (h21 : F 344 21 = 0) (fr lo : Nat) (hfr : 8 ≤ fr) (hlo : 188 ≤ lo) (Fb : fl_N) (hg_Fb : gi Fb) (hf_Fb : fs [(344, 344, 5, 5), (344, 344, 9, 10), (344, 344, 14, 15), (344, 344, 17, 17), (344, 344, 21, 21), (344, 344, 63, 63), (349, 363, 0, 100000), (383, 383, 0, 100000)] F Fb) (hrk_b : rk K Fb) (hbd : ¬ Fb 344 9 = 0) (hp_b : 0 ≤ Fb 344 5 ∧ Fb 344 5 ≤ K 1 6 - 1) (hb : (F 344 9 = 0 → sp_dom K = .inl (Fb 344 9, Fb 344 10)) ∧ (¬ F 344 9 = 0 → Fb 344 9 = F 344 9 ∧ Fb 344 10 = F 344 10)) : fl_R xi_ms 50 fr lo 6 [(0, .ref 344)] [] (fl_H sh_T G Fb ++ X) (pq_50 G F X K) := by
  have hP := (rkt_p hkt hp.1 hp.2 hgK).1
  have hK16 : 0 ≤ K 1 6 ∧ K 1 6 ≤ 601 := gi_g hgK rfl
  have hko := hkt.1
  refine ga_aload_n (v := .ref 344) hm_50 rfl rfl rfl ?_
  refine fl_iconst hm_50 rfl ?_
  have b21_ : 0 ≤ Fb 344 5 ∧ Fb 344 5 ≤ 600 := gi_g hg_Fb rfl
  refine gVv (nY := 2) (F := 2) (L := 44) (As := [.int (Int32.ofInt 0)]) (b := 344) (rest := []) hm_50 rfl hm_55 rfl rfl (fl_ob sc_344) rfl rfl rfl rfl rfl (by omega) (by omega) (mc_55 hG Fb X hg_Fb (K) (0) ([100, 101, 102, 105, 110, 101]) hgK hrk_b hkt (⟨by omega, by omega⟩) (⟨by omega, by omega⟩) (by decide) (kw_0 hrk_b)) (fun _ _ h => False.elim h) ?_
  have b23_ : 0 ≤ Fb 344 10 ∧ Fb 344 10 ≤ 600 := gi_g hg_Fb rfl
  have b24_ : 0 ≤ Fb 344 9 ∧ Fb 344 9 ≤ 5 := gi_g hg_Fb rfl
  rintro A1_ (⟨F28_, hA_, g29_, s30_, c25_, c26_, c27_⟩ | ⟨F34_, hA_, g35_, s36_, c31_, c32_, c33_⟩)
  ·
    subst hA_
    have g37_ : fs [(344, 344, 5, 5), (344, 344, 9, 10), (344, 344, 14, 15), (344, 344, 17, 17), (344, 344, 21, 21), (344, 344, 63, 63), (349, 363, 0, 100000), (383, 383, 0, 100000)] F F28_ := fs_tr hf_Fb s30_ rfl
    have rk38_ : rk K F28_ := rk_fs hrk_b s30_ (fs_rg rfl) rfl
    have c26_k := c26_.2 (by omega)
    clear c26_
    have b39_ : 0 ≤ F28_ 344 9 ∧ F28_ 344 9 ≤ 5 := gi_g g29_ rfl
    have b40_ : 0 ≤ F28_ 344 10 ∧ F28_ 344 10 ≤ 600 := gi_g g29_ rfl
    have b41_ : 0 ≤ F28_ 344 5 ∧ F28_ 344 5 ≤ 600 := gi_g g29_ rfl
    exact mb_50_11 hG F X hgi K hgK hrk hkt hp h0 h5 h15 h17 h21 fr lo hfr hlo F28_ g29_ g37_ rk38_ (by omega) (⟨by omega, by omega⟩) (⟨fun h0_ => by rw [show F28_ 344 9 = Fb 344 9 by omega, show F28_ 344 10 = Fb 344 10 by omega]; exact hb.1 h0_, fun h0_ => by have h1_ := hb.2 h0_; omega⟩)
  exfalso; omega
set_option maxHeartbeats 16000000 in
theorem mg_50_118 {G : Nat → Nat → Option Nat} (hG : gg G) (F : fl_N) (X : xi_H) (hgi : gi F) (K : fl_N) (hgK : gi K) (hrk : rk K F) (hkt : rkt K) (hp : 0 ≤ F 344 5 ∧ F 344 5 ≤ K 1 6 - 1) (h0 : F 344 9 = 0) (h5 : F 344 5 = 0) (h15 : F 344 15 = 0) (h17 : F 344 17 = 0) (h21 : F 344 21 = 0) (fr lo : Nat) (hfr : 8 ≤ fr) (hlo : 188 ≤ lo) (Fg : fl_N) (ts_ : List Int) (l : List Int) (ps : List (List Int)) (hg_Fg : gi Fg) (hf_Fg : fs [(344, 344, 5, 5), (344, 344, 9, 10), (344, 344, 14, 15), (344, 344, 17, 17), (344, 344, 21, 21), (344, 344, 63, 63), (349, 363, 0, 100000), (383, 383, 0, 100000)] F Fg) (hrk_g : rk K Fg) (h0g : Fg 344 9 = 0 ∧ F 344 9 = 0) (hp_g : 0 ≤ Fg 344 5 ∧ Fg 344 5 ≤ K 1 6 - 1) (hq_ : sp_dom K = sp_d3 K ts_ l ps (Fg 344 5)) (hts_ : rpn (Fg 349) (Fg 344 15) ts_) (h21g : Fg 344 21 = 0) (hl1_ : rpn (Fg 350) (Fg 344 17) l) (hps1 : rprd Fg ps ∧ ps.length = l.length) (hnm_ : nrel (sp_dnm K) (Fg 344 14)) (hdd_ : dom_d K = acts_d K ts_ l ps 5 [] (Fg 344 5)) : fl_R xi_ms 50 fr lo 118 [(0, .ref 344)] [] (fl_H sh_T G Fg ++ X) (pq_50 G F X K) := by
  have hP := (rkt_p hkt hp.1 hp.2 hgK).1
  have hK16 : 0 ≤ K 1 6 ∧ K 1 6 ≤ 601 := gi_g hgK rfl
  have hko := hkt.1
  refine fl_iconst hm_50 rfl ?_
  refine ga_istore_n (lv2 := [(1, .int (Int32.ofInt 1)), (0, .ref 344)]) hm_50 rfl (Nat.le_of_ble_eq_true rfl) rfl ?_
  have b24_ : 0 ≤ Fg 344 5 ∧ Fg 344 5 ≤ 600 := gi_g hg_Fg rfl
  have L22_ : ∀ (n21_ : Nat) (mo2 : Int) (al : List Int) (D : List ad_T) (F2 : fl_N), (6 - F2 344 21 : Int).toNat = n21_ → (gi F2) → (fs [(344, 344, 5, 5), (344, 344, 9, 10), (344, 344, 21, 21), (344, 344, 63, 63), (353, 363, 0, 100000)] Fg F2) → (F2 344 9 = 0) → (rpn (F2 353) (F2 344 21) al) → ((mo2 = 1 ∧ ((al.length : Int) = 0 ∨ K 3 (F2 344 5).toNat = 0)) ∨ (mo2 = 0 ∧ 0 < (al.length : Int) ∧ ¬ K 3 (F2 344 5).toNat = 0)) → (0 ≤ F2 344 5 ∧ F2 344 5 ≤ K 1 6 - 1) → (∀ j : Nat, (j : Int) < F2 344 21 → 0 ≤ F2 357 j) → (sp_actions K ts_ l ps 5 [] (Fg 344 5) = sp_actions K ts_ l ps (5 - al.length) al (F2 344 5)) → ((D.length : Int) = F2 344 21) → (rdar F2 D) → (acts_d K ts_ l ps 5 [] (Fg 344 5) = D ++ acts_d K ts_ l ps (5 - al.length) al (F2 344 5)) → fl_R xi_ms 50 fr lo 120 [(1, .int (Int32.ofInt mo2)), (0, .ref 344)] [] (fl_H sh_T G F2 ++ X) (pq_50 G F X K) := by
    intro n21_
    induction n21_ using Nat.strongRecOn with
    | ind n21_ ih23_ =>
    intro mo2 al D F2 hn25_ hg_F2 hf_F2 hk2 hal hmo2 hp2 hcs hspa hDn hD hDd
    have g26_ : fs [(344, 344, 5, 5), (344, 344, 9, 10), (344, 344, 14, 15), (344, 344, 17, 17), (344, 344, 21, 21), (344, 344, 63, 63), (349, 363, 0, 100000), (383, 383, 0, 100000)] F F2 := fs_tr hf_Fg hf_F2 rfl
    have rk27_ : rk K F2 := rk_fs hrk_g hf_F2 (fs_rg rfl) rfl
    have hal1 := hal.1
    have hP2 := (rkt_p hkt (p := F2 344 5) (by omega) (by omega) hgK).1
    have hb21 : 0 ≤ F2 344 21 ∧ F2 344 21 ≤ 5 := gi_g hg_F2 rfl
    refine ga_iload_n (z := mo2) hm_50 rfl rfl ?_
    refine fl_if_eq (a := mo2) hm_50 rfl ⟨by omega, by omega⟩ (fun h28_ => ?_) (fun h29_ => ?_)
    ·
      refine ga_aload_n (v := .ref 344) hm_50 rfl rfl rfl ?_
      refine fl_bipush hm_50 rfl rfl ?_
      have b30_ : 0 ≤ F2 344 5 ∧ F2 344 5 ≤ 600 := gi_g hg_F2 rfl
      refine gVv (nY := 2) (F := 2) (L := 41) (As := [.int (Int32.ofInt 41)]) (b := 344) (rest := []) hm_50 rfl hm_51 rfl rfl (fl_ob sc_344) rfl rfl rfl rfl rfl (by omega) (by omega) (mc_51 hG F2 X hg_F2 (K) (41) (1) hgK rk27_ hkt (⟨by omega, by omega⟩) (by omega) (by omega)) (fun _ _ h => False.elim h) ?_
      have b32_ : 0 ≤ F2 344 10 ∧ F2 344 10 ≤ 600 := gi_g hg_F2 rfl
      have b33_ : 0 ≤ F2 344 9 ∧ F2 344 9 ≤ 5 := gi_g hg_F2 rfl
      rintro A1_ (⟨F37_, hA_, g38_, s39_, c34_, c35_, c36_⟩ | ⟨F43_, hA_, g44_, s45_, c40_, c41_, c42_⟩)
      ·
        subst hA_
        have g46_ : fs [(344, 344, 5, 5), (344, 344, 9, 10), (344, 344, 14, 15), (344, 344, 17, 17), (344, 344, 21, 21), (344, 344, 63, 63), (349, 363, 0, 100000), (383, 383, 0, 100000)] F F37_ := fs_tr g26_ s39_ rfl
        have rk47_ : rk K F37_ := rk_fs rk27_ s39_ (fs_rg rfl) rfl
        have c35_s := c35_.1 (by omega)
        clear c35_
        have b48_ : 0 ≤ F37_ 344 9 ∧ F37_ 344 9 ≤ 5 := gi_g g38_ rfl
        have b49_ : 0 ≤ F37_ 344 10 ∧ F37_ 344 10 ≤ 600 := gi_g g38_ rfl
        have b50_ : 0 ≤ F37_ 344 5 ∧ F37_ 344 5 ≤ 600 := gi_g g38_ rfl
        exact fl_R_sub (lv' := [(0, .ref 344)]) rfl rfl (mb_50_151 hG F X hgi K hgK hrk hkt hp h0 h5 h15 h17 h21 fr lo hfr hlo F37_ g38_ g46_ rk47_ (by omega) (⟨by omega, by omega⟩) (⟨by intro h0_; have hs_ := c35_s; rw [hq_, sp_d3]; rw [hspa, sa_e (by omega) (by omega)]; simp only [pb_r]; rw [sp_close]; rw [hs_]; try (show Sum.inl _ = _); try (congr 2 <;> omega), fun h0_ => by exfalso; omega⟩))
      subst hA_
      have g51_ : fs [(344, 344, 5, 5), (344, 344, 9, 10), (344, 344, 14, 15), (344, 344, 17, 17), (344, 344, 21, 21), (344, 344, 63, 63), (349, 363, 0, 100000), (383, 383, 0, 100000)] F F43_ := fs_tr g26_ s45_ rfl
      have rk52_ : rk K F43_ := rk_fs rk27_ s45_ (fs_rg rfl) rfl
      refine ga_aload_n (v := .ref 344) hm_50 rfl rfl rfl ?_
      refine gIi (nY := 1) (F := 0) (L := 0) (As := []) (b := 344) (rest := []) hm_50 rfl hm_59 rfl rfl (fl_ob sc_344) rfl rfl rfl rfl rfl (by omega) (by omega) ?_
      intro f53_ l54_ h55_ h56_
      show fl_R xi_ms 59 f53_ l54_ 0 [(0, .ref 344)] [] _ _
      refine ga_aload_n (v := .ref 344) hm_59 rfl rfl rfl ?_
      have b57_ : 0 ≤ F43_ 344 9 ∧ F43_ 344 9 ≤ 5 := gi_g g44_ rfl
      refine ga_geti (z := F43_ 344 9) hm_59 rfl sc_344 rfl (rfl) ?_
      refine fl_if_le (a := F43_ 344 9) hm_59 rfl ⟨by omega, by omega⟩ (fun h58_ => ?_) (fun h59_ => ?_)
      ·
        refine fl_iconst hm_59 rfl ?_
        refine gr_i hm_59 rfl rfl (ga_nb (by omega)) ?_
        clear h55_ h56_ f53_ l54_
        refine fl_if_ne hm_50 rfl ⟨by omega, by omega⟩ (fun h => absurd h (by omega)) (fun _ => ?_)
        refine ga_aload_n (v := .ref 344) hm_50 rfl rfl rfl ?_
        have b60_ : 0 ≤ F43_ 344 5 ∧ F43_ 344 5 ≤ 600 := gi_g g44_ rfl
        refine ga_geti (z := F43_ 344 5) hm_50 rfl sc_344 rfl (rfl) ?_
        refine ga_aload_n (v := .ref 344) hm_50 rfl rfl rfl ?_
        have e61_ : F43_ 344 4 = K 1 6 - 1 := rk52_.2.1
        refine ga_geti (z := K 1 6 - 1) hm_50 rfl sc_344 rfl (e61_) ?_
        refine fl_icmp_ge (a := F43_ 344 5) (b := K 1 6 - 1) hm_50 rfl ⟨by omega, by omega⟩ ⟨by omega, by omega⟩ (fun h62_ => ?_) (fun h63_ => ?_)
        ·
          refine gr_v hm_50 rfl rfl ?_
          have b64_ : 0 ≤ F 344 9 ∧ F 344 9 ≤ 5 := gi_g hgi rfl
          have e65_ : F2 344 14 = Fg 344 14 := (hf_F2 344 14 rfl).trans (rfl)
          have e66_ : F43_ 344 14 = Fg 344 14 := (s45_ 344 14 rfl).trans (e65_)
          have b67_ : 0 ≤ Fg 344 14 ∧ Fg 344 14 ≤ 2565726408 := gi_g hg_Fg rfl
          have e68_ : F2 344 15 = Fg 344 15 := (hf_F2 344 15 rfl).trans (rfl)
          have e69_ : F43_ 344 15 = Fg 344 15 := (s45_ 344 15 rfl).trans (e68_)
          have b70_ : 0 ≤ Fg 344 15 ∧ Fg 344 15 ≤ 4 := gi_g hg_Fg rfl
          have e71_ : F2 344 17 = Fg 344 17 := (hf_F2 344 17 rfl).trans (rfl)
          have e72_ : F43_ 344 17 = Fg 344 17 := (s45_ 344 17 rfl).trans (e71_)
          have b73_ : 0 ≤ Fg 344 17 ∧ Fg 344 17 ≤ 6 := gi_g hg_Fg rfl
          have e74_ : F43_ 344 21 = F2 344 21 := (s45_ 344 21 rfl).trans (rfl)
          have b75_ : 0 ≤ F2 344 21 ∧ F2 344 21 ≤ 5 := gi_g hg_F2 rfl
          exact Or.inr (⟨F43_, rfl, g44_, g51_, (by omega), (⟨ts_, l, ps, al, by rw [hq_, sp_d3]; rw [hspa, sa_e (by omega) (by omega)]; simp only [pb_r]; rw [sp_close]; rw [c41_]; simp only [pb_r]; rw [sp_kind, if_pos ((rkt_p hkt (p := F43_ 344 5) (by omega) (by omega) hgK).2.2 (by omega)).2]; simp only [pb_r], (rpn_fs (rpn_fs hts_ hf_F2 (fun _ => (by first | exact fs_c rfl | exact (fs_n (by omega) (fs_n (by omega) (fs_n (by omega) (fs_n (by omega) (fs_n (by omega) rfl))))))) (by first | exact fs_c rfl | exact (fs_n (by omega) (fs_n (by omega) (fs_n (by omega) (fs_n (by omega) (fs_n (by omega) rfl))))))) s45_ (fun _ => (by first | exact fs_c rfl | exact (fs_n (by omega) (fs_n (by omega) rfl)))) (by first | exact fs_c rfl | exact (fs_n (by omega) (fs_n (by omega) rfl)))), (rpn_fs (rpn_fs hl1_ hf_F2 (fun _ => (by first | exact fs_c rfl | exact (fs_n (by omega) (fs_n (by omega) (fs_n (by omega) (fs_n (by omega) (fs_n (by omega) rfl))))))) (by first | exact fs_c rfl | exact (fs_n (by omega) (fs_n (by omega) (fs_n (by omega) (fs_n (by omega) (fs_n (by omega) rfl))))))) s45_ (fun _ => (by first | exact fs_c rfl | exact (fs_n (by omega) (fs_n (by omega) rfl)))) (by first | exact fs_c rfl | exact (fs_n (by omega) (fs_n (by omega) rfl)))), ⟨(rprd_fs (rprd_fs hps1.1 hf_F2 (by first | exact fs_rg rfl | exact fun r j hj => (fs_n (by omega) (fs_n (by omega) (fs_n (by omega) (fs_n (by omega) (fs_n (by omega) rfl))))))) s45_ (by first | exact fs_rg rfl | exact fun r j hj => (fs_n (by omega) (fs_n (by omega) rfl)))), hps1.2⟩, (rpn_fs hal s45_ (fun _ => (by first | exact fs_c rfl | exact (fs_n (by omega) (fs_n (by omega) rfl)))) (by first | exact fs_c rfl | exact (fs_n (by omega) (fs_n (by omega) rfl)))), by rw [show F43_ 344 14 = Fg 344 14 from (Eq.trans (a := F43_ 344 14) (b := F2 344 14) (s45_ 344 14 (by first | exact fs_c rfl | exact (fs_n (by omega) (fs_n (by omega) rfl)))) (show F2 344 14 = Fg 344 14 from (hf_F2 344 14 (by first | exact fs_c rfl | exact (fs_n (by omega) (fs_n (by omega) (fs_n (by omega) (fs_n (by omega) (fs_n (by omega) rfl)))))))))]; exact hnm_, (by rw [show dom_d K = D from hdd_.trans (hDd.trans (by rw [ad_e2 (by omega) (by omega), List.append_nil]))]; exact ⟨(rdar_fs hD s45_ (fun r k hr => (by first | exact fs_c rfl | exact (fs_n (by omega) (fs_n (by omega) rfl))))), by omega⟩)⟩), (⟨by omega, by omega⟩), (fun j hj => by rw [(show F43_ 357 j = F2 357 j from (s45_ 357 j (by first | exact fs_c rfl | exact (fs_n (by omega) (fs_n (by omega) rfl)))))]; exact hcs j (by have e9_ := e74_; omega))⟩)
        refine ga_aload_n (v := .ref 344) hm_50 rfl rfl rfl ?_
        refine fl_iconst hm_50 rfl ?_
        refine gVv (nY := 2) (F := 0) (L := 0) (As := [.int (Int32.ofInt 1)]) (b := 344) (rest := []) hm_50 rfl hm_54 rfl rfl (fl_ob sc_344) rfl rfl rfl rfl rfl (by omega) (by omega) (mc_54 hG F43_ X g44_ (K) (1) hgK rk52_ hkt (⟨by omega, by omega⟩) (⟨by omega, by omega⟩)) (fun _ _ h => False.elim h) ?_
        have b77_ : 0 ≤ F43_ 344 10 ∧ F43_ 344 10 ≤ 600 := gi_g g44_ rfl
        rintro A1_ ⟨F81_, hA_, g82_, s83_, c78_, c79_, c80_⟩
        subst hA_
        have g84_ : fs [(344, 344, 5, 5), (344, 344, 9, 10), (344, 344, 14, 15), (344, 344, 17, 17), (344, 344, 21, 21), (344, 344, 63, 63), (349, 363, 0, 100000), (383, 383, 0, 100000)] F F81_ := fs_tr g51_ s83_ rfl
        have rk85_ : rk K F81_ := rk_fs rk52_ s83_ (fs_rg rfl) rfl
        have c79_s := c79_.1 (by omega)
        clear c79_
        refine gr_v hm_50 rfl rfl ?_
        have b86_ : 0 ≤ F81_ 344 9 ∧ F81_ 344 9 ≤ 5 := gi_g g82_ rfl
        have e87_ : F81_ 344 5 = F43_ 344 5 := (s83_ 344 5 rfl).trans (rfl)
        have b88_ : 0 ≤ F81_ 344 10 ∧ F81_ 344 10 ≤ 600 := gi_g g82_ rfl
        have b89_ : 0 ≤ F 344 10 ∧ F 344 10 ≤ 600 := gi_g hgi rfl
        have b90_ : 0 ≤ F 344 9 ∧ F 344 9 ≤ 5 := gi_g hgi rfl
        exact Or.inl ⟨F81_, rfl, g82_, g84_, (by omega), (⟨by intro h0_; have hs_ := c79_s; rw [hq_, sp_d3]; rw [hspa, sa_e (by omega) (by omega)]; simp only [pb_r]; rw [sp_close]; rw [c41_]; simp only [pb_r]; rw [sp_kind, if_neg (hko.2.2 (F43_ 344 5) (by omega) (by omega)).1]; show Sum.inl (1, K 4 _) = _; congr 2 <;> omega, fun h0_ => by exfalso; omega⟩), (⟨by omega, by omega⟩)⟩
      exfalso; omega
    refine ga_aload_n (v := .ref 344) hm_50 rfl rfl rfl ?_
    refine gIi (nY := 1) (F := 0) (L := 0) (As := []) (b := 344) (rest := []) hm_50 rfl hm_59 rfl rfl (fl_ob sc_344) rfl rfl rfl rfl rfl (by omega) (by omega) ?_
    intro f91_ l92_ h93_ h94_
    show fl_R xi_ms 59 f91_ l92_ 0 [(0, .ref 344)] [] _ _
    refine ga_aload_n (v := .ref 344) hm_59 rfl rfl rfl ?_
    have b95_ : 0 ≤ F2 344 9 ∧ F2 344 9 ≤ 5 := gi_g hg_F2 rfl
    refine ga_geti (z := F2 344 9) hm_59 rfl sc_344 rfl (rfl) ?_
    refine fl_if_le (a := F2 344 9) hm_59 rfl ⟨by omega, by omega⟩ (fun h96_ => ?_) (fun h97_ => ?_)
    ·
      refine fl_iconst hm_59 rfl ?_
      refine gr_i hm_59 rfl rfl (ga_nb (by omega)) ?_
      clear h93_ h94_ f91_ l92_
      refine fl_if_ne hm_50 rfl ⟨by omega, by omega⟩ (fun h => absurd h (by omega)) (fun _ => ?_)
      refine ga_aload_n (v := .ref 344) hm_50 rfl rfl rfl ?_
      have b98_ : 0 ≤ F2 344 5 ∧ F2 344 5 ≤ 600 := gi_g hg_F2 rfl
      refine gVv (nY := 4) (F := 7) (L := 165) (As := []) (b := 344) (rest := []) hm_50 rfl hm_173 rfl rfl (fl_ob sc_344) rfl rfl rfl rfl rfl (by omega) (by omega) (mc_173 hG F2 X hg_F2 (K) (ts_) (l) (al) (ps) hgK rk27_ hkt (⟨by omega, by omega⟩) ((rpn_fs hts_ hf_F2 (fun _ => (by first | exact fs_c rfl | exact (fs_n (by omega) (fs_n (by omega) (fs_n (by omega) (fs_n (by omega) (fs_n (by omega) rfl))))))) (by first | exact fs_c rfl | exact (fs_n (by omega) (fs_n (by omega) (fs_n (by omega) (fs_n (by omega) (fs_n (by omega) rfl)))))))) (hal) ((rpn_fs hl1_ hf_F2 (fun _ => (by first | exact fs_c rfl | exact (fs_n (by omega) (fs_n (by omega) (fs_n (by omega) (fs_n (by omega) (fs_n (by omega) rfl))))))) (by first | exact fs_c rfl | exact (fs_n (by omega) (fs_n (by omega) (fs_n (by omega) (fs_n (by omega) (fs_n (by omega) rfl)))))))) (⟨(rprd_fs hps1.1 hf_F2 (by first | exact fs_rg rfl | exact fun r j hj => (fs_n (by omega) (fs_n (by omega) (fs_n (by omega) (fs_n (by omega) (fs_n (by omega) rfl))))))), hps1.2⟩)) (fun _ _ h => False.elim h) ?_
      have b100_ : 0 ≤ F2 344 10 ∧ F2 344 10 ≤ 600 := gi_g hg_F2 rfl
      have b101_ : 0 ≤ F2 344 21 ∧ F2 344 21 ≤ 5 := gi_g hg_F2 rfl
      rintro A1_ (⟨F105_, hA_, g106_, s107_, c102_, c103_, c104_⟩ | ⟨F115_, hA_, g116_, s117_, c108_, c109_, c110_, c111_, c112_, c113_, c114_⟩)
      ·
        subst hA_
        have g118_ : fs [(344, 344, 5, 5), (344, 344, 9, 10), (344, 344, 14, 15), (344, 344, 17, 17), (344, 344, 21, 21), (344, 344, 63, 63), (349, 363, 0, 100000), (383, 383, 0, 100000)] F F105_ := fs_tr g26_ s107_ rfl
        have rk119_ : rk K F105_ := rk_fs rk27_ s107_ (fs_rg rfl) rfl
        have c103_s := c103_.1 (by omega)
        clear c103_
        have b120_ : 0 ≤ F105_ 344 9 ∧ F105_ 344 9 ≤ 5 := gi_g g106_ rfl
        have b121_ : 0 ≤ F105_ 344 10 ∧ F105_ 344 10 ≤ 600 := gi_g g106_ rfl
        have b122_ : 0 ≤ F105_ 344 5 ∧ F105_ 344 5 ≤ 600 := gi_g g106_ rfl
        exact fl_R_sub (lv' := [(0, .ref 344)]) rfl rfl (mb_50_135 hG F X hgi K hgK hrk hkt hp h0 h5 h15 h17 h21 fr lo hfr hlo F105_ g106_ g118_ rk119_ (by omega) (⟨by omega, by omega⟩) (⟨by intro h0_; have hs_ := c103_s; rw [hq_, sp_d3]; rw [hspa, sa_f (by omega) (by omega) hs_]; try (show Sum.inl _ = _); try (congr 2 <;> omega), fun h0_ => by exfalso; omega⟩))
      subst hA_
      have g123_ : fs [(344, 344, 5, 5), (344, 344, 9, 10), (344, 344, 14, 15), (344, 344, 17, 17), (344, 344, 21, 21), (344, 344, 63, 63), (349, 363, 0, 100000), (383, 383, 0, 100000)] F F115_ := fs_tr g26_ s117_ rfl
      have rk124_ : rk K F115_ := rk_fs rk27_ s117_ (fs_rg rfl) rfl
      obtain ⟨ca_, ca1_, ca2_⟩ := c109_
      have ca3_ := ca2_.1
      rw [List.length_append, List.length_singleton] at ca3_
      refine ga_aload_n (v := .ref 344) hm_50 rfl rfl rfl ?_
      refine fl_bipush hm_50 rfl rfl ?_
      have b125_ : 0 ≤ F115_ 344 5 ∧ F115_ 344 5 ≤ 600 := gi_g g116_ rfl
      refine gVi (nY := 2) (F := 1) (L := 20) (As := [.int (Int32.ofInt 40)]) (b := 344) (rest := []) hm_50 rfl hm_52 rfl rfl (fl_ob sc_344) rfl rfl rfl rfl rfl (by omega) (by omega) (mc_52 hG F115_ X g116_ (K) (40) hgK rk124_ hkt (⟨by omega, by omega⟩) (by omega)) (fun _ _ h => False.elim h) ?_
      have b127_ : 0 ≤ F115_ 344 9 ∧ F115_ 344 9 ≤ 5 := gi_g g116_ rfl
      rintro z126_ A1_ (⟨hA_, hz_, c128_⟩ | ⟨hA_, hz_, c129_, c130_⟩)
      ·
        subst hA_
        subst hz_
        refine ga_istore_n (lv2 := [(1, .int (Int32.ofInt 0)), (0, .ref 344)]) hm_50 rfl (Nat.le_of_ble_eq_true rfl) rfl ?_
        refine fl_goto hm_50 rfl ?_
        have b131_ : 0 ≤ F115_ 344 21 ∧ F115_ 344 21 ≤ 5 := gi_g g116_ rfl
        have b132_ : 0 ≤ K 1 6 ∧ K 1 6 ≤ 601 := gi_g hgK rfl
        exact ih23_ _ (by omega) (0) (_) ((D ++ [act_d K ts_ l ps (F2 344 5)])) F115_ rfl g116_ (fs_tr hf_F2 s117_ rfl) (by omega) (ca2_) (Or.inr ⟨rfl, by simp only [List.length_append, List.length_singleton]; omega, by omega⟩) (⟨by omega, by omega⟩) (cs_step hcs c111_ c112_) (by rw [hspa]; exact sa_step (by omega) (by omega) ca1_ (by simp)) (by have h9_ := c112_.2; simp only [List.length_append, List.length_singleton]; omega) (rdar_add hD hg_F2 (by omega) (by omega) c113_ (Nat.le_refl _) c114_) (by rw [hDd, ad_s2 (by omega) (by omega) ca1_ (by simp), List.append_cons])
      subst hA_
      subst hz_
      refine ga_istore_n (lv2 := [(1, .int (Int32.ofInt 1)), (0, .ref 344)]) hm_50 rfl (Nat.le_of_ble_eq_true rfl) rfl ?_
      refine fl_goto hm_50 rfl ?_
      have b133_ : 0 ≤ F115_ 344 21 ∧ F115_ 344 21 ≤ 5 := gi_g g116_ rfl
      have b134_ : 0 ≤ K 1 6 ∧ K 1 6 ≤ 601 := gi_g hgK rfl
      exact ih23_ _ (by omega) (1) (_) ((D ++ [act_d K ts_ l ps (F2 344 5)])) F115_ rfl g116_ (fs_tr hf_F2 s117_ rfl) (by omega) (ca2_) (Or.inl ⟨rfl, Or.inr (by omega)⟩) (⟨by omega, by omega⟩) (cs_step hcs c111_ c112_) (by rw [hspa]; exact sa_step (by omega) (by omega) ca1_ (by simp)) (by have h9_ := c112_.2; simp only [List.length_append, List.length_singleton]; omega) (rdar_add hD hg_F2 (by omega) (by omega) c113_ (Nat.le_refl _) c114_) (by rw [hDd, ad_s2 (by omega) (by omega) ca1_ (by simp), List.append_cons])
    exfalso; omega
  have b135_ : 0 ≤ Fg 344 9 ∧ Fg 344 9 ≤ 5 := gi_g hg_Fg rfl
  have b136_ : 0 ≤ Fg 344 21 ∧ Fg 344 21 ≤ 5 := gi_g hg_Fg rfl
  have b137_ : 0 ≤ K 1 6 ∧ K 1 6 ≤ 601 := gi_g hgK rfl
  exact L22_ _ (1) ([]) ([]) Fg rfl hg_Fg fs_refl (by omega) (rpn_0 (h21g)) (Or.inl ⟨rfl, Or.inl rfl⟩) (⟨by omega, by omega⟩) (fun j hj => absurd hj (by omega)) (rfl) (by simp; omega) (rdar_nil) (rfl)
set_option maxHeartbeats 16000000 in
theorem mg_50_80 {G : Nat → Nat → Option Nat} (hG : gg G) (F : fl_N) (X : xi_H) (hgi : gi F) (K : fl_N) (hgK : gi K) (hrk : rk K F) (hkt : rkt K) (hp : 0 ≤ F 344 5 ∧ F 344 5 ≤ K 1 6 - 1) (h0 : F 344 9 = 0) (h5 : F 344 5 = 0) (h15 : F 344 15 = 0) (h17 : F 344 17 = 0) (h21 : F 344 21 = 0) (fr lo : Nat) (hfr : 8 ≤ fr) (hlo : 188 ≤ lo) (Fg : fl_N) (ts_ : List Int) (hg_Fg : gi Fg) (hf_Fg : fs [(344, 344, 5, 5), (344, 344, 9, 10), (344, 344, 14, 15), (344, 344, 17, 17), (344, 344, 21, 21), (344, 344, 63, 63), (349, 363, 0, 100000), (383, 383, 0, 100000)] F Fg) (hrk_g : rk K Fg) (h0g : Fg 344 9 = 0 ∧ F 344 9 = 0) (hp_g : 0 ≤ Fg 344 5 ∧ Fg 344 5 ≤ K 1 6 - 1) (hq_ : sp_dom K = sp_d2 K ts_ (Fg 344 5)) (hts_ : rpn (Fg 349) (Fg 344 15) ts_) (h17g : Fg 344 17 = 0) (h21g : Fg 344 21 = 0) (hnm_ : nrel (sp_dnm K) (Fg 344 14)) (hhd_ : sp_head K = sp_h2 K ts_ (Fg 344 5)) : fl_R xi_ms 50 fr lo 80 [(0, .ref 344)] [] (fl_H sh_T G Fg ++ X) (pq_50 G F X K) := by
  have hP := (rkt_p hkt hp.1 hp.2 hgK).1
  have hK16 : 0 ≤ K 1 6 ∧ K 1 6 ≤ 601 := gi_g hgK rfl
  have hko := hkt.1
  refine ga_aload_n (v := .ref 344) hm_50 rfl rfl rfl ?_
  refine fl_iconst hm_50 rfl ?_
  have b21_ : 0 ≤ Fg 344 5 ∧ Fg 344 5 ≤ 600 := gi_g hg_Fg rfl
  refine gVv (nY := 2) (F := 2) (L := 44) (As := [.int (Int32.ofInt 3)]) (b := 344) (rest := []) hm_50 rfl hm_55 rfl rfl (fl_ob sc_344) rfl rfl rfl rfl rfl (by omega) (by omega) (mc_55 hG Fg X hg_Fg (K) (3) ([58, 112, 114, 101, 100, 105, 99, 97, 116, 101, 115]) hgK hrk_g hkt (⟨by omega, by omega⟩) (⟨by omega, by omega⟩) (by decide) (kw_3 hrk_g)) (fun _ _ h => False.elim h) ?_
  have b23_ : 0 ≤ Fg 344 10 ∧ Fg 344 10 ≤ 600 := gi_g hg_Fg rfl
  have b24_ : 0 ≤ Fg 344 9 ∧ Fg 344 9 ≤ 5 := gi_g hg_Fg rfl
  rintro A1_ (⟨F28_, hA_, g29_, s30_, c25_, c26_, c27_⟩ | ⟨F34_, hA_, g35_, s36_, c31_, c32_, c33_⟩)
  ·
    subst hA_
    have g37_ : fs [(344, 344, 5, 5), (344, 344, 9, 10), (344, 344, 14, 15), (344, 344, 17, 17), (344, 344, 21, 21), (344, 344, 63, 63), (349, 363, 0, 100000), (383, 383, 0, 100000)] F F28_ := fs_tr hf_Fg s30_ rfl
    have rk38_ : rk K F28_ := rk_fs hrk_g s30_ (fs_rg rfl) rfl
    have c26_s := c26_.1 (by omega)
    clear c26_
    have b39_ : 0 ≤ F28_ 344 9 ∧ F28_ 344 9 ≤ 5 := gi_g g29_ rfl
    have b40_ : 0 ≤ F28_ 344 10 ∧ F28_ 344 10 ≤ 600 := gi_g g29_ rfl
    have b41_ : 0 ≤ F28_ 344 5 ∧ F28_ 344 5 ≤ 600 := gi_g g29_ rfl
    exact mb_50_85 hG F X hgi K hgK hrk hkt hp h0 h5 h15 h17 h21 fr lo hfr hlo F28_ g29_ g37_ rk38_ (by omega) (⟨by omega, by omega⟩) (⟨by intro h0_; have hs_ := c26_s; rw [hq_, sp_d2, sp_rpreds]; rw [hs_]; try (show Sum.inl _ = _); try (congr 2 <;> omega), fun h0_ => by exfalso; omega⟩)
  subst hA_
  have g42_ : fs [(344, 344, 5, 5), (344, 344, 9, 10), (344, 344, 14, 15), (344, 344, 17, 17), (344, 344, 21, 21), (344, 344, 63, 63), (349, 363, 0, 100000), (383, 383, 0, 100000)] F F34_ := fs_tr hf_Fg s36_ rfl
  have rk43_ : rk K F34_ := rk_fs hrk_g s36_ (fs_rg rfl) rfl
  refine fl_iconst hm_50 rfl ?_
  refine ga_istore_n (lv2 := [(1, .int (Int32.ofInt 1)), (0, .ref 344)]) hm_50 rfl (Nat.le_of_ble_eq_true rfl) rfl ?_
  have b47_ : 0 ≤ F34_ 344 5 ∧ F34_ 344 5 ≤ 600 := gi_g g35_ rfl
  have L45_ : ∀ (n44_ : Nat) (mo : Int) (l : List Int) (ps : List (List Int)) (F1 : fl_N), (7 - F1 344 17 : Int).toNat = n44_ → (gi F1) → (fs [(344, 344, 5, 5), (344, 344, 9, 10), (344, 344, 17, 17), (350, 352, 0, 100000), (383, 383, 0, 100000)] F34_ F1) → (F1 344 9 = 0) → (rpn (F1 350) (F1 344 17) l) → (rprd F1 ps ∧ ps.length = l.length) → ((mo = 1 ∧ ((l.length : Int) = 0 ∨ K 3 (F1 344 5).toNat = 0)) ∨ (mo = 0 ∧ 0 < (l.length : Int) ∧ ¬ K 3 (F1 344 5).toNat = 0)) → (0 ≤ F1 344 5 ∧ F1 344 5 ≤ K 1 6 - 1) → (sp_preds K ts_ 6 [] [] (F34_ 344 5) = sp_preds K ts_ (6 - l.length) l ps (F1 344 5)) → fl_R xi_ms 50 fr lo 87 [(1, .int (Int32.ofInt mo)), (0, .ref 344)] [] (fl_H sh_T G F1 ++ X) (pq_50 G F X K) := by
    intro n44_
    induction n44_ using Nat.strongRecOn with
    | ind n44_ ih46_ =>
    intro mo l ps F1 hn48_ hg_F1 hf_F1 hk hl hps1 hmo hp1 hspq
    have g49_ : fs [(344, 344, 5, 5), (344, 344, 9, 10), (344, 344, 14, 15), (344, 344, 17, 17), (344, 344, 21, 21), (344, 344, 63, 63), (349, 363, 0, 100000), (383, 383, 0, 100000)] F F1 := fs_tr g42_ hf_F1 rfl
    have rk50_ : rk K F1 := rk_fs rk43_ hf_F1 (fs_rg rfl) rfl
    have hl1 := hl.1
    have hP1 := (rkt_p hkt (p := F1 344 5) (by omega) (by omega) hgK).1
    have hb17 : 0 ≤ F1 344 17 ∧ F1 344 17 ≤ 6 := gi_g hg_F1 rfl
    refine ga_iload_n (z := mo) hm_50 rfl rfl ?_
    refine fl_if_eq (a := mo) hm_50 rfl ⟨by omega, by omega⟩ (fun h51_ => ?_) (fun h52_ => ?_)
    ·
      refine ga_aload_n (v := .ref 344) hm_50 rfl rfl rfl ?_
      refine fl_bipush hm_50 rfl rfl ?_
      have b53_ : 0 ≤ F1 344 5 ∧ F1 344 5 ≤ 600 := gi_g hg_F1 rfl
      refine gVv (nY := 2) (F := 2) (L := 41) (As := [.int (Int32.ofInt 41)]) (b := 344) (rest := []) hm_50 rfl hm_51 rfl rfl (fl_ob sc_344) rfl rfl rfl rfl rfl (by omega) (by omega) (mc_51 hG F1 X hg_F1 (K) (41) (1) hgK rk50_ hkt (⟨by omega, by omega⟩) (by omega) (by omega)) (fun _ _ h => False.elim h) ?_
      have b55_ : 0 ≤ F1 344 10 ∧ F1 344 10 ≤ 600 := gi_g hg_F1 rfl
      have b56_ : 0 ≤ F1 344 9 ∧ F1 344 9 ≤ 5 := gi_g hg_F1 rfl
      rintro A1_ (⟨F60_, hA_, g61_, s62_, c57_, c58_, c59_⟩ | ⟨F66_, hA_, g67_, s68_, c63_, c64_, c65_⟩)
      ·
        subst hA_
        have g69_ : fs [(344, 344, 5, 5), (344, 344, 9, 10), (344, 344, 14, 15), (344, 344, 17, 17), (344, 344, 21, 21), (344, 344, 63, 63), (349, 363, 0, 100000), (383, 383, 0, 100000)] F F60_ := fs_tr g49_ s62_ rfl
        have rk70_ : rk K F60_ := rk_fs rk50_ s62_ (fs_rg rfl) rfl
        have c58_s := c58_.1 (by omega)
        clear c58_
        have b71_ : 0 ≤ F60_ 344 9 ∧ F60_ 344 9 ≤ 5 := gi_g g61_ rfl
        have b72_ : 0 ≤ F60_ 344 10 ∧ F60_ 344 10 ≤ 600 := gi_g g61_ rfl
        have b73_ : 0 ≤ F60_ 344 5 ∧ F60_ 344 5 ≤ 600 := gi_g g61_ rfl
        exact fl_R_sub (lv' := [(0, .ref 344)]) rfl rfl (mb_50_118 hG F X hgi K hgK hrk hkt hp h0 h5 h15 h17 h21 fr lo hfr hlo F60_ g61_ g69_ rk70_ (by omega) (⟨by omega, by omega⟩) (⟨by intro h0_; have hs_ := c58_s; rw [hq_, sp_d2, sp_rpreds]; rw [c32_]; simp only [pb_r]; rw [hspq, sq_e (by omega) (by omega)]; simp only [pb_r]; rw [hs_]; try (show Sum.inl _ = _); try (congr 2 <;> omega), fun h0_ => by exfalso; omega⟩))
      subst hA_
      have g74_ : fs [(344, 344, 5, 5), (344, 344, 9, 10), (344, 344, 14, 15), (344, 344, 17, 17), (344, 344, 21, 21), (344, 344, 63, 63), (349, 363, 0, 100000), (383, 383, 0, 100000)] F F66_ := fs_tr g49_ s68_ rfl
      have rk75_ : rk K F66_ := rk_fs rk50_ s68_ (fs_rg rfl) rfl
      have b76_ : 0 ≤ F66_ 344 9 ∧ F66_ 344 9 ≤ 5 := gi_g g67_ rfl
      have b77_ : 0 ≤ F66_ 344 10 ∧ F66_ 344 10 ≤ 600 := gi_g g67_ rfl
      have b78_ : 0 ≤ F66_ 344 5 ∧ F66_ 344 5 ≤ 600 := gi_g g67_ rfl
      have e79_ : F34_ 344 21 = Fg 344 21 := (s36_ 344 21 rfl).trans (rfl)
      have e80_ : F1 344 21 = Fg 344 21 := (hf_F1 344 21 rfl).trans (e79_)
      have e81_ : F66_ 344 21 = Fg 344 21 := (s68_ 344 21 rfl).trans (e80_)
      have b82_ : 0 ≤ Fg 344 21 ∧ Fg 344 21 ≤ 5 := gi_g hg_Fg rfl
      exact fl_R_sub (lv' := [(0, .ref 344)]) rfl rfl (mg_50_118 hG F X hgi K hgK hrk hkt hp h0 h5 h15 h17 h21 fr lo hfr hlo F66_ (ts_) (l) (ps) g67_ g74_ rk75_ ⟨by omega, by omega⟩ ⟨by omega, by omega⟩ (by rw [hq_, sp_d2, sp_rpreds]; rw [c32_]; simp only [pb_r]; rw [hspq, sq_e (by omega) (by omega)]; simp only [pb_r]; rw [c64_]; simp only [pb_r]; rfl) ((rpn_fs (rpn_fs (rpn_fs hts_ s36_ (fun _ => (by first | exact fs_c rfl | exact (fs_n (by omega) (fs_n (by omega) rfl)))) (by first | exact fs_c rfl | exact (fs_n (by omega) (fs_n (by omega) rfl)))) hf_F1 (fun _ => (by first | exact fs_c rfl | exact (fs_n (by omega) (fs_n (by omega) (fs_n (by omega) (fs_n (by omega) (fs_n (by omega) rfl))))))) (by first | exact fs_c rfl | exact (fs_n (by omega) (fs_n (by omega) (fs_n (by omega) (fs_n (by omega) (fs_n (by omega) rfl))))))) s68_ (fun _ => (by first | exact fs_c rfl | exact (fs_n (by omega) (fs_n (by omega) rfl)))) (by first | exact fs_c rfl | exact (fs_n (by omega) (fs_n (by omega) rfl))))) (by omega) ((rpn_fs hl s68_ (fun _ => (by first | exact fs_c rfl | exact (fs_n (by omega) (fs_n (by omega) rfl)))) (by first | exact fs_c rfl | exact (fs_n (by omega) (fs_n (by omega) rfl))))) (⟨(rprd_fs hps1.1 s68_ (by first | exact fs_rg rfl | exact fun r j hj => (fs_n (by omega) (fs_n (by omega) rfl)))), hps1.2⟩) (by rw [show F66_ 344 14 = Fg 344 14 from (Eq.trans (a := F66_ 344 14) (b := F1 344 14) (s68_ 344 14 (by first | exact fs_c rfl | exact (fs_n (by omega) (fs_n (by omega) rfl)))) (Eq.trans (a := F1 344 14) (b := F34_ 344 14) (hf_F1 344 14 (by first | exact fs_c rfl | exact (fs_n (by omega) (fs_n (by omega) (fs_n (by omega) (fs_n (by omega) (fs_n (by omega) rfl))))))) (show F34_ 344 14 = Fg 344 14 from (s36_ 344 14 (by first | exact fs_c rfl | exact (fs_n (by omega) (fs_n (by omega) rfl)))))))]; exact hnm_) (dom_dd (by rw [hhd_, sp_h2, sp_rpreds]; rw [c32_]; simp only [pb_r]; rw [hspq, sq_e (by omega) (by omega)]; simp only [pb_r]; rw [c64_]; simp only [pb_r]; try rfl)))
    refine ga_aload_n (v := .ref 344) hm_50 rfl rfl rfl ?_
    refine gIi (nY := 1) (F := 0) (L := 0) (As := []) (b := 344) (rest := []) hm_50 rfl hm_59 rfl rfl (fl_ob sc_344) rfl rfl rfl rfl rfl (by omega) (by omega) ?_
    intro f83_ l84_ h85_ h86_
    show fl_R xi_ms 59 f83_ l84_ 0 [(0, .ref 344)] [] _ _
    refine ga_aload_n (v := .ref 344) hm_59 rfl rfl rfl ?_
    have b87_ : 0 ≤ F1 344 9 ∧ F1 344 9 ≤ 5 := gi_g hg_F1 rfl
    refine ga_geti (z := F1 344 9) hm_59 rfl sc_344 rfl (rfl) ?_
    refine fl_if_le (a := F1 344 9) hm_59 rfl ⟨by omega, by omega⟩ (fun h88_ => ?_) (fun h89_ => ?_)
    ·
      refine fl_iconst hm_59 rfl ?_
      refine gr_i hm_59 rfl rfl (ga_nb (by omega)) ?_
      clear h85_ h86_ f83_ l84_
      refine fl_if_ne hm_50 rfl ⟨by omega, by omega⟩ (fun h => absurd h (by omega)) (fun _ => ?_)
      refine ga_aload_n (v := .ref 344) hm_50 rfl rfl rfl ?_
      have b90_ : 0 ≤ F1 344 5 ∧ F1 344 5 ≤ 600 := gi_g hg_F1 rfl
      refine gVv (nY := 3) (F := 5) (L := 112) (As := []) (b := 344) (rest := []) hm_50 rfl hm_182 rfl rfl (fl_ob sc_344) rfl rfl rfl rfl rfl (by omega) (by omega) (mc_182 hG F1 X hg_F1 (K) (ts_) (l) (ps) hgK rk50_ hkt (⟨by omega, by omega⟩) ((rpn_fs (rpn_fs hts_ s36_ (fun _ => (by first | exact fs_c rfl | exact (fs_n (by omega) (fs_n (by omega) rfl)))) (by first | exact fs_c rfl | exact (fs_n (by omega) (fs_n (by omega) rfl)))) hf_F1 (fun _ => (by first | exact fs_c rfl | exact (fs_n (by omega) (fs_n (by omega) (fs_n (by omega) (fs_n (by omega) (fs_n (by omega) rfl))))))) (by first | exact fs_c rfl | exact (fs_n (by omega) (fs_n (by omega) (fs_n (by omega) (fs_n (by omega) (fs_n (by omega) rfl)))))))) (hl) (hps1)) (fun _ _ h => False.elim h) ?_
      have b92_ : 0 ≤ F1 344 10 ∧ F1 344 10 ≤ 600 := gi_g hg_F1 rfl
      rintro A1_ (⟨F96_, hA_, g97_, s98_, c93_, c94_, c95_⟩ | ⟨F102_, hA_, g103_, s104_, c99_, c100_, c101_⟩)
      ·
        subst hA_
        have g105_ : fs [(344, 344, 5, 5), (344, 344, 9, 10), (344, 344, 14, 15), (344, 344, 17, 17), (344, 344, 21, 21), (344, 344, 63, 63), (349, 363, 0, 100000), (383, 383, 0, 100000)] F F96_ := fs_tr g49_ s98_ rfl
        have rk106_ : rk K F96_ := rk_fs rk50_ s98_ (fs_rg rfl) rfl
        have c94_s := c94_.1 (by omega)
        clear c94_
        have b107_ : 0 ≤ F96_ 344 9 ∧ F96_ 344 9 ≤ 5 := gi_g g97_ rfl
        have b108_ : 0 ≤ F96_ 344 10 ∧ F96_ 344 10 ≤ 600 := gi_g g97_ rfl
        have b109_ : 0 ≤ F96_ 344 5 ∧ F96_ 344 5 ≤ 600 := gi_g g97_ rfl
        exact fl_R_sub (lv' := [(0, .ref 344)]) rfl rfl (mb_50_102 hG F X hgi K hgK hrk hkt hp h0 h5 h15 h17 h21 fr lo hfr hlo F96_ g97_ g105_ rk106_ (by omega) (⟨by omega, by omega⟩) (⟨by intro h0_; have hs_ := c94_s; rw [hq_, sp_d2, sp_rpreds]; rw [c32_]; simp only [pb_r]; rw [hspq, sq_f (by omega) (by omega) hs_]; try (show Sum.inl _ = _); try (congr 2 <;> omega), fun h0_ => by exfalso; omega⟩))
      subst hA_
      have g110_ : fs [(344, 344, 5, 5), (344, 344, 9, 10), (344, 344, 14, 15), (344, 344, 17, 17), (344, 344, 21, 21), (344, 344, 63, 63), (349, 363, 0, 100000), (383, 383, 0, 100000)] F F102_ := fs_tr g49_ s104_ rfl
      have rk111_ : rk K F102_ := rk_fs rk50_ s104_ (fs_rg rfl) rfl
      obtain ⟨cq_, tq_, cq1_, cq2_, cq3_⟩ := c100_
      have cq4_ := cq2_.1
      rw [List.length_append, List.length_singleton] at cq4_
      refine ga_aload_n (v := .ref 344) hm_50 rfl rfl rfl ?_
      refine fl_bipush hm_50 rfl rfl ?_
      have b112_ : 0 ≤ F102_ 344 5 ∧ F102_ 344 5 ≤ 600 := gi_g g103_ rfl
      refine gVi (nY := 2) (F := 1) (L := 20) (As := [.int (Int32.ofInt 40)]) (b := 344) (rest := []) hm_50 rfl hm_52 rfl rfl (fl_ob sc_344) rfl rfl rfl rfl rfl (by omega) (by omega) (mc_52 hG F102_ X g103_ (K) (40) hgK rk111_ hkt (⟨by omega, by omega⟩) (by omega)) (fun _ _ h => False.elim h) ?_
      have b114_ : 0 ≤ F102_ 344 9 ∧ F102_ 344 9 ≤ 5 := gi_g g103_ rfl
      rintro z113_ A1_ (⟨hA_, hz_, c115_⟩ | ⟨hA_, hz_, c116_, c117_⟩)
      ·
        subst hA_
        subst hz_
        refine ga_istore_n (lv2 := [(1, .int (Int32.ofInt 0)), (0, .ref 344)]) hm_50 rfl (Nat.le_of_ble_eq_true rfl) rfl ?_
        refine fl_goto hm_50 rfl ?_
        have b118_ : 0 ≤ F102_ 344 17 ∧ F102_ 344 17 ≤ 6 := gi_g g103_ rfl
        have b119_ : 0 ≤ F1 344 17 ∧ F1 344 17 ≤ 6 := gi_g hg_F1 rfl
        have b120_ : 0 ≤ K 1 6 ∧ K 1 6 ≤ 601 := gi_g hgK rfl
        exact ih46_ _ (by omega) (0) (_) (_) F102_ rfl g103_ (fs_tr hf_F1 s104_ rfl) (by omega) (cq2_) (cq3_) (Or.inr ⟨rfl, by simp only [List.length_append, List.length_singleton]; omega, by omega⟩) (⟨by omega, by omega⟩) (by rw [hspq]; exact sq_step (by omega) (by omega) cq1_ (by simp))
      subst hA_
      subst hz_
      refine ga_istore_n (lv2 := [(1, .int (Int32.ofInt 1)), (0, .ref 344)]) hm_50 rfl (Nat.le_of_ble_eq_true rfl) rfl ?_
      refine fl_goto hm_50 rfl ?_
      have b121_ : 0 ≤ F102_ 344 17 ∧ F102_ 344 17 ≤ 6 := gi_g g103_ rfl
      have b122_ : 0 ≤ F1 344 17 ∧ F1 344 17 ≤ 6 := gi_g hg_F1 rfl
      have b123_ : 0 ≤ K 1 6 ∧ K 1 6 ≤ 601 := gi_g hgK rfl
      exact ih46_ _ (by omega) (1) (_) (_) F102_ rfl g103_ (fs_tr hf_F1 s104_ rfl) (by omega) (cq2_) (cq3_) (Or.inl ⟨rfl, Or.inr (by omega)⟩) (⟨by omega, by omega⟩) (by rw [hspq]; exact sq_step (by omega) (by omega) cq1_ (by simp))
    exfalso; omega
  have b124_ : 0 ≤ F34_ 344 9 ∧ F34_ 344 9 ≤ 5 := gi_g g35_ rfl
  have e125_ : F34_ 344 17 = Fg 344 17 := (s36_ 344 17 rfl).trans (rfl)
  have b126_ : 0 ≤ Fg 344 17 ∧ Fg 344 17 ≤ 6 := gi_g hg_Fg rfl
  have b127_ : 0 ≤ K 1 6 ∧ K 1 6 ≤ 601 := gi_g hgK rfl
  exact L45_ _ (1) ([]) ([]) F34_ rfl g35_ fs_refl (by omega) (rpn_0 (by rw [e125_]; exact h17g)) (⟨fun i hi => by simp at hi, rfl⟩) (Or.inl ⟨rfl, Or.inl rfl⟩) (⟨by omega, by omega⟩) (rfl)
set_option maxHeartbeats 16000000 in
theorem mc_50 {G : Nat → Nat → Option Nat} (hG : gg G) (F : fl_N) (X : xi_H) (hgi : gi F) (K : fl_N) (hgK : gi K) (hrk : rk K F) (hkt : rkt K) (hp : 0 ≤ F 344 5 ∧ F 344 5 ≤ K 1 6 - 1) (h0 : F 344 9 = 0) (h5 : F 344 5 = 0) (h15 : F 344 15 = 0) (h17 : F 344 17 = 0) (h21 : F 344 21 = 0) : fl_M xi_ms 50 8 188 [.ref 344] (fl_H sh_T G F ++ X) (pq_50 G F X K) := by
  intro fr lo hfr hlo
  show fl_R xi_ms 50 fr lo 0 [(0, .ref 344)] [] _ _
  have hP := (rkt_p hkt hp.1 hp.2 hgK).1
  have hK16 : 0 ≤ K 1 6 ∧ K 1 6 ≤ 601 := gi_g hgK rfl
  have hko := hkt.1
  have h0_9 := h0
  refine ga_aload_n (v := .ref 344) hm_50 rfl rfl rfl ?_
  refine fl_bipush hm_50 rfl rfl ?_
  have b1_ : 0 ≤ F 344 5 ∧ F 344 5 ≤ 600 := gi_g hgi rfl
  refine gVv (nY := 2) (F := 2) (L := 41) (As := [.int (Int32.ofInt 40)]) (b := 344) (rest := []) hm_50 rfl hm_51 rfl rfl (fl_ob sc_344) rfl rfl rfl rfl rfl (by omega) (by omega) (mc_51 hG F X hgi (K) (40) (0) hgK hrk hkt (⟨by omega, by omega⟩) (by omega) (by omega)) (fun _ _ h => False.elim h) ?_
  have b3_ : 0 ≤ F 344 10 ∧ F 344 10 ≤ 600 := gi_g hgi rfl
  have b4_ : 0 ≤ F 344 9 ∧ F 344 9 ≤ 5 := gi_g hgi rfl
  rintro A1_ (⟨F8_, hA_, g9_, s10_, c5_, c6_, c7_⟩ | ⟨F14_, hA_, g15_, s16_, c11_, c12_, c13_⟩)
  ·
    subst hA_
    have g17_ : fs [(344, 344, 5, 5), (344, 344, 9, 10), (344, 344, 14, 15), (344, 344, 17, 17), (344, 344, 21, 21), (344, 344, 63, 63), (349, 363, 0, 100000), (383, 383, 0, 100000)] F F8_ := fs_tr fs_refl s10_ rfl
    have rk18_ : rk K F8_ := rk_fs hrk s10_ (fs_rg rfl) rfl
    have c6_s := c6_.1 (by omega)
    clear c6_
    have b19_ : 0 ≤ F8_ 344 9 ∧ F8_ 344 9 ≤ 5 := gi_g g9_ rfl
    have b20_ : 0 ≤ F8_ 344 10 ∧ F8_ 344 10 ≤ 600 := gi_g g9_ rfl
    have b21_ : 0 ≤ F8_ 344 5 ∧ F8_ 344 5 ≤ 600 := gi_g g9_ rfl
    exact mb_50_6 hG F X hgi K hgK hrk hkt hp h0 h5 h15 h17 h21 fr lo hfr hlo F8_ g9_ g17_ rk18_ (by omega) (⟨by omega, by omega⟩) (⟨by intro h0_; have hs_ := c6_s; rw [sp_dom, sp_open]; rw [h5] at hs_; rw [hs_]; try (show Sum.inl _ = _); try (congr 2 <;> omega), fun h0_ => by exfalso; omega⟩)
  subst hA_
  have g22_ : fs [(344, 344, 5, 5), (344, 344, 9, 10), (344, 344, 14, 15), (344, 344, 17, 17), (344, 344, 21, 21), (344, 344, 63, 63), (349, 363, 0, 100000), (383, 383, 0, 100000)] F F14_ := fs_tr fs_refl s16_ rfl
  have rk23_ : rk K F14_ := rk_fs hrk s16_ (fs_rg rfl) rfl
  refine ga_aload_n (v := .ref 344) hm_50 rfl rfl rfl ?_
  refine fl_iconst hm_50 rfl ?_
  have b24_ : 0 ≤ F14_ 344 5 ∧ F14_ 344 5 ≤ 600 := gi_g g15_ rfl
  refine gVv (nY := 2) (F := 2) (L := 44) (As := [.int (Int32.ofInt 0)]) (b := 344) (rest := []) hm_50 rfl hm_55 rfl rfl (fl_ob sc_344) rfl rfl rfl rfl rfl (by omega) (by omega) (mc_55 hG F14_ X g15_ (K) (0) ([100, 101, 102, 105, 110, 101]) hgK rk23_ hkt (⟨by omega, by omega⟩) (⟨by omega, by omega⟩) (by decide) (kw_0 rk23_)) (fun _ _ h => False.elim h) ?_
  have b26_ : 0 ≤ F14_ 344 10 ∧ F14_ 344 10 ≤ 600 := gi_g g15_ rfl
  have b27_ : 0 ≤ F14_ 344 9 ∧ F14_ 344 9 ≤ 5 := gi_g g15_ rfl
  rintro A1_ (⟨F31_, hA_, g32_, s33_, c28_, c29_, c30_⟩ | ⟨F37_, hA_, g38_, s39_, c34_, c35_, c36_⟩)
  ·
    subst hA_
    have g40_ : fs [(344, 344, 5, 5), (344, 344, 9, 10), (344, 344, 14, 15), (344, 344, 17, 17), (344, 344, 21, 21), (344, 344, 63, 63), (349, 363, 0, 100000), (383, 383, 0, 100000)] F F31_ := fs_tr g22_ s33_ rfl
    have rk41_ : rk K F31_ := rk_fs rk23_ s33_ (fs_rg rfl) rfl
    have c29_s := c29_.1 (by omega)
    clear c29_
    have b42_ : 0 ≤ F31_ 344 9 ∧ F31_ 344 9 ≤ 5 := gi_g g32_ rfl
    have b43_ : 0 ≤ F31_ 344 10 ∧ F31_ 344 10 ≤ 600 := gi_g g32_ rfl
    have b44_ : 0 ≤ F31_ 344 5 ∧ F31_ 344 5 ≤ 600 := gi_g g32_ rfl
    exact mb_50_11 hG F X hgi K hgK hrk hkt hp h0 h5 h15 h17 h21 fr lo hfr hlo F31_ g32_ g40_ rk41_ (by omega) (⟨by omega, by omega⟩) (⟨by intro h0_; have hs_ := c29_s; rw [sp_dom, sp_open]; rw [(congrArg (sp_kind K 0) h5.symm).trans c12_]; simp only [pb_r]; rw [hs_]; try (show Sum.inl _ = _); try (congr 2 <;> omega), fun h0_ => by exfalso; omega⟩)
  subst hA_
  have g45_ : fs [(344, 344, 5, 5), (344, 344, 9, 10), (344, 344, 14, 15), (344, 344, 17, 17), (344, 344, 21, 21), (344, 344, 63, 63), (349, 363, 0, 100000), (383, 383, 0, 100000)] F F37_ := fs_tr g22_ s39_ rfl
  have rk46_ : rk K F37_ := rk_fs rk23_ s39_ (fs_rg rfl) rfl
  refine ga_aload_n (v := .ref 344) hm_50 rfl rfl rfl ?_
  refine fl_bipush hm_50 rfl rfl ?_
  have b47_ : 0 ≤ F37_ 344 5 ∧ F37_ 344 5 ≤ 600 := gi_g g38_ rfl
  refine gVv (nY := 2) (F := 2) (L := 41) (As := [.int (Int32.ofInt 40)]) (b := 344) (rest := []) hm_50 rfl hm_51 rfl rfl (fl_ob sc_344) rfl rfl rfl rfl rfl (by omega) (by omega) (mc_51 hG F37_ X g38_ (K) (40) (0) hgK rk46_ hkt (⟨by omega, by omega⟩) (by omega) (by omega)) (fun _ _ h => False.elim h) ?_
  have b49_ : 0 ≤ F37_ 344 10 ∧ F37_ 344 10 ≤ 600 := gi_g g38_ rfl
  have b50_ : 0 ≤ F37_ 344 9 ∧ F37_ 344 9 ≤ 5 := gi_g g38_ rfl
  rintro A1_ (⟨F54_, hA_, g55_, s56_, c51_, c52_, c53_⟩ | ⟨F60_, hA_, g61_, s62_, c57_, c58_, c59_⟩)
  ·
    subst hA_
    have g63_ : fs [(344, 344, 5, 5), (344, 344, 9, 10), (344, 344, 14, 15), (344, 344, 17, 17), (344, 344, 21, 21), (344, 344, 63, 63), (349, 363, 0, 100000), (383, 383, 0, 100000)] F F54_ := fs_tr g45_ s56_ rfl
    have rk64_ : rk K F54_ := rk_fs rk46_ s56_ (fs_rg rfl) rfl
    have c52_s := c52_.1 (by omega)
    clear c52_
    have b65_ : 0 ≤ F54_ 344 9 ∧ F54_ 344 9 ≤ 5 := gi_g g55_ rfl
    have b66_ : 0 ≤ F54_ 344 10 ∧ F54_ 344 10 ≤ 600 := gi_g g55_ rfl
    have b67_ : 0 ≤ F54_ 344 5 ∧ F54_ 344 5 ≤ 600 := gi_g g55_ rfl
    exact mb_50_17 hG F X hgi K hgK hrk hkt hp h0 h5 h15 h17 h21 fr lo hfr hlo F54_ g55_ g63_ rk64_ (by omega) (⟨by omega, by omega⟩) (⟨by intro h0_; have hs_ := c52_s; rw [sp_dom, sp_open]; rw [(congrArg (sp_kind K 0) h5.symm).trans c12_]; simp only [pb_r]; rw [c35_]; simp only [pb_r]; rw [hs_]; try (show Sum.inl _ = _); try (congr 2 <;> omega), fun h0_ => by exfalso; omega⟩)
  subst hA_
  have g68_ : fs [(344, 344, 5, 5), (344, 344, 9, 10), (344, 344, 14, 15), (344, 344, 17, 17), (344, 344, 21, 21), (344, 344, 63, 63), (349, 363, 0, 100000), (383, 383, 0, 100000)] F F60_ := fs_tr g45_ s62_ rfl
  have rk69_ : rk K F60_ := rk_fs rk46_ s62_ (fs_rg rfl) rfl
  refine ga_aload_n (v := .ref 344) hm_50 rfl rfl rfl ?_
  refine fl_iconst hm_50 rfl ?_
  have b70_ : 0 ≤ F60_ 344 5 ∧ F60_ 344 5 ≤ 600 := gi_g g61_ rfl
  refine gVv (nY := 2) (F := 2) (L := 44) (As := [.int (Int32.ofInt 1)]) (b := 344) (rest := []) hm_50 rfl hm_55 rfl rfl (fl_ob sc_344) rfl rfl rfl rfl rfl (by omega) (by omega) (mc_55 hG F60_ X g61_ (K) (1) ([100, 111, 109, 97, 105, 110]) hgK rk69_ hkt (⟨by omega, by omega⟩) (⟨by omega, by omega⟩) (by decide) (kw_1 rk69_)) (fun _ _ h => False.elim h) ?_
  have b72_ : 0 ≤ F60_ 344 10 ∧ F60_ 344 10 ≤ 600 := gi_g g61_ rfl
  have b73_ : 0 ≤ F60_ 344 9 ∧ F60_ 344 9 ≤ 5 := gi_g g61_ rfl
  rintro A1_ (⟨F77_, hA_, g78_, s79_, c74_, c75_, c76_⟩ | ⟨F83_, hA_, g84_, s85_, c80_, c81_, c82_⟩)
  ·
    subst hA_
    have g86_ : fs [(344, 344, 5, 5), (344, 344, 9, 10), (344, 344, 14, 15), (344, 344, 17, 17), (344, 344, 21, 21), (344, 344, 63, 63), (349, 363, 0, 100000), (383, 383, 0, 100000)] F F77_ := fs_tr g68_ s79_ rfl
    have rk87_ : rk K F77_ := rk_fs rk69_ s79_ (fs_rg rfl) rfl
    have c75_s := c75_.1 (by omega)
    clear c75_
    have b88_ : 0 ≤ F77_ 344 9 ∧ F77_ 344 9 ≤ 5 := gi_g g78_ rfl
    have b89_ : 0 ≤ F77_ 344 10 ∧ F77_ 344 10 ≤ 600 := gi_g g78_ rfl
    have b90_ : 0 ≤ F77_ 344 5 ∧ F77_ 344 5 ≤ 600 := gi_g g78_ rfl
    exact mb_50_22 hG F X hgi K hgK hrk hkt hp h0 h5 h15 h17 h21 fr lo hfr hlo F77_ g78_ g86_ rk87_ (by omega) (⟨by omega, by omega⟩) (⟨by intro h0_; have hs_ := c75_s; rw [sp_dom, sp_open]; rw [(congrArg (sp_kind K 0) h5.symm).trans c12_]; simp only [pb_r]; rw [c35_]; simp only [pb_r]; rw [c58_]; simp only [pb_r]; rw [hs_]; try (show Sum.inl _ = _); try (congr 2 <;> omega), fun h0_ => by exfalso; omega⟩)
  subst hA_
  have g91_ : fs [(344, 344, 5, 5), (344, 344, 9, 10), (344, 344, 14, 15), (344, 344, 17, 17), (344, 344, 21, 21), (344, 344, 63, 63), (349, 363, 0, 100000), (383, 383, 0, 100000)] F F83_ := fs_tr g68_ s85_ rfl
  have rk92_ : rk K F83_ := rk_fs rk69_ s85_ (fs_rg rfl) rfl
  refine ga_aload_n (v := .ref 344) hm_50 rfl rfl rfl ?_
  refine ga_aload_n (v := .ref 344) hm_50 rfl rfl rfl ?_
  have b93_ : 0 ≤ F83_ 344 5 ∧ F83_ 344 5 ≤ 600 := gi_g g84_ rfl
  refine gVl (nY := 3) (F := 2) (L := 46) (As := []) (b := 344) (rest := [.ref 344]) hm_50 rfl hm_58 rfl rfl (fl_ob sc_344) rfl rfl rfl rfl rfl (by omega) (by omega) (mc_58 hG F83_ X g84_ (K) hgK rk92_ hkt (⟨by omega, by omega⟩)) (fun _ _ h => False.elim h) ?_
  have b95_ : 0 ≤ F83_ 344 10 ∧ F83_ 344 10 ≤ 600 := gi_g g84_ rfl
  have b96_ : 0 ≤ F83_ 344 9 ∧ F83_ 344 9 ≤ 5 := gi_g g84_ rfl
  rintro z94_ A1_ (⟨F101_, hA_, g102_, s103_, c97_, c98_, c99_, c100_⟩ | ⟨F111_, hA_, g112_, s113_, c104_, c105_, c106_, c107_, c108_, c109_, c110_⟩)
  ·
    subst hA_
    have g114_ : fs [(344, 344, 5, 5), (344, 344, 9, 10), (344, 344, 14, 15), (344, 344, 17, 17), (344, 344, 21, 21), (344, 344, 63, 63), (349, 363, 0, 100000), (383, 383, 0, 100000)] F F101_ := fs_tr g91_ s103_ rfl
    have rk115_ : rk K F101_ := rk_fs rk92_ s103_ (fs_rg rfl) rfl
    have c98_s := c98_.1 (by omega)
    clear c98_
    refine ga_putl hm_50 rfl sc_344 rfl rfl ?_
    refine ga_aload_n (v := .ref 344) hm_50 rfl rfl rfl ?_
    refine gIv (nY := 1) (F := 1) (L := 20) (As := []) (b := 344) (rest := []) hm_50 rfl hm_61 rfl rfl (fl_ob sc_344) rfl rfl rfl rfl rfl (by omega) (by omega) ?_
    intro f116_ l117_ h118_ h119_
    show fl_R xi_ms 61 f116_ l117_ 0 [(0, .ref 344)] [] _ _
    refine ga_aload_n (v := .ref 344) hm_61 rfl rfl rfl ?_
    refine ga_dup hm_61 rfl rfl ?_
    have e120_ : F101_ 344 5 = F83_ 344 5 := (s103_ 344 5 rfl).trans (rfl)
    refine ga_geti (z := F83_ 344 5) hm_61 rfl sc_344 rfl ((fl_u_ne (by first | exact nc_ rfl | decide | omega)).trans (e120_)) ?_
    refine ga_aload_n (v := .ref 344) hm_61 rfl rfl rfl ?_
    refine gIi (nY := 1) (F := 0) (L := 0) (As := []) (b := 344) (rest := [.int (Int32.ofInt (F83_ 344 5)), .ref 344]) hm_61 rfl hm_59 rfl rfl (fl_ob sc_344) rfl rfl rfl rfl rfl (by omega) (by omega) ?_
    intro f121_ l122_ h123_ h124_
    show fl_R xi_ms 59 f121_ l122_ 0 [(0, .ref 344)] [] _ _
    refine ga_aload_n (v := .ref 344) hm_59 rfl rfl rfl ?_
    have b125_ : 0 ≤ F101_ 344 9 ∧ F101_ 344 9 ≤ 5 := gi_g g102_ rfl
    refine ga_geti (z := F101_ 344 9) hm_59 rfl sc_344 rfl (fl_u_ne (by first | exact nc_ rfl | decide | omega)) ?_
    refine fl_if_le (a := F101_ 344 9) hm_59 rfl ⟨by omega, by omega⟩ (fun h126_ => ?_) (fun h127_ => ?_)
    · exfalso; omega
    refine fl_iconst hm_59 rfl ?_
    refine fl_goto hm_59 rfl ?_
    refine gr_i hm_59 rfl rfl (ga_nb (by omega)) ?_
    clear h123_ h124_ f121_ l122_
    refine fl_if_eq hm_61 rfl ⟨by omega, by omega⟩ (fun h => absurd h (by omega)) (fun _ => ?_)
    refine fl_iconst hm_61 rfl ?_
    refine fl_goto hm_61 rfl ?_
    refine ga_iadd (a := F83_ 344 5) (b := 0) (c := F83_ 344 5) hm_61 rfl (by omega) ?_
    refine ga_puti (z := F83_ 344 5) hm_61 rfl sc_344 rfl rfl ?_
    refine gr_v hm_61 rfl rfl ?_
    clear h118_ h119_ f116_ l117_
    obtain ⟨F128_, q129_⟩ : ∃ Fq_, Fq_ = (fl_u (fl_u F101_ 344 14 z94_) 344 5 (F83_ 344 5)) := ⟨_, rfl⟩
    rw [← q129_]
    have g130_ : gi F128_ := by rw [q129_]; exact gi_u (gi_u (g102_) rfl (by omega) (by omega)) rfl (by omega) (by omega)
    have g131_ : fs [(344, 344, 5, 5), (344, 344, 9, 10), (344, 344, 14, 15), (344, 344, 17, 17), (344, 344, 21, 21), (344, 344, 63, 63), (349, 363, 0, 100000), (383, 383, 0, 100000)] F F128_ := by rw [q129_]; exact fs_u (fs_u (g114_) rfl) rfl
    have rk132_ : rk K F128_ := by rw [q129_]; exact rk_u (rk_u (rk115_) (by first | decide | exact nc_ rfl | omega) (by first | decide | exact nc_ rfl | omega)) (by first | decide | exact nc_ rfl | omega) (by first | decide | exact nc_ rfl | omega)
    have e133_ : F128_ 344 9 = F101_ 344 9 := by rw [q129_]; exact (fl_u_ne (by first | exact nc_ rfl | decide | omega)).trans (fl_u_ne (by first | exact nc_ rfl | decide | omega))
    have e134_ : F128_ 344 10 = F101_ 344 10 := by rw [q129_]; exact (fl_u_ne (by first | exact nc_ rfl | decide | omega)).trans (fl_u_ne (by first | exact nc_ rfl | decide | omega))
    have b135_ : 0 ≤ F101_ 344 10 ∧ F101_ 344 10 ≤ 600 := gi_g g102_ rfl
    have e136_ : F128_ 344 5 = F83_ 344 5 := by rw [q129_]; exact fl_u_eq
    exact mb_50_34 hG F X hgi K hgK hrk hkt hp h0 h5 h15 h17 h21 fr lo hfr hlo F128_ g130_ g131_ rk132_ (by omega) (⟨by omega, by omega⟩) (⟨by intro h0_; have hs_ := c98_s; rw [sp_dom, sp_open]; rw [(congrArg (sp_kind K 0) h5.symm).trans c12_]; simp only [pb_r]; rw [c35_]; simp only [pb_r]; rw [c58_]; simp only [pb_r]; rw [c81_]; simp only [pb_r]; have h1_ := nm_no hs_; rw [sp_nm, if_neg h1_] at hs_; have h2_ := Prod.mk.inj (Sum.inl.inj hs_); rw [sp_kind, if_neg h1_]; show Sum.inl (1, K 4 _) = _; congr 2 <;> omega, fun h0_ => by exfalso; omega⟩)
  subst hA_
  have g137_ : fs [(344, 344, 5, 5), (344, 344, 9, 10), (344, 344, 14, 15), (344, 344, 17, 17), (344, 344, 21, 21), (344, 344, 63, 63), (349, 363, 0, 100000), (383, 383, 0, 100000)] F F111_ := fs_tr g91_ s113_ rfl
  have rk138_ : rk K F111_ := rk_fs rk92_ s113_ (fs_rg rfl) rfl
  refine ga_putl hm_50 rfl sc_344 rfl rfl ?_
  refine ga_aload_n (v := .ref 344) hm_50 rfl rfl rfl ?_
  refine gIv (nY := 1) (F := 1) (L := 20) (As := []) (b := 344) (rest := []) hm_50 rfl hm_61 rfl rfl (fl_ob sc_344) rfl rfl rfl rfl rfl (by omega) (by omega) ?_
  intro f139_ l140_ h141_ h142_
  show fl_R xi_ms 61 f139_ l140_ 0 [(0, .ref 344)] [] _ _
  refine ga_aload_n (v := .ref 344) hm_61 rfl rfl rfl ?_
  refine ga_dup hm_61 rfl rfl ?_
  have e143_ : F111_ 344 5 = F83_ 344 5 := (s113_ 344 5 rfl).trans (rfl)
  refine ga_geti (z := F83_ 344 5) hm_61 rfl sc_344 rfl ((fl_u_ne (by first | exact nc_ rfl | decide | omega)).trans (e143_)) ?_
  refine ga_aload_n (v := .ref 344) hm_61 rfl rfl rfl ?_
  refine gIi (nY := 1) (F := 0) (L := 0) (As := []) (b := 344) (rest := [.int (Int32.ofInt (F83_ 344 5)), .ref 344]) hm_61 rfl hm_59 rfl rfl (fl_ob sc_344) rfl rfl rfl rfl rfl (by omega) (by omega) ?_
  intro f144_ l145_ h146_ h147_
  show fl_R xi_ms 59 f144_ l145_ 0 [(0, .ref 344)] [] _ _
  refine ga_aload_n (v := .ref 344) hm_59 rfl rfl rfl ?_
  have b148_ : 0 ≤ F111_ 344 9 ∧ F111_ 344 9 ≤ 5 := gi_g g112_ rfl
  refine ga_geti (z := F111_ 344 9) hm_59 rfl sc_344 rfl (fl_u_ne (by first | exact nc_ rfl | decide | omega)) ?_
  refine fl_if_le (a := F111_ 344 9) hm_59 rfl ⟨by omega, by omega⟩ (fun h149_ => ?_) (fun h150_ => ?_)
  ·
    refine fl_iconst hm_59 rfl ?_
    refine gr_i hm_59 rfl rfl (ga_nb (by omega)) ?_
    clear h146_ h147_ f144_ l145_
    refine fl_if_eq hm_61 rfl ⟨by omega, by omega⟩ (fun _ => ?_) (fun h => absurd (by omega) h)
    refine fl_iconst hm_61 rfl ?_
    refine ga_iadd (a := F83_ 344 5) (b := 1) (c := F83_ 344 5 + 1) hm_61 rfl (by omega) ?_
    refine ga_puti (z := F83_ 344 5 + 1) hm_61 rfl sc_344 rfl rfl ?_
    refine gr_v hm_61 rfl rfl ?_
    clear h141_ h142_ f139_ l140_
    refine ga_aload_n (v := .ref 344) hm_50 rfl rfl rfl ?_
    refine fl_bipush hm_50 rfl rfl ?_
    obtain ⟨F151_, q152_⟩ : ∃ Fq_, Fq_ = (fl_u (fl_u F111_ 344 14 z94_) 344 5 (F83_ 344 5 + 1)) := ⟨_, rfl⟩
    rw [← q152_]
    have g153_ : gi F151_ := by rw [q152_]; exact gi_u (gi_u (g112_) rfl (by omega) (by omega)) rfl (by omega) (by omega)
    have g154_ : fs [(344, 344, 5, 5), (344, 344, 9, 10), (344, 344, 14, 15), (344, 344, 17, 17), (344, 344, 21, 21), (344, 344, 63, 63), (349, 363, 0, 100000), (383, 383, 0, 100000)] F F151_ := by rw [q152_]; exact fs_u (fs_u (g137_) rfl) rfl
    have rk155_ : rk K F151_ := by rw [q152_]; exact rk_u (rk_u (rk138_) (by first | decide | exact nc_ rfl | omega) (by first | decide | exact nc_ rfl | omega)) (by first | decide | exact nc_ rfl | omega) (by first | decide | exact nc_ rfl | omega)
    have e156_ : F151_ 344 5 = F83_ 344 5 + 1 := by rw [q152_]; exact fl_u_eq
    refine gVv (nY := 2) (F := 2) (L := 41) (As := [.int (Int32.ofInt 41)]) (b := 344) (rest := []) hm_50 rfl hm_51 rfl rfl (fl_ob sc_344) rfl rfl rfl rfl rfl (by omega) (by omega) (mc_51 hG F151_ X g153_ (K) (41) (1) hgK rk155_ hkt (⟨by omega, by omega⟩) (by omega) (by omega)) (fun _ _ h => False.elim h) ?_
    have e158_ : F151_ 344 10 = F111_ 344 10 := by rw [q152_]; exact (fl_u_ne (by first | exact nc_ rfl | decide | omega)).trans (fl_u_ne (by first | exact nc_ rfl | decide | omega))
    have b159_ : 0 ≤ F111_ 344 10 ∧ F111_ 344 10 ≤ 600 := gi_g g112_ rfl
    have e160_ : F151_ 344 9 = F111_ 344 9 := by rw [q152_]; exact (fl_u_ne (by first | exact nc_ rfl | decide | omega)).trans (fl_u_ne (by first | exact nc_ rfl | decide | omega))
    rintro A1_ (⟨F164_, hA_, g165_, s166_, c161_, c162_, c163_⟩ | ⟨F170_, hA_, g171_, s172_, c167_, c168_, c169_⟩)
    ·
      subst hA_
      have g173_ : fs [(344, 344, 5, 5), (344, 344, 9, 10), (344, 344, 14, 15), (344, 344, 17, 17), (344, 344, 21, 21), (344, 344, 63, 63), (349, 363, 0, 100000), (383, 383, 0, 100000)] F F164_ := fs_tr g154_ s166_ rfl
      have rk174_ : rk K F164_ := rk_fs rk155_ s166_ (fs_rg rfl) rfl
      try simp only [e156_, e158_, e160_] at c162_
      have c162_s := c162_.1 (by omega)
      clear c162_
      have b175_ : 0 ≤ F164_ 344 9 ∧ F164_ 344 9 ≤ 5 := gi_g g165_ rfl
      have b176_ : 0 ≤ F164_ 344 10 ∧ F164_ 344 10 ≤ 600 := gi_g g165_ rfl
      have b177_ : 0 ≤ F164_ 344 5 ∧ F164_ 344 5 ≤ 600 := gi_g g165_ rfl
      exact mb_50_40 hG F X hgi K hgK hrk hkt hp h0 h5 h15 h17 h21 fr lo hfr hlo F164_ g165_ g173_ rk174_ (by omega) (⟨by omega, by omega⟩) (⟨by intro h0_; have hs_ := c162_s; rw [sp_dom, sp_open]; rw [(congrArg (sp_kind K 0) h5.symm).trans c12_]; simp only [pb_r]; rw [c35_]; simp only [pb_r]; rw [c58_]; simp only [pb_r]; rw [c81_]; simp only [pb_r]; rw [(show sp_kind K 2 (F83_ 344 5) = .inr (F83_ 344 5 + 1) by rw [sp_kind, if_pos (by omega), sk, if_pos (by omega)])]; simp only [pb_r]; rw [hs_]; try (show Sum.inl _ = _); try (congr 2 <;> omega), fun h0_ => by exfalso; omega⟩)
    subst hA_
    have g178_ : fs [(344, 344, 5, 5), (344, 344, 9, 10), (344, 344, 14, 15), (344, 344, 17, 17), (344, 344, 21, 21), (344, 344, 63, 63), (349, 363, 0, 100000), (383, 383, 0, 100000)] F F170_ := fs_tr g154_ s172_ rfl
    have rk179_ : rk K F170_ := rk_fs rk155_ s172_ (fs_rg rfl) rfl
    try simp only [e160_] at c167_
    try simp only [e156_] at c168_
    refine ga_aload_n (v := .ref 344) hm_50 rfl rfl rfl ?_
    refine fl_bipush hm_50 rfl rfl ?_
    have b180_ : 0 ≤ F170_ 344 5 ∧ F170_ 344 5 ≤ 600 := gi_g g171_ rfl
    refine gVv (nY := 2) (F := 2) (L := 41) (As := [.int (Int32.ofInt 40)]) (b := 344) (rest := []) hm_50 rfl hm_51 rfl rfl (fl_ob sc_344) rfl rfl rfl rfl rfl (by omega) (by omega) (mc_51 hG F170_ X g171_ (K) (40) (0) hgK rk179_ hkt (⟨by omega, by omega⟩) (by omega) (by omega)) (fun _ _ h => False.elim h) ?_
    have b182_ : 0 ≤ F170_ 344 10 ∧ F170_ 344 10 ≤ 600 := gi_g g171_ rfl
    have b183_ : 0 ≤ F170_ 344 9 ∧ F170_ 344 9 ≤ 5 := gi_g g171_ rfl
    rintro A1_ (⟨F187_, hA_, g188_, s189_, c184_, c185_, c186_⟩ | ⟨F193_, hA_, g194_, s195_, c190_, c191_, c192_⟩)
    ·
      subst hA_
      have g196_ : fs [(344, 344, 5, 5), (344, 344, 9, 10), (344, 344, 14, 15), (344, 344, 17, 17), (344, 344, 21, 21), (344, 344, 63, 63), (349, 363, 0, 100000), (383, 383, 0, 100000)] F F187_ := fs_tr g178_ s189_ rfl
      have rk197_ : rk K F187_ := rk_fs rk179_ s189_ (fs_rg rfl) rfl
      have c185_s := c185_.1 (by omega)
      clear c185_
      have b198_ : 0 ≤ F187_ 344 9 ∧ F187_ 344 9 ≤ 5 := gi_g g188_ rfl
      have b199_ : 0 ≤ F187_ 344 10 ∧ F187_ 344 10 ≤ 600 := gi_g g188_ rfl
      have b200_ : 0 ≤ F187_ 344 5 ∧ F187_ 344 5 ≤ 600 := gi_g g188_ rfl
      exact mb_50_46 hG F X hgi K hgK hrk hkt hp h0 h5 h15 h17 h21 fr lo hfr hlo F187_ g188_ g196_ rk197_ (by omega) (⟨by omega, by omega⟩) (⟨by intro h0_; have hs_ := c185_s; rw [sp_dom, sp_open]; rw [(congrArg (sp_kind K 0) h5.symm).trans c12_]; simp only [pb_r]; rw [c35_]; simp only [pb_r]; rw [c58_]; simp only [pb_r]; rw [c81_]; simp only [pb_r]; rw [(show sp_kind K 2 (F83_ 344 5) = .inr (F83_ 344 5 + 1) by rw [sp_kind, if_pos (by omega), sk, if_pos (by omega)])]; simp only [pb_r]; rw [c168_]; simp only [pb_r]; rw [hs_]; try (show Sum.inl _ = _); try (congr 2 <;> omega), fun h0_ => by exfalso; omega⟩)
    subst hA_
    have g201_ : fs [(344, 344, 5, 5), (344, 344, 9, 10), (344, 344, 14, 15), (344, 344, 17, 17), (344, 344, 21, 21), (344, 344, 63, 63), (349, 363, 0, 100000), (383, 383, 0, 100000)] F F193_ := fs_tr g178_ s195_ rfl
    have rk202_ : rk K F193_ := rk_fs rk179_ s195_ (fs_rg rfl) rfl
    refine ga_aload_n (v := .ref 344) hm_50 rfl rfl rfl ?_
    refine fl_iconst hm_50 rfl ?_
    have b203_ : 0 ≤ F193_ 344 5 ∧ F193_ 344 5 ≤ 600 := gi_g g194_ rfl
    refine gVi (nY := 4) (F := 1) (L := 21) (As := [.int (Int32.ofInt 2)]) (b := 344) (rest := []) hm_50 rfl hm_56 rfl rfl (fl_ob sc_344) rfl rfl rfl rfl rfl (by omega) (by omega) (mc_56 hG F193_ X g194_ (K) (2) ([58, 116, 121, 112, 101, 115]) hgK rk202_ hkt (⟨by omega, by omega⟩) (⟨by omega, by omega⟩) (by decide) (kw_2 rk202_)) (fun _ _ h => False.elim h) ?_
    have b205_ : 0 ≤ F193_ 344 9 ∧ F193_ 344 9 ≤ 5 := gi_g g194_ rfl
    rintro z204_ A1_ (⟨hA_, hz_, c206_⟩ | ⟨hA_, hz_, c207_, c208_⟩)
    ·
      subst hA_
      subst hz_
      refine fl_if_eq hm_50 rfl ⟨by omega, by omega⟩ (fun _ => ?_) (fun h => absurd (by omega) h)
      have b209_ : 0 ≤ F193_ 344 10 ∧ F193_ 344 10 ≤ 600 := gi_g g194_ rfl
      have e210_ : F14_ 344 17 = F 344 17 := (s16_ 344 17 rfl).trans (rfl)
      have e211_ : F37_ 344 17 = F 344 17 := (s39_ 344 17 rfl).trans (e210_)
      have e212_ : F60_ 344 17 = F 344 17 := (s62_ 344 17 rfl).trans (e211_)
      have e213_ : F83_ 344 17 = F 344 17 := (s85_ 344 17 rfl).trans (e212_)
      have e214_ : F111_ 344 17 = F 344 17 := (s113_ 344 17 rfl).trans (e213_)
      have e215_ : F151_ 344 17 = F 344 17 := by rw [q152_]; exact (fl_u_ne (by first | exact nc_ rfl | decide | omega)).trans ((fl_u_ne (by first | exact nc_ rfl | decide | omega)).trans (e214_))
      have e216_ : F170_ 344 17 = F 344 17 := (s172_ 344 17 rfl).trans (e215_)
      have e217_ : F193_ 344 17 = F 344 17 := (s195_ 344 17 rfl).trans (e216_)
      have b218_ : 0 ≤ F 344 17 ∧ F 344 17 ≤ 6 := gi_g hgi rfl
      have e219_ : F14_ 344 21 = F 344 21 := (s16_ 344 21 rfl).trans (rfl)
      have e220_ : F37_ 344 21 = F 344 21 := (s39_ 344 21 rfl).trans (e219_)
      have e221_ : F60_ 344 21 = F 344 21 := (s62_ 344 21 rfl).trans (e220_)
      have e222_ : F83_ 344 21 = F 344 21 := (s85_ 344 21 rfl).trans (e221_)
      have e223_ : F111_ 344 21 = F 344 21 := (s113_ 344 21 rfl).trans (e222_)
      have e224_ : F151_ 344 21 = F 344 21 := by rw [q152_]; exact (fl_u_ne (by first | exact nc_ rfl | decide | omega)).trans ((fl_u_ne (by first | exact nc_ rfl | decide | omega)).trans (e223_))
      have e225_ : F170_ 344 21 = F 344 21 := (s172_ 344 21 rfl).trans (e224_)
      have e226_ : F193_ 344 21 = F 344 21 := (s195_ 344 21 rfl).trans (e225_)
      have b227_ : 0 ≤ F 344 21 ∧ F 344 21 ≤ 5 := gi_g hgi rfl
      have e228_ : F151_ 344 14 = z94_ := by rw [q152_]; exact (fl_u_ne (by first | exact nc_ rfl | decide | omega)).trans (fl_u_eq)
      have e229_ : F170_ 344 14 = z94_ := (s172_ 344 14 rfl).trans (e228_)
      have e230_ : F193_ 344 14 = z94_ := (s195_ 344 14 rfl).trans (e229_)
      exact mg_50_80 hG F X hgi K hgK hrk hkt hp h0 h5 h15 h17 h21 fr lo hfr hlo F193_ ([]) g194_ g201_ rk202_ ⟨by omega, by omega⟩ ⟨by omega, by omega⟩ (by rw [sp_dom, sp_open]; rw [(congrArg (sp_kind K 0) h5.symm).trans c12_]; simp only [pb_r]; rw [c35_]; simp only [pb_r]; rw [c58_]; simp only [pb_r]; rw [c81_]; simp only [pb_r]; rw [(show sp_kind K 2 (F83_ 344 5) = .inr (F83_ 344 5 + 1) by rw [sp_kind, if_pos (by omega), sk, if_pos (by omega)])]; simp only [pb_r]; rw [c168_]; simp only [pb_r]; rw [c191_]; simp only [pb_r]; rw [if_neg (fun h8_ => c206_ ⟨by omega, h8_⟩)]; simp only [pb_r]; rfl) ((rpn_fs (rpn_fs (by rw [q152_]; exact (rpn_u (rpn_u (rpn_fs (rpn_fs (rpn_fs (rpn_fs (rpn_fs (rpn_0 (a := 349) h15) s16_ (fun _ => (by first | exact fs_c rfl | exact (fs_n (by omega) (fs_n (by omega) rfl)))) (by first | exact fs_c rfl | exact (fs_n (by omega) (fs_n (by omega) rfl)))) s39_ (fun _ => (by first | exact fs_c rfl | exact (fs_n (by omega) (fs_n (by omega) rfl)))) (by first | exact fs_c rfl | exact (fs_n (by omega) (fs_n (by omega) rfl)))) s62_ (fun _ => (by first | exact fs_c rfl | exact (fs_n (by omega) (fs_n (by omega) rfl)))) (by first | exact fs_c rfl | exact (fs_n (by omega) (fs_n (by omega) rfl)))) s85_ (fun _ => (by first | exact fs_c rfl | exact (fs_n (by omega) (fs_n (by omega) rfl)))) (by first | exact fs_c rfl | exact (fs_n (by omega) (fs_n (by omega) rfl)))) s113_ (fun _ => (by first | exact fs_c rfl | exact (fs_n (by omega) rfl))) (by first | exact fs_c rfl | exact (fs_n (by omega) rfl))) (by first | decide | exact nc_ rfl | omega) (by first | decide | exact nc_ rfl | omega)) (by first | decide | exact nc_ rfl | omega) (by first | decide | exact nc_ rfl | omega))) s172_ (fun _ => (by first | exact fs_c rfl | exact (fs_n (by omega) (fs_n (by omega) rfl)))) (by first | exact fs_c rfl | exact (fs_n (by omega) (fs_n (by omega) rfl)))) s195_ (fun _ => (by first | exact fs_c rfl | exact (fs_n (by omega) (fs_n (by omega) rfl)))) (by first | exact fs_c rfl | exact (fs_n (by omega) (fs_n (by omega) rfl))))) (by omega) (by omega) (by rw [e230_, show sp_dnm K = K 6 (F83_ 344 5).toNat from (by unfold sp_dnm sp_open; rw [(congrArg (sp_kind K 0) h5.symm).trans c12_]; simp only [pb_r]; rw [c35_]; simp only [pb_r]; rw [c58_]; simp only [pb_r]; rw [c81_])]; exact c107_) (by rw [sp_head, sp_open]; rw [(congrArg (sp_kind K 0) h5.symm).trans c12_]; simp only [pb_r]; rw [c35_]; simp only [pb_r]; rw [c58_]; simp only [pb_r]; rw [c81_]; simp only [pb_r]; rw [(show sp_kind K 2 (F83_ 344 5) = .inr (F83_ 344 5 + 1) by rw [sp_kind, if_pos (by omega), sk, if_pos (by omega)])]; simp only [pb_r]; rw [c168_]; simp only [pb_r]; rw [c191_]; simp only [pb_r]; rw [if_neg (fun h8_ => c206_ ⟨by omega, h8_⟩)]; simp only [pb_r]; rfl)
    subst hA_
    subst hz_
    refine fl_if_eq hm_50 rfl ⟨by omega, by omega⟩ (fun h => absurd h (by omega)) (fun _ => ?_)
    have hszT := (kw_iff (w := [58, 116, 121, 112, 101, 115]) hkt hgK (p := F193_ 344 5) (by omega) (by omega) (by decide) (by decide)).mp c207_.2
    refine ga_aload_n (v := .ref 344) hm_50 rfl rfl rfl ?_
    refine ga_dup hm_50 rfl rfl ?_
    refine ga_geti (z := F193_ 344 5) hm_50 rfl sc_344 rfl (rfl) ?_
    refine fl_iconst hm_50 rfl ?_
    refine ga_iadd (a := F193_ 344 5) (b := 1) (c := F193_ 344 5 + 1) hm_50 rfl (by omega) ?_
    refine ga_puti (z := F193_ 344 5 + 1) hm_50 rfl sc_344 rfl rfl ?_
    refine ga_aload_n (v := .ref 344) hm_50 rfl rfl rfl ?_
    obtain ⟨F231_, q232_⟩ : ∃ Fq_, Fq_ = (fl_u F193_ 344 5 (F193_ 344 5 + 1)) := ⟨_, rfl⟩
    rw [← q232_]
    have g233_ : gi F231_ := by rw [q232_]; exact gi_u (g194_) rfl (by omega) (by omega)
    have g234_ : fs [(344, 344, 5, 5), (344, 344, 9, 10), (344, 344, 14, 15), (344, 344, 17, 17), (344, 344, 21, 21), (344, 344, 63, 63), (349, 363, 0, 100000), (383, 383, 0, 100000)] F F231_ := by rw [q232_]; exact fs_u (g201_) rfl
    have rk235_ : rk K F231_ := by rw [q232_]; exact rk_u (rk202_) (by first | decide | exact nc_ rfl | omega) (by first | decide | exact nc_ rfl | omega)
    have e236_ : F231_ 344 5 = F193_ 344 5 + 1 := by rw [q232_]; exact fl_u_eq
    have e237_ : F14_ 344 15 = F 344 15 := (s16_ 344 15 rfl).trans (rfl)
    have e238_ : F37_ 344 15 = F 344 15 := (s39_ 344 15 rfl).trans (e237_)
    have e239_ : F60_ 344 15 = F 344 15 := (s62_ 344 15 rfl).trans (e238_)
    have e240_ : F83_ 344 15 = F 344 15 := (s85_ 344 15 rfl).trans (e239_)
    have e241_ : F111_ 344 15 = F 344 15 := (s113_ 344 15 rfl).trans (e240_)
    have e242_ : F151_ 344 15 = F 344 15 := by rw [q152_]; exact (fl_u_ne (by first | exact nc_ rfl | decide | omega)).trans ((fl_u_ne (by first | exact nc_ rfl | decide | omega)).trans (e241_))
    have e243_ : F170_ 344 15 = F 344 15 := (s172_ 344 15 rfl).trans (e242_)
    have e244_ : F193_ 344 15 = F 344 15 := (s195_ 344 15 rfl).trans (e243_)
    have e245_ : F231_ 344 15 = F 344 15 := by rw [q232_]; exact (fl_u_ne (by first | exact nc_ rfl | decide | omega)).trans (e244_)
    refine gVv (nY := 4) (F := 3) (L := 68) (As := []) (b := 344) (rest := []) hm_50 rfl hm_187 rfl rfl (fl_ob sc_344) rfl rfl rfl rfl rfl (by omega) (by omega) (mc_187 hG F231_ X g233_ (K) hgK rk235_ hkt (⟨by omega, by omega⟩) (by omega)) (fun _ _ h => False.elim h) ?_
    have e247_ : F231_ 344 10 = F193_ 344 10 := by rw [q232_]; exact fl_u_ne (by first | exact nc_ rfl | decide | omega)
    have b248_ : 0 ≤ F193_ 344 10 ∧ F193_ 344 10 ≤ 600 := gi_g g194_ rfl
    have e249_ : F231_ 344 9 = F193_ 344 9 := by rw [q232_]; exact fl_u_ne (by first | exact nc_ rfl | decide | omega)
    rintro A1_ (⟨F253_, hA_, g254_, s255_, c250_, c251_, c252_⟩ | ⟨F259_, hA_, g260_, s261_, c256_, c257_, c258_⟩)
    ·
      subst hA_
      have g262_ : fs [(344, 344, 5, 5), (344, 344, 9, 10), (344, 344, 14, 15), (344, 344, 17, 17), (344, 344, 21, 21), (344, 344, 63, 63), (349, 363, 0, 100000), (383, 383, 0, 100000)] F F253_ := fs_tr g234_ s255_ rfl
      have rk263_ : rk K F253_ := rk_fs rk235_ s255_ (fs_rg rfl) rfl
      try simp only [e236_, e247_, e249_] at c251_
      have c251_s := c251_.1 (by omega)
      clear c251_
      have b264_ : 0 ≤ F253_ 344 9 ∧ F253_ 344 9 ≤ 5 := gi_g g254_ rfl
      have b265_ : 0 ≤ F253_ 344 10 ∧ F253_ 344 10 ≤ 600 := gi_g g254_ rfl
      have b266_ : 0 ≤ F253_ 344 5 ∧ F253_ 344 5 ≤ 600 := gi_g g254_ rfl
      exact mb_50_68 hG F X hgi K hgK hrk hkt hp h0 h5 h15 h17 h21 fr lo hfr hlo F253_ g254_ g262_ rk263_ (by omega) (⟨by omega, by omega⟩) (⟨by intro h0_; have hs_ := c251_s; rw [sp_dom, sp_open]; rw [(congrArg (sp_kind K 0) h5.symm).trans c12_]; simp only [pb_r]; rw [c35_]; simp only [pb_r]; rw [c58_]; simp only [pb_r]; rw [c81_]; simp only [pb_r]; rw [(show sp_kind K 2 (F83_ 344 5) = .inr (F83_ 344 5 + 1) by rw [sp_kind, if_pos (by omega), sk, if_pos (by omega)])]; simp only [pb_r]; rw [c168_]; simp only [pb_r]; rw [c191_]; simp only [pb_r]; rw [if_pos c207_.2, sp_rtypes, (show sp_word K [58, 116, 121, 112, 101, 115] (F193_ 344 5) = .inr (F193_ 344 5 + 1) by rw [sp_word, if_pos c207_.2, sk, if_pos (by omega)])]; simp only [pb_r]; rw [st1_fl hs_]; try (show Sum.inl _ = _); try (congr 2 <;> omega), fun h0_ => by exfalso; omega⟩)
    subst hA_
    have g267_ : fs [(344, 344, 5, 5), (344, 344, 9, 10), (344, 344, 14, 15), (344, 344, 17, 17), (344, 344, 21, 21), (344, 344, 63, 63), (349, 363, 0, 100000), (383, 383, 0, 100000)] F F259_ := fs_tr g234_ s261_ rfl
    have rk268_ : rk K F259_ := rk_fs rk235_ s261_ (fs_rg rfl) rfl
    try simp only [e249_] at c256_
    try simp only [e236_] at c257_
    obtain ⟨ts_, ⟨ctt1_, ctt2_⟩, ctt3_⟩ := c257_
    refine ga_aload_n (v := .ref 344) hm_50 rfl rfl rfl ?_
    refine fl_bipush hm_50 rfl rfl ?_
    have b269_ : 0 ≤ F259_ 344 5 ∧ F259_ 344 5 ≤ 600 := gi_g g260_ rfl
    refine gVv (nY := 2) (F := 2) (L := 41) (As := [.int (Int32.ofInt 41)]) (b := 344) (rest := []) hm_50 rfl hm_51 rfl rfl (fl_ob sc_344) rfl rfl rfl rfl rfl (by omega) (by omega) (mc_51 hG F259_ X g260_ (K) (41) (1) hgK rk268_ hkt (⟨by omega, by omega⟩) (by omega) (by omega)) (fun _ _ h => False.elim h) ?_
    have b271_ : 0 ≤ F259_ 344 10 ∧ F259_ 344 10 ≤ 600 := gi_g g260_ rfl
    have b272_ : 0 ≤ F259_ 344 9 ∧ F259_ 344 9 ≤ 5 := gi_g g260_ rfl
    rintro A1_ (⟨F276_, hA_, g277_, s278_, c273_, c274_, c275_⟩ | ⟨F282_, hA_, g283_, s284_, c279_, c280_, c281_⟩)
    ·
      subst hA_
      have g285_ : fs [(344, 344, 5, 5), (344, 344, 9, 10), (344, 344, 14, 15), (344, 344, 17, 17), (344, 344, 21, 21), (344, 344, 63, 63), (349, 363, 0, 100000), (383, 383, 0, 100000)] F F276_ := fs_tr g267_ s278_ rfl
      have rk286_ : rk K F276_ := rk_fs rk268_ s278_ (fs_rg rfl) rfl
      have c274_s := c274_.1 (by omega)
      clear c274_
      have b287_ : 0 ≤ F276_ 344 9 ∧ F276_ 344 9 ≤ 5 := gi_g g277_ rfl
      have b288_ : 0 ≤ F276_ 344 10 ∧ F276_ 344 10 ≤ 600 := gi_g g277_ rfl
      have b289_ : 0 ≤ F276_ 344 5 ∧ F276_ 344 5 ≤ 600 := gi_g g277_ rfl
      exact mb_50_74 hG F X hgi K hgK hrk hkt hp h0 h5 h15 h17 h21 fr lo hfr hlo F276_ g277_ g285_ rk286_ (by omega) (⟨by omega, by omega⟩) (⟨by intro h0_; have hs_ := c274_s; rw [sp_dom, sp_open]; rw [(congrArg (sp_kind K 0) h5.symm).trans c12_]; simp only [pb_r]; rw [c35_]; simp only [pb_r]; rw [c58_]; simp only [pb_r]; rw [c81_]; simp only [pb_r]; rw [(show sp_kind K 2 (F83_ 344 5) = .inr (F83_ 344 5 + 1) by rw [sp_kind, if_pos (by omega), sk, if_pos (by omega)])]; simp only [pb_r]; rw [c168_]; simp only [pb_r]; rw [c191_]; simp only [pb_r]; rw [if_pos c207_.2, sp_rtypes, (show sp_word K [58, 116, 121, 112, 101, 115] (F193_ 344 5) = .inr (F193_ 344 5 + 1) by rw [sp_word, if_pos c207_.2, sk, if_pos (by omega)])]; simp only [pb_r]; rw [st1_ok ctt1_]; simp only [pb_r]; rw [hs_]; try (show Sum.inl _ = _); try (congr 2 <;> omega), fun h0_ => by exfalso; omega⟩)
    subst hA_
    have g290_ : fs [(344, 344, 5, 5), (344, 344, 9, 10), (344, 344, 14, 15), (344, 344, 17, 17), (344, 344, 21, 21), (344, 344, 63, 63), (349, 363, 0, 100000), (383, 383, 0, 100000)] F F282_ := fs_tr g267_ s284_ rfl
    have rk291_ : rk K F282_ := rk_fs rk268_ s284_ (fs_rg rfl) rfl
    refine ga_aload_n (v := .ref 344) hm_50 rfl rfl rfl ?_
    refine fl_bipush hm_50 rfl rfl ?_
    have b292_ : 0 ≤ F282_ 344 5 ∧ F282_ 344 5 ≤ 600 := gi_g g283_ rfl
    refine gVv (nY := 2) (F := 2) (L := 41) (As := [.int (Int32.ofInt 40)]) (b := 344) (rest := []) hm_50 rfl hm_51 rfl rfl (fl_ob sc_344) rfl rfl rfl rfl rfl (by omega) (by omega) (mc_51 hG F282_ X g283_ (K) (40) (0) hgK rk291_ hkt (⟨by omega, by omega⟩) (by omega) (by omega)) (fun _ _ h => False.elim h) ?_
    have b294_ : 0 ≤ F282_ 344 10 ∧ F282_ 344 10 ≤ 600 := gi_g g283_ rfl
    have b295_ : 0 ≤ F282_ 344 9 ∧ F282_ 344 9 ≤ 5 := gi_g g283_ rfl
    rintro A1_ (⟨F299_, hA_, g300_, s301_, c296_, c297_, c298_⟩ | ⟨F305_, hA_, g306_, s307_, c302_, c303_, c304_⟩)
    ·
      subst hA_
      have g308_ : fs [(344, 344, 5, 5), (344, 344, 9, 10), (344, 344, 14, 15), (344, 344, 17, 17), (344, 344, 21, 21), (344, 344, 63, 63), (349, 363, 0, 100000), (383, 383, 0, 100000)] F F299_ := fs_tr g290_ s301_ rfl
      have rk309_ : rk K F299_ := rk_fs rk291_ s301_ (fs_rg rfl) rfl
      have c297_s := c297_.1 (by omega)
      clear c297_
      have b310_ : 0 ≤ F299_ 344 9 ∧ F299_ 344 9 ≤ 5 := gi_g g300_ rfl
      have b311_ : 0 ≤ F299_ 344 10 ∧ F299_ 344 10 ≤ 600 := gi_g g300_ rfl
      have b312_ : 0 ≤ F299_ 344 5 ∧ F299_ 344 5 ≤ 600 := gi_g g300_ rfl
      exact mb_50_80 hG F X hgi K hgK hrk hkt hp h0 h5 h15 h17 h21 fr lo hfr hlo F299_ g300_ g308_ rk309_ (by omega) (⟨by omega, by omega⟩) (⟨by intro h0_; have hs_ := c297_s; rw [sp_dom, sp_open]; rw [(congrArg (sp_kind K 0) h5.symm).trans c12_]; simp only [pb_r]; rw [c35_]; simp only [pb_r]; rw [c58_]; simp only [pb_r]; rw [c81_]; simp only [pb_r]; rw [(show sp_kind K 2 (F83_ 344 5) = .inr (F83_ 344 5 + 1) by rw [sp_kind, if_pos (by omega), sk, if_pos (by omega)])]; simp only [pb_r]; rw [c168_]; simp only [pb_r]; rw [c191_]; simp only [pb_r]; rw [if_pos c207_.2, sp_rtypes, (show sp_word K [58, 116, 121, 112, 101, 115] (F193_ 344 5) = .inr (F193_ 344 5 + 1) by rw [sp_word, if_pos c207_.2, sk, if_pos (by omega)])]; simp only [pb_r]; rw [st1_ok ctt1_]; simp only [pb_r]; rw [c280_]; simp only [pb_r]; rw [hs_]; try (show Sum.inl _ = _); try (congr 2 <;> omega), fun h0_ => by exfalso; omega⟩)
    subst hA_
    have g313_ : fs [(344, 344, 5, 5), (344, 344, 9, 10), (344, 344, 14, 15), (344, 344, 17, 17), (344, 344, 21, 21), (344, 344, 63, 63), (349, 363, 0, 100000), (383, 383, 0, 100000)] F F305_ := fs_tr g290_ s307_ rfl
    have rk314_ : rk K F305_ := rk_fs rk291_ s307_ (fs_rg rfl) rfl
    have b315_ : 0 ≤ F305_ 344 9 ∧ F305_ 344 9 ≤ 5 := gi_g g306_ rfl
    have b316_ : 0 ≤ F305_ 344 10 ∧ F305_ 344 10 ≤ 600 := gi_g g306_ rfl
    have b317_ : 0 ≤ F305_ 344 5 ∧ F305_ 344 5 ≤ 600 := gi_g g306_ rfl
    have e318_ : F14_ 344 17 = F 344 17 := (s16_ 344 17 rfl).trans (rfl)
    have e319_ : F37_ 344 17 = F 344 17 := (s39_ 344 17 rfl).trans (e318_)
    have e320_ : F60_ 344 17 = F 344 17 := (s62_ 344 17 rfl).trans (e319_)
    have e321_ : F83_ 344 17 = F 344 17 := (s85_ 344 17 rfl).trans (e320_)
    have e322_ : F111_ 344 17 = F 344 17 := (s113_ 344 17 rfl).trans (e321_)
    have e323_ : F151_ 344 17 = F 344 17 := by rw [q152_]; exact (fl_u_ne (by first | exact nc_ rfl | decide | omega)).trans ((fl_u_ne (by first | exact nc_ rfl | decide | omega)).trans (e322_))
    have e324_ : F170_ 344 17 = F 344 17 := (s172_ 344 17 rfl).trans (e323_)
    have e325_ : F193_ 344 17 = F 344 17 := (s195_ 344 17 rfl).trans (e324_)
    have e326_ : F231_ 344 17 = F 344 17 := by rw [q232_]; exact (fl_u_ne (by first | exact nc_ rfl | decide | omega)).trans (e325_)
    have e327_ : F259_ 344 17 = F 344 17 := (s261_ 344 17 rfl).trans (e326_)
    have e328_ : F282_ 344 17 = F 344 17 := (s284_ 344 17 rfl).trans (e327_)
    have e329_ : F305_ 344 17 = F 344 17 := (s307_ 344 17 rfl).trans (e328_)
    have b330_ : 0 ≤ F 344 17 ∧ F 344 17 ≤ 6 := gi_g hgi rfl
    have e331_ : F14_ 344 21 = F 344 21 := (s16_ 344 21 rfl).trans (rfl)
    have e332_ : F37_ 344 21 = F 344 21 := (s39_ 344 21 rfl).trans (e331_)
    have e333_ : F60_ 344 21 = F 344 21 := (s62_ 344 21 rfl).trans (e332_)
    have e334_ : F83_ 344 21 = F 344 21 := (s85_ 344 21 rfl).trans (e333_)
    have e335_ : F111_ 344 21 = F 344 21 := (s113_ 344 21 rfl).trans (e334_)
    have e336_ : F151_ 344 21 = F 344 21 := by rw [q152_]; exact (fl_u_ne (by first | exact nc_ rfl | decide | omega)).trans ((fl_u_ne (by first | exact nc_ rfl | decide | omega)).trans (e335_))
    have e337_ : F170_ 344 21 = F 344 21 := (s172_ 344 21 rfl).trans (e336_)
    have e338_ : F193_ 344 21 = F 344 21 := (s195_ 344 21 rfl).trans (e337_)
    have e339_ : F231_ 344 21 = F 344 21 := by rw [q232_]; exact (fl_u_ne (by first | exact nc_ rfl | decide | omega)).trans (e338_)
    have e340_ : F259_ 344 21 = F 344 21 := (s261_ 344 21 rfl).trans (e339_)
    have e341_ : F282_ 344 21 = F 344 21 := (s284_ 344 21 rfl).trans (e340_)
    have e342_ : F305_ 344 21 = F 344 21 := (s307_ 344 21 rfl).trans (e341_)
    have b343_ : 0 ≤ F 344 21 ∧ F 344 21 ≤ 5 := gi_g hgi rfl
    have e344_ : F151_ 344 14 = z94_ := by rw [q152_]; exact (fl_u_ne (by first | exact nc_ rfl | decide | omega)).trans (fl_u_eq)
    have e345_ : F170_ 344 14 = z94_ := (s172_ 344 14 rfl).trans (e344_)
    have e346_ : F193_ 344 14 = z94_ := (s195_ 344 14 rfl).trans (e345_)
    have e347_ : F231_ 344 14 = z94_ := by rw [q232_]; exact (fl_u_ne (by first | exact nc_ rfl | decide | omega)).trans (e346_)
    have e348_ : F259_ 344 14 = z94_ := (s261_ 344 14 rfl).trans (e347_)
    have e349_ : F282_ 344 14 = z94_ := (s284_ 344 14 rfl).trans (e348_)
    have e350_ : F305_ 344 14 = z94_ := (s307_ 344 14 rfl).trans (e349_)
    exact mg_50_80 hG F X hgi K hgK hrk hkt hp h0 h5 h15 h17 h21 fr lo hfr hlo F305_ (ts_) g306_ g313_ rk314_ ⟨by omega, by omega⟩ ⟨by omega, by omega⟩ (by rw [sp_dom, sp_open]; rw [(congrArg (sp_kind K 0) h5.symm).trans c12_]; simp only [pb_r]; rw [c35_]; simp only [pb_r]; rw [c58_]; simp only [pb_r]; rw [c81_]; simp only [pb_r]; rw [(show sp_kind K 2 (F83_ 344 5) = .inr (F83_ 344 5 + 1) by rw [sp_kind, if_pos (by omega), sk, if_pos (by omega)])]; simp only [pb_r]; rw [c168_]; simp only [pb_r]; rw [c191_]; simp only [pb_r]; rw [if_pos c207_.2, sp_rtypes, (show sp_word K [58, 116, 121, 112, 101, 115] (F193_ 344 5) = .inr (F193_ 344 5 + 1) by rw [sp_word, if_pos c207_.2, sk, if_pos (by omega)])]; simp only [pb_r]; rw [st1_ok ctt1_]; simp only [pb_r]; rw [c280_]; simp only [pb_r]; rw [c303_]; simp only [pb_r]; rfl) ((rpn_fs (rpn_fs ctt3_ s284_ (fun _ => (by first | exact fs_c rfl | exact (fs_n (by omega) (fs_n (by omega) rfl)))) (by first | exact fs_c rfl | exact (fs_n (by omega) (fs_n (by omega) rfl)))) s307_ (fun _ => (by first | exact fs_c rfl | exact (fs_n (by omega) (fs_n (by omega) rfl)))) (by first | exact fs_c rfl | exact (fs_n (by omega) (fs_n (by omega) rfl))))) (by omega) (by omega) (by rw [e350_, show sp_dnm K = K 6 (F83_ 344 5).toNat from (by unfold sp_dnm sp_open; rw [(congrArg (sp_kind K 0) h5.symm).trans c12_]; simp only [pb_r]; rw [c35_]; simp only [pb_r]; rw [c58_]; simp only [pb_r]; rw [c81_])]; exact c107_) (by rw [sp_head, sp_open]; rw [(congrArg (sp_kind K 0) h5.symm).trans c12_]; simp only [pb_r]; rw [c35_]; simp only [pb_r]; rw [c58_]; simp only [pb_r]; rw [c81_]; simp only [pb_r]; rw [(show sp_kind K 2 (F83_ 344 5) = .inr (F83_ 344 5 + 1) by rw [sp_kind, if_pos (by omega), sk, if_pos (by omega)])]; simp only [pb_r]; rw [c168_]; simp only [pb_r]; rw [c191_]; simp only [pb_r]; rw [if_pos c207_.2, sp_rtypes, (show sp_word K [58, 116, 121, 112, 101, 115] (F193_ 344 5) = .inr (F193_ 344 5 + 1) by rw [sp_word, if_pos c207_.2, sk, if_pos (by omega)])]; simp only [pb_r]; rw [st1_ok ctt1_]; simp only [pb_r]; rw [c280_]; simp only [pb_r]; rw [c303_]; simp only [pb_r]; rfl)
  exfalso; omega

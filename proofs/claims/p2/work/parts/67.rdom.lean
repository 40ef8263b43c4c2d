theorem st1_ok {K : fl_N} {l : List Int} {m : Nat} {p : Int} {q : Int × List Int} (h : sp_t1 K m l p = .inr q) : sp_types K m l p = .inr q := by
  unfold sp_t1 at h
  obtain ⟨a, h1, h2⟩ := pb_ok h
  split at h2
  · rw [h1, Sum.inr.inj h2]
  · cases h2
theorem st1_fl {K : fl_N} {l : List Int} {m : Nat} {p : Int} {e : Int × Int} {α : Type} {f : Int × List Int → Int → PR α} (h : sp_t1 K m l p = .inl e) : pb (sp_types K m l p) (fun r => pb (sp_kind K 1 r.1) (f r)) = .inl e := by
  unfold sp_t1 at h
  cases hx : sp_types K m l p with
  | inl e2 =>
    rw [hx] at h
    have h9 : e2 = e := Sum.inl.inj h
    rw [h9]
    rfl
  | inr a =>
    rw [hx, pb_r] at h
    split at h
    · cases h
    · rename_i hk
      rw [pb_r, sp_kind, if_neg hk]
      have h9 := Sum.inl.inj h
      show Sum.inl (1, K 4 _) = _
      rw [h9]
theorem sq_step {K : fl_N} {ts l l2 t : List Int} {ps : List (List Int)} {p p2 : Int} (hl : (l.length : Int) ≤ 6) (hk : (l.length : Int) = 0 ∨ K 3 p.toNat = 0) (h : sp_q1 K ts l p = .inr (p2, l2, t)) (h2 : l2.length = l.length + 1) : sp_preds K ts (6 - l.length) l ps p = sp_preds K ts (6 - l2.length) l2 (ps ++ [t]) p2 := by
  unfold sp_q1 at h
  split at h
  · cases h
  · rename_i h6
    have hs := spq_step (K := K) (ts := ts) (l := l) (ps := ps) (i := (l.length : Int)) (p := p) (by omega) rfl hk
    rw [show ((6 : Int) - (l.length : Int)).toNat = 6 - l.length by omega, show ((6 : Int) - ((l.length : Int) + 1)).toNat = 6 - l2.length by omega] at hs
    rw [hs]
    obtain ⟨a, e1, h⟩ := pb_ok h
    rw [e1, pb_r]
    obtain ⟨b, e2, h⟩ := pb_ok h
    rw [e2, pb_r]
    obtain ⟨c, e3, h⟩ := pb_ok h
    rw [e3, pb_r]
    obtain ⟨d, e4, h⟩ := pb_ok h
    rw [e4, pb_r]
    have h9 := Prod.mk.inj (Sum.inr.inj h)
    have h8 := Prod.mk.inj h9.2
    rw [h9.1, h8.1, h8.2]
theorem sq_f {K : fl_N} {ts l : List Int} {ps : List (List Int)} {p : Int} {e : Int × Int} {α : Type} {f : Int × List Int × List (List Int) → Int → PR α} (hl : (l.length : Int) ≤ 6) (hk : (l.length : Int) = 0 ∨ K 3 p.toNat = 0) (h : sp_q1 K ts l p = .inl e) : pb (sp_preds K ts (6 - l.length) l ps p) (fun q => pb (sp_kind K 1 q.1) (f q)) = .inl e := by
  unfold sp_q1 at h
  split at h
  · rename_i h6
    have h5 : K 3 p.toNat = 0 := by omega
    rw [show 6 - l.length = 0 by omega, sp_preds, pb_r, sp_kind, if_neg (by omega)]
    exact h
  · rename_i h6
    have hs := spq_step (K := K) (ts := ts) (l := l) (ps := ps) (i := (l.length : Int)) (p := p) (by omega) rfl hk
    rw [show ((6 : Int) - (l.length : Int)).toNat = 6 - l.length by omega] at hs
    rw [hs]
    cases e1 : sp_kind K 0 p with
    | inl x => rw [e1] at h; exact h
    | inr a =>
      rw [e1, pb_r] at h
      rw [pb_r]
      cases e2 : sp_new K 2 l a with
      | inl x => rw [e2] at h; exact h
      | inr b =>
        rw [e2, pb_r] at h
        rw [pb_r]
        cases e3 : sp_params K ts 2 [] [] b.1 with
        | inl x => rw [e3] at h; exact h
        | inr c =>
          rw [e3, pb_r] at h
          rw [pb_r]
          cases e4 : sp_kind K 1 c.1 with
          | inl x => rw [e4] at h; exact h
          | inr d => rw [e4] at h; cases h
theorem sq_e {K : fl_N} {ts l : List Int} {ps : List (List Int)} {m : Nat} {p : Int} (hl : 0 < (l.length : Int)) (hk : ¬ K 3 p.toNat = 0) : sp_preds K ts m l ps p = .inr (p, l, ps) := spq_e rfl (by omega) hk
theorem sa_step {K : fl_N} {ts pl al al2 : List Int} {ps : List (List Int)} {p p2 : Int} (hl : (al.length : Int) ≤ 5) (hk : (al.length : Int) = 0 ∨ K 3 p.toNat = 0) (h : sp_a1 K ts pl ps al p = .inr (p2, al2)) (h2 : al2.length = al.length + 1) : sp_actions K ts pl ps (5 - al.length) al p = sp_actions K ts pl ps (5 - al2.length) al2 p2 := by
  unfold sp_a1 at h
  split at h
  · cases h
  · rename_i h6
    have hs := spa_step (K := K) (ts := ts) (pl := pl) (ps := ps) (al := al) (i := (al.length : Int)) (p := p) (by omega) rfl hk
    rw [show ((5 : Int) - (al.length : Int)).toNat = 5 - al.length by omega, show ((5 : Int) - ((al.length : Int) + 1)).toNat = 5 - al2.length by omega] at hs
    rw [hs, h, pb_r]
theorem sa_f {K : fl_N} {ts pl al : List Int} {ps : List (List Int)} {p : Int} {e : Int × Int} {α : Type} {f : Int × List Int → Int → PR α} (hl : (al.length : Int) ≤ 5) (hk : (al.length : Int) = 0 ∨ K 3 p.toNat = 0) (h : sp_a1 K ts pl ps al p = .inl e) : pb (sp_actions K ts pl ps (5 - al.length) al p) (fun a => pb (sp_close K a.1) (f a)) = .inl e := by
  unfold sp_a1 at h
  split at h
  · rename_i h6
    have h5 : K 3 p.toNat = 0 := by omega
    rw [show 5 - al.length = 0 by omega, sp_actions, pb_r, sp_close, sp_kind, if_neg (by omega)]
    exact h
  · rename_i h6
    have hs := spa_step (K := K) (ts := ts) (pl := pl) (ps := ps) (al := al) (i := (al.length : Int)) (p := p) (by omega) rfl hk
    rw [show ((5 : Int) - (al.length : Int)).toNat = 5 - al.length by omega] at hs
    rw [hs, h]
    rfl
theorem sa_e {K : fl_N} {ts pl al : List Int} {ps : List (List Int)} {m : Nat} {p : Int} (hl : 0 < (al.length : Int)) (hk : ¬ K 3 p.toNat = 0) : sp_actions K ts pl ps m al p = .inr (p, al) := spa_e rfl (by omega) hk

/- CheapPlannerModel.readDomain -/
abbrev pq_50 (G : Nat → Nat → Option Nat) (F : fl_N) (X : xi_H) (K : fl_N) : Outcome → xi_H → Prop := gqv (fun A => (∃ F' : fl_N, fl_H sh_T G F' ++ X = A ∧ gi F' ∧ fs [(344, 344, 5, 5), (344, 344, 9, 10), (344, 344, 14, 15), (344, 344, 17, 17), (344, 344, 21, 21), (344, 344, 63, 63), (349, 363, 0, 100000), (383, 383, 0, 100000)] F F' ∧ (¬ F' 344 9 = 0) ∧ ((F 344 9 = 0 → sp_dom K = .inl (F' 344 9, F' 344 10)) ∧ (¬ F 344 9 = 0 → F' 344 9 = F 344 9 ∧ F' 344 10 = F 344 10)) ∧ (0 ≤ F' 344 5 ∧ F' 344 5 ≤ K 1 6 - 1)) ∨ (∃ F' : fl_N, fl_H sh_T G F' ++ X = A ∧ gi F' ∧ fs [(344, 344, 5, 5), (344, 344, 9, 10), (344, 344, 14, 15), (344, 344, 17, 17), (344, 344, 21, 21), (344, 344, 63, 63), (349, 363, 0, 100000), (383, 383, 0, 100000)] F F' ∧ (F' 344 9 = 0 ∧ F 344 9 = 0) ∧ (∃ ts pl ps al, sp_dom K = .inr (ts, pl, ps, al) ∧ rpn (F' 349) (F' 344 15) ts ∧ rpn (F' 350) (F' 344 17) pl ∧ (rprd F' ps ∧ ps.length = pl.length) ∧ rpn (F' 353) (F' 344 21) al) ∧ (0 ≤ F' 344 5 ∧ F' 344 5 ≤ K 1 6 - 1))) gqn
set_option maxHeartbeats 16000000 in
theorem mc_50 {G : Nat → Nat → Option Nat} (hG : gg G) (F : fl_N) (X : xi_H) (hgi : gi F) (K : fl_N) (hgK : gi K) (hrk : rk K F) (hkt : rkt K) (hp : 0 ≤ F 344 5 ∧ F 344 5 ≤ K 1 6 - 1) (h0 : F 344 9 = 0) (h5 : F 344 5 = 0) (h15 : F 344 15 = 0) (h17 : F 344 17 = 0) (h21 : F 344 21 = 0) : fl_M xi_ms 50 8 188 [.ref 344] (fl_H sh_T G F ++ X) (pq_50 G F X K) := by
  intro fr lo hfr hlo
  show fl_R xi_ms 50 fr lo 0 [(0, .ref 344)] [] _ _
  have hP := (rkt_p hkt hp.1 hp.2 hgK).1
  have hK16 : 0 ≤ K 1 6 ∧ K 1 6 ≤ 601 := gi_g hgK rfl
  have hko := hkt.1
  have B151_ : ∀ (Fb : fl_N), (gi Fb) → (fs [(344, 344, 5, 5), (344, 344, 9, 10), (344, 344, 14, 15), (344, 344, 17, 17), (344, 344, 21, 21), (344, 344, 63, 63), (349, 363, 0, 100000), (383, 383, 0, 100000)] F Fb) → (rk K Fb) → (¬ Fb 344 9 = 0) → (0 ≤ Fb 344 5 ∧ Fb 344 5 ≤ K 1 6 - 1) → ((F 344 9 = 0 → sp_dom K = .inl (Fb 344 9, Fb 344 10)) ∧ (¬ F 344 9 = 0 → Fb 344 9 = F 344 9 ∧ Fb 344 10 = F 344 10)) → fl_R xi_ms 50 fr lo 151 [(0, .ref 344)] [] (fl_H sh_T G Fb ++ X) (pq_50 G F X K) := by
    intro Fb hg_Fb hf_Fb hrk_b hbd hp_b hb
    refine ga_aload_n (v := .ref 344) hm_50 rfl rfl rfl ?_
    refine gIi (nY := 1) (F := 0) (L := 0) (As := []) (b := 344) (rest := []) hm_50 rfl hm_59 rfl rfl (fl_ob sc_344) rfl rfl rfl rfl rfl (by omega) (by omega) ?_
    intro f1_ l2_ h3_ h4_
    show fl_R xi_ms 59 f1_ l2_ 0 [(0, .ref 344)] [] _ _
    refine ga_aload_n (v := .ref 344) hm_59 rfl rfl rfl ?_
    have b5_ : 0 ≤ Fb 344 9 ∧ Fb 344 9 ≤ 5 := gi_g hg_Fb rfl
    refine ga_geti (z := Fb 344 9) hm_59 rfl sc_344 rfl (rfl) ?_
    refine fl_if_le (a := Fb 344 9) hm_59 rfl ⟨by omega, by omega⟩ (fun h6_ => ?_) (fun h7_ => ?_)
    · exfalso; omega
    refine fl_iconst hm_59 rfl ?_
    refine fl_goto hm_59 rfl ?_
    refine gr_i hm_59 rfl rfl (ga_nb (by omega)) ?_
    clear h3_ h4_ f1_ l2_
    refine fl_if_ne hm_50 rfl ⟨by omega, by omega⟩ (fun _ => ?_) (fun h => absurd (by omega) h)
    refine gr_v hm_50 rfl rfl ?_
    have b8_ : 0 ≤ Fb 344 10 ∧ Fb 344 10 ≤ 600 := gi_g hg_Fb rfl
    have b9_ : 0 ≤ F 344 10 ∧ F 344 10 ≤ 600 := gi_g hgi rfl
    have b10_ : 0 ≤ F 344 9 ∧ F 344 9 ≤ 5 := gi_g hgi rfl
    have b11_ : 0 ≤ Fb 344 5 ∧ Fb 344 5 ≤ 600 := gi_g hg_Fb rfl
    exact Or.inl ⟨Fb, rfl, hg_Fb, hf_Fb, (by omega), (hb), (by omega)⟩
  have B145_ : ∀ (Fb : fl_N), (gi Fb) → (fs [(344, 344, 5, 5), (344, 344, 9, 10), (344, 344, 14, 15), (344, 344, 17, 17), (344, 344, 21, 21), (344, 344, 63, 63), (349, 363, 0, 100000), (383, 383, 0, 100000)] F Fb) → (rk K Fb) → (¬ Fb 344 9 = 0) → (0 ≤ Fb 344 5 ∧ Fb 344 5 ≤ K 1 6 - 1) → ((F 344 9 = 0 → sp_dom K = .inl (Fb 344 9, Fb 344 10)) ∧ (¬ F 344 9 = 0 → Fb 344 9 = F 344 9 ∧ Fb 344 10 = F 344 10)) → fl_R xi_ms 50 fr lo 145 [(0, .ref 344)] [] (fl_H sh_T G Fb ++ X) (pq_50 G F X K) := by
    intro Fb hg_Fb hf_Fb hrk_b hbd hp_b hb
    refine ga_aload_n (v := .ref 344) hm_50 rfl rfl rfl ?_
    refine fl_bipush hm_50 rfl rfl ?_
    have b12_ : 0 ≤ Fb 344 5 ∧ Fb 344 5 ≤ 600 := gi_g hg_Fb rfl
    refine gVv (nY := 2) (F := 2) (L := 41) (As := [.int (Int32.ofInt 41)]) (b := 344) (rest := []) hm_50 rfl hm_51 rfl rfl (fl_ob sc_344) rfl rfl rfl rfl rfl (by omega) (by omega) (mc_51 hG Fb X hg_Fb (K) (41) (1) hgK hrk_b hkt (by omega) (by omega) (by omega)) (fun _ _ h => False.elim h) ?_
    have b14_ : 0 ≤ Fb 344 10 ∧ Fb 344 10 ≤ 600 := gi_g hg_Fb rfl
    have b15_ : 0 ≤ Fb 344 9 ∧ Fb 344 9 ≤ 5 := gi_g hg_Fb rfl
    rintro A1_ (⟨F19_, hA_, g20_, s21_, c16_, c17_, c18_⟩ | ⟨F25_, hA_, g26_, s27_, c22_, c23_, c24_⟩)
    ·
      subst hA_
      have g28_ : fs [(344, 344, 5, 5), (344, 344, 9, 10), (344, 344, 14, 15), (344, 344, 17, 17), (344, 344, 21, 21), (344, 344, 63, 63), (349, 363, 0, 100000), (383, 383, 0, 100000)] F F19_ := fs_tr hf_Fb s21_ rfl
      have rk29_ : rk K F19_ := rk_fs hrk_b s21_ (fun r k h => (fs_n (by omega) (fs_n (by omega) rfl))) (fs_n (by omega) (fs_n (by omega) rfl))
      have c17_k := c17_.2 (by omega)
      clear c17_
      have b30_ : 0 ≤ F19_ 344 9 ∧ F19_ 344 9 ≤ 5 := gi_g g20_ rfl
      have b31_ : 0 ≤ F19_ 344 10 ∧ F19_ 344 10 ≤ 600 := gi_g g20_ rfl
      have b32_ : 0 ≤ F19_ 344 5 ∧ F19_ 344 5 ≤ 600 := gi_g g20_ rfl
      exact B151_ F19_ g20_ g28_ rk29_ (by omega) (by omega) (⟨fun h0_ => by rw [show F19_ 344 9 = Fb 344 9 by omega, show F19_ 344 10 = Fb 344 10 by omega]; exact hb.1 h0_, fun h0_ => by have h1_ := hb.2 h0_; omega⟩)
    exfalso; omega
  have B135_ : ∀ (Fb : fl_N), (gi Fb) → (fs [(344, 344, 5, 5), (344, 344, 9, 10), (344, 344, 14, 15), (344, 344, 17, 17), (344, 344, 21, 21), (344, 344, 63, 63), (349, 363, 0, 100000), (383, 383, 0, 100000)] F Fb) → (rk K Fb) → (¬ Fb 344 9 = 0) → (0 ≤ Fb 344 5 ∧ Fb 344 5 ≤ K 1 6 - 1) → ((F 344 9 = 0 → sp_dom K = .inl (Fb 344 9, Fb 344 10)) ∧ (¬ F 344 9 = 0 → Fb 344 9 = F 344 9 ∧ Fb 344 10 = F 344 10)) → fl_R xi_ms 50 fr lo 135 [(0, .ref 344)] [] (fl_H sh_T G Fb ++ X) (pq_50 G F X K) := by
    intro Fb hg_Fb hf_Fb hrk_b hbd hp_b hb
    refine ga_aload_n (v := .ref 344) hm_50 rfl rfl rfl ?_
    refine fl_bipush hm_50 rfl rfl ?_
    have b33_ : 0 ≤ Fb 344 5 ∧ Fb 344 5 ≤ 600 := gi_g hg_Fb rfl
    refine gVi (nY := 2) (F := 1) (L := 20) (As := [.int (Int32.ofInt 40)]) (b := 344) (rest := []) hm_50 rfl hm_52 rfl rfl (fl_ob sc_344) rfl rfl rfl rfl rfl (by omega) (by omega) (mc_52 hG Fb X hg_Fb (K) (40) hgK hrk_b hkt (by omega) (by omega)) (fun _ _ h => False.elim h) ?_
    have b35_ : 0 ≤ Fb 344 9 ∧ Fb 344 9 ≤ 5 := gi_g hg_Fb rfl
    rintro z34_ A1_ (⟨hA_, hz_, c36_⟩ | ⟨hA_, hz_, c37_, c38_⟩)
    ·
      subst hA_
      subst hz_
      refine ga_istore_n (lv2 := [(1, .int (Int32.ofInt 0)), (0, .ref 344)]) hm_50 rfl (Nat.le_of_ble_eq_true rfl) rfl ?_
      refine fl_goto hm_50 rfl ?_
      refine ga_iload_n (z := 0) hm_50 rfl rfl ?_
      refine fl_if_eq hm_50 rfl ⟨by omega, by omega⟩ (fun _ => ?_) (fun h => absurd (by omega) h)
      have b39_ : 0 ≤ Fb 344 10 ∧ Fb 344 10 ≤ 600 := gi_g hg_Fb rfl
      exact fl_R_sub (lv' := [(0, .ref 344)]) rfl rfl (B145_ Fb hg_Fb hf_Fb hrk_b (by omega) (by omega) (hb))
    exfalso; omega
  have B118_ : ∀ (Fb : fl_N), (gi Fb) → (fs [(344, 344, 5, 5), (344, 344, 9, 10), (344, 344, 14, 15), (344, 344, 17, 17), (344, 344, 21, 21), (344, 344, 63, 63), (349, 363, 0, 100000), (383, 383, 0, 100000)] F Fb) → (rk K Fb) → (¬ Fb 344 9 = 0) → (0 ≤ Fb 344 5 ∧ Fb 344 5 ≤ K 1 6 - 1) → ((F 344 9 = 0 → sp_dom K = .inl (Fb 344 9, Fb 344 10)) ∧ (¬ F 344 9 = 0 → Fb 344 9 = F 344 9 ∧ Fb 344 10 = F 344 10)) → fl_R xi_ms 50 fr lo 118 [(0, .ref 344)] [] (fl_H sh_T G Fb ++ X) (pq_50 G F X K) := by
    intro Fb hg_Fb hf_Fb hrk_b hbd hp_b hb
    refine fl_iconst hm_50 rfl ?_
    refine ga_istore_n (lv2 := [(1, .int (Int32.ofInt 1)), (0, .ref 344)]) hm_50 rfl (Nat.le_of_ble_eq_true rfl) rfl ?_
    refine ga_iload_n (z := 1) hm_50 rfl rfl ?_
    refine fl_if_eq hm_50 rfl ⟨by omega, by omega⟩ (fun h => absurd h (by omega)) (fun _ => ?_)
    refine ga_aload_n (v := .ref 344) hm_50 rfl rfl rfl ?_
    refine gIi (nY := 1) (F := 0) (L := 0) (As := []) (b := 344) (rest := []) hm_50 rfl hm_59 rfl rfl (fl_ob sc_344) rfl rfl rfl rfl rfl (by omega) (by omega) ?_
    intro f40_ l41_ h42_ h43_
    show fl_R xi_ms 59 f40_ l41_ 0 [(0, .ref 344)] [] _ _
    refine ga_aload_n (v := .ref 344) hm_59 rfl rfl rfl ?_
    have b44_ : 0 ≤ Fb 344 9 ∧ Fb 344 9 ≤ 5 := gi_g hg_Fb rfl
    refine ga_geti (z := Fb 344 9) hm_59 rfl sc_344 rfl (rfl) ?_
    refine fl_if_le (a := Fb 344 9) hm_59 rfl ⟨by omega, by omega⟩ (fun h45_ => ?_) (fun h46_ => ?_)
    · exfalso; omega
    refine fl_iconst hm_59 rfl ?_
    refine fl_goto hm_59 rfl ?_
    refine gr_i hm_59 rfl rfl (ga_nb (by omega)) ?_
    clear h42_ h43_ f40_ l41_
    refine fl_if_ne hm_50 rfl ⟨by omega, by omega⟩ (fun _ => ?_) (fun h => absurd (by omega) h)
    have b47_ : 0 ≤ Fb 344 10 ∧ Fb 344 10 ≤ 600 := gi_g hg_Fb rfl
    have b48_ : 0 ≤ Fb 344 5 ∧ Fb 344 5 ≤ 600 := gi_g hg_Fb rfl
    exact fl_R_sub (lv' := [(0, .ref 344)]) rfl rfl (B145_ Fb hg_Fb hf_Fb hrk_b (by omega) (by omega) (hb))
  have B112_ : ∀ (Fb : fl_N), (gi Fb) → (fs [(344, 344, 5, 5), (344, 344, 9, 10), (344, 344, 14, 15), (344, 344, 17, 17), (344, 344, 21, 21), (344, 344, 63, 63), (349, 363, 0, 100000), (383, 383, 0, 100000)] F Fb) → (rk K Fb) → (¬ Fb 344 9 = 0) → (0 ≤ Fb 344 5 ∧ Fb 344 5 ≤ K 1 6 - 1) → ((F 344 9 = 0 → sp_dom K = .inl (Fb 344 9, Fb 344 10)) ∧ (¬ F 344 9 = 0 → Fb 344 9 = F 344 9 ∧ Fb 344 10 = F 344 10)) → fl_R xi_ms 50 fr lo 112 [(0, .ref 344)] [] (fl_H sh_T G Fb ++ X) (pq_50 G F X K) := by
    intro Fb hg_Fb hf_Fb hrk_b hbd hp_b hb
    refine ga_aload_n (v := .ref 344) hm_50 rfl rfl rfl ?_
    refine fl_bipush hm_50 rfl rfl ?_
    have b49_ : 0 ≤ Fb 344 5 ∧ Fb 344 5 ≤ 600 := gi_g hg_Fb rfl
    refine gVv (nY := 2) (F := 2) (L := 41) (As := [.int (Int32.ofInt 41)]) (b := 344) (rest := []) hm_50 rfl hm_51 rfl rfl (fl_ob sc_344) rfl rfl rfl rfl rfl (by omega) (by omega) (mc_51 hG Fb X hg_Fb (K) (41) (1) hgK hrk_b hkt (by omega) (by omega) (by omega)) (fun _ _ h => False.elim h) ?_
    have b51_ : 0 ≤ Fb 344 10 ∧ Fb 344 10 ≤ 600 := gi_g hg_Fb rfl
    have b52_ : 0 ≤ Fb 344 9 ∧ Fb 344 9 ≤ 5 := gi_g hg_Fb rfl
    rintro A1_ (⟨F56_, hA_, g57_, s58_, c53_, c54_, c55_⟩ | ⟨F62_, hA_, g63_, s64_, c59_, c60_, c61_⟩)
    ·
      subst hA_
      have g65_ : fs [(344, 344, 5, 5), (344, 344, 9, 10), (344, 344, 14, 15), (344, 344, 17, 17), (344, 344, 21, 21), (344, 344, 63, 63), (349, 363, 0, 100000), (383, 383, 0, 100000)] F F56_ := fs_tr hf_Fb s58_ rfl
      have rk66_ : rk K F56_ := rk_fs hrk_b s58_ (fun r k h => (fs_n (by omega) (fs_n (by omega) rfl))) (fs_n (by omega) (fs_n (by omega) rfl))
      have c54_k := c54_.2 (by omega)
      clear c54_
      have b67_ : 0 ≤ F56_ 344 9 ∧ F56_ 344 9 ≤ 5 := gi_g g57_ rfl
      have b68_ : 0 ≤ F56_ 344 10 ∧ F56_ 344 10 ≤ 600 := gi_g g57_ rfl
      have b69_ : 0 ≤ F56_ 344 5 ∧ F56_ 344 5 ≤ 600 := gi_g g57_ rfl
      exact B118_ F56_ g57_ g65_ rk66_ (by omega) (by omega) (⟨fun h0_ => by rw [show F56_ 344 9 = Fb 344 9 by omega, show F56_ 344 10 = Fb 344 10 by omega]; exact hb.1 h0_, fun h0_ => by have h1_ := hb.2 h0_; omega⟩)
    exfalso; omega
  have B102_ : ∀ (Fb : fl_N), (gi Fb) → (fs [(344, 344, 5, 5), (344, 344, 9, 10), (344, 344, 14, 15), (344, 344, 17, 17), (344, 344, 21, 21), (344, 344, 63, 63), (349, 363, 0, 100000), (383, 383, 0, 100000)] F Fb) → (rk K Fb) → (¬ Fb 344 9 = 0) → (0 ≤ Fb 344 5 ∧ Fb 344 5 ≤ K 1 6 - 1) → ((F 344 9 = 0 → sp_dom K = .inl (Fb 344 9, Fb 344 10)) ∧ (¬ F 344 9 = 0 → Fb 344 9 = F 344 9 ∧ Fb 344 10 = F 344 10)) → fl_R xi_ms 50 fr lo 102 [(0, .ref 344)] [] (fl_H sh_T G Fb ++ X) (pq_50 G F X K) := by
    intro Fb hg_Fb hf_Fb hrk_b hbd hp_b hb
    refine ga_aload_n (v := .ref 344) hm_50 rfl rfl rfl ?_
    refine fl_bipush hm_50 rfl rfl ?_
    have b70_ : 0 ≤ Fb 344 5 ∧ Fb 344 5 ≤ 600 := gi_g hg_Fb rfl
    refine gVi (nY := 2) (F := 1) (L := 20) (As := [.int (Int32.ofInt 40)]) (b := 344) (rest := []) hm_50 rfl hm_52 rfl rfl (fl_ob sc_344) rfl rfl rfl rfl rfl (by omega) (by omega) (mc_52 hG Fb X hg_Fb (K) (40) hgK hrk_b hkt (by omega) (by omega)) (fun _ _ h => False.elim h) ?_
    have b72_ : 0 ≤ Fb 344 9 ∧ Fb 344 9 ≤ 5 := gi_g hg_Fb rfl
    rintro z71_ A1_ (⟨hA_, hz_, c73_⟩ | ⟨hA_, hz_, c74_, c75_⟩)
    ·
      subst hA_
      subst hz_
      refine ga_istore_n (lv2 := [(1, .int (Int32.ofInt 0)), (0, .ref 344)]) hm_50 rfl (Nat.le_of_ble_eq_true rfl) rfl ?_
      refine fl_goto hm_50 rfl ?_
      refine ga_iload_n (z := 0) hm_50 rfl rfl ?_
      refine fl_if_eq hm_50 rfl ⟨by omega, by omega⟩ (fun _ => ?_) (fun h => absurd (by omega) h)
      have b76_ : 0 ≤ Fb 344 10 ∧ Fb 344 10 ≤ 600 := gi_g hg_Fb rfl
      exact fl_R_sub (lv' := [(0, .ref 344)]) rfl rfl (B112_ Fb hg_Fb hf_Fb hrk_b (by omega) (by omega) (hb))
    exfalso; omega
  have B85_ : ∀ (Fb : fl_N), (gi Fb) → (fs [(344, 344, 5, 5), (344, 344, 9, 10), (344, 344, 14, 15), (344, 344, 17, 17), (344, 344, 21, 21), (344, 344, 63, 63), (349, 363, 0, 100000), (383, 383, 0, 100000)] F Fb) → (rk K Fb) → (¬ Fb 344 9 = 0) → (0 ≤ Fb 344 5 ∧ Fb 344 5 ≤ K 1 6 - 1) → ((F 344 9 = 0 → sp_dom K = .inl (Fb 344 9, Fb 344 10)) ∧ (¬ F 344 9 = 0 → Fb 344 9 = F 344 9 ∧ Fb 344 10 = F 344 10)) → fl_R xi_ms 50 fr lo 85 [(0, .ref 344)] [] (fl_H sh_T G Fb ++ X) (pq_50 G F X K) := by
    intro Fb hg_Fb hf_Fb hrk_b hbd hp_b hb
    refine fl_iconst hm_50 rfl ?_
    refine ga_istore_n (lv2 := [(1, .int (Int32.ofInt 1)), (0, .ref 344)]) hm_50 rfl (Nat.le_of_ble_eq_true rfl) rfl ?_
    refine ga_iload_n (z := 1) hm_50 rfl rfl ?_
    refine fl_if_eq hm_50 rfl ⟨by omega, by omega⟩ (fun h => absurd h (by omega)) (fun _ => ?_)
    refine ga_aload_n (v := .ref 344) hm_50 rfl rfl rfl ?_
    refine gIi (nY := 1) (F := 0) (L := 0) (As := []) (b := 344) (rest := []) hm_50 rfl hm_59 rfl rfl (fl_ob sc_344) rfl rfl rfl rfl rfl (by omega) (by omega) ?_
    intro f77_ l78_ h79_ h80_
    show fl_R xi_ms 59 f77_ l78_ 0 [(0, .ref 344)] [] _ _
    refine ga_aload_n (v := .ref 344) hm_59 rfl rfl rfl ?_
    have b81_ : 0 ≤ Fb 344 9 ∧ Fb 344 9 ≤ 5 := gi_g hg_Fb rfl
    refine ga_geti (z := Fb 344 9) hm_59 rfl sc_344 rfl (rfl) ?_
    refine fl_if_le (a := Fb 344 9) hm_59 rfl ⟨by omega, by omega⟩ (fun h82_ => ?_) (fun h83_ => ?_)
    · exfalso; omega
    refine fl_iconst hm_59 rfl ?_
    refine fl_goto hm_59 rfl ?_
    refine gr_i hm_59 rfl rfl (ga_nb (by omega)) ?_
    clear h79_ h80_ f77_ l78_
    refine fl_if_ne hm_50 rfl ⟨by omega, by omega⟩ (fun _ => ?_) (fun h => absurd (by omega) h)
    have b84_ : 0 ≤ Fb 344 10 ∧ Fb 344 10 ≤ 600 := gi_g hg_Fb rfl
    have b85_ : 0 ≤ Fb 344 5 ∧ Fb 344 5 ≤ 600 := gi_g hg_Fb rfl
    exact fl_R_sub (lv' := [(0, .ref 344)]) rfl rfl (B112_ Fb hg_Fb hf_Fb hrk_b (by omega) (by omega) (hb))
  have B80_ : ∀ (Fb : fl_N), (gi Fb) → (fs [(344, 344, 5, 5), (344, 344, 9, 10), (344, 344, 14, 15), (344, 344, 17, 17), (344, 344, 21, 21), (344, 344, 63, 63), (349, 363, 0, 100000), (383, 383, 0, 100000)] F Fb) → (rk K Fb) → (¬ Fb 344 9 = 0) → (0 ≤ Fb 344 5 ∧ Fb 344 5 ≤ K 1 6 - 1) → ((F 344 9 = 0 → sp_dom K = .inl (Fb 344 9, Fb 344 10)) ∧ (¬ F 344 9 = 0 → Fb 344 9 = F 344 9 ∧ Fb 344 10 = F 344 10)) → fl_R xi_ms 50 fr lo 80 [(0, .ref 344)] [] (fl_H sh_T G Fb ++ X) (pq_50 G F X K) := by
    intro Fb hg_Fb hf_Fb hrk_b hbd hp_b hb
    refine ga_aload_n (v := .ref 344) hm_50 rfl rfl rfl ?_
    refine fl_iconst hm_50 rfl ?_
    have b86_ : 0 ≤ Fb 344 5 ∧ Fb 344 5 ≤ 600 := gi_g hg_Fb rfl
    refine gVv (nY := 2) (F := 2) (L := 44) (As := [.int (Int32.ofInt 3)]) (b := 344) (rest := []) hm_50 rfl hm_55 rfl rfl (fl_ob sc_344) rfl rfl rfl rfl rfl (by omega) (by omega) (mc_55 hG Fb X hg_Fb (K) (3) ([58, 112, 114, 101, 100, 105, 99, 97, 116, 101, 115]) hgK hrk_b hkt (by omega) (by omega) (by decide) (kw_3 hrk_b)) (fun _ _ h => False.elim h) ?_
    have b88_ : 0 ≤ Fb 344 10 ∧ Fb 344 10 ≤ 600 := gi_g hg_Fb rfl
    have b89_ : 0 ≤ Fb 344 9 ∧ Fb 344 9 ≤ 5 := gi_g hg_Fb rfl
    rintro A1_ (⟨F93_, hA_, g94_, s95_, c90_, c91_, c92_⟩ | ⟨F99_, hA_, g100_, s101_, c96_, c97_, c98_⟩)
    ·
      subst hA_
      have g102_ : fs [(344, 344, 5, 5), (344, 344, 9, 10), (344, 344, 14, 15), (344, 344, 17, 17), (344, 344, 21, 21), (344, 344, 63, 63), (349, 363, 0, 100000), (383, 383, 0, 100000)] F F93_ := fs_tr hf_Fb s95_ rfl
      have rk103_ : rk K F93_ := rk_fs hrk_b s95_ (fun r k h => (fs_n (by omega) (fs_n (by omega) rfl))) (fs_n (by omega) (fs_n (by omega) rfl))
      have c91_k := c91_.2 (by omega)
      clear c91_
      have b104_ : 0 ≤ F93_ 344 9 ∧ F93_ 344 9 ≤ 5 := gi_g g94_ rfl
      have b105_ : 0 ≤ F93_ 344 10 ∧ F93_ 344 10 ≤ 600 := gi_g g94_ rfl
      have b106_ : 0 ≤ F93_ 344 5 ∧ F93_ 344 5 ≤ 600 := gi_g g94_ rfl
      exact B85_ F93_ g94_ g102_ rk103_ (by omega) (by omega) (⟨fun h0_ => by rw [show F93_ 344 9 = Fb 344 9 by omega, show F93_ 344 10 = Fb 344 10 by omega]; exact hb.1 h0_, fun h0_ => by have h1_ := hb.2 h0_; omega⟩)
    exfalso; omega
  have B74_ : ∀ (Fb : fl_N), (gi Fb) → (fs [(344, 344, 5, 5), (344, 344, 9, 10), (344, 344, 14, 15), (344, 344, 17, 17), (344, 344, 21, 21), (344, 344, 63, 63), (349, 363, 0, 100000), (383, 383, 0, 100000)] F Fb) → (rk K Fb) → (¬ Fb 344 9 = 0) → (0 ≤ Fb 344 5 ∧ Fb 344 5 ≤ K 1 6 - 1) → ((F 344 9 = 0 → sp_dom K = .inl (Fb 344 9, Fb 344 10)) ∧ (¬ F 344 9 = 0 → Fb 344 9 = F 344 9 ∧ Fb 344 10 = F 344 10)) → fl_R xi_ms 50 fr lo 74 [(0, .ref 344)] [] (fl_H sh_T G Fb ++ X) (pq_50 G F X K) := by
    intro Fb hg_Fb hf_Fb hrk_b hbd hp_b hb
    refine ga_aload_n (v := .ref 344) hm_50 rfl rfl rfl ?_
    refine fl_bipush hm_50 rfl rfl ?_
    have b107_ : 0 ≤ Fb 344 5 ∧ Fb 344 5 ≤ 600 := gi_g hg_Fb rfl
    refine gVv (nY := 2) (F := 2) (L := 41) (As := [.int (Int32.ofInt 40)]) (b := 344) (rest := []) hm_50 rfl hm_51 rfl rfl (fl_ob sc_344) rfl rfl rfl rfl rfl (by omega) (by omega) (mc_51 hG Fb X hg_Fb (K) (40) (0) hgK hrk_b hkt (by omega) (by omega) (by omega)) (fun _ _ h => False.elim h) ?_
    have b109_ : 0 ≤ Fb 344 10 ∧ Fb 344 10 ≤ 600 := gi_g hg_Fb rfl
    have b110_ : 0 ≤ Fb 344 9 ∧ Fb 344 9 ≤ 5 := gi_g hg_Fb rfl
    rintro A1_ (⟨F114_, hA_, g115_, s116_, c111_, c112_, c113_⟩ | ⟨F120_, hA_, g121_, s122_, c117_, c118_, c119_⟩)
    ·
      subst hA_
      have g123_ : fs [(344, 344, 5, 5), (344, 344, 9, 10), (344, 344, 14, 15), (344, 344, 17, 17), (344, 344, 21, 21), (344, 344, 63, 63), (349, 363, 0, 100000), (383, 383, 0, 100000)] F F114_ := fs_tr hf_Fb s116_ rfl
      have rk124_ : rk K F114_ := rk_fs hrk_b s116_ (fun r k h => (fs_n (by omega) (fs_n (by omega) rfl))) (fs_n (by omega) (fs_n (by omega) rfl))
      have c112_k := c112_.2 (by omega)
      clear c112_
      have b125_ : 0 ≤ F114_ 344 9 ∧ F114_ 344 9 ≤ 5 := gi_g g115_ rfl
      have b126_ : 0 ≤ F114_ 344 10 ∧ F114_ 344 10 ≤ 600 := gi_g g115_ rfl
      have b127_ : 0 ≤ F114_ 344 5 ∧ F114_ 344 5 ≤ 600 := gi_g g115_ rfl
      exact B80_ F114_ g115_ g123_ rk124_ (by omega) (by omega) (⟨fun h0_ => by rw [show F114_ 344 9 = Fb 344 9 by omega, show F114_ 344 10 = Fb 344 10 by omega]; exact hb.1 h0_, fun h0_ => by have h1_ := hb.2 h0_; omega⟩)
    exfalso; omega
  have B68_ : ∀ (Fb : fl_N), (gi Fb) → (fs [(344, 344, 5, 5), (344, 344, 9, 10), (344, 344, 14, 15), (344, 344, 17, 17), (344, 344, 21, 21), (344, 344, 63, 63), (349, 363, 0, 100000), (383, 383, 0, 100000)] F Fb) → (rk K Fb) → (¬ Fb 344 9 = 0) → (0 ≤ Fb 344 5 ∧ Fb 344 5 ≤ K 1 6 - 1) → ((F 344 9 = 0 → sp_dom K = .inl (Fb 344 9, Fb 344 10)) ∧ (¬ F 344 9 = 0 → Fb 344 9 = F 344 9 ∧ Fb 344 10 = F 344 10)) → fl_R xi_ms 50 fr lo 68 [(0, .ref 344)] [] (fl_H sh_T G Fb ++ X) (pq_50 G F X K) := by
    intro Fb hg_Fb hf_Fb hrk_b hbd hp_b hb
    refine ga_aload_n (v := .ref 344) hm_50 rfl rfl rfl ?_
    refine fl_bipush hm_50 rfl rfl ?_
    have b128_ : 0 ≤ Fb 344 5 ∧ Fb 344 5 ≤ 600 := gi_g hg_Fb rfl
    refine gVv (nY := 2) (F := 2) (L := 41) (As := [.int (Int32.ofInt 41)]) (b := 344) (rest := []) hm_50 rfl hm_51 rfl rfl (fl_ob sc_344) rfl rfl rfl rfl rfl (by omega) (by omega) (mc_51 hG Fb X hg_Fb (K) (41) (1) hgK hrk_b hkt (by omega) (by omega) (by omega)) (fun _ _ h => False.elim h) ?_
    have b130_ : 0 ≤ Fb 344 10 ∧ Fb 344 10 ≤ 600 := gi_g hg_Fb rfl
    have b131_ : 0 ≤ Fb 344 9 ∧ Fb 344 9 ≤ 5 := gi_g hg_Fb rfl
    rintro A1_ (⟨F135_, hA_, g136_, s137_, c132_, c133_, c134_⟩ | ⟨F141_, hA_, g142_, s143_, c138_, c139_, c140_⟩)
    ·
      subst hA_
      have g144_ : fs [(344, 344, 5, 5), (344, 344, 9, 10), (344, 344, 14, 15), (344, 344, 17, 17), (344, 344, 21, 21), (344, 344, 63, 63), (349, 363, 0, 100000), (383, 383, 0, 100000)] F F135_ := fs_tr hf_Fb s137_ rfl
      have rk145_ : rk K F135_ := rk_fs hrk_b s137_ (fun r k h => (fs_n (by omega) (fs_n (by omega) rfl))) (fs_n (by omega) (fs_n (by omega) rfl))
      have c133_k := c133_.2 (by omega)
      clear c133_
      have b146_ : 0 ≤ F135_ 344 9 ∧ F135_ 344 9 ≤ 5 := gi_g g136_ rfl
      have b147_ : 0 ≤ F135_ 344 10 ∧ F135_ 344 10 ≤ 600 := gi_g g136_ rfl
      have b148_ : 0 ≤ F135_ 344 5 ∧ F135_ 344 5 ≤ 600 := gi_g g136_ rfl
      exact B74_ F135_ g136_ g144_ rk145_ (by omega) (by omega) (⟨fun h0_ => by rw [show F135_ 344 9 = Fb 344 9 by omega, show F135_ 344 10 = Fb 344 10 by omega]; exact hb.1 h0_, fun h0_ => by have h1_ := hb.2 h0_; omega⟩)
    exfalso; omega
  have B46_ : ∀ (Fb : fl_N), (gi Fb) → (fs [(344, 344, 5, 5), (344, 344, 9, 10), (344, 344, 14, 15), (344, 344, 17, 17), (344, 344, 21, 21), (344, 344, 63, 63), (349, 363, 0, 100000), (383, 383, 0, 100000)] F Fb) → (rk K Fb) → (¬ Fb 344 9 = 0) → (0 ≤ Fb 344 5 ∧ Fb 344 5 ≤ K 1 6 - 1) → ((F 344 9 = 0 → sp_dom K = .inl (Fb 344 9, Fb 344 10)) ∧ (¬ F 344 9 = 0 → Fb 344 9 = F 344 9 ∧ Fb 344 10 = F 344 10)) → fl_R xi_ms 50 fr lo 46 [(0, .ref 344)] [] (fl_H sh_T G Fb ++ X) (pq_50 G F X K) := by
    intro Fb hg_Fb hf_Fb hrk_b hbd hp_b hb
    refine ga_aload_n (v := .ref 344) hm_50 rfl rfl rfl ?_
    refine fl_iconst hm_50 rfl ?_
    have b149_ : 0 ≤ Fb 344 5 ∧ Fb 344 5 ≤ 600 := gi_g hg_Fb rfl
    refine gVi (nY := 4) (F := 1) (L := 21) (As := [.int (Int32.ofInt 2)]) (b := 344) (rest := []) hm_50 rfl hm_56 rfl rfl (fl_ob sc_344) rfl rfl rfl rfl rfl (by omega) (by omega) (mc_56 hG Fb X hg_Fb (K) (2) ([58, 116, 121, 112, 101, 115]) hgK hrk_b hkt (by omega) (by omega) (by decide) (kw_2 hrk_b)) (fun _ _ h => False.elim h) ?_
    have b151_ : 0 ≤ Fb 344 9 ∧ Fb 344 9 ≤ 5 := gi_g hg_Fb rfl
    rintro z150_ A1_ (⟨hA_, hz_, c152_⟩ | ⟨hA_, hz_, c153_, c154_⟩)
    ·
      subst hA_
      subst hz_
      refine fl_if_eq hm_50 rfl ⟨by omega, by omega⟩ (fun _ => ?_) (fun h => absurd (by omega) h)
      have b155_ : 0 ≤ Fb 344 10 ∧ Fb 344 10 ≤ 600 := gi_g hg_Fb rfl
      exact B80_ Fb hg_Fb hf_Fb hrk_b (by omega) (by omega) (hb)
    exfalso; omega
  have B40_ : ∀ (Fb : fl_N), (gi Fb) → (fs [(344, 344, 5, 5), (344, 344, 9, 10), (344, 344, 14, 15), (344, 344, 17, 17), (344, 344, 21, 21), (344, 344, 63, 63), (349, 363, 0, 100000), (383, 383, 0, 100000)] F Fb) → (rk K Fb) → (¬ Fb 344 9 = 0) → (0 ≤ Fb 344 5 ∧ Fb 344 5 ≤ K 1 6 - 1) → ((F 344 9 = 0 → sp_dom K = .inl (Fb 344 9, Fb 344 10)) ∧ (¬ F 344 9 = 0 → Fb 344 9 = F 344 9 ∧ Fb 344 10 = F 344 10)) → fl_R xi_ms 50 fr lo 40 [(0, .ref 344)] [] (fl_H sh_T G Fb ++ X) (pq_50 G F X K) := by
    intro Fb hg_Fb hf_Fb hrk_b hbd hp_b hb
    refine ga_aload_n (v := .ref 344) hm_50 rfl rfl rfl ?_
    refine fl_bipush hm_50 rfl rfl ?_
    have b156_ : 0 ≤ Fb 344 5 ∧ Fb 344 5 ≤ 600 := gi_g hg_Fb rfl
    refine gVv (nY := 2) (F := 2) (L := 41) (As := [.int (Int32.ofInt 40)]) (b := 344) (rest := []) hm_50 rfl hm_51 rfl rfl (fl_ob sc_344) rfl rfl rfl rfl rfl (by omega) (by omega) (mc_51 hG Fb X hg_Fb (K) (40) (0) hgK hrk_b hkt (by omega) (by omega) (by omega)) (fun _ _ h => False.elim h) ?_
    have b158_ : 0 ≤ Fb 344 10 ∧ Fb 344 10 ≤ 600 := gi_g hg_Fb rfl
    have b159_ : 0 ≤ Fb 344 9 ∧ Fb 344 9 ≤ 5 := gi_g hg_Fb rfl
    rintro A1_ (⟨F163_, hA_, g164_, s165_, c160_, c161_, c162_⟩ | ⟨F169_, hA_, g170_, s171_, c166_, c167_, c168_⟩)
    ·
      subst hA_
      have g172_ : fs [(344, 344, 5, 5), (344, 344, 9, 10), (344, 344, 14, 15), (344, 344, 17, 17), (344, 344, 21, 21), (344, 344, 63, 63), (349, 363, 0, 100000), (383, 383, 0, 100000)] F F163_ := fs_tr hf_Fb s165_ rfl
      have rk173_ : rk K F163_ := rk_fs hrk_b s165_ (fun r k h => (fs_n (by omega) (fs_n (by omega) rfl))) (fs_n (by omega) (fs_n (by omega) rfl))
      have c161_k := c161_.2 (by omega)
      clear c161_
      have b174_ : 0 ≤ F163_ 344 9 ∧ F163_ 344 9 ≤ 5 := gi_g g164_ rfl
      have b175_ : 0 ≤ F163_ 344 10 ∧ F163_ 344 10 ≤ 600 := gi_g g164_ rfl
      have b176_ : 0 ≤ F163_ 344 5 ∧ F163_ 344 5 ≤ 600 := gi_g g164_ rfl
      exact B46_ F163_ g164_ g172_ rk173_ (by omega) (by omega) (⟨fun h0_ => by rw [show F163_ 344 9 = Fb 344 9 by omega, show F163_ 344 10 = Fb 344 10 by omega]; exact hb.1 h0_, fun h0_ => by have h1_ := hb.2 h0_; omega⟩)
    exfalso; omega
  have B34_ : ∀ (Fb : fl_N), (gi Fb) → (fs [(344, 344, 5, 5), (344, 344, 9, 10), (344, 344, 14, 15), (344, 344, 17, 17), (344, 344, 21, 21), (344, 344, 63, 63), (349, 363, 0, 100000), (383, 383, 0, 100000)] F Fb) → (rk K Fb) → (¬ Fb 344 9 = 0) → (0 ≤ Fb 344 5 ∧ Fb 344 5 ≤ K 1 6 - 1) → ((F 344 9 = 0 → sp_dom K = .inl (Fb 344 9, Fb 344 10)) ∧ (¬ F 344 9 = 0 → Fb 344 9 = F 344 9 ∧ Fb 344 10 = F 344 10)) → fl_R xi_ms 50 fr lo 34 [(0, .ref 344)] [] (fl_H sh_T G Fb ++ X) (pq_50 G F X K) := by
    intro Fb hg_Fb hf_Fb hrk_b hbd hp_b hb
    refine ga_aload_n (v := .ref 344) hm_50 rfl rfl rfl ?_
    refine fl_bipush hm_50 rfl rfl ?_
    have b177_ : 0 ≤ Fb 344 5 ∧ Fb 344 5 ≤ 600 := gi_g hg_Fb rfl
    refine gVv (nY := 2) (F := 2) (L := 41) (As := [.int (Int32.ofInt 41)]) (b := 344) (rest := []) hm_50 rfl hm_51 rfl rfl (fl_ob sc_344) rfl rfl rfl rfl rfl (by omega) (by omega) (mc_51 hG Fb X hg_Fb (K) (41) (1) hgK hrk_b hkt (by omega) (by omega) (by omega)) (fun _ _ h => False.elim h) ?_
    have b179_ : 0 ≤ Fb 344 10 ∧ Fb 344 10 ≤ 600 := gi_g hg_Fb rfl
    have b180_ : 0 ≤ Fb 344 9 ∧ Fb 344 9 ≤ 5 := gi_g hg_Fb rfl
    rintro A1_ (⟨F184_, hA_, g185_, s186_, c181_, c182_, c183_⟩ | ⟨F190_, hA_, g191_, s192_, c187_, c188_, c189_⟩)
    ·
      subst hA_
      have g193_ : fs [(344, 344, 5, 5), (344, 344, 9, 10), (344, 344, 14, 15), (344, 344, 17, 17), (344, 344, 21, 21), (344, 344, 63, 63), (349, 363, 0, 100000), (383, 383, 0, 100000)] F F184_ := fs_tr hf_Fb s186_ rfl
      have rk194_ : rk K F184_ := rk_fs hrk_b s186_ (fun r k h => (fs_n (by omega) (fs_n (by omega) rfl))) (fs_n (by omega) (fs_n (by omega) rfl))
      have c182_k := c182_.2 (by omega)
      clear c182_
      have b195_ : 0 ≤ F184_ 344 9 ∧ F184_ 344 9 ≤ 5 := gi_g g185_ rfl
      have b196_ : 0 ≤ F184_ 344 10 ∧ F184_ 344 10 ≤ 600 := gi_g g185_ rfl
      have b197_ : 0 ≤ F184_ 344 5 ∧ F184_ 344 5 ≤ 600 := gi_g g185_ rfl
      exact B40_ F184_ g185_ g193_ rk194_ (by omega) (by omega) (⟨fun h0_ => by rw [show F184_ 344 9 = Fb 344 9 by omega, show F184_ 344 10 = Fb 344 10 by omega]; exact hb.1 h0_, fun h0_ => by have h1_ := hb.2 h0_; omega⟩)
    exfalso; omega
  have B22_ : ∀ (Fb : fl_N), (gi Fb) → (fs [(344, 344, 5, 5), (344, 344, 9, 10), (344, 344, 14, 15), (344, 344, 17, 17), (344, 344, 21, 21), (344, 344, 63, 63), (349, 363, 0, 100000), (383, 383, 0, 100000)] F Fb) → (rk K Fb) → (¬ Fb 344 9 = 0) → (0 ≤ Fb 344 5 ∧ Fb 344 5 ≤ K 1 6 - 1) → ((F 344 9 = 0 → sp_dom K = .inl (Fb 344 9, Fb 344 10)) ∧ (¬ F 344 9 = 0 → Fb 344 9 = F 344 9 ∧ Fb 344 10 = F 344 10)) → fl_R xi_ms 50 fr lo 22 [(0, .ref 344)] [] (fl_H sh_T G Fb ++ X) (pq_50 G F X K) := by
    intro Fb hg_Fb hf_Fb hrk_b hbd hp_b hb
    refine ga_aload_n (v := .ref 344) hm_50 rfl rfl rfl ?_
    refine ga_aload_n (v := .ref 344) hm_50 rfl rfl rfl ?_
    have b198_ : 0 ≤ Fb 344 5 ∧ Fb 344 5 ≤ 600 := gi_g hg_Fb rfl
    refine gVl (nY := 3) (F := 2) (L := 46) (As := []) (b := 344) (rest := [.ref 344]) hm_50 rfl hm_58 rfl rfl (fl_ob sc_344) rfl rfl rfl rfl rfl (by omega) (by omega) (mc_58 hG Fb X hg_Fb (K) hgK hrk_b hkt (by omega)) (fun _ _ h => False.elim h) ?_
    have b200_ : 0 ≤ Fb 344 10 ∧ Fb 344 10 ≤ 600 := gi_g hg_Fb rfl
    have b201_ : 0 ≤ Fb 344 9 ∧ Fb 344 9 ≤ 5 := gi_g hg_Fb rfl
    rintro z199_ A1_ (⟨F206_, hA_, g207_, s208_, c202_, c203_, c204_, c205_⟩ | ⟨F216_, hA_, g217_, s218_, c209_, c210_, c211_, c212_, c213_, c214_, c215_⟩)
    ·
      subst hA_
      have g219_ : fs [(344, 344, 5, 5), (344, 344, 9, 10), (344, 344, 14, 15), (344, 344, 17, 17), (344, 344, 21, 21), (344, 344, 63, 63), (349, 363, 0, 100000), (383, 383, 0, 100000)] F F206_ := fs_tr hf_Fb s208_ rfl
      have rk220_ : rk K F206_ := rk_fs hrk_b s208_ (fun r k h => (fs_n (by omega) rfl)) (fs_n (by omega) rfl)
      have c203_k := c203_.2 (by omega)
      clear c203_
      refine ga_putl hm_50 rfl sc_344 rfl rfl ?_
      refine ga_aload_n (v := .ref 344) hm_50 rfl rfl rfl ?_
      refine gIv (nY := 1) (F := 1) (L := 20) (As := []) (b := 344) (rest := []) hm_50 rfl hm_61 rfl rfl (fl_ob sc_344) rfl rfl rfl rfl rfl (by omega) (by omega) ?_
      intro f221_ l222_ h223_ h224_
      show fl_R xi_ms 61 f221_ l222_ 0 [(0, .ref 344)] [] _ _
      refine ga_aload_n (v := .ref 344) hm_61 rfl rfl rfl ?_
      refine ga_dup hm_61 rfl rfl ?_
      have e225_ : F206_ 344 5 = Fb 344 5 := (s208_ 344 5 rfl).trans (rfl)
      refine ga_geti (z := Fb 344 5) hm_61 rfl sc_344 rfl ((fl_u_ne (by omega)).trans (e225_)) ?_
      refine ga_aload_n (v := .ref 344) hm_61 rfl rfl rfl ?_
      refine gIi (nY := 1) (F := 0) (L := 0) (As := []) (b := 344) (rest := [.int (Int32.ofInt (Fb 344 5)), .ref 344]) hm_61 rfl hm_59 rfl rfl (fl_ob sc_344) rfl rfl rfl rfl rfl (by omega) (by omega) ?_
      intro f226_ l227_ h228_ h229_
      show fl_R xi_ms 59 f226_ l227_ 0 [(0, .ref 344)] [] _ _
      refine ga_aload_n (v := .ref 344) hm_59 rfl rfl rfl ?_
      have b230_ : 0 ≤ F206_ 344 9 ∧ F206_ 344 9 ≤ 5 := gi_g g207_ rfl
      refine ga_geti (z := F206_ 344 9) hm_59 rfl sc_344 rfl (fl_u_ne (by omega)) ?_
      refine fl_if_le (a := F206_ 344 9) hm_59 rfl ⟨by omega, by omega⟩ (fun h231_ => ?_) (fun h232_ => ?_)
      · exfalso; omega
      refine fl_iconst hm_59 rfl ?_
      refine fl_goto hm_59 rfl ?_
      refine gr_i hm_59 rfl rfl (ga_nb (by omega)) ?_
      clear h228_ h229_ f226_ l227_
      refine fl_if_eq hm_61 rfl ⟨by omega, by omega⟩ (fun h => absurd h (by omega)) (fun _ => ?_)
      refine fl_iconst hm_61 rfl ?_
      refine fl_goto hm_61 rfl ?_
      refine ga_iadd (a := Fb 344 5) (b := 0) (c := Fb 344 5) hm_61 rfl (by omega) ?_
      refine ga_puti (z := Fb 344 5) hm_61 rfl sc_344 rfl rfl ?_
      refine gr_v hm_61 rfl rfl ?_
      clear h223_ h224_ f221_ l222_
      obtain ⟨F233_, q234_⟩ : ∃ F9_, F9_ = (fl_u (fl_u F206_ 344 14 z199_) 344 5 (Fb 344 5)) := ⟨_, rfl⟩
      rw [← q234_]
      have g235_ : gi F233_ := by rw [q234_]; exact gi_u (gi_u (g207_) rfl (by omega) (by omega)) rfl (by omega) (by omega)
      have g236_ : fs [(344, 344, 5, 5), (344, 344, 9, 10), (344, 344, 14, 15), (344, 344, 17, 17), (344, 344, 21, 21), (344, 344, 63, 63), (349, 363, 0, 100000), (383, 383, 0, 100000)] F F233_ := by rw [q234_]; exact fs_u (fs_u (g219_) rfl) rfl
      have rk237_ : rk K F233_ := by rw [q234_]; exact rk_u (rk_u (rk220_) (by omega) (by omega)) (by omega) (by omega)
      have e238_ : F233_ 344 9 = F206_ 344 9 := by rw [q234_]; exact (fl_u_ne (by omega)).trans (fl_u_ne (by omega))
      have e239_ : F233_ 344 10 = F206_ 344 10 := by rw [q234_]; exact (fl_u_ne (by omega)).trans (fl_u_ne (by omega))
      have b240_ : 0 ≤ F206_ 344 10 ∧ F206_ 344 10 ≤ 600 := gi_g g207_ rfl
      have e241_ : F233_ 344 5 = Fb 344 5 := by rw [q234_]; exact fl_u_eq
      exact B34_ F233_ g235_ g236_ rk237_ (by omega) (by omega) (⟨fun h0_ => by rw [show F233_ 344 9 = Fb 344 9 by omega, show F233_ 344 10 = Fb 344 10 by omega]; exact hb.1 h0_, fun h0_ => by have h1_ := hb.2 h0_; omega⟩)
    exfalso; omega
  have B17_ : ∀ (Fb : fl_N), (gi Fb) → (fs [(344, 344, 5, 5), (344, 344, 9, 10), (344, 344, 14, 15), (344, 344, 17, 17), (344, 344, 21, 21), (344, 344, 63, 63), (349, 363, 0, 100000), (383, 383, 0, 100000)] F Fb) → (rk K Fb) → (¬ Fb 344 9 = 0) → (0 ≤ Fb 344 5 ∧ Fb 344 5 ≤ K 1 6 - 1) → ((F 344 9 = 0 → sp_dom K = .inl (Fb 344 9, Fb 344 10)) ∧ (¬ F 344 9 = 0 → Fb 344 9 = F 344 9 ∧ Fb 344 10 = F 344 10)) → fl_R xi_ms 50 fr lo 17 [(0, .ref 344)] [] (fl_H sh_T G Fb ++ X) (pq_50 G F X K) := by
    intro Fb hg_Fb hf_Fb hrk_b hbd hp_b hb
    refine ga_aload_n (v := .ref 344) hm_50 rfl rfl rfl ?_
    refine fl_iconst hm_50 rfl ?_
    have b242_ : 0 ≤ Fb 344 5 ∧ Fb 344 5 ≤ 600 := gi_g hg_Fb rfl
    refine gVv (nY := 2) (F := 2) (L := 44) (As := [.int (Int32.ofInt 1)]) (b := 344) (rest := []) hm_50 rfl hm_55 rfl rfl (fl_ob sc_344) rfl rfl rfl rfl rfl (by omega) (by omega) (mc_55 hG Fb X hg_Fb (K) (1) ([100, 111, 109, 97, 105, 110]) hgK hrk_b hkt (by omega) (by omega) (by decide) (kw_1 hrk_b)) (fun _ _ h => False.elim h) ?_
    have b244_ : 0 ≤ Fb 344 10 ∧ Fb 344 10 ≤ 600 := gi_g hg_Fb rfl
    have b245_ : 0 ≤ Fb 344 9 ∧ Fb 344 9 ≤ 5 := gi_g hg_Fb rfl
    rintro A1_ (⟨F249_, hA_, g250_, s251_, c246_, c247_, c248_⟩ | ⟨F255_, hA_, g256_, s257_, c252_, c253_, c254_⟩)
    ·
      subst hA_
      have g258_ : fs [(344, 344, 5, 5), (344, 344, 9, 10), (344, 344, 14, 15), (344, 344, 17, 17), (344, 344, 21, 21), (344, 344, 63, 63), (349, 363, 0, 100000), (383, 383, 0, 100000)] F F249_ := fs_tr hf_Fb s251_ rfl
      have rk259_ : rk K F249_ := rk_fs hrk_b s251_ (fun r k h => (fs_n (by omega) (fs_n (by omega) rfl))) (fs_n (by omega) (fs_n (by omega) rfl))
      have c247_k := c247_.2 (by omega)
      clear c247_
      have b260_ : 0 ≤ F249_ 344 9 ∧ F249_ 344 9 ≤ 5 := gi_g g250_ rfl
      have b261_ : 0 ≤ F249_ 344 10 ∧ F249_ 344 10 ≤ 600 := gi_g g250_ rfl
      have b262_ : 0 ≤ F249_ 344 5 ∧ F249_ 344 5 ≤ 600 := gi_g g250_ rfl
      exact B22_ F249_ g250_ g258_ rk259_ (by omega) (by omega) (⟨fun h0_ => by rw [show F249_ 344 9 = Fb 344 9 by omega, show F249_ 344 10 = Fb 344 10 by omega]; exact hb.1 h0_, fun h0_ => by have h1_ := hb.2 h0_; omega⟩)
    exfalso; omega
  have B11_ : ∀ (Fb : fl_N), (gi Fb) → (fs [(344, 344, 5, 5), (344, 344, 9, 10), (344, 344, 14, 15), (344, 344, 17, 17), (344, 344, 21, 21), (344, 344, 63, 63), (349, 363, 0, 100000), (383, 383, 0, 100000)] F Fb) → (rk K Fb) → (¬ Fb 344 9 = 0) → (0 ≤ Fb 344 5 ∧ Fb 344 5 ≤ K 1 6 - 1) → ((F 344 9 = 0 → sp_dom K = .inl (Fb 344 9, Fb 344 10)) ∧ (¬ F 344 9 = 0 → Fb 344 9 = F 344 9 ∧ Fb 344 10 = F 344 10)) → fl_R xi_ms 50 fr lo 11 [(0, .ref 344)] [] (fl_H sh_T G Fb ++ X) (pq_50 G F X K) := by
    intro Fb hg_Fb hf_Fb hrk_b hbd hp_b hb
    refine ga_aload_n (v := .ref 344) hm_50 rfl rfl rfl ?_
    refine fl_bipush hm_50 rfl rfl ?_
    have b263_ : 0 ≤ Fb 344 5 ∧ Fb 344 5 ≤ 600 := gi_g hg_Fb rfl
    refine gVv (nY := 2) (F := 2) (L := 41) (As := [.int (Int32.ofInt 40)]) (b := 344) (rest := []) hm_50 rfl hm_51 rfl rfl (fl_ob sc_344) rfl rfl rfl rfl rfl (by omega) (by omega) (mc_51 hG Fb X hg_Fb (K) (40) (0) hgK hrk_b hkt (by omega) (by omega) (by omega)) (fun _ _ h => False.elim h) ?_
    have b265_ : 0 ≤ Fb 344 10 ∧ Fb 344 10 ≤ 600 := gi_g hg_Fb rfl
    have b266_ : 0 ≤ Fb 344 9 ∧ Fb 344 9 ≤ 5 := gi_g hg_Fb rfl
    rintro A1_ (⟨F270_, hA_, g271_, s272_, c267_, c268_, c269_⟩ | ⟨F276_, hA_, g277_, s278_, c273_, c274_, c275_⟩)
    ·
      subst hA_
      have g279_ : fs [(344, 344, 5, 5), (344, 344, 9, 10), (344, 344, 14, 15), (344, 344, 17, 17), (344, 344, 21, 21), (344, 344, 63, 63), (349, 363, 0, 100000), (383, 383, 0, 100000)] F F270_ := fs_tr hf_Fb s272_ rfl
      have rk280_ : rk K F270_ := rk_fs hrk_b s272_ (fun r k h => (fs_n (by omega) (fs_n (by omega) rfl))) (fs_n (by omega) (fs_n (by omega) rfl))
      have c268_k := c268_.2 (by omega)
      clear c268_
      have b281_ : 0 ≤ F270_ 344 9 ∧ F270_ 344 9 ≤ 5 := gi_g g271_ rfl
      have b282_ : 0 ≤ F270_ 344 10 ∧ F270_ 344 10 ≤ 600 := gi_g g271_ rfl
      have b283_ : 0 ≤ F270_ 344 5 ∧ F270_ 344 5 ≤ 600 := gi_g g271_ rfl
      exact B17_ F270_ g271_ g279_ rk280_ (by omega) (by omega) (⟨fun h0_ => by rw [show F270_ 344 9 = Fb 344 9 by omega, show F270_ 344 10 = Fb 344 10 by omega]; exact hb.1 h0_, fun h0_ => by have h1_ := hb.2 h0_; omega⟩)
    exfalso; omega
  have B6_ : ∀ (Fb : fl_N), (gi Fb) → (fs [(344, 344, 5, 5), (344, 344, 9, 10), (344, 344, 14, 15), (344, 344, 17, 17), (344, 344, 21, 21), (344, 344, 63, 63), (349, 363, 0, 100000), (383, 383, 0, 100000)] F Fb) → (rk K Fb) → (¬ Fb 344 9 = 0) → (0 ≤ Fb 344 5 ∧ Fb 344 5 ≤ K 1 6 - 1) → ((F 344 9 = 0 → sp_dom K = .inl (Fb 344 9, Fb 344 10)) ∧ (¬ F 344 9 = 0 → Fb 344 9 = F 344 9 ∧ Fb 344 10 = F 344 10)) → fl_R xi_ms 50 fr lo 6 [(0, .ref 344)] [] (fl_H sh_T G Fb ++ X) (pq_50 G F X K) := by
    intro Fb hg_Fb hf_Fb hrk_b hbd hp_b hb
    refine ga_aload_n (v := .ref 344) hm_50 rfl rfl rfl ?_
    refine fl_iconst hm_50 rfl ?_
    have b284_ : 0 ≤ Fb 344 5 ∧ Fb 344 5 ≤ 600 := gi_g hg_Fb rfl
    refine gVv (nY := 2) (F := 2) (L := 44) (As := [.int (Int32.ofInt 0)]) (b := 344) (rest := []) hm_50 rfl hm_55 rfl rfl (fl_ob sc_344) rfl rfl rfl rfl rfl (by omega) (by omega) (mc_55 hG Fb X hg_Fb (K) (0) ([100, 101, 102, 105, 110, 101]) hgK hrk_b hkt (by omega) (by omega) (by decide) (kw_0 hrk_b)) (fun _ _ h => False.elim h) ?_
    have b286_ : 0 ≤ Fb 344 10 ∧ Fb 344 10 ≤ 600 := gi_g hg_Fb rfl
    have b287_ : 0 ≤ Fb 344 9 ∧ Fb 344 9 ≤ 5 := gi_g hg_Fb rfl
    rintro A1_ (⟨F291_, hA_, g292_, s293_, c288_, c289_, c290_⟩ | ⟨F297_, hA_, g298_, s299_, c294_, c295_, c296_⟩)
    ·
      subst hA_
      have g300_ : fs [(344, 344, 5, 5), (344, 344, 9, 10), (344, 344, 14, 15), (344, 344, 17, 17), (344, 344, 21, 21), (344, 344, 63, 63), (349, 363, 0, 100000), (383, 383, 0, 100000)] F F291_ := fs_tr hf_Fb s293_ rfl
      have rk301_ : rk K F291_ := rk_fs hrk_b s293_ (fun r k h => (fs_n (by omega) (fs_n (by omega) rfl))) (fs_n (by omega) (fs_n (by omega) rfl))
      have c289_k := c289_.2 (by omega)
      clear c289_
      have b302_ : 0 ≤ F291_ 344 9 ∧ F291_ 344 9 ≤ 5 := gi_g g292_ rfl
      have b303_ : 0 ≤ F291_ 344 10 ∧ F291_ 344 10 ≤ 600 := gi_g g292_ rfl
      have b304_ : 0 ≤ F291_ 344 5 ∧ F291_ 344 5 ≤ 600 := gi_g g292_ rfl
      exact B11_ F291_ g292_ g300_ rk301_ (by omega) (by omega) (⟨fun h0_ => by rw [show F291_ 344 9 = Fb 344 9 by omega, show F291_ 344 10 = Fb 344 10 by omega]; exact hb.1 h0_, fun h0_ => by have h1_ := hb.2 h0_; omega⟩)
    exfalso; omega
  have h0_9 := h0
  refine ga_aload_n (v := .ref 344) hm_50 rfl rfl rfl ?_
  refine fl_bipush hm_50 rfl rfl ?_
  have b305_ : 0 ≤ F 344 5 ∧ F 344 5 ≤ 600 := gi_g hgi rfl
  refine gVv (nY := 2) (F := 2) (L := 41) (As := [.int (Int32.ofInt 40)]) (b := 344) (rest := []) hm_50 rfl hm_51 rfl rfl (fl_ob sc_344) rfl rfl rfl rfl rfl (by omega) (by omega) (mc_51 hG F X hgi (K) (40) (0) hgK hrk hkt (by omega) (by omega) (by omega)) (fun _ _ h => False.elim h) ?_
  have b307_ : 0 ≤ F 344 10 ∧ F 344 10 ≤ 600 := gi_g hgi rfl
  have b308_ : 0 ≤ F 344 9 ∧ F 344 9 ≤ 5 := gi_g hgi rfl
  rintro A1_ (⟨F312_, hA_, g313_, s314_, c309_, c310_, c311_⟩ | ⟨F318_, hA_, g319_, s320_, c315_, c316_, c317_⟩)
  ·
    subst hA_
    have g321_ : fs [(344, 344, 5, 5), (344, 344, 9, 10), (344, 344, 14, 15), (344, 344, 17, 17), (344, 344, 21, 21), (344, 344, 63, 63), (349, 363, 0, 100000), (383, 383, 0, 100000)] F F312_ := fs_tr fs_refl s314_ rfl
    have rk322_ : rk K F312_ := rk_fs hrk s314_ (fun r k h => (fs_n (by omega) (fs_n (by omega) rfl))) (fs_n (by omega) (fs_n (by omega) rfl))
    have c310_s := c310_.1 (by omega)
    clear c310_
    have b323_ : 0 ≤ F312_ 344 9 ∧ F312_ 344 9 ≤ 5 := gi_g g313_ rfl
    have b324_ : 0 ≤ F312_ 344 10 ∧ F312_ 344 10 ≤ 600 := gi_g g313_ rfl
    have b325_ : 0 ≤ F312_ 344 5 ∧ F312_ 344 5 ≤ 600 := gi_g g313_ rfl
    exact B6_ F312_ g313_ g321_ rk322_ (by omega) (by omega) (⟨by intro h0_; have hs_ := c310_s; rw [sp_dom, sp_open]; rw [h5] at hs_; rw [hs_]; try (show Sum.inl _ = _); try (congr 2 <;> omega), fun h0_ => by exfalso; omega⟩)
  subst hA_
  have g326_ : fs [(344, 344, 5, 5), (344, 344, 9, 10), (344, 344, 14, 15), (344, 344, 17, 17), (344, 344, 21, 21), (344, 344, 63, 63), (349, 363, 0, 100000), (383, 383, 0, 100000)] F F318_ := fs_tr fs_refl s320_ rfl
  have rk327_ : rk K F318_ := rk_fs hrk s320_ (fun r k h => (fs_n (by omega) (fs_n (by omega) rfl))) (fs_n (by omega) (fs_n (by omega) rfl))
  refine ga_aload_n (v := .ref 344) hm_50 rfl rfl rfl ?_
  refine fl_iconst hm_50 rfl ?_
  have b328_ : 0 ≤ F318_ 344 5 ∧ F318_ 344 5 ≤ 600 := gi_g g319_ rfl
  refine gVv (nY := 2) (F := 2) (L := 44) (As := [.int (Int32.ofInt 0)]) (b := 344) (rest := []) hm_50 rfl hm_55 rfl rfl (fl_ob sc_344) rfl rfl rfl rfl rfl (by omega) (by omega) (mc_55 hG F318_ X g319_ (K) (0) ([100, 101, 102, 105, 110, 101]) hgK rk327_ hkt (by omega) (by omega) (by decide) (kw_0 rk327_)) (fun _ _ h => False.elim h) ?_
  have b330_ : 0 ≤ F318_ 344 10 ∧ F318_ 344 10 ≤ 600 := gi_g g319_ rfl
  have b331_ : 0 ≤ F318_ 344 9 ∧ F318_ 344 9 ≤ 5 := gi_g g319_ rfl
  rintro A1_ (⟨F335_, hA_, g336_, s337_, c332_, c333_, c334_⟩ | ⟨F341_, hA_, g342_, s343_, c338_, c339_, c340_⟩)
  ·
    subst hA_
    have g344_ : fs [(344, 344, 5, 5), (344, 344, 9, 10), (344, 344, 14, 15), (344, 344, 17, 17), (344, 344, 21, 21), (344, 344, 63, 63), (349, 363, 0, 100000), (383, 383, 0, 100000)] F F335_ := fs_tr g326_ s337_ rfl
    have rk345_ : rk K F335_ := rk_fs rk327_ s337_ (fun r k h => (fs_n (by omega) (fs_n (by omega) rfl))) (fs_n (by omega) (fs_n (by omega) rfl))
    have c333_s := c333_.1 (by omega)
    clear c333_
    have b346_ : 0 ≤ F335_ 344 9 ∧ F335_ 344 9 ≤ 5 := gi_g g336_ rfl
    have b347_ : 0 ≤ F335_ 344 10 ∧ F335_ 344 10 ≤ 600 := gi_g g336_ rfl
    have b348_ : 0 ≤ F335_ 344 5 ∧ F335_ 344 5 ≤ 600 := gi_g g336_ rfl
    exact B11_ F335_ g336_ g344_ rk345_ (by omega) (by omega) (⟨by intro h0_; have hs_ := c333_s; rw [sp_dom, sp_open]; rw [(show sp_kind K 0 0 = _ from by have x_ := c316_; rw [h5] at x_; exact x_)]; simp only [pb_r]; rw [hs_]; try (show Sum.inl _ = _); try (congr 2 <;> omega), fun h0_ => by exfalso; omega⟩)
  subst hA_
  have g349_ : fs [(344, 344, 5, 5), (344, 344, 9, 10), (344, 344, 14, 15), (344, 344, 17, 17), (344, 344, 21, 21), (344, 344, 63, 63), (349, 363, 0, 100000), (383, 383, 0, 100000)] F F341_ := fs_tr g326_ s343_ rfl
  have rk350_ : rk K F341_ := rk_fs rk327_ s343_ (fun r k h => (fs_n (by omega) (fs_n (by omega) rfl))) (fs_n (by omega) (fs_n (by omega) rfl))
  refine ga_aload_n (v := .ref 344) hm_50 rfl rfl rfl ?_
  refine fl_bipush hm_50 rfl rfl ?_
  have b351_ : 0 ≤ F341_ 344 5 ∧ F341_ 344 5 ≤ 600 := gi_g g342_ rfl
  refine gVv (nY := 2) (F := 2) (L := 41) (As := [.int (Int32.ofInt 40)]) (b := 344) (rest := []) hm_50 rfl hm_51 rfl rfl (fl_ob sc_344) rfl rfl rfl rfl rfl (by omega) (by omega) (mc_51 hG F341_ X g342_ (K) (40) (0) hgK rk350_ hkt (by omega) (by omega) (by omega)) (fun _ _ h => False.elim h) ?_
  have b353_ : 0 ≤ F341_ 344 10 ∧ F341_ 344 10 ≤ 600 := gi_g g342_ rfl
  have b354_ : 0 ≤ F341_ 344 9 ∧ F341_ 344 9 ≤ 5 := gi_g g342_ rfl
  rintro A1_ (⟨F358_, hA_, g359_, s360_, c355_, c356_, c357_⟩ | ⟨F364_, hA_, g365_, s366_, c361_, c362_, c363_⟩)
  ·
    subst hA_
    have g367_ : fs [(344, 344, 5, 5), (344, 344, 9, 10), (344, 344, 14, 15), (344, 344, 17, 17), (344, 344, 21, 21), (344, 344, 63, 63), (349, 363, 0, 100000), (383, 383, 0, 100000)] F F358_ := fs_tr g349_ s360_ rfl
    have rk368_ : rk K F358_ := rk_fs rk350_ s360_ (fun r k h => (fs_n (by omega) (fs_n (by omega) rfl))) (fs_n (by omega) (fs_n (by omega) rfl))
    have c356_s := c356_.1 (by omega)
    clear c356_
    have b369_ : 0 ≤ F358_ 344 9 ∧ F358_ 344 9 ≤ 5 := gi_g g359_ rfl
    have b370_ : 0 ≤ F358_ 344 10 ∧ F358_ 344 10 ≤ 600 := gi_g g359_ rfl
    have b371_ : 0 ≤ F358_ 344 5 ∧ F358_ 344 5 ≤ 600 := gi_g g359_ rfl
    exact B17_ F358_ g359_ g367_ rk368_ (by omega) (by omega) (⟨by intro h0_; have hs_ := c356_s; rw [sp_dom, sp_open]; rw [(show sp_kind K 0 0 = _ from by have x_ := c316_; rw [h5] at x_; exact x_)]; simp only [pb_r]; rw [c339_]; simp only [pb_r]; rw [hs_]; try (show Sum.inl _ = _); try (congr 2 <;> omega), fun h0_ => by exfalso; omega⟩)
  subst hA_
  have g372_ : fs [(344, 344, 5, 5), (344, 344, 9, 10), (344, 344, 14, 15), (344, 344, 17, 17), (344, 344, 21, 21), (344, 344, 63, 63), (349, 363, 0, 100000), (383, 383, 0, 100000)] F F364_ := fs_tr g349_ s366_ rfl
  have rk373_ : rk K F364_ := rk_fs rk350_ s366_ (fun r k h => (fs_n (by omega) (fs_n (by omega) rfl))) (fs_n (by omega) (fs_n (by omega) rfl))
  refine ga_aload_n (v := .ref 344) hm_50 rfl rfl rfl ?_
  refine fl_iconst hm_50 rfl ?_
  have b374_ : 0 ≤ F364_ 344 5 ∧ F364_ 344 5 ≤ 600 := gi_g g365_ rfl
  refine gVv (nY := 2) (F := 2) (L := 44) (As := [.int (Int32.ofInt 1)]) (b := 344) (rest := []) hm_50 rfl hm_55 rfl rfl (fl_ob sc_344) rfl rfl rfl rfl rfl (by omega) (by omega) (mc_55 hG F364_ X g365_ (K) (1) ([100, 111, 109, 97, 105, 110]) hgK rk373_ hkt (by omega) (by omega) (by decide) (kw_1 rk373_)) (fun _ _ h => False.elim h) ?_
  have b376_ : 0 ≤ F364_ 344 10 ∧ F364_ 344 10 ≤ 600 := gi_g g365_ rfl
  have b377_ : 0 ≤ F364_ 344 9 ∧ F364_ 344 9 ≤ 5 := gi_g g365_ rfl
  rintro A1_ (⟨F381_, hA_, g382_, s383_, c378_, c379_, c380_⟩ | ⟨F387_, hA_, g388_, s389_, c384_, c385_, c386_⟩)
  ·
    subst hA_
    have g390_ : fs [(344, 344, 5, 5), (344, 344, 9, 10), (344, 344, 14, 15), (344, 344, 17, 17), (344, 344, 21, 21), (344, 344, 63, 63), (349, 363, 0, 100000), (383, 383, 0, 100000)] F F381_ := fs_tr g372_ s383_ rfl
    have rk391_ : rk K F381_ := rk_fs rk373_ s383_ (fun r k h => (fs_n (by omega) (fs_n (by omega) rfl))) (fs_n (by omega) (fs_n (by omega) rfl))
    have c379_s := c379_.1 (by omega)
    clear c379_
    have b392_ : 0 ≤ F381_ 344 9 ∧ F381_ 344 9 ≤ 5 := gi_g g382_ rfl
    have b393_ : 0 ≤ F381_ 344 10 ∧ F381_ 344 10 ≤ 600 := gi_g g382_ rfl
    have b394_ : 0 ≤ F381_ 344 5 ∧ F381_ 344 5 ≤ 600 := gi_g g382_ rfl
    exact B22_ F381_ g382_ g390_ rk391_ (by omega) (by omega) (⟨by intro h0_; have hs_ := c379_s; rw [sp_dom, sp_open]; rw [(show sp_kind K 0 0 = _ from by have x_ := c316_; rw [h5] at x_; exact x_)]; simp only [pb_r]; rw [c339_]; simp only [pb_r]; rw [c362_]; simp only [pb_r]; rw [hs_]; try (show Sum.inl _ = _); try (congr 2 <;> omega), fun h0_ => by exfalso; omega⟩)
  subst hA_
  have g395_ : fs [(344, 344, 5, 5), (344, 344, 9, 10), (344, 344, 14, 15), (344, 344, 17, 17), (344, 344, 21, 21), (344, 344, 63, 63), (349, 363, 0, 100000), (383, 383, 0, 100000)] F F387_ := fs_tr g372_ s389_ rfl
  have rk396_ : rk K F387_ := rk_fs rk373_ s389_ (fun r k h => (fs_n (by omega) (fs_n (by omega) rfl))) (fs_n (by omega) (fs_n (by omega) rfl))
  refine ga_aload_n (v := .ref 344) hm_50 rfl rfl rfl ?_
  refine ga_aload_n (v := .ref 344) hm_50 rfl rfl rfl ?_
  have b397_ : 0 ≤ F387_ 344 5 ∧ F387_ 344 5 ≤ 600 := gi_g g388_ rfl
  refine gVl (nY := 3) (F := 2) (L := 46) (As := []) (b := 344) (rest := [.ref 344]) hm_50 rfl hm_58 rfl rfl (fl_ob sc_344) rfl rfl rfl rfl rfl (by omega) (by omega) (mc_58 hG F387_ X g388_ (K) hgK rk396_ hkt (by omega)) (fun _ _ h => False.elim h) ?_
  have b399_ : 0 ≤ F387_ 344 10 ∧ F387_ 344 10 ≤ 600 := gi_g g388_ rfl
  have b400_ : 0 ≤ F387_ 344 9 ∧ F387_ 344 9 ≤ 5 := gi_g g388_ rfl
  rintro z398_ A1_ (⟨F405_, hA_, g406_, s407_, c401_, c402_, c403_, c404_⟩ | ⟨F415_, hA_, g416_, s417_, c408_, c409_, c410_, c411_, c412_, c413_, c414_⟩)
  ·
    subst hA_
    have g418_ : fs [(344, 344, 5, 5), (344, 344, 9, 10), (344, 344, 14, 15), (344, 344, 17, 17), (344, 344, 21, 21), (344, 344, 63, 63), (349, 363, 0, 100000), (383, 383, 0, 100000)] F F405_ := fs_tr g395_ s407_ rfl
    have rk419_ : rk K F405_ := rk_fs rk396_ s407_ (fun r k h => (fs_n (by omega) rfl)) (fs_n (by omega) rfl)
    have c402_s := c402_.1 (by omega)
    clear c402_
    refine ga_putl hm_50 rfl sc_344 rfl rfl ?_
    refine ga_aload_n (v := .ref 344) hm_50 rfl rfl rfl ?_
    refine gIv (nY := 1) (F := 1) (L := 20) (As := []) (b := 344) (rest := []) hm_50 rfl hm_61 rfl rfl (fl_ob sc_344) rfl rfl rfl rfl rfl (by omega) (by omega) ?_
    intro f420_ l421_ h422_ h423_
    show fl_R xi_ms 61 f420_ l421_ 0 [(0, .ref 344)] [] _ _
    refine ga_aload_n (v := .ref 344) hm_61 rfl rfl rfl ?_
    refine ga_dup hm_61 rfl rfl ?_
    have e424_ : F405_ 344 5 = F387_ 344 5 := (s407_ 344 5 rfl).trans (rfl)
    refine ga_geti (z := F387_ 344 5) hm_61 rfl sc_344 rfl ((fl_u_ne (by omega)).trans (e424_)) ?_
    refine ga_aload_n (v := .ref 344) hm_61 rfl rfl rfl ?_
    refine gIi (nY := 1) (F := 0) (L := 0) (As := []) (b := 344) (rest := [.int (Int32.ofInt (F387_ 344 5)), .ref 344]) hm_61 rfl hm_59 rfl rfl (fl_ob sc_344) rfl rfl rfl rfl rfl (by omega) (by omega) ?_
    intro f425_ l426_ h427_ h428_
    show fl_R xi_ms 59 f425_ l426_ 0 [(0, .ref 344)] [] _ _
    refine ga_aload_n (v := .ref 344) hm_59 rfl rfl rfl ?_
    have b429_ : 0 ≤ F405_ 344 9 ∧ F405_ 344 9 ≤ 5 := gi_g g406_ rfl
    refine ga_geti (z := F405_ 344 9) hm_59 rfl sc_344 rfl (fl_u_ne (by omega)) ?_
    refine fl_if_le (a := F405_ 344 9) hm_59 rfl ⟨by omega, by omega⟩ (fun h430_ => ?_) (fun h431_ => ?_)
    · exfalso; omega
    refine fl_iconst hm_59 rfl ?_
    refine fl_goto hm_59 rfl ?_
    refine gr_i hm_59 rfl rfl (ga_nb (by omega)) ?_
    clear h427_ h428_ f425_ l426_
    refine fl_if_eq hm_61 rfl ⟨by omega, by omega⟩ (fun h => absurd h (by omega)) (fun _ => ?_)
    refine fl_iconst hm_61 rfl ?_
    refine fl_goto hm_61 rfl ?_
    refine ga_iadd (a := F387_ 344 5) (b := 0) (c := F387_ 344 5) hm_61 rfl (by omega) ?_
    refine ga_puti (z := F387_ 344 5) hm_61 rfl sc_344 rfl rfl ?_
    refine gr_v hm_61 rfl rfl ?_
    clear h422_ h423_ f420_ l421_
    obtain ⟨F432_, q433_⟩ : ∃ F9_, F9_ = (fl_u (fl_u F405_ 344 14 z398_) 344 5 (F387_ 344 5)) := ⟨_, rfl⟩
    rw [← q433_]
    have g434_ : gi F432_ := by rw [q433_]; exact gi_u (gi_u (g406_) rfl (by omega) (by omega)) rfl (by omega) (by omega)
    have g435_ : fs [(344, 344, 5, 5), (344, 344, 9, 10), (344, 344, 14, 15), (344, 344, 17, 17), (344, 344, 21, 21), (344, 344, 63, 63), (349, 363, 0, 100000), (383, 383, 0, 100000)] F F432_ := by rw [q433_]; exact fs_u (fs_u (g418_) rfl) rfl
    have rk436_ : rk K F432_ := by rw [q433_]; exact rk_u (rk_u (rk419_) (by omega) (by omega)) (by omega) (by omega)
    have e437_ : F432_ 344 9 = F405_ 344 9 := by rw [q433_]; exact (fl_u_ne (by omega)).trans (fl_u_ne (by omega))
    have e438_ : F432_ 344 10 = F405_ 344 10 := by rw [q433_]; exact (fl_u_ne (by omega)).trans (fl_u_ne (by omega))
    have b439_ : 0 ≤ F405_ 344 10 ∧ F405_ 344 10 ≤ 600 := gi_g g406_ rfl
    have e440_ : F432_ 344 5 = F387_ 344 5 := by rw [q433_]; exact fl_u_eq
    exact B34_ F432_ g434_ g435_ rk436_ (by omega) (by omega) (⟨by intro h0_; have hs_ := c402_s; rw [sp_dom, sp_open]; rw [(show sp_kind K 0 0 = _ from by have x_ := c316_; rw [h5] at x_; exact x_)]; simp only [pb_r]; rw [c339_]; simp only [pb_r]; rw [c362_]; simp only [pb_r]; rw [c385_]; simp only [pb_r]; have h1_ := nm_no hs_; rw [sp_nm, if_neg h1_] at hs_; have h2_ := Prod.mk.inj (Sum.inl.inj hs_); rw [sp_kind, if_neg h1_]; show Sum.inl (1, K 4 _) = _; congr 2 <;> omega, fun h0_ => by exfalso; omega⟩)
  subst hA_
  have g441_ : fs [(344, 344, 5, 5), (344, 344, 9, 10), (344, 344, 14, 15), (344, 344, 17, 17), (344, 344, 21, 21), (344, 344, 63, 63), (349, 363, 0, 100000), (383, 383, 0, 100000)] F F415_ := fs_tr g395_ s417_ rfl
  have rk442_ : rk K F415_ := rk_fs rk396_ s417_ (fun r k h => (fs_n (by omega) rfl)) (fs_n (by omega) rfl)
  refine ga_putl hm_50 rfl sc_344 rfl rfl ?_
  refine ga_aload_n (v := .ref 344) hm_50 rfl rfl rfl ?_
  refine gIv (nY := 1) (F := 1) (L := 20) (As := []) (b := 344) (rest := []) hm_50 rfl hm_61 rfl rfl (fl_ob sc_344) rfl rfl rfl rfl rfl (by omega) (by omega) ?_
  intro f443_ l444_ h445_ h446_
  show fl_R xi_ms 61 f443_ l444_ 0 [(0, .ref 344)] [] _ _
  refine ga_aload_n (v := .ref 344) hm_61 rfl rfl rfl ?_
  refine ga_dup hm_61 rfl rfl ?_
  have e447_ : F415_ 344 5 = F387_ 344 5 := (s417_ 344 5 rfl).trans (rfl)
  refine ga_geti (z := F387_ 344 5) hm_61 rfl sc_344 rfl ((fl_u_ne (by omega)).trans (e447_)) ?_
  refine ga_aload_n (v := .ref 344) hm_61 rfl rfl rfl ?_
  refine gIi (nY := 1) (F := 0) (L := 0) (As := []) (b := 344) (rest := [.int (Int32.ofInt (F387_ 344 5)), .ref 344]) hm_61 rfl hm_59 rfl rfl (fl_ob sc_344) rfl rfl rfl rfl rfl (by omega) (by omega) ?_
  intro f448_ l449_ h450_ h451_
  show fl_R xi_ms 59 f448_ l449_ 0 [(0, .ref 344)] [] _ _
  refine ga_aload_n (v := .ref 344) hm_59 rfl rfl rfl ?_
  have b452_ : 0 ≤ F415_ 344 9 ∧ F415_ 344 9 ≤ 5 := gi_g g416_ rfl
  refine ga_geti (z := F415_ 344 9) hm_59 rfl sc_344 rfl (fl_u_ne (by omega)) ?_
  refine fl_if_le (a := F415_ 344 9) hm_59 rfl ⟨by omega, by omega⟩ (fun h453_ => ?_) (fun h454_ => ?_)
  ·
    refine fl_iconst hm_59 rfl ?_
    refine gr_i hm_59 rfl rfl (ga_nb (by omega)) ?_
    clear h450_ h451_ f448_ l449_
    refine fl_if_eq hm_61 rfl ⟨by omega, by omega⟩ (fun _ => ?_) (fun h => absurd (by omega) h)
    refine fl_iconst hm_61 rfl ?_
    refine ga_iadd (a := F387_ 344 5) (b := 1) (c := F387_ 344 5 + 1) hm_61 rfl (by omega) ?_
    refine ga_puti (z := F387_ 344 5 + 1) hm_61 rfl sc_344 rfl rfl ?_
    refine gr_v hm_61 rfl rfl ?_
    clear h445_ h446_ f443_ l444_
    refine ga_aload_n (v := .ref 344) hm_50 rfl rfl rfl ?_
    refine fl_bipush hm_50 rfl rfl ?_
    obtain ⟨F455_, q456_⟩ : ∃ F9_, F9_ = (fl_u (fl_u F415_ 344 14 z398_) 344 5 (F387_ 344 5 + 1)) := ⟨_, rfl⟩
    rw [← q456_]
    have g457_ : gi F455_ := by rw [q456_]; exact gi_u (gi_u (g416_) rfl (by omega) (by omega)) rfl (by omega) (by omega)
    have g458_ : fs [(344, 344, 5, 5), (344, 344, 9, 10), (344, 344, 14, 15), (344, 344, 17, 17), (344, 344, 21, 21), (344, 344, 63, 63), (349, 363, 0, 100000), (383, 383, 0, 100000)] F F455_ := by rw [q456_]; exact fs_u (fs_u (g441_) rfl) rfl
    have rk459_ : rk K F455_ := by rw [q456_]; exact rk_u (rk_u (rk442_) (by omega) (by omega)) (by omega) (by omega)
    have e460_ : F455_ 344 5 = F387_ 344 5 + 1 := by rw [q456_]; exact fl_u_eq
    refine gVv (nY := 2) (F := 2) (L := 41) (As := [.int (Int32.ofInt 41)]) (b := 344) (rest := []) hm_50 rfl hm_51 rfl rfl (fl_ob sc_344) rfl rfl rfl rfl rfl (by omega) (by omega) (mc_51 hG F455_ X g457_ (K) (41) (1) hgK rk459_ hkt (by omega) (by omega) (by omega)) (fun _ _ h => False.elim h) ?_
    have e462_ : F455_ 344 10 = F415_ 344 10 := by rw [q456_]; exact (fl_u_ne (by omega)).trans (fl_u_ne (by omega))
    have b463_ : 0 ≤ F415_ 344 10 ∧ F415_ 344 10 ≤ 600 := gi_g g416_ rfl
    have e464_ : F455_ 344 9 = F415_ 344 9 := by rw [q456_]; exact (fl_u_ne (by omega)).trans (fl_u_ne (by omega))
    rintro A1_ (⟨F468_, hA_, g469_, s470_, c465_, c466_, c467_⟩ | ⟨F474_, hA_, g475_, s476_, c471_, c472_, c473_⟩)
    ·
      subst hA_
      have g477_ : fs [(344, 344, 5, 5), (344, 344, 9, 10), (344, 344, 14, 15), (344, 344, 17, 17), (344, 344, 21, 21), (344, 344, 63, 63), (349, 363, 0, 100000), (383, 383, 0, 100000)] F F468_ := fs_tr g458_ s470_ rfl
      have rk478_ : rk K F468_ := rk_fs rk459_ s470_ (fun r k h => (fs_n (by omega) (fs_n (by omega) rfl))) (fs_n (by omega) (fs_n (by omega) rfl))
      try simp only [e460_, e462_, e464_] at c466_
      have c466_s := c466_.1 (by omega)
      clear c466_
      have b479_ : 0 ≤ F468_ 344 9 ∧ F468_ 344 9 ≤ 5 := gi_g g469_ rfl
      have b480_ : 0 ≤ F468_ 344 10 ∧ F468_ 344 10 ≤ 600 := gi_g g469_ rfl
      have b481_ : 0 ≤ F468_ 344 5 ∧ F468_ 344 5 ≤ 600 := gi_g g469_ rfl
      exact B40_ F468_ g469_ g477_ rk478_ (by omega) (by omega) (⟨by intro h0_; have hs_ := c466_s; rw [sp_dom, sp_open]; rw [(show sp_kind K 0 0 = _ from by have x_ := c316_; rw [h5] at x_; exact x_)]; simp only [pb_r]; rw [c339_]; simp only [pb_r]; rw [c362_]; simp only [pb_r]; rw [c385_]; simp only [pb_r]; rw [(show sp_kind K 2 (F387_ 344 5) = .inr (F387_ 344 5 + 1) by rw [sp_kind, if_pos (by omega), sk, if_pos (by omega)])]; simp only [pb_r]; rw [hs_]; try (show Sum.inl _ = _); try (congr 2 <;> omega), fun h0_ => by exfalso; omega⟩)
    subst hA_
    have g482_ : fs [(344, 344, 5, 5), (344, 344, 9, 10), (344, 344, 14, 15), (344, 344, 17, 17), (344, 344, 21, 21), (344, 344, 63, 63), (349, 363, 0, 100000), (383, 383, 0, 100000)] F F474_ := fs_tr g458_ s476_ rfl
    have rk483_ : rk K F474_ := rk_fs rk459_ s476_ (fun r k h => (fs_n (by omega) (fs_n (by omega) rfl))) (fs_n (by omega) (fs_n (by omega) rfl))
    try simp only [e464_] at c471_
    try simp only [e460_] at c472_
    refine ga_aload_n (v := .ref 344) hm_50 rfl rfl rfl ?_
    refine fl_bipush hm_50 rfl rfl ?_
    have b484_ : 0 ≤ F474_ 344 5 ∧ F474_ 344 5 ≤ 600 := gi_g g475_ rfl
    refine gVv (nY := 2) (F := 2) (L := 41) (As := [.int (Int32.ofInt 40)]) (b := 344) (rest := []) hm_50 rfl hm_51 rfl rfl (fl_ob sc_344) rfl rfl rfl rfl rfl (by omega) (by omega) (mc_51 hG F474_ X g475_ (K) (40) (0) hgK rk483_ hkt (by omega) (by omega) (by omega)) (fun _ _ h => False.elim h) ?_
    have b486_ : 0 ≤ F474_ 344 10 ∧ F474_ 344 10 ≤ 600 := gi_g g475_ rfl
    have b487_ : 0 ≤ F474_ 344 9 ∧ F474_ 344 9 ≤ 5 := gi_g g475_ rfl
    rintro A1_ (⟨F491_, hA_, g492_, s493_, c488_, c489_, c490_⟩ | ⟨F497_, hA_, g498_, s499_, c494_, c495_, c496_⟩)
    ·
      subst hA_
      have g500_ : fs [(344, 344, 5, 5), (344, 344, 9, 10), (344, 344, 14, 15), (344, 344, 17, 17), (344, 344, 21, 21), (344, 344, 63, 63), (349, 363, 0, 100000), (383, 383, 0, 100000)] F F491_ := fs_tr g482_ s493_ rfl
      have rk501_ : rk K F491_ := rk_fs rk483_ s493_ (fun r k h => (fs_n (by omega) (fs_n (by omega) rfl))) (fs_n (by omega) (fs_n (by omega) rfl))
      have c489_s := c489_.1 (by omega)
      clear c489_
      have b502_ : 0 ≤ F491_ 344 9 ∧ F491_ 344 9 ≤ 5 := gi_g g492_ rfl
      have b503_ : 0 ≤ F491_ 344 10 ∧ F491_ 344 10 ≤ 600 := gi_g g492_ rfl
      have b504_ : 0 ≤ F491_ 344 5 ∧ F491_ 344 5 ≤ 600 := gi_g g492_ rfl
      exact B46_ F491_ g492_ g500_ rk501_ (by omega) (by omega) (⟨by intro h0_; have hs_ := c489_s; rw [sp_dom, sp_open]; rw [(show sp_kind K 0 0 = _ from by have x_ := c316_; rw [h5] at x_; exact x_)]; simp only [pb_r]; rw [c339_]; simp only [pb_r]; rw [c362_]; simp only [pb_r]; rw [c385_]; simp only [pb_r]; rw [(show sp_kind K 2 (F387_ 344 5) = .inr (F387_ 344 5 + 1) by rw [sp_kind, if_pos (by omega), sk, if_pos (by omega)])]; simp only [pb_r]; rw [c472_]; simp only [pb_r]; rw [hs_]; try (show Sum.inl _ = _); try (congr 2 <;> omega), fun h0_ => by exfalso; omega⟩)
    subst hA_
    have g505_ : fs [(344, 344, 5, 5), (344, 344, 9, 10), (344, 344, 14, 15), (344, 344, 17, 17), (344, 344, 21, 21), (344, 344, 63, 63), (349, 363, 0, 100000), (383, 383, 0, 100000)] F F497_ := fs_tr g482_ s499_ rfl
    have rk506_ : rk K F497_ := rk_fs rk483_ s499_ (fun r k h => (fs_n (by omega) (fs_n (by omega) rfl))) (fs_n (by omega) (fs_n (by omega) rfl))
    refine ga_aload_n (v := .ref 344) hm_50 rfl rfl rfl ?_
    refine fl_iconst hm_50 rfl ?_
    have b507_ : 0 ≤ F497_ 344 5 ∧ F497_ 344 5 ≤ 600 := gi_g g498_ rfl
    refine gVi (nY := 4) (F := 1) (L := 21) (As := [.int (Int32.ofInt 2)]) (b := 344) (rest := []) hm_50 rfl hm_56 rfl rfl (fl_ob sc_344) rfl rfl rfl rfl rfl (by omega) (by omega) (mc_56 hG F497_ X g498_ (K) (2) ([58, 116, 121, 112, 101, 115]) hgK rk506_ hkt (by omega) (by omega) (by decide) (kw_2 rk506_)) (fun _ _ h => False.elim h) ?_
    have b509_ : 0 ≤ F497_ 344 9 ∧ F497_ 344 9 ≤ 5 := gi_g g498_ rfl
    rintro z508_ A1_ (⟨hA_, hz_, c510_⟩ | ⟨hA_, hz_, c511_, c512_⟩)
    ·
      subst hA_
      subst hz_
      refine fl_if_eq hm_50 rfl ⟨by omega, by omega⟩ (fun _ => ?_) (fun h => absurd (by omega) h)
      refine ga_aload_n (v := .ref 344) hm_50 rfl rfl rfl ?_
      refine fl_iconst hm_50 rfl ?_
      refine gVv (nY := 2) (F := 2) (L := 44) (As := [.int (Int32.ofInt 3)]) (b := 344) (rest := []) hm_50 rfl hm_55 rfl rfl (fl_ob sc_344) rfl rfl rfl rfl rfl (by omega) (by omega) (mc_55 hG F497_ X g498_ (K) (3) ([58, 112, 114, 101, 100, 105, 99, 97, 116, 101, 115]) hgK rk506_ hkt (by omega) (by omega) (by decide) (kw_3 rk506_)) (fun _ _ h => False.elim h) ?_
      have b514_ : 0 ≤ F497_ 344 10 ∧ F497_ 344 10 ≤ 600 := gi_g g498_ rfl
      rintro A1_ (⟨F518_, hA_, g519_, s520_, c515_, c516_, c517_⟩ | ⟨F524_, hA_, g525_, s526_, c521_, c522_, c523_⟩)
      ·
        subst hA_
        have g527_ : fs [(344, 344, 5, 5), (344, 344, 9, 10), (344, 344, 14, 15), (344, 344, 17, 17), (344, 344, 21, 21), (344, 344, 63, 63), (349, 363, 0, 100000), (383, 383, 0, 100000)] F F518_ := fs_tr g505_ s520_ rfl
        have rk528_ : rk K F518_ := rk_fs rk506_ s520_ (fun r k h => (fs_n (by omega) (fs_n (by omega) rfl))) (fs_n (by omega) (fs_n (by omega) rfl))
        have c516_s := c516_.1 (by omega)
        clear c516_
        have b529_ : 0 ≤ F518_ 344 9 ∧ F518_ 344 9 ≤ 5 := gi_g g519_ rfl
        have b530_ : 0 ≤ F518_ 344 10 ∧ F518_ 344 10 ≤ 600 := gi_g g519_ rfl
        have b531_ : 0 ≤ F518_ 344 5 ∧ F518_ 344 5 ≤ 600 := gi_g g519_ rfl
        exact B85_ F518_ g519_ g527_ rk528_ (by omega) (by omega) (⟨by intro h0_; have hs_ := c516_s; rw [sp_dom, sp_open]; rw [(show sp_kind K 0 0 = _ from by have x_ := c316_; rw [h5] at x_; exact x_)]; simp only [pb_r]; rw [c339_]; simp only [pb_r]; rw [c362_]; simp only [pb_r]; rw [c385_]; simp only [pb_r]; rw [(show sp_kind K 2 (F387_ 344 5) = .inr (F387_ 344 5 + 1) by rw [sp_kind, if_pos (by omega), sk, if_pos (by omega)])]; simp only [pb_r]; rw [c472_]; simp only [pb_r]; rw [c495_]; simp only [pb_r]; rw [if_neg (fun h8_ => c510_ ⟨by omega, h8_⟩)]; simp only [pb_r]; rw [sp_rpreds]; rw [hs_]; try (show Sum.inl _ = _); try (congr 2 <;> omega), fun h0_ => by exfalso; omega⟩)
      subst hA_
      have g532_ : fs [(344, 344, 5, 5), (344, 344, 9, 10), (344, 344, 14, 15), (344, 344, 17, 17), (344, 344, 21, 21), (344, 344, 63, 63), (349, 363, 0, 100000), (383, 383, 0, 100000)] F F524_ := fs_tr g505_ s526_ rfl
      have rk533_ : rk K F524_ := rk_fs rk506_ s526_ (fun r k h => (fs_n (by omega) (fs_n (by omega) rfl))) (fs_n (by omega) (fs_n (by omega) rfl))
      refine fl_iconst hm_50 rfl ?_
      refine ga_istore_n (lv2 := [(1, .int (Int32.ofInt 1)), (0, .ref 344)]) hm_50 rfl (Nat.le_of_ble_eq_true rfl) rfl ?_
      have b537_ : 0 ≤ F524_ 344 5 ∧ F524_ 344 5 ≤ 600 := gi_g g525_ rfl
      have L535_ : ∀ (n534_ : Nat) (mo : Int) (l : List Int) (ps : List (List Int)) (F1 : fl_N), (7 - F1 344 17 : Int).toNat = n534_ → (gi F1) → (fs [(344, 344, 5, 5), (344, 344, 9, 10), (344, 344, 17, 17), (350, 352, 0, 100000), (383, 383, 0, 100000)] F524_ F1) → (F1 344 9 = 0) → (rpn (F1 350) (F1 344 17) l) → (rprd F1 ps ∧ ps.length = l.length) → ((mo = 1 ∧ ((l.length : Int) = 0 ∨ K 3 (F1 344 5).toNat = 0)) ∨ (mo = 0 ∧ 0 < (l.length : Int) ∧ ¬ K 3 (F1 344 5).toNat = 0)) → (0 ≤ F1 344 5 ∧ F1 344 5 ≤ K 1 6 - 1) → (sp_preds K [] 6 [] [] (F524_ 344 5) = sp_preds K [] (6 - l.length) l ps (F1 344 5)) → fl_R xi_ms 50 fr lo 87 [(1, .int (Int32.ofInt mo)), (0, .ref 344)] [] (fl_H sh_T G F1 ++ X) (pq_50 G F X K) := by
        intro n534_
        induction n534_ using Nat.strongRecOn with
        | ind n534_ ih536_ =>
        intro mo l ps F1 hn538_ hg_F1 hf_F1 hk hl hps1 hmo hp1 hspq
        have g539_ : fs [(344, 344, 5, 5), (344, 344, 9, 10), (344, 344, 14, 15), (344, 344, 17, 17), (344, 344, 21, 21), (344, 344, 63, 63), (349, 363, 0, 100000), (383, 383, 0, 100000)] F F1 := fs_tr g532_ hf_F1 rfl
        have rk540_ : rk K F1 := rk_fs rk533_ hf_F1 (fun r k h => (fs_n (by omega) (fs_n (by omega) (fs_n (by omega) (fs_n (by omega) (fs_n (by omega) rfl)))))) (fs_n (by omega) (fs_n (by omega) (fs_n (by omega) (fs_n (by omega) (fs_n (by omega) rfl)))))
        have hl1 := hl.1
        have hP1 := (rkt_p hkt (p := F1 344 5) (by omega) (by omega) hgK).1
        have hb17 : 0 ≤ F1 344 17 ∧ F1 344 17 ≤ 6 := gi_g hg_F1 rfl
        refine ga_iload_n (z := mo) hm_50 rfl rfl ?_
        refine fl_if_eq (a := mo) hm_50 rfl ⟨by omega, by omega⟩ (fun h541_ => ?_) (fun h542_ => ?_)
        ·
          refine ga_aload_n (v := .ref 344) hm_50 rfl rfl rfl ?_
          refine fl_bipush hm_50 rfl rfl ?_
          have b543_ : 0 ≤ F1 344 5 ∧ F1 344 5 ≤ 600 := gi_g hg_F1 rfl
          refine gVv (nY := 2) (F := 2) (L := 41) (As := [.int (Int32.ofInt 41)]) (b := 344) (rest := []) hm_50 rfl hm_51 rfl rfl (fl_ob sc_344) rfl rfl rfl rfl rfl (by omega) (by omega) (mc_51 hG F1 X hg_F1 (K) (41) (1) hgK rk540_ hkt (by omega) (by omega) (by omega)) (fun _ _ h => False.elim h) ?_
          have b545_ : 0 ≤ F1 344 10 ∧ F1 344 10 ≤ 600 := gi_g hg_F1 rfl
          have b546_ : 0 ≤ F1 344 9 ∧ F1 344 9 ≤ 5 := gi_g hg_F1 rfl
          rintro A1_ (⟨F550_, hA_, g551_, s552_, c547_, c548_, c549_⟩ | ⟨F556_, hA_, g557_, s558_, c553_, c554_, c555_⟩)
          ·
            subst hA_
            have g559_ : fs [(344, 344, 5, 5), (344, 344, 9, 10), (344, 344, 14, 15), (344, 344, 17, 17), (344, 344, 21, 21), (344, 344, 63, 63), (349, 363, 0, 100000), (383, 383, 0, 100000)] F F550_ := fs_tr g539_ s552_ rfl
            have rk560_ : rk K F550_ := rk_fs rk540_ s552_ (fun r k h => (fs_n (by omega) (fs_n (by omega) rfl))) (fs_n (by omega) (fs_n (by omega) rfl))
            have c548_s := c548_.1 (by omega)
            clear c548_
            have b561_ : 0 ≤ F550_ 344 9 ∧ F550_ 344 9 ≤ 5 := gi_g g551_ rfl
            have b562_ : 0 ≤ F550_ 344 10 ∧ F550_ 344 10 ≤ 600 := gi_g g551_ rfl
            have b563_ : 0 ≤ F550_ 344 5 ∧ F550_ 344 5 ≤ 600 := gi_g g551_ rfl
            exact fl_R_sub (lv' := [(0, .ref 344)]) rfl rfl (B118_ F550_ g551_ g559_ rk560_ (by omega) (by omega) (⟨by intro h0_; have hs_ := c548_s; rw [sp_dom, sp_open]; rw [(show sp_kind K 0 0 = _ from by have x_ := c316_; rw [h5] at x_; exact x_)]; simp only [pb_r]; rw [c339_]; simp only [pb_r]; rw [c362_]; simp only [pb_r]; rw [c385_]; simp only [pb_r]; rw [(show sp_kind K 2 (F387_ 344 5) = .inr (F387_ 344 5 + 1) by rw [sp_kind, if_pos (by omega), sk, if_pos (by omega)])]; simp only [pb_r]; rw [c472_]; simp only [pb_r]; rw [c495_]; simp only [pb_r]; rw [if_neg (fun h8_ => c510_ ⟨by omega, h8_⟩)]; simp only [pb_r]; rw [sp_rpreds]; rw [c522_]; simp only [pb_r]; rw [hspq, sq_e (by omega) (by omega)]; simp only [pb_r]; rw [c316_]; simp only [pb_r]; rw [hspa, sa_e (by omega) (by omega)]; simp only [pb_r]; rw [sp_close]; rw [c339_]; simp only [pb_r]; rw [sp_kind, if_pos ((rkt_p hkt (p := F341_ 344 5) (by omega) (by omega) hgK).2.2 (by omega)).2]; simp only [pb_r], fun h0_ => by exfalso; omega⟩))
          subst hA_
          have g564_ : fs [(344, 344, 5, 5), (344, 344, 9, 10), (344, 344, 14, 15), (344, 344, 17, 17), (344, 344, 21, 21), (344, 344, 63, 63), (349, 363, 0, 100000), (383, 383, 0, 100000)] F F556_ := fs_tr g539_ s558_ rfl
          have rk565_ : rk K F556_ := rk_fs rk540_ s558_ (fun r k h => (fs_n (by omega) (fs_n (by omega) rfl))) (fs_n (by omega) (fs_n (by omega) rfl))
          refine fl_iconst hm_50 rfl ?_
          refine ga_istore_n (lv2 := [(1, .int (Int32.ofInt 1)), (0, .ref 344)]) hm_50 rfl (Nat.le_of_ble_eq_true rfl) rfl ?_
          have b569_ : 0 ≤ F556_ 344 5 ∧ F556_ 344 5 ≤ 600 := gi_g g557_ rfl
          have L567_ : ∀ (n566_ : Nat) (mo2 : Int) (al : List Int) (F2 : fl_N), (6 - F2 344 21 : Int).toNat = n566_ → (gi F2) → (fs [(344, 344, 5, 5), (344, 344, 9, 10), (344, 344, 21, 21), (344, 344, 63, 63), (353, 363, 0, 100000)] F556_ F2) → (F2 344 9 = 0) → (rpn (F2 353) (F2 344 21) al) → ((mo2 = 1 ∧ ((al.length : Int) = 0 ∨ K 3 (F2 344 5).toNat = 0)) ∨ (mo2 = 0 ∧ 0 < (al.length : Int) ∧ ¬ K 3 (F2 344 5).toNat = 0)) → (0 ≤ F2 344 5 ∧ F2 344 5 ≤ K 1 6 - 1) → (sp_actions K [] l ps 5 [] (F556_ 344 5) = sp_actions K [] l ps (5 - al.length) al (F2 344 5)) → fl_R xi_ms 50 fr lo 120 [(1, .int (Int32.ofInt mo2)), (0, .ref 344)] [] (fl_H sh_T G F2 ++ X) (pq_50 G F X K) := by
            intro n566_
            induction n566_ using Nat.strongRecOn with
            | ind n566_ ih568_ =>
            intro mo2 al F2 hn570_ hg_F2 hf_F2 hk2 hal hmo2 hp2 hspa
            have g571_ : fs [(344, 344, 5, 5), (344, 344, 9, 10), (344, 344, 14, 15), (344, 344, 17, 17), (344, 344, 21, 21), (344, 344, 63, 63), (349, 363, 0, 100000), (383, 383, 0, 100000)] F F2 := fs_tr g564_ hf_F2 rfl
            have rk572_ : rk K F2 := rk_fs rk565_ hf_F2 (fun r k h => (fs_n (by omega) (fs_n (by omega) (fs_n (by omega) (fs_n (by omega) (fs_n (by omega) rfl)))))) (fs_n (by omega) (fs_n (by omega) (fs_n (by omega) (fs_n (by omega) (fs_n (by omega) rfl)))))
            have hal1 := hal.1
            have hP2 := (rkt_p hkt (p := F2 344 5) (by omega) (by omega) hgK).1
            have hb21 : 0 ≤ F2 344 21 ∧ F2 344 21 ≤ 5 := gi_g hg_F2 rfl
            refine ga_iload_n (z := mo2) hm_50 rfl rfl ?_
            refine fl_if_eq (a := mo2) hm_50 rfl ⟨by omega, by omega⟩ (fun h573_ => ?_) (fun h574_ => ?_)
            ·
              refine ga_aload_n (v := .ref 344) hm_50 rfl rfl rfl ?_
              refine fl_bipush hm_50 rfl rfl ?_
              have b575_ : 0 ≤ F2 344 5 ∧ F2 344 5 ≤ 600 := gi_g hg_F2 rfl
              refine gVv (nY := 2) (F := 2) (L := 41) (As := [.int (Int32.ofInt 41)]) (b := 344) (rest := []) hm_50 rfl hm_51 rfl rfl (fl_ob sc_344) rfl rfl rfl rfl rfl (by omega) (by omega) (mc_51 hG F2 X hg_F2 (K) (41) (1) hgK rk572_ hkt (by omega) (by omega) (by omega)) (fun _ _ h => False.elim h) ?_
              have b577_ : 0 ≤ F2 344 10 ∧ F2 344 10 ≤ 600 := gi_g hg_F2 rfl
              have b578_ : 0 ≤ F2 344 9 ∧ F2 344 9 ≤ 5 := gi_g hg_F2 rfl
              rintro A1_ (⟨F582_, hA_, g583_, s584_, c579_, c580_, c581_⟩ | ⟨F588_, hA_, g589_, s590_, c585_, c586_, c587_⟩)
              ·
                subst hA_
                have g591_ : fs [(344, 344, 5, 5), (344, 344, 9, 10), (344, 344, 14, 15), (344, 344, 17, 17), (344, 344, 21, 21), (344, 344, 63, 63), (349, 363, 0, 100000), (383, 383, 0, 100000)] F F582_ := fs_tr g571_ s584_ rfl
                have rk592_ : rk K F582_ := rk_fs rk572_ s584_ (fun r k h => (fs_n (by omega) (fs_n (by omega) rfl))) (fs_n (by omega) (fs_n (by omega) rfl))
                have c580_s := c580_.1 (by omega)
                clear c580_
                have b593_ : 0 ≤ F582_ 344 9 ∧ F582_ 344 9 ≤ 5 := gi_g g583_ rfl
                have b594_ : 0 ≤ F582_ 344 10 ∧ F582_ 344 10 ≤ 600 := gi_g g583_ rfl
                have b595_ : 0 ≤ F582_ 344 5 ∧ F582_ 344 5 ≤ 600 := gi_g g583_ rfl
                exact fl_R_sub (lv' := [(0, .ref 344)]) rfl rfl (B151_ F582_ g583_ g591_ rk592_ (by omega) (by omega) (⟨by intro h0_; have hs_ := c580_s; rw [sp_dom, sp_open]; rw [(show sp_kind K 0 0 = _ from by have x_ := c316_; rw [h5] at x_; exact x_)]; simp only [pb_r]; rw [c339_]; simp only [pb_r]; rw [c362_]; simp only [pb_r]; rw [c385_]; simp only [pb_r]; rw [(show sp_kind K 2 (F387_ 344 5) = .inr (F387_ 344 5 + 1) by rw [sp_kind, if_pos (by omega), sk, if_pos (by omega)])]; simp only [pb_r]; rw [c472_]; simp only [pb_r]; rw [c495_]; simp only [pb_r]; rw [if_neg (fun h8_ => c510_ ⟨by omega, h8_⟩)]; simp only [pb_r]; rw [sp_rpreds]; rw [c522_]; simp only [pb_r]; rw [hspq, sq_e (by omega) (by omega)]; simp only [pb_r]; rw [c554_]; simp only [pb_r]; rw [hspa, sa_e (by omega) (by omega)]; simp only [pb_r]; rw [sp_close]; rw [c316_]; simp only [pb_r]; rw [sp_kind, if_pos ((rkt_p hkt (p := F318_ 344 5) (by omega) (by omega) hgK).2.2 (by omega)).2]; simp only [pb_r], fun h0_ => by exfalso; omega⟩))
              subst hA_
              have g596_ : fs [(344, 344, 5, 5), (344, 344, 9, 10), (344, 344, 14, 15), (344, 344, 17, 17), (344, 344, 21, 21), (344, 344, 63, 63), (349, 363, 0, 100000), (383, 383, 0, 100000)] F F588_ := fs_tr g571_ s590_ rfl
              have rk597_ : rk K F588_ := rk_fs rk572_ s590_ (fun r k h => (fs_n (by omega) (fs_n (by omega) rfl))) (fs_n (by omega) (fs_n (by omega) rfl))
              refine ga_aload_n (v := .ref 344) hm_50 rfl rfl rfl ?_
              refine gIi (nY := 1) (F := 0) (L := 0) (As := []) (b := 344) (rest := []) hm_50 rfl hm_59 rfl rfl (fl_ob sc_344) rfl rfl rfl rfl rfl (by omega) (by omega) ?_
              intro f598_ l599_ h600_ h601_
              show fl_R xi_ms 59 f598_ l599_ 0 [(0, .ref 344)] [] _ _
              refine ga_aload_n (v := .ref 344) hm_59 rfl rfl rfl ?_
              have b602_ : 0 ≤ F588_ 344 9 ∧ F588_ 344 9 ≤ 5 := gi_g g589_ rfl
              refine ga_geti (z := F588_ 344 9) hm_59 rfl sc_344 rfl (rfl) ?_
              refine fl_if_le (a := F588_ 344 9) hm_59 rfl ⟨by omega, by omega⟩ (fun h603_ => ?_) (fun h604_ => ?_)
              ·
                refine fl_iconst hm_59 rfl ?_
                refine gr_i hm_59 rfl rfl (ga_nb (by omega)) ?_
                clear h600_ h601_ f598_ l599_
                refine fl_if_ne hm_50 rfl ⟨by omega, by omega⟩ (fun h => absurd h (by omega)) (fun _ => ?_)
                refine ga_aload_n (v := .ref 344) hm_50 rfl rfl rfl ?_
                have b605_ : 0 ≤ F588_ 344 5 ∧ F588_ 344 5 ≤ 600 := gi_g g589_ rfl
                refine ga_geti (z := F588_ 344 5) hm_50 rfl sc_344 rfl (rfl) ?_
                refine ga_aload_n (v := .ref 344) hm_50 rfl rfl rfl ?_
                have e606_ : F588_ 344 4 = K 1 6 - 1 := rk597_.2.1
                refine ga_geti (z := K 1 6 - 1) hm_50 rfl sc_344 rfl (e606_) ?_
                refine fl_icmp_ge (a := F588_ 344 5) (b := K 1 6 - 1) hm_50 rfl ⟨by omega, by omega⟩ ⟨by omega, by omega⟩ (fun h607_ => ?_) (fun h608_ => ?_)
                ·
                  refine gr_v hm_50 rfl rfl ?_
                  have e609_ : F318_ 344 15 = F 344 15 := (s320_ 344 15 rfl).trans (rfl)
                  have e610_ : F341_ 344 15 = F 344 15 := (s343_ 344 15 rfl).trans (e609_)
                  have e611_ : F364_ 344 15 = F 344 15 := (s366_ 344 15 rfl).trans (e610_)
                  have e612_ : F387_ 344 15 = F 344 15 := (s389_ 344 15 rfl).trans (e611_)
                  have e613_ : F415_ 344 15 = F 344 15 := (s417_ 344 15 rfl).trans (e612_)
                  have e614_ : F455_ 344 15 = F 344 15 := by rw [q456_]; exact (fl_u_ne (by omega)).trans ((fl_u_ne (by omega)).trans (e613_))
                  have e615_ : F474_ 344 15 = F 344 15 := (s476_ 344 15 rfl).trans (e614_)
                  have e616_ : F497_ 344 15 = F 344 15 := (s499_ 344 15 rfl).trans (e615_)
                  have e617_ : F524_ 344 15 = F 344 15 := (s526_ 344 15 rfl).trans (e616_)
                  have e618_ : F1 344 15 = F 344 15 := (hf_F1 344 15 rfl).trans (e617_)
                  have e619_ : F556_ 344 15 = F 344 15 := (s558_ 344 15 rfl).trans (e618_)
                  have e620_ : F2 344 15 = F 344 15 := (hf_F2 344 15 rfl).trans (e619_)
                  have e621_ : F588_ 344 15 = F 344 15 := (s590_ 344 15 rfl).trans (e620_)
                  have b622_ : 0 ≤ F 344 15 ∧ F 344 15 ≤ 4 := gi_g hgi rfl
                  have e623_ : F556_ 344 17 = F1 344 17 := (s558_ 344 17 rfl).trans (rfl)
                  have e624_ : F2 344 17 = F1 344 17 := (hf_F2 344 17 rfl).trans (e623_)
                  have e625_ : F588_ 344 17 = F1 344 17 := (s590_ 344 17 rfl).trans (e624_)
                  have b626_ : 0 ≤ F1 344 17 ∧ F1 344 17 ≤ 6 := gi_g hg_F1 rfl
                  have e627_ : F588_ 344 21 = F2 344 21 := (s590_ 344 21 rfl).trans (rfl)
                  have b628_ : 0 ≤ F2 344 21 ∧ F2 344 21 ≤ 5 := gi_g hg_F2 rfl
                  exact Or.inr (⟨F588_, rfl, g589_, g596_, (by omega), (⟨[], l, ps, al, by rw [sp_dom, sp_open]; rw [(show sp_kind K 0 0 = _ from by have x_ := c316_; rw [h5] at x_; exact x_)]; simp only [pb_r]; rw [c339_]; simp only [pb_r]; rw [c362_]; simp only [pb_r]; rw [c385_]; simp only [pb_r]; rw [(show sp_kind K 2 (F387_ 344 5) = .inr (F387_ 344 5 + 1) by rw [sp_kind, if_pos (by omega), sk, if_pos (by omega)])]; simp only [pb_r]; rw [c472_]; simp only [pb_r]; rw [c495_]; simp only [pb_r]; rw [if_neg (fun h8_ => c510_ ⟨by omega, h8_⟩)]; simp only [pb_r]; rw [sp_rpreds]; rw [c522_]; simp only [pb_r]; rw [hspq, sq_e (by omega) (by omega)]; simp only [pb_r]; rw [c554_]; simp only [pb_r]; rw [hspa, sa_e (by omega) (by omega)]; simp only [pb_r]; rw [sp_close]; rw [c586_]; simp only [pb_r]; rw [sp_kind, if_pos ((rkt_p hkt (p := F588_ 344 5) (by omega) (by omega) hgK).2.2 (by omega)).2]; simp only [pb_r], (rpn_fs (rpn_fs (rpn_fs (rpn_fs (rpn_fs (rpn_fs (rpn_fs (by rw [q456_]; exact (rpn_u (rpn_u (rpn_fs (rpn_fs (rpn_fs (rpn_fs (rpn_fs (rpn_0 (a := 349) h15) s320_ (fun _ => (fs_n (by omega) (fs_n (by omega) rfl))) (fs_n (by omega) (fs_n (by omega) rfl))) s343_ (fun _ => (fs_n (by omega) (fs_n (by omega) rfl))) (fs_n (by omega) (fs_n (by omega) rfl))) s366_ (fun _ => (fs_n (by omega) (fs_n (by omega) rfl))) (fs_n (by omega) (fs_n (by omega) rfl))) s389_ (fun _ => (fs_n (by omega) (fs_n (by omega) rfl))) (fs_n (by omega) (fs_n (by omega) rfl))) s417_ (fun _ => (fs_n (by omega) rfl)) (fs_n (by omega) rfl)) (by omega) (by omega)) (by omega) (by omega))) s476_ (fun _ => (fs_n (by omega) (fs_n (by omega) rfl))) (fs_n (by omega) (fs_n (by omega) rfl))) s499_ (fun _ => (fs_n (by omega) (fs_n (by omega) rfl))) (fs_n (by omega) (fs_n (by omega) rfl))) s526_ (fun _ => (fs_n (by omega) (fs_n (by omega) rfl))) (fs_n (by omega) (fs_n (by omega) rfl))) hf_F1 (fun _ => (fs_n (by omega) (fs_n (by omega) (fs_n (by omega) (fs_n (by omega) (fs_n (by omega) rfl)))))) (fs_n (by omega) (fs_n (by omega) (fs_n (by omega) (fs_n (by omega) (fs_n (by omega) rfl)))))) s558_ (fun _ => (fs_n (by omega) (fs_n (by omega) rfl))) (fs_n (by omega) (fs_n (by omega) rfl))) hf_F2 (fun _ => (fs_n (by omega) (fs_n (by omega) (fs_n (by omega) (fs_n (by omega) (fs_n (by omega) rfl)))))) (fs_n (by omega) (fs_n (by omega) (fs_n (by omega) (fs_n (by omega) (fs_n (by omega) rfl)))))) s590_ (fun _ => (fs_n (by omega) (fs_n (by omega) rfl))) (fs_n (by omega) (fs_n (by omega) rfl))), (rpn_fs (rpn_fs (rpn_fs hl s558_ (fun _ => (fs_n (by omega) (fs_n (by omega) rfl))) (fs_n (by omega) (fs_n (by omega) rfl))) hf_F2 (fun _ => (fs_n (by omega) (fs_n (by omega) (fs_n (by omega) (fs_n (by omega) (fs_n (by omega) rfl)))))) (fs_n (by omega) (fs_n (by omega) (fs_n (by omega) (fs_n (by omega) (fs_n (by omega) rfl)))))) s590_ (fun _ => (fs_n (by omega) (fs_n (by omega) rfl))) (fs_n (by omega) (fs_n (by omega) rfl))), ⟨(rprd_fs (rprd_fs (rprd_fs hps1.1 s558_ (fun r j hj => (fs_n (by omega) (fs_n (by omega) rfl)))) hf_F2 (fun r j hj => (fs_n (by omega) (fs_n (by omega) (fs_n (by omega) (fs_n (by omega) (fs_n (by omega) rfl))))))) s590_ (fun r j hj => (fs_n (by omega) (fs_n (by omega) rfl)))), hps1.2⟩, (rpn_fs hal s590_ (fun _ => (fs_n (by omega) (fs_n (by omega) rfl))) (fs_n (by omega) (fs_n (by omega) rfl)))⟩), (by omega)⟩)
                refine ga_aload_n (v := .ref 344) hm_50 rfl rfl rfl ?_
                refine fl_iconst hm_50 rfl ?_
                refine gVv (nY := 2) (F := 0) (L := 0) (As := [.int (Int32.ofInt 1)]) (b := 344) (rest := []) hm_50 rfl hm_54 rfl rfl (fl_ob sc_344) rfl rfl rfl rfl rfl (by omega) (by omega) (mc_54 hG F588_ X g589_ (K) (1) hgK rk597_ hkt (by omega) (by omega)) (fun _ _ h => False.elim h) ?_
                have b630_ : 0 ≤ F588_ 344 10 ∧ F588_ 344 10 ≤ 600 := gi_g g589_ rfl
                rintro A1_ ⟨F634_, hA_, g635_, s636_, c631_, c632_, c633_⟩
                subst hA_
                have g637_ : fs [(344, 344, 5, 5), (344, 344, 9, 10), (344, 344, 14, 15), (344, 344, 17, 17), (344, 344, 21, 21), (344, 344, 63, 63), (349, 363, 0, 100000), (383, 383, 0, 100000)] F F634_ := fs_tr g596_ s636_ rfl
                have rk638_ : rk K F634_ := rk_fs rk597_ s636_ (fun r k h => (fs_n (by omega) rfl)) (fs_n (by omega) rfl)
                have c632_s := c632_.1 (by omega)
                clear c632_
                refine gr_v hm_50 rfl rfl ?_
                have b639_ : 0 ≤ F634_ 344 9 ∧ F634_ 344 9 ≤ 5 := gi_g g635_ rfl
                have e640_ : F634_ 344 5 = F588_ 344 5 := (s636_ 344 5 rfl).trans (rfl)
                have b641_ : 0 ≤ F634_ 344 10 ∧ F634_ 344 10 ≤ 600 := gi_g g635_ rfl
                exact Or.inl ⟨F634_, rfl, g635_, g637_, (by omega), (⟨by intro h0_; have hs_ := c632_s; rw [sp_dom, sp_open]; rw [(show sp_kind K 0 0 = _ from by have x_ := c316_; rw [h5] at x_; exact x_)]; simp only [pb_r]; rw [c339_]; simp only [pb_r]; rw [c362_]; simp only [pb_r]; rw [c385_]; simp only [pb_r]; rw [(show sp_kind K 2 (F387_ 344 5) = .inr (F387_ 344 5 + 1) by rw [sp_kind, if_pos (by omega), sk, if_pos (by omega)])]; simp only [pb_r]; rw [c472_]; simp only [pb_r]; rw [c495_]; simp only [pb_r]; rw [if_neg (fun h8_ => c510_ ⟨by omega, h8_⟩)]; simp only [pb_r]; rw [sp_rpreds]; rw [c522_]; simp only [pb_r]; rw [hspq, sq_e (by omega) (by omega)]; simp only [pb_r]; rw [c554_]; simp only [pb_r]; rw [hspa, sa_e (by omega) (by omega)]; simp only [pb_r]; rw [sp_close]; rw [c316_]; simp only [pb_r]; rw [sp_kind, if_neg (hko.2.2 (F318_ 344 5) (by omega) (by omega)).1]; show Sum.inl (1, K 4 _) = _; congr 2 <;> omega, fun h0_ => by exfalso; omega⟩), (by omega)⟩
              exfalso; omega
            refine ga_aload_n (v := .ref 344) hm_50 rfl rfl rfl ?_
            refine gIi (nY := 1) (F := 0) (L := 0) (As := []) (b := 344) (rest := []) hm_50 rfl hm_59 rfl rfl (fl_ob sc_344) rfl rfl rfl rfl rfl (by omega) (by omega) ?_
            intro f642_ l643_ h644_ h645_
            show fl_R xi_ms 59 f642_ l643_ 0 [(0, .ref 344)] [] _ _
            refine ga_aload_n (v := .ref 344) hm_59 rfl rfl rfl ?_
            have b646_ : 0 ≤ F2 344 9 ∧ F2 344 9 ≤ 5 := gi_g hg_F2 rfl
            refine ga_geti (z := F2 344 9) hm_59 rfl sc_344 rfl (rfl) ?_
            refine fl_if_le (a := F2 344 9) hm_59 rfl ⟨by omega, by omega⟩ (fun h647_ => ?_) (fun h648_ => ?_)
            ·
              refine fl_iconst hm_59 rfl ?_
              refine gr_i hm_59 rfl rfl (ga_nb (by omega)) ?_
              clear h644_ h645_ f642_ l643_
              refine fl_if_ne hm_50 rfl ⟨by omega, by omega⟩ (fun h => absurd h (by omega)) (fun _ => ?_)
              refine ga_aload_n (v := .ref 344) hm_50 rfl rfl rfl ?_
              have b649_ : 0 ≤ F2 344 5 ∧ F2 344 5 ≤ 600 := gi_g hg_F2 rfl
              refine gVv (nY := 4) (F := 7) (L := 165) (As := []) (b := 344) (rest := []) hm_50 rfl hm_173 rfl rfl (fl_ob sc_344) rfl rfl rfl rfl rfl (by omega) (by omega) (mc_173 hG F2 X hg_F2 (K) ([]) (l) (al) (ps) hgK rk572_ hkt (by omega) ((rpn_fs (rpn_fs (rpn_fs (rpn_fs (rpn_fs (rpn_fs (by rw [q456_]; exact (rpn_u (rpn_u (rpn_fs (rpn_fs (rpn_fs (rpn_fs (rpn_fs (rpn_0 (a := 349) h15) s320_ (fun _ => (fs_n (by omega) (fs_n (by omega) rfl))) (fs_n (by omega) (fs_n (by omega) rfl))) s343_ (fun _ => (fs_n (by omega) (fs_n (by omega) rfl))) (fs_n (by omega) (fs_n (by omega) rfl))) s366_ (fun _ => (fs_n (by omega) (fs_n (by omega) rfl))) (fs_n (by omega) (fs_n (by omega) rfl))) s389_ (fun _ => (fs_n (by omega) (fs_n (by omega) rfl))) (fs_n (by omega) (fs_n (by omega) rfl))) s417_ (fun _ => (fs_n (by omega) rfl)) (fs_n (by omega) rfl)) (by omega) (by omega)) (by omega) (by omega))) s476_ (fun _ => (fs_n (by omega) (fs_n (by omega) rfl))) (fs_n (by omega) (fs_n (by omega) rfl))) s499_ (fun _ => (fs_n (by omega) (fs_n (by omega) rfl))) (fs_n (by omega) (fs_n (by omega) rfl))) s526_ (fun _ => (fs_n (by omega) (fs_n (by omega) rfl))) (fs_n (by omega) (fs_n (by omega) rfl))) hf_F1 (fun _ => (fs_n (by omega) (fs_n (by omega) (fs_n (by omega) (fs_n (by omega) (fs_n (by omega) rfl)))))) (fs_n (by omega) (fs_n (by omega) (fs_n (by omega) (fs_n (by omega) (fs_n (by omega) rfl)))))) s558_ (fun _ => (fs_n (by omega) (fs_n (by omega) rfl))) (fs_n (by omega) (fs_n (by omega) rfl))) hf_F2 (fun _ => (fs_n (by omega) (fs_n (by omega) (fs_n (by omega) (fs_n (by omega) (fs_n (by omega) rfl)))))) (fs_n (by omega) (fs_n (by omega) (fs_n (by omega) (fs_n (by omega) (fs_n (by omega) rfl))))))) (hal) ((rpn_fs (rpn_fs hl s558_ (fun _ => (fs_n (by omega) (fs_n (by omega) rfl))) (fs_n (by omega) (fs_n (by omega) rfl))) hf_F2 (fun _ => (fs_n (by omega) (fs_n (by omega) (fs_n (by omega) (fs_n (by omega) (fs_n (by omega) rfl)))))) (fs_n (by omega) (fs_n (by omega) (fs_n (by omega) (fs_n (by omega) (fs_n (by omega) rfl))))))) (⟨(rprd_fs (rprd_fs hps1.1 s558_ (fun r j hj => (fs_n (by omega) (fs_n (by omega) rfl)))) hf_F2 (fun r j hj => (fs_n (by omega) (fs_n (by omega) (fs_n (by omega) (fs_n (by omega) (fs_n (by omega) rfl))))))), hps1.2⟩)) (fun _ _ h => False.elim h) ?_
              have b651_ : 0 ≤ F2 344 10 ∧ F2 344 10 ≤ 600 := gi_g hg_F2 rfl
              rintro A1_ (⟨F655_, hA_, g656_, s657_, c652_, c653_, c654_⟩ | ⟨F661_, hA_, g662_, s663_, c658_, c659_, c660_⟩)
              ·
                subst hA_
                have g664_ : fs [(344, 344, 5, 5), (344, 344, 9, 10), (344, 344, 14, 15), (344, 344, 17, 17), (344, 344, 21, 21), (344, 344, 63, 63), (349, 363, 0, 100000), (383, 383, 0, 100000)] F F655_ := fs_tr g571_ s657_ rfl
                have rk665_ : rk K F655_ := rk_fs rk572_ s657_ (fun r k h => (fs_n (by omega) (fs_n (by omega) (fs_n (by omega) (fs_n (by omega) (fs_n (by omega) rfl)))))) (fs_n (by omega) (fs_n (by omega) (fs_n (by omega) (fs_n (by omega) (fs_n (by omega) rfl)))))
                have c653_s := c653_.1 (by omega)
                clear c653_
                try obtain ⟨ca_, ca1_, ca2_⟩ := c653_s
                have b666_ : 0 ≤ F655_ 344 9 ∧ F655_ 344 9 ≤ 5 := gi_g g656_ rfl
                have b667_ : 0 ≤ F655_ 344 10 ∧ F655_ 344 10 ≤ 600 := gi_g g656_ rfl
                have b668_ : 0 ≤ F655_ 344 5 ∧ F655_ 344 5 ≤ 600 := gi_g g656_ rfl
                exact fl_R_sub (lv' := [(0, .ref 344)]) rfl rfl (B135_ F655_ g656_ g664_ rk665_ (by omega) (by omega) (⟨by intro h0_; have hs_ := c653_s; rw [sp_dom, sp_open]; rw [(show sp_kind K 0 0 = _ from by have x_ := c316_; rw [h5] at x_; exact x_)]; simp only [pb_r]; rw [c339_]; simp only [pb_r]; rw [c362_]; simp only [pb_r]; rw [c385_]; simp only [pb_r]; rw [(show sp_kind K 2 (F387_ 344 5) = .inr (F387_ 344 5 + 1) by rw [sp_kind, if_pos (by omega), sk, if_pos (by omega)])]; simp only [pb_r]; rw [c472_]; simp only [pb_r]; rw [c495_]; simp only [pb_r]; rw [if_neg (fun h8_ => c510_ ⟨by omega, h8_⟩)]; simp only [pb_r]; rw [sp_rpreds]; rw [c522_]; simp only [pb_r]; rw [hspq, sq_e (by omega) (by omega)]; simp only [pb_r]; rw [c554_]; simp only [pb_r]; rw [hspa, sa_f (by omega) (by omega) hs_]; try (show Sum.inl _ = _); try (congr 2 <;> omega), fun h0_ => by exfalso; omega⟩))
              subst hA_
              have g669_ : fs [(344, 344, 5, 5), (344, 344, 9, 10), (344, 344, 14, 15), (344, 344, 17, 17), (344, 344, 21, 21), (344, 344, 63, 63), (349, 363, 0, 100000), (383, 383, 0, 100000)] F F661_ := fs_tr g571_ s663_ rfl
              have rk670_ : rk K F661_ := rk_fs rk572_ s663_ (fun r k h => (fs_n (by omega) (fs_n (by omega) (fs_n (by omega) (fs_n (by omega) (fs_n (by omega) rfl)))))) (fs_n (by omega) (fs_n (by omega) (fs_n (by omega) (fs_n (by omega) (fs_n (by omega) rfl)))))
              try obtain ⟨ca_, ca1_, ca2_⟩ := c659_
              refine ga_aload_n (v := .ref 344) hm_50 rfl rfl rfl ?_
              refine fl_bipush hm_50 rfl rfl ?_
              have b671_ : 0 ≤ F661_ 344 5 ∧ F661_ 344 5 ≤ 600 := gi_g g662_ rfl
              refine gVi (nY := 2) (F := 1) (L := 20) (As := [.int (Int32.ofInt 40)]) (b := 344) (rest := []) hm_50 rfl hm_52 rfl rfl (fl_ob sc_344) rfl rfl rfl rfl rfl (by omega) (by omega) (mc_52 hG F661_ X g662_ (K) (40) hgK rk670_ hkt (by omega) (by omega)) (fun _ _ h => False.elim h) ?_
              have b673_ : 0 ≤ F661_ 344 9 ∧ F661_ 344 9 ≤ 5 := gi_g g662_ rfl
              rintro z672_ A1_ (⟨hA_, hz_, c674_⟩ | ⟨hA_, hz_, c675_, c676_⟩)
              ·
                subst hA_
                subst hz_
                refine ga_istore_n (lv2 := [(1, .int (Int32.ofInt 0)), (0, .ref 344)]) hm_50 rfl (Nat.le_of_ble_eq_true rfl) rfl ?_
                refine fl_goto hm_50 rfl ?_
                have b677_ : 0 ≤ F661_ 344 21 ∧ F661_ 344 21 ≤ 5 := gi_g g662_ rfl
                have b678_ : 0 ≤ F2 344 21 ∧ F2 344 21 ≤ 5 := gi_g hg_F2 rfl
                have b679_ : 0 ≤ K 1 6 ∧ K 1 6 ≤ 601 := gi_g hgK rfl
                exact ih568_ _ (by omega) (0) (_) F661_ rfl g662_ (fs_tr hf_F2 s663_ rfl) (by omega) (ca2_) (Or.inr ⟨rfl, by simp only [List.length_append, List.length_singleton]; omega, by omega⟩) (by omega) (by rw [hspa]; exact sa_step (by omega) (by omega) ca1_ (by simp))
              subst hA_
              subst hz_
              refine ga_istore_n (lv2 := [(1, .int (Int32.ofInt 1)), (0, .ref 344)]) hm_50 rfl (Nat.le_of_ble_eq_true rfl) rfl ?_
              refine fl_goto hm_50 rfl ?_
              have b680_ : 0 ≤ F661_ 344 21 ∧ F661_ 344 21 ≤ 5 := gi_g g662_ rfl
              have b681_ : 0 ≤ F2 344 21 ∧ F2 344 21 ≤ 5 := gi_g hg_F2 rfl
              have b682_ : 0 ≤ K 1 6 ∧ K 1 6 ≤ 601 := gi_g hgK rfl
              exact ih568_ _ (by omega) (1) (_) F661_ rfl g662_ (fs_tr hf_F2 s663_ rfl) (by omega) (ca2_) (Or.inl ⟨rfl, Or.inr (by omega)⟩) (by omega) (by rw [hspa]; exact sa_step (by omega) (by omega) ca1_ (by simp))
            exfalso; omega
          have b683_ : 0 ≤ F556_ 344 9 ∧ F556_ 344 9 ≤ 5 := gi_g g557_ rfl
          have e684_ : F318_ 344 21 = F 344 21 := (s320_ 344 21 rfl).trans (rfl)
          have e685_ : F341_ 344 21 = F 344 21 := (s343_ 344 21 rfl).trans (e684_)
          have e686_ : F364_ 344 21 = F 344 21 := (s366_ 344 21 rfl).trans (e685_)
          have e687_ : F387_ 344 21 = F 344 21 := (s389_ 344 21 rfl).trans (e686_)
          have e688_ : F415_ 344 21 = F 344 21 := (s417_ 344 21 rfl).trans (e687_)
          have e689_ : F455_ 344 21 = F 344 21 := by rw [q456_]; exact (fl_u_ne (by omega)).trans ((fl_u_ne (by omega)).trans (e688_))
          have e690_ : F474_ 344 21 = F 344 21 := (s476_ 344 21 rfl).trans (e689_)
          have e691_ : F497_ 344 21 = F 344 21 := (s499_ 344 21 rfl).trans (e690_)
          have e692_ : F524_ 344 21 = F 344 21 := (s526_ 344 21 rfl).trans (e691_)
          have e693_ : F1 344 21 = F 344 21 := (hf_F1 344 21 rfl).trans (e692_)
          have e694_ : F556_ 344 21 = F 344 21 := (s558_ 344 21 rfl).trans (e693_)
          have b695_ : 0 ≤ F 344 21 ∧ F 344 21 ≤ 5 := gi_g hgi rfl
          have b696_ : 0 ≤ K 1 6 ∧ K 1 6 ≤ 601 := gi_g hgK rfl
          exact L567_ _ (1) ([]) F556_ rfl g557_ fs_refl (by omega) (rpn_0 (by rw [e694_]; exact h21)) (Or.inl ⟨rfl, Or.inl rfl⟩) (by omega) (rfl)
        refine ga_aload_n (v := .ref 344) hm_50 rfl rfl rfl ?_
        refine gIi (nY := 1) (F := 0) (L := 0) (As := []) (b := 344) (rest := []) hm_50 rfl hm_59 rfl rfl (fl_ob sc_344) rfl rfl rfl rfl rfl (by omega) (by omega) ?_
        intro f697_ l698_ h699_ h700_
        show fl_R xi_ms 59 f697_ l698_ 0 [(0, .ref 344)] [] _ _
        refine ga_aload_n (v := .ref 344) hm_59 rfl rfl rfl ?_
        have b701_ : 0 ≤ F1 344 9 ∧ F1 344 9 ≤ 5 := gi_g hg_F1 rfl
        refine ga_geti (z := F1 344 9) hm_59 rfl sc_344 rfl (rfl) ?_
        refine fl_if_le (a := F1 344 9) hm_59 rfl ⟨by omega, by omega⟩ (fun h702_ => ?_) (fun h703_ => ?_)
        ·
          refine fl_iconst hm_59 rfl ?_
          refine gr_i hm_59 rfl rfl (ga_nb (by omega)) ?_
          clear h699_ h700_ f697_ l698_
          refine fl_if_ne hm_50 rfl ⟨by omega, by omega⟩ (fun h => absurd h (by omega)) (fun _ => ?_)
          refine ga_aload_n (v := .ref 344) hm_50 rfl rfl rfl ?_
          have b704_ : 0 ≤ F1 344 5 ∧ F1 344 5 ≤ 600 := gi_g hg_F1 rfl
          refine gVv (nY := 3) (F := 5) (L := 112) (As := []) (b := 344) (rest := []) hm_50 rfl hm_182 rfl rfl (fl_ob sc_344) rfl rfl rfl rfl rfl (by omega) (by omega) (mc_182 hG F1 X hg_F1 (K) ([]) (l) (ps) hgK rk540_ hkt (by omega) ((rpn_fs (rpn_fs (rpn_fs (rpn_fs (by rw [q456_]; exact (rpn_u (rpn_u (rpn_fs (rpn_fs (rpn_fs (rpn_fs (rpn_fs (rpn_0 (a := 349) h15) s320_ (fun _ => (fs_n (by omega) (fs_n (by omega) rfl))) (fs_n (by omega) (fs_n (by omega) rfl))) s343_ (fun _ => (fs_n (by omega) (fs_n (by omega) rfl))) (fs_n (by omega) (fs_n (by omega) rfl))) s366_ (fun _ => (fs_n (by omega) (fs_n (by omega) rfl))) (fs_n (by omega) (fs_n (by omega) rfl))) s389_ (fun _ => (fs_n (by omega) (fs_n (by omega) rfl))) (fs_n (by omega) (fs_n (by omega) rfl))) s417_ (fun _ => (fs_n (by omega) rfl)) (fs_n (by omega) rfl)) (by omega) (by omega)) (by omega) (by omega))) s476_ (fun _ => (fs_n (by omega) (fs_n (by omega) rfl))) (fs_n (by omega) (fs_n (by omega) rfl))) s499_ (fun _ => (fs_n (by omega) (fs_n (by omega) rfl))) (fs_n (by omega) (fs_n (by omega) rfl))) s526_ (fun _ => (fs_n (by omega) (fs_n (by omega) rfl))) (fs_n (by omega) (fs_n (by omega) rfl))) hf_F1 (fun _ => (fs_n (by omega) (fs_n (by omega) (fs_n (by omega) (fs_n (by omega) (fs_n (by omega) rfl)))))) (fs_n (by omega) (fs_n (by omega) (fs_n (by omega) (fs_n (by omega) (fs_n (by omega) rfl))))))) (hl) (hps1)) (fun _ _ h => False.elim h) ?_
          have b706_ : 0 ≤ F1 344 10 ∧ F1 344 10 ≤ 600 := gi_g hg_F1 rfl
          rintro A1_ (⟨F710_, hA_, g711_, s712_, c707_, c708_, c709_⟩ | ⟨F716_, hA_, g717_, s718_, c713_, c714_, c715_⟩)
          ·
            subst hA_
            have g719_ : fs [(344, 344, 5, 5), (344, 344, 9, 10), (344, 344, 14, 15), (344, 344, 17, 17), (344, 344, 21, 21), (344, 344, 63, 63), (349, 363, 0, 100000), (383, 383, 0, 100000)] F F710_ := fs_tr g539_ s712_ rfl
            have rk720_ : rk K F710_ := rk_fs rk540_ s712_ (fun r k h => (fs_n (by omega) (fs_n (by omega) (fs_n (by omega) (fs_n (by omega) (fs_n (by omega) rfl)))))) (fs_n (by omega) (fs_n (by omega) (fs_n (by omega) (fs_n (by omega) (fs_n (by omega) rfl)))))
            have c708_s := c708_.1 (by omega)
            clear c708_
            try obtain ⟨cq_, tq_, cq1_, cq2_, cq3_⟩ := c708_s
            have b721_ : 0 ≤ F710_ 344 9 ∧ F710_ 344 9 ≤ 5 := gi_g g711_ rfl
            have b722_ : 0 ≤ F710_ 344 10 ∧ F710_ 344 10 ≤ 600 := gi_g g711_ rfl
            have b723_ : 0 ≤ F710_ 344 5 ∧ F710_ 344 5 ≤ 600 := gi_g g711_ rfl
            exact fl_R_sub (lv' := [(0, .ref 344)]) rfl rfl (B102_ F710_ g711_ g719_ rk720_ (by omega) (by omega) (⟨by intro h0_; have hs_ := c708_s; rw [sp_dom, sp_open]; rw [(show sp_kind K 0 0 = _ from by have x_ := c316_; rw [h5] at x_; exact x_)]; simp only [pb_r]; rw [c339_]; simp only [pb_r]; rw [c362_]; simp only [pb_r]; rw [c385_]; simp only [pb_r]; rw [(show sp_kind K 2 (F387_ 344 5) = .inr (F387_ 344 5 + 1) by rw [sp_kind, if_pos (by omega), sk, if_pos (by omega)])]; simp only [pb_r]; rw [c472_]; simp only [pb_r]; rw [c495_]; simp only [pb_r]; rw [if_neg (fun h8_ => c510_ ⟨by omega, h8_⟩)]; simp only [pb_r]; rw [sp_rpreds]; rw [c522_]; simp only [pb_r]; rw [hspq, sq_f (by omega) (by omega) hs_]; try (show Sum.inl _ = _); try (congr 2 <;> omega), fun h0_ => by exfalso; omega⟩))
          subst hA_
          have g724_ : fs [(344, 344, 5, 5), (344, 344, 9, 10), (344, 344, 14, 15), (344, 344, 17, 17), (344, 344, 21, 21), (344, 344, 63, 63), (349, 363, 0, 100000), (383, 383, 0, 100000)] F F716_ := fs_tr g539_ s718_ rfl
          have rk725_ : rk K F716_ := rk_fs rk540_ s718_ (fun r k h => (fs_n (by omega) (fs_n (by omega) (fs_n (by omega) (fs_n (by omega) (fs_n (by omega) rfl)))))) (fs_n (by omega) (fs_n (by omega) (fs_n (by omega) (fs_n (by omega) (fs_n (by omega) rfl)))))
          try obtain ⟨cq_, tq_, cq1_, cq2_, cq3_⟩ := c714_
          refine ga_aload_n (v := .ref 344) hm_50 rfl rfl rfl ?_
          refine fl_bipush hm_50 rfl rfl ?_
          have b726_ : 0 ≤ F716_ 344 5 ∧ F716_ 344 5 ≤ 600 := gi_g g717_ rfl
          refine gVi (nY := 2) (F := 1) (L := 20) (As := [.int (Int32.ofInt 40)]) (b := 344) (rest := []) hm_50 rfl hm_52 rfl rfl (fl_ob sc_344) rfl rfl rfl rfl rfl (by omega) (by omega) (mc_52 hG F716_ X g717_ (K) (40) hgK rk725_ hkt (by omega) (by omega)) (fun _ _ h => False.elim h) ?_
          have b728_ : 0 ≤ F716_ 344 9 ∧ F716_ 344 9 ≤ 5 := gi_g g717_ rfl
          rintro z727_ A1_ (⟨hA_, hz_, c729_⟩ | ⟨hA_, hz_, c730_, c731_⟩)
          ·
            subst hA_
            subst hz_
            refine ga_istore_n (lv2 := [(1, .int (Int32.ofInt 0)), (0, .ref 344)]) hm_50 rfl (Nat.le_of_ble_eq_true rfl) rfl ?_
            refine fl_goto hm_50 rfl ?_
            have b732_ : 0 ≤ F716_ 344 17 ∧ F716_ 344 17 ≤ 6 := gi_g g717_ rfl
            have b733_ : 0 ≤ F1 344 17 ∧ F1 344 17 ≤ 6 := gi_g hg_F1 rfl
            have b734_ : 0 ≤ K 1 6 ∧ K 1 6 ≤ 601 := gi_g hgK rfl
            exact ih536_ _ (by omega) (0) (_) (_) F716_ rfl g717_ (fs_tr hf_F1 s718_ rfl) (by omega) (cq2_) (cq3_) (Or.inr ⟨rfl, by simp only [List.length_append, List.length_singleton]; omega, by omega⟩) (by omega) (by rw [hspq]; exact sq_step (by omega) (by omega) cq1_ (by simp))
          subst hA_
          subst hz_
          refine ga_istore_n (lv2 := [(1, .int (Int32.ofInt 1)), (0, .ref 344)]) hm_50 rfl (Nat.le_of_ble_eq_true rfl) rfl ?_
          refine fl_goto hm_50 rfl ?_
          have b735_ : 0 ≤ F716_ 344 17 ∧ F716_ 344 17 ≤ 6 := gi_g g717_ rfl
          have b736_ : 0 ≤ F1 344 17 ∧ F1 344 17 ≤ 6 := gi_g hg_F1 rfl
          have b737_ : 0 ≤ K 1 6 ∧ K 1 6 ≤ 601 := gi_g hgK rfl
          exact ih536_ _ (by omega) (1) (_) (_) F716_ rfl g717_ (fs_tr hf_F1 s718_ rfl) (by omega) (cq2_) (cq3_) (Or.inl ⟨rfl, Or.inr (by omega)⟩) (by omega) (by rw [hspq]; exact sq_step (by omega) (by omega) cq1_ (by simp))
        exfalso; omega
      have b738_ : 0 ≤ F524_ 344 9 ∧ F524_ 344 9 ≤ 5 := gi_g g525_ rfl
      have e739_ : F318_ 344 17 = F 344 17 := (s320_ 344 17 rfl).trans (rfl)
      have e740_ : F341_ 344 17 = F 344 17 := (s343_ 344 17 rfl).trans (e739_)
      have e741_ : F364_ 344 17 = F 344 17 := (s366_ 344 17 rfl).trans (e740_)
      have e742_ : F387_ 344 17 = F 344 17 := (s389_ 344 17 rfl).trans (e741_)
      have e743_ : F415_ 344 17 = F 344 17 := (s417_ 344 17 rfl).trans (e742_)
      have e744_ : F455_ 344 17 = F 344 17 := by rw [q456_]; exact (fl_u_ne (by omega)).trans ((fl_u_ne (by omega)).trans (e743_))
      have e745_ : F474_ 344 17 = F 344 17 := (s476_ 344 17 rfl).trans (e744_)
      have e746_ : F497_ 344 17 = F 344 17 := (s499_ 344 17 rfl).trans (e745_)
      have e747_ : F524_ 344 17 = F 344 17 := (s526_ 344 17 rfl).trans (e746_)
      have b748_ : 0 ≤ F 344 17 ∧ F 344 17 ≤ 6 := gi_g hgi rfl
      have b749_ : 0 ≤ K 1 6 ∧ K 1 6 ≤ 601 := gi_g hgK rfl
      exact L535_ _ (1) ([]) ([]) F524_ rfl g525_ fs_refl (by omega) (rpn_0 (by rw [e747_]; exact h17)) (⟨fun i hi => by simp at hi, rfl⟩) (Or.inl ⟨rfl, Or.inl rfl⟩) (by omega) (rfl)
    subst hA_
    subst hz_
    refine fl_if_eq hm_50 rfl ⟨by omega, by omega⟩ (fun h => absurd h (by omega)) (fun _ => ?_)
    have hszT := (kw_iff (w := [58, 116, 121, 112, 101, 115]) hkt hgK (p := F497_ 344 5) (by omega) (by omega) (by decide) (by decide)).mp c511_.2
    refine ga_aload_n (v := .ref 344) hm_50 rfl rfl rfl ?_
    refine ga_dup hm_50 rfl rfl ?_
    refine ga_geti (z := F497_ 344 5) hm_50 rfl sc_344 rfl (rfl) ?_
    refine fl_iconst hm_50 rfl ?_
    refine ga_iadd (a := F497_ 344 5) (b := 1) (c := F497_ 344 5 + 1) hm_50 rfl (by omega) ?_
    refine ga_puti (z := F497_ 344 5 + 1) hm_50 rfl sc_344 rfl rfl ?_
    refine ga_aload_n (v := .ref 344) hm_50 rfl rfl rfl ?_
    obtain ⟨F750_, q751_⟩ : ∃ F9_, F9_ = (fl_u F497_ 344 5 (F497_ 344 5 + 1)) := ⟨_, rfl⟩
    rw [← q751_]
    have g752_ : gi F750_ := by rw [q751_]; exact gi_u (g498_) rfl (by omega) (by omega)
    have g753_ : fs [(344, 344, 5, 5), (344, 344, 9, 10), (344, 344, 14, 15), (344, 344, 17, 17), (344, 344, 21, 21), (344, 344, 63, 63), (349, 363, 0, 100000), (383, 383, 0, 100000)] F F750_ := by rw [q751_]; exact fs_u (g505_) rfl
    have rk754_ : rk K F750_ := by rw [q751_]; exact rk_u (rk506_) (by omega) (by omega)
    have e755_ : F750_ 344 5 = F497_ 344 5 + 1 := by rw [q751_]; exact fl_u_eq
    have e756_ : F318_ 344 15 = F 344 15 := (s320_ 344 15 rfl).trans (rfl)
    have e757_ : F341_ 344 15 = F 344 15 := (s343_ 344 15 rfl).trans (e756_)
    have e758_ : F364_ 344 15 = F 344 15 := (s366_ 344 15 rfl).trans (e757_)
    have e759_ : F387_ 344 15 = F 344 15 := (s389_ 344 15 rfl).trans (e758_)
    have e760_ : F415_ 344 15 = F 344 15 := (s417_ 344 15 rfl).trans (e759_)
    have e761_ : F455_ 344 15 = F 344 15 := by rw [q456_]; exact (fl_u_ne (by omega)).trans ((fl_u_ne (by omega)).trans (e760_))
    have e762_ : F474_ 344 15 = F 344 15 := (s476_ 344 15 rfl).trans (e761_)
    have e763_ : F497_ 344 15 = F 344 15 := (s499_ 344 15 rfl).trans (e762_)
    have e764_ : F750_ 344 15 = F 344 15 := by rw [q751_]; exact (fl_u_ne (by omega)).trans (e763_)
    refine gVv (nY := 4) (F := 3) (L := 68) (As := []) (b := 344) (rest := []) hm_50 rfl hm_187 rfl rfl (fl_ob sc_344) rfl rfl rfl rfl rfl (by omega) (by omega) (mc_187 hG F750_ X g752_ (K) hgK rk754_ hkt (by omega) (by omega)) (fun _ _ h => False.elim h) ?_
    have e766_ : F750_ 344 10 = F497_ 344 10 := by rw [q751_]; exact fl_u_ne (by omega)
    have b767_ : 0 ≤ F497_ 344 10 ∧ F497_ 344 10 ≤ 600 := gi_g g498_ rfl
    have e768_ : F750_ 344 9 = F497_ 344 9 := by rw [q751_]; exact fl_u_ne (by omega)
    rintro A1_ (⟨F772_, hA_, g773_, s774_, c769_, c770_, c771_⟩ | ⟨F778_, hA_, g779_, s780_, c775_, c776_, c777_⟩)
    ·
      subst hA_
      have g781_ : fs [(344, 344, 5, 5), (344, 344, 9, 10), (344, 344, 14, 15), (344, 344, 17, 17), (344, 344, 21, 21), (344, 344, 63, 63), (349, 363, 0, 100000), (383, 383, 0, 100000)] F F772_ := fs_tr g753_ s774_ rfl
      have rk782_ : rk K F772_ := rk_fs rk754_ s774_ (fun r k h => (fs_n (by omega) (fs_n (by omega) (fs_n (by omega) (fs_n (by omega) rfl))))) (fs_n (by omega) (fs_n (by omega) (fs_n (by omega) (fs_n (by omega) rfl))))
      try simp only [e755_, e766_, e768_] at c770_
      have c770_s := c770_.1 (by omega)
      clear c770_
      try obtain ⟨ts_, ⟨ctt1_, ctt2_⟩, ctt3_⟩ := c770_s
      have b783_ : 0 ≤ F772_ 344 9 ∧ F772_ 344 9 ≤ 5 := gi_g g773_ rfl
      have b784_ : 0 ≤ F772_ 344 10 ∧ F772_ 344 10 ≤ 600 := gi_g g773_ rfl
      have b785_ : 0 ≤ F772_ 344 5 ∧ F772_ 344 5 ≤ 600 := gi_g g773_ rfl
      exact B68_ F772_ g773_ g781_ rk782_ (by omega) (by omega) (⟨by intro h0_; have hs_ := c770_s; rw [sp_dom, sp_open]; rw [(show sp_kind K 0 0 = _ from by have x_ := c316_; rw [h5] at x_; exact x_)]; simp only [pb_r]; rw [c339_]; simp only [pb_r]; rw [c362_]; simp only [pb_r]; rw [c385_]; simp only [pb_r]; rw [(show sp_kind K 2 (F387_ 344 5) = .inr (F387_ 344 5 + 1) by rw [sp_kind, if_pos (by omega), sk, if_pos (by omega)])]; simp only [pb_r]; rw [c472_]; simp only [pb_r]; rw [c495_]; simp only [pb_r]; rw [if_pos c511_.2, sp_rtypes, (show sp_word K [58, 116, 121, 112, 101, 115] (F497_ 344 5) = .inr (F497_ 344 5 + 1) by rw [sp_word, if_pos c511_.2, sk, if_pos (by omega)])]; simp only [pb_r]; rw [st1_fl hs_]; try (show Sum.inl _ = _); try (congr 2 <;> omega), fun h0_ => by exfalso; omega⟩)
    subst hA_
    have g786_ : fs [(344, 344, 5, 5), (344, 344, 9, 10), (344, 344, 14, 15), (344, 344, 17, 17), (344, 344, 21, 21), (344, 344, 63, 63), (349, 363, 0, 100000), (383, 383, 0, 100000)] F F778_ := fs_tr g753_ s780_ rfl
    have rk787_ : rk K F778_ := rk_fs rk754_ s780_ (fun r k h => (fs_n (by omega) (fs_n (by omega) (fs_n (by omega) (fs_n (by omega) rfl))))) (fs_n (by omega) (fs_n (by omega) (fs_n (by omega) (fs_n (by omega) rfl))))
    try simp only [e768_] at c775_
    try simp only [e755_] at c776_
    try obtain ⟨ts_, ⟨ctt1_, ctt2_⟩, ctt3_⟩ := c776_
    refine ga_aload_n (v := .ref 344) hm_50 rfl rfl rfl ?_
    refine fl_bipush hm_50 rfl rfl ?_
    have b788_ : 0 ≤ F778_ 344 5 ∧ F778_ 344 5 ≤ 600 := gi_g g779_ rfl
    refine gVv (nY := 2) (F := 2) (L := 41) (As := [.int (Int32.ofInt 41)]) (b := 344) (rest := []) hm_50 rfl hm_51 rfl rfl (fl_ob sc_344) rfl rfl rfl rfl rfl (by omega) (by omega) (mc_51 hG F778_ X g779_ (K) (41) (1) hgK rk787_ hkt (by omega) (by omega) (by omega)) (fun _ _ h => False.elim h) ?_
    have b790_ : 0 ≤ F778_ 344 10 ∧ F778_ 344 10 ≤ 600 := gi_g g779_ rfl
    have b791_ : 0 ≤ F778_ 344 9 ∧ F778_ 344 9 ≤ 5 := gi_g g779_ rfl
    rintro A1_ (⟨F795_, hA_, g796_, s797_, c792_, c793_, c794_⟩ | ⟨F801_, hA_, g802_, s803_, c798_, c799_, c800_⟩)
    ·
      subst hA_
      have g804_ : fs [(344, 344, 5, 5), (344, 344, 9, 10), (344, 344, 14, 15), (344, 344, 17, 17), (344, 344, 21, 21), (344, 344, 63, 63), (349, 363, 0, 100000), (383, 383, 0, 100000)] F F795_ := fs_tr g786_ s797_ rfl
      have rk805_ : rk K F795_ := rk_fs rk787_ s797_ (fun r k h => (fs_n (by omega) (fs_n (by omega) rfl))) (fs_n (by omega) (fs_n (by omega) rfl))
      have c793_s := c793_.1 (by omega)
      clear c793_
      have b806_ : 0 ≤ F795_ 344 9 ∧ F795_ 344 9 ≤ 5 := gi_g g796_ rfl
      have b807_ : 0 ≤ F795_ 344 10 ∧ F795_ 344 10 ≤ 600 := gi_g g796_ rfl
      have b808_ : 0 ≤ F795_ 344 5 ∧ F795_ 344 5 ≤ 600 := gi_g g796_ rfl
      exact B74_ F795_ g796_ g804_ rk805_ (by omega) (by omega) (⟨by intro h0_; have hs_ := c793_s; rw [sp_dom, sp_open]; rw [(show sp_kind K 0 0 = _ from by have x_ := c316_; rw [h5] at x_; exact x_)]; simp only [pb_r]; rw [c339_]; simp only [pb_r]; rw [c362_]; simp only [pb_r]; rw [c385_]; simp only [pb_r]; rw [(show sp_kind K 2 (F387_ 344 5) = .inr (F387_ 344 5 + 1) by rw [sp_kind, if_pos (by omega), sk, if_pos (by omega)])]; simp only [pb_r]; rw [c472_]; simp only [pb_r]; rw [c495_]; simp only [pb_r]; rw [if_pos c511_.2, sp_rtypes, (show sp_word K [58, 116, 121, 112, 101, 115] (F497_ 344 5) = .inr (F497_ 344 5 + 1) by rw [sp_word, if_pos c511_.2, sk, if_pos (by omega)])]; simp only [pb_r]; rw [st1_ok ctt1_]; simp only [pb_r]; rw [hs_]; try (show Sum.inl _ = _); try (congr 2 <;> omega), fun h0_ => by exfalso; omega⟩)
    subst hA_
    have g809_ : fs [(344, 344, 5, 5), (344, 344, 9, 10), (344, 344, 14, 15), (344, 344, 17, 17), (344, 344, 21, 21), (344, 344, 63, 63), (349, 363, 0, 100000), (383, 383, 0, 100000)] F F801_ := fs_tr g786_ s803_ rfl
    have rk810_ : rk K F801_ := rk_fs rk787_ s803_ (fun r k h => (fs_n (by omega) (fs_n (by omega) rfl))) (fs_n (by omega) (fs_n (by omega) rfl))
    refine ga_aload_n (v := .ref 344) hm_50 rfl rfl rfl ?_
    refine fl_bipush hm_50 rfl rfl ?_
    have b811_ : 0 ≤ F801_ 344 5 ∧ F801_ 344 5 ≤ 600 := gi_g g802_ rfl
    refine gVv (nY := 2) (F := 2) (L := 41) (As := [.int (Int32.ofInt 40)]) (b := 344) (rest := []) hm_50 rfl hm_51 rfl rfl (fl_ob sc_344) rfl rfl rfl rfl rfl (by omega) (by omega) (mc_51 hG F801_ X g802_ (K) (40) (0) hgK rk810_ hkt (by omega) (by omega) (by omega)) (fun _ _ h => False.elim h) ?_
    have b813_ : 0 ≤ F801_ 344 10 ∧ F801_ 344 10 ≤ 600 := gi_g g802_ rfl
    have b814_ : 0 ≤ F801_ 344 9 ∧ F801_ 344 9 ≤ 5 := gi_g g802_ rfl
    rintro A1_ (⟨F818_, hA_, g819_, s820_, c815_, c816_, c817_⟩ | ⟨F824_, hA_, g825_, s826_, c821_, c822_, c823_⟩)
    ·
      subst hA_
      have g827_ : fs [(344, 344, 5, 5), (344, 344, 9, 10), (344, 344, 14, 15), (344, 344, 17, 17), (344, 344, 21, 21), (344, 344, 63, 63), (349, 363, 0, 100000), (383, 383, 0, 100000)] F F818_ := fs_tr g809_ s820_ rfl
      have rk828_ : rk K F818_ := rk_fs rk810_ s820_ (fun r k h => (fs_n (by omega) (fs_n (by omega) rfl))) (fs_n (by omega) (fs_n (by omega) rfl))
      have c816_s := c816_.1 (by omega)
      clear c816_
      have b829_ : 0 ≤ F818_ 344 9 ∧ F818_ 344 9 ≤ 5 := gi_g g819_ rfl
      have b830_ : 0 ≤ F818_ 344 10 ∧ F818_ 344 10 ≤ 600 := gi_g g819_ rfl
      have b831_ : 0 ≤ F818_ 344 5 ∧ F818_ 344 5 ≤ 600 := gi_g g819_ rfl
      exact B80_ F818_ g819_ g827_ rk828_ (by omega) (by omega) (⟨by intro h0_; have hs_ := c816_s; rw [sp_dom, sp_open]; rw [(show sp_kind K 0 0 = _ from by have x_ := c316_; rw [h5] at x_; exact x_)]; simp only [pb_r]; rw [c339_]; simp only [pb_r]; rw [c362_]; simp only [pb_r]; rw [c385_]; simp only [pb_r]; rw [(show sp_kind K 2 (F387_ 344 5) = .inr (F387_ 344 5 + 1) by rw [sp_kind, if_pos (by omega), sk, if_pos (by omega)])]; simp only [pb_r]; rw [c472_]; simp only [pb_r]; rw [c495_]; simp only [pb_r]; rw [if_pos c511_.2, sp_rtypes, (show sp_word K [58, 116, 121, 112, 101, 115] (F497_ 344 5) = .inr (F497_ 344 5 + 1) by rw [sp_word, if_pos c511_.2, sk, if_pos (by omega)])]; simp only [pb_r]; rw [st1_ok ctt1_]; simp only [pb_r]; rw [c799_]; simp only [pb_r]; rw [hs_]; try (show Sum.inl _ = _); try (congr 2 <;> omega), fun h0_ => by exfalso; omega⟩)
    subst hA_
    have g832_ : fs [(344, 344, 5, 5), (344, 344, 9, 10), (344, 344, 14, 15), (344, 344, 17, 17), (344, 344, 21, 21), (344, 344, 63, 63), (349, 363, 0, 100000), (383, 383, 0, 100000)] F F824_ := fs_tr g809_ s826_ rfl
    have rk833_ : rk K F824_ := rk_fs rk810_ s826_ (fun r k h => (fs_n (by omega) (fs_n (by omega) rfl))) (fs_n (by omega) (fs_n (by omega) rfl))
    refine ga_aload_n (v := .ref 344) hm_50 rfl rfl rfl ?_
    refine fl_iconst hm_50 rfl ?_
    have b834_ : 0 ≤ F824_ 344 5 ∧ F824_ 344 5 ≤ 600 := gi_g g825_ rfl
    refine gVv (nY := 2) (F := 2) (L := 44) (As := [.int (Int32.ofInt 3)]) (b := 344) (rest := []) hm_50 rfl hm_55 rfl rfl (fl_ob sc_344) rfl rfl rfl rfl rfl (by omega) (by omega) (mc_55 hG F824_ X g825_ (K) (3) ([58, 112, 114, 101, 100, 105, 99, 97, 116, 101, 115]) hgK rk833_ hkt (by omega) (by omega) (by decide) (kw_3 rk833_)) (fun _ _ h => False.elim h) ?_
    have b836_ : 0 ≤ F824_ 344 10 ∧ F824_ 344 10 ≤ 600 := gi_g g825_ rfl
    have b837_ : 0 ≤ F824_ 344 9 ∧ F824_ 344 9 ≤ 5 := gi_g g825_ rfl
    rintro A1_ (⟨F841_, hA_, g842_, s843_, c838_, c839_, c840_⟩ | ⟨F847_, hA_, g848_, s849_, c844_, c845_, c846_⟩)
    ·
      subst hA_
      have g850_ : fs [(344, 344, 5, 5), (344, 344, 9, 10), (344, 344, 14, 15), (344, 344, 17, 17), (344, 344, 21, 21), (344, 344, 63, 63), (349, 363, 0, 100000), (383, 383, 0, 100000)] F F841_ := fs_tr g832_ s843_ rfl
      have rk851_ : rk K F841_ := rk_fs rk833_ s843_ (fun r k h => (fs_n (by omega) (fs_n (by omega) rfl))) (fs_n (by omega) (fs_n (by omega) rfl))
      have c839_s := c839_.1 (by omega)
      clear c839_
      have b852_ : 0 ≤ F841_ 344 9 ∧ F841_ 344 9 ≤ 5 := gi_g g842_ rfl
      have b853_ : 0 ≤ F841_ 344 10 ∧ F841_ 344 10 ≤ 600 := gi_g g842_ rfl
      have b854_ : 0 ≤ F841_ 344 5 ∧ F841_ 344 5 ≤ 600 := gi_g g842_ rfl
      exact B85_ F841_ g842_ g850_ rk851_ (by omega) (by omega) (⟨by intro h0_; have hs_ := c839_s; rw [sp_dom, sp_open]; rw [(show sp_kind K 0 0 = _ from by have x_ := c316_; rw [h5] at x_; exact x_)]; simp only [pb_r]; rw [c339_]; simp only [pb_r]; rw [c362_]; simp only [pb_r]; rw [c385_]; simp only [pb_r]; rw [(show sp_kind K 2 (F387_ 344 5) = .inr (F387_ 344 5 + 1) by rw [sp_kind, if_pos (by omega), sk, if_pos (by omega)])]; simp only [pb_r]; rw [c472_]; simp only [pb_r]; rw [c495_]; simp only [pb_r]; rw [if_pos c511_.2, sp_rtypes, (show sp_word K [58, 116, 121, 112, 101, 115] (F497_ 344 5) = .inr (F497_ 344 5 + 1) by rw [sp_word, if_pos c511_.2, sk, if_pos (by omega)])]; simp only [pb_r]; rw [st1_ok ctt1_]; simp only [pb_r]; rw [c799_]; simp only [pb_r]; rw [c822_]; simp only [pb_r]; rw [sp_rpreds]; rw [hs_]; try (show Sum.inl _ = _); try (congr 2 <;> omega), fun h0_ => by exfalso; omega⟩)
    subst hA_
    have g855_ : fs [(344, 344, 5, 5), (344, 344, 9, 10), (344, 344, 14, 15), (344, 344, 17, 17), (344, 344, 21, 21), (344, 344, 63, 63), (349, 363, 0, 100000), (383, 383, 0, 100000)] F F847_ := fs_tr g832_ s849_ rfl
    have rk856_ : rk K F847_ := rk_fs rk833_ s849_ (fun r k h => (fs_n (by omega) (fs_n (by omega) rfl))) (fs_n (by omega) (fs_n (by omega) rfl))
    refine fl_iconst hm_50 rfl ?_
    refine ga_istore_n (lv2 := [(1, .int (Int32.ofInt 1)), (0, .ref 344)]) hm_50 rfl (Nat.le_of_ble_eq_true rfl) rfl ?_
    have b860_ : 0 ≤ F847_ 344 5 ∧ F847_ 344 5 ≤ 600 := gi_g g848_ rfl
    have L858_ : ∀ (n857_ : Nat) (mo : Int) (l : List Int) (ps : List (List Int)) (F1 : fl_N), (7 - F1 344 17 : Int).toNat = n857_ → (gi F1) → (fs [(344, 344, 5, 5), (344, 344, 9, 10), (344, 344, 17, 17), (350, 352, 0, 100000), (383, 383, 0, 100000)] F847_ F1) → (F1 344 9 = 0) → (rpn (F1 350) (F1 344 17) l) → (rprd F1 ps ∧ ps.length = l.length) → ((mo = 1 ∧ ((l.length : Int) = 0 ∨ K 3 (F1 344 5).toNat = 0)) ∨ (mo = 0 ∧ 0 < (l.length : Int) ∧ ¬ K 3 (F1 344 5).toNat = 0)) → (0 ≤ F1 344 5 ∧ F1 344 5 ≤ K 1 6 - 1) → (sp_preds K ts_ 6 [] [] (F847_ 344 5) = sp_preds K ts_ (6 - l.length) l ps (F1 344 5)) → fl_R xi_ms 50 fr lo 87 [(1, .int (Int32.ofInt mo)), (0, .ref 344)] [] (fl_H sh_T G F1 ++ X) (pq_50 G F X K) := by
      intro n857_
      induction n857_ using Nat.strongRecOn with
      | ind n857_ ih859_ =>
      intro mo l ps F1 hn861_ hg_F1 hf_F1 hk hl hps1 hmo hp1 hspq
      have g862_ : fs [(344, 344, 5, 5), (344, 344, 9, 10), (344, 344, 14, 15), (344, 344, 17, 17), (344, 344, 21, 21), (344, 344, 63, 63), (349, 363, 0, 100000), (383, 383, 0, 100000)] F F1 := fs_tr g855_ hf_F1 rfl
      have rk863_ : rk K F1 := rk_fs rk856_ hf_F1 (fun r k h => (fs_n (by omega) (fs_n (by omega) (fs_n (by omega) (fs_n (by omega) (fs_n (by omega) rfl)))))) (fs_n (by omega) (fs_n (by omega) (fs_n (by omega) (fs_n (by omega) (fs_n (by omega) rfl)))))
      have hl1 := hl.1
      have hP1 := (rkt_p hkt (p := F1 344 5) (by omega) (by omega) hgK).1
      have hb17 : 0 ≤ F1 344 17 ∧ F1 344 17 ≤ 6 := gi_g hg_F1 rfl
      refine ga_iload_n (z := mo) hm_50 rfl rfl ?_
      refine fl_if_eq (a := mo) hm_50 rfl ⟨by omega, by omega⟩ (fun h864_ => ?_) (fun h865_ => ?_)
      ·
        refine ga_aload_n (v := .ref 344) hm_50 rfl rfl rfl ?_
        refine fl_bipush hm_50 rfl rfl ?_
        have b866_ : 0 ≤ F1 344 5 ∧ F1 344 5 ≤ 600 := gi_g hg_F1 rfl
        refine gVv (nY := 2) (F := 2) (L := 41) (As := [.int (Int32.ofInt 41)]) (b := 344) (rest := []) hm_50 rfl hm_51 rfl rfl (fl_ob sc_344) rfl rfl rfl rfl rfl (by omega) (by omega) (mc_51 hG F1 X hg_F1 (K) (41) (1) hgK rk863_ hkt (by omega) (by omega) (by omega)) (fun _ _ h => False.elim h) ?_
        have b868_ : 0 ≤ F1 344 10 ∧ F1 344 10 ≤ 600 := gi_g hg_F1 rfl
        have b869_ : 0 ≤ F1 344 9 ∧ F1 344 9 ≤ 5 := gi_g hg_F1 rfl
        rintro A1_ (⟨F873_, hA_, g874_, s875_, c870_, c871_, c872_⟩ | ⟨F879_, hA_, g880_, s881_, c876_, c877_, c878_⟩)
        ·
          subst hA_
          have g882_ : fs [(344, 344, 5, 5), (344, 344, 9, 10), (344, 344, 14, 15), (344, 344, 17, 17), (344, 344, 21, 21), (344, 344, 63, 63), (349, 363, 0, 100000), (383, 383, 0, 100000)] F F873_ := fs_tr g862_ s875_ rfl
          have rk883_ : rk K F873_ := rk_fs rk863_ s875_ (fun r k h => (fs_n (by omega) (fs_n (by omega) rfl))) (fs_n (by omega) (fs_n (by omega) rfl))
          have c871_s := c871_.1 (by omega)
          clear c871_
          have b884_ : 0 ≤ F873_ 344 9 ∧ F873_ 344 9 ≤ 5 := gi_g g874_ rfl
          have b885_ : 0 ≤ F873_ 344 10 ∧ F873_ 344 10 ≤ 600 := gi_g g874_ rfl
          have b886_ : 0 ≤ F873_ 344 5 ∧ F873_ 344 5 ≤ 600 := gi_g g874_ rfl
          exact fl_R_sub (lv' := [(0, .ref 344)]) rfl rfl (B118_ F873_ g874_ g882_ rk883_ (by omega) (by omega) (⟨by intro h0_; have hs_ := c871_s; rw [sp_dom, sp_open]; rw [(show sp_kind K 0 0 = _ from by have x_ := c316_; rw [h5] at x_; exact x_)]; simp only [pb_r]; rw [c339_]; simp only [pb_r]; rw [c362_]; simp only [pb_r]; rw [c385_]; simp only [pb_r]; rw [(show sp_kind K 2 (F387_ 344 5) = .inr (F387_ 344 5 + 1) by rw [sp_kind, if_pos (by omega), sk, if_pos (by omega)])]; simp only [pb_r]; rw [c472_]; simp only [pb_r]; rw [c495_]; simp only [pb_r]; rw [if_pos c511_.2, sp_rtypes, (show sp_word K [58, 116, 121, 112, 101, 115] (F497_ 344 5) = .inr (F497_ 344 5 + 1) by rw [sp_word, if_pos c511_.2, sk, if_pos (by omega)])]; simp only [pb_r]; rw [st1_ok ctt1_]; simp only [pb_r]; rw [c799_]; simp only [pb_r]; rw [c822_]; simp only [pb_r]; rw [sp_rpreds]; rw [c845_]; simp only [pb_r]; rw [hspq, sq_e (by omega) (by omega)]; simp only [pb_r]; rw [c316_]; simp only [pb_r]; rw [hspa, sa_e (by omega) (by omega)]; simp only [pb_r]; rw [sp_close]; rw [c339_]; simp only [pb_r]; rw [sp_kind, if_pos ((rkt_p hkt (p := F341_ 344 5) (by omega) (by omega) hgK).2.2 (by omega)).2]; simp only [pb_r], fun h0_ => by exfalso; omega⟩))
        subst hA_
        have g887_ : fs [(344, 344, 5, 5), (344, 344, 9, 10), (344, 344, 14, 15), (344, 344, 17, 17), (344, 344, 21, 21), (344, 344, 63, 63), (349, 363, 0, 100000), (383, 383, 0, 100000)] F F879_ := fs_tr g862_ s881_ rfl
        have rk888_ : rk K F879_ := rk_fs rk863_ s881_ (fun r k h => (fs_n (by omega) (fs_n (by omega) rfl))) (fs_n (by omega) (fs_n (by omega) rfl))
        refine fl_iconst hm_50 rfl ?_
        refine ga_istore_n (lv2 := [(1, .int (Int32.ofInt 1)), (0, .ref 344)]) hm_50 rfl (Nat.le_of_ble_eq_true rfl) rfl ?_
        have b892_ : 0 ≤ F879_ 344 5 ∧ F879_ 344 5 ≤ 600 := gi_g g880_ rfl
        have L890_ : ∀ (n889_ : Nat) (mo2 : Int) (al : List Int) (F2 : fl_N), (6 - F2 344 21 : Int).toNat = n889_ → (gi F2) → (fs [(344, 344, 5, 5), (344, 344, 9, 10), (344, 344, 21, 21), (344, 344, 63, 63), (353, 363, 0, 100000)] F879_ F2) → (F2 344 9 = 0) → (rpn (F2 353) (F2 344 21) al) → ((mo2 = 1 ∧ ((al.length : Int) = 0 ∨ K 3 (F2 344 5).toNat = 0)) ∨ (mo2 = 0 ∧ 0 < (al.length : Int) ∧ ¬ K 3 (F2 344 5).toNat = 0)) → (0 ≤ F2 344 5 ∧ F2 344 5 ≤ K 1 6 - 1) → (sp_actions K ts_ l ps 5 [] (F879_ 344 5) = sp_actions K ts_ l ps (5 - al.length) al (F2 344 5)) → fl_R xi_ms 50 fr lo 120 [(1, .int (Int32.ofInt mo2)), (0, .ref 344)] [] (fl_H sh_T G F2 ++ X) (pq_50 G F X K) := by
          intro n889_
          induction n889_ using Nat.strongRecOn with
          | ind n889_ ih891_ =>
          intro mo2 al F2 hn893_ hg_F2 hf_F2 hk2 hal hmo2 hp2 hspa
          have g894_ : fs [(344, 344, 5, 5), (344, 344, 9, 10), (344, 344, 14, 15), (344, 344, 17, 17), (344, 344, 21, 21), (344, 344, 63, 63), (349, 363, 0, 100000), (383, 383, 0, 100000)] F F2 := fs_tr g887_ hf_F2 rfl
          have rk895_ : rk K F2 := rk_fs rk888_ hf_F2 (fun r k h => (fs_n (by omega) (fs_n (by omega) (fs_n (by omega) (fs_n (by omega) (fs_n (by omega) rfl)))))) (fs_n (by omega) (fs_n (by omega) (fs_n (by omega) (fs_n (by omega) (fs_n (by omega) rfl)))))
          have hal1 := hal.1
          have hP2 := (rkt_p hkt (p := F2 344 5) (by omega) (by omega) hgK).1
          have hb21 : 0 ≤ F2 344 21 ∧ F2 344 21 ≤ 5 := gi_g hg_F2 rfl
          refine ga_iload_n (z := mo2) hm_50 rfl rfl ?_
          refine fl_if_eq (a := mo2) hm_50 rfl ⟨by omega, by omega⟩ (fun h896_ => ?_) (fun h897_ => ?_)
          ·
            refine ga_aload_n (v := .ref 344) hm_50 rfl rfl rfl ?_
            refine fl_bipush hm_50 rfl rfl ?_
            have b898_ : 0 ≤ F2 344 5 ∧ F2 344 5 ≤ 600 := gi_g hg_F2 rfl
            refine gVv (nY := 2) (F := 2) (L := 41) (As := [.int (Int32.ofInt 41)]) (b := 344) (rest := []) hm_50 rfl hm_51 rfl rfl (fl_ob sc_344) rfl rfl rfl rfl rfl (by omega) (by omega) (mc_51 hG F2 X hg_F2 (K) (41) (1) hgK rk895_ hkt (by omega) (by omega) (by omega)) (fun _ _ h => False.elim h) ?_
            have b900_ : 0 ≤ F2 344 10 ∧ F2 344 10 ≤ 600 := gi_g hg_F2 rfl
            have b901_ : 0 ≤ F2 344 9 ∧ F2 344 9 ≤ 5 := gi_g hg_F2 rfl
            rintro A1_ (⟨F905_, hA_, g906_, s907_, c902_, c903_, c904_⟩ | ⟨F911_, hA_, g912_, s913_, c908_, c909_, c910_⟩)
            ·
              subst hA_
              have g914_ : fs [(344, 344, 5, 5), (344, 344, 9, 10), (344, 344, 14, 15), (344, 344, 17, 17), (344, 344, 21, 21), (344, 344, 63, 63), (349, 363, 0, 100000), (383, 383, 0, 100000)] F F905_ := fs_tr g894_ s907_ rfl
              have rk915_ : rk K F905_ := rk_fs rk895_ s907_ (fun r k h => (fs_n (by omega) (fs_n (by omega) rfl))) (fs_n (by omega) (fs_n (by omega) rfl))
              have c903_s := c903_.1 (by omega)
              clear c903_
              have b916_ : 0 ≤ F905_ 344 9 ∧ F905_ 344 9 ≤ 5 := gi_g g906_ rfl
              have b917_ : 0 ≤ F905_ 344 10 ∧ F905_ 344 10 ≤ 600 := gi_g g906_ rfl
              have b918_ : 0 ≤ F905_ 344 5 ∧ F905_ 344 5 ≤ 600 := gi_g g906_ rfl
              exact fl_R_sub (lv' := [(0, .ref 344)]) rfl rfl (B151_ F905_ g906_ g914_ rk915_ (by omega) (by omega) (⟨by intro h0_; have hs_ := c903_s; rw [sp_dom, sp_open]; rw [(show sp_kind K 0 0 = _ from by have x_ := c316_; rw [h5] at x_; exact x_)]; simp only [pb_r]; rw [c339_]; simp only [pb_r]; rw [c362_]; simp only [pb_r]; rw [c385_]; simp only [pb_r]; rw [(show sp_kind K 2 (F387_ 344 5) = .inr (F387_ 344 5 + 1) by rw [sp_kind, if_pos (by omega), sk, if_pos (by omega)])]; simp only [pb_r]; rw [c472_]; simp only [pb_r]; rw [c495_]; simp only [pb_r]; rw [if_pos c511_.2, sp_rtypes, (show sp_word K [58, 116, 121, 112, 101, 115] (F497_ 344 5) = .inr (F497_ 344 5 + 1) by rw [sp_word, if_pos c511_.2, sk, if_pos (by omega)])]; simp only [pb_r]; rw [st1_ok ctt1_]; simp only [pb_r]; rw [c799_]; simp only [pb_r]; rw [c822_]; simp only [pb_r]; rw [sp_rpreds]; rw [c845_]; simp only [pb_r]; rw [hspq, sq_e (by omega) (by omega)]; simp only [pb_r]; rw [c877_]; simp only [pb_r]; rw [hspa, sa_e (by omega) (by omega)]; simp only [pb_r]; rw [sp_close]; rw [c316_]; simp only [pb_r]; rw [sp_kind, if_pos ((rkt_p hkt (p := F318_ 344 5) (by omega) (by omega) hgK).2.2 (by omega)).2]; simp only [pb_r], fun h0_ => by exfalso; omega⟩))
            subst hA_
            have g919_ : fs [(344, 344, 5, 5), (344, 344, 9, 10), (344, 344, 14, 15), (344, 344, 17, 17), (344, 344, 21, 21), (344, 344, 63, 63), (349, 363, 0, 100000), (383, 383, 0, 100000)] F F911_ := fs_tr g894_ s913_ rfl
            have rk920_ : rk K F911_ := rk_fs rk895_ s913_ (fun r k h => (fs_n (by omega) (fs_n (by omega) rfl))) (fs_n (by omega) (fs_n (by omega) rfl))
            refine ga_aload_n (v := .ref 344) hm_50 rfl rfl rfl ?_
            refine gIi (nY := 1) (F := 0) (L := 0) (As := []) (b := 344) (rest := []) hm_50 rfl hm_59 rfl rfl (fl_ob sc_344) rfl rfl rfl rfl rfl (by omega) (by omega) ?_
            intro f921_ l922_ h923_ h924_
            show fl_R xi_ms 59 f921_ l922_ 0 [(0, .ref 344)] [] _ _
            refine ga_aload_n (v := .ref 344) hm_59 rfl rfl rfl ?_
            have b925_ : 0 ≤ F911_ 344 9 ∧ F911_ 344 9 ≤ 5 := gi_g g912_ rfl
            refine ga_geti (z := F911_ 344 9) hm_59 rfl sc_344 rfl (rfl) ?_
            refine fl_if_le (a := F911_ 344 9) hm_59 rfl ⟨by omega, by omega⟩ (fun h926_ => ?_) (fun h927_ => ?_)
            ·
              refine fl_iconst hm_59 rfl ?_
              refine gr_i hm_59 rfl rfl (ga_nb (by omega)) ?_
              clear h923_ h924_ f921_ l922_
              refine fl_if_ne hm_50 rfl ⟨by omega, by omega⟩ (fun h => absurd h (by omega)) (fun _ => ?_)
              refine ga_aload_n (v := .ref 344) hm_50 rfl rfl rfl ?_
              have b928_ : 0 ≤ F911_ 344 5 ∧ F911_ 344 5 ≤ 600 := gi_g g912_ rfl
              refine ga_geti (z := F911_ 344 5) hm_50 rfl sc_344 rfl (rfl) ?_
              refine ga_aload_n (v := .ref 344) hm_50 rfl rfl rfl ?_
              have e929_ : F911_ 344 4 = K 1 6 - 1 := rk920_.2.1
              refine ga_geti (z := K 1 6 - 1) hm_50 rfl sc_344 rfl (e929_) ?_
              refine fl_icmp_ge (a := F911_ 344 5) (b := K 1 6 - 1) hm_50 rfl ⟨by omega, by omega⟩ ⟨by omega, by omega⟩ (fun h930_ => ?_) (fun h931_ => ?_)
              ·
                refine gr_v hm_50 rfl rfl ?_
                have e932_ : F801_ 344 15 = F778_ 344 15 := (s803_ 344 15 rfl).trans (rfl)
                have e933_ : F824_ 344 15 = F778_ 344 15 := (s826_ 344 15 rfl).trans (e932_)
                have e934_ : F847_ 344 15 = F778_ 344 15 := (s849_ 344 15 rfl).trans (e933_)
                have e935_ : F1 344 15 = F778_ 344 15 := (hf_F1 344 15 rfl).trans (e934_)
                have e936_ : F879_ 344 15 = F778_ 344 15 := (s881_ 344 15 rfl).trans (e935_)
                have e937_ : F2 344 15 = F778_ 344 15 := (hf_F2 344 15 rfl).trans (e936_)
                have e938_ : F911_ 344 15 = F778_ 344 15 := (s913_ 344 15 rfl).trans (e937_)
                have b939_ : 0 ≤ F778_ 344 15 ∧ F778_ 344 15 ≤ 4 := gi_g g779_ rfl
                have e940_ : F879_ 344 17 = F1 344 17 := (s881_ 344 17 rfl).trans (rfl)
                have e941_ : F2 344 17 = F1 344 17 := (hf_F2 344 17 rfl).trans (e940_)
                have e942_ : F911_ 344 17 = F1 344 17 := (s913_ 344 17 rfl).trans (e941_)
                have b943_ : 0 ≤ F1 344 17 ∧ F1 344 17 ≤ 6 := gi_g hg_F1 rfl
                have e944_ : F911_ 344 21 = F2 344 21 := (s913_ 344 21 rfl).trans (rfl)
                have b945_ : 0 ≤ F2 344 21 ∧ F2 344 21 ≤ 5 := gi_g hg_F2 rfl
                exact Or.inr (⟨F911_, rfl, g912_, g919_, (by omega), (⟨ts_, l, ps, al, by rw [sp_dom, sp_open]; rw [(show sp_kind K 0 0 = _ from by have x_ := c316_; rw [h5] at x_; exact x_)]; simp only [pb_r]; rw [c339_]; simp only [pb_r]; rw [c362_]; simp only [pb_r]; rw [c385_]; simp only [pb_r]; rw [(show sp_kind K 2 (F387_ 344 5) = .inr (F387_ 344 5 + 1) by rw [sp_kind, if_pos (by omega), sk, if_pos (by omega)])]; simp only [pb_r]; rw [c472_]; simp only [pb_r]; rw [c495_]; simp only [pb_r]; rw [if_pos c511_.2, sp_rtypes, (show sp_word K [58, 116, 121, 112, 101, 115] (F497_ 344 5) = .inr (F497_ 344 5 + 1) by rw [sp_word, if_pos c511_.2, sk, if_pos (by omega)])]; simp only [pb_r]; rw [st1_ok ctt1_]; simp only [pb_r]; rw [c799_]; simp only [pb_r]; rw [c822_]; simp only [pb_r]; rw [sp_rpreds]; rw [c845_]; simp only [pb_r]; rw [hspq, sq_e (by omega) (by omega)]; simp only [pb_r]; rw [c877_]; simp only [pb_r]; rw [hspa, sa_e (by omega) (by omega)]; simp only [pb_r]; rw [sp_close]; rw [c909_]; simp only [pb_r]; rw [sp_kind, if_pos ((rkt_p hkt (p := F911_ 344 5) (by omega) (by omega) hgK).2.2 (by omega)).2]; simp only [pb_r], (rpn_fs (rpn_fs (rpn_fs (rpn_fs (rpn_fs (rpn_fs (rpn_fs ctt3_ s803_ (fun _ => (fs_n (by omega) (fs_n (by omega) rfl))) (fs_n (by omega) (fs_n (by omega) rfl))) s826_ (fun _ => (fs_n (by omega) (fs_n (by omega) rfl))) (fs_n (by omega) (fs_n (by omega) rfl))) s849_ (fun _ => (fs_n (by omega) (fs_n (by omega) rfl))) (fs_n (by omega) (fs_n (by omega) rfl))) hf_F1 (fun _ => (fs_n (by omega) (fs_n (by omega) (fs_n (by omega) (fs_n (by omega) (fs_n (by omega) rfl)))))) (fs_n (by omega) (fs_n (by omega) (fs_n (by omega) (fs_n (by omega) (fs_n (by omega) rfl)))))) s881_ (fun _ => (fs_n (by omega) (fs_n (by omega) rfl))) (fs_n (by omega) (fs_n (by omega) rfl))) hf_F2 (fun _ => (fs_n (by omega) (fs_n (by omega) (fs_n (by omega) (fs_n (by omega) (fs_n (by omega) rfl)))))) (fs_n (by omega) (fs_n (by omega) (fs_n (by omega) (fs_n (by omega) (fs_n (by omega) rfl)))))) s913_ (fun _ => (fs_n (by omega) (fs_n (by omega) rfl))) (fs_n (by omega) (fs_n (by omega) rfl))), (rpn_fs (rpn_fs (rpn_fs hl s881_ (fun _ => (fs_n (by omega) (fs_n (by omega) rfl))) (fs_n (by omega) (fs_n (by omega) rfl))) hf_F2 (fun _ => (fs_n (by omega) (fs_n (by omega) (fs_n (by omega) (fs_n (by omega) (fs_n (by omega) rfl)))))) (fs_n (by omega) (fs_n (by omega) (fs_n (by omega) (fs_n (by omega) (fs_n (by omega) rfl)))))) s913_ (fun _ => (fs_n (by omega) (fs_n (by omega) rfl))) (fs_n (by omega) (fs_n (by omega) rfl))), ⟨(rprd_fs (rprd_fs (rprd_fs hps1.1 s881_ (fun r j hj => (fs_n (by omega) (fs_n (by omega) rfl)))) hf_F2 (fun r j hj => (fs_n (by omega) (fs_n (by omega) (fs_n (by omega) (fs_n (by omega) (fs_n (by omega) rfl))))))) s913_ (fun r j hj => (fs_n (by omega) (fs_n (by omega) rfl)))), hps1.2⟩, (rpn_fs hal s913_ (fun _ => (fs_n (by omega) (fs_n (by omega) rfl))) (fs_n (by omega) (fs_n (by omega) rfl)))⟩), (by omega)⟩)
              refine ga_aload_n (v := .ref 344) hm_50 rfl rfl rfl ?_
              refine fl_iconst hm_50 rfl ?_
              refine gVv (nY := 2) (F := 0) (L := 0) (As := [.int (Int32.ofInt 1)]) (b := 344) (rest := []) hm_50 rfl hm_54 rfl rfl (fl_ob sc_344) rfl rfl rfl rfl rfl (by omega) (by omega) (mc_54 hG F911_ X g912_ (K) (1) hgK rk920_ hkt (by omega) (by omega)) (fun _ _ h => False.elim h) ?_
              have b947_ : 0 ≤ F911_ 344 10 ∧ F911_ 344 10 ≤ 600 := gi_g g912_ rfl
              rintro A1_ ⟨F951_, hA_, g952_, s953_, c948_, c949_, c950_⟩
              subst hA_
              have g954_ : fs [(344, 344, 5, 5), (344, 344, 9, 10), (344, 344, 14, 15), (344, 344, 17, 17), (344, 344, 21, 21), (344, 344, 63, 63), (349, 363, 0, 100000), (383, 383, 0, 100000)] F F951_ := fs_tr g919_ s953_ rfl
              have rk955_ : rk K F951_ := rk_fs rk920_ s953_ (fun r k h => (fs_n (by omega) rfl)) (fs_n (by omega) rfl)
              have c949_s := c949_.1 (by omega)
              clear c949_
              refine gr_v hm_50 rfl rfl ?_
              have b956_ : 0 ≤ F951_ 344 9 ∧ F951_ 344 9 ≤ 5 := gi_g g952_ rfl
              have e957_ : F951_ 344 5 = F911_ 344 5 := (s953_ 344 5 rfl).trans (rfl)
              have b958_ : 0 ≤ F951_ 344 10 ∧ F951_ 344 10 ≤ 600 := gi_g g952_ rfl
              exact Or.inl ⟨F951_, rfl, g952_, g954_, (by omega), (⟨by intro h0_; have hs_ := c949_s; rw [sp_dom, sp_open]; rw [(show sp_kind K 0 0 = _ from by have x_ := c316_; rw [h5] at x_; exact x_)]; simp only [pb_r]; rw [c339_]; simp only [pb_r]; rw [c362_]; simp only [pb_r]; rw [c385_]; simp only [pb_r]; rw [(show sp_kind K 2 (F387_ 344 5) = .inr (F387_ 344 5 + 1) by rw [sp_kind, if_pos (by omega), sk, if_pos (by omega)])]; simp only [pb_r]; rw [c472_]; simp only [pb_r]; rw [c495_]; simp only [pb_r]; rw [if_pos c511_.2, sp_rtypes, (show sp_word K [58, 116, 121, 112, 101, 115] (F497_ 344 5) = .inr (F497_ 344 5 + 1) by rw [sp_word, if_pos c511_.2, sk, if_pos (by omega)])]; simp only [pb_r]; rw [st1_ok ctt1_]; simp only [pb_r]; rw [c799_]; simp only [pb_r]; rw [c822_]; simp only [pb_r]; rw [sp_rpreds]; rw [c845_]; simp only [pb_r]; rw [hspq, sq_e (by omega) (by omega)]; simp only [pb_r]; rw [c877_]; simp only [pb_r]; rw [hspa, sa_e (by omega) (by omega)]; simp only [pb_r]; rw [sp_close]; rw [c316_]; simp only [pb_r]; rw [sp_kind, if_neg (hko.2.2 (F318_ 344 5) (by omega) (by omega)).1]; show Sum.inl (1, K 4 _) = _; congr 2 <;> omega, fun h0_ => by exfalso; omega⟩), (by omega)⟩
            exfalso; omega
          refine ga_aload_n (v := .ref 344) hm_50 rfl rfl rfl ?_
          refine gIi (nY := 1) (F := 0) (L := 0) (As := []) (b := 344) (rest := []) hm_50 rfl hm_59 rfl rfl (fl_ob sc_344) rfl rfl rfl rfl rfl (by omega) (by omega) ?_
          intro f959_ l960_ h961_ h962_
          show fl_R xi_ms 59 f959_ l960_ 0 [(0, .ref 344)] [] _ _
          refine ga_aload_n (v := .ref 344) hm_59 rfl rfl rfl ?_
          have b963_ : 0 ≤ F2 344 9 ∧ F2 344 9 ≤ 5 := gi_g hg_F2 rfl
          refine ga_geti (z := F2 344 9) hm_59 rfl sc_344 rfl (rfl) ?_
          refine fl_if_le (a := F2 344 9) hm_59 rfl ⟨by omega, by omega⟩ (fun h964_ => ?_) (fun h965_ => ?_)
          ·
            refine fl_iconst hm_59 rfl ?_
            refine gr_i hm_59 rfl rfl (ga_nb (by omega)) ?_
            clear h961_ h962_ f959_ l960_
            refine fl_if_ne hm_50 rfl ⟨by omega, by omega⟩ (fun h => absurd h (by omega)) (fun _ => ?_)
            refine ga_aload_n (v := .ref 344) hm_50 rfl rfl rfl ?_
            have b966_ : 0 ≤ F2 344 5 ∧ F2 344 5 ≤ 600 := gi_g hg_F2 rfl
            refine gVv (nY := 4) (F := 7) (L := 165) (As := []) (b := 344) (rest := []) hm_50 rfl hm_173 rfl rfl (fl_ob sc_344) rfl rfl rfl rfl rfl (by omega) (by omega) (mc_173 hG F2 X hg_F2 (K) (ts_) (l) (al) (ps) hgK rk895_ hkt (by omega) ((rpn_fs (rpn_fs (rpn_fs (rpn_fs (rpn_fs (rpn_fs ctt3_ s803_ (fun _ => (fs_n (by omega) (fs_n (by omega) rfl))) (fs_n (by omega) (fs_n (by omega) rfl))) s826_ (fun _ => (fs_n (by omega) (fs_n (by omega) rfl))) (fs_n (by omega) (fs_n (by omega) rfl))) s849_ (fun _ => (fs_n (by omega) (fs_n (by omega) rfl))) (fs_n (by omega) (fs_n (by omega) rfl))) hf_F1 (fun _ => (fs_n (by omega) (fs_n (by omega) (fs_n (by omega) (fs_n (by omega) (fs_n (by omega) rfl)))))) (fs_n (by omega) (fs_n (by omega) (fs_n (by omega) (fs_n (by omega) (fs_n (by omega) rfl)))))) s881_ (fun _ => (fs_n (by omega) (fs_n (by omega) rfl))) (fs_n (by omega) (fs_n (by omega) rfl))) hf_F2 (fun _ => (fs_n (by omega) (fs_n (by omega) (fs_n (by omega) (fs_n (by omega) (fs_n (by omega) rfl)))))) (fs_n (by omega) (fs_n (by omega) (fs_n (by omega) (fs_n (by omega) (fs_n (by omega) rfl))))))) (hal) ((rpn_fs (rpn_fs hl s881_ (fun _ => (fs_n (by omega) (fs_n (by omega) rfl))) (fs_n (by omega) (fs_n (by omega) rfl))) hf_F2 (fun _ => (fs_n (by omega) (fs_n (by omega) (fs_n (by omega) (fs_n (by omega) (fs_n (by omega) rfl)))))) (fs_n (by omega) (fs_n (by omega) (fs_n (by omega) (fs_n (by omega) (fs_n (by omega) rfl))))))) (⟨(rprd_fs (rprd_fs hps1.1 s881_ (fun r j hj => (fs_n (by omega) (fs_n (by omega) rfl)))) hf_F2 (fun r j hj => (fs_n (by omega) (fs_n (by omega) (fs_n (by omega) (fs_n (by omega) (fs_n (by omega) rfl))))))), hps1.2⟩)) (fun _ _ h => False.elim h) ?_
            have b968_ : 0 ≤ F2 344 10 ∧ F2 344 10 ≤ 600 := gi_g hg_F2 rfl
            rintro A1_ (⟨F972_, hA_, g973_, s974_, c969_, c970_, c971_⟩ | ⟨F978_, hA_, g979_, s980_, c975_, c976_, c977_⟩)
            ·
              subst hA_
              have g981_ : fs [(344, 344, 5, 5), (344, 344, 9, 10), (344, 344, 14, 15), (344, 344, 17, 17), (344, 344, 21, 21), (344, 344, 63, 63), (349, 363, 0, 100000), (383, 383, 0, 100000)] F F972_ := fs_tr g894_ s974_ rfl
              have rk982_ : rk K F972_ := rk_fs rk895_ s974_ (fun r k h => (fs_n (by omega) (fs_n (by omega) (fs_n (by omega) (fs_n (by omega) (fs_n (by omega) rfl)))))) (fs_n (by omega) (fs_n (by omega) (fs_n (by omega) (fs_n (by omega) (fs_n (by omega) rfl)))))
              have c970_s := c970_.1 (by omega)
              clear c970_
              try obtain ⟨ca_, ca1_, ca2_⟩ := c970_s
              have b983_ : 0 ≤ F972_ 344 9 ∧ F972_ 344 9 ≤ 5 := gi_g g973_ rfl
              have b984_ : 0 ≤ F972_ 344 10 ∧ F972_ 344 10 ≤ 600 := gi_g g973_ rfl
              have b985_ : 0 ≤ F972_ 344 5 ∧ F972_ 344 5 ≤ 600 := gi_g g973_ rfl
              exact fl_R_sub (lv' := [(0, .ref 344)]) rfl rfl (B135_ F972_ g973_ g981_ rk982_ (by omega) (by omega) (⟨by intro h0_; have hs_ := c970_s; rw [sp_dom, sp_open]; rw [(show sp_kind K 0 0 = _ from by have x_ := c316_; rw [h5] at x_; exact x_)]; simp only [pb_r]; rw [c339_]; simp only [pb_r]; rw [c362_]; simp only [pb_r]; rw [c385_]; simp only [pb_r]; rw [(show sp_kind K 2 (F387_ 344 5) = .inr (F387_ 344 5 + 1) by rw [sp_kind, if_pos (by omega), sk, if_pos (by omega)])]; simp only [pb_r]; rw [c472_]; simp only [pb_r]; rw [c495_]; simp only [pb_r]; rw [if_pos c511_.2, sp_rtypes, (show sp_word K [58, 116, 121, 112, 101, 115] (F497_ 344 5) = .inr (F497_ 344 5 + 1) by rw [sp_word, if_pos c511_.2, sk, if_pos (by omega)])]; simp only [pb_r]; rw [st1_ok ctt1_]; simp only [pb_r]; rw [c799_]; simp only [pb_r]; rw [c822_]; simp only [pb_r]; rw [sp_rpreds]; rw [c845_]; simp only [pb_r]; rw [hspq, sq_e (by omega) (by omega)]; simp only [pb_r]; rw [c877_]; simp only [pb_r]; rw [hspa, sa_f (by omega) (by omega) hs_]; try (show Sum.inl _ = _); try (congr 2 <;> omega), fun h0_ => by exfalso; omega⟩))
            subst hA_
            have g986_ : fs [(344, 344, 5, 5), (344, 344, 9, 10), (344, 344, 14, 15), (344, 344, 17, 17), (344, 344, 21, 21), (344, 344, 63, 63), (349, 363, 0, 100000), (383, 383, 0, 100000)] F F978_ := fs_tr g894_ s980_ rfl
            have rk987_ : rk K F978_ := rk_fs rk895_ s980_ (fun r k h => (fs_n (by omega) (fs_n (by omega) (fs_n (by omega) (fs_n (by omega) (fs_n (by omega) rfl)))))) (fs_n (by omega) (fs_n (by omega) (fs_n (by omega) (fs_n (by omega) (fs_n (by omega) rfl)))))
            try obtain ⟨ca_, ca1_, ca2_⟩ := c976_
            refine ga_aload_n (v := .ref 344) hm_50 rfl rfl rfl ?_
            refine fl_bipush hm_50 rfl rfl ?_
            have b988_ : 0 ≤ F978_ 344 5 ∧ F978_ 344 5 ≤ 600 := gi_g g979_ rfl
            refine gVi (nY := 2) (F := 1) (L := 20) (As := [.int (Int32.ofInt 40)]) (b := 344) (rest := []) hm_50 rfl hm_52 rfl rfl (fl_ob sc_344) rfl rfl rfl rfl rfl (by omega) (by omega) (mc_52 hG F978_ X g979_ (K) (40) hgK rk987_ hkt (by omega) (by omega)) (fun _ _ h => False.elim h) ?_
            have b990_ : 0 ≤ F978_ 344 9 ∧ F978_ 344 9 ≤ 5 := gi_g g979_ rfl
            rintro z989_ A1_ (⟨hA_, hz_, c991_⟩ | ⟨hA_, hz_, c992_, c993_⟩)
            ·
              subst hA_
              subst hz_
              refine ga_istore_n (lv2 := [(1, .int (Int32.ofInt 0)), (0, .ref 344)]) hm_50 rfl (Nat.le_of_ble_eq_true rfl) rfl ?_
              refine fl_goto hm_50 rfl ?_
              have b994_ : 0 ≤ F978_ 344 21 ∧ F978_ 344 21 ≤ 5 := gi_g g979_ rfl
              have b995_ : 0 ≤ F2 344 21 ∧ F2 344 21 ≤ 5 := gi_g hg_F2 rfl
              have b996_ : 0 ≤ K 1 6 ∧ K 1 6 ≤ 601 := gi_g hgK rfl
              exact ih891_ _ (by omega) (0) (_) F978_ rfl g979_ (fs_tr hf_F2 s980_ rfl) (by omega) (ca2_) (Or.inr ⟨rfl, by simp only [List.length_append, List.length_singleton]; omega, by omega⟩) (by omega) (by rw [hspa]; exact sa_step (by omega) (by omega) ca1_ (by simp))
            subst hA_
            subst hz_
            refine ga_istore_n (lv2 := [(1, .int (Int32.ofInt 1)), (0, .ref 344)]) hm_50 rfl (Nat.le_of_ble_eq_true rfl) rfl ?_
            refine fl_goto hm_50 rfl ?_
            have b997_ : 0 ≤ F978_ 344 21 ∧ F978_ 344 21 ≤ 5 := gi_g g979_ rfl
            have b998_ : 0 ≤ F2 344 21 ∧ F2 344 21 ≤ 5 := gi_g hg_F2 rfl
            have b999_ : 0 ≤ K 1 6 ∧ K 1 6 ≤ 601 := gi_g hgK rfl
            exact ih891_ _ (by omega) (1) (_) F978_ rfl g979_ (fs_tr hf_F2 s980_ rfl) (by omega) (ca2_) (Or.inl ⟨rfl, Or.inr (by omega)⟩) (by omega) (by rw [hspa]; exact sa_step (by omega) (by omega) ca1_ (by simp))
          exfalso; omega
        have b1000_ : 0 ≤ F879_ 344 9 ∧ F879_ 344 9 ≤ 5 := gi_g g880_ rfl
        have e1001_ : F318_ 344 21 = F 344 21 := (s320_ 344 21 rfl).trans (rfl)
        have e1002_ : F341_ 344 21 = F 344 21 := (s343_ 344 21 rfl).trans (e1001_)
        have e1003_ : F364_ 344 21 = F 344 21 := (s366_ 344 21 rfl).trans (e1002_)
        have e1004_ : F387_ 344 21 = F 344 21 := (s389_ 344 21 rfl).trans (e1003_)
        have e1005_ : F415_ 344 21 = F 344 21 := (s417_ 344 21 rfl).trans (e1004_)
        have e1006_ : F455_ 344 21 = F 344 21 := by rw [q456_]; exact (fl_u_ne (by omega)).trans ((fl_u_ne (by omega)).trans (e1005_))
        have e1007_ : F474_ 344 21 = F 344 21 := (s476_ 344 21 rfl).trans (e1006_)
        have e1008_ : F497_ 344 21 = F 344 21 := (s499_ 344 21 rfl).trans (e1007_)
        have e1009_ : F750_ 344 21 = F 344 21 := by rw [q751_]; exact (fl_u_ne (by omega)).trans (e1008_)
        have e1010_ : F778_ 344 21 = F 344 21 := (s780_ 344 21 rfl).trans (e1009_)
        have e1011_ : F801_ 344 21 = F 344 21 := (s803_ 344 21 rfl).trans (e1010_)
        have e1012_ : F824_ 344 21 = F 344 21 := (s826_ 344 21 rfl).trans (e1011_)
        have e1013_ : F847_ 344 21 = F 344 21 := (s849_ 344 21 rfl).trans (e1012_)
        have e1014_ : F1 344 21 = F 344 21 := (hf_F1 344 21 rfl).trans (e1013_)
        have e1015_ : F879_ 344 21 = F 344 21 := (s881_ 344 21 rfl).trans (e1014_)
        have b1016_ : 0 ≤ F 344 21 ∧ F 344 21 ≤ 5 := gi_g hgi rfl
        have b1017_ : 0 ≤ K 1 6 ∧ K 1 6 ≤ 601 := gi_g hgK rfl
        exact L890_ _ (1) ([]) F879_ rfl g880_ fs_refl (by omega) (rpn_0 (by rw [e1015_]; exact h21)) (Or.inl ⟨rfl, Or.inl rfl⟩) (by omega) (rfl)
      refine ga_aload_n (v := .ref 344) hm_50 rfl rfl rfl ?_
      refine gIi (nY := 1) (F := 0) (L := 0) (As := []) (b := 344) (rest := []) hm_50 rfl hm_59 rfl rfl (fl_ob sc_344) rfl rfl rfl rfl rfl (by omega) (by omega) ?_
      intro f1018_ l1019_ h1020_ h1021_
      show fl_R xi_ms 59 f1018_ l1019_ 0 [(0, .ref 344)] [] _ _
      refine ga_aload_n (v := .ref 344) hm_59 rfl rfl rfl ?_
      have b1022_ : 0 ≤ F1 344 9 ∧ F1 344 9 ≤ 5 := gi_g hg_F1 rfl
      refine ga_geti (z := F1 344 9) hm_59 rfl sc_344 rfl (rfl) ?_
      refine fl_if_le (a := F1 344 9) hm_59 rfl ⟨by omega, by omega⟩ (fun h1023_ => ?_) (fun h1024_ => ?_)
      ·
        refine fl_iconst hm_59 rfl ?_
        refine gr_i hm_59 rfl rfl (ga_nb (by omega)) ?_
        clear h1020_ h1021_ f1018_ l1019_
        refine fl_if_ne hm_50 rfl ⟨by omega, by omega⟩ (fun h => absurd h (by omega)) (fun _ => ?_)
        refine ga_aload_n (v := .ref 344) hm_50 rfl rfl rfl ?_
        have b1025_ : 0 ≤ F1 344 5 ∧ F1 344 5 ≤ 600 := gi_g hg_F1 rfl
        refine gVv (nY := 3) (F := 5) (L := 112) (As := []) (b := 344) (rest := []) hm_50 rfl hm_182 rfl rfl (fl_ob sc_344) rfl rfl rfl rfl rfl (by omega) (by omega) (mc_182 hG F1 X hg_F1 (K) (ts_) (l) (ps) hgK rk863_ hkt (by omega) ((rpn_fs (rpn_fs (rpn_fs (rpn_fs ctt3_ s803_ (fun _ => (fs_n (by omega) (fs_n (by omega) rfl))) (fs_n (by omega) (fs_n (by omega) rfl))) s826_ (fun _ => (fs_n (by omega) (fs_n (by omega) rfl))) (fs_n (by omega) (fs_n (by omega) rfl))) s849_ (fun _ => (fs_n (by omega) (fs_n (by omega) rfl))) (fs_n (by omega) (fs_n (by omega) rfl))) hf_F1 (fun _ => (fs_n (by omega) (fs_n (by omega) (fs_n (by omega) (fs_n (by omega) (fs_n (by omega) rfl)))))) (fs_n (by omega) (fs_n (by omega) (fs_n (by omega) (fs_n (by omega) (fs_n (by omega) rfl))))))) (hl) (hps1)) (fun _ _ h => False.elim h) ?_
        have b1027_ : 0 ≤ F1 344 10 ∧ F1 344 10 ≤ 600 := gi_g hg_F1 rfl
        rintro A1_ (⟨F1031_, hA_, g1032_, s1033_, c1028_, c1029_, c1030_⟩ | ⟨F1037_, hA_, g1038_, s1039_, c1034_, c1035_, c1036_⟩)
        ·
          subst hA_
          have g1040_ : fs [(344, 344, 5, 5), (344, 344, 9, 10), (344, 344, 14, 15), (344, 344, 17, 17), (344, 344, 21, 21), (344, 344, 63, 63), (349, 363, 0, 100000), (383, 383, 0, 100000)] F F1031_ := fs_tr g862_ s1033_ rfl
          have rk1041_ : rk K F1031_ := rk_fs rk863_ s1033_ (fun r k h => (fs_n (by omega) (fs_n (by omega) (fs_n (by omega) (fs_n (by omega) (fs_n (by omega) rfl)))))) (fs_n (by omega) (fs_n (by omega) (fs_n (by omega) (fs_n (by omega) (fs_n (by omega) rfl)))))
          have c1029_s := c1029_.1 (by omega)
          clear c1029_
          try obtain ⟨cq_, tq_, cq1_, cq2_, cq3_⟩ := c1029_s
          have b1042_ : 0 ≤ F1031_ 344 9 ∧ F1031_ 344 9 ≤ 5 := gi_g g1032_ rfl
          have b1043_ : 0 ≤ F1031_ 344 10 ∧ F1031_ 344 10 ≤ 600 := gi_g g1032_ rfl
          have b1044_ : 0 ≤ F1031_ 344 5 ∧ F1031_ 344 5 ≤ 600 := gi_g g1032_ rfl
          exact fl_R_sub (lv' := [(0, .ref 344)]) rfl rfl (B102_ F1031_ g1032_ g1040_ rk1041_ (by omega) (by omega) (⟨by intro h0_; have hs_ := c1029_s; rw [sp_dom, sp_open]; rw [(show sp_kind K 0 0 = _ from by have x_ := c316_; rw [h5] at x_; exact x_)]; simp only [pb_r]; rw [c339_]; simp only [pb_r]; rw [c362_]; simp only [pb_r]; rw [c385_]; simp only [pb_r]; rw [(show sp_kind K 2 (F387_ 344 5) = .inr (F387_ 344 5 + 1) by rw [sp_kind, if_pos (by omega), sk, if_pos (by omega)])]; simp only [pb_r]; rw [c472_]; simp only [pb_r]; rw [c495_]; simp only [pb_r]; rw [if_pos c511_.2, sp_rtypes, (show sp_word K [58, 116, 121, 112, 101, 115] (F497_ 344 5) = .inr (F497_ 344 5 + 1) by rw [sp_word, if_pos c511_.2, sk, if_pos (by omega)])]; simp only [pb_r]; rw [st1_ok ctt1_]; simp only [pb_r]; rw [c799_]; simp only [pb_r]; rw [c822_]; simp only [pb_r]; rw [sp_rpreds]; rw [c845_]; simp only [pb_r]; rw [hspq, sq_f (by omega) (by omega) hs_]; try (show Sum.inl _ = _); try (congr 2 <;> omega), fun h0_ => by exfalso; omega⟩))
        subst hA_
        have g1045_ : fs [(344, 344, 5, 5), (344, 344, 9, 10), (344, 344, 14, 15), (344, 344, 17, 17), (344, 344, 21, 21), (344, 344, 63, 63), (349, 363, 0, 100000), (383, 383, 0, 100000)] F F1037_ := fs_tr g862_ s1039_ rfl
        have rk1046_ : rk K F1037_ := rk_fs rk863_ s1039_ (fun r k h => (fs_n (by omega) (fs_n (by omega) (fs_n (by omega) (fs_n (by omega) (fs_n (by omega) rfl)))))) (fs_n (by omega) (fs_n (by omega) (fs_n (by omega) (fs_n (by omega) (fs_n (by omega) rfl)))))
        try obtain ⟨cq_, tq_, cq1_, cq2_, cq3_⟩ := c1035_
        refine ga_aload_n (v := .ref 344) hm_50 rfl rfl rfl ?_
        refine fl_bipush hm_50 rfl rfl ?_
        have b1047_ : 0 ≤ F1037_ 344 5 ∧ F1037_ 344 5 ≤ 600 := gi_g g1038_ rfl
        refine gVi (nY := 2) (F := 1) (L := 20) (As := [.int (Int32.ofInt 40)]) (b := 344) (rest := []) hm_50 rfl hm_52 rfl rfl (fl_ob sc_344) rfl rfl rfl rfl rfl (by omega) (by omega) (mc_52 hG F1037_ X g1038_ (K) (40) hgK rk1046_ hkt (by omega) (by omega)) (fun _ _ h => False.elim h) ?_
        have b1049_ : 0 ≤ F1037_ 344 9 ∧ F1037_ 344 9 ≤ 5 := gi_g g1038_ rfl
        rintro z1048_ A1_ (⟨hA_, hz_, c1050_⟩ | ⟨hA_, hz_, c1051_, c1052_⟩)
        ·
          subst hA_
          subst hz_
          refine ga_istore_n (lv2 := [(1, .int (Int32.ofInt 0)), (0, .ref 344)]) hm_50 rfl (Nat.le_of_ble_eq_true rfl) rfl ?_
          refine fl_goto hm_50 rfl ?_
          have b1053_ : 0 ≤ F1037_ 344 17 ∧ F1037_ 344 17 ≤ 6 := gi_g g1038_ rfl
          have b1054_ : 0 ≤ F1 344 17 ∧ F1 344 17 ≤ 6 := gi_g hg_F1 rfl
          have b1055_ : 0 ≤ K 1 6 ∧ K 1 6 ≤ 601 := gi_g hgK rfl
          exact ih859_ _ (by omega) (0) (_) (_) F1037_ rfl g1038_ (fs_tr hf_F1 s1039_ rfl) (by omega) (cq2_) (cq3_) (Or.inr ⟨rfl, by simp only [List.length_append, List.length_singleton]; omega, by omega⟩) (by omega) (by rw [hspq]; exact sq_step (by omega) (by omega) cq1_ (by simp))
        subst hA_
        subst hz_
        refine ga_istore_n (lv2 := [(1, .int (Int32.ofInt 1)), (0, .ref 344)]) hm_50 rfl (Nat.le_of_ble_eq_true rfl) rfl ?_
        refine fl_goto hm_50 rfl ?_
        have b1056_ : 0 ≤ F1037_ 344 17 ∧ F1037_ 344 17 ≤ 6 := gi_g g1038_ rfl
        have b1057_ : 0 ≤ F1 344 17 ∧ F1 344 17 ≤ 6 := gi_g hg_F1 rfl
        have b1058_ : 0 ≤ K 1 6 ∧ K 1 6 ≤ 601 := gi_g hgK rfl
        exact ih859_ _ (by omega) (1) (_) (_) F1037_ rfl g1038_ (fs_tr hf_F1 s1039_ rfl) (by omega) (cq2_) (cq3_) (Or.inl ⟨rfl, Or.inr (by omega)⟩) (by omega) (by rw [hspq]; exact sq_step (by omega) (by omega) cq1_ (by simp))
      exfalso; omega
    have b1059_ : 0 ≤ F847_ 344 9 ∧ F847_ 344 9 ≤ 5 := gi_g g848_ rfl
    have e1060_ : F318_ 344 17 = F 344 17 := (s320_ 344 17 rfl).trans (rfl)
    have e1061_ : F341_ 344 17 = F 344 17 := (s343_ 344 17 rfl).trans (e1060_)
    have e1062_ : F364_ 344 17 = F 344 17 := (s366_ 344 17 rfl).trans (e1061_)
    have e1063_ : F387_ 344 17 = F 344 17 := (s389_ 344 17 rfl).trans (e1062_)
    have e1064_ : F415_ 344 17 = F 344 17 := (s417_ 344 17 rfl).trans (e1063_)
    have e1065_ : F455_ 344 17 = F 344 17 := by rw [q456_]; exact (fl_u_ne (by omega)).trans ((fl_u_ne (by omega)).trans (e1064_))
    have e1066_ : F474_ 344 17 = F 344 17 := (s476_ 344 17 rfl).trans (e1065_)
    have e1067_ : F497_ 344 17 = F 344 17 := (s499_ 344 17 rfl).trans (e1066_)
    have e1068_ : F750_ 344 17 = F 344 17 := by rw [q751_]; exact (fl_u_ne (by omega)).trans (e1067_)
    have e1069_ : F778_ 344 17 = F 344 17 := (s780_ 344 17 rfl).trans (e1068_)
    have e1070_ : F801_ 344 17 = F 344 17 := (s803_ 344 17 rfl).trans (e1069_)
    have e1071_ : F824_ 344 17 = F 344 17 := (s826_ 344 17 rfl).trans (e1070_)
    have e1072_ : F847_ 344 17 = F 344 17 := (s849_ 344 17 rfl).trans (e1071_)
    have b1073_ : 0 ≤ F 344 17 ∧ F 344 17 ≤ 6 := gi_g hgi rfl
    have b1074_ : 0 ≤ K 1 6 ∧ K 1 6 ≤ 601 := gi_g hgK rfl
    exact L858_ _ (1) ([]) ([]) F847_ rfl g848_ fs_refl (by omega) (rpn_0 (by rw [e1072_]; exact h17)) (⟨fun i hi => by simp at hi, rfl⟩) (Or.inl ⟨rfl, Or.inl rfl⟩) (by omega) (rfl)
  exfalso; omega

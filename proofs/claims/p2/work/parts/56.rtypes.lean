theorem rpn_0 {F : fl_N} {a b k : Nat} (h : F b k = 0) : rpn (F a) (F b k) [] := ⟨h, fun j x hx => by simp at hx⟩
theorem rpn_put {F : fl_N} {a k : Nat} {n v c : Int} {l : List Int} (h : rpn (F a) (F 344 k) l) (hn : F 344 k = n) (hr : nrel c v) (ha : a ≠ 344 := by decide) : rpn ((fl_u (fl_u F a n.toNat v) 344 k (n + 1)) a) ((fl_u (fl_u F a n.toNat v) 344 k (n + 1)) 344 k) (l ++ [c]) := by
  subst hn
  rw [fl_u_eq, fl_u_r ha]
  exact rpn_snoc h (fun j hj => fl_u_ne (by omega)) fl_u_eq hr
def sp_t1 (K : fl_N) (m : Nat) (l : List Int) (p : Int) : PR (Int × List Int) := pb (sp_types K m l p) (fun q => if K 3 q.1.toNat = 1 then .inr q else pf K q.1 1)
theorem st1_e {K : fl_N} {m : Nat} {l : List Int} {p : Int} (hl : 0 < (l.length : Int)) (hk : K 3 p.toNat = 1) : sp_t1 K m l p = .inr (p, l) := by
  rw [sp_t1, spt_e rfl (by omega) hk, pb_r, if_pos hk]
theorem st1_u {K : fl_N} {l : List Int} {p : Int} (hl : (l.length : Int) < 4) (hk : (l.length : Int) = 0 ∨ ¬ K 3 p.toNat = 1) : sp_t1 K (4 - l.length) l p = pb (pb (sp_new K 2 l p) (fun q => sp_types K (4 - (l.length + 1)) q.2 q.1)) (fun q => if K 3 q.1.toNat = 1 then .inr q else pf K q.1 1) := by
  rw [sp_t1]
  have h := spt_step (K := K) (l := l) (p := p) hl rfl hk
  rw [show ((4 : Int) - (l.length : Int)).toNat = 4 - l.length by omega, show ((4 : Int) - ((l.length : Int) + 1)).toNat = 4 - (l.length + 1) by omega] at h
  rw [h]
theorem st1_f1 {K : fl_N} {l : List Int} {p : Int} (hk : (l.length : Int) ≤ 4 ∧ ((l.length : Int) = 0 ∨ ¬ K 3 p.toNat = 1)) (h2 : ¬ K 3 p.toNat = 2) : sp_t1 K (4 - l.length) l p = .inl (1, K 4 p.toNat) := by
  by_cases e : (l.length : Int) < 4
  · rw [st1_u e hk.2, sp_new, if_neg h2]
    rfl
  · rw [sp_t1, show 4 - l.length = 0 by omega]
    show (if K 3 p.toNat = 1 then _ else _) = _
    rw [if_neg (by omega)]
    rfl
theorem st1_f4 {K : fl_N} {l : List Int} {p : Int} (hl : (l.length : Int) = 4) (hk : ¬ K 3 p.toNat = 1) : sp_t1 K (4 - l.length) l p = .inl (1, K 4 p.toNat) := by
  rw [sp_t1, show 4 - l.length = 0 by omega]
  show (if K 3 p.toNat = 1 then _ else _) = _
  rw [if_neg hk]
  rfl
theorem st1_f2 {K : fl_N} {l : List Int} {p z : Int} (hl : (l.length : Int) < 4) (hk : (l.length : Int) = 0 ∨ ¬ K 3 p.toNat = 1) (h2 : K 3 p.toNat = 2) (hz : idx l (K 6 p.toNat) = z) (h0 : 0 ≤ z) : sp_t1 K (4 - l.length) l p = .inl (2, K 4 p.toNat) := by
  rw [st1_u hl hk, sp_new, if_pos h2, if_neg (by omega)]
  rfl
theorem st1_step {K : fl_N} {l : List Int} {p z : Int} (hl : (l.length : Int) < 4) (hk : (l.length : Int) = 0 ∨ ¬ K 3 p.toNat = 1) (h2 : K 3 p.toNat = 2) (hz : idx l (K 6 p.toNat) = z) (h0 : z = -1) (hp : p < K 1 6 - 1) : sp_t1 K (4 - l.length) l p = sp_t1 K (4 - (l.length + 1)) (l ++ [K 6 p.toNat]) (p + 1) := by
  rw [st1_u hl hk, sp_new, if_pos h2, if_pos (by omega), sk, if_pos hp]
  rfl

/- CheapPlannerModel.readTypes -/
abbrev pq_187 (G : Nat → Nat → Option Nat) (F : fl_N) (X : xi_H) (K : fl_N) : Outcome → xi_H → Prop := gqv (fun A => (∃ F' : fl_N, fl_H sh_T G F' ++ X = A ∧ gi F' ∧ fs [(344, 344, 5, 5), (344, 344, 9, 10), (344, 344, 15, 15), (349, 349, 0, 100000)] F F' ∧ (¬ F' 344 9 = 0) ∧ ((F 344 9 = 0 → sp_t1 K 4 [] (F 344 5) = .inl (F' 344 9, F' 344 10)) ∧ (¬ F 344 9 = 0 → F' 344 9 = F 344 9 ∧ F' 344 10 = F 344 10)) ∧ (0 ≤ F' 344 5 ∧ F' 344 5 ≤ K 1 6 - 1)) ∨ (∃ F' : fl_N, fl_H sh_T G F' ++ X = A ∧ gi F' ∧ fs [(344, 344, 5, 5), (344, 344, 9, 10), (344, 344, 15, 15), (349, 349, 0, 100000)] F F' ∧ (F' 344 9 = 0 ∧ F 344 9 = 0) ∧ (∃ l, (sp_t1 K 4 [] (F 344 5) = .inr (F' 344 5, l) ∧ K 3 (F' 344 5).toNat = 1) ∧ rpn (F' 349) (F' 344 15) l) ∧ (0 ≤ F' 344 5 ∧ F' 344 5 ≤ K 1 6 - 1))) gqn
theorem mc_187 {G : Nat → Nat → Option Nat} (hG : gg G) (F : fl_N) (X : xi_H) (hgi : gi F) (K : fl_N) (hgK : gi K) (hrk : rk K F) (hkt : rkt K) (hp : 0 ≤ F 344 5 ∧ F 344 5 ≤ K 1 6 - 1) (h15 : F 344 15 = 0) : fl_M xi_ms 187 3 68 [.ref 344] (fl_H sh_T G F ++ X) (pq_187 G F X K) := by
  intro fr lo hfr hlo
  show fl_R xi_ms 187 fr lo 0 [(0, .ref 344)] [] _ _
  have hP := rkt_p hkt hp.1 hp.2 hgK
  have hK16 : 0 ≤ K 1 6 ∧ K 1 6 ≤ 601 := gi_g hgK rfl
  have hko := hkt.1
  have b1_ : 0 ≤ F 344 9 ∧ F 344 9 ≤ 5 := gi_g hgi rfl
  by_cases h2_ : F 344 9 = 0
  ·
    refine fl_iconst hm_187 rfl ?_
    refine ga_istore_n (lv2 := [(1, .int (Int32.ofInt 1)), (0, .ref 344)]) hm_187 rfl (Nat.le_of_ble_eq_true rfl) rfl ?_
    have L4_ : ∀ (n3_ : Nat) (mo : Int) (l : List Int) (F1 : fl_N), (5 - F1 344 15 : Int).toNat = n3_ → (gi F1) → (fs [(344, 344, 5, 5), (344, 344, 9, 10), (344, 344, 15, 15), (349, 349, 0, 100000)] F F1) → (F1 344 9 = 0) → (rpn (F1 349) (F1 344 15) l) → ((mo = 1 ∧ ((l.length : Int) = 0 ∨ ¬ K 3 (F1 344 5).toNat = 1)) ∨ (mo = 0 ∧ 0 < (l.length : Int) ∧ K 3 (F1 344 5).toNat = 1)) → (0 ≤ F1 344 5 ∧ F1 344 5 ≤ K 1 6 - 1) → (sp_t1 K 4 [] (F 344 5) = sp_t1 K (4 - l.length) l (F1 344 5)) → fl_R xi_ms 187 fr lo 2 [(1, .int (Int32.ofInt mo)), (0, .ref 344)] [] (fl_H sh_T G F1 ++ X) (pq_187 G F X K) := by
      intro n3_
      induction n3_ using Nat.strongRecOn with
      | ind n3_ ih5_ =>
      intro mo l F1 hn6_ hg_F1 hf_F1 hk hl hmo hp1 hsp
      have g7_ : fs [(344, 344, 5, 5), (344, 344, 9, 10), (344, 344, 15, 15), (349, 349, 0, 100000)] F F1 := fs_tr fs_refl hf_F1 rfl
      have rk8_ : rk K F1 := rk_fs hrk hf_F1 (fun r k h => (fs_n (by omega) (fs_n (by omega) (fs_n (by omega) (fs_n (by omega) rfl))))) (fs_n (by omega) (fs_n (by omega) (fs_n (by omega) (fs_n (by omega) rfl))))
      have hl1 := hl.1
      have hP1 := rkt_p hkt (p := F1 344 5) (by omega) (by omega) hgK
      have hb15 : 0 ≤ F1 344 15 ∧ F1 344 15 ≤ 4 := gi_g hg_F1 rfl
      refine ga_iload_n (z := mo) hm_187 rfl rfl ?_
      refine fl_if_eq (a := mo) hm_187 rfl ⟨by omega, by omega⟩ (fun h9_ => ?_) (fun h10_ => ?_)
      ·
        refine gr_v hm_187 rfl rfl ?_
        have b11_ : 0 ≤ F1 344 9 ∧ F1 344 9 ≤ 5 := gi_g hg_F1 rfl
        have b12_ : 0 ≤ F1 344 15 ∧ F1 344 15 ≤ 4 := gi_g hg_F1 rfl
        have b13_ : 0 ≤ F1 344 5 ∧ F1 344 5 ≤ 600 := gi_g hg_F1 rfl
        have b14_ : 0 ≤ F 344 5 ∧ F 344 5 ≤ 600 := gi_g hgi rfl
        exact Or.inr (⟨F1, rfl, hg_F1, g7_, (by omega), (⟨l, ⟨by rw [hsp, st1_e (by omega) (by omega)], by omega⟩, hl⟩), (by omega)⟩)
      refine ga_aload_n (v := .ref 344) hm_187 rfl rfl rfl ?_
      refine gIi (nY := 1) (F := 0) (L := 0) (As := []) (b := 344) (rest := []) hm_187 rfl hm_59 rfl rfl (fl_ob sc_344) rfl rfl rfl rfl rfl (by omega) (by omega) ?_
      intro f15_ l16_ h17_ h18_
      show fl_R xi_ms 59 f15_ l16_ 0 [(0, .ref 344)] [] _ _
      refine ga_aload_n (v := .ref 344) hm_59 rfl rfl rfl ?_
      have b19_ : 0 ≤ F1 344 9 ∧ F1 344 9 ≤ 5 := gi_g hg_F1 rfl
      refine ga_geti (z := F1 344 9) hm_59 rfl sc_344 rfl (rfl) ?_
      refine fl_if_le (a := F1 344 9) hm_59 rfl ⟨by omega, by omega⟩ (fun h20_ => ?_) (fun h21_ => ?_)
      ·
        refine fl_iconst hm_59 rfl ?_
        refine gr_i hm_59 rfl rfl (ga_nb (by omega)) ?_
        refine fl_if_ne hm_187 rfl ⟨by omega, by omega⟩ (fun h => absurd h (by omega)) (fun _ => ?_)
        refine ga_aload_n (v := .ref 344) hm_187 rfl rfl rfl ?_
        have b22_ : 0 ≤ F1 344 5 ∧ F1 344 5 ≤ 600 := gi_g hg_F1 rfl
        refine gVl (nY := 3) (F := 2) (L := 46) (As := []) (b := 344) (rest := []) hm_187 rfl hm_58 rfl rfl (fl_ob sc_344) rfl rfl rfl rfl rfl (by omega) (by omega) (mc_58 hG F1 X hg_F1 (K) hgK rk8_ hkt (by omega)) (fun _ _ h => False.elim h) ?_
        have b24_ : 0 ≤ F1 344 10 ∧ F1 344 10 ≤ 600 := gi_g hg_F1 rfl
        rintro z23_ A1_ (⟨F29_, hA_, g30_, s31_, c25_, c26_, c27_, c28_⟩ | ⟨F38_, hA_, g39_, s40_, c32_, c33_, c34_, c35_, c36_, c37_⟩)
        ·
          subst hA_
          have g41_ : fs [(344, 344, 5, 5), (344, 344, 9, 10), (344, 344, 15, 15), (349, 349, 0, 100000)] F F29_ := fs_tr g7_ s31_ rfl
          have rk42_ : rk K F29_ := rk_fs rk8_ s31_ (fun r k h => (fs_n (by omega) rfl)) (fs_n (by omega) rfl)
          have hP43_ := rkt_p hkt (p := F1 344 5) (by omega) (by omega) hgK
          have e44_ : F29_ 344 5 = F1 344 5 := (s31_ 344 5 rfl).trans (rfl)
          refine ga_lstore_n (lv2 := [(2, .long (Int64.ofInt z23_)), (1, .int (Int32.ofInt mo)), (0, .ref 344)]) hm_187 rfl (Nat.le_of_ble_eq_true rfl) rfl ?_
          refine ga_aload_n (v := .ref 344) hm_187 rfl rfl rfl ?_
          have e45_ : F29_ 344 15 = F1 344 15 := (s31_ 344 15 rfl).trans (rfl)
          have b46_ : 0 ≤ F1 344 15 ∧ F1 344 15 ≤ 4 := gi_g hg_F1 rfl
          refine ga_geti (z := F1 344 15) hm_187 rfl sc_344 rfl (e45_) ?_
          refine fl_iconst hm_187 rfl ?_
          refine fx_icmp_ne (a := F1 344 15) (b := 4) hm_187 rfl ⟨by omega, by omega⟩ ⟨by omega, by omega⟩ (fun h47_ => ?_) (fun h48_ => ?_)
          ·
            refine ga_aload_n (v := .ref 344) hm_187 rfl rfl rfl ?_
            refine gIi (nY := 1) (F := 0) (L := 0) (As := []) (b := 344) (rest := []) hm_187 rfl hm_59 rfl rfl (fl_ob sc_344) rfl rfl rfl rfl rfl (by omega) (by omega) ?_
            intro f49_ l50_ h51_ h52_
            show fl_R xi_ms 59 f49_ l50_ 0 [(0, .ref 344)] [] _ _
            refine ga_aload_n (v := .ref 344) hm_59 rfl rfl rfl ?_
            have b53_ : 0 ≤ F29_ 344 9 ∧ F29_ 344 9 ≤ 5 := gi_g g30_ rfl
            refine ga_geti (z := F29_ 344 9) hm_59 rfl sc_344 rfl (rfl) ?_
            refine fl_if_le (a := F29_ 344 9) hm_59 rfl ⟨by omega, by omega⟩ (fun h54_ => ?_) (fun h55_ => ?_)
            · exfalso; omega
            refine fl_iconst hm_59 rfl ?_
            refine fl_goto hm_59 rfl ?_
            refine gr_i hm_59 rfl rfl (ga_nb (by omega)) ?_
            refine fl_if_ne hm_187 rfl ⟨by omega, by omega⟩ (fun _ => ?_) (fun h => absurd (by omega) h)
            refine ga_aload_n (v := .ref 344) hm_187 rfl rfl rfl ?_
            refine gIv (nY := 1) (F := 1) (L := 20) (As := []) (b := 344) (rest := []) hm_187 rfl hm_61 rfl rfl (fl_ob sc_344) rfl rfl rfl rfl rfl (by omega) (by omega) ?_
            intro f56_ l57_ h58_ h59_
            show fl_R xi_ms 61 f56_ l57_ 0 [(0, .ref 344)] [] _ _
            refine ga_aload_n (v := .ref 344) hm_61 rfl rfl rfl ?_
            refine ga_dup hm_61 rfl rfl ?_
            refine ga_geti (z := F1 344 5) hm_61 rfl sc_344 rfl (e44_) ?_
            refine ga_aload_n (v := .ref 344) hm_61 rfl rfl rfl ?_
            refine gIi (nY := 1) (F := 0) (L := 0) (As := []) (b := 344) (rest := [.int (Int32.ofInt (F1 344 5)), .ref 344]) hm_61 rfl hm_59 rfl rfl (fl_ob sc_344) rfl rfl rfl rfl rfl (by omega) (by omega) ?_
            intro f60_ l61_ h62_ h63_
            show fl_R xi_ms 59 f60_ l61_ 0 [(0, .ref 344)] [] _ _
            refine ga_aload_n (v := .ref 344) hm_59 rfl rfl rfl ?_
            refine ga_geti (z := F29_ 344 9) hm_59 rfl sc_344 rfl (rfl) ?_
            refine fl_if_le (a := F29_ 344 9) hm_59 rfl ⟨by omega, by omega⟩ (fun h64_ => ?_) (fun h65_ => ?_)
            · exfalso; omega
            refine fl_iconst hm_59 rfl ?_
            refine fl_goto hm_59 rfl ?_
            refine gr_i hm_59 rfl rfl (ga_nb (by omega)) ?_
            refine fl_if_eq hm_61 rfl ⟨by omega, by omega⟩ (fun h => absurd h (by omega)) (fun _ => ?_)
            refine fl_iconst hm_61 rfl ?_
            refine fl_goto hm_61 rfl ?_
            refine ga_iadd (a := F1 344 5) (b := 0) (c := F1 344 5) hm_61 rfl (by omega) ?_
            refine ga_puti (z := F1 344 5) hm_61 rfl sc_344 rfl rfl ?_
            refine gr_v hm_61 rfl rfl ?_
            refine ga_aload_n (v := .ref 344) hm_187 rfl rfl rfl ?_
            refine gIi (nY := 1) (F := 0) (L := 0) (As := []) (b := 344) (rest := []) hm_187 rfl hm_59 rfl rfl (fl_ob sc_344) rfl rfl rfl rfl rfl (by omega) (by omega) ?_
            intro f66_ l67_ h68_ h69_
            show fl_R xi_ms 59 f66_ l67_ 0 [(0, .ref 344)] [] _ _
            refine ga_aload_n (v := .ref 344) hm_59 rfl rfl rfl ?_
            refine ga_geti (z := F29_ 344 9) hm_59 rfl sc_344 rfl (fl_u_ne (by omega)) ?_
            refine fl_if_le (a := F29_ 344 9) hm_59 rfl ⟨by omega, by omega⟩ (fun h70_ => ?_) (fun h71_ => ?_)
            · exfalso; omega
            refine fl_iconst hm_59 rfl ?_
            refine fl_goto hm_59 rfl ?_
            refine gr_i hm_59 rfl rfl (ga_nb (by omega)) ?_
            refine fl_if_eq hm_187 rfl ⟨by omega, by omega⟩ (fun h => absurd h (by omega)) (fun _ => ?_)
            obtain ⟨F72_, q73_⟩ : ∃ F9_, F9_ = (fl_u F29_ 344 5 (F1 344 5)) := ⟨_, rfl⟩
            rw [← q73_]
            have g74_ : gi F72_ := by rw [q73_]; exact gi_u (g30_) rfl (by omega) (by omega)
            have g75_ : fs [(344, 344, 5, 5), (344, 344, 9, 10), (344, 344, 15, 15), (349, 349, 0, 100000)] F F72_ := by rw [q73_]; exact fs_u (g41_) rfl
            have rk76_ : rk K F72_ := by rw [q73_]; exact rk_u (rk42_) (by omega) (by omega)
            refine gr_v hm_187 rfl rfl ?_
            have e77_ : F72_ 344 9 = F29_ 344 9 := by rw [q73_]; exact fl_u_ne (by omega)
            have e78_ : F72_ 344 10 = F29_ 344 10 := by rw [q73_]; exact fl_u_ne (by omega)
            have e79_ : F72_ 344 5 = F1 344 5 := by rw [q73_]; exact fl_u_eq
            have b80_ : 0 ≤ F29_ 344 10 ∧ F29_ 344 10 ≤ 600 := gi_g g30_ rfl
            have b81_ : 0 ≤ F 344 10 ∧ F 344 10 ≤ 600 := gi_g hgi rfl
            have b82_ : 0 ≤ F 344 5 ∧ F 344 5 ≤ 600 := gi_g hgi rfl
            exact Or.inl ⟨F72_, rfl, g74_, g75_, (by omega), (⟨by intro h0_; have hs_ := c26_.1 (by omega); have h1_ := nm_no hs_; rw [sp_nm, if_neg h1_] at hs_; have h2_ := Prod.mk.inj (Sum.inl.inj hs_); rw [hsp, st1_f1 (by omega) h1_]; congr 2 <;> omega, fun h0_ => by exfalso; omega⟩), (by omega)⟩
          refine ga_aload_n (v := .ref 344) hm_187 rfl rfl rfl ?_
          refine fl_iconst hm_187 rfl ?_
          refine gVv (nY := 2) (F := 0) (L := 0) (As := [.int (Int32.ofInt 1)]) (b := 344) (rest := []) hm_187 rfl hm_54 rfl rfl (fl_ob sc_344) rfl rfl rfl rfl rfl (by omega) (by omega) (mc_54 hG F29_ X g30_ (K) (1) hgK rk42_ hkt (by omega) (by omega)) (fun _ _ h => False.elim h) ?_
          have b84_ : 0 ≤ F29_ 344 10 ∧ F29_ 344 10 ≤ 600 := gi_g g30_ rfl
          have b85_ : 0 ≤ F29_ 344 9 ∧ F29_ 344 9 ≤ 5 := gi_g g30_ rfl
          rintro A1_ ⟨F89_, hA_, g90_, s91_, c86_, c87_, c88_⟩
          subst hA_
          have g92_ : fs [(344, 344, 5, 5), (344, 344, 9, 10), (344, 344, 15, 15), (349, 349, 0, 100000)] F F89_ := fs_tr g41_ s91_ rfl
          have rk93_ : rk K F89_ := rk_fs rk42_ s91_ (fun r k h => (fs_n (by omega) rfl)) (fs_n (by omega) rfl)
          try simp only [e44_] at c87_
          try simp only [e44_] at c88_
          refine ga_aload_n (v := .ref 344) hm_187 rfl rfl rfl ?_
          refine gIi (nY := 1) (F := 0) (L := 0) (As := []) (b := 344) (rest := []) hm_187 rfl hm_59 rfl rfl (fl_ob sc_344) rfl rfl rfl rfl rfl (by omega) (by omega) ?_
          intro f94_ l95_ h96_ h97_
          show fl_R xi_ms 59 f94_ l95_ 0 [(0, .ref 344)] [] _ _
          refine ga_aload_n (v := .ref 344) hm_59 rfl rfl rfl ?_
          have b98_ : 0 ≤ F89_ 344 9 ∧ F89_ 344 9 ≤ 5 := gi_g g90_ rfl
          refine ga_geti (z := F89_ 344 9) hm_59 rfl sc_344 rfl (rfl) ?_
          refine fl_if_le (a := F89_ 344 9) hm_59 rfl ⟨by omega, by omega⟩ (fun h99_ => ?_) (fun h100_ => ?_)
          · exfalso; omega
          refine fl_iconst hm_59 rfl ?_
          refine fl_goto hm_59 rfl ?_
          refine gr_i hm_59 rfl rfl (ga_nb (by omega)) ?_
          refine fl_if_ne hm_187 rfl ⟨by omega, by omega⟩ (fun _ => ?_) (fun h => absurd (by omega) h)
          refine ga_aload_n (v := .ref 344) hm_187 rfl rfl rfl ?_
          refine gIv (nY := 1) (F := 1) (L := 20) (As := []) (b := 344) (rest := []) hm_187 rfl hm_61 rfl rfl (fl_ob sc_344) rfl rfl rfl rfl rfl (by omega) (by omega) ?_
          intro f101_ l102_ h103_ h104_
          show fl_R xi_ms 61 f101_ l102_ 0 [(0, .ref 344)] [] _ _
          refine ga_aload_n (v := .ref 344) hm_61 rfl rfl rfl ?_
          refine ga_dup hm_61 rfl rfl ?_
          have e105_ : F89_ 344 5 = F1 344 5 := (s91_ 344 5 rfl).trans (e44_)
          refine ga_geti (z := F1 344 5) hm_61 rfl sc_344 rfl (e105_) ?_
          refine ga_aload_n (v := .ref 344) hm_61 rfl rfl rfl ?_
          refine gIi (nY := 1) (F := 0) (L := 0) (As := []) (b := 344) (rest := [.int (Int32.ofInt (F1 344 5)), .ref 344]) hm_61 rfl hm_59 rfl rfl (fl_ob sc_344) rfl rfl rfl rfl rfl (by omega) (by omega) ?_
          intro f106_ l107_ h108_ h109_
          show fl_R xi_ms 59 f106_ l107_ 0 [(0, .ref 344)] [] _ _
          refine ga_aload_n (v := .ref 344) hm_59 rfl rfl rfl ?_
          refine ga_geti (z := F89_ 344 9) hm_59 rfl sc_344 rfl (rfl) ?_
          refine fl_if_le (a := F89_ 344 9) hm_59 rfl ⟨by omega, by omega⟩ (fun h110_ => ?_) (fun h111_ => ?_)
          · exfalso; omega
          refine fl_iconst hm_59 rfl ?_
          refine fl_goto hm_59 rfl ?_
          refine gr_i hm_59 rfl rfl (ga_nb (by omega)) ?_
          refine fl_if_eq hm_61 rfl ⟨by omega, by omega⟩ (fun h => absurd h (by omega)) (fun _ => ?_)
          refine fl_iconst hm_61 rfl ?_
          refine fl_goto hm_61 rfl ?_
          refine ga_iadd (a := F1 344 5) (b := 0) (c := F1 344 5) hm_61 rfl (by omega) ?_
          refine ga_puti (z := F1 344 5) hm_61 rfl sc_344 rfl rfl ?_
          refine gr_v hm_61 rfl rfl ?_
          refine ga_aload_n (v := .ref 344) hm_187 rfl rfl rfl ?_
          refine gIi (nY := 1) (F := 0) (L := 0) (As := []) (b := 344) (rest := []) hm_187 rfl hm_59 rfl rfl (fl_ob sc_344) rfl rfl rfl rfl rfl (by omega) (by omega) ?_
          intro f112_ l113_ h114_ h115_
          show fl_R xi_ms 59 f112_ l113_ 0 [(0, .ref 344)] [] _ _
          refine ga_aload_n (v := .ref 344) hm_59 rfl rfl rfl ?_
          refine ga_geti (z := F89_ 344 9) hm_59 rfl sc_344 rfl (fl_u_ne (by omega)) ?_
          refine fl_if_le (a := F89_ 344 9) hm_59 rfl ⟨by omega, by omega⟩ (fun h116_ => ?_) (fun h117_ => ?_)
          · exfalso; omega
          refine fl_iconst hm_59 rfl ?_
          refine fl_goto hm_59 rfl ?_
          refine gr_i hm_59 rfl rfl (ga_nb (by omega)) ?_
          refine fl_if_eq hm_187 rfl ⟨by omega, by omega⟩ (fun h => absurd h (by omega)) (fun _ => ?_)
          obtain ⟨F118_, q119_⟩ : ∃ F9_, F9_ = (fl_u F89_ 344 5 (F1 344 5)) := ⟨_, rfl⟩
          rw [← q119_]
          have g120_ : gi F118_ := by rw [q119_]; exact gi_u (g90_) rfl (by omega) (by omega)
          have g121_ : fs [(344, 344, 5, 5), (344, 344, 9, 10), (344, 344, 15, 15), (349, 349, 0, 100000)] F F118_ := by rw [q119_]; exact fs_u (g92_) rfl
          have rk122_ : rk K F118_ := by rw [q119_]; exact rk_u (rk93_) (by omega) (by omega)
          refine gr_v hm_187 rfl rfl ?_
          have e123_ : F118_ 344 9 = F89_ 344 9 := by rw [q119_]; exact fl_u_ne (by omega)
          have e124_ : F118_ 344 10 = F89_ 344 10 := by rw [q119_]; exact fl_u_ne (by omega)
          have e125_ : F118_ 344 5 = F1 344 5 := by rw [q119_]; exact fl_u_eq
          have b126_ : 0 ≤ F89_ 344 10 ∧ F89_ 344 10 ≤ 600 := gi_g g90_ rfl
          have b127_ : 0 ≤ F 344 10 ∧ F 344 10 ≤ 600 := gi_g hgi rfl
          have b128_ : 0 ≤ F 344 5 ∧ F 344 5 ≤ 600 := gi_g hgi rfl
          exact Or.inl ⟨F118_, rfl, g120_, g121_, (by omega), (⟨by intro h0_; have hs_ := c26_.1 (by omega); have c87__k := c87_.2 (by omega); have h1_ := nm_no hs_; rw [sp_nm, if_neg h1_] at hs_; have h2_ := Prod.mk.inj (Sum.inl.inj hs_); rw [hsp, st1_f1 (by omega) h1_]; congr 2 <;> omega, fun h0_ => by exfalso; omega⟩), (by omega)⟩
        subst hA_
        have g129_ : fs [(344, 344, 5, 5), (344, 344, 9, 10), (344, 344, 15, 15), (349, 349, 0, 100000)] F F38_ := fs_tr g7_ s40_ rfl
        have rk130_ : rk K F38_ := rk_fs rk8_ s40_ (fun r k h => (fs_n (by omega) rfl)) (fs_n (by omega) rfl)
        have hP131_ := rkt_p hkt (p := F1 344 5) (by omega) (by omega) hgK
        have e132_ : F38_ 344 5 = F1 344 5 := (s40_ 344 5 rfl).trans (rfl)
        refine ga_lstore_n (lv2 := [(2, .long (Int64.ofInt z23_)), (1, .int (Int32.ofInt mo)), (0, .ref 344)]) hm_187 rfl (Nat.le_of_ble_eq_true rfl) rfl ?_
        refine ga_aload_n (v := .ref 344) hm_187 rfl rfl rfl ?_
        have e133_ : F38_ 344 15 = F1 344 15 := (s40_ 344 15 rfl).trans (rfl)
        have b134_ : 0 ≤ F1 344 15 ∧ F1 344 15 ≤ 4 := gi_g hg_F1 rfl
        refine ga_geti (z := F1 344 15) hm_187 rfl sc_344 rfl (e133_) ?_
        refine fl_iconst hm_187 rfl ?_
        refine fx_icmp_ne (a := F1 344 15) (b := 4) hm_187 rfl ⟨by omega, by omega⟩ ⟨by omega, by omega⟩ (fun h135_ => ?_) (fun h136_ => ?_)
        ·
          refine ga_aload_n (v := .ref 344) hm_187 rfl rfl rfl ?_
          refine gIi (nY := 1) (F := 0) (L := 0) (As := []) (b := 344) (rest := []) hm_187 rfl hm_59 rfl rfl (fl_ob sc_344) rfl rfl rfl rfl rfl (by omega) (by omega) ?_
          intro f137_ l138_ h139_ h140_
          show fl_R xi_ms 59 f137_ l138_ 0 [(0, .ref 344)] [] _ _
          refine ga_aload_n (v := .ref 344) hm_59 rfl rfl rfl ?_
          have b141_ : 0 ≤ F38_ 344 9 ∧ F38_ 344 9 ≤ 5 := gi_g g39_ rfl
          refine ga_geti (z := F38_ 344 9) hm_59 rfl sc_344 rfl (rfl) ?_
          refine fl_if_le (a := F38_ 344 9) hm_59 rfl ⟨by omega, by omega⟩ (fun h142_ => ?_) (fun h143_ => ?_)
          ·
            refine fl_iconst hm_59 rfl ?_
            refine gr_i hm_59 rfl rfl (ga_nb (by omega)) ?_
            refine fl_if_ne hm_187 rfl ⟨by omega, by omega⟩ (fun h => absurd h (by omega)) (fun _ => ?_)
            refine ga_aload_n (v := .ref 344) hm_187 rfl rfl rfl ?_
            refine ga_getr (b := 349) hm_187 rfl sc_344 rfl ?_
            refine fl_iconst hm_187 rfl ?_
            refine ga_aload_n (v := .ref 344) hm_187 rfl rfl rfl ?_
            refine ga_geti (z := F1 344 15) hm_187 rfl sc_344 rfl (e133_) ?_
            refine ga_lload_n (z := z23_) hm_187 rfl rfl ?_
            refine gSi (nY := 7) (F := 0) (L := 0) (As := [.ref 349, .int (Int32.ofInt 0), .int (Int32.ofInt (F1 344 15)), .long (Int64.ofInt z23_)]) (rest := []) hm_187 rfl hm_162 rfl rfl (fl_pos sc_0) rfl rfl rfl rfl (by omega) (by omega) (mc_162 hG F38_ X g39_ (349) (5) (0) (F1 344 15) (z23_) sc_349 (fun _ => rfl) (by omega) (by omega))  ?_
            rintro z144_ A1_ ⟨hA_, c145_, c146_, c147_⟩
            subst hA_
            refine fl_iconst hm_187 rfl ?_
            refine fl_icmp_eq (a := z144_) (b := -1) hm_187 rfl ⟨by omega, by omega⟩ ⟨by omega, by omega⟩ (fun h148_ => ?_) (fun h149_ => ?_)
            ·
              refine ga_aload_n (v := .ref 344) hm_187 rfl rfl rfl ?_
              refine gIv (nY := 1) (F := 1) (L := 20) (As := []) (b := 344) (rest := []) hm_187 rfl hm_61 rfl rfl (fl_ob sc_344) rfl rfl rfl rfl rfl (by omega) (by omega) ?_
              intro f150_ l151_ h152_ h153_
              show fl_R xi_ms 61 f150_ l151_ 0 [(0, .ref 344)] [] _ _
              refine ga_aload_n (v := .ref 344) hm_61 rfl rfl rfl ?_
              refine ga_dup hm_61 rfl rfl ?_
              refine ga_geti (z := F1 344 5) hm_61 rfl sc_344 rfl (e132_) ?_
              refine ga_aload_n (v := .ref 344) hm_61 rfl rfl rfl ?_
              refine gIi (nY := 1) (F := 0) (L := 0) (As := []) (b := 344) (rest := [.int (Int32.ofInt (F1 344 5)), .ref 344]) hm_61 rfl hm_59 rfl rfl (fl_ob sc_344) rfl rfl rfl rfl rfl (by omega) (by omega) ?_
              intro f154_ l155_ h156_ h157_
              show fl_R xi_ms 59 f154_ l155_ 0 [(0, .ref 344)] [] _ _
              refine ga_aload_n (v := .ref 344) hm_59 rfl rfl rfl ?_
              refine ga_geti (z := F38_ 344 9) hm_59 rfl sc_344 rfl (rfl) ?_
              refine fl_if_le (a := F38_ 344 9) hm_59 rfl ⟨by omega, by omega⟩ (fun h158_ => ?_) (fun h159_ => ?_)
              ·
                refine fl_iconst hm_59 rfl ?_
                refine gr_i hm_59 rfl rfl (ga_nb (by omega)) ?_
                refine fl_if_eq hm_61 rfl ⟨by omega, by omega⟩ (fun _ => ?_) (fun h => absurd (by omega) h)
                refine fl_iconst hm_61 rfl ?_
                refine ga_iadd (a := F1 344 5) (b := 1) (c := F1 344 5 + 1) hm_61 rfl (by omega) ?_
                refine ga_puti (z := F1 344 5 + 1) hm_61 rfl sc_344 rfl rfl ?_
                refine gr_v hm_61 rfl rfl ?_
                refine ga_aload_n (v := .ref 344) hm_187 rfl rfl rfl ?_
                refine gIi (nY := 1) (F := 0) (L := 0) (As := []) (b := 344) (rest := []) hm_187 rfl hm_59 rfl rfl (fl_ob sc_344) rfl rfl rfl rfl rfl (by omega) (by omega) ?_
                intro f160_ l161_ h162_ h163_
                show fl_R xi_ms 59 f160_ l161_ 0 [(0, .ref 344)] [] _ _
                refine ga_aload_n (v := .ref 344) hm_59 rfl rfl rfl ?_
                refine ga_geti (z := F38_ 344 9) hm_59 rfl sc_344 rfl (fl_u_ne (by omega)) ?_
                refine fl_if_le (a := F38_ 344 9) hm_59 rfl ⟨by omega, by omega⟩ (fun h164_ => ?_) (fun h165_ => ?_)
                ·
                  refine fl_iconst hm_59 rfl ?_
                  refine gr_i hm_59 rfl rfl (ga_nb (by omega)) ?_
                  refine fl_if_eq hm_187 rfl ⟨by omega, by omega⟩ (fun _ => ?_) (fun h => absurd (by omega) h)
                  refine ga_aload_n (v := .ref 344) hm_187 rfl rfl rfl ?_
                  refine ga_getr (b := 349) hm_187 rfl sc_344 rfl ?_
                  refine ga_aload_n (v := .ref 344) hm_187 rfl rfl rfl ?_
                  refine ga_geti (z := F1 344 15) hm_187 rfl sc_344 rfl ((fl_u_ne (by omega)).trans (e133_)) ?_
                  refine ga_lload_n (z := z23_) hm_187 rfl rfl ?_
                  refine fl_last (z := F1 344 15) (v := z23_) hm_187 rfl sc_349 (by omega) (by omega) (by omega) ?_
                  refine ga_aload_n (v := .ref 344) hm_187 rfl rfl rfl ?_
                  refine ga_dup hm_187 rfl rfl ?_
                  refine ga_geti (z := F1 344 15) hm_187 rfl sc_344 rfl ((fl_u_ne (by omega)).trans ((fl_u_ne (by omega)).trans (e133_))) ?_
                  refine fl_iconst hm_187 rfl ?_
                  refine ga_iadd (a := F1 344 15) (b := 1) (c := F1 344 15 + 1) hm_187 rfl (by omega) ?_
                  refine ga_puti (z := F1 344 15 + 1) hm_187 rfl sc_344 rfl rfl ?_
                  refine ga_aload_n (v := .ref 344) hm_187 rfl rfl rfl ?_
                  refine fl_bipush hm_187 rfl rfl ?_
                  obtain ⟨F166_, q167_⟩ : ∃ F9_, F9_ = (fl_u (fl_u (fl_u F38_ 344 5 (F1 344 5 + 1)) 349 (F1 344 15).toNat z23_) 344 15 (F1 344 15 + 1)) := ⟨_, rfl⟩
                  rw [← q167_]
                  have g168_ : gi F166_ := by rw [q167_]; exact gi_u (gi_u (gi_u (g39_) rfl (by omega) (by omega)) rfl (by omega) (by omega)) rfl (by omega) (by omega)
                  have g169_ : fs [(344, 344, 5, 5), (344, 344, 9, 10), (344, 344, 15, 15), (349, 349, 0, 100000)] F F166_ := by rw [q167_]; exact fs_u (fs_u (fs_u (g129_) rfl) (fs_z (fs_z (fs_z (fs_y (by omega)))))) rfl
                  have rk170_ : rk K F166_ := by rw [q167_]; exact rk_u (rk_u (rk_u (rk130_) (by omega) (by omega)) (by omega) (by omega)) (by omega) (by omega)
                  have e171_ : F166_ 344 5 = F1 344 5 + 1 := by rw [q167_]; exact (fl_u_ne (by omega)).trans ((fl_u_ne (by omega)).trans (fl_u_eq))
                  refine gVi (nY := 2) (F := 1) (L := 20) (As := [.int (Int32.ofInt 41)]) (b := 344) (rest := []) hm_187 rfl hm_52 rfl rfl (fl_ob sc_344) rfl rfl rfl rfl rfl (by omega) (by omega) (mc_52 hG F166_ X g168_ (K) (41) hgK rk170_ hkt (by omega) (by omega)) (fun _ _ h => False.elim h) ?_
                  have e173_ : F166_ 344 9 = F38_ 344 9 := by rw [q167_]; exact (fl_u_ne (by omega)).trans ((fl_u_ne (by omega)).trans (fl_u_ne (by omega)))
                  rintro z172_ A1_ (⟨hA_, hz_, c174_⟩ | ⟨hA_, hz_, c175_⟩)
                  ·
                    subst hA_
                    subst hz_
                    try simp only [e171_, e173_] at c174_
                    refine fl_if_ne hm_187 rfl ⟨by omega, by omega⟩ (fun h => absurd h (by omega)) (fun _ => ?_)
                    refine fl_iconst hm_187 rfl ?_
                    refine fl_goto hm_187 rfl ?_
                    refine ga_istore_n (lv2 := [(1, .int (Int32.ofInt 1)), (2, .long (Int64.ofInt z23_)), (0, .ref 344)]) hm_187 rfl (Nat.le_of_ble_eq_true rfl) rfl ?_
                    refine fl_goto hm_187 rfl ?_
                    have e176_ : F166_ 344 15 = F1 344 15 + 1 := by rw [q167_]; exact fl_u_eq
                    have b177_ : 0 ≤ K 1 6 ∧ K 1 6 ≤ 601 := gi_g hgK rfl
                    have b178_ : 0 ≤ F 344 5 ∧ F 344 5 ≤ 600 := gi_g hgi rfl
                    exact fl_R_sub (lv' := [(1, .int (Int32.ofInt 1)), (0, .ref 344)]) rfl rfl (ih5_ _ (by omega) (1) (_) F166_ rfl g168_ (by rw [q167_]; exact fs_u (fs_u (fs_u ((fs_tr hf_F1 s40_ rfl)) rfl) (fs_z (fs_z (fs_z (fs_y (by omega)))))) rfl) (by omega) (by rw [q167_]; exact rpn_put (rpn_u (rpn_fs hl s40_ (fun _ => (fs_n (by omega) rfl)) (fs_n (by omega) rfl)) (by omega) (by omega)) ((fl_u_ne (by omega)).trans (e133_)) c35_) (Or.inl ⟨rfl, Or.inr (by rw [e171_]; omega)⟩) (by omega) (by rw [hsp, st1_step (by omega) (by omega) (by omega) (ra_fi (by have x_ := (rpn_fs hl s40_ (fun _ => (fs_n (by omega) rfl)) (fs_n (by omega) rfl)); rw [e133_] at x_; exact x_) c35_ c145_ c146_ c147_) (by omega) (by omega)]; congr 1; (simp only [List.length_append, List.length_singleton]; try omega); try omega))
                  subst hA_
                  subst hz_
                  try simp only [e171_, e173_] at c175_
                  refine fl_if_ne hm_187 rfl ⟨by omega, by omega⟩ (fun _ => ?_) (fun h => absurd (by omega) h)
                  refine fl_iconst hm_187 rfl ?_
                  refine ga_istore_n (lv2 := [(1, .int (Int32.ofInt 0)), (2, .long (Int64.ofInt z23_)), (0, .ref 344)]) hm_187 rfl (Nat.le_of_ble_eq_true rfl) rfl ?_
                  refine fl_goto hm_187 rfl ?_
                  have e179_ : F166_ 344 15 = F1 344 15 + 1 := by rw [q167_]; exact fl_u_eq
                  have b180_ : 0 ≤ K 1 6 ∧ K 1 6 ≤ 601 := gi_g hgK rfl
                  have b181_ : 0 ≤ F 344 5 ∧ F 344 5 ≤ 600 := gi_g hgi rfl
                  exact fl_R_sub (lv' := [(1, .int (Int32.ofInt 0)), (0, .ref 344)]) rfl rfl (ih5_ _ (by omega) (0) (_) F166_ rfl g168_ (by rw [q167_]; exact fs_u (fs_u (fs_u ((fs_tr hf_F1 s40_ rfl)) rfl) (fs_z (fs_z (fs_z (fs_y (by omega)))))) rfl) (by omega) (by rw [q167_]; exact rpn_put (rpn_u (rpn_fs hl s40_ (fun _ => (fs_n (by omega) rfl)) (fs_n (by omega) rfl)) (by omega) (by omega)) ((fl_u_ne (by omega)).trans (e133_)) c35_) (Or.inr ⟨rfl, by simp only [List.length_append, List.length_singleton]; omega, by rw [e171_]; omega⟩) (by omega) (by rw [hsp, st1_step (by omega) (by omega) (by omega) (ra_fi (by have x_ := (rpn_fs hl s40_ (fun _ => (fs_n (by omega) rfl)) (fs_n (by omega) rfl)); rw [e133_] at x_; exact x_) c35_ c145_ c146_ c147_) (by omega) (by omega)]; congr 1; (simp only [List.length_append, List.length_singleton]; try omega); try omega))
                exfalso; omega
              exfalso; omega
            refine ga_aload_n (v := .ref 344) hm_187 rfl rfl rfl ?_
            refine fl_iconst hm_187 rfl ?_
            refine gVv (nY := 2) (F := 0) (L := 0) (As := [.int (Int32.ofInt 2)]) (b := 344) (rest := []) hm_187 rfl hm_54 rfl rfl (fl_ob sc_344) rfl rfl rfl rfl rfl (by omega) (by omega) (mc_54 hG F38_ X g39_ (K) (2) hgK rk130_ hkt (by omega) (by omega)) (fun _ _ h => False.elim h) ?_
            have b183_ : 0 ≤ F38_ 344 10 ∧ F38_ 344 10 ≤ 600 := gi_g g39_ rfl
            rintro A1_ ⟨F187_, hA_, g188_, s189_, c184_, c185_, c186_⟩
            subst hA_
            have g190_ : fs [(344, 344, 5, 5), (344, 344, 9, 10), (344, 344, 15, 15), (349, 349, 0, 100000)] F F187_ := fs_tr g129_ s189_ rfl
            have rk191_ : rk K F187_ := rk_fs rk130_ s189_ (fun r k h => (fs_n (by omega) rfl)) (fs_n (by omega) rfl)
            try simp only [e132_] at c185_
            try simp only [e132_] at c186_
            refine ga_aload_n (v := .ref 344) hm_187 rfl rfl rfl ?_
            refine gIv (nY := 1) (F := 1) (L := 20) (As := []) (b := 344) (rest := []) hm_187 rfl hm_61 rfl rfl (fl_ob sc_344) rfl rfl rfl rfl rfl (by omega) (by omega) ?_
            intro f192_ l193_ h194_ h195_
            show fl_R xi_ms 61 f192_ l193_ 0 [(0, .ref 344)] [] _ _
            refine ga_aload_n (v := .ref 344) hm_61 rfl rfl rfl ?_
            refine ga_dup hm_61 rfl rfl ?_
            have e196_ : F187_ 344 5 = F1 344 5 := (s189_ 344 5 rfl).trans (e132_)
            refine ga_geti (z := F1 344 5) hm_61 rfl sc_344 rfl (e196_) ?_
            refine ga_aload_n (v := .ref 344) hm_61 rfl rfl rfl ?_
            refine gIi (nY := 1) (F := 0) (L := 0) (As := []) (b := 344) (rest := [.int (Int32.ofInt (F1 344 5)), .ref 344]) hm_61 rfl hm_59 rfl rfl (fl_ob sc_344) rfl rfl rfl rfl rfl (by omega) (by omega) ?_
            intro f197_ l198_ h199_ h200_
            show fl_R xi_ms 59 f197_ l198_ 0 [(0, .ref 344)] [] _ _
            refine ga_aload_n (v := .ref 344) hm_59 rfl rfl rfl ?_
            have b201_ : 0 ≤ F187_ 344 9 ∧ F187_ 344 9 ≤ 5 := gi_g g188_ rfl
            refine ga_geti (z := F187_ 344 9) hm_59 rfl sc_344 rfl (rfl) ?_
            refine fl_if_le (a := F187_ 344 9) hm_59 rfl ⟨by omega, by omega⟩ (fun h202_ => ?_) (fun h203_ => ?_)
            · exfalso; omega
            refine fl_iconst hm_59 rfl ?_
            refine fl_goto hm_59 rfl ?_
            refine gr_i hm_59 rfl rfl (ga_nb (by omega)) ?_
            refine fl_if_eq hm_61 rfl ⟨by omega, by omega⟩ (fun h => absurd h (by omega)) (fun _ => ?_)
            refine fl_iconst hm_61 rfl ?_
            refine fl_goto hm_61 rfl ?_
            refine ga_iadd (a := F1 344 5) (b := 0) (c := F1 344 5) hm_61 rfl (by omega) ?_
            refine ga_puti (z := F1 344 5) hm_61 rfl sc_344 rfl rfl ?_
            refine gr_v hm_61 rfl rfl ?_
            refine ga_aload_n (v := .ref 344) hm_187 rfl rfl rfl ?_
            refine gIi (nY := 1) (F := 0) (L := 0) (As := []) (b := 344) (rest := []) hm_187 rfl hm_59 rfl rfl (fl_ob sc_344) rfl rfl rfl rfl rfl (by omega) (by omega) ?_
            intro f204_ l205_ h206_ h207_
            show fl_R xi_ms 59 f204_ l205_ 0 [(0, .ref 344)] [] _ _
            refine ga_aload_n (v := .ref 344) hm_59 rfl rfl rfl ?_
            refine ga_geti (z := F187_ 344 9) hm_59 rfl sc_344 rfl (fl_u_ne (by omega)) ?_
            refine fl_if_le (a := F187_ 344 9) hm_59 rfl ⟨by omega, by omega⟩ (fun h208_ => ?_) (fun h209_ => ?_)
            · exfalso; omega
            refine fl_iconst hm_59 rfl ?_
            refine fl_goto hm_59 rfl ?_
            refine gr_i hm_59 rfl rfl (ga_nb (by omega)) ?_
            refine fl_if_eq hm_187 rfl ⟨by omega, by omega⟩ (fun h => absurd h (by omega)) (fun _ => ?_)
            obtain ⟨F210_, q211_⟩ : ∃ F9_, F9_ = (fl_u F187_ 344 5 (F1 344 5)) := ⟨_, rfl⟩
            rw [← q211_]
            have g212_ : gi F210_ := by rw [q211_]; exact gi_u (g188_) rfl (by omega) (by omega)
            have g213_ : fs [(344, 344, 5, 5), (344, 344, 9, 10), (344, 344, 15, 15), (349, 349, 0, 100000)] F F210_ := by rw [q211_]; exact fs_u (g190_) rfl
            have rk214_ : rk K F210_ := by rw [q211_]; exact rk_u (rk191_) (by omega) (by omega)
            refine gr_v hm_187 rfl rfl ?_
            have e215_ : F210_ 344 9 = F187_ 344 9 := by rw [q211_]; exact fl_u_ne (by omega)
            have e216_ : F210_ 344 10 = F187_ 344 10 := by rw [q211_]; exact fl_u_ne (by omega)
            have e217_ : F210_ 344 5 = F1 344 5 := by rw [q211_]; exact fl_u_eq
            have b218_ : 0 ≤ F187_ 344 10 ∧ F187_ 344 10 ≤ 600 := gi_g g188_ rfl
            have b219_ : 0 ≤ F 344 10 ∧ F 344 10 ≤ 600 := gi_g hgi rfl
            have b220_ : 0 ≤ F 344 5 ∧ F 344 5 ≤ 600 := gi_g hgi rfl
            exact Or.inl ⟨F210_, rfl, g212_, g213_, (by omega), (⟨by intro h0_; have hs_ := c185_.1 (by omega); rw [hsp, st1_f2 (by omega) (by omega) (by omega) (ra_fi (by have x_ := (rpn_fs hl s40_ (fun _ => (fs_n (by omega) rfl)) (fs_n (by omega) rfl)); rw [e133_] at x_; exact x_) c35_ c145_ c146_ c147_) (by omega)]; congr 2 <;> omega, fun h0_ => by exfalso; omega⟩), (by omega)⟩
          exfalso; omega
        refine ga_aload_n (v := .ref 344) hm_187 rfl rfl rfl ?_
        refine fl_iconst hm_187 rfl ?_
        refine gVv (nY := 2) (F := 0) (L := 0) (As := [.int (Int32.ofInt 1)]) (b := 344) (rest := []) hm_187 rfl hm_54 rfl rfl (fl_ob sc_344) rfl rfl rfl rfl rfl (by omega) (by omega) (mc_54 hG F38_ X g39_ (K) (1) hgK rk130_ hkt (by omega) (by omega)) (fun _ _ h => False.elim h) ?_
        have b222_ : 0 ≤ F38_ 344 10 ∧ F38_ 344 10 ≤ 600 := gi_g g39_ rfl
        have b223_ : 0 ≤ F38_ 344 9 ∧ F38_ 344 9 ≤ 5 := gi_g g39_ rfl
        rintro A1_ ⟨F227_, hA_, g228_, s229_, c224_, c225_, c226_⟩
        subst hA_
        have g230_ : fs [(344, 344, 5, 5), (344, 344, 9, 10), (344, 344, 15, 15), (349, 349, 0, 100000)] F F227_ := fs_tr g129_ s229_ rfl
        have rk231_ : rk K F227_ := rk_fs rk130_ s229_ (fun r k h => (fs_n (by omega) rfl)) (fs_n (by omega) rfl)
        try simp only [e132_] at c225_
        try simp only [e132_] at c226_
        refine ga_aload_n (v := .ref 344) hm_187 rfl rfl rfl ?_
        refine gIi (nY := 1) (F := 0) (L := 0) (As := []) (b := 344) (rest := []) hm_187 rfl hm_59 rfl rfl (fl_ob sc_344) rfl rfl rfl rfl rfl (by omega) (by omega) ?_
        intro f232_ l233_ h234_ h235_
        show fl_R xi_ms 59 f232_ l233_ 0 [(0, .ref 344)] [] _ _
        refine ga_aload_n (v := .ref 344) hm_59 rfl rfl rfl ?_
        have b236_ : 0 ≤ F227_ 344 9 ∧ F227_ 344 9 ≤ 5 := gi_g g228_ rfl
        refine ga_geti (z := F227_ 344 9) hm_59 rfl sc_344 rfl (rfl) ?_
        refine fl_if_le (a := F227_ 344 9) hm_59 rfl ⟨by omega, by omega⟩ (fun h237_ => ?_) (fun h238_ => ?_)
        · exfalso; omega
        refine fl_iconst hm_59 rfl ?_
        refine fl_goto hm_59 rfl ?_
        refine gr_i hm_59 rfl rfl (ga_nb (by omega)) ?_
        refine fl_if_ne hm_187 rfl ⟨by omega, by omega⟩ (fun _ => ?_) (fun h => absurd (by omega) h)
        refine ga_aload_n (v := .ref 344) hm_187 rfl rfl rfl ?_
        refine gIv (nY := 1) (F := 1) (L := 20) (As := []) (b := 344) (rest := []) hm_187 rfl hm_61 rfl rfl (fl_ob sc_344) rfl rfl rfl rfl rfl (by omega) (by omega) ?_
        intro f239_ l240_ h241_ h242_
        show fl_R xi_ms 61 f239_ l240_ 0 [(0, .ref 344)] [] _ _
        refine ga_aload_n (v := .ref 344) hm_61 rfl rfl rfl ?_
        refine ga_dup hm_61 rfl rfl ?_
        have e243_ : F227_ 344 5 = F1 344 5 := (s229_ 344 5 rfl).trans (e132_)
        refine ga_geti (z := F1 344 5) hm_61 rfl sc_344 rfl (e243_) ?_
        refine ga_aload_n (v := .ref 344) hm_61 rfl rfl rfl ?_
        refine gIi (nY := 1) (F := 0) (L := 0) (As := []) (b := 344) (rest := [.int (Int32.ofInt (F1 344 5)), .ref 344]) hm_61 rfl hm_59 rfl rfl (fl_ob sc_344) rfl rfl rfl rfl rfl (by omega) (by omega) ?_
        intro f244_ l245_ h246_ h247_
        show fl_R xi_ms 59 f244_ l245_ 0 [(0, .ref 344)] [] _ _
        refine ga_aload_n (v := .ref 344) hm_59 rfl rfl rfl ?_
        refine ga_geti (z := F227_ 344 9) hm_59 rfl sc_344 rfl (rfl) ?_
        refine fl_if_le (a := F227_ 344 9) hm_59 rfl ⟨by omega, by omega⟩ (fun h248_ => ?_) (fun h249_ => ?_)
        · exfalso; omega
        refine fl_iconst hm_59 rfl ?_
        refine fl_goto hm_59 rfl ?_
        refine gr_i hm_59 rfl rfl (ga_nb (by omega)) ?_
        refine fl_if_eq hm_61 rfl ⟨by omega, by omega⟩ (fun h => absurd h (by omega)) (fun _ => ?_)
        refine fl_iconst hm_61 rfl ?_
        refine fl_goto hm_61 rfl ?_
        refine ga_iadd (a := F1 344 5) (b := 0) (c := F1 344 5) hm_61 rfl (by omega) ?_
        refine ga_puti (z := F1 344 5) hm_61 rfl sc_344 rfl rfl ?_
        refine gr_v hm_61 rfl rfl ?_
        refine ga_aload_n (v := .ref 344) hm_187 rfl rfl rfl ?_
        refine gIi (nY := 1) (F := 0) (L := 0) (As := []) (b := 344) (rest := []) hm_187 rfl hm_59 rfl rfl (fl_ob sc_344) rfl rfl rfl rfl rfl (by omega) (by omega) ?_
        intro f250_ l251_ h252_ h253_
        show fl_R xi_ms 59 f250_ l251_ 0 [(0, .ref 344)] [] _ _
        refine ga_aload_n (v := .ref 344) hm_59 rfl rfl rfl ?_
        refine ga_geti (z := F227_ 344 9) hm_59 rfl sc_344 rfl (fl_u_ne (by omega)) ?_
        refine fl_if_le (a := F227_ 344 9) hm_59 rfl ⟨by omega, by omega⟩ (fun h254_ => ?_) (fun h255_ => ?_)
        · exfalso; omega
        refine fl_iconst hm_59 rfl ?_
        refine fl_goto hm_59 rfl ?_
        refine gr_i hm_59 rfl rfl (ga_nb (by omega)) ?_
        refine fl_if_eq hm_187 rfl ⟨by omega, by omega⟩ (fun h => absurd h (by omega)) (fun _ => ?_)
        obtain ⟨F256_, q257_⟩ : ∃ F9_, F9_ = (fl_u F227_ 344 5 (F1 344 5)) := ⟨_, rfl⟩
        rw [← q257_]
        have g258_ : gi F256_ := by rw [q257_]; exact gi_u (g228_) rfl (by omega) (by omega)
        have g259_ : fs [(344, 344, 5, 5), (344, 344, 9, 10), (344, 344, 15, 15), (349, 349, 0, 100000)] F F256_ := by rw [q257_]; exact fs_u (g230_) rfl
        have rk260_ : rk K F256_ := by rw [q257_]; exact rk_u (rk231_) (by omega) (by omega)
        refine gr_v hm_187 rfl rfl ?_
        have e261_ : F256_ 344 9 = F227_ 344 9 := by rw [q257_]; exact fl_u_ne (by omega)
        have e262_ : F256_ 344 10 = F227_ 344 10 := by rw [q257_]; exact fl_u_ne (by omega)
        have e263_ : F256_ 344 5 = F1 344 5 := by rw [q257_]; exact fl_u_eq
        have b264_ : 0 ≤ F227_ 344 10 ∧ F227_ 344 10 ≤ 600 := gi_g g228_ rfl
        have b265_ : 0 ≤ F 344 10 ∧ F 344 10 ≤ 600 := gi_g hgi rfl
        have b266_ : 0 ≤ F 344 5 ∧ F 344 5 ≤ 600 := gi_g hgi rfl
        exact Or.inl ⟨F256_, rfl, g258_, g259_, (by omega), (⟨by intro h0_; have hs_ := c225_.1 (by omega); rw [hsp, st1_f4 (by omega) (by omega)]; congr 2 <;> omega, fun h0_ => by exfalso; omega⟩), (by omega)⟩
      exfalso; omega
    have b267_ : 0 ≤ F 344 15 ∧ F 344 15 ≤ 4 := gi_g hgi rfl
    have b268_ : 0 ≤ F 344 5 ∧ F 344 5 ≤ 600 := gi_g hgi rfl
    have b269_ : 0 ≤ K 1 6 ∧ K 1 6 ≤ 601 := gi_g hgK rfl
    exact L4_ _ (1) ([]) F rfl hgi fs_refl (by omega) (rpn_0 h15) (Or.inl ⟨rfl, Or.inl rfl⟩) (by omega) (rfl)
  refine fl_iconst hm_187 rfl ?_
  refine ga_istore_n (lv2 := [(1, .int (Int32.ofInt 1)), (0, .ref 344)]) hm_187 rfl (Nat.le_of_ble_eq_true rfl) rfl ?_
  refine ga_iload_n (z := 1) hm_187 rfl rfl ?_
  refine fl_if_eq hm_187 rfl ⟨by omega, by omega⟩ (fun h => absurd h (by omega)) (fun _ => ?_)
  refine ga_aload_n (v := .ref 344) hm_187 rfl rfl rfl ?_
  refine gIi (nY := 1) (F := 0) (L := 0) (As := []) (b := 344) (rest := []) hm_187 rfl hm_59 rfl rfl (fl_ob sc_344) rfl rfl rfl rfl rfl (by omega) (by omega) ?_
  intro f270_ l271_ h272_ h273_
  show fl_R xi_ms 59 f270_ l271_ 0 [(0, .ref 344)] [] _ _
  refine ga_aload_n (v := .ref 344) hm_59 rfl rfl rfl ?_
  refine ga_geti (z := F 344 9) hm_59 rfl sc_344 rfl (rfl) ?_
  refine fl_if_le (a := F 344 9) hm_59 rfl ⟨by omega, by omega⟩ (fun h274_ => ?_) (fun h275_ => ?_)
  · exfalso; omega
  refine fl_iconst hm_59 rfl ?_
  refine fl_goto hm_59 rfl ?_
  refine gr_i hm_59 rfl rfl (ga_nb (by omega)) ?_
  refine fl_if_ne hm_187 rfl ⟨by omega, by omega⟩ (fun _ => ?_) (fun h => absurd (by omega) h)
  refine gr_v hm_187 rfl rfl ?_
  have b276_ : 0 ≤ F 344 10 ∧ F 344 10 ≤ 600 := gi_g hgi rfl
  have b277_ : 0 ≤ F 344 5 ∧ F 344 5 ≤ 600 := gi_g hgi rfl
  exact Or.inl ⟨F, rfl, hgi, fs_refl, (by omega), (⟨fun h0_ => by exfalso; omega, fun h0_ => by constructor <;> omega⟩), (by omega)⟩

theorem rpn_0 {F : fl_N} {a b k : Nat} (h : F b k = 0) : rpn (F a) (F b k) [] := ⟨h, fun j x hx => by simp at hx⟩
theorem rpn_put {F : fl_N} {a k : Nat} {n v c : Int} {l : List Int} (h : rpn (F a) (F 344 k) l) (hn : F 344 k = n) (hr : nrel c v) (ha : a ≠ 344 := by decide) : rpn ((fl_u (fl_u F a n.toNat v) 344 k (n + 1)) a) ((fl_u (fl_u F a n.toNat v) 344 k (n + 1)) 344 k) (l ++ [c]) := by
  subst hn
  rw [fl_u_eq, fl_u_r ha]
  exact rpn_snoc h (fun j hj => fl_u_ne (by omega)) fl_u_eq hr
def sp_t1 (K : fl_N) (m : Nat) (l : List Int) (p : Int) : PR (Int × List Int) := pb (sp_types K m l p) (fun q => if K 3 q.1.toNat = 1 then .inr q else pf K q.1 1)
theorem st1_e {K : fl_N} {m : Nat} {l : List Int} {p : Int} (hl : 0 < (l.length : Int)) (hk : K 3 p.toNat = 1) : sp_t1 K m l p = .inr (p, l) := by
  rw [sp_t1, spt_e rfl (by omega) hk, pb_r, if_pos hk]
theorem st1_u {K : fl_N} {l : List Int} {p : Int} (hl : (l.length : Int) < 4) (hk : (l.length : Int) = 0 ∨ ¬ K 3 p.toNat = 1) : sp_t1 K (4 - l.length) l p = pb (pb (sp_new K 2 l p) (fun q => sp_types K (4 - (l.length + 1)) q.2 q.1)) (fun q => if K 3 q.1.toNat = 1 then .inr q else pf K q.1 1) := by
  rw [sp_t1]
  have h := spt_step (K := K) (l := l) (p := p) hl rfl hk
  rw [show ((4 : Int) - (l.length : Int)).toNat = 4 - l.length by omega, show ((4 : Int) - ((l.length : Int) + 1)).toNat = 4 - (l.length + 1) by omega] at h
  rw [h]
theorem st1_f1 {K : fl_N} {l : List Int} {p : Int} (hk : (l.length : Int) ≤ 4 ∧ ((l.length : Int) = 0 ∨ ¬ K 3 p.toNat = 1)) (h2 : ¬ K 3 p.toNat = 2) : sp_t1 K (4 - l.length) l p = .inl (1, K 4 p.toNat) := by
  by_cases e : (l.length : Int) < 4
  · rw [st1_u e hk.2, sp_new, if_neg h2]
    rfl
  · rw [sp_t1, show 4 - l.length = 0 by omega]
    show (if K 3 p.toNat = 1 then _ else _) = _
    rw [if_neg (by omega)]
    rfl
theorem st1_f4 {K : fl_N} {l : List Int} {p : Int} (hl : (l.length : Int) = 4) (hk : ¬ K 3 p.toNat = 1) : sp_t1 K (4 - l.length) l p = .inl (1, K 4 p.toNat) := by
  rw [sp_t1, show 4 - l.length = 0 by omega]
  show (if K 3 p.toNat = 1 then _ else _) = _
  rw [if_neg hk]
  rfl
theorem st1_f2 {K : fl_N} {l : List Int} {p z : Int} (hl : (l.length : Int) < 4) (hk : (l.length : Int) = 0 ∨ ¬ K 3 p.toNat = 1) (h2 : K 3 p.toNat = 2) (hz : idx l (K 6 p.toNat) = z) (h0 : 0 ≤ z) : sp_t1 K (4 - l.length) l p = .inl (2, K 4 p.toNat) := by
  rw [st1_u hl hk, sp_new, if_pos h2, if_neg (by omega)]
  rfl
theorem st1_step {K : fl_N} {l : List Int} {p z : Int} (hl : (l.length : Int) < 4) (hk : (l.length : Int) = 0 ∨ ¬ K 3 p.toNat = 1) (h2 : K 3 p.toNat = 2) (hz : idx l (K 6 p.toNat) = z) (h0 : z = -1) (hp : p < K 1 6 - 1) : sp_t1 K (4 - l.length) l p = sp_t1 K (4 - (l.length + 1)) (l ++ [K 6 p.toNat]) (p + 1) := by
  rw [st1_u hl hk, sp_new, if_pos h2, if_pos (by omega), sk, if_pos hp]
  rfl

/- CheapPlannerModel.readTypes -/
abbrev pq_187 (G : Nat → Nat → Option Nat) (F : fl_N) (X : xi_H) (K : fl_N) : Outcome → xi_H → Prop := gqv (fun A => (∃ F' : fl_N, fl_H sh_T G F' ++ X = A ∧ gi F' ∧ fs [(344, 344, 5, 5), (344, 344, 9, 10), (344, 344, 15, 15), (349, 349, 0, 100000)] F F' ∧ (¬ F' 344 9 = 0) ∧ ((F 344 9 = 0 → sp_t1 K 4 [] (F 344 5) = .inl (F' 344 9, F' 344 10)) ∧ (¬ F 344 9 = 0 → F' 344 9 = F 344 9 ∧ F' 344 10 = F 344 10)) ∧ (0 ≤ F' 344 5 ∧ F' 344 5 ≤ K 1 6 - 1)) ∨ (∃ F' : fl_N, fl_H sh_T G F' ++ X = A ∧ gi F' ∧ fs [(344, 344, 5, 5), (344, 344, 9, 10), (344, 344, 15, 15), (349, 349, 0, 100000)] F F' ∧ (F' 344 9 = 0 ∧ F 344 9 = 0) ∧ (∃ l, (sp_t1 K 4 [] (F 344 5) = .inr (F' 344 5, l) ∧ K 3 (F' 344 5).toNat = 1) ∧ rpn (F' 349) (F' 344 15) l) ∧ (0 ≤ F' 344 5 ∧ F' 344 5 ≤ K 1 6 - 1))) gqn
theorem mc_187 {G : Nat → Nat → Option Nat} (hG : gg G) (F : fl_N) (X : xi_H) (hgi : gi F) (K : fl_N) (hgK : gi K) (hrk : rk K F) (hkt : rkt K) (hp : 0 ≤ F 344 5 ∧ F 344 5 ≤ K 1 6 - 1) (h15 : F 344 15 = 0) : fl_M xi_ms 187 3 68 [.ref 344] (fl_H sh_T G F ++ X) (pq_187 G F X K) := by
  intro fr lo hfr hlo
  show fl_R xi_ms 187 fr lo 0 [(0, .ref 344)] [] _ _
  have hP := (rkt_p hkt hp.1 hp.2 hgK).1
  have hK16 : 0 ≤ K 1 6 ∧ K 1 6 ≤ 601 := gi_g hgK rfl
  have hko := hkt.1
  have b1_ : 0 ≤ F 344 9 ∧ F 344 9 ≤ 5 := gi_g hgi rfl
  by_cases h2_ : F 344 9 = 0
  ·
    refine fl_iconst hm_187 rfl ?_
    refine ga_istore_n (lv2 := [(1, .int (Int32.ofInt 1)), (0, .ref 344)]) hm_187 rfl (Nat.le_of_ble_eq_true rfl) rfl ?_
    have b6_ : 0 ≤ F 344 5 ∧ F 344 5 ≤ 600 := gi_g hgi rfl
    have L4_ : ∀ (n3_ : Nat) (mo : Int) (l : List Int) (F1 : fl_N), (5 - F1 344 15 : Int).toNat = n3_ → (gi F1) → (fs [(344, 344, 5, 5), (344, 344, 9, 10), (344, 344, 15, 15), (349, 349, 0, 100000)] F F1) → (F1 344 9 = 0) → (rpn (F1 349) (F1 344 15) l) → ((mo = 1 ∧ ((l.length : Int) = 0 ∨ ¬ K 3 (F1 344 5).toNat = 1)) ∨ (mo = 0 ∧ 0 < (l.length : Int) ∧ K 3 (F1 344 5).toNat = 1)) → (0 ≤ F1 344 5 ∧ F1 344 5 ≤ K 1 6 - 1) → (sp_t1 K 4 [] (F 344 5) = sp_t1 K (4 - l.length) l (F1 344 5)) → fl_R xi_ms 187 fr lo 2 [(1, .int (Int32.ofInt mo)), (0, .ref 344)] [] (fl_H sh_T G F1 ++ X) (pq_187 G F X K) := by
      intro n3_
      induction n3_ using Nat.strongRecOn with
      | ind n3_ ih5_ =>
      intro mo l F1 hn7_ hg_F1 hf_F1 hk hl hmo hp1 hsp
      have g8_ : fs [(344, 344, 5, 5), (344, 344, 9, 10), (344, 344, 15, 15), (349, 349, 0, 100000)] F F1 := fs_tr fs_refl hf_F1 rfl
      have rk9_ : rk K F1 := rk_fs hrk hf_F1 (fun r k h => (fs_n (by omega) (fs_n (by omega) (fs_n (by omega) (fs_n (by omega) rfl))))) (fs_n (by omega) (fs_n (by omega) (fs_n (by omega) (fs_n (by omega) rfl))))
      have hl1 := hl.1
      have hP1 := (rkt_p hkt (p := F1 344 5) (by omega) (by omega) hgK).1
      have hb15 : 0 ≤ F1 344 15 ∧ F1 344 15 ≤ 4 := gi_g hg_F1 rfl
      refine ga_iload_n (z := mo) hm_187 rfl rfl ?_
      refine fl_if_eq (a := mo) hm_187 rfl ⟨by omega, by omega⟩ (fun h10_ => ?_) (fun h11_ => ?_)
      ·
        refine gr_v hm_187 rfl rfl ?_
        have b12_ : 0 ≤ F1 344 9 ∧ F1 344 9 ≤ 5 := gi_g hg_F1 rfl
        have b13_ : 0 ≤ F1 344 15 ∧ F1 344 15 ≤ 4 := gi_g hg_F1 rfl
        have b14_ : 0 ≤ F1 344 5 ∧ F1 344 5 ≤ 600 := gi_g hg_F1 rfl
        exact Or.inr (⟨F1, rfl, hg_F1, g8_, (by omega), (⟨l, ⟨by rw [hsp, st1_e (by omega) (by omega)], by omega⟩, hl⟩), (by omega)⟩)
      refine ga_aload_n (v := .ref 344) hm_187 rfl rfl rfl ?_
      refine gIi (nY := 1) (F := 0) (L := 0) (As := []) (b := 344) (rest := []) hm_187 rfl hm_59 rfl rfl (fl_ob sc_344) rfl rfl rfl rfl rfl (by omega) (by omega) ?_
      intro f15_ l16_ h17_ h18_
      show fl_R xi_ms 59 f15_ l16_ 0 [(0, .ref 344)] [] _ _
      refine ga_aload_n (v := .ref 344) hm_59 rfl rfl rfl ?_
      have b19_ : 0 ≤ F1 344 9 ∧ F1 344 9 ≤ 5 := gi_g hg_F1 rfl
      refine ga_geti (z := F1 344 9) hm_59 rfl sc_344 rfl (rfl) ?_
      refine fl_if_le (a := F1 344 9) hm_59 rfl ⟨by omega, by omega⟩ (fun h20_ => ?_) (fun h21_ => ?_)
      ·
        refine fl_iconst hm_59 rfl ?_
        refine gr_i hm_59 rfl rfl (ga_nb (by omega)) ?_
        clear h17_ h18_ f15_ l16_
        refine fl_if_ne hm_187 rfl ⟨by omega, by omega⟩ (fun h => absurd h (by omega)) (fun _ => ?_)
        refine ga_aload_n (v := .ref 344) hm_187 rfl rfl rfl ?_
        have b22_ : 0 ≤ F1 344 5 ∧ F1 344 5 ≤ 600 := gi_g hg_F1 rfl
        refine gVl (nY := 3) (F := 2) (L := 46) (As := []) (b := 344) (rest := []) hm_187 rfl hm_58 rfl rfl (fl_ob sc_344) rfl rfl rfl rfl rfl (by omega) (by omega) (mc_58 hG F1 X hg_F1 (K) hgK rk9_ hkt (by omega)) (fun _ _ h => False.elim h) ?_
        have b24_ : 0 ≤ F1 344 10 ∧ F1 344 10 ≤ 600 := gi_g hg_F1 rfl
        rintro z23_ A1_ (⟨F29_, hA_, g30_, s31_, c25_, c26_, c27_, c28_⟩ | ⟨F39_, hA_, g40_, s41_, c32_, c33_, c34_, c35_, c36_, c37_, c38_⟩)
        ·
          subst hA_
          have g42_ : fs [(344, 344, 5, 5), (344, 344, 9, 10), (344, 344, 15, 15), (349, 349, 0, 100000)] F F29_ := fs_tr g8_ s31_ rfl
          have rk43_ : rk K F29_ := rk_fs rk9_ s31_ (fun r k h => (fs_n (by omega) rfl)) (fs_n (by omega) rfl)
          have c26_s := c26_.1 (by omega)
          clear c26_
          refine ga_lstore_n (lv2 := [(2, .long (Int64.ofInt z23_)), (1, .int (Int32.ofInt mo)), (0, .ref 344)]) hm_187 rfl (Nat.le_of_ble_eq_true rfl) rfl ?_
          refine ga_aload_n (v := .ref 344) hm_187 rfl rfl rfl ?_
          have e44_ : F29_ 344 15 = F1 344 15 := (s31_ 344 15 rfl).trans (rfl)
          have b45_ : 0 ≤ F1 344 15 ∧ F1 344 15 ≤ 4 := gi_g hg_F1 rfl
          refine ga_geti (z := F1 344 15) hm_187 rfl sc_344 rfl (e44_) ?_
          refine fl_iconst hm_187 rfl ?_
          refine fx_icmp_ne (a := F1 344 15) (b := 4) hm_187 rfl ⟨by omega, by omega⟩ ⟨by omega, by omega⟩ (fun h46_ => ?_) (fun h47_ => ?_)
          ·
            refine ga_aload_n (v := .ref 344) hm_187 rfl rfl rfl ?_
            refine gIi (nY := 1) (F := 0) (L := 0) (As := []) (b := 344) (rest := []) hm_187 rfl hm_59 rfl rfl (fl_ob sc_344) rfl rfl rfl rfl rfl (by omega) (by omega) ?_
            intro f48_ l49_ h50_ h51_
            show fl_R xi_ms 59 f48_ l49_ 0 [(0, .ref 344)] [] _ _
            refine ga_aload_n (v := .ref 344) hm_59 rfl rfl rfl ?_
            have b52_ : 0 ≤ F29_ 344 9 ∧ F29_ 344 9 ≤ 5 := gi_g g30_ rfl
            refine ga_geti (z := F29_ 344 9) hm_59 rfl sc_344 rfl (rfl) ?_
            refine fl_if_le (a := F29_ 344 9) hm_59 rfl ⟨by omega, by omega⟩ (fun h53_ => ?_) (fun h54_ => ?_)
            · exfalso; omega
            refine fl_iconst hm_59 rfl ?_
            refine fl_goto hm_59 rfl ?_
            refine gr_i hm_59 rfl rfl (ga_nb (by omega)) ?_
            clear h50_ h51_ f48_ l49_
            refine fl_if_ne hm_187 rfl ⟨by omega, by omega⟩ (fun _ => ?_) (fun h => absurd (by omega) h)
            refine ga_aload_n (v := .ref 344) hm_187 rfl rfl rfl ?_
            refine gIv (nY := 1) (F := 1) (L := 20) (As := []) (b := 344) (rest := []) hm_187 rfl hm_61 rfl rfl (fl_ob sc_344) rfl rfl rfl rfl rfl (by omega) (by omega) ?_
            intro f55_ l56_ h57_ h58_
            show fl_R xi_ms 61 f55_ l56_ 0 [(0, .ref 344)] [] _ _
            refine ga_aload_n (v := .ref 344) hm_61 rfl rfl rfl ?_
            refine ga_dup hm_61 rfl rfl ?_
            have e59_ : F29_ 344 5 = F1 344 5 := (s31_ 344 5 rfl).trans (rfl)
            refine ga_geti (z := F1 344 5) hm_61 rfl sc_344 rfl (e59_) ?_
            refine ga_aload_n (v := .ref 344) hm_61 rfl rfl rfl ?_
            refine gIi (nY := 1) (F := 0) (L := 0) (As := []) (b := 344) (rest := [.int (Int32.ofInt (F1 344 5)), .ref 344]) hm_61 rfl hm_59 rfl rfl (fl_ob sc_344) rfl rfl rfl rfl rfl (by omega) (by omega) ?_
            intro f60_ l61_ h62_ h63_
            show fl_R xi_ms 59 f60_ l61_ 0 [(0, .ref 344)] [] _ _
            refine ga_aload_n (v := .ref 344) hm_59 rfl rfl rfl ?_
            refine ga_geti (z := F29_ 344 9) hm_59 rfl sc_344 rfl (rfl) ?_
            refine fl_if_le (a := F29_ 344 9) hm_59 rfl ⟨by omega, by omega⟩ (fun h64_ => ?_) (fun h65_ => ?_)
            · exfalso; omega
            refine fl_iconst hm_59 rfl ?_
            refine fl_goto hm_59 rfl ?_
            refine gr_i hm_59 rfl rfl (ga_nb (by omega)) ?_
            clear h62_ h63_ f60_ l61_
            refine fl_if_eq hm_61 rfl ⟨by omega, by omega⟩ (fun h => absurd h (by omega)) (fun _ => ?_)
            refine fl_iconst hm_61 rfl ?_
            refine fl_goto hm_61 rfl ?_
            refine ga_iadd (a := F1 344 5) (b := 0) (c := F1 344 5) hm_61 rfl (by omega) ?_
            refine ga_puti (z := F1 344 5) hm_61 rfl sc_344 rfl rfl ?_
            refine gr_v hm_61 rfl rfl ?_
            clear h57_ h58_ f55_ l56_
            refine ga_aload_n (v := .ref 344) hm_187 rfl rfl rfl ?_
            refine gIi (nY := 1) (F := 0) (L := 0) (As := []) (b := 344) (rest := []) hm_187 rfl hm_59 rfl rfl (fl_ob sc_344) rfl rfl rfl rfl rfl (by omega) (by omega) ?_
            intro f66_ l67_ h68_ h69_
            show fl_R xi_ms 59 f66_ l67_ 0 [(0, .ref 344)] [] _ _
            refine ga_aload_n (v := .ref 344) hm_59 rfl rfl rfl ?_
            refine ga_geti (z := F29_ 344 9) hm_59 rfl sc_344 rfl (fl_u_ne (by omega)) ?_
            refine fl_if_le (a := F29_ 344 9) hm_59 rfl ⟨by omega, by omega⟩ (fun h70_ => ?_) (fun h71_ => ?_)
            · exfalso; omega
            refine fl_iconst hm_59 rfl ?_
            refine fl_goto hm_59 rfl ?_
            refine gr_i hm_59 rfl rfl (ga_nb (by omega)) ?_
            clear h68_ h69_ f66_ l67_
            refine fl_if_eq hm_187 rfl ⟨by omega, by omega⟩ (fun h => absurd h (by omega)) (fun _ => ?_)
            obtain ⟨F72_, q73_⟩ : ∃ F9_, F9_ = (fl_u F29_ 344 5 (F1 344 5)) := ⟨_, rfl⟩
            rw [← q73_]
            have g74_ : gi F72_ := by rw [q73_]; exact gi_u (g30_) rfl (by omega) (by omega)
            have g75_ : fs [(344, 344, 5, 5), (344, 344, 9, 10), (344, 344, 15, 15), (349, 349, 0, 100000)] F F72_ := by rw [q73_]; exact fs_u (g42_) rfl
            have rk76_ : rk K F72_ := by rw [q73_]; exact rk_u (rk43_) (by omega) (by omega)
            refine gr_v hm_187 rfl rfl ?_
            have e77_ : F72_ 344 9 = F29_ 344 9 := by rw [q73_]; exact fl_u_ne (by omega)
            have e78_ : F72_ 344 10 = F29_ 344 10 := by rw [q73_]; exact fl_u_ne (by omega)
            have e79_ : F72_ 344 5 = F1 344 5 := by rw [q73_]; exact fl_u_eq
            have b80_ : 0 ≤ F29_ 344 10 ∧ F29_ 344 10 ≤ 600 := gi_g g30_ rfl
            have b81_ : 0 ≤ F 344 10 ∧ F 344 10 ≤ 600 := gi_g hgi rfl
            exact Or.inl ⟨F72_, rfl, g74_, g75_, (by omega), (⟨by intro h0_; have hs_ := c26_s; have h1_ := nm_no hs_; rw [sp_nm, if_neg h1_] at hs_; have h2_ := Prod.mk.inj (Sum.inl.inj hs_); rw [hsp, st1_f1 (by omega) h1_]; congr 2 <;> omega, fun h0_ => by exfalso; omega⟩), (by omega)⟩
          refine ga_aload_n (v := .ref 344) hm_187 rfl rfl rfl ?_
          refine fl_iconst hm_187 rfl ?_
          have e82_ : F29_ 344 5 = F1 344 5 := (s31_ 344 5 rfl).trans (rfl)
          refine gVv (nY := 2) (F := 0) (L := 0) (As := [.int (Int32.ofInt 1)]) (b := 344) (rest := []) hm_187 rfl hm_54 rfl rfl (fl_ob sc_344) rfl rfl rfl rfl rfl (by omega) (by omega) (mc_54 hG F29_ X g30_ (K) (1) hgK rk43_ hkt (by omega) (by omega)) (fun _ _ h => False.elim h) ?_
          have b84_ : 0 ≤ F29_ 344 10 ∧ F29_ 344 10 ≤ 600 := gi_g g30_ rfl
          have b85_ : 0 ≤ F29_ 344 9 ∧ F29_ 344 9 ≤ 5 := gi_g g30_ rfl
          rintro A1_ ⟨F89_, hA_, g90_, s91_, c86_, c87_, c88_⟩
          subst hA_
          have g92_ : fs [(344, 344, 5, 5), (344, 344, 9, 10), (344, 344, 15, 15), (349, 349, 0, 100000)] F F89_ := fs_tr g42_ s91_ rfl
          have rk93_ : rk K F89_ := rk_fs rk43_ s91_ (fun r k h => (fs_n (by omega) rfl)) (fs_n (by omega) rfl)
          try simp only [e82_] at c87_
          try simp only [e82_] at c88_
          have c87_k := c87_.2 (by omega)
          clear c87_
          refine ga_aload_n (v := .ref 344) hm_187 rfl rfl rfl ?_
          refine gIi (nY := 1) (F := 0) (L := 0) (As := []) (b := 344) (rest := []) hm_187 rfl hm_59 rfl rfl (fl_ob sc_344) rfl rfl rfl rfl rfl (by omega) (by omega) ?_
          intro f94_ l95_ h96_ h97_
          show fl_R xi_ms 59 f94_ l95_ 0 [(0, .ref 344)] [] _ _
          refine ga_aload_n (v := .ref 344) hm_59 rfl rfl rfl ?_
          have b98_ : 0 ≤ F89_ 344 9 ∧ F89_ 344 9 ≤ 5 := gi_g g90_ rfl
          refine ga_geti (z := F89_ 344 9) hm_59 rfl sc_344 rfl (rfl) ?_
          refine fl_if_le (a := F89_ 344 9) hm_59 rfl ⟨by omega, by omega⟩ (fun h99_ => ?_) (fun h100_ => ?_)
          · exfalso; omega
          refine fl_iconst hm_59 rfl ?_
          refine fl_goto hm_59 rfl ?_
          refine gr_i hm_59 rfl rfl (ga_nb (by omega)) ?_
          clear h96_ h97_ f94_ l95_
          refine fl_if_ne hm_187 rfl ⟨by omega, by omega⟩ (fun _ => ?_) (fun h => absurd (by omega) h)
          refine ga_aload_n (v := .ref 344) hm_187 rfl rfl rfl ?_
          refine gIv (nY := 1) (F := 1) (L := 20) (As := []) (b := 344) (rest := []) hm_187 rfl hm_61 rfl rfl (fl_ob sc_344) rfl rfl rfl rfl rfl (by omega) (by omega) ?_
          intro f101_ l102_ h103_ h104_
          show fl_R xi_ms 61 f101_ l102_ 0 [(0, .ref 344)] [] _ _
          refine ga_aload_n (v := .ref 344) hm_61 rfl rfl rfl ?_
          refine ga_dup hm_61 rfl rfl ?_
          have e105_ : F89_ 344 5 = F1 344 5 := (s91_ 344 5 rfl).trans (e82_)
          refine ga_geti (z := F1 344 5) hm_61 rfl sc_344 rfl (e105_) ?_
          refine ga_aload_n (v := .ref 344) hm_61 rfl rfl rfl ?_
          refine gIi (nY := 1) (F := 0) (L := 0) (As := []) (b := 344) (rest := [.int (Int32.ofInt (F1 344 5)), .ref 344]) hm_61 rfl hm_59 rfl rfl (fl_ob sc_344) rfl rfl rfl rfl rfl (by omega) (by omega) ?_
          intro f106_ l107_ h108_ h109_
          show fl_R xi_ms 59 f106_ l107_ 0 [(0, .ref 344)] [] _ _
          refine ga_aload_n (v := .ref 344) hm_59 rfl rfl rfl ?_
          refine ga_geti (z := F89_ 344 9) hm_59 rfl sc_344 rfl (rfl) ?_
          refine fl_if_le (a := F89_ 344 9) hm_59 rfl ⟨by omega, by omega⟩ (fun h110_ => ?_) (fun h111_ => ?_)
          · exfalso; omega
          refine fl_iconst hm_59 rfl ?_
          refine fl_goto hm_59 rfl ?_
          refine gr_i hm_59 rfl rfl (ga_nb (by omega)) ?_
          clear h108_ h109_ f106_ l107_
          refine fl_if_eq hm_61 rfl ⟨by omega, by omega⟩ (fun h => absurd h (by omega)) (fun _ => ?_)
          refine fl_iconst hm_61 rfl ?_
          refine fl_goto hm_61 rfl ?_
          refine ga_iadd (a := F1 344 5) (b := 0) (c := F1 344 5) hm_61 rfl (by omega) ?_
          refine ga_puti (z := F1 344 5) hm_61 rfl sc_344 rfl rfl ?_
          refine gr_v hm_61 rfl rfl ?_
          clear h103_ h104_ f101_ l102_
          refine ga_aload_n (v := .ref 344) hm_187 rfl rfl rfl ?_
          refine gIi (nY := 1) (F := 0) (L := 0) (As := []) (b := 344) (rest := []) hm_187 rfl hm_59 rfl rfl (fl_ob sc_344) rfl rfl rfl rfl rfl (by omega) (by omega) ?_
          intro f112_ l113_ h114_ h115_
          show fl_R xi_ms 59 f112_ l113_ 0 [(0, .ref 344)] [] _ _
          refine ga_aload_n (v := .ref 344) hm_59 rfl rfl rfl ?_
          refine ga_geti (z := F89_ 344 9) hm_59 rfl sc_344 rfl (fl_u_ne (by omega)) ?_
          refine fl_if_le (a := F89_ 344 9) hm_59 rfl ⟨by omega, by omega⟩ (fun h116_ => ?_) (fun h117_ => ?_)
          · exfalso; omega
          refine fl_iconst hm_59 rfl ?_
          refine fl_goto hm_59 rfl ?_
          refine gr_i hm_59 rfl rfl (ga_nb (by omega)) ?_
          clear h114_ h115_ f112_ l113_
          refine fl_if_eq hm_187 rfl ⟨by omega, by omega⟩ (fun h => absurd h (by omega)) (fun _ => ?_)
          obtain ⟨F118_, q119_⟩ : ∃ F9_, F9_ = (fl_u F89_ 344 5 (F1 344 5)) := ⟨_, rfl⟩
          rw [← q119_]
          have g120_ : gi F118_ := by rw [q119_]; exact gi_u (g90_) rfl (by omega) (by omega)
          have g121_ : fs [(344, 344, 5, 5), (344, 344, 9, 10), (344, 344, 15, 15), (349, 349, 0, 100000)] F F118_ := by rw [q119_]; exact fs_u (g92_) rfl
          have rk122_ : rk K F118_ := by rw [q119_]; exact rk_u (rk93_) (by omega) (by omega)
          refine gr_v hm_187 rfl rfl ?_
          have e123_ : F118_ 344 9 = F89_ 344 9 := by rw [q119_]; exact fl_u_ne (by omega)
          have e124_ : F118_ 344 10 = F89_ 344 10 := by rw [q119_]; exact fl_u_ne (by omega)
          have e125_ : F118_ 344 5 = F1 344 5 := by rw [q119_]; exact fl_u_eq
          have b126_ : 0 ≤ F89_ 344 10 ∧ F89_ 344 10 ≤ 600 := gi_g g90_ rfl
          have b127_ : 0 ≤ F 344 10 ∧ F 344 10 ≤ 600 := gi_g hgi rfl
          exact Or.inl ⟨F118_, rfl, g120_, g121_, (by omega), (⟨by intro h0_; have hs_ := c26_s; have h1_ := nm_no hs_; rw [sp_nm, if_neg h1_] at hs_; have h2_ := Prod.mk.inj (Sum.inl.inj hs_); rw [hsp, st1_f1 (by omega) h1_]; congr 2 <;> omega, fun h0_ => by exfalso; omega⟩), (by omega)⟩
        subst hA_
        have g128_ : fs [(344, 344, 5, 5), (344, 344, 9, 10), (344, 344, 15, 15), (349, 349, 0, 100000)] F F39_ := fs_tr g8_ s41_ rfl
        have rk129_ : rk K F39_ := rk_fs rk9_ s41_ (fun r k h => (fs_n (by omega) rfl)) (fs_n (by omega) rfl)
        refine ga_lstore_n (lv2 := [(2, .long (Int64.ofInt z23_)), (1, .int (Int32.ofInt mo)), (0, .ref 344)]) hm_187 rfl (Nat.le_of_ble_eq_true rfl) rfl ?_
        refine ga_aload_n (v := .ref 344) hm_187 rfl rfl rfl ?_
        have e130_ : F39_ 344 15 = F1 344 15 := (s41_ 344 15 rfl).trans (rfl)
        have b131_ : 0 ≤ F1 344 15 ∧ F1 344 15 ≤ 4 := gi_g hg_F1 rfl
        refine ga_geti (z := F1 344 15) hm_187 rfl sc_344 rfl (e130_) ?_
        refine fl_iconst hm_187 rfl ?_
        refine fx_icmp_ne (a := F1 344 15) (b := 4) hm_187 rfl ⟨by omega, by omega⟩ ⟨by omega, by omega⟩ (fun h132_ => ?_) (fun h133_ => ?_)
        ·
          refine ga_aload_n (v := .ref 344) hm_187 rfl rfl rfl ?_
          refine gIi (nY := 1) (F := 0) (L := 0) (As := []) (b := 344) (rest := []) hm_187 rfl hm_59 rfl rfl (fl_ob sc_344) rfl rfl rfl rfl rfl (by omega) (by omega) ?_
          intro f134_ l135_ h136_ h137_
          show fl_R xi_ms 59 f134_ l135_ 0 [(0, .ref 344)] [] _ _
          refine ga_aload_n (v := .ref 344) hm_59 rfl rfl rfl ?_
          have b138_ : 0 ≤ F39_ 344 9 ∧ F39_ 344 9 ≤ 5 := gi_g g40_ rfl
          refine ga_geti (z := F39_ 344 9) hm_59 rfl sc_344 rfl (rfl) ?_
          refine fl_if_le (a := F39_ 344 9) hm_59 rfl ⟨by omega, by omega⟩ (fun h139_ => ?_) (fun h140_ => ?_)
          ·
            refine fl_iconst hm_59 rfl ?_
            refine gr_i hm_59 rfl rfl (ga_nb (by omega)) ?_
            clear h136_ h137_ f134_ l135_
            refine fl_if_ne hm_187 rfl ⟨by omega, by omega⟩ (fun h => absurd h (by omega)) (fun _ => ?_)
            refine ga_aload_n (v := .ref 344) hm_187 rfl rfl rfl ?_
            refine ga_getr (b := 349) hm_187 rfl sc_344 rfl ?_
            refine fl_iconst hm_187 rfl ?_
            refine ga_aload_n (v := .ref 344) hm_187 rfl rfl rfl ?_
            refine ga_geti (z := F1 344 15) hm_187 rfl sc_344 rfl (e130_) ?_
            refine ga_lload_n (z := z23_) hm_187 rfl rfl ?_
            refine gSi (nY := 7) (F := 0) (L := 0) (As := [.ref 349, .int (Int32.ofInt 0), .int (Int32.ofInt (F1 344 15)), .long (Int64.ofInt z23_)]) (rest := []) hm_187 rfl hm_162 rfl rfl (fl_pos sc_0) rfl rfl rfl rfl (by omega) (by omega) (mc_162 hG F39_ X g40_ (349) (5) (0) (F1 344 15) (z23_) sc_349 (fun _ => rfl) (by omega) (by omega))  ?_
            rintro z141_ A1_ ⟨hA_, c142_, c143_, c144_⟩
            subst hA_
            refine fl_iconst hm_187 rfl ?_
            refine fl_icmp_eq (a := z141_) (b := -1) hm_187 rfl ⟨by omega, by omega⟩ ⟨by omega, by omega⟩ (fun h145_ => ?_) (fun h146_ => ?_)
            ·
              refine ga_aload_n (v := .ref 344) hm_187 rfl rfl rfl ?_
              refine gIv (nY := 1) (F := 1) (L := 20) (As := []) (b := 344) (rest := []) hm_187 rfl hm_61 rfl rfl (fl_ob sc_344) rfl rfl rfl rfl rfl (by omega) (by omega) ?_
              intro f147_ l148_ h149_ h150_
              show fl_R xi_ms 61 f147_ l148_ 0 [(0, .ref 344)] [] _ _
              refine ga_aload_n (v := .ref 344) hm_61 rfl rfl rfl ?_
              refine ga_dup hm_61 rfl rfl ?_
              have e151_ : F39_ 344 5 = F1 344 5 := (s41_ 344 5 rfl).trans (rfl)
              refine ga_geti (z := F1 344 5) hm_61 rfl sc_344 rfl (e151_) ?_
              refine ga_aload_n (v := .ref 344) hm_61 rfl rfl rfl ?_
              refine gIi (nY := 1) (F := 0) (L := 0) (As := []) (b := 344) (rest := [.int (Int32.ofInt (F1 344 5)), .ref 344]) hm_61 rfl hm_59 rfl rfl (fl_ob sc_344) rfl rfl rfl rfl rfl (by omega) (by omega) ?_
              intro f152_ l153_ h154_ h155_
              show fl_R xi_ms 59 f152_ l153_ 0 [(0, .ref 344)] [] _ _
              refine ga_aload_n (v := .ref 344) hm_59 rfl rfl rfl ?_
              refine ga_geti (z := F39_ 344 9) hm_59 rfl sc_344 rfl (rfl) ?_
              refine fl_if_le (a := F39_ 344 9) hm_59 rfl ⟨by omega, by omega⟩ (fun h156_ => ?_) (fun h157_ => ?_)
              ·
                refine fl_iconst hm_59 rfl ?_
                refine gr_i hm_59 rfl rfl (ga_nb (by omega)) ?_
                clear h154_ h155_ f152_ l153_
                refine fl_if_eq hm_61 rfl ⟨by omega, by omega⟩ (fun _ => ?_) (fun h => absurd (by omega) h)
                refine fl_iconst hm_61 rfl ?_
                refine ga_iadd (a := F1 344 5) (b := 1) (c := F1 344 5 + 1) hm_61 rfl (by omega) ?_
                refine ga_puti (z := F1 344 5 + 1) hm_61 rfl sc_344 rfl rfl ?_
                refine gr_v hm_61 rfl rfl ?_
                clear h149_ h150_ f147_ l148_
                refine ga_aload_n (v := .ref 344) hm_187 rfl rfl rfl ?_
                refine gIi (nY := 1) (F := 0) (L := 0) (As := []) (b := 344) (rest := []) hm_187 rfl hm_59 rfl rfl (fl_ob sc_344) rfl rfl rfl rfl rfl (by omega) (by omega) ?_
                intro f158_ l159_ h160_ h161_
                show fl_R xi_ms 59 f158_ l159_ 0 [(0, .ref 344)] [] _ _
                refine ga_aload_n (v := .ref 344) hm_59 rfl rfl rfl ?_
                refine ga_geti (z := F39_ 344 9) hm_59 rfl sc_344 rfl (fl_u_ne (by omega)) ?_
                refine fl_if_le (a := F39_ 344 9) hm_59 rfl ⟨by omega, by omega⟩ (fun h162_ => ?_) (fun h163_ => ?_)
                ·
                  refine fl_iconst hm_59 rfl ?_
                  refine gr_i hm_59 rfl rfl (ga_nb (by omega)) ?_
                  clear h160_ h161_ f158_ l159_
                  refine fl_if_eq hm_187 rfl ⟨by omega, by omega⟩ (fun _ => ?_) (fun h => absurd (by omega) h)
                  refine ga_aload_n (v := .ref 344) hm_187 rfl rfl rfl ?_
                  refine ga_getr (b := 349) hm_187 rfl sc_344 rfl ?_
                  refine ga_aload_n (v := .ref 344) hm_187 rfl rfl rfl ?_
                  refine ga_geti (z := F1 344 15) hm_187 rfl sc_344 rfl ((fl_u_ne (by omega)).trans (e130_)) ?_
                  refine ga_lload_n (z := z23_) hm_187 rfl rfl ?_
                  refine fl_last (z := F1 344 15) (v := z23_) hm_187 rfl sc_349 (by omega) (by omega) (by omega) ?_
                  refine ga_aload_n (v := .ref 344) hm_187 rfl rfl rfl ?_
                  refine ga_dup hm_187 rfl rfl ?_
                  refine ga_geti (z := F1 344 15) hm_187 rfl sc_344 rfl ((fl_u_ne (by omega)).trans ((fl_u_ne (by omega)).trans (e130_))) ?_
                  refine fl_iconst hm_187 rfl ?_
                  refine ga_iadd (a := F1 344 15) (b := 1) (c := F1 344 15 + 1) hm_187 rfl (by omega) ?_
                  refine ga_puti (z := F1 344 15 + 1) hm_187 rfl sc_344 rfl rfl ?_
                  refine ga_aload_n (v := .ref 344) hm_187 rfl rfl rfl ?_
                  refine fl_bipush hm_187 rfl rfl ?_
                  obtain ⟨F164_, q165_⟩ : ∃ F9_, F9_ = (fl_u (fl_u (fl_u F39_ 344 5 (F1 344 5 + 1)) 349 (F1 344 15).toNat z23_) 344 15 (F1 344 15 + 1)) := ⟨_, rfl⟩
                  rw [← q165_]
                  have g166_ : gi F164_ := by rw [q165_]; exact gi_u (gi_u (gi_u (g40_) rfl (by omega) (by omega)) rfl (by omega) (by omega)) rfl (by omega) (by omega)
                  have g167_ : fs [(344, 344, 5, 5), (344, 344, 9, 10), (344, 344, 15, 15), (349, 349, 0, 100000)] F F164_ := by rw [q165_]; exact fs_u (fs_u (fs_u (g128_) rfl) (fs_z (fs_z (fs_z (fs_y (by omega)))))) rfl
                  have rk168_ : rk K F164_ := by rw [q165_]; exact rk_u (rk_u (rk_u (rk129_) (by omega) (by omega)) (by omega) (by omega)) (by omega) (by omega)
                  have e169_ : F164_ 344 5 = F1 344 5 + 1 := by rw [q165_]; exact (fl_u_ne (by omega)).trans ((fl_u_ne (by omega)).trans (fl_u_eq))
                  refine gVi (nY := 2) (F := 1) (L := 20) (As := [.int (Int32.ofInt 41)]) (b := 344) (rest := []) hm_187 rfl hm_52 rfl rfl (fl_ob sc_344) rfl rfl rfl rfl rfl (by omega) (by omega) (mc_52 hG F164_ X g166_ (K) (41) hgK rk168_ hkt (by omega) (by omega)) (fun _ _ h => False.elim h) ?_
                  have e171_ : F164_ 344 9 = F39_ 344 9 := by rw [q165_]; exact (fl_u_ne (by omega)).trans ((fl_u_ne (by omega)).trans (fl_u_ne (by omega)))
                  rintro z170_ A1_ (⟨hA_, hz_, c172_⟩ | ⟨hA_, hz_, c173_, c174_⟩)
                  ·
                    subst hA_
                    subst hz_
                    try simp only [e169_, e171_] at c172_
                    refine fl_if_ne hm_187 rfl ⟨by omega, by omega⟩ (fun h => absurd h (by omega)) (fun _ => ?_)
                    refine fl_iconst hm_187 rfl ?_
                    refine fl_goto hm_187 rfl ?_
                    refine ga_istore_n (lv2 := [(1, .int (Int32.ofInt 1)), (2, .long (Int64.ofInt z23_)), (0, .ref 344)]) hm_187 rfl (Nat.le_of_ble_eq_true rfl) rfl ?_
                    refine fl_goto hm_187 rfl ?_
                    have e175_ : F164_ 344 15 = F1 344 15 + 1 := by rw [q165_]; exact fl_u_eq
                    have b176_ : 0 ≤ K 1 6 ∧ K 1 6 ≤ 601 := gi_g hgK rfl
                    exact fl_R_sub (lv' := [(1, .int (Int32.ofInt 1)), (0, .ref 344)]) rfl rfl (ih5_ _ (by omega) (1) (_) F164_ rfl g166_ (by rw [q165_]; exact fs_u (fs_u (fs_u ((fs_tr hf_F1 s41_ rfl)) rfl) (fs_z (fs_z (fs_z (fs_y (by omega)))))) rfl) (by omega) (by rw [q165_]; exact rpn_put (rpn_u (rpn_fs hl s41_ (fun _ => (fs_n (by omega) rfl)) (fs_n (by omega) rfl)) (by omega) (by omega)) ((fl_u_ne (by omega)).trans (e130_)) c35_) (Or.inl ⟨rfl, Or.inr (by rw [e169_]; omega)⟩) (by omega) (by rw [hsp, st1_step (by omega) (by omega) (by omega) (ra_fi (by have x_ := (rpn_fs hl s41_ (fun _ => (fs_n (by omega) rfl)) (fs_n (by omega) rfl)); rw [e130_] at x_; exact x_) c35_ c142_ c143_ c144_) (by omega) (by omega)]; congr 1; (simp only [List.length_append, List.length_singleton]; try omega); try omega))
                  subst hA_
                  subst hz_
                  try simp only [e169_, e171_] at c173_
                  try simp only [e169_] at c174_
                  refine fl_if_ne hm_187 rfl ⟨by omega, by omega⟩ (fun _ => ?_) (fun h => absurd (by omega) h)
                  refine fl_iconst hm_187 rfl ?_
                  refine ga_istore_n (lv2 := [(1, .int (Int32.ofInt 0)), (2, .long (Int64.ofInt z23_)), (0, .ref 344)]) hm_187 rfl (Nat.le_of_ble_eq_true rfl) rfl ?_
                  refine fl_goto hm_187 rfl ?_
                  have e177_ : F164_ 344 15 = F1 344 15 + 1 := by rw [q165_]; exact fl_u_eq
                  have b178_ : 0 ≤ K 1 6 ∧ K 1 6 ≤ 601 := gi_g hgK rfl
                  exact fl_R_sub (lv' := [(1, .int (Int32.ofInt 0)), (0, .ref 344)]) rfl rfl (ih5_ _ (by omega) (0) (_) F164_ rfl g166_ (by rw [q165_]; exact fs_u (fs_u (fs_u ((fs_tr hf_F1 s41_ rfl)) rfl) (fs_z (fs_z (fs_z (fs_y (by omega)))))) rfl) (by omega) (by rw [q165_]; exact rpn_put (rpn_u (rpn_fs hl s41_ (fun _ => (fs_n (by omega) rfl)) (fs_n (by omega) rfl)) (by omega) (by omega)) ((fl_u_ne (by omega)).trans (e130_)) c35_) (Or.inr ⟨rfl, by simp only [List.length_append, List.length_singleton]; omega, by rw [e169_]; omega⟩) (by omega) (by rw [hsp, st1_step (by omega) (by omega) (by omega) (ra_fi (by have x_ := (rpn_fs hl s41_ (fun _ => (fs_n (by omega) rfl)) (fs_n (by omega) rfl)); rw [e130_] at x_; exact x_) c35_ c142_ c143_ c144_) (by omega) (by omega)]; congr 1; (simp only [List.length_append, List.length_singleton]; try omega); try omega))
                exfalso; omega
              exfalso; omega
            refine ga_aload_n (v := .ref 344) hm_187 rfl rfl rfl ?_
            refine fl_iconst hm_187 rfl ?_
            have e179_ : F39_ 344 5 = F1 344 5 := (s41_ 344 5 rfl).trans (rfl)
            refine gVv (nY := 2) (F := 0) (L := 0) (As := [.int (Int32.ofInt 2)]) (b := 344) (rest := []) hm_187 rfl hm_54 rfl rfl (fl_ob sc_344) rfl rfl rfl rfl rfl (by omega) (by omega) (mc_54 hG F39_ X g40_ (K) (2) hgK rk129_ hkt (by omega) (by omega)) (fun _ _ h => False.elim h) ?_
            have b181_ : 0 ≤ F39_ 344 10 ∧ F39_ 344 10 ≤ 600 := gi_g g40_ rfl
            rintro A1_ ⟨F185_, hA_, g186_, s187_, c182_, c183_, c184_⟩
            subst hA_
            have g188_ : fs [(344, 344, 5, 5), (344, 344, 9, 10), (344, 344, 15, 15), (349, 349, 0, 100000)] F F185_ := fs_tr g128_ s187_ rfl
            have rk189_ : rk K F185_ := rk_fs rk129_ s187_ (fun r k h => (fs_n (by omega) rfl)) (fs_n (by omega) rfl)
            try simp only [e179_] at c183_
            try simp only [e179_] at c184_
            have c183_s := c183_.1 (by omega)
            clear c183_
            refine ga_aload_n (v := .ref 344) hm_187 rfl rfl rfl ?_
            refine gIv (nY := 1) (F := 1) (L := 20) (As := []) (b := 344) (rest := []) hm_187 rfl hm_61 rfl rfl (fl_ob sc_344) rfl rfl rfl rfl rfl (by omega) (by omega) ?_
            intro f190_ l191_ h192_ h193_
            show fl_R xi_ms 61 f190_ l191_ 0 [(0, .ref 344)] [] _ _
            refine ga_aload_n (v := .ref 344) hm_61 rfl rfl rfl ?_
            refine ga_dup hm_61 rfl rfl ?_
            have e194_ : F185_ 344 5 = F1 344 5 := (s187_ 344 5 rfl).trans (e179_)
            refine ga_geti (z := F1 344 5) hm_61 rfl sc_344 rfl (e194_) ?_
            refine ga_aload_n (v := .ref 344) hm_61 rfl rfl rfl ?_
            refine gIi (nY := 1) (F := 0) (L := 0) (As := []) (b := 344) (rest := [.int (Int32.ofInt (F1 344 5)), .ref 344]) hm_61 rfl hm_59 rfl rfl (fl_ob sc_344) rfl rfl rfl rfl rfl (by omega) (by omega) ?_
            intro f195_ l196_ h197_ h198_
            show fl_R xi_ms 59 f195_ l196_ 0 [(0, .ref 344)] [] _ _
            refine ga_aload_n (v := .ref 344) hm_59 rfl rfl rfl ?_
            have b199_ : 0 ≤ F185_ 344 9 ∧ F185_ 344 9 ≤ 5 := gi_g g186_ rfl
            refine ga_geti (z := F185_ 344 9) hm_59 rfl sc_344 rfl (rfl) ?_
            refine fl_if_le (a := F185_ 344 9) hm_59 rfl ⟨by omega, by omega⟩ (fun h200_ => ?_) (fun h201_ => ?_)
            · exfalso; omega
            refine fl_iconst hm_59 rfl ?_
            refine fl_goto hm_59 rfl ?_
            refine gr_i hm_59 rfl rfl (ga_nb (by omega)) ?_
            clear h197_ h198_ f195_ l196_
            refine fl_if_eq hm_61 rfl ⟨by omega, by omega⟩ (fun h => absurd h (by omega)) (fun _ => ?_)
            refine fl_iconst hm_61 rfl ?_
            refine fl_goto hm_61 rfl ?_
            refine ga_iadd (a := F1 344 5) (b := 0) (c := F1 344 5) hm_61 rfl (by omega) ?_
            refine ga_puti (z := F1 344 5) hm_61 rfl sc_344 rfl rfl ?_
            refine gr_v hm_61 rfl rfl ?_
            clear h192_ h193_ f190_ l191_
            refine ga_aload_n (v := .ref 344) hm_187 rfl rfl rfl ?_
            refine gIi (nY := 1) (F := 0) (L := 0) (As := []) (b := 344) (rest := []) hm_187 rfl hm_59 rfl rfl (fl_ob sc_344) rfl rfl rfl rfl rfl (by omega) (by omega) ?_
            intro f202_ l203_ h204_ h205_
            show fl_R xi_ms 59 f202_ l203_ 0 [(0, .ref 344)] [] _ _
            refine ga_aload_n (v := .ref 344) hm_59 rfl rfl rfl ?_
            refine ga_geti (z := F185_ 344 9) hm_59 rfl sc_344 rfl (fl_u_ne (by omega)) ?_
            refine fl_if_le (a := F185_ 344 9) hm_59 rfl ⟨by omega, by omega⟩ (fun h206_ => ?_) (fun h207_ => ?_)
            · exfalso; omega
            refine fl_iconst hm_59 rfl ?_
            refine fl_goto hm_59 rfl ?_
            refine gr_i hm_59 rfl rfl (ga_nb (by omega)) ?_
            clear h204_ h205_ f202_ l203_
            refine fl_if_eq hm_187 rfl ⟨by omega, by omega⟩ (fun h => absurd h (by omega)) (fun _ => ?_)
            obtain ⟨F208_, q209_⟩ : ∃ F9_, F9_ = (fl_u F185_ 344 5 (F1 344 5)) := ⟨_, rfl⟩
            rw [← q209_]
            have g210_ : gi F208_ := by rw [q209_]; exact gi_u (g186_) rfl (by omega) (by omega)
            have g211_ : fs [(344, 344, 5, 5), (344, 344, 9, 10), (344, 344, 15, 15), (349, 349, 0, 100000)] F F208_ := by rw [q209_]; exact fs_u (g188_) rfl
            have rk212_ : rk K F208_ := by rw [q209_]; exact rk_u (rk189_) (by omega) (by omega)
            refine gr_v hm_187 rfl rfl ?_
            have e213_ : F208_ 344 9 = F185_ 344 9 := by rw [q209_]; exact fl_u_ne (by omega)
            have e214_ : F208_ 344 10 = F185_ 344 10 := by rw [q209_]; exact fl_u_ne (by omega)
            have e215_ : F208_ 344 5 = F1 344 5 := by rw [q209_]; exact fl_u_eq
            have b216_ : 0 ≤ F185_ 344 10 ∧ F185_ 344 10 ≤ 600 := gi_g g186_ rfl
            have b217_ : 0 ≤ F 344 10 ∧ F 344 10 ≤ 600 := gi_g hgi rfl
            exact Or.inl ⟨F208_, rfl, g210_, g211_, (by omega), (⟨by intro h0_; have hs_ := c183_s; rw [hsp, st1_f2 (by omega) (by omega) (by omega) (ra_fi (by have x_ := (rpn_fs hl s41_ (fun _ => (fs_n (by omega) rfl)) (fs_n (by omega) rfl)); rw [e130_] at x_; exact x_) c35_ c142_ c143_ c144_) (by omega)]; congr 2 <;> omega, fun h0_ => by exfalso; omega⟩), (by omega)⟩
          exfalso; omega
        refine ga_aload_n (v := .ref 344) hm_187 rfl rfl rfl ?_
        refine fl_iconst hm_187 rfl ?_
        have e218_ : F39_ 344 5 = F1 344 5 := (s41_ 344 5 rfl).trans (rfl)
        refine gVv (nY := 2) (F := 0) (L := 0) (As := [.int (Int32.ofInt 1)]) (b := 344) (rest := []) hm_187 rfl hm_54 rfl rfl (fl_ob sc_344) rfl rfl rfl rfl rfl (by omega) (by omega) (mc_54 hG F39_ X g40_ (K) (1) hgK rk129_ hkt (by omega) (by omega)) (fun _ _ h => False.elim h) ?_
        have b220_ : 0 ≤ F39_ 344 10 ∧ F39_ 344 10 ≤ 600 := gi_g g40_ rfl
        have b221_ : 0 ≤ F39_ 344 9 ∧ F39_ 344 9 ≤ 5 := gi_g g40_ rfl
        rintro A1_ ⟨F225_, hA_, g226_, s227_, c222_, c223_, c224_⟩
        subst hA_
        have g228_ : fs [(344, 344, 5, 5), (344, 344, 9, 10), (344, 344, 15, 15), (349, 349, 0, 100000)] F F225_ := fs_tr g128_ s227_ rfl
        have rk229_ : rk K F225_ := rk_fs rk129_ s227_ (fun r k h => (fs_n (by omega) rfl)) (fs_n (by omega) rfl)
        try simp only [e218_] at c223_
        try simp only [e218_] at c224_
        have c223_s := c223_.1 (by omega)
        clear c223_
        refine ga_aload_n (v := .ref 344) hm_187 rfl rfl rfl ?_
        refine gIi (nY := 1) (F := 0) (L := 0) (As := []) (b := 344) (rest := []) hm_187 rfl hm_59 rfl rfl (fl_ob sc_344) rfl rfl rfl rfl rfl (by omega) (by omega) ?_
        intro f230_ l231_ h232_ h233_
        show fl_R xi_ms 59 f230_ l231_ 0 [(0, .ref 344)] [] _ _
        refine ga_aload_n (v := .ref 344) hm_59 rfl rfl rfl ?_
        have b234_ : 0 ≤ F225_ 344 9 ∧ F225_ 344 9 ≤ 5 := gi_g g226_ rfl
        refine ga_geti (z := F225_ 344 9) hm_59 rfl sc_344 rfl (rfl) ?_
        refine fl_if_le (a := F225_ 344 9) hm_59 rfl ⟨by omega, by omega⟩ (fun h235_ => ?_) (fun h236_ => ?_)
        · exfalso; omega
        refine fl_iconst hm_59 rfl ?_
        refine fl_goto hm_59 rfl ?_
        refine gr_i hm_59 rfl rfl (ga_nb (by omega)) ?_
        clear h232_ h233_ f230_ l231_
        refine fl_if_ne hm_187 rfl ⟨by omega, by omega⟩ (fun _ => ?_) (fun h => absurd (by omega) h)
        refine ga_aload_n (v := .ref 344) hm_187 rfl rfl rfl ?_
        refine gIv (nY := 1) (F := 1) (L := 20) (As := []) (b := 344) (rest := []) hm_187 rfl hm_61 rfl rfl (fl_ob sc_344) rfl rfl rfl rfl rfl (by omega) (by omega) ?_
        intro f237_ l238_ h239_ h240_
        show fl_R xi_ms 61 f237_ l238_ 0 [(0, .ref 344)] [] _ _
        refine ga_aload_n (v := .ref 344) hm_61 rfl rfl rfl ?_
        refine ga_dup hm_61 rfl rfl ?_
        have e241_ : F225_ 344 5 = F1 344 5 := (s227_ 344 5 rfl).trans (e218_)
        refine ga_geti (z := F1 344 5) hm_61 rfl sc_344 rfl (e241_) ?_
        refine ga_aload_n (v := .ref 344) hm_61 rfl rfl rfl ?_
        refine gIi (nY := 1) (F := 0) (L := 0) (As := []) (b := 344) (rest := [.int (Int32.ofInt (F1 344 5)), .ref 344]) hm_61 rfl hm_59 rfl rfl (fl_ob sc_344) rfl rfl rfl rfl rfl (by omega) (by omega) ?_
        intro f242_ l243_ h244_ h245_
        show fl_R xi_ms 59 f242_ l243_ 0 [(0, .ref 344)] [] _ _
        refine ga_aload_n (v := .ref 344) hm_59 rfl rfl rfl ?_
        refine ga_geti (z := F225_ 344 9) hm_59 rfl sc_344 rfl (rfl) ?_
        refine fl_if_le (a := F225_ 344 9) hm_59 rfl ⟨by omega, by omega⟩ (fun h246_ => ?_) (fun h247_ => ?_)
        · exfalso; omega
        refine fl_iconst hm_59 rfl ?_
        refine fl_goto hm_59 rfl ?_
        refine gr_i hm_59 rfl rfl (ga_nb (by omega)) ?_
        clear h244_ h245_ f242_ l243_
        refine fl_if_eq hm_61 rfl ⟨by omega, by omega⟩ (fun h => absurd h (by omega)) (fun _ => ?_)
        refine fl_iconst hm_61 rfl ?_
        refine fl_goto hm_61 rfl ?_
        refine ga_iadd (a := F1 344 5) (b := 0) (c := F1 344 5) hm_61 rfl (by omega) ?_
        refine ga_puti (z := F1 344 5) hm_61 rfl sc_344 rfl rfl ?_
        refine gr_v hm_61 rfl rfl ?_
        clear h239_ h240_ f237_ l238_
        refine ga_aload_n (v := .ref 344) hm_187 rfl rfl rfl ?_
        refine gIi (nY := 1) (F := 0) (L := 0) (As := []) (b := 344) (rest := []) hm_187 rfl hm_59 rfl rfl (fl_ob sc_344) rfl rfl rfl rfl rfl (by omega) (by omega) ?_
        intro f248_ l249_ h250_ h251_
        show fl_R xi_ms 59 f248_ l249_ 0 [(0, .ref 344)] [] _ _
        refine ga_aload_n (v := .ref 344) hm_59 rfl rfl rfl ?_
        refine ga_geti (z := F225_ 344 9) hm_59 rfl sc_344 rfl (fl_u_ne (by omega)) ?_
        refine fl_if_le (a := F225_ 344 9) hm_59 rfl ⟨by omega, by omega⟩ (fun h252_ => ?_) (fun h253_ => ?_)
        · exfalso; omega
        refine fl_iconst hm_59 rfl ?_
        refine fl_goto hm_59 rfl ?_
        refine gr_i hm_59 rfl rfl (ga_nb (by omega)) ?_
        clear h250_ h251_ f248_ l249_
        refine fl_if_eq hm_187 rfl ⟨by omega, by omega⟩ (fun h => absurd h (by omega)) (fun _ => ?_)
        obtain ⟨F254_, q255_⟩ : ∃ F9_, F9_ = (fl_u F225_ 344 5 (F1 344 5)) := ⟨_, rfl⟩
        rw [← q255_]
        have g256_ : gi F254_ := by rw [q255_]; exact gi_u (g226_) rfl (by omega) (by omega)
        have g257_ : fs [(344, 344, 5, 5), (344, 344, 9, 10), (344, 344, 15, 15), (349, 349, 0, 100000)] F F254_ := by rw [q255_]; exact fs_u (g228_) rfl
        have rk258_ : rk K F254_ := by rw [q255_]; exact rk_u (rk229_) (by omega) (by omega)
        refine gr_v hm_187 rfl rfl ?_
        have e259_ : F254_ 344 9 = F225_ 344 9 := by rw [q255_]; exact fl_u_ne (by omega)
        have e260_ : F254_ 344 10 = F225_ 344 10 := by rw [q255_]; exact fl_u_ne (by omega)
        have e261_ : F254_ 344 5 = F1 344 5 := by rw [q255_]; exact fl_u_eq
        have b262_ : 0 ≤ F225_ 344 10 ∧ F225_ 344 10 ≤ 600 := gi_g g226_ rfl
        have b263_ : 0 ≤ F 344 10 ∧ F 344 10 ≤ 600 := gi_g hgi rfl
        exact Or.inl ⟨F254_, rfl, g256_, g257_, (by omega), (⟨by intro h0_; have hs_ := c223_s; rw [hsp, st1_f4 (by omega) (by omega)]; congr 2 <;> omega, fun h0_ => by exfalso; omega⟩), (by omega)⟩
      exfalso; omega
    have b264_ : 0 ≤ F 344 15 ∧ F 344 15 ≤ 4 := gi_g hgi rfl
    have b265_ : 0 ≤ K 1 6 ∧ K 1 6 ≤ 601 := gi_g hgK rfl
    exact L4_ _ (1) ([]) F rfl hgi fs_refl (by omega) (rpn_0 h15) (Or.inl ⟨rfl, Or.inl rfl⟩) (by omega) (rfl)
  refine fl_iconst hm_187 rfl ?_
  refine ga_istore_n (lv2 := [(1, .int (Int32.ofInt 1)), (0, .ref 344)]) hm_187 rfl (Nat.le_of_ble_eq_true rfl) rfl ?_
  refine ga_iload_n (z := 1) hm_187 rfl rfl ?_
  refine fl_if_eq hm_187 rfl ⟨by omega, by omega⟩ (fun h => absurd h (by omega)) (fun _ => ?_)
  refine ga_aload_n (v := .ref 344) hm_187 rfl rfl rfl ?_
  refine gIi (nY := 1) (F := 0) (L := 0) (As := []) (b := 344) (rest := []) hm_187 rfl hm_59 rfl rfl (fl_ob sc_344) rfl rfl rfl rfl rfl (by omega) (by omega) ?_
  intro f266_ l267_ h268_ h269_
  show fl_R xi_ms 59 f266_ l267_ 0 [(0, .ref 344)] [] _ _
  refine ga_aload_n (v := .ref 344) hm_59 rfl rfl rfl ?_
  refine ga_geti (z := F 344 9) hm_59 rfl sc_344 rfl (rfl) ?_
  refine fl_if_le (a := F 344 9) hm_59 rfl ⟨by omega, by omega⟩ (fun h270_ => ?_) (fun h271_ => ?_)
  · exfalso; omega
  refine fl_iconst hm_59 rfl ?_
  refine fl_goto hm_59 rfl ?_
  refine gr_i hm_59 rfl rfl (ga_nb (by omega)) ?_
  clear h268_ h269_ f266_ l267_
  refine fl_if_ne hm_187 rfl ⟨by omega, by omega⟩ (fun _ => ?_) (fun h => absurd (by omega) h)
  refine gr_v hm_187 rfl rfl ?_
  have b272_ : 0 ≤ F 344 10 ∧ F 344 10 ≤ 600 := gi_g hgi rfl
  have b273_ : 0 ≤ F 344 5 ∧ F 344 5 ≤ 600 := gi_g hgi rfl
  exact Or.inl ⟨F, rfl, hgi, fs_refl, (by omega), (⟨fun h0_ => by exfalso; omega, fun h0_ => by constructor <;> omega⟩), (by omega)⟩

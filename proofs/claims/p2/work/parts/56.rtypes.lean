theorem rpn_0 {F : fl_N} {a b k : Nat} (h : F b k = 0) : rpn (F a) (F b k) [] := ⟨h, fun j x hx => by simp at hx⟩
theorem rpn_put {F : fl_N} {a k : Nat} {n v c : Int} {l : List Int} (h : rpn (F a) (F 344 k) l) (hn : F 344 k = n) (hr : nrel c v) (ha : a ≠ 344 := by decide) : rpn ((fl_u (fl_u F a n.toNat v) 344 k (n + 1)) a) ((fl_u (fl_u F a n.toNat v) 344 k (n + 1)) 344 k) (l ++ [c]) := by
  subst hn
  rw [fl_u_eq, fl_u_r ha]
  exact rpn_snoc h (fun j hj => fl_u_ne (by omega)) fl_u_eq hr
def sp_t1 (K : fl_N) (m : Nat) (l : List Int) (p : Int) : PR (Int × List Int) := pb (sp_types K m l p) (fun q => if K 3 q.1.toNat = 1 then .inr q else pf K q.1 1)
theorem st1_e {K : fl_N} {m : Nat} {l : List Int} {p : Int} (hl : 0 < (l.length : Int)) (hk : K 3 p.toNat = 1) : sp_t1 K m l p = .inr (p, l) := by
  rw [sp_t1, spt_e rfl (by omega) hk, pb_r, if_pos hk]
theorem st1_u {K : fl_N} {l : List Int} {p : Int} (hl : (l.length : Int) < 4) (hk : (l.length : Int) = 0 ∨ ¬ K 3 p.toNat = 1) : sp_t1 K (4 - l.length) l p = pb (pb (sp_new K 2 l p) (fun q => sp_types K (4 - (l.length + 1)) q.2 q.1)) (fun q => if K 3 q.1.toNat = 1 then .inr q else pf K q.1 1) := by
  rw [sp_t1]
  have h := spt_step (K := K) (l := l) (p := p) hl rfl hk
  rw [show ((4 : Int) - (l.length : Int)).toNat = 4 - l.length by omega, show ((4 : Int) - ((l.length : Int) + 1)).toNat = 4 - (l.length + 1) by omega] at h
  rw [h]
theorem st1_f1 {K : fl_N} {l : List Int} {p : Int} (hk : (l.length : Int) ≤ 4 ∧ ((l.length : Int) = 0 ∨ ¬ K 3 p.toNat = 1)) (h2 : ¬ K 3 p.toNat = 2) : sp_t1 K (4 - l.length) l p = .inl (1, K 4 p.toNat) := by
  by_cases e : (l.length : Int) < 4
  · rw [st1_u e hk.2, sp_new, if_neg h2]
    rfl
  · rw [sp_t1, show 4 - l.length = 0 by omega]
    show (if K 3 p.toNat = 1 then _ else _) = _
    rw [if_neg (by omega)]
    rfl
theorem st1_f4 {K : fl_N} {l : List Int} {p : Int} (hl : (l.length : Int) = 4) (hk : ¬ K 3 p.toNat = 1) : sp_t1 K (4 - l.length) l p = .inl (1, K 4 p.toNat) := by
  rw [sp_t1, show 4 - l.length = 0 by omega]
  show (if K 3 p.toNat = 1 then _ else _) = _
  rw [if_neg hk]
  rfl
theorem st1_f2 {K : fl_N} {l : List Int} {p z : Int} (hl : (l.length : Int) < 4) (hk : (l.length : Int) = 0 ∨ ¬ K 3 p.toNat = 1) (h2 : K 3 p.toNat = 2) (hz : idx l (K 6 p.toNat) = z) (h0 : 0 ≤ z) : sp_t1 K (4 - l.length) l p = .inl (2, K 4 p.toNat) := by
  rw [st1_u hl hk, sp_new, if_pos h2, if_neg (by omega)]
  rfl
theorem st1_step {K : fl_N} {l : List Int} {p z : Int} (hl : (l.length : Int) < 4) (hk : (l.length : Int) = 0 ∨ ¬ K 3 p.toNat = 1) (h2 : K 3 p.toNat = 2) (hz : idx l (K 6 p.toNat) = z) (h0 : z = -1) (hp : p < K 1 6 - 1) : sp_t1 K (4 - l.length) l p = sp_t1 K (4 - (l.length + 1)) (l ++ [K 6 p.toNat]) (p + 1) := by
  rw [st1_u hl hk, sp_new, if_pos h2, if_pos (by omega), sk, if_pos hp]
  rfl

/- CheapPlannerModel.readTypes -/
abbrev pq_187 (G : Nat → Nat → Option Nat) (F : fl_N) (X : xi_H) (K : fl_N) : Outcome → xi_H → Prop := gqv (fun A => (∃ F' : fl_N, fl_H sh_T G F' ++ X = A ∧ gi F' ∧ fs [(344, 344, 5, 5), (344, 344, 9, 10), (344, 344, 15, 15), (349, 349, 0, 100000)] F F' ∧ (¬ F' 344 9 = 0) ∧ ((F 344 9 = 0 → sp_t1 K 4 [] (F 344 5) = .inl (F' 344 9, F' 344 10)) ∧ (¬ F 344 9 = 0 → F' 344 9 = F 344 9 ∧ F' 344 10 = F 344 10)) ∧ (0 ≤ F' 344 5 ∧ F' 344 5 ≤ K 1 6 - 1)) ∨ (∃ F' : fl_N, fl_H sh_T G F' ++ X = A ∧ gi F' ∧ fs [(344, 344, 5, 5), (344, 344, 9, 10), (344, 344, 15, 15), (349, 349, 0, 100000)] F F' ∧ (F' 344 9 = 0 ∧ F 344 9 = 0) ∧ (∃ l, (sp_t1 K 4 [] (F 344 5) = .inr (F' 344 5, l) ∧ K 3 (F' 344 5).toNat = 1) ∧ rpn (F' 349) (F' 344 15) l) ∧ (0 ≤ F' 344 5 ∧ F' 344 5 ≤ K 1 6 - 1))) gqn
theorem mc_187 {G : Nat → Nat → Option Nat} (hG : gg G) (F : fl_N) (X : xi_H) (hgi : gi F) (K : fl_N) (hgK : gi K) (hrk : rk K F) (hkt : rkt K) (hp : 0 ≤ F 344 5 ∧ F 344 5 ≤ K 1 6 - 1) (h15 : F 344 15 = 0) : fl_M xi_ms 187 3 68 [.ref 344] (fl_H sh_T G F ++ X) (pq_187 G F X K) := by
  intro fr lo hfr hlo
  show fl_R xi_ms 187 fr lo 0 [(0, .ref 344)] [] _ _
  have hP := (rkt_p hkt hp.1 hp.2 hgK).1
  have hK16 : 0 ≤ K 1 6 ∧ K 1 6 ≤ 601 := gi_g hgK rfl
  have hko := hkt.1
  have b1_ : 0 ≤ F 344 9 ∧ F 344 9 ≤ 5 := gi_g hgi rfl
  by_cases h2_ : F 344 9 = 0
  ·
    refine fl_iconst hm_187 rfl ?_
    refine ga_istore_n (lv2 := [(1, .int (Int32.ofInt 1)), (0, .ref 344)]) hm_187 rfl (Nat.le_of_ble_eq_true rfl) rfl ?_
    have L4_ : ∀ (n3_ : Nat) (mo : Int) (l : List Int) (F1 : fl_N), (5 - F1 344 15 : Int).toNat = n3_ → (gi F1) → (fs [(344, 344, 5, 5), (344, 344, 9, 10), (344, 344, 15, 15), (349, 349, 0, 100000)] F F1) → (F1 344 9 = 0) → (rpn (F1 349) (F1 344 15) l) → ((mo = 1 ∧ ((l.length : Int) = 0 ∨ ¬ K 3 (F1 344 5).toNat = 1)) ∨ (mo = 0 ∧ 0 < (l.length : Int) ∧ K 3 (F1 344 5).toNat = 1)) → (0 ≤ F1 344 5 ∧ F1 344 5 ≤ K 1 6 - 1) → (sp_t1 K 4 [] (F 344 5) = sp_t1 K (4 - l.length) l (F1 344 5)) → fl_R xi_ms 187 fr lo 2 [(1, .int (Int32.ofInt mo)), (0, .ref 344)] [] (fl_H sh_T G F1 ++ X) (pq_187 G F X K) := by
      intro n3_
      induction n3_ using Nat.strongRecOn with
      | ind n3_ ih5_ =>
      intro mo l F1 hn6_ hg_F1 hf_F1 hk hl hmo hp1 hsp
      have g7_ : fs [(344, 344, 5, 5), (344, 344, 9, 10), (344, 344, 15, 15), (349, 349, 0, 100000)] F F1 := fs_tr fs_refl hf_F1 rfl
      have rk8_ : rk K F1 := rk_fs hrk hf_F1 (fun r k h => (fs_n (by omega) (fs_n (by omega) (fs_n (by omega) (fs_n (by omega) rfl))))) (fs_n (by omega) (fs_n (by omega) (fs_n (by omega) (fs_n (by omega) rfl))))
      have hl1 := hl.1
      have hP1 := (rkt_p hkt (p := F1 344 5) (by omega) (by omega) hgK).1
      have hb15 : 0 ≤ F1 344 15 ∧ F1 344 15 ≤ 4 := gi_g hg_F1 rfl
      refine ga_iload_n (z := mo) hm_187 rfl rfl ?_
      refine fl_if_eq (a := mo) hm_187 rfl ⟨by omega, by omega⟩ (fun h9_ => ?_) (fun h10_ => ?_)
      ·
        refine gr_v hm_187 rfl rfl ?_
        have b11_ : 0 ≤ F1 344 9 ∧ F1 344 9 ≤ 5 := gi_g hg_F1 rfl
        have b12_ : 0 ≤ F1 344 15 ∧ F1 344 15 ≤ 4 := gi_g hg_F1 rfl
        have b13_ : 0 ≤ F1 344 5 ∧ F1 344 5 ≤ 600 := gi_g hg_F1 rfl
        have b14_ : 0 ≤ F 344 5 ∧ F 344 5 ≤ 600 := gi_g hgi rfl
        exact Or.inr (⟨F1, rfl, hg_F1, g7_, (by omega), (⟨l, ⟨by rw [hsp, st1_e (by omega) (by omega)], by omega⟩, hl⟩), (by omega)⟩)
      refine ga_aload_n (v := .ref 344) hm_187 rfl rfl rfl ?_
      refine gIi (nY := 1) (F := 0) (L := 0) (As := []) (b := 344) (rest := []) hm_187 rfl hm_59 rfl rfl (fl_ob sc_344) rfl rfl rfl rfl rfl (by omega) (by omega) ?_
      intro f15_ l16_ h17_ h18_
      show fl_R xi_ms 59 f15_ l16_ 0 [(0, .ref 344)] [] _ _
      refine ga_aload_n (v := .ref 344) hm_59 rfl rfl rfl ?_
      have b19_ : 0 ≤ F1 344 9 ∧ F1 344 9 ≤ 5 := gi_g hg_F1 rfl
      refine ga_geti (z := F1 344 9) hm_59 rfl sc_344 rfl (rfl) ?_
      refine fl_if_le (a := F1 344 9) hm_59 rfl ⟨by omega, by omega⟩ (fun h20_ => ?_) (fun h21_ => ?_)
      ·
        refine fl_iconst hm_59 rfl ?_
        refine gr_i hm_59 rfl rfl (ga_nb (by omega)) ?_
        clear h17_ h18_ f15_ l16_
        refine fl_if_ne hm_187 rfl ⟨by omega, by omega⟩ (fun h => absurd h (by omega)) (fun _ => ?_)
        refine ga_aload_n (v := .ref 344) hm_187 rfl rfl rfl ?_
        have b22_ : 0 ≤ F1 344 5 ∧ F1 344 5 ≤ 600 := gi_g hg_F1 rfl
        refine gVl (nY := 3) (F := 2) (L := 46) (As := []) (b := 344) (rest := []) hm_187 rfl hm_58 rfl rfl (fl_ob sc_344) rfl rfl rfl rfl rfl (by omega) (by omega) (mc_58 hG F1 X hg_F1 (K) hgK rk8_ hkt (by omega)) (fun _ _ h => False.elim h) ?_
        have b24_ : 0 ≤ F1 344 10 ∧ F1 344 10 ≤ 600 := gi_g hg_F1 rfl
        rintro z23_ A1_ (⟨F29_, hA_, g30_, s31_, c25_, c26_, c27_, c28_⟩ | ⟨F39_, hA_, g40_, s41_, c32_, c33_, c34_, c35_, c36_, c37_, c38_⟩)
        ·
          subst hA_
          have g42_ : fs [(344, 344, 5, 5), (344, 344, 9, 10), (344, 344, 15, 15), (349, 349, 0, 100000)] F F29_ := fs_tr g7_ s31_ rfl
          have rk43_ : rk K F29_ := rk_fs rk8_ s31_ (fun r k h => (fs_n (by omega) rfl)) (fs_n (by omega) rfl)
          have c26_s := c26_.1 (by omega)
          clear c26_
          refine ga_lstore_n (lv2 := [(2, .long (Int64.ofInt z23_)), (1, .int (Int32.ofInt mo)), (0, .ref 344)]) hm_187 rfl (Nat.le_of_ble_eq_true rfl) rfl ?_
          refine ga_aload_n (v := .ref 344) hm_187 rfl rfl rfl ?_
          have e44_ : F29_ 344 15 = F1 344 15 := (s31_ 344 15 rfl).trans (rfl)
          have b45_ : 0 ≤ F1 344 15 ∧ F1 344 15 ≤ 4 := gi_g hg_F1 rfl
          refine ga_geti (z := F1 344 15) hm_187 rfl sc_344 rfl (e44_) ?_
          refine fl_iconst hm_187 rfl ?_
          refine fx_icmp_ne (a := F1 344 15) (b := 4) hm_187 rfl ⟨by omega, by omega⟩ ⟨by omega, by omega⟩ (fun h46_ => ?_) (fun h47_ => ?_)
          ·
            refine ga_aload_n (v := .ref 344) hm_187 rfl rfl rfl ?_
            refine gIi (nY := 1) (F := 0) (L := 0) (As := []) (b := 344) (rest := []) hm_187 rfl hm_59 rfl rfl (fl_ob sc_344) rfl rfl rfl rfl rfl (by omega) (by omega) ?_
            intro f48_ l49_ h50_ h51_
            show fl_R xi_ms 59 f48_ l49_ 0 [(0, .ref 344)] [] _ _
            refine ga_aload_n (v := .ref 344) hm_59 rfl rfl rfl ?_
            have b52_ : 0 ≤ F29_ 344 9 ∧ F29_ 344 9 ≤ 5 := gi_g g30_ rfl
            refine ga_geti (z := F29_ 344 9) hm_59 rfl sc_344 rfl (rfl) ?_
            refine fl_if_le (a := F29_ 344 9) hm_59 rfl ⟨by omega, by omega⟩ (fun h53_ => ?_) (fun h54_ => ?_)
            · exfalso; omega
            refine fl_iconst hm_59 rfl ?_
            refine fl_goto hm_59 rfl ?_
            refine gr_i hm_59 rfl rfl (ga_nb (by omega)) ?_
            clear h50_ h51_ f48_ l49_
            refine fl_if_ne hm_187 rfl ⟨by omega, by omega⟩ (fun _ => ?_) (fun h => absurd (by omega) h)
            refine ga_aload_n (v := .ref 344) hm_187 rfl rfl rfl ?_
            refine gIv (nY := 1) (F := 1) (L := 20) (As := []) (b := 344) (rest := []) hm_187 rfl hm_61 rfl rfl (fl_ob sc_344) rfl rfl rfl rfl rfl (by omega) (by omega) ?_
            intro f55_ l56_ h57_ h58_
            show fl_R xi_ms 61 f55_ l56_ 0 [(0, .ref 344)] [] _ _
            refine ga_aload_n (v := .ref 344) hm_61 rfl rfl rfl ?_
            refine ga_dup hm_61 rfl rfl ?_
            have e59_ : F29_ 344 5 = F1 344 5 := (s31_ 344 5 rfl).trans (rfl)
            refine ga_geti (z := F1 344 5) hm_61 rfl sc_344 rfl (e59_) ?_
            refine ga_aload_n (v := .ref 344) hm_61 rfl rfl rfl ?_
            refine gIi (nY := 1) (F := 0) (L := 0) (As := []) (b := 344) (rest := [.int (Int32.ofInt (F1 344 5)), .ref 344]) hm_61 rfl hm_59 rfl rfl (fl_ob sc_344) rfl rfl rfl rfl rfl (by omega) (by omega) ?_
            intro f60_ l61_ h62_ h63_
            show fl_R xi_ms 59 f60_ l61_ 0 [(0, .ref 344)] [] _ _
            refine ga_aload_n (v := .ref 344) hm_59 rfl rfl rfl ?_
            refine ga_geti (z := F29_ 344 9) hm_59 rfl sc_344 rfl (rfl) ?_
            refine fl_if_le (a := F29_ 344 9) hm_59 rfl ⟨by omega, by omega⟩ (fun h64_ => ?_) (fun h65_ => ?_)
            · exfalso; omega
            refine fl_iconst hm_59 rfl ?_
            refine fl_goto hm_59 rfl ?_
            refine gr_i hm_59 rfl rfl (ga_nb (by omega)) ?_
            clear h62_ h63_ f60_ l61_
            refine fl_if_eq hm_61 rfl ⟨by omega, by omega⟩ (fun h => absurd h (by omega)) (fun _ => ?_)
            refine fl_iconst hm_61 rfl ?_
            refine fl_goto hm_61 rfl ?_
            refine ga_iadd (a := F1 344 5) (b := 0) (c := F1 344 5) hm_61 rfl (by omega) ?_
            refine ga_puti (z := F1 344 5) hm_61 rfl sc_344 rfl rfl ?_
            refine gr_v hm_61 rfl rfl ?_
            clear h57_ h58_ f55_ l56_
            refine ga_aload_n (v := .ref 344) hm_187 rfl rfl rfl ?_
            refine gIi (nY := 1) (F := 0) (L := 0) (As := []) (b := 344) (rest := []) hm_187 rfl hm_59 rfl rfl (fl_ob sc_344) rfl rfl rfl rfl rfl (by omega) (by omega) ?_
            intro f66_ l67_ h68_ h69_
            show fl_R xi_ms 59 f66_ l67_ 0 [(0, .ref 344)] [] _ _
            refine ga_aload_n (v := .ref 344) hm_59 rfl rfl rfl ?_
            refine ga_geti (z := F29_ 344 9) hm_59 rfl sc_344 rfl (fl_u_ne (by omega)) ?_
            refine fl_if_le (a := F29_ 344 9) hm_59 rfl ⟨by omega, by omega⟩ (fun h70_ => ?_) (fun h71_ => ?_)
            · exfalso; omega
            refine fl_iconst hm_59 rfl ?_
            refine fl_goto hm_59 rfl ?_
            refine gr_i hm_59 rfl rfl (ga_nb (by omega)) ?_
            clear h68_ h69_ f66_ l67_
            refine fl_if_eq hm_187 rfl ⟨by omega, by omega⟩ (fun h => absurd h (by omega)) (fun _ => ?_)
            obtain ⟨F72_, q73_⟩ : ∃ F9_, F9_ = (fl_u F29_ 344 5 (F1 344 5)) := ⟨_, rfl⟩
            rw [← q73_]
            have g74_ : gi F72_ := by rw [q73_]; exact gi_u (g30_) rfl (by omega) (by omega)
            have g75_ : fs [(344, 344, 5, 5), (344, 344, 9, 10), (344, 344, 15, 15), (349, 349, 0, 100000)] F F72_ := by rw [q73_]; exact fs_u (g42_) rfl
            have rk76_ : rk K F72_ := by rw [q73_]; exact rk_u (rk43_) (by omega) (by omega)
            refine gr_v hm_187 rfl rfl ?_
            have e77_ : F72_ 344 9 = F29_ 344 9 := by rw [q73_]; exact fl_u_ne (by omega)
            have e78_ : F72_ 344 10 = F29_ 344 10 := by rw [q73_]; exact fl_u_ne (by omega)
            have e79_ : F72_ 344 5 = F1 344 5 := by rw [q73_]; exact fl_u_eq
            have b80_ : 0 ≤ F29_ 344 10 ∧ F29_ 344 10 ≤ 600 := gi_g g30_ rfl
            have b81_ : 0 ≤ F 344 10 ∧ F 344 10 ≤ 600 := gi_g hgi rfl
            have b82_ : 0 ≤ F 344 5 ∧ F 344 5 ≤ 600 := gi_g hgi rfl
            exact Or.inl ⟨F72_, rfl, g74_, g75_, (by omega), (⟨by intro h0_; have hs_ := c26_s; have h1_ := nm_no hs_; rw [sp_nm, if_neg h1_] at hs_; have h2_ := Prod.mk.inj (Sum.inl.inj hs_); rw [hsp, st1_f1 (by omega) h1_]; congr 2 <;> omega, fun h0_ => by exfalso; omega⟩), (by omega)⟩
          refine ga_aload_n (v := .ref 344) hm_187 rfl rfl rfl ?_
          refine fl_iconst hm_187 rfl ?_
          have e83_ : F29_ 344 5 = F1 344 5 := (s31_ 344 5 rfl).trans (rfl)
          refine gVv (nY := 2) (F := 0) (L := 0) (As := [.int (Int32.ofInt 1)]) (b := 344) (rest := []) hm_187 rfl hm_54 rfl rfl (fl_ob sc_344) rfl rfl rfl rfl rfl (by omega) (by omega) (mc_54 hG F29_ X g30_ (K) (1) hgK rk43_ hkt (by omega) (by omega)) (fun _ _ h => False.elim h) ?_
          have b85_ : 0 ≤ F29_ 344 10 ∧ F29_ 344 10 ≤ 600 := gi_g g30_ rfl
          have b86_ : 0 ≤ F29_ 344 9 ∧ F29_ 344 9 ≤ 5 := gi_g g30_ rfl
          rintro A1_ ⟨F90_, hA_, g91_, s92_, c87_, c88_, c89_⟩
          subst hA_
          have g93_ : fs [(344, 344, 5, 5), (344, 344, 9, 10), (344, 344, 15, 15), (349, 349, 0, 100000)] F F90_ := fs_tr g42_ s92_ rfl
          have rk94_ : rk K F90_ := rk_fs rk43_ s92_ (fun r k h => (fs_n (by omega) rfl)) (fs_n (by omega) rfl)
          try simp only [e83_] at c88_
          try simp only [e83_] at c89_
          have c88_k := c88_.2 (by omega)
          clear c88_
          refine ga_aload_n (v := .ref 344) hm_187 rfl rfl rfl ?_
          refine gIi (nY := 1) (F := 0) (L := 0) (As := []) (b := 344) (rest := []) hm_187 rfl hm_59 rfl rfl (fl_ob sc_344) rfl rfl rfl rfl rfl (by omega) (by omega) ?_
          intro f95_ l96_ h97_ h98_
          show fl_R xi_ms 59 f95_ l96_ 0 [(0, .ref 344)] [] _ _
          refine ga_aload_n (v := .ref 344) hm_59 rfl rfl rfl ?_
          have b99_ : 0 ≤ F90_ 344 9 ∧ F90_ 344 9 ≤ 5 := gi_g g91_ rfl
          refine ga_geti (z := F90_ 344 9) hm_59 rfl sc_344 rfl (rfl) ?_
          refine fl_if_le (a := F90_ 344 9) hm_59 rfl ⟨by omega, by omega⟩ (fun h100_ => ?_) (fun h101_ => ?_)
          · exfalso; omega
          refine fl_iconst hm_59 rfl ?_
          refine fl_goto hm_59 rfl ?_
          refine gr_i hm_59 rfl rfl (ga_nb (by omega)) ?_
          clear h97_ h98_ f95_ l96_
          refine fl_if_ne hm_187 rfl ⟨by omega, by omega⟩ (fun _ => ?_) (fun h => absurd (by omega) h)
          refine ga_aload_n (v := .ref 344) hm_187 rfl rfl rfl ?_
          refine gIv (nY := 1) (F := 1) (L := 20) (As := []) (b := 344) (rest := []) hm_187 rfl hm_61 rfl rfl (fl_ob sc_344) rfl rfl rfl rfl rfl (by omega) (by omega) ?_
          intro f102_ l103_ h104_ h105_
          show fl_R xi_ms 61 f102_ l103_ 0 [(0, .ref 344)] [] _ _
          refine ga_aload_n (v := .ref 344) hm_61 rfl rfl rfl ?_
          refine ga_dup hm_61 rfl rfl ?_
          have e106_ : F90_ 344 5 = F1 344 5 := (s92_ 344 5 rfl).trans (e83_)
          refine ga_geti (z := F1 344 5) hm_61 rfl sc_344 rfl (e106_) ?_
          refine ga_aload_n (v := .ref 344) hm_61 rfl rfl rfl ?_
          refine gIi (nY := 1) (F := 0) (L := 0) (As := []) (b := 344) (rest := [.int (Int32.ofInt (F1 344 5)), .ref 344]) hm_61 rfl hm_59 rfl rfl (fl_ob sc_344) rfl rfl rfl rfl rfl (by omega) (by omega) ?_
          intro f107_ l108_ h109_ h110_
          show fl_R xi_ms 59 f107_ l108_ 0 [(0, .ref 344)] [] _ _
          refine ga_aload_n (v := .ref 344) hm_59 rfl rfl rfl ?_
          refine ga_geti (z := F90_ 344 9) hm_59 rfl sc_344 rfl (rfl) ?_
          refine fl_if_le (a := F90_ 344 9) hm_59 rfl ⟨by omega, by omega⟩ (fun h111_ => ?_) (fun h112_ => ?_)
          · exfalso; omega
          refine fl_iconst hm_59 rfl ?_
          refine fl_goto hm_59 rfl ?_
          refine gr_i hm_59 rfl rfl (ga_nb (by omega)) ?_
          clear h109_ h110_ f107_ l108_
          refine fl_if_eq hm_61 rfl ⟨by omega, by omega⟩ (fun h => absurd h (by omega)) (fun _ => ?_)
          refine fl_iconst hm_61 rfl ?_
          refine fl_goto hm_61 rfl ?_
          refine ga_iadd (a := F1 344 5) (b := 0) (c := F1 344 5) hm_61 rfl (by omega) ?_
          refine ga_puti (z := F1 344 5) hm_61 rfl sc_344 rfl rfl ?_
          refine gr_v hm_61 rfl rfl ?_
          clear h104_ h105_ f102_ l103_
          refine ga_aload_n (v := .ref 344) hm_187 rfl rfl rfl ?_
          refine gIi (nY := 1) (F := 0) (L := 0) (As := []) (b := 344) (rest := []) hm_187 rfl hm_59 rfl rfl (fl_ob sc_344) rfl rfl rfl rfl rfl (by omega) (by omega) ?_
          intro f113_ l114_ h115_ h116_
          show fl_R xi_ms 59 f113_ l114_ 0 [(0, .ref 344)] [] _ _
          refine ga_aload_n (v := .ref 344) hm_59 rfl rfl rfl ?_
          refine ga_geti (z := F90_ 344 9) hm_59 rfl sc_344 rfl (fl_u_ne (by omega)) ?_
          refine fl_if_le (a := F90_ 344 9) hm_59 rfl ⟨by omega, by omega⟩ (fun h117_ => ?_) (fun h118_ => ?_)
          · exfalso; omega
          refine fl_iconst hm_59 rfl ?_
          refine fl_goto hm_59 rfl ?_
          refine gr_i hm_59 rfl rfl (ga_nb (by omega)) ?_
          clear h115_ h116_ f113_ l114_
          refine fl_if_eq hm_187 rfl ⟨by omega, by omega⟩ (fun h => absurd h (by omega)) (fun _ => ?_)
          obtain ⟨F119_, q120_⟩ : ∃ F9_, F9_ = (fl_u F90_ 344 5 (F1 344 5)) := ⟨_, rfl⟩
          rw [← q120_]
          have g121_ : gi F119_ := by rw [q120_]; exact gi_u (g91_) rfl (by omega) (by omega)
          have g122_ : fs [(344, 344, 5, 5), (344, 344, 9, 10), (344, 344, 15, 15), (349, 349, 0, 100000)] F F119_ := by rw [q120_]; exact fs_u (g93_) rfl
          have rk123_ : rk K F119_ := by rw [q120_]; exact rk_u (rk94_) (by omega) (by omega)
          refine gr_v hm_187 rfl rfl ?_
          have e124_ : F119_ 344 9 = F90_ 344 9 := by rw [q120_]; exact fl_u_ne (by omega)
          have e125_ : F119_ 344 10 = F90_ 344 10 := by rw [q120_]; exact fl_u_ne (by omega)
          have e126_ : F119_ 344 5 = F1 344 5 := by rw [q120_]; exact fl_u_eq
          have b127_ : 0 ≤ F90_ 344 10 ∧ F90_ 344 10 ≤ 600 := gi_g g91_ rfl
          have b128_ : 0 ≤ F 344 10 ∧ F 344 10 ≤ 600 := gi_g hgi rfl
          have b129_ : 0 ≤ F 344 5 ∧ F 344 5 ≤ 600 := gi_g hgi rfl
          exact Or.inl ⟨F119_, rfl, g121_, g122_, (by omega), (⟨by intro h0_; have hs_ := c26_s; have h1_ := nm_no hs_; rw [sp_nm, if_neg h1_] at hs_; have h2_ := Prod.mk.inj (Sum.inl.inj hs_); rw [hsp, st1_f1 (by omega) h1_]; congr 2 <;> omega, fun h0_ => by exfalso; omega⟩), (by omega)⟩
        subst hA_
        have g130_ : fs [(344, 344, 5, 5), (344, 344, 9, 10), (344, 344, 15, 15), (349, 349, 0, 100000)] F F39_ := fs_tr g7_ s41_ rfl
        have rk131_ : rk K F39_ := rk_fs rk8_ s41_ (fun r k h => (fs_n (by omega) rfl)) (fs_n (by omega) rfl)
        refine ga_lstore_n (lv2 := [(2, .long (Int64.ofInt z23_)), (1, .int (Int32.ofInt mo)), (0, .ref 344)]) hm_187 rfl (Nat.le_of_ble_eq_true rfl) rfl ?_
        refine ga_aload_n (v := .ref 344) hm_187 rfl rfl rfl ?_
        have e132_ : F39_ 344 15 = F1 344 15 := (s41_ 344 15 rfl).trans (rfl)
        have b133_ : 0 ≤ F1 344 15 ∧ F1 344 15 ≤ 4 := gi_g hg_F1 rfl
        refine ga_geti (z := F1 344 15) hm_187 rfl sc_344 rfl (e132_) ?_
        refine fl_iconst hm_187 rfl ?_
        refine fx_icmp_ne (a := F1 344 15) (b := 4) hm_187 rfl ⟨by omega, by omega⟩ ⟨by omega, by omega⟩ (fun h134_ => ?_) (fun h135_ => ?_)
        ·
          refine ga_aload_n (v := .ref 344) hm_187 rfl rfl rfl ?_
          refine gIi (nY := 1) (F := 0) (L := 0) (As := []) (b := 344) (rest := []) hm_187 rfl hm_59 rfl rfl (fl_ob sc_344) rfl rfl rfl rfl rfl (by omega) (by omega) ?_
          intro f136_ l137_ h138_ h139_
          show fl_R xi_ms 59 f136_ l137_ 0 [(0, .ref 344)] [] _ _
          refine ga_aload_n (v := .ref 344) hm_59 rfl rfl rfl ?_
          have b140_ : 0 ≤ F39_ 344 9 ∧ F39_ 344 9 ≤ 5 := gi_g g40_ rfl
          refine ga_geti (z := F39_ 344 9) hm_59 rfl sc_344 rfl (rfl) ?_
          refine fl_if_le (a := F39_ 344 9) hm_59 rfl ⟨by omega, by omega⟩ (fun h141_ => ?_) (fun h142_ => ?_)
          ·
            refine fl_iconst hm_59 rfl ?_
            refine gr_i hm_59 rfl rfl (ga_nb (by omega)) ?_
            clear h138_ h139_ f136_ l137_
            refine fl_if_ne hm_187 rfl ⟨by omega, by omega⟩ (fun h => absurd h (by omega)) (fun _ => ?_)
            refine ga_aload_n (v := .ref 344) hm_187 rfl rfl rfl ?_
            refine ga_getr (b := 349) hm_187 rfl sc_344 rfl ?_
            refine fl_iconst hm_187 rfl ?_
            refine ga_aload_n (v := .ref 344) hm_187 rfl rfl rfl ?_
            refine ga_geti (z := F1 344 15) hm_187 rfl sc_344 rfl (e132_) ?_
            refine ga_lload_n (z := z23_) hm_187 rfl rfl ?_
            refine gSi (nY := 7) (F := 0) (L := 0) (As := [.ref 349, .int (Int32.ofInt 0), .int (Int32.ofInt (F1 344 15)), .long (Int64.ofInt z23_)]) (rest := []) hm_187 rfl hm_162 rfl rfl (fl_pos sc_0) rfl rfl rfl rfl (by omega) (by omega) (mc_162 hG F39_ X g40_ (349) (5) (0) (F1 344 15) (z23_) sc_349 (fun _ => rfl) (by omega) (by omega))  ?_
            rintro z143_ A1_ ⟨hA_, c144_, c145_, c146_⟩
            subst hA_
            refine fl_iconst hm_187 rfl ?_
            refine fl_icmp_eq (a := z143_) (b := -1) hm_187 rfl ⟨by omega, by omega⟩ ⟨by omega, by omega⟩ (fun h147_ => ?_) (fun h148_ => ?_)
            ·
              refine ga_aload_n (v := .ref 344) hm_187 rfl rfl rfl ?_
              refine gIv (nY := 1) (F := 1) (L := 20) (As := []) (b := 344) (rest := []) hm_187 rfl hm_61 rfl rfl (fl_ob sc_344) rfl rfl rfl rfl rfl (by omega) (by omega) ?_
              intro f149_ l150_ h151_ h152_
              show fl_R xi_ms 61 f149_ l150_ 0 [(0, .ref 344)] [] _ _
              refine ga_aload_n (v := .ref 344) hm_61 rfl rfl rfl ?_
              refine ga_dup hm_61 rfl rfl ?_
              have e153_ : F39_ 344 5 = F1 344 5 := (s41_ 344 5 rfl).trans (rfl)
              refine ga_geti (z := F1 344 5) hm_61 rfl sc_344 rfl (e153_) ?_
              refine ga_aload_n (v := .ref 344) hm_61 rfl rfl rfl ?_
              refine gIi (nY := 1) (F := 0) (L := 0) (As := []) (b := 344) (rest := [.int (Int32.ofInt (F1 344 5)), .ref 344]) hm_61 rfl hm_59 rfl rfl (fl_ob sc_344) rfl rfl rfl rfl rfl (by omega) (by omega) ?_
              intro f154_ l155_ h156_ h157_
              show fl_R xi_ms 59 f154_ l155_ 0 [(0, .ref 344)] [] _ _
              refine ga_aload_n (v := .ref 344) hm_59 rfl rfl rfl ?_
              refine ga_geti (z := F39_ 344 9) hm_59 rfl sc_344 rfl (rfl) ?_
              refine fl_if_le (a := F39_ 344 9) hm_59 rfl ⟨by omega, by omega⟩ (fun h158_ => ?_) (fun h159_ => ?_)
              ·
                refine fl_iconst hm_59 rfl ?_
                refine gr_i hm_59 rfl rfl (ga_nb (by omega)) ?_
                clear h156_ h157_ f154_ l155_
                refine fl_if_eq hm_61 rfl ⟨by omega, by omega⟩ (fun _ => ?_) (fun h => absurd (by omega) h)
                refine fl_iconst hm_61 rfl ?_
                refine ga_iadd (a := F1 344 5) (b := 1) (c := F1 344 5 + 1) hm_61 rfl (by omega) ?_
                refine ga_puti (z := F1 344 5 + 1) hm_61 rfl sc_344 rfl rfl ?_
                refine gr_v hm_61 rfl rfl ?_
                clear h151_ h152_ f149_ l150_
                refine ga_aload_n (v := .ref 344) hm_187 rfl rfl rfl ?_
                refine gIi (nY := 1) (F := 0) (L := 0) (As := []) (b := 344) (rest := []) hm_187 rfl hm_59 rfl rfl (fl_ob sc_344) rfl rfl rfl rfl rfl (by omega) (by omega) ?_
                intro f160_ l161_ h162_ h163_
                show fl_R xi_ms 59 f160_ l161_ 0 [(0, .ref 344)] [] _ _
                refine ga_aload_n (v := .ref 344) hm_59 rfl rfl rfl ?_
                refine ga_geti (z := F39_ 344 9) hm_59 rfl sc_344 rfl (fl_u_ne (by omega)) ?_
                refine fl_if_le (a := F39_ 344 9) hm_59 rfl ⟨by omega, by omega⟩ (fun h164_ => ?_) (fun h165_ => ?_)
                ·
                  refine fl_iconst hm_59 rfl ?_
                  refine gr_i hm_59 rfl rfl (ga_nb (by omega)) ?_
                  clear h162_ h163_ f160_ l161_
                  refine fl_if_eq hm_187 rfl ⟨by omega, by omega⟩ (fun _ => ?_) (fun h => absurd (by omega) h)
                  refine ga_aload_n (v := .ref 344) hm_187 rfl rfl rfl ?_
                  refine ga_getr (b := 349) hm_187 rfl sc_344 rfl ?_
                  refine ga_aload_n (v := .ref 344) hm_187 rfl rfl rfl ?_
                  refine ga_geti (z := F1 344 15) hm_187 rfl sc_344 rfl ((fl_u_ne (by omega)).trans (e132_)) ?_
                  refine ga_lload_n (z := z23_) hm_187 rfl rfl ?_
                  refine fl_last (z := F1 344 15) (v := z23_) hm_187 rfl sc_349 (by omega) (by omega) (by omega) ?_
                  refine ga_aload_n (v := .ref 344) hm_187 rfl rfl rfl ?_
                  refine ga_dup hm_187 rfl rfl ?_
                  refine ga_geti (z := F1 344 15) hm_187 rfl sc_344 rfl ((fl_u_ne (by omega)).trans ((fl_u_ne (by omega)).trans (e132_))) ?_
                  refine fl_iconst hm_187 rfl ?_
                  refine ga_iadd (a := F1 344 15) (b := 1) (c := F1 344 15 + 1) hm_187 rfl (by omega) ?_
                  refine ga_puti (z := F1 344 15 + 1) hm_187 rfl sc_344 rfl rfl ?_
                  refine ga_aload_n (v := .ref 344) hm_187 rfl rfl rfl ?_
                  refine fl_bipush hm_187 rfl rfl ?_
                  obtain ⟨F166_, q167_⟩ : ∃ F9_, F9_ = (fl_u (fl_u (fl_u F39_ 344 5 (F1 344 5 + 1)) 349 (F1 344 15).toNat z23_) 344 15 (F1 344 15 + 1)) := ⟨_, rfl⟩
                  rw [← q167_]
                  have g168_ : gi F166_ := by rw [q167_]; exact gi_u (gi_u (gi_u (g40_) rfl (by omega) (by omega)) rfl (by omega) (by omega)) rfl (by omega) (by omega)
                  have g169_ : fs [(344, 344, 5, 5), (344, 344, 9, 10), (344, 344, 15, 15), (349, 349, 0, 100000)] F F166_ := by rw [q167_]; exact fs_u (fs_u (fs_u (g130_) rfl) (fs_z (fs_z (fs_z (fs_y (by omega)))))) rfl
                  have rk170_ : rk K F166_ := by rw [q167_]; exact rk_u (rk_u (rk_u (rk131_) (by omega) (by omega)) (by omega) (by omega)) (by omega) (by omega)
                  have e171_ : F166_ 344 5 = F1 344 5 + 1 := by rw [q167_]; exact (fl_u_ne (by omega)).trans ((fl_u_ne (by omega)).trans (fl_u_eq))
                  refine gVi (nY := 2) (F := 1) (L := 20) (As := [.int (Int32.ofInt 41)]) (b := 344) (rest := []) hm_187 rfl hm_52 rfl rfl (fl_ob sc_344) rfl rfl rfl rfl rfl (by omega) (by omega) (mc_52 hG F166_ X g168_ (K) (41) hgK rk170_ hkt (by omega) (by omega)) (fun _ _ h => False.elim h) ?_
                  have e173_ : F166_ 344 9 = F39_ 344 9 := by rw [q167_]; exact (fl_u_ne (by omega)).trans ((fl_u_ne (by omega)).trans (fl_u_ne (by omega)))
                  rintro z172_ A1_ (⟨hA_, hz_, c174_⟩ | ⟨hA_, hz_, c175_, c176_⟩)
                  ·
                    subst hA_
                    subst hz_
                    try simp only [e171_, e173_] at c174_
                    refine fl_if_ne hm_187 rfl ⟨by omega, by omega⟩ (fun h => absurd h (by omega)) (fun _ => ?_)
                    refine fl_iconst hm_187 rfl ?_
                    refine fl_goto hm_187 rfl ?_
                    refine ga_istore_n (lv2 := [(1, .int (Int32.ofInt 1)), (2, .long (Int64.ofInt z23_)), (0, .ref 344)]) hm_187 rfl (Nat.le_of_ble_eq_true rfl) rfl ?_
                    refine fl_goto hm_187 rfl ?_
                    have e177_ : F166_ 344 15 = F1 344 15 + 1 := by rw [q167_]; exact fl_u_eq
                    have b178_ : 0 ≤ K 1 6 ∧ K 1 6 ≤ 601 := gi_g hgK rfl
                    have b179_ : 0 ≤ F 344 5 ∧ F 344 5 ≤ 600 := gi_g hgi rfl
                    exact fl_R_sub (lv' := [(1, .int (Int32.ofInt 1)), (0, .ref 344)]) rfl rfl (ih5_ _ (by omega) (1) (_) F166_ rfl g168_ (by rw [q167_]; exact fs_u (fs_u (fs_u ((fs_tr hf_F1 s41_ rfl)) rfl) (fs_z (fs_z (fs_z (fs_y (by omega)))))) rfl) (by omega) (by rw [q167_]; exact rpn_put (rpn_u (rpn_fs hl s41_ (fun _ => (fs_n (by omega) rfl)) (fs_n (by omega) rfl)) (by omega) (by omega)) ((fl_u_ne (by omega)).trans (e132_)) c35_) (Or.inl ⟨rfl, Or.inr (by rw [e171_]; omega)⟩) (by omega) (by rw [hsp, st1_step (by omega) (by omega) (by omega) (ra_fi (by have x_ := (rpn_fs hl s41_ (fun _ => (fs_n (by omega) rfl)) (fs_n (by omega) rfl)); rw [e132_] at x_; exact x_) c35_ c144_ c145_ c146_) (by omega) (by omega)]; congr 1; (simp only [List.length_append, List.length_singleton]; try omega); try omega))
                  subst hA_
                  subst hz_
                  try simp only [e171_, e173_] at c175_
                  try simp only [e171_] at c176_
                  refine fl_if_ne hm_187 rfl ⟨by omega, by omega⟩ (fun _ => ?_) (fun h => absurd (by omega) h)
                  refine fl_iconst hm_187 rfl ?_
                  refine ga_istore_n (lv2 := [(1, .int (Int32.ofInt 0)), (2, .long (Int64.ofInt z23_)), (0, .ref 344)]) hm_187 rfl (Nat.le_of_ble_eq_true rfl) rfl ?_
                  refine fl_goto hm_187 rfl ?_
                  have e180_ : F166_ 344 15 = F1 344 15 + 1 := by rw [q167_]; exact fl_u_eq
                  have b181_ : 0 ≤ K 1 6 ∧ K 1 6 ≤ 601 := gi_g hgK rfl
                  have b182_ : 0 ≤ F 344 5 ∧ F 344 5 ≤ 600 := gi_g hgi rfl
                  exact fl_R_sub (lv' := [(1, .int (Int32.ofInt 0)), (0, .ref 344)]) rfl rfl (ih5_ _ (by omega) (0) (_) F166_ rfl g168_ (by rw [q167_]; exact fs_u (fs_u (fs_u ((fs_tr hf_F1 s41_ rfl)) rfl) (fs_z (fs_z (fs_z (fs_y (by omega)))))) rfl) (by omega) (by rw [q167_]; exact rpn_put (rpn_u (rpn_fs hl s41_ (fun _ => (fs_n (by omega) rfl)) (fs_n (by omega) rfl)) (by omega) (by omega)) ((fl_u_ne (by omega)).trans (e132_)) c35_) (Or.inr ⟨rfl, by simp only [List.length_append, List.length_singleton]; omega, by rw [e171_]; omega⟩) (by omega) (by rw [hsp, st1_step (by omega) (by omega) (by omega) (ra_fi (by have x_ := (rpn_fs hl s41_ (fun _ => (fs_n (by omega) rfl)) (fs_n (by omega) rfl)); rw [e132_] at x_; exact x_) c35_ c144_ c145_ c146_) (by omega) (by omega)]; congr 1; (simp only [List.length_append, List.length_singleton]; try omega); try omega))
                exfalso; omega
              exfalso; omega
            refine ga_aload_n (v := .ref 344) hm_187 rfl rfl rfl ?_
            refine fl_iconst hm_187 rfl ?_
            have e183_ : F39_ 344 5 = F1 344 5 := (s41_ 344 5 rfl).trans (rfl)
            refine gVv (nY := 2) (F := 0) (L := 0) (As := [.int (Int32.ofInt 2)]) (b := 344) (rest := []) hm_187 rfl hm_54 rfl rfl (fl_ob sc_344) rfl rfl rfl rfl rfl (by omega) (by omega) (mc_54 hG F39_ X g40_ (K) (2) hgK rk131_ hkt (by omega) (by omega)) (fun _ _ h => False.elim h) ?_
            have b185_ : 0 ≤ F39_ 344 10 ∧ F39_ 344 10 ≤ 600 := gi_g g40_ rfl
            rintro A1_ ⟨F189_, hA_, g190_, s191_, c186_, c187_, c188_⟩
            subst hA_
            have g192_ : fs [(344, 344, 5, 5), (344, 344, 9, 10), (344, 344, 15, 15), (349, 349, 0, 100000)] F F189_ := fs_tr g130_ s191_ rfl
            have rk193_ : rk K F189_ := rk_fs rk131_ s191_ (fun r k h => (fs_n (by omega) rfl)) (fs_n (by omega) rfl)
            try simp only [e183_] at c187_
            try simp only [e183_] at c188_
            have c187_s := c187_.1 (by omega)
            clear c187_
            refine ga_aload_n (v := .ref 344) hm_187 rfl rfl rfl ?_
            refine gIv (nY := 1) (F := 1) (L := 20) (As := []) (b := 344) (rest := []) hm_187 rfl hm_61 rfl rfl (fl_ob sc_344) rfl rfl rfl rfl rfl (by omega) (by omega) ?_
            intro f194_ l195_ h196_ h197_
            show fl_R xi_ms 61 f194_ l195_ 0 [(0, .ref 344)] [] _ _
            refine ga_aload_n (v := .ref 344) hm_61 rfl rfl rfl ?_
            refine ga_dup hm_61 rfl rfl ?_
            have e198_ : F189_ 344 5 = F1 344 5 := (s191_ 344 5 rfl).trans (e183_)
            refine ga_geti (z := F1 344 5) hm_61 rfl sc_344 rfl (e198_) ?_
            refine ga_aload_n (v := .ref 344) hm_61 rfl rfl rfl ?_
            refine gIi (nY := 1) (F := 0) (L := 0) (As := []) (b := 344) (rest := [.int (Int32.ofInt (F1 344 5)), .ref 344]) hm_61 rfl hm_59 rfl rfl (fl_ob sc_344) rfl rfl rfl rfl rfl (by omega) (by omega) ?_
            intro f199_ l200_ h201_ h202_
            show fl_R xi_ms 59 f199_ l200_ 0 [(0, .ref 344)] [] _ _
            refine ga_aload_n (v := .ref 344) hm_59 rfl rfl rfl ?_
            have b203_ : 0 ≤ F189_ 344 9 ∧ F189_ 344 9 ≤ 5 := gi_g g190_ rfl
            refine ga_geti (z := F189_ 344 9) hm_59 rfl sc_344 rfl (rfl) ?_
            refine fl_if_le (a := F189_ 344 9) hm_59 rfl ⟨by omega, by omega⟩ (fun h204_ => ?_) (fun h205_ => ?_)
            · exfalso; omega
            refine fl_iconst hm_59 rfl ?_
            refine fl_goto hm_59 rfl ?_
            refine gr_i hm_59 rfl rfl (ga_nb (by omega)) ?_
            clear h201_ h202_ f199_ l200_
            refine fl_if_eq hm_61 rfl ⟨by omega, by omega⟩ (fun h => absurd h (by omega)) (fun _ => ?_)
            refine fl_iconst hm_61 rfl ?_
            refine fl_goto hm_61 rfl ?_
            refine ga_iadd (a := F1 344 5) (b := 0) (c := F1 344 5) hm_61 rfl (by omega) ?_
            refine ga_puti (z := F1 344 5) hm_61 rfl sc_344 rfl rfl ?_
            refine gr_v hm_61 rfl rfl ?_
            clear h196_ h197_ f194_ l195_
            refine ga_aload_n (v := .ref 344) hm_187 rfl rfl rfl ?_
            refine gIi (nY := 1) (F := 0) (L := 0) (As := []) (b := 344) (rest := []) hm_187 rfl hm_59 rfl rfl (fl_ob sc_344) rfl rfl rfl rfl rfl (by omega) (by omega) ?_
            intro f206_ l207_ h208_ h209_
            show fl_R xi_ms 59 f206_ l207_ 0 [(0, .ref 344)] [] _ _
            refine ga_aload_n (v := .ref 344) hm_59 rfl rfl rfl ?_
            refine ga_geti (z := F189_ 344 9) hm_59 rfl sc_344 rfl (fl_u_ne (by omega)) ?_
            refine fl_if_le (a := F189_ 344 9) hm_59 rfl ⟨by omega, by omega⟩ (fun h210_ => ?_) (fun h211_ => ?_)
            · exfalso; omega
            refine fl_iconst hm_59 rfl ?_
            refine fl_goto hm_59 rfl ?_
            refine gr_i hm_59 rfl rfl (ga_nb (by omega)) ?_
            clear h208_ h209_ f206_ l207_
            refine fl_if_eq hm_187 rfl ⟨by omega, by omega⟩ (fun h => absurd h (by omega)) (fun _ => ?_)
            obtain ⟨F212_, q213_⟩ : ∃ F9_, F9_ = (fl_u F189_ 344 5 (F1 344 5)) := ⟨_, rfl⟩
            rw [← q213_]
            have g214_ : gi F212_ := by rw [q213_]; exact gi_u (g190_) rfl (by omega) (by omega)
            have g215_ : fs [(344, 344, 5, 5), (344, 344, 9, 10), (344, 344, 15, 15), (349, 349, 0, 100000)] F F212_ := by rw [q213_]; exact fs_u (g192_) rfl
            have rk216_ : rk K F212_ := by rw [q213_]; exact rk_u (rk193_) (by omega) (by omega)
            refine gr_v hm_187 rfl rfl ?_
            have e217_ : F212_ 344 9 = F189_ 344 9 := by rw [q213_]; exact fl_u_ne (by omega)
            have e218_ : F212_ 344 10 = F189_ 344 10 := by rw [q213_]; exact fl_u_ne (by omega)
            have e219_ : F212_ 344 5 = F1 344 5 := by rw [q213_]; exact fl_u_eq
            have b220_ : 0 ≤ F189_ 344 10 ∧ F189_ 344 10 ≤ 600 := gi_g g190_ rfl
            have b221_ : 0 ≤ F 344 10 ∧ F 344 10 ≤ 600 := gi_g hgi rfl
            have b222_ : 0 ≤ F 344 5 ∧ F 344 5 ≤ 600 := gi_g hgi rfl
            exact Or.inl ⟨F212_, rfl, g214_, g215_, (by omega), (⟨by intro h0_; have hs_ := c187_s; rw [hsp, st1_f2 (by omega) (by omega) (by omega) (ra_fi (by have x_ := (rpn_fs hl s41_ (fun _ => (fs_n (by omega) rfl)) (fs_n (by omega) rfl)); rw [e132_] at x_; exact x_) c35_ c144_ c145_ c146_) (by omega)]; congr 2 <;> omega, fun h0_ => by exfalso; omega⟩), (by omega)⟩
          exfalso; omega
        refine ga_aload_n (v := .ref 344) hm_187 rfl rfl rfl ?_
        refine fl_iconst hm_187 rfl ?_
        have e223_ : F39_ 344 5 = F1 344 5 := (s41_ 344 5 rfl).trans (rfl)
        refine gVv (nY := 2) (F := 0) (L := 0) (As := [.int (Int32.ofInt 1)]) (b := 344) (rest := []) hm_187 rfl hm_54 rfl rfl (fl_ob sc_344) rfl rfl rfl rfl rfl (by omega) (by omega) (mc_54 hG F39_ X g40_ (K) (1) hgK rk131_ hkt (by omega) (by omega)) (fun _ _ h => False.elim h) ?_
        have b225_ : 0 ≤ F39_ 344 10 ∧ F39_ 344 10 ≤ 600 := gi_g g40_ rfl
        have b226_ : 0 ≤ F39_ 344 9 ∧ F39_ 344 9 ≤ 5 := gi_g g40_ rfl
        rintro A1_ ⟨F230_, hA_, g231_, s232_, c227_, c228_, c229_⟩
        subst hA_
        have g233_ : fs [(344, 344, 5, 5), (344, 344, 9, 10), (344, 344, 15, 15), (349, 349, 0, 100000)] F F230_ := fs_tr g130_ s232_ rfl
        have rk234_ : rk K F230_ := rk_fs rk131_ s232_ (fun r k h => (fs_n (by omega) rfl)) (fs_n (by omega) rfl)
        try simp only [e223_] at c228_
        try simp only [e223_] at c229_
        have c228_s := c228_.1 (by omega)
        clear c228_
        refine ga_aload_n (v := .ref 344) hm_187 rfl rfl rfl ?_
        refine gIi (nY := 1) (F := 0) (L := 0) (As := []) (b := 344) (rest := []) hm_187 rfl hm_59 rfl rfl (fl_ob sc_344) rfl rfl rfl rfl rfl (by omega) (by omega) ?_
        intro f235_ l236_ h237_ h238_
        show fl_R xi_ms 59 f235_ l236_ 0 [(0, .ref 344)] [] _ _
        refine ga_aload_n (v := .ref 344) hm_59 rfl rfl rfl ?_
        have b239_ : 0 ≤ F230_ 344 9 ∧ F230_ 344 9 ≤ 5 := gi_g g231_ rfl
        refine ga_geti (z := F230_ 344 9) hm_59 rfl sc_344 rfl (rfl) ?_
        refine fl_if_le (a := F230_ 344 9) hm_59 rfl ⟨by omega, by omega⟩ (fun h240_ => ?_) (fun h241_ => ?_)
        · exfalso; omega
        refine fl_iconst hm_59 rfl ?_
        refine fl_goto hm_59 rfl ?_
        refine gr_i hm_59 rfl rfl (ga_nb (by omega)) ?_
        clear h237_ h238_ f235_ l236_
        refine fl_if_ne hm_187 rfl ⟨by omega, by omega⟩ (fun _ => ?_) (fun h => absurd (by omega) h)
        refine ga_aload_n (v := .ref 344) hm_187 rfl rfl rfl ?_
        refine gIv (nY := 1) (F := 1) (L := 20) (As := []) (b := 344) (rest := []) hm_187 rfl hm_61 rfl rfl (fl_ob sc_344) rfl rfl rfl rfl rfl (by omega) (by omega) ?_
        intro f242_ l243_ h244_ h245_
        show fl_R xi_ms 61 f242_ l243_ 0 [(0, .ref 344)] [] _ _
        refine ga_aload_n (v := .ref 344) hm_61 rfl rfl rfl ?_
        refine ga_dup hm_61 rfl rfl ?_
        have e246_ : F230_ 344 5 = F1 344 5 := (s232_ 344 5 rfl).trans (e223_)
        refine ga_geti (z := F1 344 5) hm_61 rfl sc_344 rfl (e246_) ?_
        refine ga_aload_n (v := .ref 344) hm_61 rfl rfl rfl ?_
        refine gIi (nY := 1) (F := 0) (L := 0) (As := []) (b := 344) (rest := [.int (Int32.ofInt (F1 344 5)), .ref 344]) hm_61 rfl hm_59 rfl rfl (fl_ob sc_344) rfl rfl rfl rfl rfl (by omega) (by omega) ?_
        intro f247_ l248_ h249_ h250_
        show fl_R xi_ms 59 f247_ l248_ 0 [(0, .ref 344)] [] _ _
        refine ga_aload_n (v := .ref 344) hm_59 rfl rfl rfl ?_
        refine ga_geti (z := F230_ 344 9) hm_59 rfl sc_344 rfl (rfl) ?_
        refine fl_if_le (a := F230_ 344 9) hm_59 rfl ⟨by omega, by omega⟩ (fun h251_ => ?_) (fun h252_ => ?_)
        · exfalso; omega
        refine fl_iconst hm_59 rfl ?_
        refine fl_goto hm_59 rfl ?_
        refine gr_i hm_59 rfl rfl (ga_nb (by omega)) ?_
        clear h249_ h250_ f247_ l248_
        refine fl_if_eq hm_61 rfl ⟨by omega, by omega⟩ (fun h => absurd h (by omega)) (fun _ => ?_)
        refine fl_iconst hm_61 rfl ?_
        refine fl_goto hm_61 rfl ?_
        refine ga_iadd (a := F1 344 5) (b := 0) (c := F1 344 5) hm_61 rfl (by omega) ?_
        refine ga_puti (z := F1 344 5) hm_61 rfl sc_344 rfl rfl ?_
        refine gr_v hm_61 rfl rfl ?_
        clear h244_ h245_ f242_ l243_
        refine ga_aload_n (v := .ref 344) hm_187 rfl rfl rfl ?_
        refine gIi (nY := 1) (F := 0) (L := 0) (As := []) (b := 344) (rest := []) hm_187 rfl hm_59 rfl rfl (fl_ob sc_344) rfl rfl rfl rfl rfl (by omega) (by omega) ?_
        intro f253_ l254_ h255_ h256_
        show fl_R xi_ms 59 f253_ l254_ 0 [(0, .ref 344)] [] _ _
        refine ga_aload_n (v := .ref 344) hm_59 rfl rfl rfl ?_
        refine ga_geti (z := F230_ 344 9) hm_59 rfl sc_344 rfl (fl_u_ne (by omega)) ?_
        refine fl_if_le (a := F230_ 344 9) hm_59 rfl ⟨by omega, by omega⟩ (fun h257_ => ?_) (fun h258_ => ?_)
        · exfalso; omega
        refine fl_iconst hm_59 rfl ?_
        refine fl_goto hm_59 rfl ?_
        refine gr_i hm_59 rfl rfl (ga_nb (by omega)) ?_
        clear h255_ h256_ f253_ l254_
        refine fl_if_eq hm_187 rfl ⟨by omega, by omega⟩ (fun h => absurd h (by omega)) (fun _ => ?_)
        obtain ⟨F259_, q260_⟩ : ∃ F9_, F9_ = (fl_u F230_ 344 5 (F1 344 5)) := ⟨_, rfl⟩
        rw [← q260_]
        have g261_ : gi F259_ := by rw [q260_]; exact gi_u (g231_) rfl (by omega) (by omega)
        have g262_ : fs [(344, 344, 5, 5), (344, 344, 9, 10), (344, 344, 15, 15), (349, 349, 0, 100000)] F F259_ := by rw [q260_]; exact fs_u (g233_) rfl
        have rk263_ : rk K F259_ := by rw [q260_]; exact rk_u (rk234_) (by omega) (by omega)
        refine gr_v hm_187 rfl rfl ?_
        have e264_ : F259_ 344 9 = F230_ 344 9 := by rw [q260_]; exact fl_u_ne (by omega)
        have e265_ : F259_ 344 10 = F230_ 344 10 := by rw [q260_]; exact fl_u_ne (by omega)
        have e266_ : F259_ 344 5 = F1 344 5 := by rw [q260_]; exact fl_u_eq
        have b267_ : 0 ≤ F230_ 344 10 ∧ F230_ 344 10 ≤ 600 := gi_g g231_ rfl
        have b268_ : 0 ≤ F 344 10 ∧ F 344 10 ≤ 600 := gi_g hgi rfl
        have b269_ : 0 ≤ F 344 5 ∧ F 344 5 ≤ 600 := gi_g hgi rfl
        exact Or.inl ⟨F259_, rfl, g261_, g262_, (by omega), (⟨by intro h0_; have hs_ := c228_s; rw [hsp, st1_f4 (by omega) (by omega)]; congr 2 <;> omega, fun h0_ => by exfalso; omega⟩), (by omega)⟩
      exfalso; omega
    have b270_ : 0 ≤ F 344 15 ∧ F 344 15 ≤ 4 := gi_g hgi rfl
    have b271_ : 0 ≤ F 344 5 ∧ F 344 5 ≤ 600 := gi_g hgi rfl
    have b272_ : 0 ≤ K 1 6 ∧ K 1 6 ≤ 601 := gi_g hgK rfl
    exact L4_ _ (1) ([]) F rfl hgi fs_refl (by omega) (rpn_0 h15) (Or.inl ⟨rfl, Or.inl rfl⟩) (by omega) (rfl)
  refine fl_iconst hm_187 rfl ?_
  refine ga_istore_n (lv2 := [(1, .int (Int32.ofInt 1)), (0, .ref 344)]) hm_187 rfl (Nat.le_of_ble_eq_true rfl) rfl ?_
  refine ga_iload_n (z := 1) hm_187 rfl rfl ?_
  refine fl_if_eq hm_187 rfl ⟨by omega, by omega⟩ (fun h => absurd h (by omega)) (fun _ => ?_)
  refine ga_aload_n (v := .ref 344) hm_187 rfl rfl rfl ?_
  refine gIi (nY := 1) (F := 0) (L := 0) (As := []) (b := 344) (rest := []) hm_187 rfl hm_59 rfl rfl (fl_ob sc_344) rfl rfl rfl rfl rfl (by omega) (by omega) ?_
  intro f273_ l274_ h275_ h276_
  show fl_R xi_ms 59 f273_ l274_ 0 [(0, .ref 344)] [] _ _
  refine ga_aload_n (v := .ref 344) hm_59 rfl rfl rfl ?_
  refine ga_geti (z := F 344 9) hm_59 rfl sc_344 rfl (rfl) ?_
  refine fl_if_le (a := F 344 9) hm_59 rfl ⟨by omega, by omega⟩ (fun h277_ => ?_) (fun h278_ => ?_)
  · exfalso; omega
  refine fl_iconst hm_59 rfl ?_
  refine fl_goto hm_59 rfl ?_
  refine gr_i hm_59 rfl rfl (ga_nb (by omega)) ?_
  clear h275_ h276_ f273_ l274_
  refine fl_if_ne hm_187 rfl ⟨by omega, by omega⟩ (fun _ => ?_) (fun h => absurd (by omega) h)
  refine gr_v hm_187 rfl rfl ?_
  have b279_ : 0 ≤ F 344 10 ∧ F 344 10 ≤ 600 := gi_g hgi rfl
  have b280_ : 0 ≤ F 344 5 ∧ F 344 5 ≤ 600 := gi_g hgi rfl
  exact Or.inl ⟨F, rfl, hgi, fs_refl, (by omega), (⟨fun h0_ => by exfalso; omega, fun h0_ => by constructor <;> omega⟩), (by omega)⟩

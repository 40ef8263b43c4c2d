/-! the reference reads a problem -/
theorem tr5 {F : fl_N} {l tl : List Int} (h : trm F 5 2 l tl) : rpn (F 364) (F 344 33) l ∧ rty (F 365) 0 tl := by
  rcases h with h | h
  · exact h.2.2
  · omega
theorem tr5_0 {F : fl_N} (h : F 344 33 = 0) : trm F 5 2 [] [] := Or.inl ⟨rfl, rfl, rpn_0 (a := 364) h, fun j x hx => by simp at hx⟩

/-! the reference reads a problem, exactly (draft) -/
def sp_o1 (K : fl_N) (ts l tl : List Int) (p : Int) : PR (Int × List Int × List Int) := if 6 ≤ l.length then pf K p 1 else sp_typed K ts 2 l tl p
theorem ty_rt {K : fl_N} {ts l tl : List Int} {p : Int} (h3 : K 3 p.toNat = 2) (hz : idx l (K 6 p.toNat) < 0) (hp : p < K 1 6 - 1) : sp_typed K ts 2 l tl p = pb (sp_rt K ts (p + 1)) (fun r => .inr (r.1, l ++ [K 6 p.toNat], tl ++ [r.2])) := by
  rw [sp_typed, sp_new, if_pos h3, if_pos hz, sk, if_pos hp, pb_r, sp_rt]
  by_cases c : isw K (p + 1) [45] = true
  · simp only [c, if_true]
  · simp only [c, if_false]
    rfl
def sp_i1 (K : fl_N) (l tl pl : List Int) (ps : List (List Int)) (m : Nat) (p : Int) : PR Int := pb (sp_atoms K 2 l tl pl ps m p) (fun q => if K 3 q.toNat = 1 then .inr q else pf K q 1)
theorem si1_e {K : fl_N} {l tl pl : List Int} {ps : List (List Int)} {m : Nat} {p : Int} (hk : K 3 p.toNat = 1) : sp_i1 K l tl pl ps m p = .inr p := by
  rw [sp_i1, spz_e (by omega), pb_r, if_pos hk]
theorem si1_f {K : fl_N} {l tl pl : List Int} {ps : List (List Int)} {m : Nat} {p : Int} (hk : ¬ K 3 p.toNat = 1) (h0 : m = 0 ∨ ¬ K 3 p.toNat = 0) : sp_i1 K l tl pl ps m p = .inl (1, K 4 p.toNat) := by
  have e : sp_atoms K 2 l tl pl ps m p = .inr p := by
    rcases h0 with h0 | h0
    · subst h0
      rfl
    · exact spz_e h0
  rw [sp_i1, e, pb_r, if_neg hk]
  rfl
theorem si1_s {K : fl_N} {l tl pl : List Int} {ps : List (List Int)} {m : Nat} {p : Int} (hm : 0 < m) (hk : K 3 p.toNat = 0) (hp : p < K 1 6 - 1) : sp_i1 K l tl pl ps m p = pb (sp_atom K 2 l tl pl ps (p + 1)) (fun p => sp_i1 K l tl pl ps (m - 1) p) := by
  obtain ⟨k, rfl⟩ : ∃ k, m = k + 1 := ⟨m - 1, by omega⟩
  rw [sp_i1]
  conv => lhs; unfold sp_atoms
  rw [if_pos hk, sk, if_pos hp, pb_as]
  rfl
theorem si1_k {K : fl_N} {l tl pl : List Int} {ps : List (List Int)} {m : Nat} {p q : Int} (hm : 0 < m) (h : sp_kind K 0 p = .inr q) : sp_i1 K l tl pl ps m p = pb (sp_atom K 2 l tl pl ps q) (fun p => sp_i1 K l tl pl ps (m - 1) p) := by
  obtain ⟨h1, h2⟩ := kd_ok h
  obtain ⟨k, rfl⟩ : ∃ k, m = k + 1 := ⟨m - 1, by omega⟩
  rw [sp_i1]
  conv => lhs; unfold sp_atoms
  rw [if_pos h1, ← h2, pb_as]
  rfl
theorem si1_kf {K : fl_N} {l tl pl : List Int} {ps : List (List Int)} {m : Nat} {p : Int} {e : Int × Int} (hk : ¬ K 3 p.toNat = 1) (h : sp_kind K 0 p = .inl e) : sp_i1 K l tl pl ps m p = .inl e := by
  unfold sp_kind at h
  split at h
  · cases h
  · rename_i h1
    rw [si1_f hk (Or.inr h1)]
    exact h
theorem at_eq {K : fl_N} {k : Int} {l tl pl : List Int} {ps : List (List Int)} {p q : Int} {α : Type} {f : Int → PR α} (h : sp_atom K k l tl pl ps p = .inr q) : pb (sp_atom K k l tl pl ps p) f = f q := by
  rw [h]
  rfl
theorem at_er {K : fl_N} {k : Int} {l tl pl : List Int} {ps : List (List Int)} {p : Int} {e : Int × Int} {α : Type} {f : Int → PR α} (h : sp_atom K k l tl pl ps p = .inl e) : pb (sp_atom K k l tl pl ps p) f = .inl e := by
  rw [h]
  rfl
theorem so_step {K : fl_N} {ts l tl l2 tl2 : List Int} {p p2 : Int} (hk : (l.length : Int) = 0 ∨ ¬ K 3 p.toNat = 1) (h : sp_o1 K ts l tl p = .inr (p2, l2, tl2)) (h2 : l2.length = l.length + 1) : sp_objs K ts (6 - l.length) l tl p = sp_objs K ts (6 - l2.length) l2 tl2 p2 := by
  unfold sp_o1 at h
  split at h
  · cases h
  · rename_i h6
    have hs := spo_step (K := K) (ts := ts) (l := l) (tl := tl) (i := (l.length : Int)) (p := p) (by omega) rfl hk
    rw [show ((6 : Int) - (l.length : Int)).toNat = 6 - l.length by omega, show ((6 : Int) - ((l.length : Int) + 1)).toNat = 6 - l2.length by omega] at hs
    rw [hs, h]
    rfl
theorem so_f {K : fl_N} {ts l tl : List Int} {p : Int} {e : Int × Int} {α : Type} {f : Int × List Int × List Int → Int → PR α} (hk : (l.length : Int) = 0 ∨ ¬ K 3 p.toNat = 1) (h : sp_o1 K ts l tl p = .inl e) : pb (sp_objs K ts (6 - l.length) l tl p) (fun q => pb (sp_kind K 1 q.1) (f q)) = .inl e := by
  unfold sp_o1 at h
  split at h
  · rename_i h6
    have h5 : ¬ K 3 p.toNat = 1 := by omega
    rw [show 6 - l.length = 0 by omega, sp_objs, pb_r, sp_kind, if_neg (show ¬ K 3 (p, l, tl).1.toNat = 1 from h5)]
    have h9 : ((1 : Int), K 4 p.toNat) = e := Sum.inl.inj h
    rw [← h9]
    rfl
  · rename_i h6
    have hs := spo_step (K := K) (ts := ts) (l := l) (tl := tl) (i := (l.length : Int)) (p := p) (by omega) rfl hk
    rw [show ((6 : Int) - (l.length : Int)).toNat = 6 - l.length by omega] at hs
    rw [hs, h]
    rfl
theorem so_e {K : fl_N} {ts l tl : List Int} {m : Nat} {p : Int} (hl : 0 < (l.length : Int)) (hk : K 3 p.toNat = 1) : sp_objs K ts m l tl p = .inr (p, l, tl) := spo_e rfl (by omega) hk
theorem si1_ok {K : fl_N} {l tl pl : List Int} {ps : List (List Int)} {m : Nat} {p q : Int} (h : sp_i1 K l tl pl ps m p = .inr q) : sp_atoms K 2 l tl pl ps m p = .inr q := by
  unfold sp_i1 at h
  obtain ⟨a, h1, h2⟩ := pb_ok h
  split at h2
  · rw [h1, Sum.inr.inj h2]
  · cases h2
theorem si1_fl {K : fl_N} {l tl pl : List Int} {ps : List (List Int)} {m : Nat} {p : Int} {e : Int × Int} {α : Type} {f : Int → PR α} (h : sp_i1 K l tl pl ps m p = .inl e) : pb (sp_atoms K 2 l tl pl ps m p) (fun r => pb (sp_kind K 1 r) f) = .inl e := by
  unfold sp_i1 at h
  cases hx : sp_atoms K 2 l tl pl ps m p with
  | inl e2 =>
    rw [hx] at h
    have h9 : e2 = e := Sum.inl.inj h
    rw [h9]
    rfl
  | inr a =>
    rw [hx, pb_r] at h
    split at h
    · cases h
    · rename_i h1
      rw [pb_r, sp_kind, if_neg h1]
      have h9 : ((1 : Int), K 4 a.toNat) = e := Sum.inl.inj h
      rw [← h9]
      rfl
def sp_r3 (K : fl_N) (l tl pl : List Int) (ps : List (List Int)) (p : Int) : PR (List Int × List Int) := pb (sp_part K [58, 105, 110, 105, 116] p) fun p => pb (sp_atoms K 2 l tl pl ps 12 p) fun p => pb (sp_kind K 1 p) fun p => pb (sp_part K [58, 103, 111, 97, 108] p) fun p => pb (sp_clause K false 2 l tl pl ps p) fun s => pb (sp_kind K 1 s.1) fun p => pb (sp_close K p) fun _ => .inr (l, tl)
def sp_r2 (K : fl_N) (ts pl : List Int) (ps : List (List Int)) (p : Int) : PR (List Int × List Int) := pb (pb (sp_objs K ts 6 [] [] p) fun q => pb (sp_kind K 1 q.1) fun p => .inr (p, q.2)) fun r => sp_r3 K r.2.1 r.2.2 pl ps r.1

/- CheapPlannerModel.readObject -/
abbrev pq_180 (G : Nat → Nat → Option Nat) (F : fl_N) (X : xi_H) (K : fl_N) (ts l tl : List Int) : Outcome → xi_H → Prop := gqv (fun A => (∃ F' : fl_N, fl_H sh_T G F' ++ X = A ∧ gi F' ∧ fs [(344, 344, 5, 5), (344, 344, 9, 10), (344, 344, 33, 33), (364, 365, 0, 100000)] F F' ∧ (¬ F' 344 9 = 0) ∧ ((F 344 9 = 0 → sp_o1 K ts l tl (F 344 5) = .inl (F' 344 9, F' 344 10)) ∧ (¬ F 344 9 = 0 → F' 344 9 = F 344 9 ∧ F' 344 10 = F 344 10)) ∧ (0 ≤ F' 344 5 ∧ F' 344 5 ≤ K 1 6 - 1) ∧ (∃ l tl, trm F' 5 2 l tl ∧ l.length = tl.length)) ∨ (∃ F' : fl_N, fl_H sh_T G F' ++ X = A ∧ gi F' ∧ fs [(344, 344, 5, 5), (344, 344, 9, 10), (344, 344, 33, 33), (364, 365, 0, 100000)] F F' ∧ (F' 344 9 = 0 ∧ F 344 9 = 0) ∧ (∃ c t, sp_o1 K ts l tl (F 344 5) = .inr (F' 344 5, l ++ [c], tl ++ [t]) ∧ trm F' 5 2 (l ++ [c]) (tl ++ [t])) ∧ (0 ≤ F' 344 5 ∧ F' 344 5 ≤ K 1 6 - 1))) gqn
set_option maxHeartbeats 16000000 in
theorem mc_180 {G : Nat → Nat → Option Nat} (hG : gg G) (F : fl_N) (X : xi_H) (hgi : gi F) (K : fl_N) (ts l tl : List Int) (hgK : gi K) (hrk : rk K F) (hkt : rkt K) (hp : 0 ≤ F 344 5 ∧ F 344 5 ≤ K 1 6 - 1) (hts : rpn (F 349) (F 344 15) ts) (ht : trm F 5 2 l tl) (hlt : l.length = tl.length) : fl_M xi_ms 180 4 89 [.ref 344] (fl_H sh_T G F ++ X) (pq_180 G F X K ts l tl) := by
  intro fr lo hfr hlo
  show fl_R xi_ms 180 fr lo 0 [(0, .ref 344)] [] _ _
  have hP := (rkt_p hkt hp.1 hp.2 hgK).1
  have hK16 : 0 ≤ K 1 6 ∧ K 1 6 ≤ 601 := gi_g hgK rfl
  have hko := hkt.1
  have hT : rpn (F 364) (F 344 33) l ∧ rty (F 365) 0 tl := tr5 ht
  have hT1 := hT.1.1
  have hb33 : 0 ≤ F 344 33 ∧ F 344 33 ≤ 6 := gi_g hgi rfl
  have b1_ : 0 ≤ F 344 9 ∧ F 344 9 ≤ 5 := gi_g hgi rfl
  by_cases h2_ : F 344 9 = 0
  ·
    refine ga_aload_n (v := .ref 344) hm_180 rfl rfl rfl ?_
    have b3_ : 0 ≤ F 344 33 ∧ F 344 33 ≤ 6 := gi_g hgi rfl
    refine ga_geti (z := F 344 33) hm_180 rfl sc_344 rfl (rfl) ?_
    refine fl_bipush hm_180 rfl rfl ?_
    refine fx_icmp_ne (a := F 344 33) (b := 6) hm_180 rfl ⟨by omega, by omega⟩ ⟨by omega, by omega⟩ (fun h4_ => ?_) (fun h5_ => ?_)
    ·
      refine ga_aload_n (v := .ref 344) hm_180 rfl rfl rfl ?_
      have b6_ : 0 ≤ F 344 5 ∧ F 344 5 ≤ 600 := gi_g hgi rfl
      refine gVl (nY := 3) (F := 2) (L := 46) (As := []) (b := 344) (rest := []) hm_180 rfl hm_58 rfl rfl (fl_ob sc_344) rfl rfl rfl rfl rfl (by omega) (by omega) (mc_58 hG F X hgi (K) hgK hrk hkt (⟨by omega, by omega⟩)) (fun _ _ h => False.elim h) ?_
      have b8_ : 0 ≤ F 344 10 ∧ F 344 10 ≤ 600 := gi_g hgi rfl
      rintro z7_ A1_ (⟨F13_, hA_, g14_, s15_, c9_, c10_, c11_, c12_⟩ | ⟨F23_, hA_, g24_, s25_, c16_, c17_, c18_, c19_, c20_, c21_, c22_⟩)
      ·
        subst hA_
        have g26_ : fs [(344, 344, 5, 5), (344, 344, 9, 10), (344, 344, 33, 33), (364, 365, 0, 100000)] F F13_ := fs_tr fs_refl s15_ rfl
        have rk27_ : rk K F13_ := rk_fs hrk s15_ (fs_rg rfl) rfl
        have c10_s := c10_.1 (by omega)
        clear c10_
        refine ga_lstore_n (lv2 := [(1, .long (Int64.ofInt z7_)), (0, .ref 344)]) hm_180 rfl (Nat.le_of_ble_eq_true rfl) rfl ?_
        refine ga_aload_n (v := .ref 344) hm_180 rfl rfl rfl ?_
        refine gIi (nY := 1) (F := 0) (L := 0) (As := []) (b := 344) (rest := []) hm_180 rfl hm_59 rfl rfl (fl_ob sc_344) rfl rfl rfl rfl rfl (by omega) (by omega) ?_
        intro f28_ l29_ h30_ h31_
        show fl_R xi_ms 59 f28_ l29_ 0 [(0, .ref 344)] [] _ _
        refine ga_aload_n (v := .ref 344) hm_59 rfl rfl rfl ?_
        have b32_ : 0 ≤ F13_ 344 9 ∧ F13_ 344 9 ≤ 5 := gi_g g14_ rfl
        refine ga_geti (z := F13_ 344 9) hm_59 rfl sc_344 rfl (rfl) ?_
        refine fl_if_le (a := F13_ 344 9) hm_59 rfl ⟨by omega, by omega⟩ (fun h33_ => ?_) (fun h34_ => ?_)
        · exfalso; omega
        refine fl_iconst hm_59 rfl ?_
        refine fl_goto hm_59 rfl ?_
        refine gr_i hm_59 rfl rfl (ga_nb (by omega)) ?_
        clear h30_ h31_ f28_ l29_
        refine fl_if_ne hm_180 rfl ⟨by omega, by omega⟩ (fun _ => ?_) (fun h => absurd (by omega) h)
        refine ga_aload_n (v := .ref 344) hm_180 rfl rfl rfl ?_
        refine gIv (nY := 1) (F := 1) (L := 20) (As := []) (b := 344) (rest := []) hm_180 rfl hm_61 rfl rfl (fl_ob sc_344) rfl rfl rfl rfl rfl (by omega) (by omega) ?_
        intro f35_ l36_ h37_ h38_
        show fl_R xi_ms 61 f35_ l36_ 0 [(0, .ref 344)] [] _ _
        refine ga_aload_n (v := .ref 344) hm_61 rfl rfl rfl ?_
        refine ga_dup hm_61 rfl rfl ?_
        have e39_ : F13_ 344 5 = F 344 5 := (s15_ 344 5 rfl).trans (rfl)
        refine ga_geti (z := F 344 5) hm_61 rfl sc_344 rfl (e39_) ?_
        refine ga_aload_n (v := .ref 344) hm_61 rfl rfl rfl ?_
        refine gIi (nY := 1) (F := 0) (L := 0) (As := []) (b := 344) (rest := [.int (Int32.ofInt (F 344 5)), .ref 344]) hm_61 rfl hm_59 rfl rfl (fl_ob sc_344) rfl rfl rfl rfl rfl (by omega) (by omega) ?_
        intro f40_ l41_ h42_ h43_
        show fl_R xi_ms 59 f40_ l41_ 0 [(0, .ref 344)] [] _ _
        refine ga_aload_n (v := .ref 344) hm_59 rfl rfl rfl ?_
        refine ga_geti (z := F13_ 344 9) hm_59 rfl sc_344 rfl (rfl) ?_
        refine fl_if_le (a := F13_ 344 9) hm_59 rfl ⟨by omega, by omega⟩ (fun h44_ => ?_) (fun h45_ => ?_)
        · exfalso; omega
        refine fl_iconst hm_59 rfl ?_
        refine fl_goto hm_59 rfl ?_
        refine gr_i hm_59 rfl rfl (ga_nb (by omega)) ?_
        clear h42_ h43_ f40_ l41_
        refine fl_if_eq hm_61 rfl ⟨by omega, by omega⟩ (fun h => absurd h (by omega)) (fun _ => ?_)
        refine fl_iconst hm_61 rfl ?_
        refine fl_goto hm_61 rfl ?_
        refine ga_iadd (a := F 344 5) (b := 0) (c := F 344 5) hm_61 rfl (by omega) ?_
        refine ga_puti (z := F 344 5) hm_61 rfl sc_344 rfl rfl ?_
        refine gr_v hm_61 rfl rfl ?_
        clear h37_ h38_ f35_ l36_
        refine ga_aload_n (v := .ref 344) hm_180 rfl rfl rfl ?_
        refine gIi (nY := 1) (F := 0) (L := 0) (As := []) (b := 344) (rest := []) hm_180 rfl hm_59 rfl rfl (fl_ob sc_344) rfl rfl rfl rfl rfl (by omega) (by omega) ?_
        intro f46_ l47_ h48_ h49_
        show fl_R xi_ms 59 f46_ l47_ 0 [(0, .ref 344)] [] _ _
        refine ga_aload_n (v := .ref 344) hm_59 rfl rfl rfl ?_
        refine ga_geti (z := F13_ 344 9) hm_59 rfl sc_344 rfl (fl_u_ne (by first | exact nc_ rfl | decide | omega)) ?_
        refine fl_if_le (a := F13_ 344 9) hm_59 rfl ⟨by omega, by omega⟩ (fun h50_ => ?_) (fun h51_ => ?_)
        · exfalso; omega
        refine fl_iconst hm_59 rfl ?_
        refine fl_goto hm_59 rfl ?_
        refine gr_i hm_59 rfl rfl (ga_nb (by omega)) ?_
        clear h48_ h49_ f46_ l47_
        refine fl_if_eq hm_180 rfl ⟨by omega, by omega⟩ (fun h => absurd h (by omega)) (fun _ => ?_)
        obtain ⟨F52_, q53_⟩ : ∃ Fq_, Fq_ = (fl_u F13_ 344 5 (F 344 5)) := ⟨_, rfl⟩
        rw [← q53_]
        have g54_ : gi F52_ := by rw [q53_]; exact gi_u (g14_) rfl (by omega) (by omega)
        have g55_ : fs [(344, 344, 5, 5), (344, 344, 9, 10), (344, 344, 33, 33), (364, 365, 0, 100000)] F F52_ := by rw [q53_]; exact fs_u (g26_) rfl
        have rk56_ : rk K F52_ := by rw [q53_]; exact rk_u (rk27_) (by first | decide | exact nc_ rfl | omega) (by first | decide | exact nc_ rfl | omega)
        refine gr_v hm_180 rfl rfl ?_
        have e57_ : F52_ 344 9 = F13_ 344 9 := by rw [q53_]; exact fl_u_ne (by first | exact nc_ rfl | decide | omega)
        have e58_ : F52_ 344 10 = F13_ 344 10 := by rw [q53_]; exact fl_u_ne (by first | exact nc_ rfl | decide | omega)
        have e59_ : F52_ 344 5 = F 344 5 := by rw [q53_]; exact fl_u_eq
        have b60_ : 0 ≤ F13_ 344 10 ∧ F13_ 344 10 ≤ 600 := gi_g g14_ rfl
        have e61_ : F13_ 5 2 = F 5 2 := (s15_ 5 2 rfl).trans (rfl)
        have e62_ : F52_ 5 2 = F 5 2 := by rw [q53_]; exact (fl_u_ne (by first | exact nc_ rfl | decide | omega)).trans (e61_)
        have b63_ : 0 ≤ F 5 2 ∧ F 5 2 ≤ 600 := gi_g hgi rfl
        have e64_ : F13_ 344 33 = F 344 33 := (s15_ 344 33 rfl).trans (rfl)
        have e65_ : F52_ 344 33 = F 344 33 := by rw [q53_]; exact (fl_u_ne (by first | exact nc_ rfl | decide | omega)).trans (e64_)
        exact Or.inl ⟨F52_, rfl, g54_, g55_, (by omega), (⟨by intro h0_; have hs_ := c10_s; rw [sp_o1, if_neg (by omega)]; rw [sp_typed]; have h1_ := nm_no hs_; rw [sp_nm, if_neg h1_] at hs_; have h2_ := Prod.mk.inj (Sum.inl.inj hs_); rw [sp_new, if_neg h1_]; show Sum.inl (1, K 4 _) = _; congr 2 <;> omega, fun h0_ => by exfalso; omega⟩), (⟨by omega, by omega⟩), (⟨l, tl, (by rw [q53_]; exact (trm_u (trm_fs ht s15_ (by first | exact fs_rg rfl | exact fun r j hj => (fs_n (by omega) rfl))) (by first | decide | exact nc_ rfl | omega))), hlt⟩)⟩
      subst hA_
      have g66_ : fs [(344, 344, 5, 5), (344, 344, 9, 10), (344, 344, 33, 33), (364, 365, 0, 100000)] F F23_ := fs_tr fs_refl s25_ rfl
      have rk67_ : rk K F23_ := rk_fs hrk s25_ (fs_rg rfl) rfl
      refine ga_lstore_n (lv2 := [(1, .long (Int64.ofInt z7_)), (0, .ref 344)]) hm_180 rfl (Nat.le_of_ble_eq_true rfl) rfl ?_
      refine ga_aload_n (v := .ref 344) hm_180 rfl rfl rfl ?_
      refine gIi (nY := 1) (F := 0) (L := 0) (As := []) (b := 344) (rest := []) hm_180 rfl hm_59 rfl rfl (fl_ob sc_344) rfl rfl rfl rfl rfl (by omega) (by omega) ?_
      intro f68_ l69_ h70_ h71_
      show fl_R xi_ms 59 f68_ l69_ 0 [(0, .ref 344)] [] _ _
      refine ga_aload_n (v := .ref 344) hm_59 rfl rfl rfl ?_
      have b72_ : 0 ≤ F23_ 344 9 ∧ F23_ 344 9 ≤ 5 := gi_g g24_ rfl
      refine ga_geti (z := F23_ 344 9) hm_59 rfl sc_344 rfl (rfl) ?_
      refine fl_if_le (a := F23_ 344 9) hm_59 rfl ⟨by omega, by omega⟩ (fun h73_ => ?_) (fun h74_ => ?_)
      ·
        refine fl_iconst hm_59 rfl ?_
        refine gr_i hm_59 rfl rfl (ga_nb (by omega)) ?_
        clear h70_ h71_ f68_ l69_
        refine fl_if_ne hm_180 rfl ⟨by omega, by omega⟩ (fun h => absurd h (by omega)) (fun _ => ?_)
        refine ga_aload_n (v := .ref 344) hm_180 rfl rfl rfl ?_
        refine ga_getr (b := 364) hm_180 rfl sc_344 rfl ?_
        refine fl_iconst hm_180 rfl ?_
        refine ga_aload_n (v := .ref 344) hm_180 rfl rfl rfl ?_
        have e75_ : F23_ 344 33 = F 344 33 := (s25_ 344 33 rfl).trans (rfl)
        refine ga_geti (z := F 344 33) hm_180 rfl sc_344 rfl (e75_) ?_
        refine ga_lload_n (z := z7_) hm_180 rfl rfl ?_
        refine gSi (nY := 7) (F := 0) (L := 0) (As := [.ref 364, .int (Int32.ofInt 0), .int (Int32.ofInt (F 344 33)), .long (Int64.ofInt z7_)]) (rest := []) hm_180 rfl hm_162 rfl rfl (fl_pos sc_0) rfl rfl rfl rfl (by omega) (by omega) (mc_162 hG F23_ X g24_ (364) (6) (0) (F 344 33) (z7_) sc_364 (fun _ => rfl) (⟨by omega, by omega, by omega, by omega⟩) (⟨by omega, by omega⟩))  ?_
        rintro z76_ A1_ ⟨hA_, c77_, c78_, c79_⟩
        subst hA_
        have c77_b : -1 ≤ z76_ ∧ z76_ ≤ 1000 := by omega
        have c77_o : opq _ := c77_
        have c78_o : opq _ := c78_
        have c79_o : opq _ := c79_
        clear c77_ c78_ c79_
        refine fl_iconst hm_180 rfl ?_
        refine fl_icmp_eq (a := z76_) (b := -1) hm_180 rfl ⟨by omega, by omega⟩ ⟨by omega, by omega⟩ (fun h80_ => ?_) (fun h81_ => ?_)
        ·
          refine ga_aload_n (v := .ref 344) hm_180 rfl rfl rfl ?_
          refine gIv (nY := 1) (F := 1) (L := 20) (As := []) (b := 344) (rest := []) hm_180 rfl hm_61 rfl rfl (fl_ob sc_344) rfl rfl rfl rfl rfl (by omega) (by omega) ?_
          intro f82_ l83_ h84_ h85_
          show fl_R xi_ms 61 f82_ l83_ 0 [(0, .ref 344)] [] _ _
          refine ga_aload_n (v := .ref 344) hm_61 rfl rfl rfl ?_
          refine ga_dup hm_61 rfl rfl ?_
          have e86_ : F23_ 344 5 = F 344 5 := (s25_ 344 5 rfl).trans (rfl)
          refine ga_geti (z := F 344 5) hm_61 rfl sc_344 rfl (e86_) ?_
          refine ga_aload_n (v := .ref 344) hm_61 rfl rfl rfl ?_
          refine gIi (nY := 1) (F := 0) (L := 0) (As := []) (b := 344) (rest := [.int (Int32.ofInt (F 344 5)), .ref 344]) hm_61 rfl hm_59 rfl rfl (fl_ob sc_344) rfl rfl rfl rfl rfl (by omega) (by omega) ?_
          intro f87_ l88_ h89_ h90_
          show fl_R xi_ms 59 f87_ l88_ 0 [(0, .ref 344)] [] _ _
          refine ga_aload_n (v := .ref 344) hm_59 rfl rfl rfl ?_
          refine ga_geti (z := F23_ 344 9) hm_59 rfl sc_344 rfl (rfl) ?_
          refine fl_if_le (a := F23_ 344 9) hm_59 rfl ⟨by omega, by omega⟩ (fun h91_ => ?_) (fun h92_ => ?_)
          ·
            refine fl_iconst hm_59 rfl ?_
            refine gr_i hm_59 rfl rfl (ga_nb (by omega)) ?_
            clear h89_ h90_ f87_ l88_
            refine fl_if_eq hm_61 rfl ⟨by omega, by omega⟩ (fun _ => ?_) (fun h => absurd (by omega) h)
            refine fl_iconst hm_61 rfl ?_
            refine ga_iadd (a := F 344 5) (b := 1) (c := F 344 5 + 1) hm_61 rfl (by omega) ?_
            refine ga_puti (z := F 344 5 + 1) hm_61 rfl sc_344 rfl rfl ?_
            refine gr_v hm_61 rfl rfl ?_
            clear h84_ h85_ f82_ l83_
            refine ga_aload_n (v := .ref 344) hm_180 rfl rfl rfl ?_
            refine gIi (nY := 1) (F := 0) (L := 0) (As := []) (b := 344) (rest := []) hm_180 rfl hm_59 rfl rfl (fl_ob sc_344) rfl rfl rfl rfl rfl (by omega) (by omega) ?_
            intro f93_ l94_ h95_ h96_
            show fl_R xi_ms 59 f93_ l94_ 0 [(0, .ref 344)] [] _ _
            refine ga_aload_n (v := .ref 344) hm_59 rfl rfl rfl ?_
            refine ga_geti (z := F23_ 344 9) hm_59 rfl sc_344 rfl (fl_u_ne (by first | exact nc_ rfl | decide | omega)) ?_
            refine fl_if_le (a := F23_ 344 9) hm_59 rfl ⟨by omega, by omega⟩ (fun h97_ => ?_) (fun h98_ => ?_)
            ·
              refine fl_iconst hm_59 rfl ?_
              refine gr_i hm_59 rfl rfl (ga_nb (by omega)) ?_
              clear h95_ h96_ f93_ l94_
              refine fl_if_eq hm_180 rfl ⟨by omega, by omega⟩ (fun _ => ?_) (fun h => absurd (by omega) h)
              refine ga_aload_n (v := .ref 344) hm_180 rfl rfl rfl ?_
              refine ga_getr (b := 364) hm_180 rfl sc_344 rfl ?_
              refine ga_aload_n (v := .ref 344) hm_180 rfl rfl rfl ?_
              refine ga_geti (z := F 344 33) hm_180 rfl sc_344 rfl ((fl_u_ne (by first | exact nc_ rfl | decide | omega)).trans (e75_)) ?_
              refine ga_lload_n (z := z7_) hm_180 rfl rfl ?_
              refine fl_last (z := F 344 33) (v := z7_) hm_180 rfl sc_364 (by omega) (by omega) (by omega) ?_
              refine ga_aload_n (v := .ref 344) hm_180 rfl rfl rfl ?_
              refine ga_getr (b := 365) hm_180 rfl sc_344 rfl ?_
              refine ga_aload_n (v := .ref 344) hm_180 rfl rfl rfl ?_
              refine ga_geti (z := F 344 33) hm_180 rfl sc_344 rfl ((fl_u_ne (by first | exact nc_ rfl | decide | omega)).trans ((fl_u_ne (by first | exact nc_ rfl | decide | omega)).trans (e75_))) ?_
              refine ga_aload_n (v := .ref 344) hm_180 rfl rfl rfl ?_
              obtain ⟨F99_, q100_⟩ : ∃ Fq_, Fq_ = (fl_u (fl_u F23_ 344 5 (F 344 5 + 1)) 364 (F 344 33).toNat z7_) := ⟨_, rfl⟩
              rw [← q100_]
              have g101_ : gi F99_ := by rw [q100_]; exact gi_u (gi_u (g24_) rfl (by omega) (by omega)) rfl (by omega) (by omega)
              have g102_ : fs [(344, 344, 5, 5), (344, 344, 9, 10), (344, 344, 33, 33), (364, 365, 0, 100000)] F F99_ := by rw [q100_]; exact fs_u (fs_u (g66_) rfl) (fs_z (fs_z (fs_z (fs_y (by omega)))))
              have rk103_ : rk K F99_ := by rw [q100_]; exact rk_u (rk_u (rk67_) (by first | decide | exact nc_ rfl | omega) (by first | decide | exact nc_ rfl | omega)) (by first | decide | exact nc_ rfl | omega) (by first | decide | exact nc_ rfl | omega)
              have e104_ : F99_ 344 5 = F 344 5 + 1 := by rw [q100_]; exact (fl_u_ne (by first | exact nc_ rfl | decide | omega)).trans (fl_u_eq)
              refine gVi (nY := 2) (F := 3) (L := 68) (As := []) (b := 344) (rest := [.int (Int32.ofInt (F 344 33)), .ref 365]) hm_180 rfl hm_186 rfl rfl (fl_ob sc_344) rfl rfl rfl rfl rfl (by omega) (by omega) (mc_186 hG F99_ X g101_ (K) (ts) hgK rk103_ hkt (⟨by omega, by omega⟩) ((by rw [q100_]; exact (rpn_u (rpn_u (rpn_fs hts s25_ (fun _ => (by first | exact fs_c rfl | exact (fs_n (by omega) rfl))) (by first | exact fs_c rfl | exact (fs_n (by omega) rfl))) (by first | decide | exact nc_ rfl | omega) (by first | decide | exact nc_ rfl | omega)) (by first | decide | exact nc_ rfl | omega) (by first | decide | exact nc_ rfl | omega))))) (fun _ _ h => False.elim h) ?_
              have e106_ : F99_ 344 10 = F23_ 344 10 := by rw [q100_]; exact (fl_u_ne (by first | exact nc_ rfl | decide | omega)).trans (fl_u_ne (by first | exact nc_ rfl | decide | omega))
              have b107_ : 0 ≤ F23_ 344 10 ∧ F23_ 344 10 ≤ 600 := gi_g g24_ rfl
              have e108_ : F99_ 344 9 = F23_ 344 9 := by rw [q100_]; exact (fl_u_ne (by first | exact nc_ rfl | decide | omega)).trans (fl_u_ne (by first | exact nc_ rfl | decide | omega))
              rintro z105_ A1_ (⟨F113_, hA_, g114_, s115_, c109_, c110_, c111_, c112_⟩ | ⟨F120_, hA_, g121_, s122_, c116_, c117_, c118_, c119_⟩)
              ·
                subst hA_
                have g123_ : fs [(344, 344, 5, 5), (344, 344, 9, 10), (344, 344, 33, 33), (364, 365, 0, 100000)] F F113_ := fs_tr g102_ s115_ rfl
                have rk124_ : rk K F113_ := rk_fs rk103_ s115_ (fs_rg rfl) rfl
                try simp only [e104_, e106_, e108_] at c110_
                have c110_s := c110_.1 (by omega)
                clear c110_
                refine fl_iast (z := F 344 33) (v := z105_) hm_180 rfl sc_365 (by omega) (by omega) (by omega) ?_
                refine ga_aload_n (v := .ref 344) hm_180 rfl rfl rfl ?_
                refine ga_dup hm_180 rfl rfl ?_
                have e125_ : F99_ 344 33 = F 344 33 := by rw [q100_]; exact (fl_u_ne (by first | exact nc_ rfl | decide | omega)).trans ((fl_u_ne (by first | exact nc_ rfl | decide | omega)).trans (e75_))
                have e126_ : F113_ 344 33 = F 344 33 := (s115_ 344 33 rfl).trans (e125_)
                refine ga_geti (z := F 344 33) hm_180 rfl sc_344 rfl ((fl_u_ne (by first | exact nc_ rfl | decide | omega)).trans (e126_)) ?_
                refine fl_iconst hm_180 rfl ?_
                refine ga_iadd (a := F 344 33) (b := 1) (c := F 344 33 + 1) hm_180 rfl (by omega) ?_
                refine ga_puti (z := F 344 33 + 1) hm_180 rfl sc_344 rfl rfl ?_
                obtain ⟨F127_, q128_⟩ : ∃ Fq_, Fq_ = (fl_u (fl_u F113_ 365 (F 344 33).toNat z105_) 344 33 (F 344 33 + 1)) := ⟨_, rfl⟩
                rw [← q128_]
                have g129_ : gi F127_ := by rw [q128_]; exact gi_u (gi_u (g114_) rfl (by omega) (by omega)) rfl (by omega) (by omega)
                have g130_ : fs [(344, 344, 5, 5), (344, 344, 9, 10), (344, 344, 33, 33), (364, 365, 0, 100000)] F F127_ := by rw [q128_]; exact fs_u (fs_u (g123_) (fs_z (fs_z (fs_z (fs_y (by omega)))))) rfl
                have rk131_ : rk K F127_ := by rw [q128_]; exact rk_u (rk_u (rk124_) (by first | decide | exact nc_ rfl | omega) (by first | decide | exact nc_ rfl | omega)) (by first | decide | exact nc_ rfl | omega) (by first | decide | exact nc_ rfl | omega)
                refine gr_v hm_180 rfl rfl ?_
                have e132_ : F127_ 344 9 = F113_ 344 9 := by rw [q128_]; exact (fl_u_ne (by first | exact nc_ rfl | decide | omega)).trans (fl_u_ne (by first | exact nc_ rfl | decide | omega))
                have b133_ : 0 ≤ F113_ 344 9 ∧ F113_ 344 9 ≤ 5 := gi_g g114_ rfl
                have e134_ : F127_ 344 10 = F113_ 344 10 := by rw [q128_]; exact (fl_u_ne (by first | exact nc_ rfl | decide | omega)).trans (fl_u_ne (by first | exact nc_ rfl | decide | omega))
                have e135_ : F127_ 344 5 = F113_ 344 5 := by rw [q128_]; exact (fl_u_ne (by first | exact nc_ rfl | decide | omega)).trans (fl_u_ne (by first | exact nc_ rfl | decide | omega))
                have b136_ : 0 ≤ F113_ 344 10 ∧ F113_ 344 10 ≤ 600 := gi_g g114_ rfl
                have b137_ : 0 ≤ F113_ 344 5 ∧ F113_ 344 5 ≤ 600 := gi_g g114_ rfl
                have e138_ : F23_ 5 2 = F 5 2 := (s25_ 5 2 rfl).trans (rfl)
                have e139_ : F99_ 5 2 = F 5 2 := by rw [q100_]; exact (fl_u_ne (by first | exact nc_ rfl | decide | omega)).trans ((fl_u_ne (by first | exact nc_ rfl | decide | omega)).trans (e138_))
                have e140_ : F113_ 5 2 = F 5 2 := (s115_ 5 2 rfl).trans (e139_)
                have e141_ : F127_ 5 2 = F 5 2 := by rw [q128_]; exact (fl_u_ne (by first | exact nc_ rfl | decide | omega)).trans ((fl_u_ne (by first | exact nc_ rfl | decide | omega)).trans (e140_))
                have b142_ : 0 ≤ F 5 2 ∧ F 5 2 ≤ 600 := gi_g hgi rfl
                have e143_ : F127_ 344 33 = F 344 33 + 1 := by rw [q128_]; exact fl_u_eq
                have e144_ : F99_ 364 (F 344 33).toNat = z7_ := by rw [q100_]; exact fl_u_eq
                have e145_ : F113_ 364 (F 344 33).toNat = z7_ := (s115_ 364 (F 344 33).toNat (by first | exact fs_c rfl | exact (fs_n (by omega) (fs_n (by omega) rfl)))).trans (e144_)
                have e146_ : F127_ 364 (F 344 33).toNat = z7_ := by rw [q128_]; exact (fl_u_ne (by first | exact nc_ rfl | decide | omega)).trans ((fl_u_ne (by first | exact nc_ rfl | decide | omega)).trans (e145_))
                have e147_ : F127_ 365 (F 344 33).toNat = z105_ := by rw [q128_]; exact (fl_u_ne (by first | exact nc_ rfl | decide | omega)).trans (fl_u_eq)
                exact Or.inl ⟨F127_, rfl, g129_, g130_, (by omega), (⟨by intro h0_; have hs_ := c110_s; rw [sp_o1, if_neg (by omega)]; rw [ty_rt (by omega) (by rw [(ra_fi (rpn_cg hT.1 (fun j hj => (show F23_ 364 j = F 364 j from (s25_ 364 j (by first | exact fs_c rfl | exact (fs_n (by omega) rfl)))))) c19_ c77_o c78_o c79_o)]; omega) (by omega)]; rw [rt_er hs_]; congr 2 <;> omega, fun h0_ => by exfalso; omega⟩), (⟨by omega, by omega⟩), (⟨l ++ [_], tl ++ [z105_ - 1], Or.inl ⟨rfl, rfl, by rw [e143_]; exact rpn_at hT.1 (fun j hj => (Eq.trans (a := F127_ 364 j) (b := F113_ 364 j) (by rw [q128_]; exact (fl_u_ne (by first | exact nc_ rfl | decide | omega)).trans ((fl_u_ne (by first | exact nc_ rfl | decide | omega)))) (Eq.trans (a := F113_ 364 j) (b := F99_ 364 j) (s115_ 364 j (by first | exact fs_c rfl | exact (fs_n (by omega) (fs_n (by omega) rfl)))) (Eq.trans (a := F99_ 364 j) (b := F23_ 364 j) (by rw [q100_]; exact (fl_u_ne (by first | exact nc_ rfl | decide | omega)).trans ((fl_u_ne (by first | exact nc_ rfl | decide | omega)))) (show F23_ 364 j = F 364 j from (s25_ 364 j (by first | exact fs_c rfl | exact (fs_n (by omega) rfl)))))))) (e146_) c19_, rty_snoc hT.2 (fun j hj => (Eq.trans (a := F127_ 365 (0 + j)) (b := F113_ 365 (0 + j)) (by rw [q128_]; exact (fl_u_ne (by first | exact nc_ rfl | decide | omega)).trans ((fl_u_ne (by first | exact nc_ rfl | decide | omega)))) (Eq.trans (a := F113_ 365 (0 + j)) (b := F99_ 365 (0 + j)) (s115_ 365 (0 + j) (by first | exact fs_c rfl | exact (fs_n (by omega) (fs_n (by omega) rfl)))) (Eq.trans (a := F99_ 365 (0 + j)) (b := F23_ 365 (0 + j)) (by rw [q100_]; exact (fl_u_ne (by first | exact nc_ rfl | decide | omega)).trans ((fl_u_ne (by first | exact nc_ rfl | decide | omega)))) (show F23_ 365 (0 + j) = F 365 (0 + j) from (s25_ 365 (0 + j) (by first | exact fs_c rfl | exact (fs_n (by omega) rfl)))))))) (by rw [show 0 + tl.length = (F 344 33).toNat by omega]; exact Eq.trans (e147_) (by omega))⟩, by simp only [List.length_append, List.length_singleton]; omega⟩)⟩
              subst hA_
              have g148_ : fs [(344, 344, 5, 5), (344, 344, 9, 10), (344, 344, 33, 33), (364, 365, 0, 100000)] F F120_ := fs_tr g102_ s122_ rfl
              have rk149_ : rk K F120_ := rk_fs rk103_ s122_ (fs_rg rfl) rfl
              try simp only [e108_] at c116_
              try simp only [e104_] at c117_
              refine fl_iast (z := F 344 33) (v := z105_) hm_180 rfl sc_365 (by omega) (by omega) (by omega) ?_
              refine ga_aload_n (v := .ref 344) hm_180 rfl rfl rfl ?_
              refine ga_dup hm_180 rfl rfl ?_
              have e150_ : F99_ 344 33 = F 344 33 := by rw [q100_]; exact (fl_u_ne (by first | exact nc_ rfl | decide | omega)).trans ((fl_u_ne (by first | exact nc_ rfl | decide | omega)).trans (e75_))
              have e151_ : F120_ 344 33 = F 344 33 := (s122_ 344 33 rfl).trans (e150_)
              refine ga_geti (z := F 344 33) hm_180 rfl sc_344 rfl ((fl_u_ne (by first | exact nc_ rfl | decide | omega)).trans (e151_)) ?_
              refine fl_iconst hm_180 rfl ?_
              refine ga_iadd (a := F 344 33) (b := 1) (c := F 344 33 + 1) hm_180 rfl (by omega) ?_
              refine ga_puti (z := F 344 33 + 1) hm_180 rfl sc_344 rfl rfl ?_
              obtain ⟨F152_, q153_⟩ : ∃ Fq_, Fq_ = (fl_u (fl_u F120_ 365 (F 344 33).toNat z105_) 344 33 (F 344 33 + 1)) := ⟨_, rfl⟩
              rw [← q153_]
              have g154_ : gi F152_ := by rw [q153_]; exact gi_u (gi_u (g121_) rfl (by omega) (by omega)) rfl (by omega) (by omega)
              have g155_ : fs [(344, 344, 5, 5), (344, 344, 9, 10), (344, 344, 33, 33), (364, 365, 0, 100000)] F F152_ := by rw [q153_]; exact fs_u (fs_u (g148_) (fs_z (fs_z (fs_z (fs_y (by omega)))))) rfl
              have rk156_ : rk K F152_ := by rw [q153_]; exact rk_u (rk_u (rk149_) (by first | decide | exact nc_ rfl | omega) (by first | decide | exact nc_ rfl | omega)) (by first | decide | exact nc_ rfl | omega) (by first | decide | exact nc_ rfl | omega)
              refine gr_v hm_180 rfl rfl ?_
              have e157_ : F152_ 344 9 = F120_ 344 9 := by rw [q153_]; exact (fl_u_ne (by first | exact nc_ rfl | decide | omega)).trans (fl_u_ne (by first | exact nc_ rfl | decide | omega))
              have b158_ : 0 ≤ F120_ 344 9 ∧ F120_ 344 9 ≤ 5 := gi_g g121_ rfl
              have e159_ : F152_ 344 10 = F120_ 344 10 := by rw [q153_]; exact (fl_u_ne (by first | exact nc_ rfl | decide | omega)).trans (fl_u_ne (by first | exact nc_ rfl | decide | omega))
              have e160_ : F152_ 344 5 = F120_ 344 5 := by rw [q153_]; exact (fl_u_ne (by first | exact nc_ rfl | decide | omega)).trans (fl_u_ne (by first | exact nc_ rfl | decide | omega))
              have b161_ : 0 ≤ F120_ 344 5 ∧ F120_ 344 5 ≤ 600 := gi_g g121_ rfl
              have e162_ : F23_ 5 2 = F 5 2 := (s25_ 5 2 rfl).trans (rfl)
              have e163_ : F99_ 5 2 = F 5 2 := by rw [q100_]; exact (fl_u_ne (by first | exact nc_ rfl | decide | omega)).trans ((fl_u_ne (by first | exact nc_ rfl | decide | omega)).trans (e162_))
              have e164_ : F120_ 5 2 = F 5 2 := (s122_ 5 2 rfl).trans (e163_)
              have e165_ : F152_ 5 2 = F 5 2 := by rw [q153_]; exact (fl_u_ne (by first | exact nc_ rfl | decide | omega)).trans ((fl_u_ne (by first | exact nc_ rfl | decide | omega)).trans (e164_))
              have b166_ : 0 ≤ F 5 2 ∧ F 5 2 ≤ 600 := gi_g hgi rfl
              have e167_ : F152_ 344 33 = F 344 33 + 1 := by rw [q153_]; exact fl_u_eq
              have e168_ : F99_ 364 (F 344 33).toNat = z7_ := by rw [q100_]; exact fl_u_eq
              have e169_ : F120_ 364 (F 344 33).toNat = z7_ := (s122_ 364 (F 344 33).toNat (by first | exact fs_c rfl | exact (fs_n (by omega) (fs_n (by omega) rfl)))).trans (e168_)
              have e170_ : F152_ 364 (F 344 33).toNat = z7_ := by rw [q153_]; exact (fl_u_ne (by first | exact nc_ rfl | decide | omega)).trans ((fl_u_ne (by first | exact nc_ rfl | decide | omega)).trans (e169_))
              have e171_ : F152_ 365 (F 344 33).toNat = z105_ := by rw [q153_]; exact (fl_u_ne (by first | exact nc_ rfl | decide | omega)).trans (fl_u_eq)
              exact Or.inr (⟨F152_, rfl, g154_, g155_, (by omega), (⟨_, z105_ - 1, by rw [sp_o1, if_neg (by omega), ty_rt (by omega) (by rw [(ra_fi (rpn_cg hT.1 (fun j hj => (show F23_ 364 j = F 364 j from (s25_ 364 j (by first | exact fs_c rfl | exact (fs_n (by omega) rfl)))))) c19_ c77_o c78_o c79_o)]; omega) (by omega), rt_eq c117_]; congr 2 <;> omega, Or.inl ⟨rfl, rfl, by rw [e167_]; exact rpn_at hT.1 (fun j hj => (Eq.trans (a := F152_ 364 j) (b := F120_ 364 j) (by rw [q153_]; exact (fl_u_ne (by first | exact nc_ rfl | decide | omega)).trans ((fl_u_ne (by first | exact nc_ rfl | decide | omega)))) (Eq.trans (a := F120_ 364 j) (b := F99_ 364 j) (s122_ 364 j (by first | exact fs_c rfl | exact (fs_n (by omega) (fs_n (by omega) rfl)))) (Eq.trans (a := F99_ 364 j) (b := F23_ 364 j) (by rw [q100_]; exact (fl_u_ne (by first | exact nc_ rfl | decide | omega)).trans ((fl_u_ne (by first | exact nc_ rfl | decide | omega)))) (show F23_ 364 j = F 364 j from (s25_ 364 j (by first | exact fs_c rfl | exact (fs_n (by omega) rfl)))))))) (e170_) c19_, rty_snoc hT.2 (fun j hj => (Eq.trans (a := F152_ 365 (0 + j)) (b := F120_ 365 (0 + j)) (by rw [q153_]; exact (fl_u_ne (by first | exact nc_ rfl | decide | omega)).trans ((fl_u_ne (by first | exact nc_ rfl | decide | omega)))) (Eq.trans (a := F120_ 365 (0 + j)) (b := F99_ 365 (0 + j)) (s122_ 365 (0 + j) (by first | exact fs_c rfl | exact (fs_n (by omega) (fs_n (by omega) rfl)))) (Eq.trans (a := F99_ 365 (0 + j)) (b := F23_ 365 (0 + j)) (by rw [q100_]; exact (fl_u_ne (by first | exact nc_ rfl | decide | omega)).trans ((fl_u_ne (by first | exact nc_ rfl | decide | omega)))) (show F23_ 365 (0 + j) = F 365 (0 + j) from (s25_ 365 (0 + j) (by first | exact fs_c rfl | exact (fs_n (by omega) rfl)))))))) (by rw [show 0 + tl.length = (F 344 33).toNat by omega]; exact Eq.trans (e171_) (by omega))⟩⟩), (⟨by omega, by omega⟩)⟩)
            exfalso; omega
          exfalso; omega
        refine ga_aload_n (v := .ref 344) hm_180 rfl rfl rfl ?_
        refine fl_iconst hm_180 rfl ?_
        have e172_ : F23_ 344 5 = F 344 5 := (s25_ 344 5 rfl).trans (rfl)
        refine gVv (nY := 2) (F := 0) (L := 0) (As := [.int (Int32.ofInt 2)]) (b := 344) (rest := []) hm_180 rfl hm_54 rfl rfl (fl_ob sc_344) rfl rfl rfl rfl rfl (by omega) (by omega) (mc_54 hG F23_ X g24_ (K) (2) hgK rk67_ hkt (⟨by omega, by omega⟩) (⟨by omega, by omega⟩)) (fun _ _ h => False.elim h) ?_
        have b174_ : 0 ≤ F23_ 344 10 ∧ F23_ 344 10 ≤ 600 := gi_g g24_ rfl
        rintro A1_ ⟨F178_, hA_, g179_, s180_, c175_, c176_, c177_⟩
        subst hA_
        have g181_ : fs [(344, 344, 5, 5), (344, 344, 9, 10), (344, 344, 33, 33), (364, 365, 0, 100000)] F F178_ := fs_tr g66_ s180_ rfl
        have rk182_ : rk K F178_ := rk_fs rk67_ s180_ (fs_rg rfl) rfl
        try simp only [e172_] at c176_
        try simp only [e172_] at c177_
        have c176_s := c176_.1 (by omega)
        clear c176_
        refine ga_aload_n (v := .ref 344) hm_180 rfl rfl rfl ?_
        refine gIv (nY := 1) (F := 1) (L := 20) (As := []) (b := 344) (rest := []) hm_180 rfl hm_61 rfl rfl (fl_ob sc_344) rfl rfl rfl rfl rfl (by omega) (by omega) ?_
        intro f183_ l184_ h185_ h186_
        show fl_R xi_ms 61 f183_ l184_ 0 [(0, .ref 344)] [] _ _
        refine ga_aload_n (v := .ref 344) hm_61 rfl rfl rfl ?_
        refine ga_dup hm_61 rfl rfl ?_
        have e187_ : F178_ 344 5 = F 344 5 := (s180_ 344 5 rfl).trans (e172_)
        refine ga_geti (z := F 344 5) hm_61 rfl sc_344 rfl (e187_) ?_
        refine ga_aload_n (v := .ref 344) hm_61 rfl rfl rfl ?_
        refine gIi (nY := 1) (F := 0) (L := 0) (As := []) (b := 344) (rest := [.int (Int32.ofInt (F 344 5)), .ref 344]) hm_61 rfl hm_59 rfl rfl (fl_ob sc_344) rfl rfl rfl rfl rfl (by omega) (by omega) ?_
        intro f188_ l189_ h190_ h191_
        show fl_R xi_ms 59 f188_ l189_ 0 [(0, .ref 344)] [] _ _
        refine ga_aload_n (v := .ref 344) hm_59 rfl rfl rfl ?_
        have b192_ : 0 ≤ F178_ 344 9 ∧ F178_ 344 9 ≤ 5 := gi_g g179_ rfl
        refine ga_geti (z := F178_ 344 9) hm_59 rfl sc_344 rfl (rfl) ?_
        refine fl_if_le (a := F178_ 344 9) hm_59 rfl ⟨by omega, by omega⟩ (fun h193_ => ?_) (fun h194_ => ?_)
        · exfalso; omega
        refine fl_iconst hm_59 rfl ?_
        refine fl_goto hm_59 rfl ?_
        refine gr_i hm_59 rfl rfl (ga_nb (by omega)) ?_
        clear h190_ h191_ f188_ l189_
        refine fl_if_eq hm_61 rfl ⟨by omega, by omega⟩ (fun h => absurd h (by omega)) (fun _ => ?_)
        refine fl_iconst hm_61 rfl ?_
        refine fl_goto hm_61 rfl ?_
        refine ga_iadd (a := F 344 5) (b := 0) (c := F 344 5) hm_61 rfl (by omega) ?_
        refine ga_puti (z := F 344 5) hm_61 rfl sc_344 rfl rfl ?_
        refine gr_v hm_61 rfl rfl ?_
        clear h185_ h186_ f183_ l184_
        refine ga_aload_n (v := .ref 344) hm_180 rfl rfl rfl ?_
        refine gIi (nY := 1) (F := 0) (L := 0) (As := []) (b := 344) (rest := []) hm_180 rfl hm_59 rfl rfl (fl_ob sc_344) rfl rfl rfl rfl rfl (by omega) (by omega) ?_
        intro f195_ l196_ h197_ h198_
        show fl_R xi_ms 59 f195_ l196_ 0 [(0, .ref 344)] [] _ _
        refine ga_aload_n (v := .ref 344) hm_59 rfl rfl rfl ?_
        refine ga_geti (z := F178_ 344 9) hm_59 rfl sc_344 rfl (fl_u_ne (by first | exact nc_ rfl | decide | omega)) ?_
        refine fl_if_le (a := F178_ 344 9) hm_59 rfl ⟨by omega, by omega⟩ (fun h199_ => ?_) (fun h200_ => ?_)
        · exfalso; omega
        refine fl_iconst hm_59 rfl ?_
        refine fl_goto hm_59 rfl ?_
        refine gr_i hm_59 rfl rfl (ga_nb (by omega)) ?_
        clear h197_ h198_ f195_ l196_
        refine fl_if_eq hm_180 rfl ⟨by omega, by omega⟩ (fun h => absurd h (by omega)) (fun _ => ?_)
        obtain ⟨F201_, q202_⟩ : ∃ Fq_, Fq_ = (fl_u F178_ 344 5 (F 344 5)) := ⟨_, rfl⟩
        rw [← q202_]
        have g203_ : gi F201_ := by rw [q202_]; exact gi_u (g179_) rfl (by omega) (by omega)
        have g204_ : fs [(344, 344, 5, 5), (344, 344, 9, 10), (344, 344, 33, 33), (364, 365, 0, 100000)] F F201_ := by rw [q202_]; exact fs_u (g181_) rfl
        have rk205_ : rk K F201_ := by rw [q202_]; exact rk_u (rk182_) (by first | decide | exact nc_ rfl | omega) (by first | decide | exact nc_ rfl | omega)
        refine gr_v hm_180 rfl rfl ?_
        have e206_ : F201_ 344 9 = F178_ 344 9 := by rw [q202_]; exact fl_u_ne (by first | exact nc_ rfl | decide | omega)
        have e207_ : F201_ 344 10 = F178_ 344 10 := by rw [q202_]; exact fl_u_ne (by first | exact nc_ rfl | decide | omega)
        have e208_ : F201_ 344 5 = F 344 5 := by rw [q202_]; exact fl_u_eq
        have b209_ : 0 ≤ F178_ 344 10 ∧ F178_ 344 10 ≤ 600 := gi_g g179_ rfl
        have e210_ : F23_ 5 2 = F 5 2 := (s25_ 5 2 rfl).trans (rfl)
        have e211_ : F178_ 5 2 = F 5 2 := (s180_ 5 2 rfl).trans (e210_)
        have e212_ : F201_ 5 2 = F 5 2 := by rw [q202_]; exact (fl_u_ne (by first | exact nc_ rfl | decide | omega)).trans (e211_)
        have b213_ : 0 ≤ F 5 2 ∧ F 5 2 ≤ 600 := gi_g hgi rfl
        have e214_ : F178_ 344 33 = F 344 33 := (s180_ 344 33 rfl).trans (e75_)
        have e215_ : F201_ 344 33 = F 344 33 := by rw [q202_]; exact (fl_u_ne (by first | exact nc_ rfl | decide | omega)).trans (e214_)
        exact Or.inl ⟨F201_, rfl, g203_, g204_, (by omega), (⟨by intro h0_; have hs_ := c176_s; rw [sp_o1, if_neg (by omega)]; rw [sp_typed, sp_new, if_pos (by omega), (ra_fi (rpn_cg hT.1 (fun j hj => (show F23_ 364 j = F 364 j from (s25_ 364 j (by first | exact fs_c rfl | exact (fs_n (by omega) rfl)))))) c19_ c77_o c78_o c79_o), if_neg (by omega)]; show Sum.inl (2, K 4 _) = _; congr 2 <;> omega, fun h0_ => by exfalso; omega⟩), (⟨by omega, by omega⟩), (⟨l, tl, (by rw [q202_]; exact (trm_u (trm_fs (trm_fs ht s25_ (by first | exact fs_rg rfl | exact fun r j hj => (fs_n (by omega) rfl))) s180_ (by first | exact fs_rg rfl | exact fun r j hj => (fs_n (by omega) rfl))) (by first | decide | exact nc_ rfl | omega))), hlt⟩)⟩
      exfalso; omega
    refine ga_aload_n (v := .ref 344) hm_180 rfl rfl rfl ?_
    refine fl_iconst hm_180 rfl ?_
    have b216_ : 0 ≤ F 344 5 ∧ F 344 5 ≤ 600 := gi_g hgi rfl
    refine gVv (nY := 2) (F := 0) (L := 0) (As := [.int (Int32.ofInt 1)]) (b := 344) (rest := []) hm_180 rfl hm_54 rfl rfl (fl_ob sc_344) rfl rfl rfl rfl rfl (by omega) (by omega) (mc_54 hG F X hgi (K) (1) hgK hrk hkt (⟨by omega, by omega⟩) (⟨by omega, by omega⟩)) (fun _ _ h => False.elim h) ?_
    have b218_ : 0 ≤ F 344 10 ∧ F 344 10 ≤ 600 := gi_g hgi rfl
    rintro A1_ ⟨F222_, hA_, g223_, s224_, c219_, c220_, c221_⟩
    subst hA_
    have g225_ : fs [(344, 344, 5, 5), (344, 344, 9, 10), (344, 344, 33, 33), (364, 365, 0, 100000)] F F222_ := fs_tr fs_refl s224_ rfl
    have rk226_ : rk K F222_ := rk_fs hrk s224_ (fs_rg rfl) rfl
    have c220_s := c220_.1 (by omega)
    clear c220_
    refine ga_aload_n (v := .ref 344) hm_180 rfl rfl rfl ?_
    have e227_ : F222_ 344 5 = F 344 5 := (s224_ 344 5 rfl).trans (rfl)
    refine gVl (nY := 3) (F := 2) (L := 46) (As := []) (b := 344) (rest := []) hm_180 rfl hm_58 rfl rfl (fl_ob sc_344) rfl rfl rfl rfl rfl (by omega) (by omega) (mc_58 hG F222_ X g223_ (K) hgK rk226_ hkt (⟨by omega, by omega⟩)) (fun _ _ h => False.elim h) ?_
    have b229_ : 0 ≤ F222_ 344 10 ∧ F222_ 344 10 ≤ 600 := gi_g g223_ rfl
    have b230_ : 0 ≤ F222_ 344 9 ∧ F222_ 344 9 ≤ 5 := gi_g g223_ rfl
    rintro z228_ A1_ (⟨F235_, hA_, g236_, s237_, c231_, c232_, c233_, c234_⟩ | ⟨F245_, hA_, g246_, s247_, c238_, c239_, c240_, c241_, c242_, c243_, c244_⟩)
    ·
      subst hA_
      have g248_ : fs [(344, 344, 5, 5), (344, 344, 9, 10), (344, 344, 33, 33), (364, 365, 0, 100000)] F F235_ := fs_tr g225_ s237_ rfl
      have rk249_ : rk K F235_ := rk_fs rk226_ s237_ (fs_rg rfl) rfl
      try simp only [e227_] at c232_
      have c232_k := c232_.2 (by omega)
      clear c232_
      refine ga_lstore_n (lv2 := [(1, .long (Int64.ofInt z228_)), (0, .ref 344)]) hm_180 rfl (Nat.le_of_ble_eq_true rfl) rfl ?_
      refine ga_aload_n (v := .ref 344) hm_180 rfl rfl rfl ?_
      refine gIi (nY := 1) (F := 0) (L := 0) (As := []) (b := 344) (rest := []) hm_180 rfl hm_59 rfl rfl (fl_ob sc_344) rfl rfl rfl rfl rfl (by omega) (by omega) ?_
      intro f250_ l251_ h252_ h253_
      show fl_R xi_ms 59 f250_ l251_ 0 [(0, .ref 344)] [] _ _
      refine ga_aload_n (v := .ref 344) hm_59 rfl rfl rfl ?_
      have b254_ : 0 ≤ F235_ 344 9 ∧ F235_ 344 9 ≤ 5 := gi_g g236_ rfl
      refine ga_geti (z := F235_ 344 9) hm_59 rfl sc_344 rfl (rfl) ?_
      refine fl_if_le (a := F235_ 344 9) hm_59 rfl ⟨by omega, by omega⟩ (fun h255_ => ?_) (fun h256_ => ?_)
      · exfalso; omega
      refine fl_iconst hm_59 rfl ?_
      refine fl_goto hm_59 rfl ?_
      refine gr_i hm_59 rfl rfl (ga_nb (by omega)) ?_
      clear h252_ h253_ f250_ l251_
      refine fl_if_ne hm_180 rfl ⟨by omega, by omega⟩ (fun _ => ?_) (fun h => absurd (by omega) h)
      refine ga_aload_n (v := .ref 344) hm_180 rfl rfl rfl ?_
      refine gIv (nY := 1) (F := 1) (L := 20) (As := []) (b := 344) (rest := []) hm_180 rfl hm_61 rfl rfl (fl_ob sc_344) rfl rfl rfl rfl rfl (by omega) (by omega) ?_
      intro f257_ l258_ h259_ h260_
      show fl_R xi_ms 61 f257_ l258_ 0 [(0, .ref 344)] [] _ _
      refine ga_aload_n (v := .ref 344) hm_61 rfl rfl rfl ?_
      refine ga_dup hm_61 rfl rfl ?_
      have e261_ : F235_ 344 5 = F 344 5 := (s237_ 344 5 rfl).trans (e227_)
      refine ga_geti (z := F 344 5) hm_61 rfl sc_344 rfl (e261_) ?_
      refine ga_aload_n (v := .ref 344) hm_61 rfl rfl rfl ?_
      refine gIi (nY := 1) (F := 0) (L := 0) (As := []) (b := 344) (rest := [.int (Int32.ofInt (F 344 5)), .ref 344]) hm_61 rfl hm_59 rfl rfl (fl_ob sc_344) rfl rfl rfl rfl rfl (by omega) (by omega) ?_
      intro f262_ l263_ h264_ h265_
      show fl_R xi_ms 59 f262_ l263_ 0 [(0, .ref 344)] [] _ _
      refine ga_aload_n (v := .ref 344) hm_59 rfl rfl rfl ?_
      refine ga_geti (z := F235_ 344 9) hm_59 rfl sc_344 rfl (rfl) ?_
      refine fl_if_le (a := F235_ 344 9) hm_59 rfl ⟨by omega, by omega⟩ (fun h266_ => ?_) (fun h267_ => ?_)
      · exfalso; omega
      refine fl_iconst hm_59 rfl ?_
      refine fl_goto hm_59 rfl ?_
      refine gr_i hm_59 rfl rfl (ga_nb (by omega)) ?_
      clear h264_ h265_ f262_ l263_
      refine fl_if_eq hm_61 rfl ⟨by omega, by omega⟩ (fun h => absurd h (by omega)) (fun _ => ?_)
      refine fl_iconst hm_61 rfl ?_
      refine fl_goto hm_61 rfl ?_
      refine ga_iadd (a := F 344 5) (b := 0) (c := F 344 5) hm_61 rfl (by omega) ?_
      refine ga_puti (z := F 344 5) hm_61 rfl sc_344 rfl rfl ?_
      refine gr_v hm_61 rfl rfl ?_
      clear h259_ h260_ f257_ l258_
      refine ga_aload_n (v := .ref 344) hm_180 rfl rfl rfl ?_
      refine gIi (nY := 1) (F := 0) (L := 0) (As := []) (b := 344) (rest := []) hm_180 rfl hm_59 rfl rfl (fl_ob sc_344) rfl rfl rfl rfl rfl (by omega) (by omega) ?_
      intro f268_ l269_ h270_ h271_
      show fl_R xi_ms 59 f268_ l269_ 0 [(0, .ref 344)] [] _ _
      refine ga_aload_n (v := .ref 344) hm_59 rfl rfl rfl ?_
      refine ga_geti (z := F235_ 344 9) hm_59 rfl sc_344 rfl (fl_u_ne (by first | exact nc_ rfl | decide | omega)) ?_
      refine fl_if_le (a := F235_ 344 9) hm_59 rfl ⟨by omega, by omega⟩ (fun h272_ => ?_) (fun h273_ => ?_)
      · exfalso; omega
      refine fl_iconst hm_59 rfl ?_
      refine fl_goto hm_59 rfl ?_
      refine gr_i hm_59 rfl rfl (ga_nb (by omega)) ?_
      clear h270_ h271_ f268_ l269_
      refine fl_if_eq hm_180 rfl ⟨by omega, by omega⟩ (fun h => absurd h (by omega)) (fun _ => ?_)
      obtain ⟨F274_, q275_⟩ : ∃ Fq_, Fq_ = (fl_u F235_ 344 5 (F 344 5)) := ⟨_, rfl⟩
      rw [← q275_]
      have g276_ : gi F274_ := by rw [q275_]; exact gi_u (g236_) rfl (by omega) (by omega)
      have g277_ : fs [(344, 344, 5, 5), (344, 344, 9, 10), (344, 344, 33, 33), (364, 365, 0, 100000)] F F274_ := by rw [q275_]; exact fs_u (g248_) rfl
      have rk278_ : rk K F274_ := by rw [q275_]; exact rk_u (rk249_) (by first | decide | exact nc_ rfl | omega) (by first | decide | exact nc_ rfl | omega)
      refine gr_v hm_180 rfl rfl ?_
      have e279_ : F274_ 344 9 = F235_ 344 9 := by rw [q275_]; exact fl_u_ne (by first | exact nc_ rfl | decide | omega)
      have e280_ : F274_ 344 10 = F235_ 344 10 := by rw [q275_]; exact fl_u_ne (by first | exact nc_ rfl | decide | omega)
      have e281_ : F274_ 344 5 = F 344 5 := by rw [q275_]; exact fl_u_eq
      have b282_ : 0 ≤ F235_ 344 10 ∧ F235_ 344 10 ≤ 600 := gi_g g236_ rfl
      have e283_ : F222_ 5 2 = F 5 2 := (s224_ 5 2 rfl).trans (rfl)
      have e284_ : F235_ 5 2 = F 5 2 := (s237_ 5 2 rfl).trans (e283_)
      have e285_ : F274_ 5 2 = F 5 2 := by rw [q275_]; exact (fl_u_ne (by first | exact nc_ rfl | decide | omega)).trans (e284_)
      have b286_ : 0 ≤ F 5 2 ∧ F 5 2 ≤ 600 := gi_g hgi rfl
      have e287_ : F222_ 344 33 = F 344 33 := (s224_ 344 33 rfl).trans (rfl)
      have e288_ : F235_ 344 33 = F 344 33 := (s237_ 344 33 rfl).trans (e287_)
      have e289_ : F274_ 344 33 = F 344 33 := by rw [q275_]; exact (fl_u_ne (by first | exact nc_ rfl | decide | omega)).trans (e288_)
      exact Or.inl ⟨F274_, rfl, g276_, g277_, (by omega), (⟨by intro h0_; have hs_ := c220_s; rw [sp_o1, if_pos (by omega), pf]; congr 2 <;> omega, fun h0_ => by exfalso; omega⟩), (⟨by omega, by omega⟩), (⟨l, tl, (by rw [q275_]; exact (trm_u (trm_fs (trm_fs ht s224_ (by first | exact fs_rg rfl | exact fun r j hj => (fs_n (by omega) rfl))) s237_ (by first | exact fs_rg rfl | exact fun r j hj => (fs_n (by omega) rfl))) (by first | decide | exact nc_ rfl | omega))), hlt⟩)⟩
    exfalso; omega
  refine ga_aload_n (v := .ref 344) hm_180 rfl rfl rfl ?_
  have b290_ : 0 ≤ F 344 33 ∧ F 344 33 ≤ 6 := gi_g hgi rfl
  refine ga_geti (z := F 344 33) hm_180 rfl sc_344 rfl (rfl) ?_
  refine fl_bipush hm_180 rfl rfl ?_
  refine fx_icmp_ne (a := F 344 33) (b := 6) hm_180 rfl ⟨by omega, by omega⟩ ⟨by omega, by omega⟩ (fun h291_ => ?_) (fun h292_ => ?_)
  ·
    refine ga_aload_n (v := .ref 344) hm_180 rfl rfl rfl ?_
    have b293_ : 0 ≤ F 344 5 ∧ F 344 5 ≤ 600 := gi_g hgi rfl
    refine gVl (nY := 3) (F := 2) (L := 46) (As := []) (b := 344) (rest := []) hm_180 rfl hm_58 rfl rfl (fl_ob sc_344) rfl rfl rfl rfl rfl (by omega) (by omega) (mc_58 hG F X hgi (K) hgK hrk hkt (⟨by omega, by omega⟩)) (fun _ _ h => False.elim h) ?_
    have b295_ : 0 ≤ F 344 10 ∧ F 344 10 ≤ 600 := gi_g hgi rfl
    rintro z294_ A1_ (⟨F300_, hA_, g301_, s302_, c296_, c297_, c298_, c299_⟩ | ⟨F310_, hA_, g311_, s312_, c303_, c304_, c305_, c306_, c307_, c308_, c309_⟩)
    ·
      subst hA_
      have g313_ : fs [(344, 344, 5, 5), (344, 344, 9, 10), (344, 344, 33, 33), (364, 365, 0, 100000)] F F300_ := fs_tr fs_refl s302_ rfl
      have rk314_ : rk K F300_ := rk_fs hrk s302_ (fs_rg rfl) rfl
      have c297_k := c297_.2 (by omega)
      clear c297_
      refine ga_lstore_n (lv2 := [(1, .long (Int64.ofInt z294_)), (0, .ref 344)]) hm_180 rfl (Nat.le_of_ble_eq_true rfl) rfl ?_
      refine ga_aload_n (v := .ref 344) hm_180 rfl rfl rfl ?_
      refine gIi (nY := 1) (F := 0) (L := 0) (As := []) (b := 344) (rest := []) hm_180 rfl hm_59 rfl rfl (fl_ob sc_344) rfl rfl rfl rfl rfl (by omega) (by omega) ?_
      intro f315_ l316_ h317_ h318_
      show fl_R xi_ms 59 f315_ l316_ 0 [(0, .ref 344)] [] _ _
      refine ga_aload_n (v := .ref 344) hm_59 rfl rfl rfl ?_
      have b319_ : 0 ≤ F300_ 344 9 ∧ F300_ 344 9 ≤ 5 := gi_g g301_ rfl
      refine ga_geti (z := F300_ 344 9) hm_59 rfl sc_344 rfl (rfl) ?_
      refine fl_if_le (a := F300_ 344 9) hm_59 rfl ⟨by omega, by omega⟩ (fun h320_ => ?_) (fun h321_ => ?_)
      · exfalso; omega
      refine fl_iconst hm_59 rfl ?_
      refine fl_goto hm_59 rfl ?_
      refine gr_i hm_59 rfl rfl (ga_nb (by omega)) ?_
      clear h317_ h318_ f315_ l316_
      refine fl_if_ne hm_180 rfl ⟨by omega, by omega⟩ (fun _ => ?_) (fun h => absurd (by omega) h)
      refine ga_aload_n (v := .ref 344) hm_180 rfl rfl rfl ?_
      refine gIv (nY := 1) (F := 1) (L := 20) (As := []) (b := 344) (rest := []) hm_180 rfl hm_61 rfl rfl (fl_ob sc_344) rfl rfl rfl rfl rfl (by omega) (by omega) ?_
      intro f322_ l323_ h324_ h325_
      show fl_R xi_ms 61 f322_ l323_ 0 [(0, .ref 344)] [] _ _
      refine ga_aload_n (v := .ref 344) hm_61 rfl rfl rfl ?_
      refine ga_dup hm_61 rfl rfl ?_
      have e326_ : F300_ 344 5 = F 344 5 := (s302_ 344 5 rfl).trans (rfl)
      refine ga_geti (z := F 344 5) hm_61 rfl sc_344 rfl (e326_) ?_
      refine ga_aload_n (v := .ref 344) hm_61 rfl rfl rfl ?_
      refine gIi (nY := 1) (F := 0) (L := 0) (As := []) (b := 344) (rest := [.int (Int32.ofInt (F 344 5)), .ref 344]) hm_61 rfl hm_59 rfl rfl (fl_ob sc_344) rfl rfl rfl rfl rfl (by omega) (by omega) ?_
      intro f327_ l328_ h329_ h330_
      show fl_R xi_ms 59 f327_ l328_ 0 [(0, .ref 344)] [] _ _
      refine ga_aload_n (v := .ref 344) hm_59 rfl rfl rfl ?_
      refine ga_geti (z := F300_ 344 9) hm_59 rfl sc_344 rfl (rfl) ?_
      refine fl_if_le (a := F300_ 344 9) hm_59 rfl ⟨by omega, by omega⟩ (fun h331_ => ?_) (fun h332_ => ?_)
      · exfalso; omega
      refine fl_iconst hm_59 rfl ?_
      refine fl_goto hm_59 rfl ?_
      refine gr_i hm_59 rfl rfl (ga_nb (by omega)) ?_
      clear h329_ h330_ f327_ l328_
      refine fl_if_eq hm_61 rfl ⟨by omega, by omega⟩ (fun h => absurd h (by omega)) (fun _ => ?_)
      refine fl_iconst hm_61 rfl ?_
      refine fl_goto hm_61 rfl ?_
      refine ga_iadd (a := F 344 5) (b := 0) (c := F 344 5) hm_61 rfl (by omega) ?_
      refine ga_puti (z := F 344 5) hm_61 rfl sc_344 rfl rfl ?_
      refine gr_v hm_61 rfl rfl ?_
      clear h324_ h325_ f322_ l323_
      refine ga_aload_n (v := .ref 344) hm_180 rfl rfl rfl ?_
      refine gIi (nY := 1) (F := 0) (L := 0) (As := []) (b := 344) (rest := []) hm_180 rfl hm_59 rfl rfl (fl_ob sc_344) rfl rfl rfl rfl rfl (by omega) (by omega) ?_
      intro f333_ l334_ h335_ h336_
      show fl_R xi_ms 59 f333_ l334_ 0 [(0, .ref 344)] [] _ _
      refine ga_aload_n (v := .ref 344) hm_59 rfl rfl rfl ?_
      refine ga_geti (z := F300_ 344 9) hm_59 rfl sc_344 rfl (fl_u_ne (by first | exact nc_ rfl | decide | omega)) ?_
      refine fl_if_le (a := F300_ 344 9) hm_59 rfl ⟨by omega, by omega⟩ (fun h337_ => ?_) (fun h338_ => ?_)
      · exfalso; omega
      refine fl_iconst hm_59 rfl ?_
      refine fl_goto hm_59 rfl ?_
      refine gr_i hm_59 rfl rfl (ga_nb (by omega)) ?_
      clear h335_ h336_ f333_ l334_
      refine fl_if_eq hm_180 rfl ⟨by omega, by omega⟩ (fun h => absurd h (by omega)) (fun _ => ?_)
      obtain ⟨F339_, q340_⟩ : ∃ Fq_, Fq_ = (fl_u F300_ 344 5 (F 344 5)) := ⟨_, rfl⟩
      rw [← q340_]
      have g341_ : gi F339_ := by rw [q340_]; exact gi_u (g301_) rfl (by omega) (by omega)
      have g342_ : fs [(344, 344, 5, 5), (344, 344, 9, 10), (344, 344, 33, 33), (364, 365, 0, 100000)] F F339_ := by rw [q340_]; exact fs_u (g313_) rfl
      have rk343_ : rk K F339_ := by rw [q340_]; exact rk_u (rk314_) (by first | decide | exact nc_ rfl | omega) (by first | decide | exact nc_ rfl | omega)
      refine gr_v hm_180 rfl rfl ?_
      have e344_ : F339_ 344 9 = F300_ 344 9 := by rw [q340_]; exact fl_u_ne (by first | exact nc_ rfl | decide | omega)
      have e345_ : F339_ 344 10 = F300_ 344 10 := by rw [q340_]; exact fl_u_ne (by first | exact nc_ rfl | decide | omega)
      have e346_ : F339_ 344 5 = F 344 5 := by rw [q340_]; exact fl_u_eq
      have b347_ : 0 ≤ F300_ 344 10 ∧ F300_ 344 10 ≤ 600 := gi_g g301_ rfl
      have e348_ : F300_ 5 2 = F 5 2 := (s302_ 5 2 rfl).trans (rfl)
      have e349_ : F339_ 5 2 = F 5 2 := by rw [q340_]; exact (fl_u_ne (by first | exact nc_ rfl | decide | omega)).trans (e348_)
      have b350_ : 0 ≤ F 5 2 ∧ F 5 2 ≤ 600 := gi_g hgi rfl
      have e351_ : F300_ 344 33 = F 344 33 := (s302_ 344 33 rfl).trans (rfl)
      have e352_ : F339_ 344 33 = F 344 33 := by rw [q340_]; exact (fl_u_ne (by first | exact nc_ rfl | decide | omega)).trans (e351_)
      exact Or.inl ⟨F339_, rfl, g341_, g342_, (by omega), (⟨fun h0_ => by exfalso; omega, fun h0_ => by constructor <;> omega⟩), (⟨by omega, by omega⟩), (⟨l, tl, (by rw [q340_]; exact (trm_u (trm_fs ht s302_ (by first | exact fs_rg rfl | exact fun r j hj => (fs_n (by omega) rfl))) (by first | decide | exact nc_ rfl | omega))), hlt⟩)⟩
    exfalso; omega
  refine ga_aload_n (v := .ref 344) hm_180 rfl rfl rfl ?_
  refine fl_iconst hm_180 rfl ?_
  have b353_ : 0 ≤ F 344 5 ∧ F 344 5 ≤ 600 := gi_g hgi rfl
  refine gVv (nY := 2) (F := 0) (L := 0) (As := [.int (Int32.ofInt 1)]) (b := 344) (rest := []) hm_180 rfl hm_54 rfl rfl (fl_ob sc_344) rfl rfl rfl rfl rfl (by omega) (by omega) (mc_54 hG F X hgi (K) (1) hgK hrk hkt (⟨by omega, by omega⟩) (⟨by omega, by omega⟩)) (fun _ _ h => False.elim h) ?_
  have b355_ : 0 ≤ F 344 10 ∧ F 344 10 ≤ 600 := gi_g hgi rfl
  rintro A1_ ⟨F359_, hA_, g360_, s361_, c356_, c357_, c358_⟩
  subst hA_
  have g362_ : fs [(344, 344, 5, 5), (344, 344, 9, 10), (344, 344, 33, 33), (364, 365, 0, 100000)] F F359_ := fs_tr fs_refl s361_ rfl
  have rk363_ : rk K F359_ := rk_fs hrk s361_ (fs_rg rfl) rfl
  have c357_k := c357_.2 (by omega)
  clear c357_
  refine ga_aload_n (v := .ref 344) hm_180 rfl rfl rfl ?_
  have e364_ : F359_ 344 5 = F 344 5 := (s361_ 344 5 rfl).trans (rfl)
  refine gVl (nY := 3) (F := 2) (L := 46) (As := []) (b := 344) (rest := []) hm_180 rfl hm_58 rfl rfl (fl_ob sc_344) rfl rfl rfl rfl rfl (by omega) (by omega) (mc_58 hG F359_ X g360_ (K) hgK rk363_ hkt (⟨by omega, by omega⟩)) (fun _ _ h => False.elim h) ?_
  have b366_ : 0 ≤ F359_ 344 10 ∧ F359_ 344 10 ≤ 600 := gi_g g360_ rfl
  have b367_ : 0 ≤ F359_ 344 9 ∧ F359_ 344 9 ≤ 5 := gi_g g360_ rfl
  rintro z365_ A1_ (⟨F372_, hA_, g373_, s374_, c368_, c369_, c370_, c371_⟩ | ⟨F382_, hA_, g383_, s384_, c375_, c376_, c377_, c378_, c379_, c380_, c381_⟩)
  ·
    subst hA_
    have g385_ : fs [(344, 344, 5, 5), (344, 344, 9, 10), (344, 344, 33, 33), (364, 365, 0, 100000)] F F372_ := fs_tr g362_ s374_ rfl
    have rk386_ : rk K F372_ := rk_fs rk363_ s374_ (fs_rg rfl) rfl
    try simp only [e364_] at c369_
    have c369_k := c369_.2 (by omega)
    clear c369_
    refine ga_lstore_n (lv2 := [(1, .long (Int64.ofInt z365_)), (0, .ref 344)]) hm_180 rfl (Nat.le_of_ble_eq_true rfl) rfl ?_
    refine ga_aload_n (v := .ref 344) hm_180 rfl rfl rfl ?_
    refine gIi (nY := 1) (F := 0) (L := 0) (As := []) (b := 344) (rest := []) hm_180 rfl hm_59 rfl rfl (fl_ob sc_344) rfl rfl rfl rfl rfl (by omega) (by omega) ?_
    intro f387_ l388_ h389_ h390_
    show fl_R xi_ms 59 f387_ l388_ 0 [(0, .ref 344)] [] _ _
    refine ga_aload_n (v := .ref 344) hm_59 rfl rfl rfl ?_
    have b391_ : 0 ≤ F372_ 344 9 ∧ F372_ 344 9 ≤ 5 := gi_g g373_ rfl
    refine ga_geti (z := F372_ 344 9) hm_59 rfl sc_344 rfl (rfl) ?_
    refine fl_if_le (a := F372_ 344 9) hm_59 rfl ⟨by omega, by omega⟩ (fun h392_ => ?_) (fun h393_ => ?_)
    · exfalso; omega
    refine fl_iconst hm_59 rfl ?_
    refine fl_goto hm_59 rfl ?_
    refine gr_i hm_59 rfl rfl (ga_nb (by omega)) ?_
    clear h389_ h390_ f387_ l388_
    refine fl_if_ne hm_180 rfl ⟨by omega, by omega⟩ (fun _ => ?_) (fun h => absurd (by omega) h)
    refine ga_aload_n (v := .ref 344) hm_180 rfl rfl rfl ?_
    refine gIv (nY := 1) (F := 1) (L := 20) (As := []) (b := 344) (rest := []) hm_180 rfl hm_61 rfl rfl (fl_ob sc_344) rfl rfl rfl rfl rfl (by omega) (by omega) ?_
    intro f394_ l395_ h396_ h397_
    show fl_R xi_ms 61 f394_ l395_ 0 [(0, .ref 344)] [] _ _
    refine ga_aload_n (v := .ref 344) hm_61 rfl rfl rfl ?_
    refine ga_dup hm_61 rfl rfl ?_
    have e398_ : F372_ 344 5 = F 344 5 := (s374_ 344 5 rfl).trans (e364_)
    refine ga_geti (z := F 344 5) hm_61 rfl sc_344 rfl (e398_) ?_
    refine ga_aload_n (v := .ref 344) hm_61 rfl rfl rfl ?_
    refine gIi (nY := 1) (F := 0) (L := 0) (As := []) (b := 344) (rest := [.int (Int32.ofInt (F 344 5)), .ref 344]) hm_61 rfl hm_59 rfl rfl (fl_ob sc_344) rfl rfl rfl rfl rfl (by omega) (by omega) ?_
    intro f399_ l400_ h401_ h402_
    show fl_R xi_ms 59 f399_ l400_ 0 [(0, .ref 344)] [] _ _
    refine ga_aload_n (v := .ref 344) hm_59 rfl rfl rfl ?_
    refine ga_geti (z := F372_ 344 9) hm_59 rfl sc_344 rfl (rfl) ?_
    refine fl_if_le (a := F372_ 344 9) hm_59 rfl ⟨by omega, by omega⟩ (fun h403_ => ?_) (fun h404_ => ?_)
    · exfalso; omega
    refine fl_iconst hm_59 rfl ?_
    refine fl_goto hm_59 rfl ?_
    refine gr_i hm_59 rfl rfl (ga_nb (by omega)) ?_
    clear h401_ h402_ f399_ l400_
    refine fl_if_eq hm_61 rfl ⟨by omega, by omega⟩ (fun h => absurd h (by omega)) (fun _ => ?_)
    refine fl_iconst hm_61 rfl ?_
    refine fl_goto hm_61 rfl ?_
    refine ga_iadd (a := F 344 5) (b := 0) (c := F 344 5) hm_61 rfl (by omega) ?_
    refine ga_puti (z := F 344 5) hm_61 rfl sc_344 rfl rfl ?_
    refine gr_v hm_61 rfl rfl ?_
    clear h396_ h397_ f394_ l395_
    refine ga_aload_n (v := .ref 344) hm_180 rfl rfl rfl ?_
    refine gIi (nY := 1) (F := 0) (L := 0) (As := []) (b := 344) (rest := []) hm_180 rfl hm_59 rfl rfl (fl_ob sc_344) rfl rfl rfl rfl rfl (by omega) (by omega) ?_
    intro f405_ l406_ h407_ h408_
    show fl_R xi_ms 59 f405_ l406_ 0 [(0, .ref 344)] [] _ _
    refine ga_aload_n (v := .ref 344) hm_59 rfl rfl rfl ?_
    refine ga_geti (z := F372_ 344 9) hm_59 rfl sc_344 rfl (fl_u_ne (by first | exact nc_ rfl | decide | omega)) ?_
    refine fl_if_le (a := F372_ 344 9) hm_59 rfl ⟨by omega, by omega⟩ (fun h409_ => ?_) (fun h410_ => ?_)
    · exfalso; omega
    refine fl_iconst hm_59 rfl ?_
    refine fl_goto hm_59 rfl ?_
    refine gr_i hm_59 rfl rfl (ga_nb (by omega)) ?_
    clear h407_ h408_ f405_ l406_
    refine fl_if_eq hm_180 rfl ⟨by omega, by omega⟩ (fun h => absurd h (by omega)) (fun _ => ?_)
    obtain ⟨F411_, q412_⟩ : ∃ Fq_, Fq_ = (fl_u F372_ 344 5 (F 344 5)) := ⟨_, rfl⟩
    rw [← q412_]
    have g413_ : gi F411_ := by rw [q412_]; exact gi_u (g373_) rfl (by omega) (by omega)
    have g414_ : fs [(344, 344, 5, 5), (344, 344, 9, 10), (344, 344, 33, 33), (364, 365, 0, 100000)] F F411_ := by rw [q412_]; exact fs_u (g385_) rfl
    have rk415_ : rk K F411_ := by rw [q412_]; exact rk_u (rk386_) (by first | decide | exact nc_ rfl | omega) (by first | decide | exact nc_ rfl | omega)
    refine gr_v hm_180 rfl rfl ?_
    have e416_ : F411_ 344 9 = F372_ 344 9 := by rw [q412_]; exact fl_u_ne (by first | exact nc_ rfl | decide | omega)
    have e417_ : F411_ 344 10 = F372_ 344 10 := by rw [q412_]; exact fl_u_ne (by first | exact nc_ rfl | decide | omega)
    have e418_ : F411_ 344 5 = F 344 5 := by rw [q412_]; exact fl_u_eq
    have b419_ : 0 ≤ F372_ 344 10 ∧ F372_ 344 10 ≤ 600 := gi_g g373_ rfl
    have e420_ : F359_ 5 2 = F 5 2 := (s361_ 5 2 rfl).trans (rfl)
    have e421_ : F372_ 5 2 = F 5 2 := (s374_ 5 2 rfl).trans (e420_)
    have e422_ : F411_ 5 2 = F 5 2 := by rw [q412_]; exact (fl_u_ne (by first | exact nc_ rfl | decide | omega)).trans (e421_)
    have b423_ : 0 ≤ F 5 2 ∧ F 5 2 ≤ 600 := gi_g hgi rfl
    have e424_ : F359_ 344 33 = F 344 33 := (s361_ 344 33 rfl).trans (rfl)
    have e425_ : F372_ 344 33 = F 344 33 := (s374_ 344 33 rfl).trans (e424_)
    have e426_ : F411_ 344 33 = F 344 33 := by rw [q412_]; exact (fl_u_ne (by first | exact nc_ rfl | decide | omega)).trans (e425_)
    exact Or.inl ⟨F411_, rfl, g413_, g414_, (by omega), (⟨fun h0_ => by exfalso; omega, fun h0_ => by constructor <;> omega⟩), (⟨by omega, by omega⟩), (⟨l, tl, (by rw [q412_]; exact (trm_u (trm_fs (trm_fs ht s361_ (by first | exact fs_rg rfl | exact fun r j hj => (fs_n (by omega) rfl))) s374_ (by first | exact fs_rg rfl | exact fun r j hj => (fs_n (by omega) rfl))) (by first | decide | exact nc_ rfl | omega))), hlt⟩)⟩
  exfalso; omega
/- CheapPlannerModel.readInit -/
abbrev pq_178 (G : Nat → Nat → Option Nat) (F : fl_N) (X : xi_H) (K : fl_N) (l tl pl : List Int) (ps : List (List Int)) : Outcome → xi_H → Prop := gqv (fun A => (∃ F' : fl_N, fl_H sh_T G F' ++ X = A ∧ gi F' ∧ fs [(344, 344, 5, 5), (344, 344, 9, 10), (344, 344, 64, 64), (362, 362, 40, 43), (363, 363, 80, 87)] F F' ∧ (¬ F' 344 9 = 0) ∧ ((F 344 9 = 0 → sp_i1 K l tl pl ps 12 (F 344 5) = .inl (F' 344 9, F' 344 10)) ∧ (¬ F 344 9 = 0 → F' 344 9 = F 344 9 ∧ F' 344 10 = F 344 10)) ∧ (0 ≤ F' 344 5 ∧ F' 344 5 ≤ K 1 6 - 1)) ∨ (∃ F' : fl_N, fl_H sh_T G F' ++ X = A ∧ gi F' ∧ fs [(344, 344, 5, 5), (344, 344, 9, 10), (344, 344, 64, 64), (362, 362, 40, 43), (363, 363, 80, 87)] F F' ∧ (F' 344 9 = 0 ∧ F 344 9 = 0) ∧ (sp_i1 K l tl pl ps 12 (F 344 5) = .inr (F' 344 5) ∧ K 3 (F' 344 5).toNat = 1) ∧ (0 ≤ F' 344 5 ∧ F' 344 5 ≤ K 1 6 - 1) ∧ (F 344 36 ≤ 40 → F' 344 64 = msk (F 366) (fun j : Nat => (j : Int)) 0 (atoms_d K 2 l tl pl ps 12 (F 344 5))))) gqn
set_option maxHeartbeats 16000000 in
theorem mc_178 {G : Nat → Nat → Option Nat} (hG : gg G) (F : fl_N) (X : xi_H) (hgi : gi F) (K : fl_N) (l tl pl : List Int) (ps : List (List Int)) (hgK : gi K) (hrk : rk K F) (hkt : rkt K) (hp : 0 ≤ F 344 5 ∧ F 344 5 ≤ K 1 6 - 1) (ht : trm F 5 2 l tl) (hlt : l.length = tl.length) (hpl : rpn (F 350) (F 344 17) pl) (hps : rprd F ps ∧ ps.length = pl.length) : fl_M xi_ms 178 5 117 [.ref 344] (fl_H sh_T G F ++ X) (pq_178 G F X K l tl pl ps) := by
  intro fr lo hfr hlo
  show fl_R xi_ms 178 fr lo 0 [(0, .ref 344)] [] _ _
  have hP := (rkt_p hkt hp.1 hp.2 hgK).1
  have hK16 : 0 ≤ K 1 6 ∧ K 1 6 ≤ 601 := gi_g hgK rfl
  have hko := hkt.1
  have b1_ : 0 ≤ F 344 9 ∧ F 344 9 ≤ 5 := gi_g hgi rfl
  by_cases h2_ : F 344 9 = 0
  ·
    refine fl_iconst hm_178 rfl ?_
    refine ga_istore_n (lv2 := [(1, .int (Int32.ofInt 0)), (0, .ref 344)]) hm_178 rfl (Nat.le_of_ble_eq_true rfl) rfl ?_
    refine ga_aload_n (v := .ref 344) hm_178 rfl rfl rfl ?_
    refine ga_lconst (z := 0) hm_178 rfl rfl ?_
    refine ga_putl hm_178 rfl sc_344 rfl rfl ?_
    obtain ⟨F3_, q4_⟩ : ∃ Fq_, Fq_ = (fl_u F 344 64 0) := ⟨_, rfl⟩
    rw [← q4_]
    have g5_ : gi F3_ := by rw [q4_]; exact gi_u (hgi) rfl (by omega) (by omega)
    have g6_ : fs [(344, 344, 5, 5), (344, 344, 9, 10), (344, 344, 64, 64), (362, 362, 40, 43), (363, 363, 80, 87)] F F3_ := by rw [q4_]; exact fs_u (fs_refl) rfl
    have rk7_ : rk K F3_ := by rw [q4_]; exact rk_u (hrk) (by first | decide | exact nc_ rfl | omega) (by first | decide | exact nc_ rfl | omega)
    have L9_ : ∀ (n8_ : Nat) (n : Int) (L : List lt_T) (F1 : fl_N), (13 - n : Int).toNat = n8_ → (gi F1) → (fs [(344, 344, 5, 5), (344, 344, 9, 10), (344, 344, 64, 64), (362, 362, 40, 43), (363, 363, 80, 87)] F3_ F1) → (F1 344 9 = 0) → (0 ≤ n ∧ n ≤ 12) → (0 ≤ F1 344 5 ∧ F1 344 5 ≤ K 1 6 - 1) → (sp_i1 K l tl pl ps 12 (F 344 5) = sp_i1 K l tl pl ps (12 - n).toNat (F1 344 5)) → (F 344 36 ≤ 40 → F1 344 64 = msk (F 366) (fun j : Nat => (j : Int)) 0 L) → (atoms_d K 2 l tl pl ps 12 (F 344 5) = L ++ atoms_d K 2 l tl pl ps (12 - n).toNat (F1 344 5)) → fl_R xi_ms 178 fr lo 7 [(1, .int (Int32.ofInt n)), (0, .ref 344)] [] (fl_H sh_T G F1 ++ X) (pq_178 G F X K l tl pl ps) := by
      intro n8_
      induction n8_ using Nat.strongRecOn with
      | ind n8_ ih10_ =>
      intro n L F1 hn11_ hg_F1 hf_F1 hk hn hp1 hsp hbt hcd
      have g12_ : fs [(344, 344, 5, 5), (344, 344, 9, 10), (344, 344, 64, 64), (362, 362, 40, 43), (363, 363, 80, 87)] F F1 := fs_tr g6_ hf_F1 rfl
      have rk13_ : rk K F1 := rk_fs rk7_ hf_F1 (fs_rg rfl) rfl
      have hP1 := (rkt_p hkt (p := F1 344 5) (by omega) (by omega) hgK).1
      refine ga_aload_n (v := .ref 344) hm_178 rfl rfl rfl ?_
      refine gIi (nY := 1) (F := 0) (L := 0) (As := []) (b := 344) (rest := []) hm_178 rfl hm_59 rfl rfl (fl_ob sc_344) rfl rfl rfl rfl rfl (by omega) (by omega) ?_
      intro f14_ l15_ h16_ h17_
      show fl_R xi_ms 59 f14_ l15_ 0 [(0, .ref 344)] [] _ _
      refine ga_aload_n (v := .ref 344) hm_59 rfl rfl rfl ?_
      have b18_ : 0 ≤ F1 344 9 ∧ F1 344 9 ≤ 5 := gi_g hg_F1 rfl
      refine ga_geti (z := F1 344 9) hm_59 rfl sc_344 rfl (rfl) ?_
      refine fl_if_le (a := F1 344 9) hm_59 rfl ⟨by omega, by omega⟩ (fun h19_ => ?_) (fun h20_ => ?_)
      ·
        refine fl_iconst hm_59 rfl ?_
        refine gr_i hm_59 rfl rfl (ga_nb (by omega)) ?_
        clear h16_ h17_ f14_ l15_
        refine fl_if_ne hm_178 rfl ⟨by omega, by omega⟩ (fun h => absurd h (by omega)) (fun _ => ?_)
        refine ga_aload_n (v := .ref 344) hm_178 rfl rfl rfl ?_
        refine fl_bipush hm_178 rfl rfl ?_
        have b21_ : 0 ≤ F1 344 5 ∧ F1 344 5 ≤ 600 := gi_g hg_F1 rfl
        refine gVi (nY := 2) (F := 1) (L := 20) (As := [.int (Int32.ofInt 41)]) (b := 344) (rest := []) hm_178 rfl hm_52 rfl rfl (fl_ob sc_344) rfl rfl rfl rfl rfl (by omega) (by omega) (mc_52 hG F1 X hg_F1 (K) (41) hgK rk13_ hkt (⟨by omega, by omega⟩) (by omega)) (fun _ _ h => False.elim h) ?_
        rintro z22_ A1_ (⟨hA_, hz_, c23_⟩ | ⟨hA_, hz_, c24_, c25_⟩)
        ·
          subst hA_
          subst hz_
          refine fl_if_ne hm_178 rfl ⟨by omega, by omega⟩ (fun h => absurd h (by omega)) (fun _ => ?_)
          refine ga_iload_n (z := n) hm_178 rfl rfl ?_
          refine fl_bipush hm_178 rfl rfl ?_
          refine fx_icmp_ne (a := n) (b := 12) hm_178 rfl ⟨by omega, by omega⟩ ⟨by omega, by omega⟩ (fun h26_ => ?_) (fun h27_ => ?_)
          ·
            refine ga_aload_n (v := .ref 344) hm_178 rfl rfl rfl ?_
            refine fl_bipush hm_178 rfl rfl ?_
            refine gVv (nY := 2) (F := 2) (L := 41) (As := [.int (Int32.ofInt 40)]) (b := 344) (rest := []) hm_178 rfl hm_51 rfl rfl (fl_ob sc_344) rfl rfl rfl rfl rfl (by omega) (by omega) (mc_51 hG F1 X hg_F1 (K) (40) (0) hgK rk13_ hkt (⟨by omega, by omega⟩) (by omega) (by omega)) (fun _ _ h => False.elim h) ?_
            have b29_ : 0 ≤ F1 344 10 ∧ F1 344 10 ≤ 600 := gi_g hg_F1 rfl
            rintro A1_ (⟨F33_, hA_, g34_, s35_, c30_, c31_, c32_⟩ | ⟨F39_, hA_, g40_, s41_, c36_, c37_, c38_⟩)
            ·
              subst hA_
              have g42_ : fs [(344, 344, 5, 5), (344, 344, 9, 10), (344, 344, 64, 64), (362, 362, 40, 43), (363, 363, 80, 87)] F F33_ := fs_tr g12_ s35_ rfl
              have rk43_ : rk K F33_ := rk_fs rk13_ s35_ (fs_rg rfl) rfl
              have c31_s := c31_.1 (by omega)
              clear c31_
              refine ga_aload_n (v := .ref 344) hm_178 rfl rfl rfl ?_
              refine fl_iconst hm_178 rfl ?_
              refine fl_bipush hm_178 rfl rfl ?_
              have b44_ : 0 ≤ F33_ 344 5 ∧ F33_ 344 5 ≤ 600 := gi_g g34_ rfl
              refine gVv (nY := 7) (F := 4) (L := 91) (As := [.int (Int32.ofInt 5), .int (Int32.ofInt 43)]) (b := 344) (rest := []) hm_178 rfl hm_174 rfl rfl (fl_ob sc_344) rfl rfl rfl rfl rfl (by omega) (by omega) (mc_174z hG F33_ X g34_ (K) (5) (43) (2) (l) (tl) (pl) (ps) hgK rk43_ hkt (⟨by omega, by omega⟩) ((trm_fs (trm_fs (by rw [q4_]; exact (trm_u ht (by first | decide | exact nc_ rfl | omega))) hf_F1 (by first | exact fs_rg rfl | exact fun r j hj => (fs_n (by omega) (fs_n (by omega) (fs_n (by omega) (fs_n (by omega) (fs_n (by omega) rfl))))))) s35_ (by first | exact fs_rg rfl | exact fun r j hj => (fs_n (by omega) (fs_n (by omega) rfl))))) (hlt) (by omega) ((rpn_fs (rpn_fs (by rw [q4_]; exact (rpn_u hpl (by first | decide | exact nc_ rfl | omega) (by first | decide | exact nc_ rfl | omega))) hf_F1 (fun _ => (by first | exact fs_c rfl | exact (fs_n (by omega) (fs_n (by omega) (fs_n (by omega) (fs_n (by omega) (fs_n (by omega) rfl))))))) (by first | exact fs_c rfl | exact (fs_n (by omega) (fs_n (by omega) (fs_n (by omega) (fs_n (by omega) (fs_n (by omega) rfl))))))) s35_ (fun _ => (by first | exact fs_c rfl | exact (fs_n (by omega) (fs_n (by omega) rfl)))) (by first | exact fs_c rfl | exact (fs_n (by omega) (fs_n (by omega) rfl))))) (⟨(rprd_fs (rprd_fs (by rw [q4_]; exact (rprd_u hps.1 (by first | decide | exact nc_ rfl | omega))) hf_F1 (by first | exact fs_rg rfl | exact fun r j hj => (fs_n (by omega) (fs_n (by omega) (fs_n (by omega) (fs_n (by omega) (fs_n (by omega) rfl))))))) s35_ (by first | exact fs_rg rfl | exact fun r j hj => (fs_n (by omega) (fs_n (by omega) rfl)))), hps.2⟩) (⟨by omega, by omega⟩) (Or.inr (by omega))) (fun _ _ h => False.elim h) ?_
              have b46_ : 0 ≤ F33_ 344 10 ∧ F33_ 344 10 ≤ 600 := gi_g g34_ rfl
              have b47_ : 0 ≤ F33_ 344 9 ∧ F33_ 344 9 ≤ 5 := gi_g g34_ rfl
              rintro A1_ (⟨F51_, hA_, g52_, s53_, c48_, c49_, c50_⟩ | ⟨F59_, hA_, g60_, s61_, c54_, c55_, c56_, c57_, c58_⟩)
              ·
                subst hA_
                have g62_ : fs [(344, 344, 5, 5), (344, 344, 9, 10), (344, 344, 64, 64), (362, 362, 40, 43), (363, 363, 80, 87)] F F51_ := fs_tr g42_ s53_ rfl
                have rk63_ : rk K F51_ := rk_fs rk43_ s53_ (fs_rg rfl) rfl
                have c49_k := c49_.2 (by omega)
                clear c49_
                refine ga_aload_n (v := .ref 344) hm_178 rfl rfl rfl ?_
                refine gIi (nY := 1) (F := 0) (L := 0) (As := []) (b := 344) (rest := []) hm_178 rfl hm_59 rfl rfl (fl_ob sc_344) rfl rfl rfl rfl rfl (by omega) (by omega) ?_
                intro f64_ l65_ h66_ h67_
                show fl_R xi_ms 59 f64_ l65_ 0 [(0, .ref 344)] [] _ _
                refine ga_aload_n (v := .ref 344) hm_59 rfl rfl rfl ?_
                have b68_ : 0 ≤ F51_ 344 9 ∧ F51_ 344 9 ≤ 5 := gi_g g52_ rfl
                refine ga_geti (z := F51_ 344 9) hm_59 rfl sc_344 rfl (rfl) ?_
                refine fl_if_le (a := F51_ 344 9) hm_59 rfl ⟨by omega, by omega⟩ (fun h69_ => ?_) (fun h70_ => ?_)
                · exfalso; omega
                refine fl_iconst hm_59 rfl ?_
                refine fl_goto hm_59 rfl ?_
                refine gr_i hm_59 rfl rfl (ga_nb (by omega)) ?_
                clear h66_ h67_ f64_ l65_
                refine fl_if_eq hm_178 rfl ⟨by omega, by omega⟩ (fun h => absurd h (by omega)) (fun _ => ?_)
                refine gr_v hm_178 rfl rfl ?_
                have b71_ : 0 ≤ F51_ 344 10 ∧ F51_ 344 10 ≤ 600 := gi_g g52_ rfl
                have b72_ : 0 ≤ F 344 10 ∧ F 344 10 ≤ 600 := gi_g hgi rfl
                have b73_ : 0 ≤ F 344 5 ∧ F 344 5 ≤ 600 := gi_g hgi rfl
                have b74_ : 0 ≤ F51_ 344 5 ∧ F51_ 344 5 ≤ 600 := gi_g g52_ rfl
                exact Or.inl ⟨F51_, rfl, g52_, g62_, (by omega), (⟨by intro h0_; have hs_ := c31_s; rw [hsp, si1_kf (by omega) hs_]; try (congr 2 <;> omega), fun h0_ => by exfalso; omega⟩), (⟨by omega, by omega⟩)⟩
              exfalso; omega
            subst hA_
            have g75_ : fs [(344, 344, 5, 5), (344, 344, 9, 10), (344, 344, 64, 64), (362, 362, 40, 43), (363, 363, 80, 87)] F F39_ := fs_tr g12_ s41_ rfl
            have rk76_ : rk K F39_ := rk_fs rk13_ s41_ (fs_rg rfl) rfl
            refine ga_aload_n (v := .ref 344) hm_178 rfl rfl rfl ?_
            refine fl_iconst hm_178 rfl ?_
            refine fl_bipush hm_178 rfl rfl ?_
            have b77_ : 0 ≤ F39_ 344 5 ∧ F39_ 344 5 ≤ 600 := gi_g g40_ rfl
            refine gVv (nY := 7) (F := 4) (L := 91) (As := [.int (Int32.ofInt 5), .int (Int32.ofInt 43)]) (b := 344) (rest := []) hm_178 rfl hm_174 rfl rfl (fl_ob sc_344) rfl rfl rfl rfl rfl (by omega) (by omega) (mc_174z hG F39_ X g40_ (K) (5) (43) (2) (l) (tl) (pl) (ps) hgK rk76_ hkt (⟨by omega, by omega⟩) ((trm_fs (trm_fs (by rw [q4_]; exact (trm_u ht (by first | decide | exact nc_ rfl | omega))) hf_F1 (by first | exact fs_rg rfl | exact fun r j hj => (fs_n (by omega) (fs_n (by omega) (fs_n (by omega) (fs_n (by omega) (fs_n (by omega) rfl))))))) s41_ (by first | exact fs_rg rfl | exact fun r j hj => (fs_n (by omega) (fs_n (by omega) rfl))))) (hlt) (by omega) ((rpn_fs (rpn_fs (by rw [q4_]; exact (rpn_u hpl (by first | decide | exact nc_ rfl | omega) (by first | decide | exact nc_ rfl | omega))) hf_F1 (fun _ => (by first | exact fs_c rfl | exact (fs_n (by omega) (fs_n (by omega) (fs_n (by omega) (fs_n (by omega) (fs_n (by omega) rfl))))))) (by first | exact fs_c rfl | exact (fs_n (by omega) (fs_n (by omega) (fs_n (by omega) (fs_n (by omega) (fs_n (by omega) rfl))))))) s41_ (fun _ => (by first | exact fs_c rfl | exact (fs_n (by omega) (fs_n (by omega) rfl)))) (by first | exact fs_c rfl | exact (fs_n (by omega) (fs_n (by omega) rfl))))) (⟨(rprd_fs (rprd_fs (by rw [q4_]; exact (rprd_u hps.1 (by first | decide | exact nc_ rfl | omega))) hf_F1 (by first | exact fs_rg rfl | exact fun r j hj => (fs_n (by omega) (fs_n (by omega) (fs_n (by omega) (fs_n (by omega) (fs_n (by omega) rfl))))))) s41_ (by first | exact fs_rg rfl | exact fun r j hj => (fs_n (by omega) (fs_n (by omega) rfl)))), hps.2⟩) (⟨by omega, by omega⟩) (Or.inr (by omega))) (fun _ _ h => False.elim h) ?_
            have b79_ : 0 ≤ F39_ 344 10 ∧ F39_ 344 10 ≤ 600 := gi_g g40_ rfl
            have b80_ : 0 ≤ F39_ 344 9 ∧ F39_ 344 9 ≤ 5 := gi_g g40_ rfl
            rintro A1_ (⟨F84_, hA_, g85_, s86_, c81_, c82_, c83_⟩ | ⟨F92_, hA_, g93_, s94_, c87_, c88_, c89_, c90_, c91_⟩)
            ·
              subst hA_
              have g95_ : fs [(344, 344, 5, 5), (344, 344, 9, 10), (344, 344, 64, 64), (362, 362, 40, 43), (363, 363, 80, 87)] F F84_ := fs_tr g75_ s86_ rfl
              have rk96_ : rk K F84_ := rk_fs rk76_ s86_ (fs_rg rfl) rfl
              have c82_s := c82_.1 (by omega)
              clear c82_
              refine ga_aload_n (v := .ref 344) hm_178 rfl rfl rfl ?_
              refine gIi (nY := 1) (F := 0) (L := 0) (As := []) (b := 344) (rest := []) hm_178 rfl hm_59 rfl rfl (fl_ob sc_344) rfl rfl rfl rfl rfl (by omega) (by omega) ?_
              intro f97_ l98_ h99_ h100_
              show fl_R xi_ms 59 f97_ l98_ 0 [(0, .ref 344)] [] _ _
              refine ga_aload_n (v := .ref 344) hm_59 rfl rfl rfl ?_
              have b101_ : 0 ≤ F84_ 344 9 ∧ F84_ 344 9 ≤ 5 := gi_g g85_ rfl
              refine ga_geti (z := F84_ 344 9) hm_59 rfl sc_344 rfl (rfl) ?_
              refine fl_if_le (a := F84_ 344 9) hm_59 rfl ⟨by omega, by omega⟩ (fun h102_ => ?_) (fun h103_ => ?_)
              · exfalso; omega
              refine fl_iconst hm_59 rfl ?_
              refine fl_goto hm_59 rfl ?_
              refine gr_i hm_59 rfl rfl (ga_nb (by omega)) ?_
              clear h99_ h100_ f97_ l98_
              refine fl_if_eq hm_178 rfl ⟨by omega, by omega⟩ (fun h => absurd h (by omega)) (fun _ => ?_)
              refine gr_v hm_178 rfl rfl ?_
              have b104_ : 0 ≤ F84_ 344 10 ∧ F84_ 344 10 ≤ 600 := gi_g g85_ rfl
              have b105_ : 0 ≤ F 344 10 ∧ F 344 10 ≤ 600 := gi_g hgi rfl
              have b106_ : 0 ≤ F 344 5 ∧ F 344 5 ≤ 600 := gi_g hgi rfl
              have b107_ : 0 ≤ F84_ 344 5 ∧ F84_ 344 5 ≤ 600 := gi_g g85_ rfl
              exact Or.inl ⟨F84_, rfl, g85_, g95_, (by omega), (⟨by intro h0_; have hs_ := c82_s; rw [hsp, si1_k (by omega) c37_, at_er hs_]; try (congr 2 <;> omega), fun h0_ => by exfalso; omega⟩), (⟨by omega, by omega⟩)⟩
            subst hA_
            have g108_ : fs [(344, 344, 5, 5), (344, 344, 9, 10), (344, 344, 64, 64), (362, 362, 40, 43), (363, 363, 80, 87)] F F92_ := fs_tr g75_ s94_ rfl
            have rk109_ : rk K F92_ := rk_fs rk76_ s94_ (fs_rg rfl) rfl
            refine ga_aload_n (v := .ref 344) hm_178 rfl rfl rfl ?_
            refine gIi (nY := 1) (F := 0) (L := 0) (As := []) (b := 344) (rest := []) hm_178 rfl hm_59 rfl rfl (fl_ob sc_344) rfl rfl rfl rfl rfl (by omega) (by omega) ?_
            intro f110_ l111_ h112_ h113_
            show fl_R xi_ms 59 f110_ l111_ 0 [(0, .ref 344)] [] _ _
            refine ga_aload_n (v := .ref 344) hm_59 rfl rfl rfl ?_
            have b114_ : 0 ≤ F92_ 344 9 ∧ F92_ 344 9 ≤ 5 := gi_g g93_ rfl
            refine ga_geti (z := F92_ 344 9) hm_59 rfl sc_344 rfl (rfl) ?_
            refine fl_if_le (a := F92_ 344 9) hm_59 rfl ⟨by omega, by omega⟩ (fun h115_ => ?_) (fun h116_ => ?_)
            ·
              refine fl_iconst hm_59 rfl ?_
              refine gr_i hm_59 rfl rfl (ga_nb (by omega)) ?_
              clear h112_ h113_ f110_ l111_
              refine fl_if_eq hm_178 rfl ⟨by omega, by omega⟩ (fun _ => ?_) (fun h => absurd (by omega) h)
              refine ga_aload_n (v := .ref 344) hm_178 rfl rfl rfl ?_
              have e117_ : F3_ 344 36 = F 344 36 := by rw [q4_]; exact fl_u_ne (by first | exact nc_ rfl | decide | omega)
              have e118_ : F1 344 36 = F 344 36 := (hf_F1 344 36 rfl).trans (e117_)
              have e119_ : F39_ 344 36 = F 344 36 := (s41_ 344 36 rfl).trans (e118_)
              have e120_ : F92_ 344 36 = F 344 36 := (s94_ 344 36 rfl).trans (e119_)
              have b121_ : 0 ≤ F 344 36 ∧ F 344 36 ≤ 216 := gi_g hgi rfl
              refine ga_geti (z := F 344 36) hm_178 rfl sc_344 rfl (e120_) ?_
              refine fl_bipush hm_178 rfl rfl ?_
              refine fl_icmp_gt (a := F 344 36) (b := 40) hm_178 rfl ⟨by omega, by omega⟩ ⟨by omega, by omega⟩ (fun h122_ => ?_) (fun h123_ => ?_)
              ·
                refine ga_inc (a := n) (c := n + 1) (lv2 := [(1, .int (Int32.ofInt (n + 1))), (0, .ref 344)]) hm_178 rfl rfl (Nat.le_of_ble_eq_true rfl) rfl rfl ?_
                refine fl_goto hm_178 rfl ?_
                have b124_ : 0 ≤ F92_ 344 5 ∧ F92_ 344 5 ≤ 600 := gi_g g93_ rfl
                have b125_ : 0 ≤ K 1 6 ∧ K 1 6 ≤ 601 := gi_g hgK rfl
                have b126_ : 0 ≤ F 344 5 ∧ F 344 5 ≤ 600 := gi_g hgi rfl
                have e127_ : F39_ 344 64 = F1 344 64 := (s41_ 344 64 rfl).trans (rfl)
                have e128_ : F92_ 344 64 = F1 344 64 := (s94_ 344 64 rfl).trans (e127_)
                have b129_ : -9223372036854775808 ≤ F1 344 64 ∧ F1 344 64 ≤ 9223372036854775807 := gi_g hg_F1 rfl
                exact ih10_ _ (by omega) (n + 1) ((L ++ [at_d K l pl ps 0 (F39_ 344 5)])) F92_ rfl g93_ (fs_tr (fs_tr hf_F1 s41_ rfl) s94_ rfl) (by omega) (by omega) (⟨by omega, by omega⟩) (by rw [hsp, si1_k (by omega) c37_, at_eq c88_]; congr 1 <;> omega) (fun h9_ => absurd h9_ (by omega)) (by rw [hcd, az_step (by omega) (kd_ok c37_).1 (ks_ok c37_) c88_, List.append_cons])
              refine ga_aload_n (v := .ref 344) hm_178 rfl rfl rfl ?_
              refine ga_dup hm_178 rfl rfl ?_
              have e130_ : F39_ 344 64 = F1 344 64 := (s41_ 344 64 rfl).trans (rfl)
              have e131_ : F92_ 344 64 = F1 344 64 := (s94_ 344 64 rfl).trans (e130_)
              have b132_ : -9223372036854775808 ≤ F1 344 64 ∧ F1 344 64 ≤ 9223372036854775807 := gi_g hg_F1 rfl
              refine ga_getl (z := F1 344 64) hm_178 rfl sc_344 rfl (e131_) ?_
              refine ga_lconst (z := 1) hm_178 rfl rfl ?_
              refine ga_aload_n (v := .ref 344) hm_178 rfl rfl rfl ?_
              refine ga_aload_n (v := .ref 344) hm_178 rfl rfl rfl ?_
              refine ga_getr (b := 362) hm_178 rfl sc_344 rfl ?_
              refine fl_bipush hm_178 rfl rfl ?_
              have b133_ : 0 ≤ F92_ 362 43 ∧ F92_ 362 43 ≤ 5 := gi_g g93_ rfl
              refine ga_iald (z := 43) (w := F92_ 362 43) hm_178 rfl sc_362 (by omega) (by omega) (by omega) (rfl) ?_
              refine ga_aload_n (v := .ref 344) hm_178 rfl rfl rfl ?_
              refine ga_getr (b := 363) hm_178 rfl sc_344 rfl ?_
              refine fl_bipush hm_178 rfl rfl ?_
              have b134_ := gi_t363 g93_ (86)
              refine ga_iald (z := 86) (w := F92_ 363 86) hm_178 rfl sc_363 (by omega) (by omega) (by omega) (rfl) ?_
              refine ga_aload_n (v := .ref 344) hm_178 rfl rfl rfl ?_
              refine ga_getr (b := 363) hm_178 rfl sc_344 rfl ?_
              refine fl_bipush hm_178 rfl rfl ?_
              have b135_ := gi_t363 g93_ (87)
              refine ga_iald (z := 87) (w := F92_ 363 87) hm_178 rfl sc_363 (by omega) (by omega) (by omega) (rfl) ?_
              refine gVi (nY := 5) (F := 0) (L := 0) (As := [.int (Int32.ofInt (F92_ 362 43)), .int (Int32.ofInt (F92_ 363 86)), .int (Int32.ofInt (F92_ 363 87))]) (b := 344) (rest := [.long (Int64.ofInt 1), .long (Int64.ofInt (F1 344 64)), .ref 344]) hm_178 rfl hm_160 rfl rfl (fl_ob sc_344) rfl rfl rfl rfl rfl (by omega) (by omega) (mc_160 hG F92_ X g93_ (F92_ 362 43) (F92_ 363 86) (F92_ 363 87) (⟨by omega, by omega⟩) (⟨by omega, by omega⟩) (⟨by omega, by omega⟩)) (fun _ _ h => False.elim h) ?_
              rintro z136_ A1_ ⟨hA_, c137_, c138_⟩
              subst hA_
              refine ga_lx (z := (lsl 1 z136_)) hm_178 rfl rfl rfl (lsl_e _ _) (fun ⟨h139_, h140_⟩ => ?_)
              refine ga_lx (z := (lorr (F1 344 64) ((lsl 1 z136_)))) hm_178 rfl rfl rfl (lop_e 1 _ _) (fun ⟨h141_, h142_⟩ => ?_)
              refine ga_putl hm_178 rfl sc_344 rfl rfl ?_
              refine ga_inc (a := n) (c := n + 1) (lv2 := [(1, .int (Int32.ofInt (n + 1))), (0, .ref 344)]) hm_178 rfl rfl (Nat.le_of_ble_eq_true rfl) rfl rfl ?_
              refine fl_goto hm_178 rfl ?_
              obtain ⟨F143_, q144_⟩ : ∃ Fq_, Fq_ = (fl_u F92_ 344 64 ((lorr (F1 344 64) ((lsl 1 z136_))))) := ⟨_, rfl⟩
              rw [← q144_]
              have g145_ : gi F143_ := by rw [q144_]; exact gi_u (g93_) rfl (by omega) (by omega)
              have g146_ : fs [(344, 344, 5, 5), (344, 344, 9, 10), (344, 344, 64, 64), (362, 362, 40, 43), (363, 363, 80, 87)] F F143_ := by rw [q144_]; exact fs_u (g108_) rfl
              have rk147_ : rk K F143_ := by rw [q144_]; exact rk_u (rk109_) (by first | decide | exact nc_ rfl | omega) (by first | decide | exact nc_ rfl | omega)
              have e148_ : F143_ 344 9 = F92_ 344 9 := by rw [q144_]; exact fl_u_ne (by first | exact nc_ rfl | decide | omega)
              have e149_ : F143_ 344 5 = F92_ 344 5 := by rw [q144_]; exact fl_u_ne (by first | exact nc_ rfl | decide | omega)
              have b150_ : 0 ≤ F92_ 344 5 ∧ F92_ 344 5 ≤ 600 := gi_g g93_ rfl
              have b151_ : 0 ≤ K 1 6 ∧ K 1 6 ≤ 601 := gi_g hgK rfl
              have b152_ : 0 ≤ F 344 5 ∧ F 344 5 ≤ 600 := gi_g hgi rfl
              have e153_ : F143_ 344 64 = (lorr (F1 344 64) ((lsl 1 z136_))) := by rw [q144_]; exact fl_u_eq
              have e154_ : F143_ 344 10 = F92_ 344 10 := by rw [q144_]; exact fl_u_ne (by first | exact nc_ rfl | decide | omega)
              exact ih10_ _ (by omega) (n + 1) ((L ++ [at_d K l pl ps 0 (F39_ 344 5)])) F143_ rfl g145_ (by rw [q144_]; exact fs_u ((fs_tr (fs_tr hf_F1 s41_ rfl) s94_ rfl)) rfl) (by omega) (by omega) (⟨by omega, by omega⟩) (by rw [hsp, si1_k (by omega) c37_, at_eq c88_]; congr 1 <;> omega) (fun h9_ => by rw [msk_a, mk1_y (nt := 0) (at_ge (nt := 0) c88_) rfl]; refine Eq.trans (e153_) ?_; rw [hbt h9_, c138_, (show F92_ 366 = F 366 from funext (fun j => (Eq.trans (a := F92_ 366 j) (b := F39_ 366 j) (s94_ 366 j (by first | exact fs_c rfl | exact (fs_n (by omega) (fs_n (by omega) (fs_n (by omega) (fs_n (by omega) rfl)))))) (Eq.trans (a := F39_ 366 j) (b := F1 366 j) (s41_ 366 j (by first | exact fs_c rfl | exact (fs_n (by omega) (fs_n (by omega) rfl)))) (Eq.trans (a := F1 366 j) (b := F3_ 366 j) (hf_F1 366 j (by first | exact fs_c rfl | exact (fs_n (by omega) (fs_n (by omega) (fs_n (by omega) (fs_n (by omega) (fs_n (by omega) rfl))))))) (show F3_ 366 j = F 366 j from (by rw [q4_]; exact (fl_u_ne (by first | exact nc_ rfl | decide | omega)))))))))]; exact congrArg (fun q_ => lorr _ (lsl 1 (F 366 q_))) ((pl_ref (F := F92_) (ps := ps) (a := 5) c91_.1 (by rw [c91_.1]; exact (((rprd_fs (rprd_fs (rprd_fs (by rw [q4_]; exact (rprd_u hps.1 (by first | decide | exact nc_ rfl | omega))) hf_F1 (by first | exact fs_rg rfl | exact fun r j hj => (fs_n (by omega) (fs_n (by omega) (fs_n (by omega) (fs_n (by omega) (fs_n (by omega) rfl))))))) s41_ (by first | exact fs_rg rfl | exact fun r j hj => (fs_n (by omega) (fs_n (by omega) rfl)))) s94_ (by first | exact fs_rg rfl | exact fun r j hj => (fs_n (by omega) (fs_n (by omega) (fs_n (by omega) (fs_n (by omega) rfl))))))) _ (by have h8_ := (at_ok c88_).1; have h7_ := idx_bd pl (K 6 (F39_ 344 5).toNat); have h6_ := hps.2; show (idx pl (K 6 (F39_ 344 5).toNat)).toNat < ps.length; omega)).1) (at_lw (nt := 0) c88_ hps.2.symm (at_ge c88_)) (fun h8_ => by have h7_ : (at_d K l pl ps 0 (F39_ 344 5)).2.2.1 = -1 ∨ F92_ 363 86 = (at_d K l pl ps 0 (F39_ 344 5)).2.2.1 := c91_.2.1; have h6_ := at_lw (nt := 0) c88_ hps.2.symm (at_ge c88_); rw [obr5]; show F92_ 363 86 = (((at_d K l pl ps 0 (F39_ 344 5)).2.2.1.toNat : Nat) : Int); omega) (fun h8_ => by have h7_ : (at_d K l pl ps 0 (F39_ 344 5)).2.2.2 = -1 ∨ F92_ 363 87 = (at_d K l pl ps 0 (F39_ 344 5)).2.2.2 := c91_.2.2; have h6_ := at_lw (nt := 0) c88_ hps.2.symm (at_ge c88_); rw [obr5]; show F92_ 363 87 = (((at_d K l pl ps 0 (F39_ 344 5)).2.2.2.toNat : Nat) : Int); omega)).trans (by rw [obr5]))) (by rw [hcd, az_step (by omega) (kd_ok c37_).1 (ks_ok c37_) c88_, List.append_cons, show F143_ 344 5 = F92_ 344 5 from (show F143_ 344 5 = F92_ 344 5 from (by rw [q144_]; exact (fl_u_ne (by first | exact nc_ rfl | decide | omega))))])
            exfalso; omega
          refine ga_aload_n (v := .ref 344) hm_178 rfl rfl rfl ?_
          refine fl_iconst hm_178 rfl ?_
          refine gVv (nY := 2) (F := 0) (L := 0) (As := [.int (Int32.ofInt 1)]) (b := 344) (rest := []) hm_178 rfl hm_54 rfl rfl (fl_ob sc_344) rfl rfl rfl rfl rfl (by omega) (by omega) (mc_54 hG F1 X hg_F1 (K) (1) hgK rk13_ hkt (⟨by omega, by omega⟩) (⟨by omega, by omega⟩)) (fun _ _ h => False.elim h) ?_
          have b156_ : 0 ≤ F1 344 10 ∧ F1 344 10 ≤ 600 := gi_g hg_F1 rfl
          rintro A1_ ⟨F160_, hA_, g161_, s162_, c157_, c158_, c159_⟩
          subst hA_
          have g163_ : fs [(344, 344, 5, 5), (344, 344, 9, 10), (344, 344, 64, 64), (362, 362, 40, 43), (363, 363, 80, 87)] F F160_ := fs_tr g12_ s162_ rfl
          have rk164_ : rk K F160_ := rk_fs rk13_ s162_ (fs_rg rfl) rfl
          have c158_s := c158_.1 (by omega)
          clear c158_
          refine ga_aload_n (v := .ref 344) hm_178 rfl rfl rfl ?_
          refine fl_bipush hm_178 rfl rfl ?_
          have e165_ : F160_ 344 5 = F1 344 5 := (s162_ 344 5 rfl).trans (rfl)
          refine gVv (nY := 2) (F := 2) (L := 41) (As := [.int (Int32.ofInt 40)]) (b := 344) (rest := []) hm_178 rfl hm_51 rfl rfl (fl_ob sc_344) rfl rfl rfl rfl rfl (by omega) (by omega) (mc_51 hG F160_ X g161_ (K) (40) (0) hgK rk164_ hkt (⟨by omega, by omega⟩) (by omega) (by omega)) (fun _ _ h => False.elim h) ?_
          have b167_ : 0 ≤ F160_ 344 10 ∧ F160_ 344 10 ≤ 600 := gi_g g161_ rfl
          have b168_ : 0 ≤ F160_ 344 9 ∧ F160_ 344 9 ≤ 5 := gi_g g161_ rfl
          rintro A1_ (⟨F172_, hA_, g173_, s174_, c169_, c170_, c171_⟩ | ⟨F178_, hA_, g179_, s180_, c175_, c176_, c177_⟩)
          ·
            subst hA_
            have g181_ : fs [(344, 344, 5, 5), (344, 344, 9, 10), (344, 344, 64, 64), (362, 362, 40, 43), (363, 363, 80, 87)] F F172_ := fs_tr g163_ s174_ rfl
            have rk182_ : rk K F172_ := rk_fs rk164_ s174_ (fs_rg rfl) rfl
            try simp only [e165_] at c170_
            have c170_k := c170_.2 (by omega)
            clear c170_
            refine ga_aload_n (v := .ref 344) hm_178 rfl rfl rfl ?_
            refine fl_iconst hm_178 rfl ?_
            refine fl_bipush hm_178 rfl rfl ?_
            have b183_ : 0 ≤ F172_ 344 5 ∧ F172_ 344 5 ≤ 600 := gi_g g173_ rfl
            refine gVv (nY := 7) (F := 4) (L := 91) (As := [.int (Int32.ofInt 5), .int (Int32.ofInt 43)]) (b := 344) (rest := []) hm_178 rfl hm_174 rfl rfl (fl_ob sc_344) rfl rfl rfl rfl rfl (by omega) (by omega) (mc_174z hG F172_ X g173_ (K) (5) (43) (2) (l) (tl) (pl) (ps) hgK rk182_ hkt (⟨by omega, by omega⟩) ((trm_fs (trm_fs (trm_fs (by rw [q4_]; exact (trm_u ht (by first | decide | exact nc_ rfl | omega))) hf_F1 (by first | exact fs_rg rfl | exact fun r j hj => (fs_n (by omega) (fs_n (by omega) (fs_n (by omega) (fs_n (by omega) (fs_n (by omega) rfl))))))) s162_ (by first | exact fs_rg rfl | exact fun r j hj => (fs_n (by omega) rfl))) s174_ (by first | exact fs_rg rfl | exact fun r j hj => (fs_n (by omega) (fs_n (by omega) rfl))))) (hlt) (by omega) ((rpn_fs (rpn_fs (rpn_fs (by rw [q4_]; exact (rpn_u hpl (by first | decide | exact nc_ rfl | omega) (by first | decide | exact nc_ rfl | omega))) hf_F1 (fun _ => (by first | exact fs_c rfl | exact (fs_n (by omega) (fs_n (by omega) (fs_n (by omega) (fs_n (by omega) (fs_n (by omega) rfl))))))) (by first | exact fs_c rfl | exact (fs_n (by omega) (fs_n (by omega) (fs_n (by omega) (fs_n (by omega) (fs_n (by omega) rfl))))))) s162_ (fun _ => (by first | exact fs_c rfl | exact (fs_n (by omega) rfl))) (by first | exact fs_c rfl | exact (fs_n (by omega) rfl))) s174_ (fun _ => (by first | exact fs_c rfl | exact (fs_n (by omega) (fs_n (by omega) rfl)))) (by first | exact fs_c rfl | exact (fs_n (by omega) (fs_n (by omega) rfl))))) (⟨(rprd_fs (rprd_fs (rprd_fs (by rw [q4_]; exact (rprd_u hps.1 (by first | decide | exact nc_ rfl | omega))) hf_F1 (by first | exact fs_rg rfl | exact fun r j hj => (fs_n (by omega) (fs_n (by omega) (fs_n (by omega) (fs_n (by omega) (fs_n (by omega) rfl))))))) s162_ (by first | exact fs_rg rfl | exact fun r j hj => (fs_n (by omega) rfl))) s174_ (by first | exact fs_rg rfl | exact fun r j hj => (fs_n (by omega) (fs_n (by omega) rfl)))), hps.2⟩) (⟨by omega, by omega⟩) (Or.inr (by omega))) (fun _ _ h => False.elim h) ?_
            have b185_ : 0 ≤ F172_ 344 10 ∧ F172_ 344 10 ≤ 600 := gi_g g173_ rfl
            have b186_ : 0 ≤ F172_ 344 9 ∧ F172_ 344 9 ≤ 5 := gi_g g173_ rfl
            rintro A1_ (⟨F190_, hA_, g191_, s192_, c187_, c188_, c189_⟩ | ⟨F198_, hA_, g199_, s200_, c193_, c194_, c195_, c196_, c197_⟩)
            ·
              subst hA_
              have g201_ : fs [(344, 344, 5, 5), (344, 344, 9, 10), (344, 344, 64, 64), (362, 362, 40, 43), (363, 363, 80, 87)] F F190_ := fs_tr g181_ s192_ rfl
              have rk202_ : rk K F190_ := rk_fs rk182_ s192_ (fs_rg rfl) rfl
              have c188_k := c188_.2 (by omega)
              clear c188_
              refine ga_aload_n (v := .ref 344) hm_178 rfl rfl rfl ?_
              refine gIi (nY := 1) (F := 0) (L := 0) (As := []) (b := 344) (rest := []) hm_178 rfl hm_59 rfl rfl (fl_ob sc_344) rfl rfl rfl rfl rfl (by omega) (by omega) ?_
              intro f203_ l204_ h205_ h206_
              show fl_R xi_ms 59 f203_ l204_ 0 [(0, .ref 344)] [] _ _
              refine ga_aload_n (v := .ref 344) hm_59 rfl rfl rfl ?_
              have b207_ : 0 ≤ F190_ 344 9 ∧ F190_ 344 9 ≤ 5 := gi_g g191_ rfl
              refine ga_geti (z := F190_ 344 9) hm_59 rfl sc_344 rfl (rfl) ?_
              refine fl_if_le (a := F190_ 344 9) hm_59 rfl ⟨by omega, by omega⟩ (fun h208_ => ?_) (fun h209_ => ?_)
              · exfalso; omega
              refine fl_iconst hm_59 rfl ?_
              refine fl_goto hm_59 rfl ?_
              refine gr_i hm_59 rfl rfl (ga_nb (by omega)) ?_
              clear h205_ h206_ f203_ l204_
              refine fl_if_eq hm_178 rfl ⟨by omega, by omega⟩ (fun h => absurd h (by omega)) (fun _ => ?_)
              refine gr_v hm_178 rfl rfl ?_
              have b210_ : 0 ≤ F190_ 344 10 ∧ F190_ 344 10 ≤ 600 := gi_g g191_ rfl
              have b211_ : 0 ≤ F 344 10 ∧ F 344 10 ≤ 600 := gi_g hgi rfl
              have b212_ : 0 ≤ F 344 5 ∧ F 344 5 ≤ 600 := gi_g hgi rfl
              have b213_ : 0 ≤ F190_ 344 5 ∧ F190_ 344 5 ≤ 600 := gi_g g191_ rfl
              exact Or.inl ⟨F190_, rfl, g191_, g201_, (by omega), (⟨by intro h0_; have hs_ := c158_s; rw [hsp, si1_f (by omega) (Or.inl (by omega))]; try (congr 2 <;> omega), fun h0_ => by exfalso; omega⟩), (⟨by omega, by omega⟩)⟩
            exfalso; omega
          exfalso; omega
        subst hA_
        subst hz_
        refine fl_if_ne hm_178 rfl ⟨by omega, by omega⟩ (fun _ => ?_) (fun h => absurd (by omega) h)
        refine gr_v hm_178 rfl rfl ?_
        have b214_ : 0 ≤ F 344 5 ∧ F 344 5 ≤ 600 := gi_g hgi rfl
        have b215_ : -9223372036854775808 ≤ F1 344 64 ∧ F1 344 64 ≤ 9223372036854775807 := gi_g hg_F1 rfl
        have b216_ : 0 ≤ F 344 36 ∧ F 344 36 ≤ 216 := gi_g hgi rfl
        exact Or.inr (⟨F1, rfl, hg_F1, g12_, (by omega), (⟨by rw [hsp, si1_e (by omega)]; try (congr 1; omega), by (try rw [show F1 344 5 = F1 344 5 by omega]); omega⟩), (⟨by omega, by omega⟩), (fun h9_ => by rw [hcd, az_e (by omega), List.append_nil]; exact Eq.trans (rfl) (hbt h9_))⟩)
      exfalso; omega
    have e217_ : F3_ 344 9 = F 344 9 := by rw [q4_]; exact fl_u_ne (by first | exact nc_ rfl | decide | omega)
    have e218_ : F3_ 344 5 = F 344 5 := by rw [q4_]; exact fl_u_ne (by first | exact nc_ rfl | decide | omega)
    have b219_ : 0 ≤ F 344 5 ∧ F 344 5 ≤ 600 := gi_g hgi rfl
    have b220_ : 0 ≤ K 1 6 ∧ K 1 6 ≤ 601 := gi_g hgK rfl
    have e221_ : F3_ 344 64 = 0 := by rw [q4_]; exact fl_u_eq
    have b222_ : 0 ≤ F 344 36 ∧ F 344 36 ≤ 216 := gi_g hgi rfl
    have e223_ : F3_ 344 10 = F 344 10 := by rw [q4_]; exact fl_u_ne (by first | exact nc_ rfl | decide | omega)
    exact L9_ _ (0) ([]) F3_ rfl g5_ fs_refl (by omega) (⟨by omega, by omega⟩) (⟨by omega, by omega⟩) (by rw [show F 344 5 = F3_ 344 5 from ((show F3_ 344 5 = F 344 5 from (by rw [q4_]; exact (fl_u_ne (by first | exact nc_ rfl | decide | omega))))).symm]; rfl) (fun _ => Eq.trans (e221_) rfl) (by rw [show F 344 5 = F3_ 344 5 from ((show F3_ 344 5 = F 344 5 from (by rw [q4_]; exact (fl_u_ne (by first | exact nc_ rfl | decide | omega))))).symm]; rfl)
  refine fl_iconst hm_178 rfl ?_
  refine ga_istore_n (lv2 := [(1, .int (Int32.ofInt 0)), (0, .ref 344)]) hm_178 rfl (Nat.le_of_ble_eq_true rfl) rfl ?_
  refine ga_aload_n (v := .ref 344) hm_178 rfl rfl rfl ?_
  refine ga_lconst (z := 0) hm_178 rfl rfl ?_
  refine ga_putl hm_178 rfl sc_344 rfl rfl ?_
  refine ga_aload_n (v := .ref 344) hm_178 rfl rfl rfl ?_
  refine gIi (nY := 1) (F := 0) (L := 0) (As := []) (b := 344) (rest := []) hm_178 rfl hm_59 rfl rfl (fl_ob sc_344) rfl rfl rfl rfl rfl (by omega) (by omega) ?_
  intro f224_ l225_ h226_ h227_
  show fl_R xi_ms 59 f224_ l225_ 0 [(0, .ref 344)] [] _ _
  refine ga_aload_n (v := .ref 344) hm_59 rfl rfl rfl ?_
  refine ga_geti (z := F 344 9) hm_59 rfl sc_344 rfl (fl_u_ne (by first | exact nc_ rfl | decide | omega)) ?_
  refine fl_if_le (a := F 344 9) hm_59 rfl ⟨by omega, by omega⟩ (fun h228_ => ?_) (fun h229_ => ?_)
  · exfalso; omega
  refine fl_iconst hm_59 rfl ?_
  refine fl_goto hm_59 rfl ?_
  refine gr_i hm_59 rfl rfl (ga_nb (by omega)) ?_
  clear h226_ h227_ f224_ l225_
  refine fl_if_ne hm_178 rfl ⟨by omega, by omega⟩ (fun _ => ?_) (fun h => absurd (by omega) h)
  obtain ⟨F230_, q231_⟩ : ∃ Fq_, Fq_ = (fl_u F 344 64 0) := ⟨_, rfl⟩
  rw [← q231_]
  have g232_ : gi F230_ := by rw [q231_]; exact gi_u (hgi) rfl (by omega) (by omega)
  have g233_ : fs [(344, 344, 5, 5), (344, 344, 9, 10), (344, 344, 64, 64), (362, 362, 40, 43), (363, 363, 80, 87)] F F230_ := by rw [q231_]; exact fs_u (fs_refl) rfl
  have rk234_ : rk K F230_ := by rw [q231_]; exact rk_u (hrk) (by first | decide | exact nc_ rfl | omega) (by first | decide | exact nc_ rfl | omega)
  refine gr_v hm_178 rfl rfl ?_
  have e235_ : F230_ 344 9 = F 344 9 := by rw [q231_]; exact fl_u_ne (by first | exact nc_ rfl | decide | omega)
  have e236_ : F230_ 344 10 = F 344 10 := by rw [q231_]; exact fl_u_ne (by first | exact nc_ rfl | decide | omega)
  have e237_ : F230_ 344 5 = F 344 5 := by rw [q231_]; exact fl_u_ne (by first | exact nc_ rfl | decide | omega)
  have b238_ : 0 ≤ F 344 10 ∧ F 344 10 ≤ 600 := gi_g hgi rfl
  have b239_ : 0 ≤ F 344 5 ∧ F 344 5 ≤ 600 := gi_g hgi rfl
  exact Or.inl ⟨F230_, rfl, g232_, g233_, (by omega), (⟨fun h0_ => by exfalso; omega, fun h0_ => by constructor <;> omega⟩), (⟨by omega, by omega⟩)⟩

/-! the reference reads a problem -/
theorem tr5 {F : fl_N} {l tl : List Int} (h : trm F 5 2 l tl) : rpn (F 364) (F 344 33) l ∧ rty (F 365) 0 tl := by
  rcases h with h | h
  · exact h.2.2
  · omega
theorem tr5_0 {F : fl_N} (h : F 344 33 = 0) : trm F 5 2 [] [] := Or.inl ⟨rfl, rfl, rpn_0 (a := 364) h, fun j x hx => by simp at hx⟩

/-! the reference reads a problem, exactly (draft) -/
def sp_o1 (K : fl_N) (ts l tl : List Int) (p : Int) : PR (Int × List Int × List Int) := if 6 ≤ l.length then pf K p 1 else sp_typed K ts 2 l tl p
theorem ty_rt {K : fl_N} {ts l tl : List Int} {p : Int} (h3 : K 3 p.toNat = 2) (hz : idx l (K 6 p.toNat) < 0) (hp : p < K 1 6 - 1) : sp_typed K ts 2 l tl p = pb (sp_rt K ts (p + 1)) (fun r => .inr (r.1, l ++ [K 6 p.toNat], tl ++ [r.2])) := by
  rw [sp_typed, sp_new, if_pos h3, if_pos hz, sk, if_pos hp, pb_r, sp_rt]
  by_cases c : isw K (p + 1) [45] = true
  · simp only [c, if_true]
  · simp only [c, if_false]
    rfl
def sp_i1 (K : fl_N) (l tl pl : List Int) (ps : List (List Int)) (m : Nat) (p : Int) : PR Int := pb (sp_atoms K 2 l tl pl ps m p) (fun q => if K 3 q.toNat = 1 then .inr q else pf K q 1)
theorem si1_e {K : fl_N} {l tl pl : List Int} {ps : List (List Int)} {m : Nat} {p : Int} (hk : K 3 p.toNat = 1) : sp_i1 K l tl pl ps m p = .inr p := by
  rw [sp_i1, spz_e (by omega), pb_r, if_pos hk]
theorem si1_f {K : fl_N} {l tl pl : List Int} {ps : List (List Int)} {m : Nat} {p : Int} (hk : ¬ K 3 p.toNat = 1) (h0 : m = 0 ∨ ¬ K 3 p.toNat = 0) : sp_i1 K l tl pl ps m p = .inl (1, K 4 p.toNat) := by
  have e : sp_atoms K 2 l tl pl ps m p = .inr p := by
    rcases h0 with h0 | h0
    · subst h0
      rfl
    · exact spz_e h0
  rw [sp_i1, e, pb_r, if_neg hk]
  rfl
theorem si1_s {K : fl_N} {l tl pl : List Int} {ps : List (List Int)} {m : Nat} {p : Int} (hm : 0 < m) (hk : K 3 p.toNat = 0) (hp : p < K 1 6 - 1) : sp_i1 K l tl pl ps m p = pb (sp_atom K 2 l tl pl ps (p + 1)) (fun p => sp_i1 K l tl pl ps (m - 1) p) := by
  obtain ⟨k, rfl⟩ : ∃ k, m = k + 1 := ⟨m - 1, by omega⟩
  rw [sp_i1]
  conv => lhs; unfold sp_atoms
  rw [if_pos hk, sk, if_pos hp, pb_as]
  rfl
theorem si1_k {K : fl_N} {l tl pl : List Int} {ps : List (List Int)} {m : Nat} {p q : Int} (hm : 0 < m) (h : sp_kind K 0 p = .inr q) : sp_i1 K l tl pl ps m p = pb (sp_atom K 2 l tl pl ps q) (fun p => sp_i1 K l tl pl ps (m - 1) p) := by
  obtain ⟨h1, h2⟩ := kd_ok h
  obtain ⟨k, rfl⟩ : ∃ k, m = k + 1 := ⟨m - 1, by omega⟩
  rw [sp_i1]
  conv => lhs; unfold sp_atoms
  rw [if_pos h1, ← h2, pb_as]
  rfl
theorem si1_kf {K : fl_N} {l tl pl : List Int} {ps : List (List Int)} {m : Nat} {p : Int} {e : Int × Int} (hk : ¬ K 3 p.toNat = 1) (h : sp_kind K 0 p = .inl e) : sp_i1 K l tl pl ps m p = .inl e := by
  unfold sp_kind at h
  split at h
  · cases h
  · rename_i h1
    rw [si1_f hk (Or.inr h1)]
    exact h
theorem at_eq {K : fl_N} {k : Int} {l tl pl : List Int} {ps : List (List Int)} {p q : Int} {α : Type} {f : Int → PR α} (h : sp_atom K k l tl pl ps p = .inr q) : pb (sp_atom K k l tl pl ps p) f = f q := by
  rw [h]
  rfl
theorem at_er {K : fl_N} {k : Int} {l tl pl : List Int} {ps : List (List Int)} {p : Int} {e : Int × Int} {α : Type} {f : Int → PR α} (h : sp_atom K k l tl pl ps p = .inl e) : pb (sp_atom K k l tl pl ps p) f = .inl e := by
  rw [h]
  rfl
theorem so_step {K : fl_N} {ts l tl l2 tl2 : List Int} {p p2 : Int} (hk : (l.length : Int) = 0 ∨ ¬ K 3 p.toNat = 1) (h : sp_o1 K ts l tl p = .inr (p2, l2, tl2)) (h2 : l2.length = l.length + 1) : sp_objs K ts (6 - l.length) l tl p = sp_objs K ts (6 - l2.length) l2 tl2 p2 := by
  unfold sp_o1 at h
  split at h
  · cases h
  · rename_i h6
    have hs := spo_step (K := K) (ts := ts) (l := l) (tl := tl) (i := (l.length : Int)) (p := p) (by omega) rfl hk
    rw [show ((6 : Int) - (l.length : Int)).toNat = 6 - l.length by omega, show ((6 : Int) - ((l.length : Int) + 1)).toNat = 6 - l2.length by omega] at hs
    rw [hs, h]
    rfl
theorem so_f {K : fl_N} {ts l tl : List Int} {p : Int} {e : Int × Int} {α : Type} {f : Int × List Int × List Int → Int → PR α} (hk : (l.length : Int) = 0 ∨ ¬ K 3 p.toNat = 1) (h : sp_o1 K ts l tl p = .inl e) : pb (sp_objs K ts (6 - l.length) l tl p) (fun q => pb (sp_kind K 1 q.1) (f q)) = .inl e := by
  unfold sp_o1 at h
  split at h
  · rename_i h6
    have h5 : ¬ K 3 p.toNat = 1 := by omega
    rw [show 6 - l.length = 0 by omega, sp_objs, pb_r, sp_kind, if_neg (show ¬ K 3 (p, l, tl).1.toNat = 1 from h5)]
    have h9 : ((1 : Int), K 4 p.toNat) = e := Sum.inl.inj h
    rw [← h9]
    rfl
  · rename_i h6
    have hs := spo_step (K := K) (ts := ts) (l := l) (tl := tl) (i := (l.length : Int)) (p := p) (by omega) rfl hk
    rw [show ((6 : Int) - (l.length : Int)).toNat = 6 - l.length by omega] at hs
    rw [hs, h]
    rfl
theorem so_e {K : fl_N} {ts l tl : List Int} {m : Nat} {p : Int} (hl : 0 < (l.length : Int)) (hk : K 3 p.toNat = 1) : sp_objs K ts m l tl p = .inr (p, l, tl) := spo_e rfl (by omega) hk
theorem si1_ok {K : fl_N} {l tl pl : List Int} {ps : List (List Int)} {m : Nat} {p q : Int} (h : sp_i1 K l tl pl ps m p = .inr q) : sp_atoms K 2 l tl pl ps m p = .inr q := by
  unfold sp_i1 at h
  obtain ⟨a, h1, h2⟩ := pb_ok h
  split at h2
  · rw [h1, Sum.inr.inj h2]
  · cases h2
theorem si1_fl {K : fl_N} {l tl pl : List Int} {ps : List (List Int)} {m : Nat} {p : Int} {e : Int × Int} {α : Type} {f : Int → PR α} (h : sp_i1 K l tl pl ps m p = .inl e) : pb (sp_atoms K 2 l tl pl ps m p) (fun r => pb (sp_kind K 1 r) f) = .inl e := by
  unfold sp_i1 at h
  cases hx : sp_atoms K 2 l tl pl ps m p with
  | inl e2 =>
    rw [hx] at h
    have h9 : e2 = e := Sum.inl.inj h
    rw [h9]
    rfl
  | inr a =>
    rw [hx, pb_r] at h
    split at h
    · cases h
    · rename_i h1
      rw [pb_r, sp_kind, if_neg h1]
      have h9 : ((1 : Int), K 4 a.toNat) = e := Sum.inl.inj h
      rw [← h9]
      rfl
def sp_r3 (K : fl_N) (l tl pl : List Int) (ps : List (List Int)) (p : Int) : PR (List Int × List Int) := pb (sp_part K [58, 105, 110, 105, 116] p) fun p => pb (sp_atoms K 2 l tl pl ps 12 p) fun p => pb (sp_kind K 1 p) fun p => pb (sp_part K [58, 103, 111, 97, 108] p) fun p => pb (sp_clause K false 2 l tl pl ps p) fun s => pb (sp_kind K 1 s.1) fun p => pb (sp_close K p) fun _ => .inr (l, tl)
def sp_r2 (K : fl_N) (ts pl : List Int) (ps : List (List Int)) (p : Int) : PR (List Int × List Int) := pb (pb (sp_objs K ts 6 [] [] p) fun q => pb (sp_kind K 1 q.1) fun p => .inr (p, q.2)) fun r => sp_r3 K r.2.1 r.2.2 pl ps r.1

/- CheapPlannerModel.readObject -/
abbrev pq_180 (G : Nat → Nat → Option Nat) (F : fl_N) (X : xi_H) (K : fl_N) (ts l tl : List Int) : Outcome → xi_H → Prop := gqv (fun A => (∃ F' : fl_N, fl_H sh_T G F' ++ X = A ∧ gi F' ∧ fs [(344, 344, 5, 5), (344, 344, 9, 10), (344, 344, 33, 33), (364, 365, 0, 100000)] F F' ∧ (¬ F' 344 9 = 0) ∧ ((F 344 9 = 0 → sp_o1 K ts l tl (F 344 5) = .inl (F' 344 9, F' 344 10)) ∧ (¬ F 344 9 = 0 → F' 344 9 = F 344 9 ∧ F' 344 10 = F 344 10)) ∧ (0 ≤ F' 344 5 ∧ F' 344 5 ≤ K 1 6 - 1) ∧ (∃ l tl, trm F' 5 2 l tl ∧ l.length = tl.length)) ∨ (∃ F' : fl_N, fl_H sh_T G F' ++ X = A ∧ gi F' ∧ fs [(344, 344, 5, 5), (344, 344, 9, 10), (344, 344, 33, 33), (364, 365, 0, 100000)] F F' ∧ (F' 344 9 = 0 ∧ F 344 9 = 0) ∧ (∃ c t, sp_o1 K ts l tl (F 344 5) = .inr (F' 344 5, l ++ [c], tl ++ [t]) ∧ trm F' 5 2 (l ++ [c]) (tl ++ [t])) ∧ (0 ≤ F' 344 5 ∧ F' 344 5 ≤ K 1 6 - 1))) gqn
set_option maxHeartbeats 16000000 in
theorem mc_180 {G : Nat → Nat → Option Nat} (hG : gg G) (F : fl_N) (X : xi_H) (hgi : gi F) (K : fl_N) (ts l tl : List Int) (hgK : gi K) (hrk : rk K F) (hkt : rkt K) (hp : 0 ≤ F 344 5 ∧ F 344 5 ≤ K 1 6 - 1) (hts : rpn (F 349) (F 344 15) ts) (ht : trm F 5 2 l tl) (hlt : l.length = tl.length) : fl_M xi_ms 180 4 89 [.ref 344] (fl_H sh_T G F ++ X) (pq_180 G F X K ts l tl) := by
  intro fr lo hfr hlo
  show fl_R xi_ms 180 fr lo 0 [(0, .ref 344)] [] _ _
  have hP := (rkt_p hkt hp.1 hp.2 hgK).1
  have hK16 : 0 ≤ K 1 6 ∧ K 1 6 ≤ 601 := gi_g hgK rfl
  have hko := hkt.1
  have hT : rpn (F 364) (F 344 33) l ∧ rty (F 365) 0 tl := tr5 ht
  have hT1 := hT.1.1
  have hb33 : 0 ≤ F 344 33 ∧ F 344 33 ≤ 6 := gi_g hgi rfl
  have b1_ : 0 ≤ F 344 9 ∧ F 344 9 ≤ 5 := gi_g hgi rfl
  by_cases h2_ : F 344 9 = 0
  ·
    refine ga_aload_n (v := .ref 344) hm_180 rfl rfl rfl ?_
    have b3_ : 0 ≤ F 344 33 ∧ F 344 33 ≤ 6 := gi_g hgi rfl
    refine ga_geti (z := F 344 33) hm_180 rfl sc_344 rfl (rfl) ?_
    refine fl_bipush hm_180 rfl rfl ?_
    refine fx_icmp_ne (a := F 344 33) (b := 6) hm_180 rfl ⟨by omega, by omega⟩ ⟨by omega, by omega⟩ (fun h4_ => ?_) (fun h5_ => ?_)
    ·
      refine ga_aload_n (v := .ref 344) hm_180 rfl rfl rfl ?_
      have b6_ : 0 ≤ F 344 5 ∧ F 344 5 ≤ 600 := gi_g hgi rfl
      refine gVl (nY := 3) (F := 2) (L := 46) (As := []) (b := 344) (rest := []) hm_180 rfl hm_58 rfl rfl (fl_ob sc_344) rfl rfl rfl rfl rfl (by omega) (by omega) (mc_58 hG F X hgi (K) hgK hrk hkt (⟨by omega, by omega⟩)) (fun _ _ h => False.elim h) ?_
      have b8_ : 0 ≤ F 344 10 ∧ F 344 10 ≤ 600 := gi_g hgi rfl
      rintro z7_ A1_ (⟨F13_, hA_, g14_, s15_, c9_, c10_, c11_, c12_⟩ | ⟨F23_, hA_, g24_, s25_, c16_, c17_, c18_, c19_, c20_, c21_, c22_⟩)
      ·
        subst hA_
        have g26_ : fs [(344, 344, 5, 5), (344, 344, 9, 10), (344, 344, 33, 33), (364, 365, 0, 100000)] F F13_ := fs_tr fs_refl s15_ rfl
        have rk27_ : rk K F13_ := rk_fs hrk s15_ (fs_rg rfl) rfl
        have c10_s := c10_.1 (by omega)
        clear c10_
        refine ga_lstore_n (lv2 := [(1, .long (Int64.ofInt z7_)), (0, .ref 344)]) hm_180 rfl (Nat.le_of_ble_eq_true rfl) rfl ?_
        refine ga_aload_n (v := .ref 344) hm_180 rfl rfl rfl ?_
        refine gIi (nY := 1) (F := 0) (L := 0) (As := []) (b := 344) (rest := []) hm_180 rfl hm_59 rfl rfl (fl_ob sc_344) rfl rfl rfl rfl rfl (by omega) (by omega) ?_
        intro f28_ l29_ h30_ h31_
        show fl_R xi_ms 59 f28_ l29_ 0 [(0, .ref 344)] [] _ _
        refine ga_aload_n (v := .ref 344) hm_59 rfl rfl rfl ?_
        have b32_ : 0 ≤ F13_ 344 9 ∧ F13_ 344 9 ≤ 5 := gi_g g14_ rfl
        refine ga_geti (z := F13_ 344 9) hm_59 rfl sc_344 rfl (rfl) ?_
        refine fl_if_le (a := F13_ 344 9) hm_59 rfl ⟨by omega, by omega⟩ (fun h33_ => ?_) (fun h34_ => ?_)
        · exfalso; omega
        refine fl_iconst hm_59 rfl ?_
        refine fl_goto hm_59 rfl ?_
        refine gr_i hm_59 rfl rfl (ga_nb (by omega)) ?_
        clear h30_ h31_ f28_ l29_
        refine fl_if_ne hm_180 rfl ⟨by omega, by omega⟩ (fun _ => ?_) (fun h => absurd (by omega) h)
        refine ga_aload_n (v := .ref 344) hm_180 rfl rfl rfl ?_
        refine gIv (nY := 1) (F := 1) (L := 20) (As := []) (b := 344) (rest := []) hm_180 rfl hm_61 rfl rfl (fl_ob sc_344) rfl rfl rfl rfl rfl (by omega) (by omega) ?_
        intro f35_ l36_ h37_ h38_
        show fl_R xi_ms 61 f35_ l36_ 0 [(0, .ref 344)] [] _ _
        refine ga_aload_n (v := .ref 344) hm_61 rfl rfl rfl ?_
        refine ga_dup hm_61 rfl rfl ?_
        have e39_ : F13_ 344 5 = F 344 5 := (s15_ 344 5 rfl).trans (rfl)
        refine ga_geti (z := F 344 5) hm_61 rfl sc_344 rfl (e39_) ?_
        refine ga_aload_n (v := .ref 344) hm_61 rfl rfl rfl ?_
        refine gIi (nY := 1) (F := 0) (L := 0) (As := []) (b := 344) (rest := [.int (Int32.ofInt (F 344 5)), .ref 344]) hm_61 rfl hm_59 rfl rfl (fl_ob sc_344) rfl rfl rfl rfl rfl (by omega) (by omega) ?_
        intro f40_ l41_ h42_ h43_
        show fl_R xi_ms 59 f40_ l41_ 0 [(0, .ref 344)] [] _ _
        refine ga_aload_n (v := .ref 344) hm_59 rfl rfl rfl ?_
        refine ga_geti (z := F13_ 344 9) hm_59 rfl sc_344 rfl (rfl) ?_
        refine fl_if_le (a := F13_ 344 9) hm_59 rfl ⟨by omega, by omega⟩ (fun h44_ => ?_) (fun h45_ => ?_)
        · exfalso; omega
        refine fl_iconst hm_59 rfl ?_
        refine fl_goto hm_59 rfl ?_
        refine gr_i hm_59 rfl rfl (ga_nb (by omega)) ?_
        clear h42_ h43_ f40_ l41_
        refine fl_if_eq hm_61 rfl ⟨by omega, by omega⟩ (fun h => absurd h (by omega)) (fun _ => ?_)
        refine fl_iconst hm_61 rfl ?_
        refine fl_goto hm_61 rfl ?_
        refine ga_iadd (a := F 344 5) (b := 0) (c := F 344 5) hm_61 rfl (by omega) ?_
        refine ga_puti (z := F 344 5) hm_61 rfl sc_344 rfl rfl ?_
        refine gr_v hm_61 rfl rfl ?_
        clear h37_ h38_ f35_ l36_
        refine ga_aload_n (v := .ref 344) hm_180 rfl rfl rfl ?_
        refine gIi (nY := 1) (F := 0) (L := 0) (As := []) (b := 344) (rest := []) hm_180 rfl hm_59 rfl rfl (fl_ob sc_344) rfl rfl rfl rfl rfl (by omega) (by omega) ?_
        intro f46_ l47_ h48_ h49_
        show fl_R xi_ms 59 f46_ l47_ 0 [(0, .ref 344)] [] _ _
        refine ga_aload_n (v := .ref 344) hm_59 rfl rfl rfl ?_
        refine ga_geti (z := F13_ 344 9) hm_59 rfl sc_344 rfl (fl_u_ne (by first | exact nc_ rfl | decide | omega)) ?_
        refine fl_if_le (a := F13_ 344 9) hm_59 rfl ⟨by omega, by omega⟩ (fun h50_ => ?_) (fun h51_ => ?_)
        · exfalso; omega
        refine fl_iconst hm_59 rfl ?_
        refine fl_goto hm_59 rfl ?_
        refine gr_i hm_59 rfl rfl (ga_nb (by omega)) ?_
        clear h48_ h49_ f46_ l47_
        refine fl_if_eq hm_180 rfl ⟨by omega, by omega⟩ (fun h => absurd h (by omega)) (fun _ => ?_)
        obtain ⟨F52_, q53_⟩ : ∃ Fq_, Fq_ = (fl_u F13_ 344 5 (F 344 5)) := ⟨_, rfl⟩
        rw [← q53_]
        have g54_ : gi F52_ := by rw [q53_]; exact gi_u (g14_) rfl (by omega) (by omega)
        have g55_ : fs [(344, 344, 5, 5), (344, 344, 9, 10), (344, 344, 33, 33), (364, 365, 0, 100000)] F F52_ := by rw [q53_]; exact fs_u (g26_) rfl
        have rk56_ : rk K F52_ := by rw [q53_]; exact rk_u (rk27_) (by first | decide | exact nc_ rfl | omega) (by first | decide | exact nc_ rfl | omega)
        refine gr_v hm_180 rfl rfl ?_
        have e57_ : F52_ 344 9 = F13_ 344 9 := by rw [q53_]; exact fl_u_ne (by first | exact nc_ rfl | decide | omega)
        have e58_ : F52_ 344 10 = F13_ 344 10 := by rw [q53_]; exact fl_u_ne (by first | exact nc_ rfl | decide | omega)
        have e59_ : F52_ 344 5 = F 344 5 := by rw [q53_]; exact fl_u_eq
        have b60_ : 0 ≤ F13_ 344 10 ∧ F13_ 344 10 ≤ 600 := gi_g g14_ rfl
        have e61_ : F13_ 5 2 = F 5 2 := (s15_ 5 2 rfl).trans (rfl)
        have e62_ : F52_ 5 2 = F 5 2 := by rw [q53_]; exact (fl_u_ne (by first | exact nc_ rfl | decide | omega)).trans (e61_)
        have b63_ : 0 ≤ F 5 2 ∧ F 5 2 ≤ 600 := gi_g hgi rfl
        have e64_ : F13_ 344 33 = F 344 33 := (s15_ 344 33 rfl).trans (rfl)
        have e65_ : F52_ 344 33 = F 344 33 := by rw [q53_]; exact (fl_u_ne (by first | exact nc_ rfl | decide | omega)).trans (e64_)
        exact Or.inl ⟨F52_, rfl, g54_, g55_, (by omega), (⟨by intro h0_; have hs_ := c10_s; rw [sp_o1, if_neg (by omega)]; rw [sp_typed]; have h1_ := nm_no hs_; rw [sp_nm, if_neg h1_] at hs_; have h2_ := Prod.mk.inj (Sum.inl.inj hs_); rw [sp_new, if_neg h1_]; show Sum.inl (1, K 4 _) = _; congr 2 <;> omega, fun h0_ => by exfalso; omega⟩), (⟨by omega, by omega⟩), (⟨l, tl, (by rw [q53_]; exact (trm_u (trm_fs ht s15_ (by first | exact fs_rg rfl | exact fun r j hj => (fs_n (by omega) rfl))) (by first | decide | exact nc_ rfl | omega))), hlt⟩)⟩
      subst hA_
      have g66_ : fs [(344, 344, 5, 5), (344, 344, 9, 10), (344, 344, 33, 33), (364, 365, 0, 100000)] F F23_ := fs_tr fs_refl s25_ rfl
      have rk67_ : rk K F23_ := rk_fs hrk s25_ (fs_rg rfl) rfl
      refine ga_lstore_n (lv2 := [(1, .long (Int64.ofInt z7_)), (0, .ref 344)]) hm_180 rfl (Nat.le_of_ble_eq_true rfl) rfl ?_
      refine ga_aload_n (v := .ref 344) hm_180 rfl rfl rfl ?_
      refine gIi (nY := 1) (F := 0) (L := 0) (As := []) (b := 344) (rest := []) hm_180 rfl hm_59 rfl rfl (fl_ob sc_344) rfl rfl rfl rfl rfl (by omega) (by omega) ?_
      intro f68_ l69_ h70_ h71_
      show fl_R xi_ms 59 f68_ l69_ 0 [(0, .ref 344)] [] _ _
      refine ga_aload_n (v := .ref 344) hm_59 rfl rfl rfl ?_
      have b72_ : 0 ≤ F23_ 344 9 ∧ F23_ 344 9 ≤ 5 := gi_g g24_ rfl
      refine ga_geti (z := F23_ 344 9) hm_59 rfl sc_344 rfl (rfl) ?_
      refine fl_if_le (a := F23_ 344 9) hm_59 rfl ⟨by omega, by omega⟩ (fun h73_ => ?_) (fun h74_ => ?_)
      ·
        refine fl_iconst hm_59 rfl ?_
        refine gr_i hm_59 rfl rfl (ga_nb (by omega)) ?_
        clear h70_ h71_ f68_ l69_
        refine fl_if_ne hm_180 rfl ⟨by omega, by omega⟩ (fun h => absurd h (by omega)) (fun _ => ?_)
        refine ga_aload_n (v := .ref 344) hm_180 rfl rfl rfl ?_
        refine ga_getr (b := 364) hm_180 rfl sc_344 rfl ?_
        refine fl_iconst hm_180 rfl ?_
        refine ga_aload_n (v := .ref 344) hm_180 rfl rfl rfl ?_
        have e75_ : F23_ 344 33 = F 344 33 := (s25_ 344 33 rfl).trans (rfl)
        refine ga_geti (z := F 344 33) hm_180 rfl sc_344 rfl (e75_) ?_
        refine ga_lload_n (z := z7_) hm_180 rfl rfl ?_
        refine gSi (nY := 7) (F := 0) (L := 0) (As := [.ref 364, .int (Int32.ofInt 0), .int (Int32.ofInt (F 344 33)), .long (Int64.ofInt z7_)]) (rest := []) hm_180 rfl hm_162 rfl rfl (fl_pos sc_0) rfl rfl rfl rfl (by omega) (by omega) (mc_162 hG F23_ X g24_ (364) (6) (0) (F 344 33) (z7_) sc_364 (fun _ => rfl) (⟨by omega, by omega, by omega, by omega⟩) (⟨by omega, by omega⟩))  ?_
        rintro z76_ A1_ ⟨hA_, c77_, c78_, c79_⟩
        subst hA_
        have c77_b : -1 ≤ z76_ ∧ z76_ ≤ 1000 := by omega
        have c77_o : opq _ := c77_
        have c78_o : opq _ := c78_
        have c79_o : opq _ := c79_
        clear c77_ c78_ c79_
        refine fl_iconst hm_180 rfl ?_
        refine fl_icmp_eq (a := z76_) (b := -1) hm_180 rfl ⟨by omega, by omega⟩ ⟨by omega, by omega⟩ (fun h80_ => ?_) (fun h81_ => ?_)
        ·
          refine ga_aload_n (v := .ref 344) hm_180 rfl rfl rfl ?_
          refine gIv (nY := 1) (F := 1) (L := 20) (As := []) (b := 344) (rest := []) hm_180 rfl hm_61 rfl rfl (fl_ob sc_344) rfl rfl rfl rfl rfl (by omega) (by omega) ?_
          intro f82_ l83_ h84_ h85_
          show fl_R xi_ms 61 f82_ l83_ 0 [(0, .ref 344)] [] _ _
          refine ga_aload_n (v := .ref 344) hm_61 rfl rfl rfl ?_
          refine ga_dup hm_61 rfl rfl ?_
          have e86_ : F23_ 344 5 = F 344 5 := (s25_ 344 5 rfl).trans (rfl)
          refine ga_geti (z := F 344 5) hm_61 rfl sc_344 rfl (e86_) ?_
          refine ga_aload_n (v := .ref 344) hm_61 rfl rfl rfl ?_
          refine gIi (nY := 1) (F := 0) (L := 0) (As := []) (b := 344) (rest := [.int (Int32.ofInt (F 344 5)), .ref 344]) hm_61 rfl hm_59 rfl rfl (fl_ob sc_344) rfl rfl rfl rfl rfl (by omega) (by omega) ?_
          intro f87_ l88_ h89_ h90_
          show fl_R xi_ms 59 f87_ l88_ 0 [(0, .ref 344)] [] _ _
          refine ga_aload_n (v := .ref 344) hm_59 rfl rfl rfl ?_
          refine ga_geti (z := F23_ 344 9) hm_59 rfl sc_344 rfl (rfl) ?_
          refine fl_if_le (a := F23_ 344 9) hm_59 rfl ⟨by omega, by omega⟩ (fun h91_ => ?_) (fun h92_ => ?_)
          ·
            refine fl_iconst hm_59 rfl ?_
            refine gr_i hm_59 rfl rfl (ga_nb (by omega)) ?_
            clear h89_ h90_ f87_ l88_
            refine fl_if_eq hm_61 rfl ⟨by omega, by omega⟩ (fun _ => ?_) (fun h => absurd (by omega) h)
            refine fl_iconst hm_61 rfl ?_
            refine ga_iadd (a := F 344 5) (b := 1) (c := F 344 5 + 1) hm_61 rfl (by omega) ?_
            refine ga_puti (z := F 344 5 + 1) hm_61 rfl sc_344 rfl rfl ?_
            refine gr_v hm_61 rfl rfl ?_
            clear h84_ h85_ f82_ l83_
            refine ga_aload_n (v := .ref 344) hm_180 rfl rfl rfl ?_
            refine gIi (nY := 1) (F := 0) (L := 0) (As := []) (b := 344) (rest := []) hm_180 rfl hm_59 rfl rfl (fl_ob sc_344) rfl rfl rfl rfl rfl (by omega) (by omega) ?_
            intro f93_ l94_ h95_ h96_
            show fl_R xi_ms 59 f93_ l94_ 0 [(0, .ref 344)] [] _ _
            refine ga_aload_n (v := .ref 344) hm_59 rfl rfl rfl ?_
            refine ga_geti (z := F23_ 344 9) hm_59 rfl sc_344 rfl (fl_u_ne (by first | exact nc_ rfl | decide | omega)) ?_
            refine fl_if_le (a := F23_ 344 9) hm_59 rfl ⟨by omega, by omega⟩ (fun h97_ => ?_) (fun h98_ => ?_)
            ·
              refine fl_iconst hm_59 rfl ?_
              refine gr_i hm_59 rfl rfl (ga_nb (by omega)) ?_
              clear h95_ h96_ f93_ l94_
              refine fl_if_eq hm_180 rfl ⟨by omega, by omega⟩ (fun _ => ?_) (fun h => absurd (by omega) h)
              refine ga_aload_n (v := .ref 344) hm_180 rfl rfl rfl ?_
              refine ga_getr (b := 364) hm_180 rfl sc_344 rfl ?_
              refine ga_aload_n (v := .ref 344) hm_180 rfl rfl rfl ?_
              refine ga_geti (z := F 344 33) hm_180 rfl sc_344 rfl ((fl_u_ne (by first | exact nc_ rfl | decide | omega)).trans (e75_)) ?_
              refine ga_lload_n (z := z7_) hm_180 rfl rfl ?_
              refine fl_last (z := F 344 33) (v := z7_) hm_180 rfl sc_364 (by omega) (by omega) (by omega) ?_
              refine ga_aload_n (v := .ref 344) hm_180 rfl rfl rfl ?_
              refine ga_getr (b := 365) hm_180 rfl sc_344 rfl ?_
              refine ga_aload_n (v := .ref 344) hm_180 rfl rfl rfl ?_
              refine ga_geti (z := F 344 33) hm_180 rfl sc_344 rfl ((fl_u_ne (by first | exact nc_ rfl | decide | omega)).trans ((fl_u_ne (by first | exact nc_ rfl | decide | omega)).trans (e75_))) ?_
              refine ga_aload_n (v := .ref 344) hm_180 rfl rfl rfl ?_
              obtain ⟨F99_, q100_⟩ : ∃ Fq_, Fq_ = (fl_u (fl_u F23_ 344 5 (F 344 5 + 1)) 364 (F 344 33).toNat z7_) := ⟨_, rfl⟩
              rw [← q100_]
              have g101_ : gi F99_ := by rw [q100_]; exact gi_u (gi_u (g24_) rfl (by omega) (by omega)) rfl (by omega) (by omega)
              have g102_ : fs [(344, 344, 5, 5), (344, 344, 9, 10), (344, 344, 33, 33), (364, 365, 0, 100000)] F F99_ := by rw [q100_]; exact fs_u (fs_u (g66_) rfl) (fs_z (fs_z (fs_z (fs_y (by omega)))))
              have rk103_ : rk K F99_ := by rw [q100_]; exact rk_u (rk_u (rk67_) (by first | decide | exact nc_ rfl | omega) (by first | decide | exact nc_ rfl | omega)) (by first | decide | exact nc_ rfl | omega) (by first | decide | exact nc_ rfl | omega)
              have e104_ : F99_ 344 5 = F 344 5 + 1 := by rw [q100_]; exact (fl_u_ne (by first | exact nc_ rfl | decide | omega)).trans (fl_u_eq)
              refine gVi (nY := 2) (F := 3) (L := 68) (As := []) (b := 344) (rest := [.int (Int32.ofInt (F 344 33)), .ref 365]) hm_180 rfl hm_186 rfl rfl (fl_ob sc_344) rfl rfl rfl rfl rfl (by omega) (by omega) (mc_186 hG F99_ X g101_ (K) (ts) hgK rk103_ hkt (⟨by omega, by omega⟩) ((by rw [q100_]; exact (rpn_u (rpn_u (rpn_fs hts s25_ (fun _ => (by first | exact fs_c rfl | exact (fs_n (by omega) rfl))) (by first | exact fs_c rfl | exact (fs_n (by omega) rfl))) (by first | decide | exact nc_ rfl | omega) (by first | decide | exact nc_ rfl | omega)) (by first | decide | exact nc_ rfl | omega) (by first | decide | exact nc_ rfl | omega))))) (fun _ _ h => False.elim h) ?_
              have e106_ : F99_ 344 10 = F23_ 344 10 := by rw [q100_]; exact (fl_u_ne (by first | exact nc_ rfl | decide | omega)).trans (fl_u_ne (by first | exact nc_ rfl | decide | omega))
              have b107_ : 0 ≤ F23_ 344 10 ∧ F23_ 344 10 ≤ 600 := gi_g g24_ rfl
              have e108_ : F99_ 344 9 = F23_ 344 9 := by rw [q100_]; exact (fl_u_ne (by first | exact nc_ rfl | decide | omega)).trans (fl_u_ne (by first | exact nc_ rfl | decide | omega))
              rintro z105_ A1_ (⟨F113_, hA_, g114_, s115_, c109_, c110_, c111_, c112_⟩ | ⟨F120_, hA_, g121_, s122_, c116_, c117_, c118_, c119_⟩)
              ·
                subst hA_
                have g123_ : fs [(344, 344, 5, 5), (344, 344, 9, 10), (344, 344, 33, 33), (364, 365, 0, 100000)] F F113_ := fs_tr g102_ s115_ rfl
                have rk124_ : rk K F113_ := rk_fs rk103_ s115_ (fs_rg rfl) rfl
                try simp only [e104_, e106_, e108_] at c110_
                have c110_s := c110_.1 (by omega)
                clear c110_
                refine fl_iast (z := F 344 33) (v := z105_) hm_180 rfl sc_365 (by omega) (by omega) (by omega) ?_
                refine ga_aload_n (v := .ref 344) hm_180 rfl rfl rfl ?_
                refine ga_dup hm_180 rfl rfl ?_
                have e125_ : F99_ 344 33 = F 344 33 := by rw [q100_]; exact (fl_u_ne (by first | exact nc_ rfl | decide | omega)).trans ((fl_u_ne (by first | exact nc_ rfl | decide | omega)).trans (e75_))
                have e126_ : F113_ 344 33 = F 344 33 := (s115_ 344 33 rfl).trans (e125_)
                refine ga_geti (z := F 344 33) hm_180 rfl sc_344 rfl ((fl_u_ne (by first | exact nc_ rfl | decide | omega)).trans (e126_)) ?_
                refine fl_iconst hm_180 rfl ?_
                refine ga_iadd (a := F 344 33) (b := 1) (c := F 344 33 + 1) hm_180 rfl (by omega) ?_
                refine ga_puti (z := F 344 33 + 1) hm_180 rfl sc_344 rfl rfl ?_
                obtain ⟨F127_, q128_⟩ : ∃ Fq_, Fq_ = (fl_u (fl_u F113_ 365 (F 344 33).toNat z105_) 344 33 (F 344 33 + 1)) := ⟨_, rfl⟩
                rw [← q128_]
                have g129_ : gi F127_ := by rw [q128_]; exact gi_u (gi_u (g114_) rfl (by omega) (by omega)) rfl (by omega) (by omega)
                have g130_ : fs [(344, 344, 5, 5), (344, 344, 9, 10), (344, 344, 33, 33), (364, 365, 0, 100000)] F F127_ := by rw [q128_]; exact fs_u (fs_u (g123_) (fs_z (fs_z (fs_z (fs_y (by omega)))))) rfl
                have rk131_ : rk K F127_ := by rw [q128_]; exact rk_u (rk_u (rk124_) (by first | decide | exact nc_ rfl | omega) (by first | decide | exact nc_ rfl | omega)) (by first | decide | exact nc_ rfl | omega) (by first | decide | exact nc_ rfl | omega)
                refine gr_v hm_180 rfl rfl ?_
                have e132_ : F127_ 344 9 = F113_ 344 9 := by rw [q128_]; exact (fl_u_ne (by first | exact nc_ rfl | decide | omega)).trans (fl_u_ne (by first | exact nc_ rfl | decide | omega))
                have b133_ : 0 ≤ F113_ 344 9 ∧ F113_ 344 9 ≤ 5 := gi_g g114_ rfl
                have e134_ : F127_ 344 10 = F113_ 344 10 := by rw [q128_]; exact (fl_u_ne (by first | exact nc_ rfl | decide | omega)).trans (fl_u_ne (by first | exact nc_ rfl | decide | omega))
                have e135_ : F127_ 344 5 = F113_ 344 5 := by rw [q128_]; exact (fl_u_ne (by first | exact nc_ rfl | decide | omega)).trans (fl_u_ne (by first | exact nc_ rfl | decide | omega))
                have b136_ : 0 ≤ F113_ 344 10 ∧ F113_ 344 10 ≤ 600 := gi_g g114_ rfl
                have b137_ : 0 ≤ F113_ 344 5 ∧ F113_ 344 5 ≤ 600 := gi_g g114_ rfl
                have e138_ : F23_ 5 2 = F 5 2 := (s25_ 5 2 rfl).trans (rfl)
                have e139_ : F99_ 5 2 = F 5 2 := by rw [q100_]; exact (fl_u_ne (by first | exact nc_ rfl | decide | omega)).trans ((fl_u_ne (by first | exact nc_ rfl | decide | omega)).trans (e138_))
                have e140_ : F113_ 5 2 = F 5 2 := (s115_ 5 2 rfl).trans (e139_)
                have e141_ : F127_ 5 2 = F 5 2 := by rw [q128_]; exact (fl_u_ne (by first | exact nc_ rfl | decide | omega)).trans ((fl_u_ne (by first | exact nc_ rfl | decide | omega)).trans (e140_))
                have b142_ : 0 ≤ F 5 2 ∧ F 5 2 ≤ 600 := gi_g hgi rfl
                have e143_ : F127_ 344 33 = F 344 33 + 1 := by rw [q128_]; exact fl_u_eq
                have e144_ : F99_ 364 (F 344 33).toNat = z7_ := by rw [q100_]; exact fl_u_eq
                have e145_ : F113_ 364 (F 344 33).toNat = z7_ := (s115_ 364 (F 344 33).toNat (by first | exact fs_c rfl | exact (fs_n (by omega) (fs_n (by omega) rfl)))).trans (e144_)
                have e146_ : F127_ 364 (F 344 33).toNat = z7_ := by rw [q128_]; exact (fl_u_ne (by first | exact nc_ rfl | decide | omega)).trans ((fl_u_ne (by first | exact nc_ rfl | decide | omega)).trans (e145_))
                have e147_ : F127_ 365 (F 344 33).toNat = z105_ := by rw [q128_]; exact (fl_u_ne (by first | exact nc_ rfl | decide | omega)).trans (fl_u_eq)
                exact Or.inl ⟨F127_, rfl, g129_, g130_, (by omega), (⟨by intro h0_; have hs_ := c110_s; rw [sp_o1, if_neg (by omega)]; rw [ty_rt (by omega) (by rw [(ra_fi (rpn_cg hT.1 (fun j hj => (show F23_ 364 j = F 364 j from (s25_ 364 j (by first | exact fs_c rfl | exact (fs_n (by omega) rfl)))))) c19_ c77_o c78_o c79_o)]; omega) (by omega)]; rw [rt_er hs_]; congr 2 <;> omega, fun h0_ => by exfalso; omega⟩), (⟨by omega, by omega⟩), (⟨l ++ [_], tl ++ [z105_ - 1], Or.inl ⟨rfl, rfl, by rw [e143_]; exact rpn_at hT.1 (fun j hj => (Eq.trans (a := F127_ 364 j) (b := F113_ 364 j) (by rw [q128_]; exact (fl_u_ne (by first | exact nc_ rfl | decide | omega)).trans ((fl_u_ne (by first | exact nc_ rfl | decide | omega)))) (Eq.trans (a := F113_ 364 j) (b := F99_ 364 j) (s115_ 364 j (by first | exact fs_c rfl | exact (fs_n (by omega) (fs_n (by omega) rfl)))) (Eq.trans (a := F99_ 364 j) (b := F23_ 364 j) (by rw [q100_]; exact (fl_u_ne (by first | exact nc_ rfl | decide | omega)).trans ((fl_u_ne (by first | exact nc_ rfl | decide | omega)))) (show F23_ 364 j = F 364 j from (s25_ 364 j (by first | exact fs_c rfl | exact (fs_n (by omega) rfl)))))))) (e146_) c19_, rty_snoc hT.2 (fun j hj => (Eq.trans (a := F127_ 365 (0 + j)) (b := F113_ 365 (0 + j)) (by rw [q128_]; exact (fl_u_ne (by first | exact nc_ rfl | decide | omega)).trans ((fl_u_ne (by first | exact nc_ rfl | decide | omega)))) (Eq.trans (a := F113_ 365 (0 + j)) (b := F99_ 365 (0 + j)) (s115_ 365 (0 + j) (by first | exact fs_c rfl | exact (fs_n (by omega) (fs_n (by omega) rfl)))) (Eq.trans (a := F99_ 365 (0 + j)) (b := F23_ 365 (0 + j)) (by rw [q100_]; exact (fl_u_ne (by first | exact nc_ rfl | decide | omega)).trans ((fl_u_ne (by first | exact nc_ rfl | decide | omega)))) (show F23_ 365 (0 + j) = F 365 (0 + j) from (s25_ 365 (0 + j) (by first | exact fs_c rfl | exact (fs_n (by omega) rfl)))))))) (by rw [show 0 + tl.length = (F 344 33).toNat by omega]; exact Eq.trans (e147_) (by omega))⟩, by simp only [List.length_append, List.length_singleton]; omega⟩)⟩
              subst hA_
              have g148_ : fs [(344, 344, 5, 5), (344, 344, 9, 10), (344, 344, 33, 33), (364, 365, 0, 100000)] F F120_ := fs_tr g102_ s122_ rfl
              have rk149_ : rk K F120_ := rk_fs rk103_ s122_ (fs_rg rfl) rfl
              try simp only [e108_] at c116_
              try simp only [e104_] at c117_
              refine fl_iast (z := F 344 33) (v := z105_) hm_180 rfl sc_365 (by omega) (by omega) (by omega) ?_
              refine ga_aload_n (v := .ref 344) hm_180 rfl rfl rfl ?_
              refine ga_dup hm_180 rfl rfl ?_
              have e150_ : F99_ 344 33 = F 344 33 := by rw [q100_]; exact (fl_u_ne (by first | exact nc_ rfl | decide | omega)).trans ((fl_u_ne (by first | exact nc_ rfl | decide | omega)).trans (e75_))
              have e151_ : F120_ 344 33 = F 344 33 := (s122_ 344 33 rfl).trans (e150_)
              refine ga_geti (z := F 344 33) hm_180 rfl sc_344 rfl ((fl_u_ne (by first | exact nc_ rfl | decide | omega)).trans (e151_)) ?_
              refine fl_iconst hm_180 rfl ?_
              refine ga_iadd (a := F 344 33) (b := 1) (c := F 344 33 + 1) hm_180 rfl (by omega) ?_
              refine ga_puti (z := F 344 33 + 1) hm_180 rfl sc_344 rfl rfl ?_
              obtain ⟨F152_, q153_⟩ : ∃ Fq_, Fq_ = (fl_u (fl_u F120_ 365 (F 344 33).toNat z105_) 344 33 (F 344 33 + 1)) := ⟨_, rfl⟩
              rw [← q153_]
              have g154_ : gi F152_ := by rw [q153_]; exact gi_u (gi_u (g121_) rfl (by omega) (by omega)) rfl (by omega) (by omega)
              have g155_ : fs [(344, 344, 5, 5), (344, 344, 9, 10), (344, 344, 33, 33), (364, 365, 0, 100000)] F F152_ := by rw [q153_]; exact fs_u (fs_u (g148_) (fs_z (fs_z (fs_z (fs_y (by omega)))))) rfl
              have rk156_ : rk K F152_ := by rw [q153_]; exact rk_u (rk_u (rk149_) (by first | decide | exact nc_ rfl | omega) (by first | decide | exact nc_ rfl | omega)) (by first | decide | exact nc_ rfl | omega) (by first | decide | exact nc_ rfl | omega)
              refine gr_v hm_180 rfl rfl ?_
              have e157_ : F152_ 344 9 = F120_ 344 9 := by rw [q153_]; exact (fl_u_ne (by first | exact nc_ rfl | decide | omega)).trans (fl_u_ne (by first | exact nc_ rfl | decide | omega))
              have b158_ : 0 ≤ F120_ 344 9 ∧ F120_ 344 9 ≤ 5 := gi_g g121_ rfl
              have e159_ : F152_ 344 10 = F120_ 344 10 := by rw [q153_]; exact (fl_u_ne (by first | exact nc_ rfl | decide | omega)).trans (fl_u_ne (by first | exact nc_ rfl | decide | omega))
              have e160_ : F152_ 344 5 = F120_ 344 5 := by rw [q153_]; exact (fl_u_ne (by first | exact nc_ rfl | decide | omega)).trans (fl_u_ne (by first | exact nc_ rfl | decide | omega))
              have b161_ : 0 ≤ F120_ 344 5 ∧ F120_ 344 5 ≤ 600 := gi_g g121_ rfl
              have e162_ : F23_ 5 2 = F 5 2 := (s25_ 5 2 rfl).trans (rfl)
              have e163_ : F99_ 5 2 = F 5 2 := by rw [q100_]; exact (fl_u_ne (by first | exact nc_ rfl | decide | omega)).trans ((fl_u_ne (by first | exact nc_ rfl | decide | omega)).trans (e162_))
              have e164_ : F120_ 5 2 = F 5 2 := (s122_ 5 2 rfl).trans (e163_)
              have e165_ : F152_ 5 2 = F 5 2 := by rw [q153_]; exact (fl_u_ne (by first | exact nc_ rfl | decide | omega)).trans ((fl_u_ne (by first | exact nc_ rfl | decide | omega)).trans (e164_))
              have b166_ : 0 ≤ F 5 2 ∧ F 5 2 ≤ 600 := gi_g hgi rfl
              have e167_ : F152_ 344 33 = F 344 33 + 1 := by rw [q153_]; exact fl_u_eq
              have e168_ : F99_ 364 (F 344 33).toNat = z7_ := by rw [q100_]; exact fl_u_eq
              have e169_ : F120_ 364 (F 344 33).toNat = z7_ := (s122_ 364 (F 344 33).toNat (by first | exact fs_c rfl | exact (fs_n (by omega) (fs_n (by omega) rfl)))).trans (e168_)
              have e170_ : F152_ 364 (F 344 33).toNat = z7_ := by rw [q153_]; exact (fl_u_ne (by first | exact nc_ rfl | decide | omega)).trans ((fl_u_ne (by first | exact nc_ rfl | decide | omega)).trans (e169_))
              have e171_ : F152_ 365 (F 344 33).toNat = z105_ := by rw [q153_]; exact (fl_u_ne (by first | exact nc_ rfl | decide | omega)).trans (fl_u_eq)
              exact Or.inr (⟨F152_, rfl, g154_, g155_, (by omega), (⟨_, z105_ - 1, by rw [sp_o1, if_neg (by omega), ty_rt (by omega) (by rw [(ra_fi (rpn_cg hT.1 (fun j hj => (show F23_ 364 j = F 364 j from (s25_ 364 j (by first | exact fs_c rfl | exact (fs_n (by omega) rfl)))))) c19_ c77_o c78_o c79_o)]; omega) (by omega), rt_eq c117_]; congr 2 <;> omega, Or.inl ⟨rfl, rfl, by rw [e167_]; exact rpn_at hT.1 (fun j hj => (Eq.trans (a := F152_ 364 j) (b := F120_ 364 j) (by rw [q153_]; exact (fl_u_ne (by first | exact nc_ rfl | decide | omega)).trans ((fl_u_ne (by first | exact nc_ rfl | decide | omega)))) (Eq.trans (a := F120_ 364 j) (b := F99_ 364 j) (s122_ 364 j (by first | exact fs_c rfl | exact (fs_n (by omega) (fs_n (by omega) rfl)))) (Eq.trans (a := F99_ 364 j) (b := F23_ 364 j) (by rw [q100_]; exact (fl_u_ne (by first | exact nc_ rfl | decide | omega)).trans ((fl_u_ne (by first | exact nc_ rfl | decide | omega)))) (show F23_ 364 j = F 364 j from (s25_ 364 j (by first | exact fs_c rfl | exact (fs_n (by omega) rfl)))))))) (e170_) c19_, rty_snoc hT.2 (fun j hj => (Eq.trans (a := F152_ 365 (0 + j)) (b := F120_ 365 (0 + j)) (by rw [q153_]; exact (fl_u_ne (by first | exact nc_ rfl | decide | omega)).trans ((fl_u_ne (by first | exact nc_ rfl | decide | omega)))) (Eq.trans (a := F120_ 365 (0 + j)) (b := F99_ 365 (0 + j)) (s122_ 365 (0 + j) (by first | exact fs_c rfl | exact (fs_n (by omega) (fs_n (by omega) rfl)))) (Eq.trans (a := F99_ 365 (0 + j)) (b := F23_ 365 (0 + j)) (by rw [q100_]; exact (fl_u_ne (by first | exact nc_ rfl | decide | omega)).trans ((fl_u_ne (by first | exact nc_ rfl | decide | omega)))) (show F23_ 365 (0 + j) = F 365 (0 + j) from (s25_ 365 (0 + j) (by first | exact fs_c rfl | exact (fs_n (by omega) rfl)))))))) (by rw [show 0 + tl.length = (F 344 33).toNat by omega]; exact Eq.trans (e171_) (by omega))⟩⟩), (⟨by omega, by omega⟩)⟩)
            exfalso; omega
          exfalso; omega
        refine ga_aload_n (v := .ref 344) hm_180 rfl rfl rfl ?_
        refine fl_iconst hm_180 rfl ?_
        have e172_ : F23_ 344 5 = F 344 5 := (s25_ 344 5 rfl).trans (rfl)
        refine gVv (nY := 2) (F := 0) (L := 0) (As := [.int (Int32.ofInt 2)]) (b := 344) (rest := []) hm_180 rfl hm_54 rfl rfl (fl_ob sc_344) rfl rfl rfl rfl rfl (by omega) (by omega) (mc_54 hG F23_ X g24_ (K) (2) hgK rk67_ hkt (⟨by omega, by omega⟩) (⟨by omega, by omega⟩)) (fun _ _ h => False.elim h) ?_
        have b174_ : 0 ≤ F23_ 344 10 ∧ F23_ 344 10 ≤ 600 := gi_g g24_ rfl
        rintro A1_ ⟨F178_, hA_, g179_, s180_, c175_, c176_, c177_⟩
        subst hA_
        have g181_ : fs [(344, 344, 5, 5), (344, 344, 9, 10), (344, 344, 33, 33), (364, 365, 0, 100000)] F F178_ := fs_tr g66_ s180_ rfl
        have rk182_ : rk K F178_ := rk_fs rk67_ s180_ (fs_rg rfl) rfl
        try simp only [e172_] at c176_
        try simp only [e172_] at c177_
        have c176_s := c176_.1 (by omega)
        clear c176_
        refine ga_aload_n (v := .ref 344) hm_180 rfl rfl rfl ?_
        refine gIv (nY := 1) (F := 1) (L := 20) (As := []) (b := 344) (rest := []) hm_180 rfl hm_61 rfl rfl (fl_ob sc_344) rfl rfl rfl rfl rfl (by omega) (by omega) ?_
        intro f183_ l184_ h185_ h186_
        show fl_R xi_ms 61 f183_ l184_ 0 [(0, .ref 344)] [] _ _
        refine ga_aload_n (v := .ref 344) hm_61 rfl rfl rfl ?_
        refine ga_dup hm_61 rfl rfl ?_
        have e187_ : F178_ 344 5 = F 344 5 := (s180_ 344 5 rfl).trans (e172_)
        refine ga_geti (z := F 344 5) hm_61 rfl sc_344 rfl (e187_) ?_
        refine ga_aload_n (v := .ref 344) hm_61 rfl rfl rfl ?_
        refine gIi (nY := 1) (F := 0) (L := 0) (As := []) (b := 344) (rest := [.int (Int32.ofInt (F 344 5)), .ref 344]) hm_61 rfl hm_59 rfl rfl (fl_ob sc_344) rfl rfl rfl rfl rfl (by omega) (by omega) ?_
        intro f188_ l189_ h190_ h191_
        show fl_R xi_ms 59 f188_ l189_ 0 [(0, .ref 344)] [] _ _
        refine ga_aload_n (v := .ref 344) hm_59 rfl rfl rfl ?_
        have b192_ : 0 ≤ F178_ 344 9 ∧ F178_ 344 9 ≤ 5 := gi_g g179_ rfl
        refine ga_geti (z := F178_ 344 9) hm_59 rfl sc_344 rfl (rfl) ?_
        refine fl_if_le (a := F178_ 344 9) hm_59 rfl ⟨by omega, by omega⟩ (fun h193_ => ?_) (fun h194_ => ?_)
        · exfalso; omega
        refine fl_iconst hm_59 rfl ?_
        refine fl_goto hm_59 rfl ?_
        refine gr_i hm_59 rfl rfl (ga_nb (by omega)) ?_
        clear h190_ h191_ f188_ l189_
        refine fl_if_eq hm_61 rfl ⟨by omega, by omega⟩ (fun h => absurd h (by omega)) (fun _ => ?_)
        refine fl_iconst hm_61 rfl ?_
        refine fl_goto hm_61 rfl ?_
        refine ga_iadd (a := F 344 5) (b := 0) (c := F 344 5) hm_61 rfl (by omega) ?_
        refine ga_puti (z := F 344 5) hm_61 rfl sc_344 rfl rfl ?_
        refine gr_v hm_61 rfl rfl ?_
        clear h185_ h186_ f183_ l184_
        refine ga_aload_n (v := .ref 344) hm_180 rfl rfl rfl ?_
        refine gIi (nY := 1) (F := 0) (L := 0) (As := []) (b := 344) (rest := []) hm_180 rfl hm_59 rfl rfl (fl_ob sc_344) rfl rfl rfl rfl rfl (by omega) (by omega) ?_
        intro f195_ l196_ h197_ h198_
        show fl_R xi_ms 59 f195_ l196_ 0 [(0, .ref 344)] [] _ _
        refine ga_aload_n (v := .ref 344) hm_59 rfl rfl rfl ?_
        refine ga_geti (z := F178_ 344 9) hm_59 rfl sc_344 rfl (fl_u_ne (by first | exact nc_ rfl | decide | omega)) ?_
        refine fl_if_le (a := F178_ 344 9) hm_59 rfl ⟨by omega, by omega⟩ (fun h199_ => ?_) (fun h200_ => ?_)
        · exfalso; omega
        refine fl_iconst hm_59 rfl ?_
        refine fl_goto hm_59 rfl ?_
        refine gr_i hm_59 rfl rfl (ga_nb (by omega)) ?_
        clear h197_ h198_ f195_ l196_
        refine fl_if_eq hm_180 rfl ⟨by omega, by omega⟩ (fun h => absurd h (by omega)) (fun _ => ?_)
        obtain ⟨F201_, q202_⟩ : ∃ Fq_, Fq_ = (fl_u F178_ 344 5 (F 344 5)) := ⟨_, rfl⟩
        rw [← q202_]
        have g203_ : gi F201_ := by rw [q202_]; exact gi_u (g179_) rfl (by omega) (by omega)
        have g204_ : fs [(344, 344, 5, 5), (344, 344, 9, 10), (344, 344, 33, 33), (364, 365, 0, 100000)] F F201_ := by rw [q202_]; exact fs_u (g181_) rfl
        have rk205_ : rk K F201_ := by rw [q202_]; exact rk_u (rk182_) (by first | decide | exact nc_ rfl | omega) (by first | decide | exact nc_ rfl | omega)
        refine gr_v hm_180 rfl rfl ?_
        have e206_ : F201_ 344 9 = F178_ 344 9 := by rw [q202_]; exact fl_u_ne (by first | exact nc_ rfl | decide | omega)
        have e207_ : F201_ 344 10 = F178_ 344 10 := by rw [q202_]; exact fl_u_ne (by first | exact nc_ rfl | decide | omega)
        have e208_ : F201_ 344 5 = F 344 5 := by rw [q202_]; exact fl_u_eq
        have b209_ : 0 ≤ F178_ 344 10 ∧ F178_ 344 10 ≤ 600 := gi_g g179_ rfl
        have e210_ : F23_ 5 2 = F 5 2 := (s25_ 5 2 rfl).trans (rfl)
        have e211_ : F178_ 5 2 = F 5 2 := (s180_ 5 2 rfl).trans (e210_)
        have e212_ : F201_ 5 2 = F 5 2 := by rw [q202_]; exact (fl_u_ne (by first | exact nc_ rfl | decide | omega)).trans (e211_)
        have b213_ : 0 ≤ F 5 2 ∧ F 5 2 ≤ 600 := gi_g hgi rfl
        have e214_ : F178_ 344 33 = F 344 33 := (s180_ 344 33 rfl).trans (e75_)
        have e215_ : F201_ 344 33 = F 344 33 := by rw [q202_]; exact (fl_u_ne (by first | exact nc_ rfl | decide | omega)).trans (e214_)
        exact Or.inl ⟨F201_, rfl, g203_, g204_, (by omega), (⟨by intro h0_; have hs_ := c176_s; rw [sp_o1, if_neg (by omega)]; rw [sp_typed, sp_new, if_pos (by omega), (ra_fi (rpn_cg hT.1 (fun j hj => (show F23_ 364 j = F 364 j from (s25_ 364 j (by first | exact fs_c rfl | exact (fs_n (by omega) rfl)))))) c19_ c77_o c78_o c79_o), if_neg (by omega)]; show Sum.inl (2, K 4 _) = _; congr 2 <;> omega, fun h0_ => by exfalso; omega⟩), (⟨by omega, by omega⟩), (⟨l, tl, (by rw [q202_]; exact (trm_u (trm_fs (trm_fs ht s25_ (by first | exact fs_rg rfl | exact fun r j hj => (fs_n (by omega) rfl))) s180_ (by first | exact fs_rg rfl | exact fun r j hj => (fs_n (by omega) rfl))) (by first | decide | exact nc_ rfl | omega))), hlt⟩)⟩
      exfalso; omega
    refine ga_aload_n (v := .ref 344) hm_180 rfl rfl rfl ?_
    refine fl_iconst hm_180 rfl ?_
    have b216_ : 0 ≤ F 344 5 ∧ F 344 5 ≤ 600 := gi_g hgi rfl
    refine gVv (nY := 2) (F := 0) (L := 0) (As := [.int (Int32.ofInt 1)]) (b := 344) (rest := []) hm_180 rfl hm_54 rfl rfl (fl_ob sc_344) rfl rfl rfl rfl rfl (by omega) (by omega) (mc_54 hG F X hgi (K) (1) hgK hrk hkt (⟨by omega, by omega⟩) (⟨by omega, by omega⟩)) (fun _ _ h => False.elim h) ?_
    have b218_ : 0 ≤ F 344 10 ∧ F 344 10 ≤ 600 := gi_g hgi rfl
    rintro A1_ ⟨F222_, hA_, g223_, s224_, c219_, c220_, c221_⟩
    subst hA_
    have g225_ : fs [(344, 344, 5, 5), (344, 344, 9, 10), (344, 344, 33, 33), (364, 365, 0, 100000)] F F222_ := fs_tr fs_refl s224_ rfl
    have rk226_ : rk K F222_ := rk_fs hrk s224_ (fs_rg rfl) rfl
    have c220_s := c220_.1 (by omega)
    clear c220_
    refine ga_aload_n (v := .ref 344) hm_180 rfl rfl rfl ?_
    have e227_ : F222_ 344 5 = F 344 5 := (s224_ 344 5 rfl).trans (rfl)
    refine gVl (nY := 3) (F := 2) (L := 46) (As := []) (b := 344) (rest := []) hm_180 rfl hm_58 rfl rfl (fl_ob sc_344) rfl rfl rfl rfl rfl (by omega) (by omega) (mc_58 hG F222_ X g223_ (K) hgK rk226_ hkt (⟨by omega, by omega⟩)) (fun _ _ h => False.elim h) ?_
    have b229_ : 0 ≤ F222_ 344 10 ∧ F222_ 344 10 ≤ 600 := gi_g g223_ rfl
    have b230_ : 0 ≤ F222_ 344 9 ∧ F222_ 344 9 ≤ 5 := gi_g g223_ rfl
    rintro z228_ A1_ (⟨F235_, hA_, g236_, s237_, c231_, c232_, c233_, c234_⟩ | ⟨F245_, hA_, g246_, s247_, c238_, c239_, c240_, c241_, c242_, c243_, c244_⟩)
    ·
      subst hA_
      have g248_ : fs [(344, 344, 5, 5), (344, 344, 9, 10), (344, 344, 33, 33), (364, 365, 0, 100000)] F F235_ := fs_tr g225_ s237_ rfl
      have rk249_ : rk K F235_ := rk_fs rk226_ s237_ (fs_rg rfl) rfl
      try simp only [e227_] at c232_
      have c232_k := c232_.2 (by omega)
      clear c232_
      refine ga_lstore_n (lv2 := [(1, .long (Int64.ofInt z228_)), (0, .ref 344)]) hm_180 rfl (Nat.le_of_ble_eq_true rfl) rfl ?_
      refine ga_aload_n (v := .ref 344) hm_180 rfl rfl rfl ?_
      refine gIi (nY := 1) (F := 0) (L := 0) (As := []) (b := 344) (rest := []) hm_180 rfl hm_59 rfl rfl (fl_ob sc_344) rfl rfl rfl rfl rfl (by omega) (by omega) ?_
      intro f250_ l251_ h252_ h253_
      show fl_R xi_ms 59 f250_ l251_ 0 [(0, .ref 344)] [] _ _
      refine ga_aload_n (v := .ref 344) hm_59 rfl rfl rfl ?_
      have b254_ : 0 ≤ F235_ 344 9 ∧ F235_ 344 9 ≤ 5 := gi_g g236_ rfl
      refine ga_geti (z := F235_ 344 9) hm_59 rfl sc_344 rfl (rfl) ?_
      refine fl_if_le (a := F235_ 344 9) hm_59 rfl ⟨by omega, by omega⟩ (fun h255_ => ?_) (fun h256_ => ?_)
      · exfalso; omega
      refine fl_iconst hm_59 rfl ?_
      refine fl_goto hm_59 rfl ?_
      refine gr_i hm_59 rfl rfl (ga_nb (by omega)) ?_
      clear h252_ h253_ f250_ l251_
      refine fl_if_ne hm_180 rfl ⟨by omega, by omega⟩ (fun _ => ?_) (fun h => absurd (by omega) h)
      refine ga_aload_n (v := .ref 344) hm_180 rfl rfl rfl ?_
      refine gIv (nY := 1) (F := 1) (L := 20) (As := []) (b := 344) (rest := []) hm_180 rfl hm_61 rfl rfl (fl_ob sc_344) rfl rfl rfl rfl rfl (by omega) (by omega) ?_
      intro f257_ l258_ h259_ h260_
      show fl_R xi_ms 61 f257_ l258_ 0 [(0, .ref 344)] [] _ _
      refine ga_aload_n (v := .ref 344) hm_61 rfl rfl rfl ?_
      refine ga_dup hm_61 rfl rfl ?_
      have e261_ : F235_ 344 5 = F 344 5 := (s237_ 344 5 rfl).trans (e227_)
      refine ga_geti (z := F 344 5) hm_61 rfl sc_344 rfl (e261_) ?_
      refine ga_aload_n (v := .ref 344) hm_61 rfl rfl rfl ?_
      refine gIi (nY := 1) (F := 0) (L := 0) (As := []) (b := 344) (rest := [.int (Int32.ofInt (F 344 5)), .ref 344]) hm_61 rfl hm_59 rfl rfl (fl_ob sc_344) rfl rfl rfl rfl rfl (by omega) (by omega) ?_
      intro f262_ l263_ h264_ h265_
      show fl_R xi_ms 59 f262_ l263_ 0 [(0, .ref 344)] [] _ _
      refine ga_aload_n (v := .ref 344) hm_59 rfl rfl rfl ?_
      refine ga_geti (z := F235_ 344 9) hm_59 rfl sc_344 rfl (rfl) ?_
      refine fl_if_le (a := F235_ 344 9) hm_59 rfl ⟨by omega, by omega⟩ (fun h266_ => ?_) (fun h267_ => ?_)
      · exfalso; omega
      refine fl_iconst hm_59 rfl ?_
      refine fl_goto hm_59 rfl ?_
      refine gr_i hm_59 rfl rfl (ga_nb (by omega)) ?_
      clear h264_ h265_ f262_ l263_
      refine fl_if_eq hm_61 rfl ⟨by omega, by omega⟩ (fun h => absurd h (by omega)) (fun _ => ?_)
      refine fl_iconst hm_61 rfl ?_
      refine fl_goto hm_61 rfl ?_
      refine ga_iadd (a := F 344 5) (b := 0) (c := F 344 5) hm_61 rfl (by omega) ?_
      refine ga_puti (z := F 344 5) hm_61 rfl sc_344 rfl rfl ?_
      refine gr_v hm_61 rfl rfl ?_
      clear h259_ h260_ f257_ l258_
      refine ga_aload_n (v := .ref 344) hm_180 rfl rfl rfl ?_
      refine gIi (nY := 1) (F := 0) (L := 0) (As := []) (b := 344) (rest := []) hm_180 rfl hm_59 rfl rfl (fl_ob sc_344) rfl rfl rfl rfl rfl (by omega) (by omega) ?_
      intro f268_ l269_ h270_ h271_
      show fl_R xi_ms 59 f268_ l269_ 0 [(0, .ref 344)] [] _ _
      refine ga_aload_n (v := .ref 344) hm_59 rfl rfl rfl ?_
      refine ga_geti (z := F235_ 344 9) hm_59 rfl sc_344 rfl (fl_u_ne (by first | exact nc_ rfl | decide | omega)) ?_
      refine fl_if_le (a := F235_ 344 9) hm_59 rfl ⟨by omega, by omega⟩ (fun h272_ => ?_) (fun h273_ => ?_)
      · exfalso; omega
      refine fl_iconst hm_59 rfl ?_
      refine fl_goto hm_59 rfl ?_
      refine gr_i hm_59 rfl rfl (ga_nb (by omega)) ?_
      clear h270_ h271_ f268_ l269_
      refine fl_if_eq hm_180 rfl ⟨by omega, by omega⟩ (fun h => absurd h (by omega)) (fun _ => ?_)
      obtain ⟨F274_, q275_⟩ : ∃ Fq_, Fq_ = (fl_u F235_ 344 5 (F 344 5)) := ⟨_, rfl⟩
      rw [← q275_]
      have g276_ : gi F274_ := by rw [q275_]; exact gi_u (g236_) rfl (by omega) (by omega)
      have g277_ : fs [(344, 344, 5, 5), (344, 344, 9, 10), (344, 344, 33, 33), (364, 365, 0, 100000)] F F274_ := by rw [q275_]; exact fs_u (g248_) rfl
      have rk278_ : rk K F274_ := by rw [q275_]; exact rk_u (rk249_) (by first | decide | exact nc_ rfl | omega) (by first | decide | exact nc_ rfl | omega)
      refine gr_v hm_180 rfl rfl ?_
      have e279_ : F274_ 344 9 = F235_ 344 9 := by rw [q275_]; exact fl_u_ne (by first | exact nc_ rfl | decide | omega)
      have e280_ : F274_ 344 10 = F235_ 344 10 := by rw [q275_]; exact fl_u_ne (by first | exact nc_ rfl | decide | omega)
      have e281_ : F274_ 344 5 = F 344 5 := by rw [q275_]; exact fl_u_eq
      have b282_ : 0 ≤ F235_ 344 10 ∧ F235_ 344 10 ≤ 600 := gi_g g236_ rfl
      have e283_ : F222_ 5 2 = F 5 2 := (s224_ 5 2 rfl).trans (rfl)
      have e284_ : F235_ 5 2 = F 5 2 := (s237_ 5 2 rfl).trans (e283_)
      have e285_ : F274_ 5 2 = F 5 2 := by rw [q275_]; exact (fl_u_ne (by first | exact nc_ rfl | decide | omega)).trans (e284_)
      have b286_ : 0 ≤ F 5 2 ∧ F 5 2 ≤ 600 := gi_g hgi rfl
      have e287_ : F222_ 344 33 = F 344 33 := (s224_ 344 33 rfl).trans (rfl)
      have e288_ : F235_ 344 33 = F 344 33 := (s237_ 344 33 rfl).trans (e287_)
      have e289_ : F274_ 344 33 = F 344 33 := by rw [q275_]; exact (fl_u_ne (by first | exact nc_ rfl | decide | omega)).trans (e288_)
      exact Or.inl ⟨F274_, rfl, g276_, g277_, (by omega), (⟨by intro h0_; have hs_ := c220_s; rw [sp_o1, if_pos (by omega), pf]; congr 2 <;> omega, fun h0_ => by exfalso; omega⟩), (⟨by omega, by omega⟩), (⟨l, tl, (by rw [q275_]; exact (trm_u (trm_fs (trm_fs ht s224_ (by first | exact fs_rg rfl | exact fun r j hj => (fs_n (by omega) rfl))) s237_ (by first | exact fs_rg rfl | exact fun r j hj => (fs_n (by omega) rfl))) (by first | decide | exact nc_ rfl | omega))), hlt⟩)⟩
    exfalso; omega
  refine ga_aload_n (v := .ref 344) hm_180 rfl rfl rfl ?_
  have b290_ : 0 ≤ F 344 33 ∧ F 344 33 ≤ 6 := gi_g hgi rfl
  refine ga_geti (z := F 344 33) hm_180 rfl sc_344 rfl (rfl) ?_
  refine fl_bipush hm_180 rfl rfl ?_
  refine fx_icmp_ne (a := F 344 33) (b := 6) hm_180 rfl ⟨by omega, by omega⟩ ⟨by omega, by omega⟩ (fun h291_ => ?_) (fun h292_ => ?_)
  ·
    refine ga_aload_n (v := .ref 344) hm_180 rfl rfl rfl ?_
    have b293_ : 0 ≤ F 344 5 ∧ F 344 5 ≤ 600 := gi_g hgi rfl
    refine gVl (nY := 3) (F := 2) (L := 46) (As := []) (b := 344) (rest := []) hm_180 rfl hm_58 rfl rfl (fl_ob sc_344) rfl rfl rfl rfl rfl (by omega) (by omega) (mc_58 hG F X hgi (K) hgK hrk hkt (⟨by omega, by omega⟩)) (fun _ _ h => False.elim h) ?_
    have b295_ : 0 ≤ F 344 10 ∧ F 344 10 ≤ 600 := gi_g hgi rfl
    rintro z294_ A1_ (⟨F300_, hA_, g301_, s302_, c296_, c297_, c298_, c299_⟩ | ⟨F310_, hA_, g311_, s312_, c303_, c304_, c305_, c306_, c307_, c308_, c309_⟩)
    ·
      subst hA_
      have g313_ : fs [(344, 344, 5, 5), (344, 344, 9, 10), (344, 344, 33, 33), (364, 365, 0, 100000)] F F300_ := fs_tr fs_refl s302_ rfl
      have rk314_ : rk K F300_ := rk_fs hrk s302_ (fs_rg rfl) rfl
      have c297_k := c297_.2 (by omega)
      clear c297_
      refine ga_lstore_n (lv2 := [(1, .long (Int64.ofInt z294_)), (0, .ref 344)]) hm_180 rfl (Nat.le_of_ble_eq_true rfl) rfl ?_
      refine ga_aload_n (v := .ref 344) hm_180 rfl rfl rfl ?_
      refine gIi (nY := 1) (F := 0) (L := 0) (As := []) (b := 344) (rest := []) hm_180 rfl hm_59 rfl rfl (fl_ob sc_344) rfl rfl rfl rfl rfl (by omega) (by omega) ?_
      intro f315_ l316_ h317_ h318_
      show fl_R xi_ms 59 f315_ l316_ 0 [(0, .ref 344)] [] _ _
      refine ga_aload_n (v := .ref 344) hm_59 rfl rfl rfl ?_
      have b319_ : 0 ≤ F300_ 344 9 ∧ F300_ 344 9 ≤ 5 := gi_g g301_ rfl
      refine ga_geti (z := F300_ 344 9) hm_59 rfl sc_344 rfl (rfl) ?_
      refine fl_if_le (a := F300_ 344 9) hm_59 rfl ⟨by omega, by omega⟩ (fun h320_ => ?_) (fun h321_ => ?_)
      · exfalso; omega
      refine fl_iconst hm_59 rfl ?_
      refine fl_goto hm_59 rfl ?_
      refine gr_i hm_59 rfl rfl (ga_nb (by omega)) ?_
      clear h317_ h318_ f315_ l316_
      refine fl_if_ne hm_180 rfl ⟨by omega, by omega⟩ (fun _ => ?_) (fun h => absurd (by omega) h)
      refine ga_aload_n (v := .ref 344) hm_180 rfl rfl rfl ?_
      refine gIv (nY := 1) (F := 1) (L := 20) (As := []) (b := 344) (rest := []) hm_180 rfl hm_61 rfl rfl (fl_ob sc_344) rfl rfl rfl rfl rfl (by omega) (by omega) ?_
      intro f322_ l323_ h324_ h325_
      show fl_R xi_ms 61 f322_ l323_ 0 [(0, .ref 344)] [] _ _
      refine ga_aload_n (v := .ref 344) hm_61 rfl rfl rfl ?_
      refine ga_dup hm_61 rfl rfl ?_
      have e326_ : F300_ 344 5 = F 344 5 := (s302_ 344 5 rfl).trans (rfl)
      refine ga_geti (z := F 344 5) hm_61 rfl sc_344 rfl (e326_) ?_
      refine ga_aload_n (v := .ref 344) hm_61 rfl rfl rfl ?_
      refine gIi (nY := 1) (F := 0) (L := 0) (As := []) (b := 344) (rest := [.int (Int32.ofInt (F 344 5)), .ref 344]) hm_61 rfl hm_59 rfl rfl (fl_ob sc_344) rfl rfl rfl rfl rfl (by omega) (by omega) ?_
      intro f327_ l328_ h329_ h330_
      show fl_R xi_ms 59 f327_ l328_ 0 [(0, .ref 344)] [] _ _
      refine ga_aload_n (v := .ref 344) hm_59 rfl rfl rfl ?_
      refine ga_geti (z := F300_ 344 9) hm_59 rfl sc_344 rfl (rfl) ?_
      refine fl_if_le (a := F300_ 344 9) hm_59 rfl ⟨by omega, by omega⟩ (fun h331_ => ?_) (fun h332_ => ?_)
      · exfalso; omega
      refine fl_iconst hm_59 rfl ?_
      refine fl_goto hm_59 rfl ?_
      refine gr_i hm_59 rfl rfl (ga_nb (by omega)) ?_
      clear h329_ h330_ f327_ l328_
      refine fl_if_eq hm_61 rfl ⟨by omega, by omega⟩ (fun h => absurd h (by omega)) (fun _ => ?_)
      refine fl_iconst hm_61 rfl ?_
      refine fl_goto hm_61 rfl ?_
      refine ga_iadd (a := F 344 5) (b := 0) (c := F 344 5) hm_61 rfl (by omega) ?_
      refine ga_puti (z := F 344 5) hm_61 rfl sc_344 rfl rfl ?_
      refine gr_v hm_61 rfl rfl ?_
      clear h324_ h325_ f322_ l323_
      refine ga_aload_n (v := .ref 344) hm_180 rfl rfl rfl ?_
      refine gIi (nY := 1) (F := 0) (L := 0) (As := []) (b := 344) (rest := []) hm_180 rfl hm_59 rfl rfl (fl_ob sc_344) rfl rfl rfl rfl rfl (by omega) (by omega) ?_
      intro f333_ l334_ h335_ h336_
      show fl_R xi_ms 59 f333_ l334_ 0 [(0, .ref 344)] [] _ _
      refine ga_aload_n (v := .ref 344) hm_59 rfl rfl rfl ?_
      refine ga_geti (z := F300_ 344 9) hm_59 rfl sc_344 rfl (fl_u_ne (by first | exact nc_ rfl | decide | omega)) ?_
      refine fl_if_le (a := F300_ 344 9) hm_59 rfl ⟨by omega, by omega⟩ (fun h337_ => ?_) (fun h338_ => ?_)
      · exfalso; omega
      refine fl_iconst hm_59 rfl ?_
      refine fl_goto hm_59 rfl ?_
      refine gr_i hm_59 rfl rfl (ga_nb (by omega)) ?_
      clear h335_ h336_ f333_ l334_
      refine fl_if_eq hm_180 rfl ⟨by omega, by omega⟩ (fun h => absurd h (by omega)) (fun _ => ?_)
      obtain ⟨F339_, q340_⟩ : ∃ Fq_, Fq_ = (fl_u F300_ 344 5 (F 344 5)) := ⟨_, rfl⟩
      rw [← q340_]
      have g341_ : gi F339_ := by rw [q340_]; exact gi_u (g301_) rfl (by omega) (by omega)
      have g342_ : fs [(344, 344, 5, 5), (344, 344, 9, 10), (344, 344, 33, 33), (364, 365, 0, 100000)] F F339_ := by rw [q340_]; exact fs_u (g313_) rfl
      have rk343_ : rk K F339_ := by rw [q340_]; exact rk_u (rk314_) (by first | decide | exact nc_ rfl | omega) (by first | decide | exact nc_ rfl | omega)
      refine gr_v hm_180 rfl rfl ?_
      have e344_ : F339_ 344 9 = F300_ 344 9 := by rw [q340_]; exact fl_u_ne (by first | exact nc_ rfl | decide | omega)
      have e345_ : F339_ 344 10 = F300_ 344 10 := by rw [q340_]; exact fl_u_ne (by first | exact nc_ rfl | decide | omega)
      have e346_ : F339_ 344 5 = F 344 5 := by rw [q340_]; exact fl_u_eq
      have b347_ : 0 ≤ F300_ 344 10 ∧ F300_ 344 10 ≤ 600 := gi_g g301_ rfl
      have e348_ : F300_ 5 2 = F 5 2 := (s302_ 5 2 rfl).trans (rfl)
      have e349_ : F339_ 5 2 = F 5 2 := by rw [q340_]; exact (fl_u_ne (by first | exact nc_ rfl | decide | omega)).trans (e348_)
      have b350_ : 0 ≤ F 5 2 ∧ F 5 2 ≤ 600 := gi_g hgi rfl
      have e351_ : F300_ 344 33 = F 344 33 := (s302_ 344 33 rfl).trans (rfl)
      have e352_ : F339_ 344 33 = F 344 33 := by rw [q340_]; exact (fl_u_ne (by first | exact nc_ rfl | decide | omega)).trans (e351_)
      exact Or.inl ⟨F339_, rfl, g341_, g342_, (by omega), (⟨fun h0_ => by exfalso; omega, fun h0_ => by constructor <;> omega⟩), (⟨by omega, by omega⟩), (⟨l, tl, (by rw [q340_]; exact (trm_u (trm_fs ht s302_ (by first | exact fs_rg rfl | exact fun r j hj => (fs_n (by omega) rfl))) (by first | decide | exact nc_ rfl | omega))), hlt⟩)⟩
    exfalso; omega
  refine ga_aload_n (v := .ref 344) hm_180 rfl rfl rfl ?_
  refine fl_iconst hm_180 rfl ?_
  have b353_ : 0 ≤ F 344 5 ∧ F 344 5 ≤ 600 := gi_g hgi rfl
  refine gVv (nY := 2) (F := 0) (L := 0) (As := [.int (Int32.ofInt 1)]) (b := 344) (rest := []) hm_180 rfl hm_54 rfl rfl (fl_ob sc_344) rfl rfl rfl rfl rfl (by omega) (by omega) (mc_54 hG F X hgi (K) (1) hgK hrk hkt (⟨by omega, by omega⟩) (⟨by omega, by omega⟩)) (fun _ _ h => False.elim h) ?_
  have b355_ : 0 ≤ F 344 10 ∧ F 344 10 ≤ 600 := gi_g hgi rfl
  rintro A1_ ⟨F359_, hA_, g360_, s361_, c356_, c357_, c358_⟩
  subst hA_
  have g362_ : fs [(344, 344, 5, 5), (344, 344, 9, 10), (344, 344, 33, 33), (364, 365, 0, 100000)] F F359_ := fs_tr fs_refl s361_ rfl
  have rk363_ : rk K F359_ := rk_fs hrk s361_ (fs_rg rfl) rfl
  have c357_k := c357_.2 (by omega)
  clear c357_
  refine ga_aload_n (v := .ref 344) hm_180 rfl rfl rfl ?_
  have e364_ : F359_ 344 5 = F 344 5 := (s361_ 344 5 rfl).trans (rfl)
  refine gVl (nY := 3) (F := 2) (L := 46) (As := []) (b := 344) (rest := []) hm_180 rfl hm_58 rfl rfl (fl_ob sc_344) rfl rfl rfl rfl rfl (by omega) (by omega) (mc_58 hG F359_ X g360_ (K) hgK rk363_ hkt (⟨by omega, by omega⟩)) (fun _ _ h => False.elim h) ?_
  have b366_ : 0 ≤ F359_ 344 10 ∧ F359_ 344 10 ≤ 600 := gi_g g360_ rfl
  have b367_ : 0 ≤ F359_ 344 9 ∧ F359_ 344 9 ≤ 5 := gi_g g360_ rfl
  rintro z365_ A1_ (⟨F372_, hA_, g373_, s374_, c368_, c369_, c370_, c371_⟩ | ⟨F382_, hA_, g383_, s384_, c375_, c376_, c377_, c378_, c379_, c380_, c381_⟩)
  ·
    subst hA_
    have g385_ : fs [(344, 344, 5, 5), (344, 344, 9, 10), (344, 344, 33, 33), (364, 365, 0, 100000)] F F372_ := fs_tr g362_ s374_ rfl
    have rk386_ : rk K F372_ := rk_fs rk363_ s374_ (fs_rg rfl) rfl
    try simp only [e364_] at c369_
    have c369_k := c369_.2 (by omega)
    clear c369_
    refine ga_lstore_n (lv2 := [(1, .long (Int64.ofInt z365_)), (0, .ref 344)]) hm_180 rfl (Nat.le_of_ble_eq_true rfl) rfl ?_
    refine ga_aload_n (v := .ref 344) hm_180 rfl rfl rfl ?_
    refine gIi (nY := 1) (F := 0) (L := 0) (As := []) (b := 344) (rest := []) hm_180 rfl hm_59 rfl rfl (fl_ob sc_344) rfl rfl rfl rfl rfl (by omega) (by omega) ?_
    intro f387_ l388_ h389_ h390_
    show fl_R xi_ms 59 f387_ l388_ 0 [(0, .ref 344)] [] _ _
    refine ga_aload_n (v := .ref 344) hm_59 rfl rfl rfl ?_
    have b391_ : 0 ≤ F372_ 344 9 ∧ F372_ 344 9 ≤ 5 := gi_g g373_ rfl
    refine ga_geti (z := F372_ 344 9) hm_59 rfl sc_344 rfl (rfl) ?_
    refine fl_if_le (a := F372_ 344 9) hm_59 rfl ⟨by omega, by omega⟩ (fun h392_ => ?_) (fun h393_ => ?_)
    · exfalso; omega
    refine fl_iconst hm_59 rfl ?_
    refine fl_goto hm_59 rfl ?_
    refine gr_i hm_59 rfl rfl (ga_nb (by omega)) ?_
    clear h389_ h390_ f387_ l388_
    refine fl_if_ne hm_180 rfl ⟨by omega, by omega⟩ (fun _ => ?_) (fun h => absurd (by omega) h)
    refine ga_aload_n (v := .ref 344) hm_180 rfl rfl rfl ?_
    refine gIv (nY := 1) (F := 1) (L := 20) (As := []) (b := 344) (rest := []) hm_180 rfl hm_61 rfl rfl (fl_ob sc_344) rfl rfl rfl rfl rfl (by omega) (by omega) ?_
    intro f394_ l395_ h396_ h397_
    show fl_R xi_ms 61 f394_ l395_ 0 [(0, .ref 344)] [] _ _
    refine ga_aload_n (v := .ref 344) hm_61 rfl rfl rfl ?_
    refine ga_dup hm_61 rfl rfl ?_
    have e398_ : F372_ 344 5 = F 344 5 := (s374_ 344 5 rfl).trans (e364_)
    refine ga_geti (z := F 344 5) hm_61 rfl sc_344 rfl (e398_) ?_
    refine ga_aload_n (v := .ref 344) hm_61 rfl rfl rfl ?_
    refine gIi (nY := 1) (F := 0) (L := 0) (As := []) (b := 344) (rest := [.int (Int32.ofInt (F 344 5)), .ref 344]) hm_61 rfl hm_59 rfl rfl (fl_ob sc_344) rfl rfl rfl rfl rfl (by omega) (by omega) ?_
    intro f399_ l400_ h401_ h402_
    show fl_R xi_ms 59 f399_ l400_ 0 [(0, .ref 344)] [] _ _
    refine ga_aload_n (v := .ref 344) hm_59 rfl rfl rfl ?_
    refine ga_geti (z := F372_ 344 9) hm_59 rfl sc_344 rfl (rfl) ?_
    refine fl_if_le (a := F372_ 344 9) hm_59 rfl ⟨by omega, by omega⟩ (fun h403_ => ?_) (fun h404_ => ?_)
    · exfalso; omega
    refine fl_iconst hm_59 rfl ?_
    refine fl_goto hm_59 rfl ?_
    refine gr_i hm_59 rfl rfl (ga_nb (by omega)) ?_
    clear h401_ h402_ f399_ l400_
    refine fl_if_eq hm_61 rfl ⟨by omega, by omega⟩ (fun h => absurd h (by omega)) (fun _ => ?_)
    refine fl_iconst hm_61 rfl ?_
    refine fl_goto hm_61 rfl ?_
    refine ga_iadd (a := F 344 5) (b := 0) (c := F 344 5) hm_61 rfl (by omega) ?_
    refine ga_puti (z := F 344 5) hm_61 rfl sc_344 rfl rfl ?_
    refine gr_v hm_61 rfl rfl ?_
    clear h396_ h397_ f394_ l395_
    refine ga_aload_n (v := .ref 344) hm_180 rfl rfl rfl ?_
    refine gIi (nY := 1) (F := 0) (L := 0) (As := []) (b := 344) (rest := []) hm_180 rfl hm_59 rfl rfl (fl_ob sc_344) rfl rfl rfl rfl rfl (by omega) (by omega) ?_
    intro f405_ l406_ h407_ h408_
    show fl_R xi_ms 59 f405_ l406_ 0 [(0, .ref 344)] [] _ _
    refine ga_aload_n (v := .ref 344) hm_59 rfl rfl rfl ?_
    refine ga_geti (z := F372_ 344 9) hm_59 rfl sc_344 rfl (fl_u_ne (by first | exact nc_ rfl | decide | omega)) ?_
    refine fl_if_le (a := F372_ 344 9) hm_59 rfl ⟨by omega, by omega⟩ (fun h409_ => ?_) (fun h410_ => ?_)
    · exfalso; omega
    refine fl_iconst hm_59 rfl ?_
    refine fl_goto hm_59 rfl ?_
    refine gr_i hm_59 rfl rfl (ga_nb (by omega)) ?_
    clear h407_ h408_ f405_ l406_
    refine fl_if_eq hm_180 rfl ⟨by omega, by omega⟩ (fun h => absurd h (by omega)) (fun _ => ?_)
    obtain ⟨F411_, q412_⟩ : ∃ Fq_, Fq_ = (fl_u F372_ 344 5 (F 344 5)) := ⟨_, rfl⟩
    rw [← q412_]
    have g413_ : gi F411_ := by rw [q412_]; exact gi_u (g373_) rfl (by omega) (by omega)
    have g414_ : fs [(344, 344, 5, 5), (344, 344, 9, 10), (344, 344, 33, 33), (364, 365, 0, 100000)] F F411_ := by rw [q412_]; exact fs_u (g385_) rfl
    have rk415_ : rk K F411_ := by rw [q412_]; exact rk_u (rk386_) (by first | decide | exact nc_ rfl | omega) (by first | decide | exact nc_ rfl | omega)
    refine gr_v hm_180 rfl rfl ?_
    have e416_ : F411_ 344 9 = F372_ 344 9 := by rw [q412_]; exact fl_u_ne (by first | exact nc_ rfl | decide | omega)
    have e417_ : F411_ 344 10 = F372_ 344 10 := by rw [q412_]; exact fl_u_ne (by first | exact nc_ rfl | decide | omega)
    have e418_ : F411_ 344 5 = F 344 5 := by rw [q412_]; exact fl_u_eq
    have b419_ : 0 ≤ F372_ 344 10 ∧ F372_ 344 10 ≤ 600 := gi_g g373_ rfl
    have e420_ : F359_ 5 2 = F 5 2 := (s361_ 5 2 rfl).trans (rfl)
    have e421_ : F372_ 5 2 = F 5 2 := (s374_ 5 2 rfl).trans (e420_)
    have e422_ : F411_ 5 2 = F 5 2 := by rw [q412_]; exact (fl_u_ne (by first | exact nc_ rfl | decide | omega)).trans (e421_)
    have b423_ : 0 ≤ F 5 2 ∧ F 5 2 ≤ 600 := gi_g hgi rfl
    have e424_ : F359_ 344 33 = F 344 33 := (s361_ 344 33 rfl).trans (rfl)
    have e425_ : F372_ 344 33 = F 344 33 := (s374_ 344 33 rfl).trans (e424_)
    have e426_ : F411_ 344 33 = F 344 33 := by rw [q412_]; exact (fl_u_ne (by first | exact nc_ rfl | decide | omega)).trans (e425_)
    exact Or.inl ⟨F411_, rfl, g413_, g414_, (by omega), (⟨fun h0_ => by exfalso; omega, fun h0_ => by constructor <;> omega⟩), (⟨by omega, by omega⟩), (⟨l, tl, (by rw [q412_]; exact (trm_u (trm_fs (trm_fs ht s361_ (by first | exact fs_rg rfl | exact fun r j hj => (fs_n (by omega) rfl))) s374_ (by first | exact fs_rg rfl | exact fun r j hj => (fs_n (by omega) rfl))) (by first | decide | exact nc_ rfl | omega))), hlt⟩)⟩
  exfalso; omega
/- CheapPlannerModel.readInit -/
abbrev pq_178 (G : Nat → Nat → Option Nat) (F : fl_N) (X : xi_H) (K : fl_N) (l tl pl : List Int) (ps : List (List Int)) : Outcome → xi_H → Prop := gqv (fun A => (∃ F' : fl_N, fl_H sh_T G F' ++ X = A ∧ gi F' ∧ fs [(344, 344, 5, 5), (344, 344, 9, 10), (344, 344, 64, 64), (362, 363, 0, 100000)] F F' ∧ (¬ F' 344 9 = 0) ∧ ((F 344 9 = 0 → sp_i1 K l tl pl ps 12 (F 344 5) = .inl (F' 344 9, F' 344 10)) ∧ (¬ F 344 9 = 0 → F' 344 9 = F 344 9 ∧ F' 344 10 = F 344 10)) ∧ (0 ≤ F' 344 5 ∧ F' 344 5 ≤ K 1 6 - 1)) ∨ (∃ F' : fl_N, fl_H sh_T G F' ++ X = A ∧ gi F' ∧ fs [(344, 344, 5, 5), (344, 344, 9, 10), (344, 344, 64, 64), (362, 363, 0, 100000)] F F' ∧ (F' 344 9 = 0 ∧ F 344 9 = 0) ∧ (sp_i1 K l tl pl ps 12 (F 344 5) = .inr (F' 344 5) ∧ K 3 (F' 344 5).toNat = 1) ∧ (0 ≤ F' 344 5 ∧ F' 344 5 ≤ K 1 6 - 1))) gqn
set_option maxHeartbeats 16000000 in
theorem mc_178 {G : Nat → Nat → Option Nat} (hG : gg G) (F : fl_N) (X : xi_H) (hgi : gi F) (K : fl_N) (l tl pl : List Int) (ps : List (List Int)) (hgK : gi K) (hrk : rk K F) (hkt : rkt K) (hp : 0 ≤ F 344 5 ∧ F 344 5 ≤ K 1 6 - 1) (ht : trm F 5 2 l tl) (hlt : l.length = tl.length) (hpl : rpn (F 350) (F 344 17) pl) (hps : rprd F ps ∧ ps.length = pl.length) : fl_M xi_ms 178 5 117 [.ref 344] (fl_H sh_T G F ++ X) (pq_178 G F X K l tl pl ps) := by
  intro fr lo hfr hlo
  show fl_R xi_ms 178 fr lo 0 [(0, .ref 344)] [] _ _
  have hP := (rkt_p hkt hp.1 hp.2 hgK).1
  have hK16 : 0 ≤ K 1 6 ∧ K 1 6 ≤ 601 := gi_g hgK rfl
  have hko := hkt.1
  have b1_ : 0 ≤ F 344 9 ∧ F 344 9 ≤ 5 := gi_g hgi rfl
  by_cases h2_ : F 344 9 = 0
  ·
    refine fl_iconst hm_178 rfl ?_
    refine ga_istore_n (lv2 := [(1, .int (Int32.ofInt 0)), (0, .ref 344)]) hm_178 rfl (Nat.le_of_ble_eq_true rfl) rfl ?_
    refine ga_aload_n (v := .ref 344) hm_178 rfl rfl rfl ?_
    refine ga_lconst (z := 0) hm_178 rfl rfl ?_
    refine ga_putl hm_178 rfl sc_344 rfl rfl ?_
    obtain ⟨F3_, q4_⟩ : ∃ Fq_, Fq_ = (fl_u F 344 64 0) := ⟨_, rfl⟩
    rw [← q4_]
    have g5_ : gi F3_ := by rw [q4_]; exact gi_u (hgi) rfl (by omega) (by omega)
    have g6_ : fs [(344, 344, 5, 5), (344, 344, 9, 10), (344, 344, 64, 64), (362, 363, 0, 100000)] F F3_ := by rw [q4_]; exact fs_u (fs_refl) rfl
    have rk7_ : rk K F3_ := by rw [q4_]; exact rk_u (hrk) (by first | decide | exact nc_ rfl | omega) (by first | decide | exact nc_ rfl | omega)
    have L9_ : ∀ (n8_ : Nat) (n : Int) (F1 : fl_N), (13 - n : Int).toNat = n8_ → (gi F1) → (fs [(344, 344, 5, 5), (344, 344, 9, 10), (344, 344, 64, 64), (362, 363, 0, 100000)] F3_ F1) → (F1 344 9 = 0) → (0 ≤ n ∧ n ≤ 12) → (0 ≤ F1 344 5 ∧ F1 344 5 ≤ K 1 6 - 1) → (sp_i1 K l tl pl ps 12 (F 344 5) = sp_i1 K l tl pl ps (12 - n).toNat (F1 344 5)) → fl_R xi_ms 178 fr lo 7 [(1, .int (Int32.ofInt n)), (0, .ref 344)] [] (fl_H sh_T G F1 ++ X) (pq_178 G F X K l tl pl ps) := by
      intro n8_
      induction n8_ using Nat.strongRecOn with
      | ind n8_ ih10_ =>
      intro n F1 hn11_ hg_F1 hf_F1 hk hn hp1 hsp
      have g12_ : fs [(344, 344, 5, 5), (344, 344, 9, 10), (344, 344, 64, 64), (362, 363, 0, 100000)] F F1 := fs_tr g6_ hf_F1 rfl
      have rk13_ : rk K F1 := rk_fs rk7_ hf_F1 (fs_rg rfl) rfl
      have hP1 := (rkt_p hkt (p := F1 344 5) (by omega) (by omega) hgK).1
      refine ga_aload_n (v := .ref 344) hm_178 rfl rfl rfl ?_
      refine gIi (nY := 1) (F := 0) (L := 0) (As := []) (b := 344) (rest := []) hm_178 rfl hm_59 rfl rfl (fl_ob sc_344) rfl rfl rfl rfl rfl (by omega) (by omega) ?_
      intro f14_ l15_ h16_ h17_
      show fl_R xi_ms 59 f14_ l15_ 0 [(0, .ref 344)] [] _ _
      refine ga_aload_n (v := .ref 344) hm_59 rfl rfl rfl ?_
      have b18_ : 0 ≤ F1 344 9 ∧ F1 344 9 ≤ 5 := gi_g hg_F1 rfl
      refine ga_geti (z := F1 344 9) hm_59 rfl sc_344 rfl (rfl) ?_
      refine fl_if_le (a := F1 344 9) hm_59 rfl ⟨by omega, by omega⟩ (fun h19_ => ?_) (fun h20_ => ?_)
      ·
        refine fl_iconst hm_59 rfl ?_
        refine gr_i hm_59 rfl rfl (ga_nb (by omega)) ?_
        clear h16_ h17_ f14_ l15_
        refine fl_if_ne hm_178 rfl ⟨by omega, by omega⟩ (fun h => absurd h (by omega)) (fun _ => ?_)
        refine ga_aload_n (v := .ref 344) hm_178 rfl rfl rfl ?_
        refine fl_bipush hm_178 rfl rfl ?_
        have b21_ : 0 ≤ F1 344 5 ∧ F1 344 5 ≤ 600 := gi_g hg_F1 rfl
        refine gVi (nY := 2) (F := 1) (L := 20) (As := [.int (Int32.ofInt 41)]) (b := 344) (rest := []) hm_178 rfl hm_52 rfl rfl (fl_ob sc_344) rfl rfl rfl rfl rfl (by omega) (by omega) (mc_52 hG F1 X hg_F1 (K) (41) hgK rk13_ hkt (⟨by omega, by omega⟩) (by omega)) (fun _ _ h => False.elim h) ?_
        rintro z22_ A1_ (⟨hA_, hz_, c23_⟩ | ⟨hA_, hz_, c24_, c25_⟩)
        ·
          subst hA_
          subst hz_
          refine fl_if_ne hm_178 rfl ⟨by omega, by omega⟩ (fun h => absurd h (by omega)) (fun _ => ?_)
          refine ga_iload_n (z := n) hm_178 rfl rfl ?_
          refine fl_bipush hm_178 rfl rfl ?_
          refine fx_icmp_ne (a := n) (b := 12) hm_178 rfl ⟨by omega, by omega⟩ ⟨by omega, by omega⟩ (fun h26_ => ?_) (fun h27_ => ?_)
          ·
            refine ga_aload_n (v := .ref 344) hm_178 rfl rfl rfl ?_
            refine fl_bipush hm_178 rfl rfl ?_
            refine gVv (nY := 2) (F := 2) (L := 41) (As := [.int (Int32.ofInt 40)]) (b := 344) (rest := []) hm_178 rfl hm_51 rfl rfl (fl_ob sc_344) rfl rfl rfl rfl rfl (by omega) (by omega) (mc_51 hG F1 X hg_F1 (K) (40) (0) hgK rk13_ hkt (⟨by omega, by omega⟩) (by omega) (by omega)) (fun _ _ h => False.elim h) ?_
            have b29_ : 0 ≤ F1 344 10 ∧ F1 344 10 ≤ 600 := gi_g hg_F1 rfl
            rintro A1_ (⟨F33_, hA_, g34_, s35_, c30_, c31_, c32_⟩ | ⟨F39_, hA_, g40_, s41_, c36_, c37_, c38_⟩)
            ·
              subst hA_
              have g42_ : fs [(344, 344, 5, 5), (344, 344, 9, 10), (344, 344, 64, 64), (362, 363, 0, 100000)] F F33_ := fs_tr g12_ s35_ rfl
              have rk43_ : rk K F33_ := rk_fs rk13_ s35_ (fs_rg rfl) rfl
              have c31_s := c31_.1 (by omega)
              clear c31_
              refine ga_aload_n (v := .ref 344) hm_178 rfl rfl rfl ?_
              refine fl_iconst hm_178 rfl ?_
              refine fl_bipush hm_178 rfl rfl ?_
              have b44_ : 0 ≤ F33_ 344 5 ∧ F33_ 344 5 ≤ 600 := gi_g g34_ rfl
              refine gVv (nY := 7) (F := 4) (L := 91) (As := [.int (Int32.ofInt 5), .int (Int32.ofInt 43)]) (b := 344) (rest := []) hm_178 rfl hm_174 rfl rfl (fl_ob sc_344) rfl rfl rfl rfl rfl (by omega) (by omega) (mc_174 hG F33_ X g34_ (K) (5) (43) (2) (l) (tl) (pl) (ps) hgK rk43_ hkt (⟨by omega, by omega⟩) ((trm_fs (trm_fs (by rw [q4_]; exact (trm_u ht (by first | decide | exact nc_ rfl | omega))) hf_F1 (by first | exact fs_rg rfl | exact fun r j hj => (fs_n (by omega) (fs_n (by omega) (fs_n (by omega) (fs_n (by omega) rfl)))))) s35_ (by first | exact fs_rg rfl | exact fun r j hj => (fs_n (by omega) (fs_n (by omega) rfl))))) (hlt) (⟨by omega, by omega⟩) ((rpn_fs (rpn_fs (by rw [q4_]; exact (rpn_u hpl (by first | decide | exact nc_ rfl | omega) (by first | decide | exact nc_ rfl | omega))) hf_F1 (fun _ => (by first | exact fs_c rfl | exact (fs_n (by omega) (fs_n (by omega) (fs_n (by omega) (fs_n (by omega) rfl)))))) (by first | exact fs_c rfl | exact (fs_n (by omega) (fs_n (by omega) (fs_n (by omega) (fs_n (by omega) rfl)))))) s35_ (fun _ => (by first | exact fs_c rfl | exact (fs_n (by omega) (fs_n (by omega) rfl)))) (by first | exact fs_c rfl | exact (fs_n (by omega) (fs_n (by omega) rfl))))) (⟨(rprd_fs (rprd_fs (by rw [q4_]; exact (rprd_u hps.1 (by first | decide | exact nc_ rfl | omega))) hf_F1 (by first | exact fs_rg rfl | exact fun r j hj => (fs_n (by omega) (fs_n (by omega) (fs_n (by omega) (fs_n (by omega) rfl)))))) s35_ (by first | exact fs_rg rfl | exact fun r j hj => (fs_n (by omega) (fs_n (by omega) rfl)))), hps.2⟩) (⟨by omega, by omega⟩) (Or.inr (by omega))) (fun _ _ h => False.elim h) ?_
              have b46_ : 0 ≤ F33_ 344 10 ∧ F33_ 344 10 ≤ 600 := gi_g g34_ rfl
              have b47_ : 0 ≤ F33_ 344 9 ∧ F33_ 344 9 ≤ 5 := gi_g g34_ rfl
              rintro A1_ (⟨F51_, hA_, g52_, s53_, c48_, c49_, c50_⟩ | ⟨F57_, hA_, g58_, s59_, c54_, c55_, c56_⟩)
              ·
                subst hA_
                have g60_ : fs [(344, 344, 5, 5), (344, 344, 9, 10), (344, 344, 64, 64), (362, 363, 0, 100000)] F F51_ := fs_tr g42_ s53_ rfl
                have rk61_ : rk K F51_ := rk_fs rk43_ s53_ (fs_rg rfl) rfl
                have c49_k := c49_.2 (by omega)
                clear c49_
                refine ga_aload_n (v := .ref 344) hm_178 rfl rfl rfl ?_
                refine gIi (nY := 1) (F := 0) (L := 0) (As := []) (b := 344) (rest := []) hm_178 rfl hm_59 rfl rfl (fl_ob sc_344) rfl rfl rfl rfl rfl (by omega) (by omega) ?_
                intro f62_ l63_ h64_ h65_
                show fl_R xi_ms 59 f62_ l63_ 0 [(0, .ref 344)] [] _ _
                refine ga_aload_n (v := .ref 344) hm_59 rfl rfl rfl ?_
                have b66_ : 0 ≤ F51_ 344 9 ∧ F51_ 344 9 ≤ 5 := gi_g g52_ rfl
                refine ga_geti (z := F51_ 344 9) hm_59 rfl sc_344 rfl (rfl) ?_
                refine fl_if_le (a := F51_ 344 9) hm_59 rfl ⟨by omega, by omega⟩ (fun h67_ => ?_) (fun h68_ => ?_)
                · exfalso; omega
                refine fl_iconst hm_59 rfl ?_
                refine fl_goto hm_59 rfl ?_
                refine gr_i hm_59 rfl rfl (ga_nb (by omega)) ?_
                clear h64_ h65_ f62_ l63_
                refine fl_if_eq hm_178 rfl ⟨by omega, by omega⟩ (fun h => absurd h (by omega)) (fun _ => ?_)
                refine gr_v hm_178 rfl rfl ?_
                have b69_ : 0 ≤ F51_ 344 10 ∧ F51_ 344 10 ≤ 600 := gi_g g52_ rfl
                have b70_ : 0 ≤ F 344 10 ∧ F 344 10 ≤ 600 := gi_g hgi rfl
                have b71_ : 0 ≤ F 344 5 ∧ F 344 5 ≤ 600 := gi_g hgi rfl
                have b72_ : 0 ≤ F51_ 344 5 ∧ F51_ 344 5 ≤ 600 := gi_g g52_ rfl
                exact Or.inl ⟨F51_, rfl, g52_, g60_, (by omega), (⟨by intro h0_; have hs_ := c31_s; rw [hsp, si1_kf (by omega) hs_]; try (congr 2 <;> omega), fun h0_ => by exfalso; omega⟩), (⟨by omega, by omega⟩)⟩
              exfalso; omega
            subst hA_
            have g73_ : fs [(344, 344, 5, 5), (344, 344, 9, 10), (344, 344, 64, 64), (362, 363, 0, 100000)] F F39_ := fs_tr g12_ s41_ rfl
            have rk74_ : rk K F39_ := rk_fs rk13_ s41_ (fs_rg rfl) rfl
            refine ga_aload_n (v := .ref 344) hm_178 rfl rfl rfl ?_
            refine fl_iconst hm_178 rfl ?_
            refine fl_bipush hm_178 rfl rfl ?_
            have b75_ : 0 ≤ F39_ 344 5 ∧ F39_ 344 5 ≤ 600 := gi_g g40_ rfl
            refine gVv (nY := 7) (F := 4) (L := 91) (As := [.int (Int32.ofInt 5), .int (Int32.ofInt 43)]) (b := 344) (rest := []) hm_178 rfl hm_174 rfl rfl (fl_ob sc_344) rfl rfl rfl rfl rfl (by omega) (by omega) (mc_174 hG F39_ X g40_ (K) (5) (43) (2) (l) (tl) (pl) (ps) hgK rk74_ hkt (⟨by omega, by omega⟩) ((trm_fs (trm_fs (by rw [q4_]; exact (trm_u ht (by first | decide | exact nc_ rfl | omega))) hf_F1 (by first | exact fs_rg rfl | exact fun r j hj => (fs_n (by omega) (fs_n (by omega) (fs_n (by omega) (fs_n (by omega) rfl)))))) s41_ (by first | exact fs_rg rfl | exact fun r j hj => (fs_n (by omega) (fs_n (by omega) rfl))))) (hlt) (⟨by omega, by omega⟩) ((rpn_fs (rpn_fs (by rw [q4_]; exact (rpn_u hpl (by first | decide | exact nc_ rfl | omega) (by first | decide | exact nc_ rfl | omega))) hf_F1 (fun _ => (by first | exact fs_c rfl | exact (fs_n (by omega) (fs_n (by omega) (fs_n (by omega) (fs_n (by omega) rfl)))))) (by first | exact fs_c rfl | exact (fs_n (by omega) (fs_n (by omega) (fs_n (by omega) (fs_n (by omega) rfl)))))) s41_ (fun _ => (by first | exact fs_c rfl | exact (fs_n (by omega) (fs_n (by omega) rfl)))) (by first | exact fs_c rfl | exact (fs_n (by omega) (fs_n (by omega) rfl))))) (⟨(rprd_fs (rprd_fs (by rw [q4_]; exact (rprd_u hps.1 (by first | decide | exact nc_ rfl | omega))) hf_F1 (by first | exact fs_rg rfl | exact fun r j hj => (fs_n (by omega) (fs_n (by omega) (fs_n (by omega) (fs_n (by omega) rfl)))))) s41_ (by first | exact fs_rg rfl | exact fun r j hj => (fs_n (by omega) (fs_n (by omega) rfl)))), hps.2⟩) (⟨by omega, by omega⟩) (Or.inr (by omega))) (fun _ _ h => False.elim h) ?_
            have b77_ : 0 ≤ F39_ 344 10 ∧ F39_ 344 10 ≤ 600 := gi_g g40_ rfl
            have b78_ : 0 ≤ F39_ 344 9 ∧ F39_ 344 9 ≤ 5 := gi_g g40_ rfl
            rintro A1_ (⟨F82_, hA_, g83_, s84_, c79_, c80_, c81_⟩ | ⟨F88_, hA_, g89_, s90_, c85_, c86_, c87_⟩)
            ·
              subst hA_
              have g91_ : fs [(344, 344, 5, 5), (344, 344, 9, 10), (344, 344, 64, 64), (362, 363, 0, 100000)] F F82_ := fs_tr g73_ s84_ rfl
              have rk92_ : rk K F82_ := rk_fs rk74_ s84_ (fs_rg rfl) rfl
              have c80_s := c80_.1 (by omega)
              clear c80_
              refine ga_aload_n (v := .ref 344) hm_178 rfl rfl rfl ?_
              refine gIi (nY := 1) (F := 0) (L := 0) (As := []) (b := 344) (rest := []) hm_178 rfl hm_59 rfl rfl (fl_ob sc_344) rfl rfl rfl rfl rfl (by omega) (by omega) ?_
              intro f93_ l94_ h95_ h96_
              show fl_R xi_ms 59 f93_ l94_ 0 [(0, .ref 344)] [] _ _
              refine ga_aload_n (v := .ref 344) hm_59 rfl rfl rfl ?_
              have b97_ : 0 ≤ F82_ 344 9 ∧ F82_ 344 9 ≤ 5 := gi_g g83_ rfl
              refine ga_geti (z := F82_ 344 9) hm_59 rfl sc_344 rfl (rfl) ?_
              refine fl_if_le (a := F82_ 344 9) hm_59 rfl ⟨by omega, by omega⟩ (fun h98_ => ?_) (fun h99_ => ?_)
              · exfalso; omega
              refine fl_iconst hm_59 rfl ?_
              refine fl_goto hm_59 rfl ?_
              refine gr_i hm_59 rfl rfl (ga_nb (by omega)) ?_
              clear h95_ h96_ f93_ l94_
              refine fl_if_eq hm_178 rfl ⟨by omega, by omega⟩ (fun h => absurd h (by omega)) (fun _ => ?_)
              refine gr_v hm_178 rfl rfl ?_
              have b100_ : 0 ≤ F82_ 344 10 ∧ F82_ 344 10 ≤ 600 := gi_g g83_ rfl
              have b101_ : 0 ≤ F 344 10 ∧ F 344 10 ≤ 600 := gi_g hgi rfl
              have b102_ : 0 ≤ F 344 5 ∧ F 344 5 ≤ 600 := gi_g hgi rfl
              have b103_ : 0 ≤ F82_ 344 5 ∧ F82_ 344 5 ≤ 600 := gi_g g83_ rfl
              exact Or.inl ⟨F82_, rfl, g83_, g91_, (by omega), (⟨by intro h0_; have hs_ := c80_s; rw [hsp, si1_k (by omega) c37_, at_er hs_]; try (congr 2 <;> omega), fun h0_ => by exfalso; omega⟩), (⟨by omega, by omega⟩)⟩
            subst hA_
            have g104_ : fs [(344, 344, 5, 5), (344, 344, 9, 10), (344, 344, 64, 64), (362, 363, 0, 100000)] F F88_ := fs_tr g73_ s90_ rfl
            have rk105_ : rk K F88_ := rk_fs rk74_ s90_ (fs_rg rfl) rfl
            refine ga_aload_n (v := .ref 344) hm_178 rfl rfl rfl ?_
            refine gIi (nY := 1) (F := 0) (L := 0) (As := []) (b := 344) (rest := []) hm_178 rfl hm_59 rfl rfl (fl_ob sc_344) rfl rfl rfl rfl rfl (by omega) (by omega) ?_
            intro f106_ l107_ h108_ h109_
            show fl_R xi_ms 59 f106_ l107_ 0 [(0, .ref 344)] [] _ _
            refine ga_aload_n (v := .ref 344) hm_59 rfl rfl rfl ?_
            have b110_ : 0 ≤ F88_ 344 9 ∧ F88_ 344 9 ≤ 5 := gi_g g89_ rfl
            refine ga_geti (z := F88_ 344 9) hm_59 rfl sc_344 rfl (rfl) ?_
            refine fl_if_le (a := F88_ 344 9) hm_59 rfl ⟨by omega, by omega⟩ (fun h111_ => ?_) (fun h112_ => ?_)
            ·
              refine fl_iconst hm_59 rfl ?_
              refine gr_i hm_59 rfl rfl (ga_nb (by omega)) ?_
              clear h108_ h109_ f106_ l107_
              refine fl_if_eq hm_178 rfl ⟨by omega, by omega⟩ (fun _ => ?_) (fun h => absurd (by omega) h)
              refine ga_aload_n (v := .ref 344) hm_178 rfl rfl rfl ?_
              have e113_ : F3_ 344 36 = F 344 36 := by rw [q4_]; exact fl_u_ne (by first | exact nc_ rfl | decide | omega)
              have e114_ : F1 344 36 = F 344 36 := (hf_F1 344 36 rfl).trans (e113_)
              have e115_ : F39_ 344 36 = F 344 36 := (s41_ 344 36 rfl).trans (e114_)
              have e116_ : F88_ 344 36 = F 344 36 := (s90_ 344 36 rfl).trans (e115_)
              have b117_ : 0 ≤ F 344 36 ∧ F 344 36 ≤ 216 := gi_g hgi rfl
              refine ga_geti (z := F 344 36) hm_178 rfl sc_344 rfl (e116_) ?_
              refine fl_bipush hm_178 rfl rfl ?_
              refine fl_icmp_gt (a := F 344 36) (b := 40) hm_178 rfl ⟨by omega, by omega⟩ ⟨by omega, by omega⟩ (fun h118_ => ?_) (fun h119_ => ?_)
              ·
                refine ga_inc (a := n) (c := n + 1) (lv2 := [(1, .int (Int32.ofInt (n + 1))), (0, .ref 344)]) hm_178 rfl rfl (Nat.le_of_ble_eq_true rfl) rfl rfl ?_
                refine fl_goto hm_178 rfl ?_
                have b120_ : 0 ≤ F88_ 344 5 ∧ F88_ 344 5 ≤ 600 := gi_g g89_ rfl
                have b121_ : 0 ≤ K 1 6 ∧ K 1 6 ≤ 601 := gi_g hgK rfl
                have b122_ : 0 ≤ F 344 5 ∧ F 344 5 ≤ 600 := gi_g hgi rfl
                exact ih10_ _ (by omega) (n + 1) F88_ rfl g89_ (fs_tr (fs_tr hf_F1 s41_ rfl) s90_ rfl) (by omega) (by omega) (⟨by omega, by omega⟩) (by rw [hsp, si1_k (by omega) c37_, at_eq c86_]; congr 1 <;> omega)
              refine ga_aload_n (v := .ref 344) hm_178 rfl rfl rfl ?_
              refine ga_dup hm_178 rfl rfl ?_
              have e123_ : F39_ 344 64 = F1 344 64 := (s41_ 344 64 rfl).trans (rfl)
              have e124_ : F88_ 344 64 = F1 344 64 := (s90_ 344 64 rfl).trans (e123_)
              have b125_ : -9223372036854775808 ≤ F1 344 64 ∧ F1 344 64 ≤ 9223372036854775807 := gi_g hg_F1 rfl
              refine ga_getl (z := F1 344 64) hm_178 rfl sc_344 rfl (e124_) ?_
              refine ga_lconst (z := 1) hm_178 rfl rfl ?_
              refine ga_aload_n (v := .ref 344) hm_178 rfl rfl rfl ?_
              refine ga_aload_n (v := .ref 344) hm_178 rfl rfl rfl ?_
              refine ga_getr (b := 362) hm_178 rfl sc_344 rfl ?_
              refine fl_bipush hm_178 rfl rfl ?_
              have b126_ : 0 ≤ F88_ 362 43 ∧ F88_ 362 43 ≤ 5 := gi_g g89_ rfl
              refine ga_iald (z := 43) (w := F88_ 362 43) hm_178 rfl sc_362 (by omega) (by omega) (by omega) (rfl) ?_
              refine ga_aload_n (v := .ref 344) hm_178 rfl rfl rfl ?_
              refine ga_getr (b := 363) hm_178 rfl sc_344 rfl ?_
              refine fl_bipush hm_178 rfl rfl ?_
              have b127_ := gi_t363 g89_ (86)
              refine ga_iald (z := 86) (w := F88_ 363 86) hm_178 rfl sc_363 (by omega) (by omega) (by omega) (rfl) ?_
              refine ga_aload_n (v := .ref 344) hm_178 rfl rfl rfl ?_
              refine ga_getr (b := 363) hm_178 rfl sc_344 rfl ?_
              refine fl_bipush hm_178 rfl rfl ?_
              have b128_ := gi_t363 g89_ (87)
              refine ga_iald (z := 87) (w := F88_ 363 87) hm_178 rfl sc_363 (by omega) (by omega) (by omega) (rfl) ?_
              refine gVi (nY := 5) (F := 0) (L := 0) (As := [.int (Int32.ofInt (F88_ 362 43)), .int (Int32.ofInt (F88_ 363 86)), .int (Int32.ofInt (F88_ 363 87))]) (b := 344) (rest := [.long (Int64.ofInt 1), .long (Int64.ofInt (F1 344 64)), .ref 344]) hm_178 rfl hm_160 rfl rfl (fl_ob sc_344) rfl rfl rfl rfl rfl (by omega) (by omega) (mc_160 hG F88_ X g89_ (F88_ 362 43) (F88_ 363 86) (F88_ 363 87) (⟨by omega, by omega⟩) (⟨by omega, by omega⟩) (⟨by omega, by omega⟩)) (fun _ _ h => False.elim h) ?_
              rintro z129_ A1_ ⟨hA_, c130_⟩
              subst hA_
              refine ga_lany hm_178 rfl rfl rfl (fun z131_ ⟨h132_, h133_⟩ => ?_)
              refine ga_lany hm_178 rfl rfl rfl (fun z134_ ⟨h135_, h136_⟩ => ?_)
              refine ga_putl hm_178 rfl sc_344 rfl rfl ?_
              refine ga_inc (a := n) (c := n + 1) (lv2 := [(1, .int (Int32.ofInt (n + 1))), (0, .ref 344)]) hm_178 rfl rfl (Nat.le_of_ble_eq_true rfl) rfl rfl ?_
              refine fl_goto hm_178 rfl ?_
              obtain ⟨F137_, q138_⟩ : ∃ Fq_, Fq_ = (fl_u F88_ 344 64 z134_) := ⟨_, rfl⟩
              rw [← q138_]
              have g139_ : gi F137_ := by rw [q138_]; exact gi_u (g89_) rfl (by omega) (by omega)
              have g140_ : fs [(344, 344, 5, 5), (344, 344, 9, 10), (344, 344, 64, 64), (362, 363, 0, 100000)] F F137_ := by rw [q138_]; exact fs_u (g104_) rfl
              have rk141_ : rk K F137_ := by rw [q138_]; exact rk_u (rk105_) (by first | decide | exact nc_ rfl | omega) (by first | decide | exact nc_ rfl | omega)
              have e142_ : F137_ 344 9 = F88_ 344 9 := by rw [q138_]; exact fl_u_ne (by first | exact nc_ rfl | decide | omega)
              have e143_ : F137_ 344 5 = F88_ 344 5 := by rw [q138_]; exact fl_u_ne (by first | exact nc_ rfl | decide | omega)
              have b144_ : 0 ≤ F88_ 344 5 ∧ F88_ 344 5 ≤ 600 := gi_g g89_ rfl
              have b145_ : 0 ≤ K 1 6 ∧ K 1 6 ≤ 601 := gi_g hgK rfl
              have b146_ : 0 ≤ F 344 5 ∧ F 344 5 ≤ 600 := gi_g hgi rfl
              have e147_ : F137_ 344 10 = F88_ 344 10 := by rw [q138_]; exact fl_u_ne (by first | exact nc_ rfl | decide | omega)
              exact ih10_ _ (by omega) (n + 1) F137_ rfl g139_ (by rw [q138_]; exact fs_u ((fs_tr (fs_tr hf_F1 s41_ rfl) s90_ rfl)) rfl) (by omega) (by omega) (⟨by omega, by omega⟩) (by rw [hsp, si1_k (by omega) c37_, at_eq c86_]; congr 1 <;> omega)
            exfalso; omega
          refine ga_aload_n (v := .ref 344) hm_178 rfl rfl rfl ?_
          refine fl_iconst hm_178 rfl ?_
          refine gVv (nY := 2) (F := 0) (L := 0) (As := [.int (Int32.ofInt 1)]) (b := 344) (rest := []) hm_178 rfl hm_54 rfl rfl (fl_ob sc_344) rfl rfl rfl rfl rfl (by omega) (by omega) (mc_54 hG F1 X hg_F1 (K) (1) hgK rk13_ hkt (⟨by omega, by omega⟩) (⟨by omega, by omega⟩)) (fun _ _ h => False.elim h) ?_
          have b149_ : 0 ≤ F1 344 10 ∧ F1 344 10 ≤ 600 := gi_g hg_F1 rfl
          rintro A1_ ⟨F153_, hA_, g154_, s155_, c150_, c151_, c152_⟩
          subst hA_
          have g156_ : fs [(344, 344, 5, 5), (344, 344, 9, 10), (344, 344, 64, 64), (362, 363, 0, 100000)] F F153_ := fs_tr g12_ s155_ rfl
          have rk157_ : rk K F153_ := rk_fs rk13_ s155_ (fs_rg rfl) rfl
          have c151_s := c151_.1 (by omega)
          clear c151_
          refine ga_aload_n (v := .ref 344) hm_178 rfl rfl rfl ?_
          refine fl_bipush hm_178 rfl rfl ?_
          have e158_ : F153_ 344 5 = F1 344 5 := (s155_ 344 5 rfl).trans (rfl)
          refine gVv (nY := 2) (F := 2) (L := 41) (As := [.int (Int32.ofInt 40)]) (b := 344) (rest := []) hm_178 rfl hm_51 rfl rfl (fl_ob sc_344) rfl rfl rfl rfl rfl (by omega) (by omega) (mc_51 hG F153_ X g154_ (K) (40) (0) hgK rk157_ hkt (⟨by omega, by omega⟩) (by omega) (by omega)) (fun _ _ h => False.elim h) ?_
          have b160_ : 0 ≤ F153_ 344 10 ∧ F153_ 344 10 ≤ 600 := gi_g g154_ rfl
          have b161_ : 0 ≤ F153_ 344 9 ∧ F153_ 344 9 ≤ 5 := gi_g g154_ rfl
          rintro A1_ (⟨F165_, hA_, g166_, s167_, c162_, c163_, c164_⟩ | ⟨F171_, hA_, g172_, s173_, c168_, c169_, c170_⟩)
          ·
            subst hA_
            have g174_ : fs [(344, 344, 5, 5), (344, 344, 9, 10), (344, 344, 64, 64), (362, 363, 0, 100000)] F F165_ := fs_tr g156_ s167_ rfl
            have rk175_ : rk K F165_ := rk_fs rk157_ s167_ (fs_rg rfl) rfl
            try simp only [e158_] at c163_
            have c163_k := c163_.2 (by omega)
            clear c163_
            refine ga_aload_n (v := .ref 344) hm_178 rfl rfl rfl ?_
            refine fl_iconst hm_178 rfl ?_
            refine fl_bipush hm_178 rfl rfl ?_
            have b176_ : 0 ≤ F165_ 344 5 ∧ F165_ 344 5 ≤ 600 := gi_g g166_ rfl
            refine gVv (nY := 7) (F := 4) (L := 91) (As := [.int (Int32.ofInt 5), .int (Int32.ofInt 43)]) (b := 344) (rest := []) hm_178 rfl hm_174 rfl rfl (fl_ob sc_344) rfl rfl rfl rfl rfl (by omega) (by omega) (mc_174 hG F165_ X g166_ (K) (5) (43) (2) (l) (tl) (pl) (ps) hgK rk175_ hkt (⟨by omega, by omega⟩) ((trm_fs (trm_fs (trm_fs (by rw [q4_]; exact (trm_u ht (by first | decide | exact nc_ rfl | omega))) hf_F1 (by first | exact fs_rg rfl | exact fun r j hj => (fs_n (by omega) (fs_n (by omega) (fs_n (by omega) (fs_n (by omega) rfl)))))) s155_ (by first | exact fs_rg rfl | exact fun r j hj => (fs_n (by omega) rfl))) s167_ (by first | exact fs_rg rfl | exact fun r j hj => (fs_n (by omega) (fs_n (by omega) rfl))))) (hlt) (⟨by omega, by omega⟩) ((rpn_fs (rpn_fs (rpn_fs (by rw [q4_]; exact (rpn_u hpl (by first | decide | exact nc_ rfl | omega) (by first | decide | exact nc_ rfl | omega))) hf_F1 (fun _ => (by first | exact fs_c rfl | exact (fs_n (by omega) (fs_n (by omega) (fs_n (by omega) (fs_n (by omega) rfl)))))) (by first | exact fs_c rfl | exact (fs_n (by omega) (fs_n (by omega) (fs_n (by omega) (fs_n (by omega) rfl)))))) s155_ (fun _ => (by first | exact fs_c rfl | exact (fs_n (by omega) rfl))) (by first | exact fs_c rfl | exact (fs_n (by omega) rfl))) s167_ (fun _ => (by first | exact fs_c rfl | exact (fs_n (by omega) (fs_n (by omega) rfl)))) (by first | exact fs_c rfl | exact (fs_n (by omega) (fs_n (by omega) rfl))))) (⟨(rprd_fs (rprd_fs (rprd_fs (by rw [q4_]; exact (rprd_u hps.1 (by first | decide | exact nc_ rfl | omega))) hf_F1 (by first | exact fs_rg rfl | exact fun r j hj => (fs_n (by omega) (fs_n (by omega) (fs_n (by omega) (fs_n (by omega) rfl)))))) s155_ (by first | exact fs_rg rfl | exact fun r j hj => (fs_n (by omega) rfl))) s167_ (by first | exact fs_rg rfl | exact fun r j hj => (fs_n (by omega) (fs_n (by omega) rfl)))), hps.2⟩) (⟨by omega, by omega⟩) (Or.inr (by omega))) (fun _ _ h => False.elim h) ?_
            have b178_ : 0 ≤ F165_ 344 10 ∧ F165_ 344 10 ≤ 600 := gi_g g166_ rfl
            have b179_ : 0 ≤ F165_ 344 9 ∧ F165_ 344 9 ≤ 5 := gi_g g166_ rfl
            rintro A1_ (⟨F183_, hA_, g184_, s185_, c180_, c181_, c182_⟩ | ⟨F189_, hA_, g190_, s191_, c186_, c187_, c188_⟩)
            ·
              subst hA_
              have g192_ : fs [(344, 344, 5, 5), (344, 344, 9, 10), (344, 344, 64, 64), (362, 363, 0, 100000)] F F183_ := fs_tr g174_ s185_ rfl
              have rk193_ : rk K F183_ := rk_fs rk175_ s185_ (fs_rg rfl) rfl
              have c181_k := c181_.2 (by omega)
              clear c181_
              refine ga_aload_n (v := .ref 344) hm_178 rfl rfl rfl ?_
              refine gIi (nY := 1) (F := 0) (L := 0) (As := []) (b := 344) (rest := []) hm_178 rfl hm_59 rfl rfl (fl_ob sc_344) rfl rfl rfl rfl rfl (by omega) (by omega) ?_
              intro f194_ l195_ h196_ h197_
              show fl_R xi_ms 59 f194_ l195_ 0 [(0, .ref 344)] [] _ _
              refine ga_aload_n (v := .ref 344) hm_59 rfl rfl rfl ?_
              have b198_ : 0 ≤ F183_ 344 9 ∧ F183_ 344 9 ≤ 5 := gi_g g184_ rfl
              refine ga_geti (z := F183_ 344 9) hm_59 rfl sc_344 rfl (rfl) ?_
              refine fl_if_le (a := F183_ 344 9) hm_59 rfl ⟨by omega, by omega⟩ (fun h199_ => ?_) (fun h200_ => ?_)
              · exfalso; omega
              refine fl_iconst hm_59 rfl ?_
              refine fl_goto hm_59 rfl ?_
              refine gr_i hm_59 rfl rfl (ga_nb (by omega)) ?_
              clear h196_ h197_ f194_ l195_
              refine fl_if_eq hm_178 rfl ⟨by omega, by omega⟩ (fun h => absurd h (by omega)) (fun _ => ?_)
              refine gr_v hm_178 rfl rfl ?_
              have b201_ : 0 ≤ F183_ 344 10 ∧ F183_ 344 10 ≤ 600 := gi_g g184_ rfl
              have b202_ : 0 ≤ F 344 10 ∧ F 344 10 ≤ 600 := gi_g hgi rfl
              have b203_ : 0 ≤ F 344 5 ∧ F 344 5 ≤ 600 := gi_g hgi rfl
              have b204_ : 0 ≤ F183_ 344 5 ∧ F183_ 344 5 ≤ 600 := gi_g g184_ rfl
              exact Or.inl ⟨F183_, rfl, g184_, g192_, (by omega), (⟨by intro h0_; have hs_ := c151_s; rw [hsp, si1_f (by omega) (Or.inl (by omega))]; try (congr 2 <;> omega), fun h0_ => by exfalso; omega⟩), (⟨by omega, by omega⟩)⟩
            exfalso; omega
          exfalso; omega
        subst hA_
        subst hz_
        refine fl_if_ne hm_178 rfl ⟨by omega, by omega⟩ (fun _ => ?_) (fun h => absurd (by omega) h)
        refine gr_v hm_178 rfl rfl ?_
        have b205_ : 0 ≤ F 344 5 ∧ F 344 5 ≤ 600 := gi_g hgi rfl
        exact Or.inr (⟨F1, rfl, hg_F1, g12_, (by omega), (⟨by rw [hsp, si1_e (by omega)]; try (congr 1; omega), by (try rw [show F1 344 5 = F1 344 5 by omega]); omega⟩), (⟨by omega, by omega⟩)⟩)
      exfalso; omega
    have e206_ : F3_ 344 9 = F 344 9 := by rw [q4_]; exact fl_u_ne (by first | exact nc_ rfl | decide | omega)
    have e207_ : F3_ 344 5 = F 344 5 := by rw [q4_]; exact fl_u_ne (by first | exact nc_ rfl | decide | omega)
    have b208_ : 0 ≤ F 344 5 ∧ F 344 5 ≤ 600 := gi_g hgi rfl
    have b209_ : 0 ≤ K 1 6 ∧ K 1 6 ≤ 601 := gi_g hgK rfl
    have e210_ : F3_ 344 10 = F 344 10 := by rw [q4_]; exact fl_u_ne (by first | exact nc_ rfl | decide | omega)
    exact L9_ _ (0) F3_ rfl g5_ fs_refl (by omega) (⟨by omega, by omega⟩) (⟨by omega, by omega⟩) (by rw [show F 344 5 = F3_ 344 5 from ((show F3_ 344 5 = F 344 5 from (by rw [q4_]; exact (fl_u_ne (by first | exact nc_ rfl | decide | omega))))).symm]; rfl)
  refine fl_iconst hm_178 rfl ?_
  refine ga_istore_n (lv2 := [(1, .int (Int32.ofInt 0)), (0, .ref 344)]) hm_178 rfl (Nat.le_of_ble_eq_true rfl) rfl ?_
  refine ga_aload_n (v := .ref 344) hm_178 rfl rfl rfl ?_
  refine ga_lconst (z := 0) hm_178 rfl rfl ?_
  refine ga_putl hm_178 rfl sc_344 rfl rfl ?_
  refine ga_aload_n (v := .ref 344) hm_178 rfl rfl rfl ?_
  refine gIi (nY := 1) (F := 0) (L := 0) (As := []) (b := 344) (rest := []) hm_178 rfl hm_59 rfl rfl (fl_ob sc_344) rfl rfl rfl rfl rfl (by omega) (by omega) ?_
  intro f211_ l212_ h213_ h214_
  show fl_R xi_ms 59 f211_ l212_ 0 [(0, .ref 344)] [] _ _
  refine ga_aload_n (v := .ref 344) hm_59 rfl rfl rfl ?_
  refine ga_geti (z := F 344 9) hm_59 rfl sc_344 rfl (fl_u_ne (by first | exact nc_ rfl | decide | omega)) ?_
  refine fl_if_le (a := F 344 9) hm_59 rfl ⟨by omega, by omega⟩ (fun h215_ => ?_) (fun h216_ => ?_)
  · exfalso; omega
  refine fl_iconst hm_59 rfl ?_
  refine fl_goto hm_59 rfl ?_
  refine gr_i hm_59 rfl rfl (ga_nb (by omega)) ?_
  clear h213_ h214_ f211_ l212_
  refine fl_if_ne hm_178 rfl ⟨by omega, by omega⟩ (fun _ => ?_) (fun h => absurd (by omega) h)
  obtain ⟨F217_, q218_⟩ : ∃ Fq_, Fq_ = (fl_u F 344 64 0) := ⟨_, rfl⟩
  rw [← q218_]
  have g219_ : gi F217_ := by rw [q218_]; exact gi_u (hgi) rfl (by omega) (by omega)
  have g220_ : fs [(344, 344, 5, 5), (344, 344, 9, 10), (344, 344, 64, 64), (362, 363, 0, 100000)] F F217_ := by rw [q218_]; exact fs_u (fs_refl) rfl
  have rk221_ : rk K F217_ := by rw [q218_]; exact rk_u (hrk) (by first | decide | exact nc_ rfl | omega) (by first | decide | exact nc_ rfl | omega)
  refine gr_v hm_178 rfl rfl ?_
  have e222_ : F217_ 344 9 = F 344 9 := by rw [q218_]; exact fl_u_ne (by first | exact nc_ rfl | decide | omega)
  have e223_ : F217_ 344 10 = F 344 10 := by rw [q218_]; exact fl_u_ne (by first | exact nc_ rfl | decide | omega)
  have e224_ : F217_ 344 5 = F 344 5 := by rw [q218_]; exact fl_u_ne (by first | exact nc_ rfl | decide | omega)
  have b225_ : 0 ≤ F 344 10 ∧ F 344 10 ≤ 600 := gi_g hgi rfl
  have b226_ : 0 ≤ F 344 5 ∧ F 344 5 ≤ 600 := gi_g hgi rfl
  exact Or.inl ⟨F217_, rfl, g219_, g220_, (by omega), (⟨fun h0_ => by exfalso; omega, fun h0_ => by constructor <;> omega⟩), (⟨by omega, by omega⟩)⟩
/- CheapPlannerModel.readProblem -/
abbrev pq_184 (G : Nat → Nat → Option Nat) (F : fl_N) (X : xi_H) (K : fl_N) (nm : Int) (ts pl : List Int) (ps : List (List Int)) : Outcome → xi_H → Prop := gqv (fun A => (∃ F' : fl_N, fl_H sh_T G F' ++ X = A ∧ gi F' ∧ fs [(344, 344, 5, 5), (344, 344, 9, 10), (344, 344, 33, 33), (344, 344, 36, 36), (344, 344, 64, 64), (358, 358, 0, 100000), (360, 366, 0, 100000)] F F' ∧ (¬ F' 344 9 = 0) ∧ ((F 344 9 = 0 → sp_prb K nm ts pl ps = .inl (F' 344 9, F' 344 10)) ∧ (¬ F 344 9 = 0 → F' 344 9 = F 344 9 ∧ F' 344 10 = F 344 10)) ∧ (0 ≤ F' 344 5 ∧ F' 344 5 ≤ K 1 6 - 1)) ∨ (∃ F' : fl_N, fl_H sh_T G F' ++ X = A ∧ gi F' ∧ fs [(344, 344, 5, 5), (344, 344, 9, 10), (344, 344, 33, 33), (344, 344, 36, 36), (344, 344, 64, 64), (358, 358, 0, 100000), (360, 366, 0, 100000)] F F' ∧ (F' 344 9 = 0 ∧ F 344 9 = 0) ∧ (∃ l tl, sp_prb K nm ts pl ps = .inr (l, tl)) ∧ (0 ≤ F' 344 5 ∧ F' 344 5 ≤ K 1 6 - 1))) gqn
set_option maxHeartbeats 16000000 in
theorem mb_184_210 {G : Nat → Nat → Option Nat} (hG : gg G) (F : fl_N) (X : xi_H) (hgi : gi F) (K : fl_N) (nm : Int) (ts pl : List Int) (ps : List (List Int)) (hgK : gi K) (hrk : rk K F) (hkt : rkt K) (hp : 0 ≤ F 344 5 ∧ F 344 5 ≤ K 1 6 - 1) (h0 : F 344 9 = 0) (h5 : F 344 5 = 0) (hnm : nrel nm (F 344 14)) (hts : rpn (F 349) (F 344 15) ts) (hpl : rpn (F 350) (F 344 17) pl) (hps : rprd F ps ∧ ps.length = pl.length) (h33 : F 344 33 = 0) (fr lo : Nat) (hfr : 7 ≤ fr) (hlo : 165 ≤ lo) (Fb : fl_N) (hg_Fb : gi Fb) (hf_Fb : fs [(344, 344, 5, 5), (344, 344, 9, 10), (344, 344, 33, 33), (344, 344, 36, 36), (344, 344, 64, 64), (358, 358, 0, 100000), (360, 366, 0, 100000)] F Fb) (hrk_b : rk K Fb) (hbd : ¬ Fb 344 9 = 0) (hp_b : 0 ≤ Fb 344 5 ∧ Fb 344 5 ≤ K 1 6 - 1) (hb : (F 344 9 = 0 → sp_prb K nm ts pl ps = .inl (Fb 344 9, Fb 344 10)) ∧ (¬ F 344 9 = 0 → Fb 344 9 = F 344 9 ∧ Fb 344 10 = F 344 10)) (htb : ∃ l tl, trm Fb 5 2 l tl ∧ l.length = tl.length) : fl_R xi_ms 184 fr lo 210 [(0, .ref 344)] [] (fl_H sh_T G Fb ++ X) (pq_184 G F X K nm ts pl ps) := by
  have hP := (rkt_p hkt hp.1 hp.2 hgK).1
  have hK16 : 0 ≤ K 1 6 ∧ K 1 6 ≤ 601 := gi_g hgK rfl
  have hko := hkt.1
  obtain ⟨lb_, tlb_, htb1_, htb2_⟩ := htb
  refine ga_aload_n (v := .ref 344) hm_184 rfl rfl rfl ?_
  refine gIi (nY := 1) (F := 0) (L := 0) (As := []) (b := 344) (rest := []) hm_184 rfl hm_59 rfl rfl (fl_ob sc_344) rfl rfl rfl rfl rfl (by omega) (by omega) ?_
  intro f21_ l22_ h23_ h24_
  show fl_R xi_ms 59 f21_ l22_ 0 [(0, .ref 344)] [] _ _
  refine ga_aload_n (v := .ref 344) hm_59 rfl rfl rfl ?_
  have b25_ : 0 ≤ Fb 344 9 ∧ Fb 344 9 ≤ 5 := gi_g hg_Fb rfl
  refine ga_geti (z := Fb 344 9) hm_59 rfl sc_344 rfl (rfl) ?_
  refine fl_if_le (a := Fb 344 9) hm_59 rfl ⟨by omega, by omega⟩ (fun h26_ => ?_) (fun h27_ => ?_)
  · exfalso; omega
  refine fl_iconst hm_59 rfl ?_
  refine fl_goto hm_59 rfl ?_
  refine gr_i hm_59 rfl rfl (ga_nb (by omega)) ?_
  clear h23_ h24_ f21_ l22_
  refine fl_if_ne hm_184 rfl ⟨by omega, by omega⟩ (fun _ => ?_) (fun h => absurd (by omega) h)
  refine gr_v hm_184 rfl rfl ?_
  have b28_ : 0 ≤ Fb 344 10 ∧ Fb 344 10 ≤ 600 := gi_g hg_Fb rfl
  have b29_ : 0 ≤ F 344 10 ∧ F 344 10 ≤ 600 := gi_g hgi rfl
  have b30_ : 0 ≤ F 344 9 ∧ F 344 9 ≤ 5 := gi_g hgi rfl
  have b31_ : 0 ≤ Fb 344 5 ∧ Fb 344 5 ≤ 600 := gi_g hg_Fb rfl
  exact Or.inl ⟨Fb, rfl, hg_Fb, hf_Fb, (by omega), (hb), (⟨by omega, by omega⟩)⟩
set_option maxHeartbeats 16000000 in
theorem mb_184_204 {G : Nat → Nat → Option Nat} (hG : gg G) (F : fl_N) (X : xi_H) (hgi : gi F) (K : fl_N) (nm : Int) (ts pl : List Int) (ps : List (List Int)) (hgK : gi K) (hrk : rk K F) (hkt : rkt K) (hp : 0 ≤ F 344 5 ∧ F 344 5 ≤ K 1 6 - 1) (h0 : F 344 9 = 0) (h5 : F 344 5 = 0) (hnm : nrel nm (F 344 14)) (hts : rpn (F 349) (F 344 15) ts) (hpl : rpn (F 350) (F 344 17) pl) (hps : rprd F ps ∧ ps.length = pl.length) (h33 : F 344 33 = 0) (fr lo : Nat) (hfr : 7 ≤ fr) (hlo : 165 ≤ lo) (Fb : fl_N) (hg_Fb : gi Fb) (hf_Fb : fs [(344, 344, 5, 5), (344, 344, 9, 10), (344, 344, 33, 33), (344, 344, 36, 36), (344, 344, 64, 64), (358, 358, 0, 100000), (360, 366, 0, 100000)] F Fb) (hrk_b : rk K Fb) (hbd : ¬ Fb 344 9 = 0) (hp_b : 0 ≤ Fb 344 5 ∧ Fb 344 5 ≤ K 1 6 - 1) (hb : (F 344 9 = 0 → sp_prb K nm ts pl ps = .inl (Fb 344 9, Fb 344 10)) ∧ (¬ F 344 9 = 0 → Fb 344 9 = F 344 9 ∧ Fb 344 10 = F 344 10)) (htb : ∃ l tl, trm Fb 5 2 l tl ∧ l.length = tl.length) : fl_R xi_ms 184 fr lo 204 [(0, .ref 344)] [] (fl_H sh_T G Fb ++ X) (pq_184 G F X K nm ts pl ps) := by
  have hP := (rkt_p hkt hp.1 hp.2 hgK).1
  have hK16 : 0 ≤ K 1 6 ∧ K 1 6 ≤ 601 := gi_g hgK rfl
  have hko := hkt.1
  obtain ⟨lb_, tlb_, htb1_, htb2_⟩ := htb
  refine ga_aload_n (v := .ref 344) hm_184 rfl rfl rfl ?_
  refine fl_bipush hm_184 rfl rfl ?_
  have b21_ : 0 ≤ Fb 344 5 ∧ Fb 344 5 ≤ 600 := gi_g hg_Fb rfl
  refine gVv (nY := 2) (F := 2) (L := 41) (As := [.int (Int32.ofInt 41)]) (b := 344) (rest := []) hm_184 rfl hm_51 rfl rfl (fl_ob sc_344) rfl rfl rfl rfl rfl (by omega) (by omega) (mc_51 hG Fb X hg_Fb (K) (41) (1) hgK hrk_b hkt (⟨by omega, by omega⟩) (by omega) (by omega)) (fun _ _ h => False.elim h) ?_
  have b23_ : 0 ≤ Fb 344 10 ∧ Fb 344 10 ≤ 600 := gi_g hg_Fb rfl
  have b24_ : 0 ≤ Fb 344 9 ∧ Fb 344 9 ≤ 5 := gi_g hg_Fb rfl
  rintro A1_ (⟨F28_, hA_, g29_, s30_, c25_, c26_, c27_⟩ | ⟨F34_, hA_, g35_, s36_, c31_, c32_, c33_⟩)
  ·
    subst hA_
    have g37_ : fs [(344, 344, 5, 5), (344, 344, 9, 10), (344, 344, 33, 33), (344, 344, 36, 36), (344, 344, 64, 64), (358, 358, 0, 100000), (360, 366, 0, 100000)] F F28_ := fs_tr hf_Fb s30_ rfl
    have rk38_ : rk K F28_ := rk_fs hrk_b s30_ (fs_rg rfl) rfl
    have c26_k := c26_.2 (by omega)
    clear c26_
    have b39_ : 0 ≤ F28_ 344 9 ∧ F28_ 344 9 ≤ 5 := gi_g g29_ rfl
    have b40_ : 0 ≤ F28_ 344 10 ∧ F28_ 344 10 ≤ 600 := gi_g g29_ rfl
    have b41_ : 0 ≤ F28_ 344 5 ∧ F28_ 344 5 ≤ 600 := gi_g g29_ rfl
    have e42_ : Fb 5 2 = F 5 2 := (hf_Fb 5 2 rfl).trans (rfl)
    have e43_ : F28_ 5 2 = F 5 2 := (s30_ 5 2 rfl).trans (e42_)
    have b44_ : 0 ≤ F 5 2 ∧ F 5 2 ≤ 600 := gi_g hgi rfl
    exact mb_184_210 hG F X hgi K nm ts pl ps hgK hrk hkt hp h0 h5 hnm hts hpl hps h33 fr lo hfr hlo F28_ g29_ g37_ rk38_ (by omega) (⟨by omega, by omega⟩) (⟨fun h0_ => by rw [show F28_ 344 9 = Fb 344 9 by omega, show F28_ 344 10 = Fb 344 10 by omega]; exact hb.1 h0_, fun h0_ => by have h1_ := hb.2 h0_; omega⟩) (⟨lb_, tlb_, (trm_fs htb1_ s30_ (by first | exact fs_rg rfl | exact fun r j hj => (fs_n (by omega) (fs_n (by omega) rfl)))), htb2_⟩)
  exfalso; omega
set_option maxHeartbeats 16000000 in
theorem mb_184_198 {G : Nat → Nat → Option Nat} (hG : gg G) (F : fl_N) (X : xi_H) (hgi : gi F) (K : fl_N) (nm : Int) (ts pl : List Int) (ps : List (List Int)) (hgK : gi K) (hrk : rk K F) (hkt : rkt K) (hp : 0 ≤ F 344 5 ∧ F 344 5 ≤ K 1 6 - 1) (h0 : F 344 9 = 0) (h5 : F 344 5 = 0) (hnm : nrel nm (F 344 14)) (hts : rpn (F 349) (F 344 15) ts) (hpl : rpn (F 350) (F 344 17) pl) (hps : rprd F ps ∧ ps.length = pl.length) (h33 : F 344 33 = 0) (fr lo : Nat) (hfr : 7 ≤ fr) (hlo : 165 ≤ lo) (Fb : fl_N) (hg_Fb : gi Fb) (hf_Fb : fs [(344, 344, 5, 5), (344, 344, 9, 10), (344, 344, 33, 33), (344, 344, 36, 36), (344, 344, 64, 64), (358, 358, 0, 100000), (360, 366, 0, 100000)] F Fb) (hrk_b : rk K Fb) (hbd : ¬ Fb 344 9 = 0) (hp_b : 0 ≤ Fb 344 5 ∧ Fb 344 5 ≤ K 1 6 - 1) (hb : (F 344 9 = 0 → sp_prb K nm ts pl ps = .inl (Fb 344 9, Fb 344 10)) ∧ (¬ F 344 9 = 0 → Fb 344 9 = F 344 9 ∧ Fb 344 10 = F 344 10)) (htb : ∃ l tl, trm Fb 5 2 l tl ∧ l.length = tl.length) : fl_R xi_ms 184 fr lo 198 [(0, .ref 344)] [] (fl_H sh_T G Fb ++ X) (pq_184 G F X K nm ts pl ps) := by
  have hP := (rkt_p hkt hp.1 hp.2 hgK).1
  have hK16 : 0 ≤ K 1 6 ∧ K 1 6 ≤ 601 := gi_g hgK rfl
  have hko := hkt.1
  obtain ⟨lb_, tlb_, htb1_, htb2_⟩ := htb
  refine ga_aload_n (v := .ref 344) hm_184 rfl rfl rfl ?_
  refine fl_bipush hm_184 rfl rfl ?_
  have b21_ : 0 ≤ Fb 344 5 ∧ Fb 344 5 ≤ 600 := gi_g hg_Fb rfl
  refine gVv (nY := 2) (F := 2) (L := 41) (As := [.int (Int32.ofInt 41)]) (b := 344) (rest := []) hm_184 rfl hm_51 rfl rfl (fl_ob sc_344) rfl rfl rfl rfl rfl (by omega) (by omega) (mc_51 hG Fb X hg_Fb (K) (41) (1) hgK hrk_b hkt (⟨by omega, by omega⟩) (by omega) (by omega)) (fun _ _ h => False.elim h) ?_
  have b23_ : 0 ≤ Fb 344 10 ∧ Fb 344 10 ≤ 600 := gi_g hg_Fb rfl
  have b24_ : 0 ≤ Fb 344 9 ∧ Fb 344 9 ≤ 5 := gi_g hg_Fb rfl
  rintro A1_ (⟨F28_, hA_, g29_, s30_, c25_, c26_, c27_⟩ | ⟨F34_, hA_, g35_, s36_, c31_, c32_, c33_⟩)
  ·
    subst hA_
    have g37_ : fs [(344, 344, 5, 5), (344, 344, 9, 10), (344, 344, 33, 33), (344, 344, 36, 36), (344, 344, 64, 64), (358, 358, 0, 100000), (360, 366, 0, 100000)] F F28_ := fs_tr hf_Fb s30_ rfl
    have rk38_ : rk K F28_ := rk_fs hrk_b s30_ (fs_rg rfl) rfl
    have c26_k := c26_.2 (by omega)
    clear c26_
    have b39_ : 0 ≤ F28_ 344 9 ∧ F28_ 344 9 ≤ 5 := gi_g g29_ rfl
    have b40_ : 0 ≤ F28_ 344 10 ∧ F28_ 344 10 ≤ 600 := gi_g g29_ rfl
    have b41_ : 0 ≤ F28_ 344 5 ∧ F28_ 344 5 ≤ 600 := gi_g g29_ rfl
    have e42_ : Fb 5 2 = F 5 2 := (hf_Fb 5 2 rfl).trans (rfl)
    have e43_ : F28_ 5 2 = F 5 2 := (s30_ 5 2 rfl).trans (e42_)
    have b44_ : 0 ≤ F 5 2 ∧ F 5 2 ≤ 600 := gi_g hgi rfl
    exact mb_184_204 hG F X hgi K nm ts pl ps hgK hrk hkt hp h0 h5 hnm hts hpl hps h33 fr lo hfr hlo F28_ g29_ g37_ rk38_ (by omega) (⟨by omega, by omega⟩) (⟨fun h0_ => by rw [show F28_ 344 9 = Fb 344 9 by omega, show F28_ 344 10 = Fb 344 10 by omega]; exact hb.1 h0_, fun h0_ => by have h1_ := hb.2 h0_; omega⟩) (⟨lb_, tlb_, (trm_fs htb1_ s30_ (by first | exact fs_rg rfl | exact fun r j hj => (fs_n (by omega) (fs_n (by omega) rfl)))), htb2_⟩)
  exfalso; omega
set_option maxHeartbeats 16000000 in
theorem mb_184_184 {G : Nat → Nat → Option Nat} (hG : gg G) (F : fl_N) (X : xi_H) (hgi : gi F) (K : fl_N) (nm : Int) (ts pl : List Int) (ps : List (List Int)) (hgK : gi K) (hrk : rk K F) (hkt : rkt K) (hp : 0 ≤ F 344 5 ∧ F 344 5 ≤ K 1 6 - 1) (h0 : F 344 9 = 0) (h5 : F 344 5 = 0) (hnm : nrel nm (F 344 14)) (hts : rpn (F 349) (F 344 15) ts) (hpl : rpn (F 350) (F 344 17) pl) (hps : rprd F ps ∧ ps.length = pl.length) (h33 : F 344 33 = 0) (fr lo : Nat) (hfr : 7 ≤ fr) (hlo : 165 ≤ lo) (Fb : fl_N) (hg_Fb : gi Fb) (hf_Fb : fs [(344, 344, 5, 5), (344, 344, 9, 10), (344, 344, 33, 33), (344, 344, 36, 36), (344, 344, 64, 64), (358, 358, 0, 100000), (360, 366, 0, 100000)] F Fb) (hrk_b : rk K Fb) (hbd : ¬ Fb 344 9 = 0) (hp_b : 0 ≤ Fb 344 5 ∧ Fb 344 5 ≤ K 1 6 - 1) (hb : (F 344 9 = 0 → sp_prb K nm ts pl ps = .inl (Fb 344 9, Fb 344 10)) ∧ (¬ F 344 9 = 0 → Fb 344 9 = F 344 9 ∧ Fb 344 10 = F 344 10)) (htb : ∃ l tl, trm Fb 5 2 l tl ∧ l.length = tl.length) : fl_R xi_ms 184 fr lo 184 [(0, .ref 344)] [] (fl_H sh_T G Fb ++ X) (pq_184 G F X K nm ts pl ps) := by
  have hP := (rkt_p hkt hp.1 hp.2 hgK).1
  have hK16 : 0 ≤ K 1 6 ∧ K 1 6 ≤ 601 := gi_g hgK rfl
  have hko := hkt.1
  obtain ⟨lb_, tlb_, htb1_, htb2_⟩ := htb
  refine ga_aload_n (v := .ref 344) hm_184 rfl rfl rfl ?_
  refine ga_getr (b := 358) hm_184 rfl sc_344 rfl ?_
  refine fl_iconst hm_184 rfl ?_
  refine fl_iconst hm_184 rfl ?_
  refine fl_iast (z := 5) (v := 0) hm_184 rfl sc_358 (by omega) (by omega) (by omega) ?_
  refine ga_aload_n (v := .ref 344) hm_184 rfl rfl rfl ?_
  refine fl_iconst hm_184 rfl ?_
  refine fl_bipush hm_184 rfl rfl ?_
  obtain ⟨F21_, q22_⟩ : ∃ Fq_, Fq_ = (fl_u Fb 358 (5 : Int).toNat 0) := ⟨_, rfl⟩
  rw [← q22_]
  have g23_ : gi F21_ := by rw [q22_]; exact gi_u (hg_Fb) rfl (by omega) (by omega)
  have g24_ : fs [(344, 344, 5, 5), (344, 344, 9, 10), (344, 344, 33, 33), (344, 344, 36, 36), (344, 344, 64, 64), (358, 358, 0, 100000), (360, 366, 0, 100000)] F F21_ := by rw [q22_]; exact fs_u (hf_Fb) rfl
  have rk25_ : rk K F21_ := by rw [q22_]; exact rk_u (hrk_b) (by first | decide | exact nc_ rfl | omega) (by first | decide | exact nc_ rfl | omega)
  have e26_ : F21_ 344 5 = Fb 344 5 := by rw [q22_]; exact fl_u_ne (by first | exact nc_ rfl | decide | omega)
  have b27_ : 0 ≤ Fb 344 5 ∧ Fb 344 5 ≤ 600 := gi_g hg_Fb rfl
  refine gVv (nY := 4) (F := 6) (L := 142) (As := [.int (Int32.ofInt 5), .int (Int32.ofInt 40)]) (b := 344) (rest := []) hm_184 rfl hm_175 rfl rfl (fl_ob sc_344) rfl rfl rfl rfl rfl (by omega) (by omega) (mc_175 hG F21_ X g23_ (K) (5) (40) (2) (lb_) (tlb_) (pl) (ps) hgK rk25_ hkt (⟨by omega, by omega⟩) ((by rw [q22_]; exact (trm_u htb1_ (by first | decide | exact nc_ rfl | omega)))) (htb2_) (⟨by omega, by omega⟩) ((by rw [q22_]; exact (rpn_u (rpn_fs hpl hf_Fb (fun _ => (by first | exact fs_c rfl | exact (fs_n (by omega) (fs_n (by omega) (fs_n (by omega) (fs_n (by omega) (fs_n (by omega) (fs_n (by omega) (fs_n (by omega) rfl))))))))) (by first | exact fs_c rfl | exact (fs_n (by omega) (fs_n (by omega) (fs_n (by omega) (fs_n (by omega) (fs_n (by omega) (fs_n (by omega) (fs_n (by omega) rfl))))))))) (by first | decide | exact nc_ rfl | omega) (by first | decide | exact nc_ rfl | omega)))) (⟨(by rw [q22_]; exact (rprd_u (rprd_fs hps.1 hf_Fb (by first | exact fs_rg rfl | exact fun r j hj => (fs_n (by omega) (fs_n (by omega) (fs_n (by omega) (fs_n (by omega) (fs_n (by omega) (fs_n (by omega) (fs_n (by omega) rfl))))))))) (by first | decide | exact nc_ rfl | omega))), hps.2⟩) (⟨by omega, by omega⟩) (Or.inr (by omega)) (by rw [q22_]; exact fl_u_eq)) (fun _ _ h => False.elim h) ?_
  have e29_ : F21_ 344 10 = Fb 344 10 := by rw [q22_]; exact fl_u_ne (by first | exact nc_ rfl | decide | omega)
  have b30_ : 0 ≤ Fb 344 10 ∧ Fb 344 10 ≤ 600 := gi_g hg_Fb rfl
  have e31_ : F21_ 344 9 = Fb 344 9 := by rw [q22_]; exact fl_u_ne (by first | exact nc_ rfl | decide | omega)
  have b32_ : 0 ≤ Fb 344 9 ∧ Fb 344 9 ≤ 5 := gi_g hg_Fb rfl
  rintro A1_ (⟨F36_, hA_, g37_, s38_, c33_, c34_, c35_⟩ | ⟨F42_, hA_, g43_, s44_, c39_, c40_, c41_⟩)
  ·
    subst hA_
    have g45_ : fs [(344, 344, 5, 5), (344, 344, 9, 10), (344, 344, 33, 33), (344, 344, 36, 36), (344, 344, 64, 64), (358, 358, 0, 100000), (360, 366, 0, 100000)] F F36_ := fs_tr g24_ s38_ rfl
    have rk46_ : rk K F36_ := rk_fs rk25_ s38_ (fs_rg rfl) rfl
    try simp only [e26_, e29_, e31_] at c34_
    have c34_k := c34_.2 (by omega)
    clear c34_
    have b47_ : 0 ≤ F36_ 344 9 ∧ F36_ 344 9 ≤ 5 := gi_g g37_ rfl
    have b48_ : 0 ≤ F36_ 344 10 ∧ F36_ 344 10 ≤ 600 := gi_g g37_ rfl
    have b49_ : 0 ≤ F36_ 344 5 ∧ F36_ 344 5 ≤ 600 := gi_g g37_ rfl
    have e50_ : Fb 5 2 = F 5 2 := (hf_Fb 5 2 rfl).trans (rfl)
    have e51_ : F21_ 5 2 = F 5 2 := by rw [q22_]; exact (fl_u_ne (by first | exact nc_ rfl | decide | omega)).trans (e50_)
    have e52_ : F36_ 5 2 = F 5 2 := (s38_ 5 2 rfl).trans (e51_)
    have b53_ : 0 ≤ F 5 2 ∧ F 5 2 ≤ 600 := gi_g hgi rfl
    exact mb_184_198 hG F X hgi K nm ts pl ps hgK hrk hkt hp h0 h5 hnm hts hpl hps h33 fr lo hfr hlo F36_ g37_ g45_ rk46_ (by omega) (⟨by omega, by omega⟩) (⟨fun h0_ => by rw [show F36_ 344 9 = Fb 344 9 by omega, show F36_ 344 10 = Fb 344 10 by omega]; exact hb.1 h0_, fun h0_ => by have h1_ := hb.2 h0_; omega⟩) (⟨lb_, tlb_, (trm_fs (by rw [q22_]; exact (trm_u htb1_ (by first | decide | exact nc_ rfl | omega))) s38_ (by first | exact fs_rg rfl | exact fun r j hj => (fs_n (by omega) (fs_n (by omega) (fs_n (by omega) (fs_n (by omega) rfl)))))), htb2_⟩)
  exfalso; omega
set_option maxHeartbeats 16000000 in
theorem mb_184_178 {G : Nat → Nat → Option Nat} (hG : gg G) (F : fl_N) (X : xi_H) (hgi : gi F) (K : fl_N) (nm : Int) (ts pl : List Int) (ps : List (List Int)) (hgK : gi K) (hrk : rk K F) (hkt : rkt K) (hp : 0 ≤ F 344 5 ∧ F 344 5 ≤ K 1 6 - 1) (h0 : F 344 9 = 0) (h5 : F 344 5 = 0) (hnm : nrel nm (F 344 14)) (hts : rpn (F 349) (F 344 15) ts) (hpl : rpn (F 350) (F 344 17) pl) (hps : rprd F ps ∧ ps.length = pl.length) (h33 : F 344 33 = 0) (fr lo : Nat) (hfr : 7 ≤ fr) (hlo : 165 ≤ lo) (Fb : fl_N) (hg_Fb : gi Fb) (hf_Fb : fs [(344, 344, 5, 5), (344, 344, 9, 10), (344, 344, 33, 33), (344, 344, 36, 36), (344, 344, 64, 64), (358, 358, 0, 100000), (360, 366, 0, 100000)] F Fb) (hrk_b : rk K Fb) (hbd : ¬ Fb 344 9 = 0) (hp_b : 0 ≤ Fb 344 5 ∧ Fb 344 5 ≤ K 1 6 - 1) (hb : (F 344 9 = 0 → sp_prb K nm ts pl ps = .inl (Fb 344 9, Fb 344 10)) ∧ (¬ F 344 9 = 0 → Fb 344 9 = F 344 9 ∧ Fb 344 10 = F 344 10)) (htb : ∃ l tl, trm Fb 5 2 l tl ∧ l.length = tl.length) : fl_R xi_ms 184 fr lo 178 [(0, .ref 344)] [] (fl_H sh_T G Fb ++ X) (pq_184 G F X K nm ts pl ps) := by
  have hP := (rkt_p hkt hp.1 hp.2 hgK).1
  have hK16 : 0 ≤ K 1 6 ∧ K 1 6 ≤ 601 := gi_g hgK rfl
  have hko := hkt.1
  obtain ⟨lb_, tlb_, htb1_, htb2_⟩ := htb
  refine ga_aload_n (v := .ref 344) hm_184 rfl rfl rfl ?_
  refine fl_bipush hm_184 rfl rfl ?_
  have b21_ : 0 ≤ Fb 344 5 ∧ Fb 344 5 ≤ 600 := gi_g hg_Fb rfl
  refine gVv (nY := 2) (F := 2) (L := 44) (As := [.int (Int32.ofInt 17)]) (b := 344) (rest := []) hm_184 rfl hm_55 rfl rfl (fl_ob sc_344) rfl rfl rfl rfl rfl (by omega) (by omega) (mc_55 hG Fb X hg_Fb (K) (17) ([58, 103, 111, 97, 108]) hgK hrk_b hkt (⟨by omega, by omega⟩) (⟨by omega, by omega⟩) (by decide) (kw_17 hrk_b)) (fun _ _ h => False.elim h) ?_
  have b23_ : 0 ≤ Fb 344 10 ∧ Fb 344 10 ≤ 600 := gi_g hg_Fb rfl
  have b24_ : 0 ≤ Fb 344 9 ∧ Fb 344 9 ≤ 5 := gi_g hg_Fb rfl
  rintro A1_ (⟨F28_, hA_, g29_, s30_, c25_, c26_, c27_⟩ | ⟨F34_, hA_, g35_, s36_, c31_, c32_, c33_⟩)
  ·
    subst hA_
    have g37_ : fs [(344, 344, 5, 5), (344, 344, 9, 10), (344, 344, 33, 33), (344, 344, 36, 36), (344, 344, 64, 64), (358, 358, 0, 100000), (360, 366, 0, 100000)] F F28_ := fs_tr hf_Fb s30_ rfl
    have rk38_ : rk K F28_ := rk_fs hrk_b s30_ (fs_rg rfl) rfl
    have c26_k := c26_.2 (by omega)
    clear c26_
    have b39_ : 0 ≤ F28_ 344 9 ∧ F28_ 344 9 ≤ 5 := gi_g g29_ rfl
    have b40_ : 0 ≤ F28_ 344 10 ∧ F28_ 344 10 ≤ 600 := gi_g g29_ rfl
    have b41_ : 0 ≤ F28_ 344 5 ∧ F28_ 344 5 ≤ 600 := gi_g g29_ rfl
    have e42_ : Fb 5 2 = F 5 2 := (hf_Fb 5 2 rfl).trans (rfl)
    have e43_ : F28_ 5 2 = F 5 2 := (s30_ 5 2 rfl).trans (e42_)
    have b44_ : 0 ≤ F 5 2 ∧ F 5 2 ≤ 600 := gi_g hgi rfl
    exact mb_184_184 hG F X hgi K nm ts pl ps hgK hrk hkt hp h0 h5 hnm hts hpl hps h33 fr lo hfr hlo F28_ g29_ g37_ rk38_ (by omega) (⟨by omega, by omega⟩) (⟨fun h0_ => by rw [show F28_ 344 9 = Fb 344 9 by omega, show F28_ 344 10 = Fb 344 10 by omega]; exact hb.1 h0_, fun h0_ => by have h1_ := hb.2 h0_; omega⟩) (⟨lb_, tlb_, (trm_fs htb1_ s30_ (by first | exact fs_rg rfl | exact fun r j hj => (fs_n (by omega) (fs_n (by omega) rfl)))), htb2_⟩)
  exfalso; omega
set_option maxHeartbeats 16000000 in
theorem mb_184_172 {G : Nat → Nat → Option Nat} (hG : gg G) (F : fl_N) (X : xi_H) (hgi : gi F) (K : fl_N) (nm : Int) (ts pl : List Int) (ps : List (List Int)) (hgK : gi K) (hrk : rk K F) (hkt : rkt K) (hp : 0 ≤ F 344 5 ∧ F 344 5 ≤ K 1 6 - 1) (h0 : F 344 9 = 0) (h5 : F 344 5 = 0) (hnm : nrel nm (F 344 14)) (hts : rpn (F 349) (F 344 15) ts) (hpl : rpn (F 350) (F 344 17) pl) (hps : rprd F ps ∧ ps.length = pl.length) (h33 : F 344 33 = 0) (fr lo : Nat) (hfr : 7 ≤ fr) (hlo : 165 ≤ lo) (Fb : fl_N) (hg_Fb : gi Fb) (hf_Fb : fs [(344, 344, 5, 5), (344, 344, 9, 10), (344, 344, 33, 33), (344, 344, 36, 36), (344, 344, 64, 64), (358, 358, 0, 100000), (360, 366, 0, 100000)] F Fb) (hrk_b : rk K Fb) (hbd : ¬ Fb 344 9 = 0) (hp_b : 0 ≤ Fb 344 5 ∧ Fb 344 5 ≤ K 1 6 - 1) (hb : (F 344 9 = 0 → sp_prb K nm ts pl ps = .inl (Fb 344 9, Fb 344 10)) ∧ (¬ F 344 9 = 0 → Fb 344 9 = F 344 9 ∧ Fb 344 10 = F 344 10)) (htb : ∃ l tl, trm Fb 5 2 l tl ∧ l.length = tl.length) : fl_R xi_ms 184 fr lo 172 [(0, .ref 344)] [] (fl_H sh_T G Fb ++ X) (pq_184 G F X K nm ts pl ps) := by
  have hP := (rkt_p hkt hp.1 hp.2 hgK).1
  have hK16 : 0 ≤ K 1 6 ∧ K 1 6 ≤ 601 := gi_g hgK rfl
  have hko := hkt.1
  obtain ⟨lb_, tlb_, htb1_, htb2_⟩ := htb
  refine ga_aload_n (v := .ref 344) hm_184 rfl rfl rfl ?_
  refine fl_bipush hm_184 rfl rfl ?_
  have b21_ : 0 ≤ Fb 344 5 ∧ Fb 344 5 ≤ 600 := gi_g hg_Fb rfl
  refine gVv (nY := 2) (F := 2) (L := 41) (As := [.int (Int32.ofInt 40)]) (b := 344) (rest := []) hm_184 rfl hm_51 rfl rfl (fl_ob sc_344) rfl rfl rfl rfl rfl (by omega) (by omega) (mc_51 hG Fb X hg_Fb (K) (40) (0) hgK hrk_b hkt (⟨by omega, by omega⟩) (by omega) (by omega)) (fun _ _ h => False.elim h) ?_
  have b23_ : 0 ≤ Fb 344 10 ∧ Fb 344 10 ≤ 600 := gi_g hg_Fb rfl
  have b24_ : 0 ≤ Fb 344 9 ∧ Fb 344 9 ≤ 5 := gi_g hg_Fb rfl
  rintro A1_ (⟨F28_, hA_, g29_, s30_, c25_, c26_, c27_⟩ | ⟨F34_, hA_, g35_, s36_, c31_, c32_, c33_⟩)
  ·
    subst hA_
    have g37_ : fs [(344, 344, 5, 5), (344, 344, 9, 10), (344, 344, 33, 33), (344, 344, 36, 36), (344, 344, 64, 64), (358, 358, 0, 100000), (360, 366, 0, 100000)] F F28_ := fs_tr hf_Fb s30_ rfl
    have rk38_ : rk K F28_ := rk_fs hrk_b s30_ (fs_rg rfl) rfl
    have c26_k := c26_.2 (by omega)
    clear c26_
    have b39_ : 0 ≤ F28_ 344 9 ∧ F28_ 344 9 ≤ 5 := gi_g g29_ rfl
    have b40_ : 0 ≤ F28_ 344 10 ∧ F28_ 344 10 ≤ 600 := gi_g g29_ rfl
    have b41_ : 0 ≤ F28_ 344 5 ∧ F28_ 344 5 ≤ 600 := gi_g g29_ rfl
    have e42_ : Fb 5 2 = F 5 2 := (hf_Fb 5 2 rfl).trans (rfl)
    have e43_ : F28_ 5 2 = F 5 2 := (s30_ 5 2 rfl).trans (e42_)
    have b44_ : 0 ≤ F 5 2 ∧ F 5 2 ≤ 600 := gi_g hgi rfl
    exact mb_184_178 hG F X hgi K nm ts pl ps hgK hrk hkt hp h0 h5 hnm hts hpl hps h33 fr lo hfr hlo F28_ g29_ g37_ rk38_ (by omega) (⟨by omega, by omega⟩) (⟨fun h0_ => by rw [show F28_ 344 9 = Fb 344 9 by omega, show F28_ 344 10 = Fb 344 10 by omega]; exact hb.1 h0_, fun h0_ => by have h1_ := hb.2 h0_; omega⟩) (⟨lb_, tlb_, (trm_fs htb1_ s30_ (by first | exact fs_rg rfl | exact fun r j hj => (fs_n (by omega) (fs_n (by omega) rfl)))), htb2_⟩)
  exfalso; omega
set_option maxHeartbeats 16000000 in
theorem mb_184_166 {G : Nat → Nat → Option Nat} (hG : gg G) (F : fl_N) (X : xi_H) (hgi : gi F) (K : fl_N) (nm : Int) (ts pl : List Int) (ps : List (List Int)) (hgK : gi K) (hrk : rk K F) (hkt : rkt K) (hp : 0 ≤ F 344 5 ∧ F 344 5 ≤ K 1 6 - 1) (h0 : F 344 9 = 0) (h5 : F 344 5 = 0) (hnm : nrel nm (F 344 14)) (hts : rpn (F 349) (F 344 15) ts) (hpl : rpn (F 350) (F 344 17) pl) (hps : rprd F ps ∧ ps.length = pl.length) (h33 : F 344 33 = 0) (fr lo : Nat) (hfr : 7 ≤ fr) (hlo : 165 ≤ lo) (Fb : fl_N) (hg_Fb : gi Fb) (hf_Fb : fs [(344, 344, 5, 5), (344, 344, 9, 10), (344, 344, 33, 33), (344, 344, 36, 36), (344, 344, 64, 64), (358, 358, 0, 100000), (360, 366, 0, 100000)] F Fb) (hrk_b : rk K Fb) (hbd : ¬ Fb 344 9 = 0) (hp_b : 0 ≤ Fb 344 5 ∧ Fb 344 5 ≤ K 1 6 - 1) (hb : (F 344 9 = 0 → sp_prb K nm ts pl ps = .inl (Fb 344 9, Fb 344 10)) ∧ (¬ F 344 9 = 0 → Fb 344 9 = F 344 9 ∧ Fb 344 10 = F 344 10)) (htb : ∃ l tl, trm Fb 5 2 l tl ∧ l.length = tl.length) : fl_R xi_ms 184 fr lo 166 [(0, .ref 344)] [] (fl_H sh_T G Fb ++ X) (pq_184 G F X K nm ts pl ps) := by
  have hP := (rkt_p hkt hp.1 hp.2 hgK).1
  have hK16 : 0 ≤ K 1 6 ∧ K 1 6 ≤ 601 := gi_g hgK rfl
  have hko := hkt.1
  obtain ⟨lb_, tlb_, htb1_, htb2_⟩ := htb
  refine ga_aload_n (v := .ref 344) hm_184 rfl rfl rfl ?_
  refine fl_bipush hm_184 rfl rfl ?_
  have b21_ : 0 ≤ Fb 344 5 ∧ Fb 344 5 ≤ 600 := gi_g hg_Fb rfl
  refine gVv (nY := 2) (F := 2) (L := 41) (As := [.int (Int32.ofInt 41)]) (b := 344) (rest := []) hm_184 rfl hm_51 rfl rfl (fl_ob sc_344) rfl rfl rfl rfl rfl (by omega) (by omega) (mc_51 hG Fb X hg_Fb (K) (41) (1) hgK hrk_b hkt (⟨by omega, by omega⟩) (by omega) (by omega)) (fun _ _ h => False.elim h) ?_
  have b23_ : 0 ≤ Fb 344 10 ∧ Fb 344 10 ≤ 600 := gi_g hg_Fb rfl
  have b24_ : 0 ≤ Fb 344 9 ∧ Fb 344 9 ≤ 5 := gi_g hg_Fb rfl
  rintro A1_ (⟨F28_, hA_, g29_, s30_, c25_, c26_, c27_⟩ | ⟨F34_, hA_, g35_, s36_, c31_, c32_, c33_⟩)
  ·
    subst hA_
    have g37_ : fs [(344, 344, 5, 5), (344, 344, 9, 10), (344, 344, 33, 33), (344, 344, 36, 36), (344, 344, 64, 64), (358, 358, 0, 100000), (360, 366, 0, 100000)] F F28_ := fs_tr hf_Fb s30_ rfl
    have rk38_ : rk K F28_ := rk_fs hrk_b s30_ (fs_rg rfl) rfl
    have c26_k := c26_.2 (by omega)
    clear c26_
    have b39_ : 0 ≤ F28_ 344 9 ∧ F28_ 344 9 ≤ 5 := gi_g g29_ rfl
    have b40_ : 0 ≤ F28_ 344 10 ∧ F28_ 344 10 ≤ 600 := gi_g g29_ rfl
    have b41_ : 0 ≤ F28_ 344 5 ∧ F28_ 344 5 ≤ 600 := gi_g g29_ rfl
    have e42_ : Fb 5 2 = F 5 2 := (hf_Fb 5 2 rfl).trans (rfl)
    have e43_ : F28_ 5 2 = F 5 2 := (s30_ 5 2 rfl).trans (e42_)
    have b44_ : 0 ≤ F 5 2 ∧ F 5 2 ≤ 600 := gi_g hgi rfl
    exact mb_184_172 hG F X hgi K nm ts pl ps hgK hrk hkt hp h0 h5 hnm hts hpl hps h33 fr lo hfr hlo F28_ g29_ g37_ rk38_ (by omega) (⟨by omega, by omega⟩) (⟨fun h0_ => by rw [show F28_ 344 9 = Fb 344 9 by omega, show F28_ 344 10 = Fb 344 10 by omega]; exact hb.1 h0_, fun h0_ => by have h1_ := hb.2 h0_; omega⟩) (⟨lb_, tlb_, (trm_fs htb1_ s30_ (by first | exact fs_rg rfl | exact fun r j hj => (fs_n (by omega) (fs_n (by omega) rfl)))), htb2_⟩)
  exfalso; omega
set_option maxHeartbeats 16000000 in
theorem mb_184_162 {G : Nat → Nat → Option Nat} (hG : gg G) (F : fl_N) (X : xi_H) (hgi : gi F) (K : fl_N) (nm : Int) (ts pl : List Int) (ps : List (List Int)) (hgK : gi K) (hrk : rk K F) (hkt : rkt K) (hp : 0 ≤ F 344 5 ∧ F 344 5 ≤ K 1 6 - 1) (h0 : F 344 9 = 0) (h5 : F 344 5 = 0) (hnm : nrel nm (F 344 14)) (hts : rpn (F 349) (F 344 15) ts) (hpl : rpn (F 350) (F 344 17) pl) (hps : rprd F ps ∧ ps.length = pl.length) (h33 : F 344 33 = 0) (fr lo : Nat) (hfr : 7 ≤ fr) (hlo : 165 ≤ lo) (Fb : fl_N) (hg_Fb : gi Fb) (hf_Fb : fs [(344, 344, 5, 5), (344, 344, 9, 10), (344, 344, 33, 33), (344, 344, 36, 36), (344, 344, 64, 64), (358, 358, 0, 100000), (360, 366, 0, 100000)] F Fb) (hrk_b : rk K Fb) (hbd : ¬ Fb 344 9 = 0) (hp_b : 0 ≤ Fb 344 5 ∧ Fb 344 5 ≤ K 1 6 - 1) (hb : (F 344 9 = 0 → sp_prb K nm ts pl ps = .inl (Fb 344 9, Fb 344 10)) ∧ (¬ F 344 9 = 0 → Fb 344 9 = F 344 9 ∧ Fb 344 10 = F 344 10)) (htb : ∃ l tl, trm Fb 5 2 l tl ∧ l.length = tl.length) : fl_R xi_ms 184 fr lo 162 [(0, .ref 344)] [] (fl_H sh_T G Fb ++ X) (pq_184 G F X K nm ts pl ps) := by
  have hP := (rkt_p hkt hp.1 hp.2 hgK).1
  have hK16 : 0 ≤ K 1 6 ∧ K 1 6 ≤ 601 := gi_g hgK rfl
  have hko := hkt.1
  obtain ⟨lb_, tlb_, htb1_, htb2_⟩ := htb
  refine ga_aload_n (v := .ref 344) hm_184 rfl rfl rfl ?_
  have b21_ : 0 ≤ Fb 344 5 ∧ Fb 344 5 ≤ 600 := gi_g hg_Fb rfl
  refine gVv (nY := 2) (F := 5) (L := 117) (As := []) (b := 344) (rest := []) hm_184 rfl hm_178 rfl rfl (fl_ob sc_344) rfl rfl rfl rfl rfl (by omega) (by omega) (mc_178 hG Fb X hg_Fb (K) (lb_) (tlb_) (pl) (ps) hgK hrk_b hkt (⟨by omega, by omega⟩) (htb1_) (htb2_) ((rpn_fs hpl hf_Fb (fun _ => (by first | exact fs_c rfl | exact (fs_n (by omega) (fs_n (by omega) (fs_n (by omega) (fs_n (by omega) (fs_n (by omega) (fs_n (by omega) (fs_n (by omega) rfl))))))))) (by first | exact fs_c rfl | exact (fs_n (by omega) (fs_n (by omega) (fs_n (by omega) (fs_n (by omega) (fs_n (by omega) (fs_n (by omega) (fs_n (by omega) rfl)))))))))) (⟨(rprd_fs hps.1 hf_Fb (by first | exact fs_rg rfl | exact fun r j hj => (fs_n (by omega) (fs_n (by omega) (fs_n (by omega) (fs_n (by omega) (fs_n (by omega) (fs_n (by omega) (fs_n (by omega) rfl))))))))), hps.2⟩)) (fun _ _ h => False.elim h) ?_
  have b23_ : 0 ≤ Fb 344 10 ∧ Fb 344 10 ≤ 600 := gi_g hg_Fb rfl
  have b24_ : 0 ≤ Fb 344 9 ∧ Fb 344 9 ≤ 5 := gi_g hg_Fb rfl
  rintro A1_ (⟨F28_, hA_, g29_, s30_, c25_, c26_, c27_⟩ | ⟨F34_, hA_, g35_, s36_, c31_, c32_, c33_⟩)
  ·
    subst hA_
    have g37_ : fs [(344, 344, 5, 5), (344, 344, 9, 10), (344, 344, 33, 33), (344, 344, 36, 36), (344, 344, 64, 64), (358, 358, 0, 100000), (360, 366, 0, 100000)] F F28_ := fs_tr hf_Fb s30_ rfl
    have rk38_ : rk K F28_ := rk_fs hrk_b s30_ (fs_rg rfl) rfl
    have c26_k := c26_.2 (by omega)
    clear c26_
    have b39_ : 0 ≤ F28_ 344 9 ∧ F28_ 344 9 ≤ 5 := gi_g g29_ rfl
    have b40_ : 0 ≤ F28_ 344 10 ∧ F28_ 344 10 ≤ 600 := gi_g g29_ rfl
    have b41_ : 0 ≤ F28_ 344 5 ∧ F28_ 344 5 ≤ 600 := gi_g g29_ rfl
    have e42_ : Fb 5 2 = F 5 2 := (hf_Fb 5 2 rfl).trans (rfl)
    have e43_ : F28_ 5 2 = F 5 2 := (s30_ 5 2 rfl).trans (e42_)
    have b44_ : 0 ≤ F 5 2 ∧ F 5 2 ≤ 600 := gi_g hgi rfl
    exact mb_184_166 hG F X hgi K nm ts pl ps hgK hrk hkt hp h0 h5 hnm hts hpl hps h33 fr lo hfr hlo F28_ g29_ g37_ rk38_ (by omega) (⟨by omega, by omega⟩) (⟨fun h0_ => by rw [show F28_ 344 9 = Fb 344 9 by omega, show F28_ 344 10 = Fb 344 10 by omega]; exact hb.1 h0_, fun h0_ => by have h1_ := hb.2 h0_; omega⟩) (⟨lb_, tlb_, (trm_fs htb1_ s30_ (by first | exact fs_rg rfl | exact fun r j hj => (fs_n (by omega) (fs_n (by omega) (fs_n (by omega) (fs_n (by omega) rfl)))))), htb2_⟩)
  exfalso; omega
set_option maxHeartbeats 16000000 in
theorem mb_184_156 {G : Nat → Nat → Option Nat} (hG : gg G) (F : fl_N) (X : xi_H) (hgi : gi F) (K : fl_N) (nm : Int) (ts pl : List Int) (ps : List (List Int)) (hgK : gi K) (hrk : rk K F) (hkt : rkt K) (hp : 0 ≤ F 344 5 ∧ F 344 5 ≤ K 1 6 - 1) (h0 : F 344 9 = 0) (h5 : F 344 5 = 0) (hnm : nrel nm (F 344 14)) (hts : rpn (F 349) (F 344 15) ts) (hpl : rpn (F 350) (F 344 17) pl) (hps : rprd F ps ∧ ps.length = pl.length) (h33 : F 344 33 = 0) (fr lo : Nat) (hfr : 7 ≤ fr) (hlo : 165 ≤ lo) (Fb : fl_N) (hg_Fb : gi Fb) (hf_Fb : fs [(344, 344, 5, 5), (344, 344, 9, 10), (344, 344, 33, 33), (344, 344, 36, 36), (344, 344, 64, 64), (358, 358, 0, 100000), (360, 366, 0, 100000)] F Fb) (hrk_b : rk K Fb) (hbd : ¬ Fb 344 9 = 0) (hp_b : 0 ≤ Fb 344 5 ∧ Fb 344 5 ≤ K 1 6 - 1) (hb : (F 344 9 = 0 → sp_prb K nm ts pl ps = .inl (Fb 344 9, Fb 344 10)) ∧ (¬ F 344 9 = 0 → Fb 344 9 = F 344 9 ∧ Fb 344 10 = F 344 10)) (htb : ∃ l tl, trm Fb 5 2 l tl ∧ l.length = tl.length) : fl_R xi_ms 184 fr lo 156 [(0, .ref 344)] [] (fl_H sh_T G Fb ++ X) (pq_184 G F X K nm ts pl ps) := by
  have hP := (rkt_p hkt hp.1 hp.2 hgK).1
  have hK16 : 0 ≤ K 1 6 ∧ K 1 6 ≤ 601 := gi_g hgK rfl
  have hko := hkt.1
  obtain ⟨lb_, tlb_, htb1_, htb2_⟩ := htb
  refine ga_aload_n (v := .ref 344) hm_184 rfl rfl rfl ?_
  refine fl_bipush hm_184 rfl rfl ?_
  have b21_ : 0 ≤ Fb 344 5 ∧ Fb 344 5 ≤ 600 := gi_g hg_Fb rfl
  refine gVv (nY := 2) (F := 2) (L := 44) (As := [.int (Int32.ofInt 16)]) (b := 344) (rest := []) hm_184 rfl hm_55 rfl rfl (fl_ob sc_344) rfl rfl rfl rfl rfl (by omega) (by omega) (mc_55 hG Fb X hg_Fb (K) (16) ([58, 105, 110, 105, 116]) hgK hrk_b hkt (⟨by omega, by omega⟩) (⟨by omega, by omega⟩) (by decide) (kw_16 hrk_b)) (fun _ _ h => False.elim h) ?_
  have b23_ : 0 ≤ Fb 344 10 ∧ Fb 344 10 ≤ 600 := gi_g hg_Fb rfl
  have b24_ : 0 ≤ Fb 344 9 ∧ Fb 344 9 ≤ 5 := gi_g hg_Fb rfl
  rintro A1_ (⟨F28_, hA_, g29_, s30_, c25_, c26_, c27_⟩ | ⟨F34_, hA_, g35_, s36_, c31_, c32_, c33_⟩)
  ·
    subst hA_
    have g37_ : fs [(344, 344, 5, 5), (344, 344, 9, 10), (344, 344, 33, 33), (344, 344, 36, 36), (344, 344, 64, 64), (358, 358, 0, 100000), (360, 366, 0, 100000)] F F28_ := fs_tr hf_Fb s30_ rfl
    have rk38_ : rk K F28_ := rk_fs hrk_b s30_ (fs_rg rfl) rfl
    have c26_k := c26_.2 (by omega)
    clear c26_
    have b39_ : 0 ≤ F28_ 344 9 ∧ F28_ 344 9 ≤ 5 := gi_g g29_ rfl
    have b40_ : 0 ≤ F28_ 344 10 ∧ F28_ 344 10 ≤ 600 := gi_g g29_ rfl
    have b41_ : 0 ≤ F28_ 344 5 ∧ F28_ 344 5 ≤ 600 := gi_g g29_ rfl
    have e42_ : Fb 5 2 = F 5 2 := (hf_Fb 5 2 rfl).trans (rfl)
    have e43_ : F28_ 5 2 = F 5 2 := (s30_ 5 2 rfl).trans (e42_)
    have b44_ : 0 ≤ F 5 2 ∧ F 5 2 ≤ 600 := gi_g hgi rfl
    exact mb_184_162 hG F X hgi K nm ts pl ps hgK hrk hkt hp h0 h5 hnm hts hpl hps h33 fr lo hfr hlo F28_ g29_ g37_ rk38_ (by omega) (⟨by omega, by omega⟩) (⟨fun h0_ => by rw [show F28_ 344 9 = Fb 344 9 by omega, show F28_ 344 10 = Fb 344 10 by omega]; exact hb.1 h0_, fun h0_ => by have h1_ := hb.2 h0_; omega⟩) (⟨lb_, tlb_, (trm_fs htb1_ s30_ (by first | exact fs_rg rfl | exact fun r j hj => (fs_n (by omega) (fs_n (by omega) rfl)))), htb2_⟩)
  exfalso; omega
set_option maxHeartbeats 16000000 in
theorem mb_184_150 {G : Nat → Nat → Option Nat} (hG : gg G) (F : fl_N) (X : xi_H) (hgi : gi F) (K : fl_N) (nm : Int) (ts pl : List Int) (ps : List (List Int)) (hgK : gi K) (hrk : rk K F) (hkt : rkt K) (hp : 0 ≤ F 344 5 ∧ F 344 5 ≤ K 1 6 - 1) (h0 : F 344 9 = 0) (h5 : F 344 5 = 0) (hnm : nrel nm (F 344 14)) (hts : rpn (F 349) (F 344 15) ts) (hpl : rpn (F 350) (F 344 17) pl) (hps : rprd F ps ∧ ps.length = pl.length) (h33 : F 344 33 = 0) (fr lo : Nat) (hfr : 7 ≤ fr) (hlo : 165 ≤ lo) (Fb : fl_N) (hg_Fb : gi Fb) (hf_Fb : fs [(344, 344, 5, 5), (344, 344, 9, 10), (344, 344, 33, 33), (344, 344, 36, 36), (344, 344, 64, 64), (358, 358, 0, 100000), (360, 366, 0, 100000)] F Fb) (hrk_b : rk K Fb) (hbd : ¬ Fb 344 9 = 0) (hp_b : 0 ≤ Fb 344 5 ∧ Fb 344 5 ≤ K 1 6 - 1) (hb : (F 344 9 = 0 → sp_prb K nm ts pl ps = .inl (Fb 344 9, Fb 344 10)) ∧ (¬ F 344 9 = 0 → Fb 344 9 = F 344 9 ∧ Fb 344 10 = F 344 10)) (htb : ∃ l tl, trm Fb 5 2 l tl ∧ l.length = tl.length) : fl_R xi_ms 184 fr lo 150 [(0, .ref 344)] [] (fl_H sh_T G Fb ++ X) (pq_184 G F X K nm ts pl ps) := by
  have hP := (rkt_p hkt hp.1 hp.2 hgK).1
  have hK16 : 0 ≤ K 1 6 ∧ K 1 6 ≤ 601 := gi_g hgK rfl
  have hko := hkt.1
  obtain ⟨lb_, tlb_, htb1_, htb2_⟩ := htb
  refine ga_aload_n (v := .ref 344) hm_184 rfl rfl rfl ?_
  refine fl_bipush hm_184 rfl rfl ?_
  have b21_ : 0 ≤ Fb 344 5 ∧ Fb 344 5 ≤ 600 := gi_g hg_Fb rfl
  refine gVv (nY := 2) (F := 2) (L := 41) (As := [.int (Int32.ofInt 40)]) (b := 344) (rest := []) hm_184 rfl hm_51 rfl rfl (fl_ob sc_344) rfl rfl rfl rfl rfl (by omega) (by omega) (mc_51 hG Fb X hg_Fb (K) (40) (0) hgK hrk_b hkt (⟨by omega, by omega⟩) (by omega) (by omega)) (fun _ _ h => False.elim h) ?_
  have b23_ : 0 ≤ Fb 344 10 ∧ Fb 344 10 ≤ 600 := gi_g hg_Fb rfl
  have b24_ : 0 ≤ Fb 344 9 ∧ Fb 344 9 ≤ 5 := gi_g hg_Fb rfl
  rintro A1_ (⟨F28_, hA_, g29_, s30_, c25_, c26_, c27_⟩ | ⟨F34_, hA_, g35_, s36_, c31_, c32_, c33_⟩)
  ·
    subst hA_
    have g37_ : fs [(344, 344, 5, 5), (344, 344, 9, 10), (344, 344, 33, 33), (344, 344, 36, 36), (344, 344, 64, 64), (358, 358, 0, 100000), (360, 366, 0, 100000)] F F28_ := fs_tr hf_Fb s30_ rfl
    have rk38_ : rk K F28_ := rk_fs hrk_b s30_ (fs_rg rfl) rfl
    have c26_k := c26_.2 (by omega)
    clear c26_
    have b39_ : 0 ≤ F28_ 344 9 ∧ F28_ 344 9 ≤ 5 := gi_g g29_ rfl
    have b40_ : 0 ≤ F28_ 344 10 ∧ F28_ 344 10 ≤ 600 := gi_g g29_ rfl
    have b41_ : 0 ≤ F28_ 344 5 ∧ F28_ 344 5 ≤ 600 := gi_g g29_ rfl
    have e42_ : Fb 5 2 = F 5 2 := (hf_Fb 5 2 rfl).trans (rfl)
    have e43_ : F28_ 5 2 = F 5 2 := (s30_ 5 2 rfl).trans (e42_)
    have b44_ : 0 ≤ F 5 2 ∧ F 5 2 ≤ 600 := gi_g hgi rfl
    exact mb_184_156 hG F X hgi K nm ts pl ps hgK hrk hkt hp h0 h5 hnm hts hpl hps h33 fr lo hfr hlo F28_ g29_ g37_ rk38_ (by omega) (⟨by omega, by omega⟩) (⟨fun h0_ => by rw [show F28_ 344 9 = Fb 344 9 by omega, show F28_ 344 10 = Fb 344 10 by omega]; exact hb.1 h0_, fun h0_ => by have h1_ := hb.2 h0_; omega⟩) (⟨lb_, tlb_, (trm_fs htb1_ s30_ (by first | exact fs_rg rfl | exact fun r j hj => (fs_n (by omega) (fs_n (by omega) rfl)))), htb2_⟩)
  exfalso; omega
set_option maxHeartbeats 16000000 in
theorem mb_184_139 {G : Nat → Nat → Option Nat} (hG : gg G) (F : fl_N) (X : xi_H) (hgi : gi F) (K : fl_N) (nm : Int) (ts pl : List Int) (ps : List (List Int)) (hgK : gi K) (hrk : rk K F) (hkt : rkt K) (hp : 0 ≤ F 344 5 ∧ F 344 5 ≤ K 1 6 - 1) (h0 : F 344 9 = 0) (h5 : F 344 5 = 0) (hnm : nrel nm (F 344 14)) (hts : rpn (F 349) (F 344 15) ts) (hpl : rpn (F 350) (F 344 17) pl) (hps : rprd F ps ∧ ps.length = pl.length) (h33 : F 344 33 = 0) (fr lo : Nat) (hfr : 7 ≤ fr) (hlo : 165 ≤ lo) (Fb : fl_N) (hg_Fb : gi Fb) (hf_Fb : fs [(344, 344, 5, 5), (344, 344, 9, 10), (344, 344, 33, 33), (344, 344, 36, 36), (344, 344, 64, 64), (358, 358, 0, 100000), (360, 366, 0, 100000)] F Fb) (hrk_b : rk K Fb) (hbd : ¬ Fb 344 9 = 0) (hp_b : 0 ≤ Fb 344 5 ∧ Fb 344 5 ≤ K 1 6 - 1) (hb : (F 344 9 = 0 → sp_prb K nm ts pl ps = .inl (Fb 344 9, Fb 344 10)) ∧ (¬ F 344 9 = 0 → Fb 344 9 = F 344 9 ∧ Fb 344 10 = F 344 10)) (htb : ∃ l tl, trm Fb 5 2 l tl ∧ l.length = tl.length) : fl_R xi_ms 184 fr lo 139 [(0, .ref 344)] [] (fl_H sh_T G Fb ++ X) (pq_184 G F X K nm ts pl ps) := by
  have hP := (rkt_p hkt hp.1 hp.2 hgK).1
  have hK16 : 0 ≤ K 1 6 ∧ K 1 6 ≤ 601 := gi_g hgK rfl
  have hko := hkt.1
  obtain ⟨lb_, tlb_, htb1_, htb2_⟩ := htb
  refine ga_aload_n (v := .ref 344) hm_184 rfl rfl rfl ?_
  refine gIi (nY := 1) (F := 0) (L := 0) (As := []) (b := 344) (rest := []) hm_184 rfl hm_59 rfl rfl (fl_ob sc_344) rfl rfl rfl rfl rfl (by omega) (by omega) ?_
  intro f21_ l22_ h23_ h24_
  show fl_R xi_ms 59 f21_ l22_ 0 [(0, .ref 344)] [] _ _
  refine ga_aload_n (v := .ref 344) hm_59 rfl rfl rfl ?_
  have b25_ : 0 ≤ Fb 344 9 ∧ Fb 344 9 ≤ 5 := gi_g hg_Fb rfl
  refine ga_geti (z := Fb 344 9) hm_59 rfl sc_344 rfl (rfl) ?_
  refine fl_if_le (a := Fb 344 9) hm_59 rfl ⟨by omega, by omega⟩ (fun h26_ => ?_) (fun h27_ => ?_)
  · exfalso; omega
  refine fl_iconst hm_59 rfl ?_
  refine fl_goto hm_59 rfl ?_
  refine gr_i hm_59 rfl rfl (ga_nb (by omega)) ?_
  clear h23_ h24_ f21_ l22_
  refine fl_if_ne hm_184 rfl ⟨by omega, by omega⟩ (fun _ => ?_) (fun h => absurd (by omega) h)
  have b28_ : 0 ≤ Fb 344 10 ∧ Fb 344 10 ≤ 600 := gi_g hg_Fb rfl
  have b29_ : 0 ≤ Fb 344 5 ∧ Fb 344 5 ≤ 600 := gi_g hg_Fb rfl
  have e30_ : Fb 5 2 = F 5 2 := (hf_Fb 5 2 rfl).trans (rfl)
  have b31_ : 0 ≤ F 5 2 ∧ F 5 2 ≤ 600 := gi_g hgi rfl
  exact mb_184_150 hG F X hgi K nm ts pl ps hgK hrk hkt hp h0 h5 hnm hts hpl hps h33 fr lo hfr hlo Fb hg_Fb hf_Fb hrk_b (by omega) (⟨by omega, by omega⟩) (hb) (⟨lb_, tlb_, htb1_, htb2_⟩)
set_option maxHeartbeats 16000000 in
theorem mb_184_98 {G : Nat → Nat → Option Nat} (hG : gg G) (F : fl_N) (X : xi_H) (hgi : gi F) (K : fl_N) (nm : Int) (ts pl : List Int) (ps : List (List Int)) (hgK : gi K) (hrk : rk K F) (hkt : rkt K) (hp : 0 ≤ F 344 5 ∧ F 344 5 ≤ K 1 6 - 1) (h0 : F 344 9 = 0) (h5 : F 344 5 = 0) (hnm : nrel nm (F 344 14)) (hts : rpn (F 349) (F 344 15) ts) (hpl : rpn (F 350) (F 344 17) pl) (hps : rprd F ps ∧ ps.length = pl.length) (h33 : F 344 33 = 0) (fr lo : Nat) (hfr : 7 ≤ fr) (hlo : 165 ≤ lo) (Fb : fl_N) (hg_Fb : gi Fb) (hf_Fb : fs [(344, 344, 5, 5), (344, 344, 9, 10), (344, 344, 33, 33), (344, 344, 36, 36), (344, 344, 64, 64), (358, 358, 0, 100000), (360, 366, 0, 100000)] F Fb) (hrk_b : rk K Fb) (hbd : ¬ Fb 344 9 = 0) (hp_b : 0 ≤ Fb 344 5 ∧ Fb 344 5 ≤ K 1 6 - 1) (hb : (F 344 9 = 0 → sp_prb K nm ts pl ps = .inl (Fb 344 9, Fb 344 10)) ∧ (¬ F 344 9 = 0 → Fb 344 9 = F 344 9 ∧ Fb 344 10 = F 344 10)) (htb : ∃ l tl, trm Fb 5 2 l tl ∧ l.length = tl.length) : fl_R xi_ms 184 fr lo 98 [(0, .ref 344)] [] (fl_H sh_T G Fb ++ X) (pq_184 G F X K nm ts pl ps) := by
  have hP := (rkt_p hkt hp.1 hp.2 hgK).1
  have hK16 : 0 ≤ K 1 6 ∧ K 1 6 ≤ 601 := gi_g hgK rfl
  have hko := hkt.1
  obtain ⟨lb_, tlb_, htb1_, htb2_⟩ := htb
  refine fl_iconst hm_184 rfl ?_
  refine ga_istore_n (lv2 := [(3, .int (Int32.ofInt 1)), (0, .ref 344)]) hm_184 rfl (Nat.le_of_ble_eq_true rfl) rfl ?_
  refine ga_iload_n (z := 1) hm_184 rfl rfl ?_
  refine fl_if_eq hm_184 rfl ⟨by omega, by omega⟩ (fun h => absurd h (by omega)) (fun _ => ?_)
  refine ga_aload_n (v := .ref 344) hm_184 rfl rfl rfl ?_
  refine gIi (nY := 1) (F := 0) (L := 0) (As := []) (b := 344) (rest := []) hm_184 rfl hm_59 rfl rfl (fl_ob sc_344) rfl rfl rfl rfl rfl (by omega) (by omega) ?_
  intro f21_ l22_ h23_ h24_
  show fl_R xi_ms 59 f21_ l22_ 0 [(0, .ref 344)] [] _ _
  refine ga_aload_n (v := .ref 344) hm_59 rfl rfl rfl ?_
  have b25_ : 0 ≤ Fb 344 9 ∧ Fb 344 9 ≤ 5 := gi_g hg_Fb rfl
  refine ga_geti (z := Fb 344 9) hm_59 rfl sc_344 rfl (rfl) ?_
  refine fl_if_le (a := Fb 344 9) hm_59 rfl ⟨by omega, by omega⟩ (fun h26_ => ?_) (fun h27_ => ?_)
  · exfalso; omega
  refine fl_iconst hm_59 rfl ?_
  refine fl_goto hm_59 rfl ?_
  refine gr_i hm_59 rfl rfl (ga_nb (by omega)) ?_
  clear h23_ h24_ f21_ l22_
  refine fl_if_ne hm_184 rfl ⟨by omega, by omega⟩ (fun _ => ?_) (fun h => absurd (by omega) h)
  refine ga_aload_n (v := .ref 344) hm_184 rfl rfl rfl ?_
  refine fl_bipush hm_184 rfl rfl ?_
  have b28_ : 0 ≤ Fb 344 5 ∧ Fb 344 5 ≤ 600 := gi_g hg_Fb rfl
  refine gVv (nY := 2) (F := 2) (L := 41) (As := [.int (Int32.ofInt 41)]) (b := 344) (rest := []) hm_184 rfl hm_51 rfl rfl (fl_ob sc_344) rfl rfl rfl rfl rfl (by omega) (by omega) (mc_51 hG Fb X hg_Fb (K) (41) (1) hgK hrk_b hkt (⟨by omega, by omega⟩) (by omega) (by omega)) (fun _ _ h => False.elim h) ?_
  have b30_ : 0 ≤ Fb 344 10 ∧ Fb 344 10 ≤ 600 := gi_g hg_Fb rfl
  rintro A1_ (⟨F34_, hA_, g35_, s36_, c31_, c32_, c33_⟩ | ⟨F40_, hA_, g41_, s42_, c37_, c38_, c39_⟩)
  ·
    subst hA_
    have g43_ : fs [(344, 344, 5, 5), (344, 344, 9, 10), (344, 344, 33, 33), (344, 344, 36, 36), (344, 344, 64, 64), (358, 358, 0, 100000), (360, 366, 0, 100000)] F F34_ := fs_tr hf_Fb s36_ rfl
    have rk44_ : rk K F34_ := rk_fs hrk_b s36_ (fs_rg rfl) rfl
    have c32_k := c32_.2 (by omega)
    clear c32_
    have b45_ : 0 ≤ F34_ 344 9 ∧ F34_ 344 9 ≤ 5 := gi_g g35_ rfl
    have b46_ : 0 ≤ F34_ 344 10 ∧ F34_ 344 10 ≤ 600 := gi_g g35_ rfl
    have b47_ : 0 ≤ F34_ 344 5 ∧ F34_ 344 5 ≤ 600 := gi_g g35_ rfl
    have e48_ : Fb 5 2 = F 5 2 := (hf_Fb 5 2 rfl).trans (rfl)
    have e49_ : F34_ 5 2 = F 5 2 := (s36_ 5 2 rfl).trans (e48_)
    have b50_ : 0 ≤ F 5 2 ∧ F 5 2 ≤ 600 := gi_g hgi rfl
    exact fl_R_sub (lv' := [(0, .ref 344)]) rfl rfl (mb_184_139 hG F X hgi K nm ts pl ps hgK hrk hkt hp h0 h5 hnm hts hpl hps h33 fr lo hfr hlo F34_ g35_ g43_ rk44_ (by omega) (⟨by omega, by omega⟩) (⟨fun h0_ => by rw [show F34_ 344 9 = Fb 344 9 by omega, show F34_ 344 10 = Fb 344 10 by omega]; exact hb.1 h0_, fun h0_ => by have h1_ := hb.2 h0_; omega⟩) (⟨lb_, tlb_, (trm_fs htb1_ s36_ (by first | exact fs_rg rfl | exact fun r j hj => (fs_n (by omega) (fs_n (by omega) rfl)))), htb2_⟩))
  exfalso; omega
set_option maxHeartbeats 16000000 in
theorem mb_184_92 {G : Nat → Nat → Option Nat} (hG : gg G) (F : fl_N) (X : xi_H) (hgi : gi F) (K : fl_N) (nm : Int) (ts pl : List Int) (ps : List (List Int)) (hgK : gi K) (hrk : rk K F) (hkt : rkt K) (hp : 0 ≤ F 344 5 ∧ F 344 5 ≤ K 1 6 - 1) (h0 : F 344 9 = 0) (h5 : F 344 5 = 0) (hnm : nrel nm (F 344 14)) (hts : rpn (F 349) (F 344 15) ts) (hpl : rpn (F 350) (F 344 17) pl) (hps : rprd F ps ∧ ps.length = pl.length) (h33 : F 344 33 = 0) (fr lo : Nat) (hfr : 7 ≤ fr) (hlo : 165 ≤ lo) (Fb : fl_N) (hg_Fb : gi Fb) (hf_Fb : fs [(344, 344, 5, 5), (344, 344, 9, 10), (344, 344, 33, 33), (344, 344, 36, 36), (344, 344, 64, 64), (358, 358, 0, 100000), (360, 366, 0, 100000)] F Fb) (hrk_b : rk K Fb) (hbd : ¬ Fb 344 9 = 0) (hp_b : 0 ≤ Fb 344 5 ∧ Fb 344 5 ≤ K 1 6 - 1) (hb : (F 344 9 = 0 → sp_prb K nm ts pl ps = .inl (Fb 344 9, Fb 344 10)) ∧ (¬ F 344 9 = 0 → Fb 344 9 = F 344 9 ∧ Fb 344 10 = F 344 10)) (htb : ∃ l tl, trm Fb 5 2 l tl ∧ l.length = tl.length) : fl_R xi_ms 184 fr lo 92 [(0, .ref 344)] [] (fl_H sh_T G Fb ++ X) (pq_184 G F X K nm ts pl ps) := by
  have hP := (rkt_p hkt hp.1 hp.2 hgK).1
  have hK16 : 0 ≤ K 1 6 ∧ K 1 6 ≤ 601 := gi_g hgK rfl
  have hko := hkt.1
  obtain ⟨lb_, tlb_, htb1_, htb2_⟩ := htb
  refine ga_aload_n (v := .ref 344) hm_184 rfl rfl rfl ?_
  refine fl_bipush hm_184 rfl rfl ?_
  have b21_ : 0 ≤ Fb 344 5 ∧ Fb 344 5 ≤ 600 := gi_g hg_Fb rfl
  refine gVv (nY := 2) (F := 2) (L := 44) (As := [.int (Int32.ofInt 15)]) (b := 344) (rest := []) hm_184 rfl hm_55 rfl rfl (fl_ob sc_344) rfl rfl rfl rfl rfl (by omega) (by omega) (mc_55 hG Fb X hg_Fb (K) (15) ([58, 111, 98, 106, 101, 99, 116, 115]) hgK hrk_b hkt (⟨by omega, by omega⟩) (⟨by omega, by omega⟩) (by decide) (kw_15 hrk_b)) (fun _ _ h => False.elim h) ?_
  have b23_ : 0 ≤ Fb 344 10 ∧ Fb 344 10 ≤ 600 := gi_g hg_Fb rfl
  have b24_ : 0 ≤ Fb 344 9 ∧ Fb 344 9 ≤ 5 := gi_g hg_Fb rfl
  rintro A1_ (⟨F28_, hA_, g29_, s30_, c25_, c26_, c27_⟩ | ⟨F34_, hA_, g35_, s36_, c31_, c32_, c33_⟩)
  ·
    subst hA_
    have g37_ : fs [(344, 344, 5, 5), (344, 344, 9, 10), (344, 344, 33, 33), (344, 344, 36, 36), (344, 344, 64, 64), (358, 358, 0, 100000), (360, 366, 0, 100000)] F F28_ := fs_tr hf_Fb s30_ rfl
    have rk38_ : rk K F28_ := rk_fs hrk_b s30_ (fs_rg rfl) rfl
    have c26_k := c26_.2 (by omega)
    clear c26_
    have b39_ : 0 ≤ F28_ 344 9 ∧ F28_ 344 9 ≤ 5 := gi_g g29_ rfl
    have b40_ : 0 ≤ F28_ 344 10 ∧ F28_ 344 10 ≤ 600 := gi_g g29_ rfl
    have b41_ : 0 ≤ F28_ 344 5 ∧ F28_ 344 5 ≤ 600 := gi_g g29_ rfl
    have e42_ : Fb 5 2 = F 5 2 := (hf_Fb 5 2 rfl).trans (rfl)
    have e43_ : F28_ 5 2 = F 5 2 := (s30_ 5 2 rfl).trans (e42_)
    have b44_ : 0 ≤ F 5 2 ∧ F 5 2 ≤ 600 := gi_g hgi rfl
    exact mb_184_98 hG F X hgi K nm ts pl ps hgK hrk hkt hp h0 h5 hnm hts hpl hps h33 fr lo hfr hlo F28_ g29_ g37_ rk38_ (by omega) (⟨by omega, by omega⟩) (⟨fun h0_ => by rw [show F28_ 344 9 = Fb 344 9 by omega, show F28_ 344 10 = Fb 344 10 by omega]; exact hb.1 h0_, fun h0_ => by have h1_ := hb.2 h0_; omega⟩) (⟨lb_, tlb_, (trm_fs htb1_ s30_ (by first | exact fs_rg rfl | exact fun r j hj => (fs_n (by omega) (fs_n (by omega) rfl)))), htb2_⟩)
  exfalso; omega
set_option maxHeartbeats 16000000 in
theorem mb_184_86 {G : Nat → Nat → Option Nat} (hG : gg G) (F : fl_N) (X : xi_H) (hgi : gi F) (K : fl_N) (nm : Int) (ts pl : List Int) (ps : List (List Int)) (hgK : gi K) (hrk : rk K F) (hkt : rkt K) (hp : 0 ≤ F 344 5 ∧ F 344 5 ≤ K 1 6 - 1) (h0 : F 344 9 = 0) (h5 : F 344 5 = 0) (hnm : nrel nm (F 344 14)) (hts : rpn (F 349) (F 344 15) ts) (hpl : rpn (F 350) (F 344 17) pl) (hps : rprd F ps ∧ ps.length = pl.length) (h33 : F 344 33 = 0) (fr lo : Nat) (hfr : 7 ≤ fr) (hlo : 165 ≤ lo) (Fb : fl_N) (hg_Fb : gi Fb) (hf_Fb : fs [(344, 344, 5, 5), (344, 344, 9, 10), (344, 344, 33, 33), (344, 344, 36, 36), (344, 344, 64, 64), (358, 358, 0, 100000), (360, 366, 0, 100000)] F Fb) (hrk_b : rk K Fb) (hbd : ¬ Fb 344 9 = 0) (hp_b : 0 ≤ Fb 344 5 ∧ Fb 344 5 ≤ K 1 6 - 1) (hb : (F 344 9 = 0 → sp_prb K nm ts pl ps = .inl (Fb 344 9, Fb 344 10)) ∧ (¬ F 344 9 = 0 → Fb 344 9 = F 344 9 ∧ Fb 344 10 = F 344 10)) (htb : ∃ l tl, trm Fb 5 2 l tl ∧ l.length = tl.length) : fl_R xi_ms 184 fr lo 86 [(0, .ref 344)] [] (fl_H sh_T G Fb ++ X) (pq_184 G F X K nm ts pl ps) := by
  have hP := (rkt_p hkt hp.1 hp.2 hgK).1
  have hK16 : 0 ≤ K 1 6 ∧ K 1 6 ≤ 601 := gi_g hgK rfl
  have hko := hkt.1
  obtain ⟨lb_, tlb_, htb1_, htb2_⟩ := htb
  refine ga_aload_n (v := .ref 344) hm_184 rfl rfl rfl ?_
  refine fl_bipush hm_184 rfl rfl ?_
  have b21_ : 0 ≤ Fb 344 5 ∧ Fb 344 5 ≤ 600 := gi_g hg_Fb rfl
  refine gVv (nY := 2) (F := 2) (L := 41) (As := [.int (Int32.ofInt 40)]) (b := 344) (rest := []) hm_184 rfl hm_51 rfl rfl (fl_ob sc_344) rfl rfl rfl rfl rfl (by omega) (by omega) (mc_51 hG Fb X hg_Fb (K) (40) (0) hgK hrk_b hkt (⟨by omega, by omega⟩) (by omega) (by omega)) (fun _ _ h => False.elim h) ?_
  have b23_ : 0 ≤ Fb 344 10 ∧ Fb 344 10 ≤ 600 := gi_g hg_Fb rfl
  have b24_ : 0 ≤ Fb 344 9 ∧ Fb 344 9 ≤ 5 := gi_g hg_Fb rfl
  rintro A1_ (⟨F28_, hA_, g29_, s30_, c25_, c26_, c27_⟩ | ⟨F34_, hA_, g35_, s36_, c31_, c32_, c33_⟩)
  ·
    subst hA_
    have g37_ : fs [(344, 344, 5, 5), (344, 344, 9, 10), (344, 344, 33, 33), (344, 344, 36, 36), (344, 344, 64, 64), (358, 358, 0, 100000), (360, 366, 0, 100000)] F F28_ := fs_tr hf_Fb s30_ rfl
    have rk38_ : rk K F28_ := rk_fs hrk_b s30_ (fs_rg rfl) rfl
    have c26_k := c26_.2 (by omega)
    clear c26_
    have b39_ : 0 ≤ F28_ 344 9 ∧ F28_ 344 9 ≤ 5 := gi_g g29_ rfl
    have b40_ : 0 ≤ F28_ 344 10 ∧ F28_ 344 10 ≤ 600 := gi_g g29_ rfl
    have b41_ : 0 ≤ F28_ 344 5 ∧ F28_ 344 5 ≤ 600 := gi_g g29_ rfl
    have e42_ : Fb 5 2 = F 5 2 := (hf_Fb 5 2 rfl).trans (rfl)
    have e43_ : F28_ 5 2 = F 5 2 := (s30_ 5 2 rfl).trans (e42_)
    have b44_ : 0 ≤ F 5 2 ∧ F 5 2 ≤ 600 := gi_g hgi rfl
    exact mb_184_92 hG F X hgi K nm ts pl ps hgK hrk hkt hp h0 h5 hnm hts hpl hps h33 fr lo hfr hlo F28_ g29_ g37_ rk38_ (by omega) (⟨by omega, by omega⟩) (⟨fun h0_ => by rw [show F28_ 344 9 = Fb 344 9 by omega, show F28_ 344 10 = Fb 344 10 by omega]; exact hb.1 h0_, fun h0_ => by have h1_ := hb.2 h0_; omega⟩) (⟨lb_, tlb_, (trm_fs htb1_ s30_ (by first | exact fs_rg rfl | exact fun r j hj => (fs_n (by omega) (fs_n (by omega) rfl)))), htb2_⟩)
  exfalso; omega
set_option maxHeartbeats 16000000 in
theorem mb_184_76 {G : Nat → Nat → Option Nat} (hG : gg G) (F : fl_N) (X : xi_H) (hgi : gi F) (K : fl_N) (nm : Int) (ts pl : List Int) (ps : List (List Int)) (hgK : gi K) (hrk : rk K F) (hkt : rkt K) (hp : 0 ≤ F 344 5 ∧ F 344 5 ≤ K 1 6 - 1) (h0 : F 344 9 = 0) (h5 : F 344 5 = 0) (hnm : nrel nm (F 344 14)) (hts : rpn (F 349) (F 344 15) ts) (hpl : rpn (F 350) (F 344 17) pl) (hps : rprd F ps ∧ ps.length = pl.length) (h33 : F 344 33 = 0) (fr lo : Nat) (hfr : 7 ≤ fr) (hlo : 165 ≤ lo) (Fb : fl_N) (hg_Fb : gi Fb) (hf_Fb : fs [(344, 344, 5, 5), (344, 344, 9, 10), (344, 344, 33, 33), (344, 344, 36, 36), (344, 344, 64, 64), (358, 358, 0, 100000), (360, 366, 0, 100000)] F Fb) (hrk_b : rk K Fb) (hbd : ¬ Fb 344 9 = 0) (hp_b : 0 ≤ Fb 344 5 ∧ Fb 344 5 ≤ K 1 6 - 1) (hb : (F 344 9 = 0 → sp_prb K nm ts pl ps = .inl (Fb 344 9, Fb 344 10)) ∧ (¬ F 344 9 = 0 → Fb 344 9 = F 344 9 ∧ Fb 344 10 = F 344 10)) (htb : ∃ l tl, trm Fb 5 2 l tl ∧ l.length = tl.length) : fl_R xi_ms 184 fr lo 76 [(0, .ref 344)] [] (fl_H sh_T G Fb ++ X) (pq_184 G F X K nm ts pl ps) := by
  have hP := (rkt_p hkt hp.1 hp.2 hgK).1
  have hK16 : 0 ≤ K 1 6 ∧ K 1 6 ≤ 601 := gi_g hgK rfl
  have hko := hkt.1
  obtain ⟨lb_, tlb_, htb1_, htb2_⟩ := htb
  refine ga_aload_n (v := .ref 344) hm_184 rfl rfl rfl ?_
  refine gIv (nY := 1) (F := 1) (L := 20) (As := []) (b := 344) (rest := []) hm_184 rfl hm_61 rfl rfl (fl_ob sc_344) rfl rfl rfl rfl rfl (by omega) (by omega) ?_
  intro f21_ l22_ h23_ h24_
  show fl_R xi_ms 61 f21_ l22_ 0 [(0, .ref 344)] [] _ _
  refine ga_aload_n (v := .ref 344) hm_61 rfl rfl rfl ?_
  refine ga_dup hm_61 rfl rfl ?_
  have b25_ : 0 ≤ Fb 344 5 ∧ Fb 344 5 ≤ 600 := gi_g hg_Fb rfl
  refine ga_geti (z := Fb 344 5) hm_61 rfl sc_344 rfl (rfl) ?_
  refine ga_aload_n (v := .ref 344) hm_61 rfl rfl rfl ?_
  refine gIi (nY := 1) (F := 0) (L := 0) (As := []) (b := 344) (rest := [.int (Int32.ofInt (Fb 344 5)), .ref 344]) hm_61 rfl hm_59 rfl rfl (fl_ob sc_344) rfl rfl rfl rfl rfl (by omega) (by omega) ?_
  intro f26_ l27_ h28_ h29_
  show fl_R xi_ms 59 f26_ l27_ 0 [(0, .ref 344)] [] _ _
  refine ga_aload_n (v := .ref 344) hm_59 rfl rfl rfl ?_
  have b30_ : 0 ≤ Fb 344 9 ∧ Fb 344 9 ≤ 5 := gi_g hg_Fb rfl
  refine ga_geti (z := Fb 344 9) hm_59 rfl sc_344 rfl (rfl) ?_
  refine fl_if_le (a := Fb 344 9) hm_59 rfl ⟨by omega, by omega⟩ (fun h31_ => ?_) (fun h32_ => ?_)
  · exfalso; omega
  refine fl_iconst hm_59 rfl ?_
  refine fl_goto hm_59 rfl ?_
  refine gr_i hm_59 rfl rfl (ga_nb (by omega)) ?_
  clear h28_ h29_ f26_ l27_
  refine fl_if_eq hm_61 rfl ⟨by omega, by omega⟩ (fun h => absurd h (by omega)) (fun _ => ?_)
  refine fl_iconst hm_61 rfl ?_
  refine fl_goto hm_61 rfl ?_
  refine ga_iadd (a := Fb 344 5) (b := 0) (c := Fb 344 5) hm_61 rfl (by omega) ?_
  refine ga_puti (z := Fb 344 5) hm_61 rfl sc_344 rfl rfl ?_
  refine gr_v hm_61 rfl rfl ?_
  clear h23_ h24_ f21_ l22_
  refine ga_aload_n (v := .ref 344) hm_184 rfl rfl rfl ?_
  refine fl_bipush hm_184 rfl rfl ?_
  obtain ⟨F33_, q34_⟩ : ∃ Fq_, Fq_ = (fl_u Fb 344 5 (Fb 344 5)) := ⟨_, rfl⟩
  rw [← q34_]
  have g35_ : gi F33_ := by rw [q34_]; exact gi_u (hg_Fb) rfl (by omega) (by omega)
  have g36_ : fs [(344, 344, 5, 5), (344, 344, 9, 10), (344, 344, 33, 33), (344, 344, 36, 36), (344, 344, 64, 64), (358, 358, 0, 100000), (360, 366, 0, 100000)] F F33_ := by rw [q34_]; exact fs_u (hf_Fb) rfl
  have rk37_ : rk K F33_ := by rw [q34_]; exact rk_u (hrk_b) (by first | decide | exact nc_ rfl | omega) (by first | decide | exact nc_ rfl | omega)
  have e38_ : F33_ 344 5 = Fb 344 5 := by rw [q34_]; exact fl_u_eq
  refine gVv (nY := 2) (F := 2) (L := 41) (As := [.int (Int32.ofInt 41)]) (b := 344) (rest := []) hm_184 rfl hm_51 rfl rfl (fl_ob sc_344) rfl rfl rfl rfl rfl (by omega) (by omega) (mc_51 hG F33_ X g35_ (K) (41) (1) hgK rk37_ hkt (⟨by omega, by omega⟩) (by omega) (by omega)) (fun _ _ h => False.elim h) ?_
  have e40_ : F33_ 344 10 = Fb 344 10 := by rw [q34_]; exact fl_u_ne (by first | exact nc_ rfl | decide | omega)
  have b41_ : 0 ≤ Fb 344 10 ∧ Fb 344 10 ≤ 600 := gi_g hg_Fb rfl
  have e42_ : F33_ 344 9 = Fb 344 9 := by rw [q34_]; exact fl_u_ne (by first | exact nc_ rfl | decide | omega)
  rintro A1_ (⟨F46_, hA_, g47_, s48_, c43_, c44_, c45_⟩ | ⟨F52_, hA_, g53_, s54_, c49_, c50_, c51_⟩)
  ·
    subst hA_
    have g55_ : fs [(344, 344, 5, 5), (344, 344, 9, 10), (344, 344, 33, 33), (344, 344, 36, 36), (344, 344, 64, 64), (358, 358, 0, 100000), (360, 366, 0, 100000)] F F46_ := fs_tr g36_ s48_ rfl
    have rk56_ : rk K F46_ := rk_fs rk37_ s48_ (fs_rg rfl) rfl
    try simp only [e38_, e40_, e42_] at c44_
    have c44_k := c44_.2 (by omega)
    clear c44_
    have b57_ : 0 ≤ F46_ 344 9 ∧ F46_ 344 9 ≤ 5 := gi_g g47_ rfl
    have b58_ : 0 ≤ F46_ 344 10 ∧ F46_ 344 10 ≤ 600 := gi_g g47_ rfl
    have b59_ : 0 ≤ F46_ 344 5 ∧ F46_ 344 5 ≤ 600 := gi_g g47_ rfl
    have e60_ : Fb 5 2 = F 5 2 := (hf_Fb 5 2 rfl).trans (rfl)
    have e61_ : F33_ 5 2 = F 5 2 := by rw [q34_]; exact (fl_u_ne (by first | exact nc_ rfl | decide | omega)).trans (e60_)
    have e62_ : F46_ 5 2 = F 5 2 := (s48_ 5 2 rfl).trans (e61_)
    have b63_ : 0 ≤ F 5 2 ∧ F 5 2 ≤ 600 := gi_g hgi rfl
    exact mb_184_86 hG F X hgi K nm ts pl ps hgK hrk hkt hp h0 h5 hnm hts hpl hps h33 fr lo hfr hlo F46_ g47_ g55_ rk56_ (by omega) (⟨by omega, by omega⟩) (⟨fun h0_ => by rw [show F46_ 344 9 = Fb 344 9 by omega, show F46_ 344 10 = Fb 344 10 by omega]; exact hb.1 h0_, fun h0_ => by have h1_ := hb.2 h0_; omega⟩) (⟨lb_, tlb_, (trm_fs (by rw [q34_]; exact (trm_u htb1_ (by first | decide | exact nc_ rfl | omega))) s48_ (by first | exact fs_rg rfl | exact fun r j hj => (fs_n (by omega) (fs_n (by omega) rfl)))), htb2_⟩)
  exfalso; omega
set_option maxHeartbeats 16000000 in
theorem mb_184_50 {G : Nat → Nat → Option Nat} (hG : gg G) (F : fl_N) (X : xi_H) (hgi : gi F) (K : fl_N) (nm : Int) (ts pl : List Int) (ps : List (List Int)) (hgK : gi K) (hrk : rk K F) (hkt : rkt K) (hp : 0 ≤ F 344 5 ∧ F 344 5 ≤ K 1 6 - 1) (h0 : F 344 9 = 0) (h5 : F 344 5 = 0) (hnm : nrel nm (F 344 14)) (hts : rpn (F 349) (F 344 15) ts) (hpl : rpn (F 350) (F 344 17) pl) (hps : rprd F ps ∧ ps.length = pl.length) (h33 : F 344 33 = 0) (fr lo : Nat) (hfr : 7 ≤ fr) (hlo : 165 ≤ lo) (Fb : fl_N) (hg_Fb : gi Fb) (hf_Fb : fs [(344, 344, 5, 5), (344, 344, 9, 10), (344, 344, 33, 33), (344, 344, 36, 36), (344, 344, 64, 64), (358, 358, 0, 100000), (360, 366, 0, 100000)] F Fb) (hrk_b : rk K Fb) (hbd : ¬ Fb 344 9 = 0) (hp_b : 0 ≤ Fb 344 5 ∧ Fb 344 5 ≤ K 1 6 - 1) (hb : (F 344 9 = 0 → sp_prb K nm ts pl ps = .inl (Fb 344 9, Fb 344 10)) ∧ (¬ F 344 9 = 0 → Fb 344 9 = F 344 9 ∧ Fb 344 10 = F 344 10)) (htb : ∃ l tl, trm Fb 5 2 l tl ∧ l.length = tl.length) : fl_R xi_ms 184 fr lo 50 [(0, .ref 344)] [] (fl_H sh_T G Fb ++ X) (pq_184 G F X K nm ts pl ps) := by
  have hP := (rkt_p hkt hp.1 hp.2 hgK).1
  have hK16 : 0 ≤ K 1 6 ∧ K 1 6 ≤ 601 := gi_g hgK rfl
  have hko := hkt.1
  obtain ⟨lb_, tlb_, htb1_, htb2_⟩ := htb
  refine ga_aload_n (v := .ref 344) hm_184 rfl rfl rfl ?_
  have b21_ : 0 ≤ Fb 344 5 ∧ Fb 344 5 ≤ 600 := gi_g hg_Fb rfl
  refine gVl (nY := 3) (F := 2) (L := 46) (As := []) (b := 344) (rest := []) hm_184 rfl hm_58 rfl rfl (fl_ob sc_344) rfl rfl rfl rfl rfl (by omega) (by omega) (mc_58 hG Fb X hg_Fb (K) hgK hrk_b hkt (⟨by omega, by omega⟩)) (fun _ _ h => False.elim h) ?_
  have b23_ : 0 ≤ Fb 344 10 ∧ Fb 344 10 ≤ 600 := gi_g hg_Fb rfl
  have b24_ : 0 ≤ Fb 344 9 ∧ Fb 344 9 ≤ 5 := gi_g hg_Fb rfl
  rintro z22_ A1_ (⟨F29_, hA_, g30_, s31_, c25_, c26_, c27_, c28_⟩ | ⟨F39_, hA_, g40_, s41_, c32_, c33_, c34_, c35_, c36_, c37_, c38_⟩)
  ·
    subst hA_
    have g42_ : fs [(344, 344, 5, 5), (344, 344, 9, 10), (344, 344, 33, 33), (344, 344, 36, 36), (344, 344, 64, 64), (358, 358, 0, 100000), (360, 366, 0, 100000)] F F29_ := fs_tr hf_Fb s31_ rfl
    have rk43_ : rk K F29_ := rk_fs hrk_b s31_ (fs_rg rfl) rfl
    have c26_k := c26_.2 (by omega)
    clear c26_
    refine ga_lstore_n (lv2 := [(1, .long (Int64.ofInt z22_)), (0, .ref 344)]) hm_184 rfl (Nat.le_of_ble_eq_true rfl) rfl ?_
    refine ga_aload_n (v := .ref 344) hm_184 rfl rfl rfl ?_
    refine gIi (nY := 1) (F := 0) (L := 0) (As := []) (b := 344) (rest := []) hm_184 rfl hm_59 rfl rfl (fl_ob sc_344) rfl rfl rfl rfl rfl (by omega) (by omega) ?_
    intro f44_ l45_ h46_ h47_
    show fl_R xi_ms 59 f44_ l45_ 0 [(0, .ref 344)] [] _ _
    refine ga_aload_n (v := .ref 344) hm_59 rfl rfl rfl ?_
    have b48_ : 0 ≤ F29_ 344 9 ∧ F29_ 344 9 ≤ 5 := gi_g g30_ rfl
    refine ga_geti (z := F29_ 344 9) hm_59 rfl sc_344 rfl (rfl) ?_
    refine fl_if_le (a := F29_ 344 9) hm_59 rfl ⟨by omega, by omega⟩ (fun h49_ => ?_) (fun h50_ => ?_)
    · exfalso; omega
    refine fl_iconst hm_59 rfl ?_
    refine fl_goto hm_59 rfl ?_
    refine gr_i hm_59 rfl rfl (ga_nb (by omega)) ?_
    clear h46_ h47_ f44_ l45_
    refine fl_if_ne hm_184 rfl ⟨by omega, by omega⟩ (fun _ => ?_) (fun h => absurd (by omega) h)
    have b51_ : 0 ≤ F29_ 344 10 ∧ F29_ 344 10 ≤ 600 := gi_g g30_ rfl
    have e52_ : F29_ 344 5 = Fb 344 5 := (s31_ 344 5 rfl).trans (rfl)
    have e53_ : Fb 5 2 = F 5 2 := (hf_Fb 5 2 rfl).trans (rfl)
    have e54_ : F29_ 5 2 = F 5 2 := (s31_ 5 2 rfl).trans (e53_)
    have b55_ : 0 ≤ F 5 2 ∧ F 5 2 ≤ 600 := gi_g hgi rfl
    exact fl_R_sub (lv' := [(0, .ref 344)]) rfl rfl (mb_184_76 hG F X hgi K nm ts pl ps hgK hrk hkt hp h0 h5 hnm hts hpl hps h33 fr lo hfr hlo F29_ g30_ g42_ rk43_ (by omega) (⟨by omega, by omega⟩) (⟨fun h0_ => by rw [show F29_ 344 9 = Fb 344 9 by omega, show F29_ 344 10 = Fb 344 10 by omega]; exact hb.1 h0_, fun h0_ => by have h1_ := hb.2 h0_; omega⟩) (⟨lb_, tlb_, (trm_fs htb1_ s31_ (by first | exact fs_rg rfl | exact fun r j hj => (fs_n (by omega) rfl))), htb2_⟩))
  exfalso; omega
set_option maxHeartbeats 16000000 in
theorem mb_184_44 {G : Nat → Nat → Option Nat} (hG : gg G) (F : fl_N) (X : xi_H) (hgi : gi F) (K : fl_N) (nm : Int) (ts pl : List Int) (ps : List (List Int)) (hgK : gi K) (hrk : rk K F) (hkt : rkt K) (hp : 0 ≤ F 344 5 ∧ F 344 5 ≤ K 1 6 - 1) (h0 : F 344 9 = 0) (h5 : F 344 5 = 0) (hnm : nrel nm (F 344 14)) (hts : rpn (F 349) (F 344 15) ts) (hpl : rpn (F 350) (F 344 17) pl) (hps : rprd F ps ∧ ps.length = pl.length) (h33 : F 344 33 = 0) (fr lo : Nat) (hfr : 7 ≤ fr) (hlo : 165 ≤ lo) (Fb : fl_N) (hg_Fb : gi Fb) (hf_Fb : fs [(344, 344, 5, 5), (344, 344, 9, 10), (344, 344, 33, 33), (344, 344, 36, 36), (344, 344, 64, 64), (358, 358, 0, 100000), (360, 366, 0, 100000)] F Fb) (hrk_b : rk K Fb) (hbd : ¬ Fb 344 9 = 0) (hp_b : 0 ≤ Fb 344 5 ∧ Fb 344 5 ≤ K 1 6 - 1) (hb : (F 344 9 = 0 → sp_prb K nm ts pl ps = .inl (Fb 344 9, Fb 344 10)) ∧ (¬ F 344 9 = 0 → Fb 344 9 = F 344 9 ∧ Fb 344 10 = F 344 10)) (htb : ∃ l tl, trm Fb 5 2 l tl ∧ l.length = tl.length) : fl_R xi_ms 184 fr lo 44 [(0, .ref 344)] [] (fl_H sh_T G Fb ++ X) (pq_184 G F X K nm ts pl ps) := by
  have hP := (rkt_p hkt hp.1 hp.2 hgK).1
  have hK16 : 0 ≤ K 1 6 ∧ K 1 6 ≤ 601 := gi_g hgK rfl
  have hko := hkt.1
  obtain ⟨lb_, tlb_, htb1_, htb2_⟩ := htb
  refine ga_aload_n (v := .ref 344) hm_184 rfl rfl rfl ?_
  refine fl_bipush hm_184 rfl rfl ?_
  have b21_ : 0 ≤ Fb 344 5 ∧ Fb 344 5 ≤ 600 := gi_g hg_Fb rfl
  refine gVv (nY := 2) (F := 2) (L := 44) (As := [.int (Int32.ofInt 14)]) (b := 344) (rest := []) hm_184 rfl hm_55 rfl rfl (fl_ob sc_344) rfl rfl rfl rfl rfl (by omega) (by omega) (mc_55 hG Fb X hg_Fb (K) (14) ([58, 100, 111, 109, 97, 105, 110]) hgK hrk_b hkt (⟨by omega, by omega⟩) (⟨by omega, by omega⟩) (by decide) (kw_14 hrk_b)) (fun _ _ h => False.elim h) ?_
  have b23_ : 0 ≤ Fb 344 10 ∧ Fb 344 10 ≤ 600 := gi_g hg_Fb rfl
  have b24_ : 0 ≤ Fb 344 9 ∧ Fb 344 9 ≤ 5 := gi_g hg_Fb rfl
  rintro A1_ (⟨F28_, hA_, g29_, s30_, c25_, c26_, c27_⟩ | ⟨F34_, hA_, g35_, s36_, c31_, c32_, c33_⟩)
  ·
    subst hA_
    have g37_ : fs [(344, 344, 5, 5), (344, 344, 9, 10), (344, 344, 33, 33), (344, 344, 36, 36), (344, 344, 64, 64), (358, 358, 0, 100000), (360, 366, 0, 100000)] F F28_ := fs_tr hf_Fb s30_ rfl
    have rk38_ : rk K F28_ := rk_fs hrk_b s30_ (fs_rg rfl) rfl
    have c26_k := c26_.2 (by omega)
    clear c26_
    have b39_ : 0 ≤ F28_ 344 9 ∧ F28_ 344 9 ≤ 5 := gi_g g29_ rfl
    have b40_ : 0 ≤ F28_ 344 10 ∧ F28_ 344 10 ≤ 600 := gi_g g29_ rfl
    have b41_ : 0 ≤ F28_ 344 5 ∧ F28_ 344 5 ≤ 600 := gi_g g29_ rfl
    have e42_ : Fb 5 2 = F 5 2 := (hf_Fb 5 2 rfl).trans (rfl)
    have e43_ : F28_ 5 2 = F 5 2 := (s30_ 5 2 rfl).trans (e42_)
    have b44_ : 0 ≤ F 5 2 ∧ F 5 2 ≤ 600 := gi_g hgi rfl
    exact mb_184_50 hG F X hgi K nm ts pl ps hgK hrk hkt hp h0 h5 hnm hts hpl hps h33 fr lo hfr hlo F28_ g29_ g37_ rk38_ (by omega) (⟨by omega, by omega⟩) (⟨fun h0_ => by rw [show F28_ 344 9 = Fb 344 9 by omega, show F28_ 344 10 = Fb 344 10 by omega]; exact hb.1 h0_, fun h0_ => by have h1_ := hb.2 h0_; omega⟩) (⟨lb_, tlb_, (trm_fs htb1_ s30_ (by first | exact fs_rg rfl | exact fun r j hj => (fs_n (by omega) (fs_n (by omega) rfl)))), htb2_⟩)
  exfalso; omega
set_option maxHeartbeats 16000000 in
theorem mb_184_38 {G : Nat → Nat → Option Nat} (hG : gg G) (F : fl_N) (X : xi_H) (hgi : gi F) (K : fl_N) (nm : Int) (ts pl : List Int) (ps : List (List Int)) (hgK : gi K) (hrk : rk K F) (hkt : rkt K) (hp : 0 ≤ F 344 5 ∧ F 344 5 ≤ K 1 6 - 1) (h0 : F 344 9 = 0) (h5 : F 344 5 = 0) (hnm : nrel nm (F 344 14)) (hts : rpn (F 349) (F 344 15) ts) (hpl : rpn (F 350) (F 344 17) pl) (hps : rprd F ps ∧ ps.length = pl.length) (h33 : F 344 33 = 0) (fr lo : Nat) (hfr : 7 ≤ fr) (hlo : 165 ≤ lo) (Fb : fl_N) (hg_Fb : gi Fb) (hf_Fb : fs [(344, 344, 5, 5), (344, 344, 9, 10), (344, 344, 33, 33), (344, 344, 36, 36), (344, 344, 64, 64), (358, 358, 0, 100000), (360, 366, 0, 100000)] F Fb) (hrk_b : rk K Fb) (hbd : ¬ Fb 344 9 = 0) (hp_b : 0 ≤ Fb 344 5 ∧ Fb 344 5 ≤ K 1 6 - 1) (hb : (F 344 9 = 0 → sp_prb K nm ts pl ps = .inl (Fb 344 9, Fb 344 10)) ∧ (¬ F 344 9 = 0 → Fb 344 9 = F 344 9 ∧ Fb 344 10 = F 344 10)) (htb : ∃ l tl, trm Fb 5 2 l tl ∧ l.length = tl.length) : fl_R xi_ms 184 fr lo 38 [(0, .ref 344)] [] (fl_H sh_T G Fb ++ X) (pq_184 G F X K nm ts pl ps) := by
  have hP := (rkt_p hkt hp.1 hp.2 hgK).1
  have hK16 : 0 ≤ K 1 6 ∧ K 1 6 ≤ 601 := gi_g hgK rfl
  have hko := hkt.1
  obtain ⟨lb_, tlb_, htb1_, htb2_⟩ := htb
  refine ga_aload_n (v := .ref 344) hm_184 rfl rfl rfl ?_
  refine fl_bipush hm_184 rfl rfl ?_
  have b21_ : 0 ≤ Fb 344 5 ∧ Fb 344 5 ≤ 600 := gi_g hg_Fb rfl
  refine gVv (nY := 2) (F := 2) (L := 41) (As := [.int (Int32.ofInt 40)]) (b := 344) (rest := []) hm_184 rfl hm_51 rfl rfl (fl_ob sc_344) rfl rfl rfl rfl rfl (by omega) (by omega) (mc_51 hG Fb X hg_Fb (K) (40) (0) hgK hrk_b hkt (⟨by omega, by omega⟩) (by omega) (by omega)) (fun _ _ h => False.elim h) ?_
  have b23_ : 0 ≤ Fb 344 10 ∧ Fb 344 10 ≤ 600 := gi_g hg_Fb rfl
  have b24_ : 0 ≤ Fb 344 9 ∧ Fb 344 9 ≤ 5 := gi_g hg_Fb rfl
  rintro A1_ (⟨F28_, hA_, g29_, s30_, c25_, c26_, c27_⟩ | ⟨F34_, hA_, g35_, s36_, c31_, c32_, c33_⟩)
  ·
    subst hA_
    have g37_ : fs [(344, 344, 5, 5), (344, 344, 9, 10), (344, 344, 33, 33), (344, 344, 36, 36), (344, 344, 64, 64), (358, 358, 0, 100000), (360, 366, 0, 100000)] F F28_ := fs_tr hf_Fb s30_ rfl
    have rk38_ : rk K F28_ := rk_fs hrk_b s30_ (fs_rg rfl) rfl
    have c26_k := c26_.2 (by omega)
    clear c26_
    have b39_ : 0 ≤ F28_ 344 9 ∧ F28_ 344 9 ≤ 5 := gi_g g29_ rfl
    have b40_ : 0 ≤ F28_ 344 10 ∧ F28_ 344 10 ≤ 600 := gi_g g29_ rfl
    have b41_ : 0 ≤ F28_ 344 5 ∧ F28_ 344 5 ≤ 600 := gi_g g29_ rfl
    have e42_ : Fb 5 2 = F 5 2 := (hf_Fb 5 2 rfl).trans (rfl)
    have e43_ : F28_ 5 2 = F 5 2 := (s30_ 5 2 rfl).trans (e42_)
    have b44_ : 0 ≤ F 5 2 ∧ F 5 2 ≤ 600 := gi_g hgi rfl
    exact mb_184_44 hG F X hgi K nm ts pl ps hgK hrk hkt hp h0 h5 hnm hts hpl hps h33 fr lo hfr hlo F28_ g29_ g37_ rk38_ (by omega) (⟨by omega, by omega⟩) (⟨fun h0_ => by rw [show F28_ 344 9 = Fb 344 9 by omega, show F28_ 344 10 = Fb 344 10 by omega]; exact hb.1 h0_, fun h0_ => by have h1_ := hb.2 h0_; omega⟩) (⟨lb_, tlb_, (trm_fs htb1_ s30_ (by first | exact fs_rg rfl | exact fun r j hj => (fs_n (by omega) (fs_n (by omega) rfl)))), htb2_⟩)
  exfalso; omega
set_option maxHeartbeats 16000000 in
theorem mb_184_28 {G : Nat → Nat → Option Nat} (hG : gg G) (F : fl_N) (X : xi_H) (hgi : gi F) (K : fl_N) (nm : Int) (ts pl : List Int) (ps : List (List Int)) (hgK : gi K) (hrk : rk K F) (hkt : rkt K) (hp : 0 ≤ F 344 5 ∧ F 344 5 ≤ K 1 6 - 1) (h0 : F 344 9 = 0) (h5 : F 344 5 = 0) (hnm : nrel nm (F 344 14)) (hts : rpn (F 349) (F 344 15) ts) (hpl : rpn (F 350) (F 344 17) pl) (hps : rprd F ps ∧ ps.length = pl.length) (h33 : F 344 33 = 0) (fr lo : Nat) (hfr : 7 ≤ fr) (hlo : 165 ≤ lo) (Fb : fl_N) (hg_Fb : gi Fb) (hf_Fb : fs [(344, 344, 5, 5), (344, 344, 9, 10), (344, 344, 33, 33), (344, 344, 36, 36), (344, 344, 64, 64), (358, 358, 0, 100000), (360, 366, 0, 100000)] F Fb) (hrk_b : rk K Fb) (hbd : ¬ Fb 344 9 = 0) (hp_b : 0 ≤ Fb 344 5 ∧ Fb 344 5 ≤ K 1 6 - 1) (hb : (F 344 9 = 0 → sp_prb K nm ts pl ps = .inl (Fb 344 9, Fb 344 10)) ∧ (¬ F 344 9 = 0 → Fb 344 9 = F 344 9 ∧ Fb 344 10 = F 344 10)) (htb : ∃ l tl, trm Fb 5 2 l tl ∧ l.length = tl.length) : fl_R xi_ms 184 fr lo 28 [(0, .ref 344)] [] (fl_H sh_T G Fb ++ X) (pq_184 G F X K nm ts pl ps) := by
  have hP := (rkt_p hkt hp.1 hp.2 hgK).1
  have hK16 : 0 ≤ K 1 6 ∧ K 1 6 ≤ 601 := gi_g hgK rfl
  have hko := hkt.1
  obtain ⟨lb_, tlb_, htb1_, htb2_⟩ := htb
  refine ga_aload_n (v := .ref 344) hm_184 rfl rfl rfl ?_
  refine gIv (nY := 1) (F := 1) (L := 20) (As := []) (b := 344) (rest := []) hm_184 rfl hm_61 rfl rfl (fl_ob sc_344) rfl rfl rfl rfl rfl (by omega) (by omega) ?_
  intro f21_ l22_ h23_ h24_
  show fl_R xi_ms 61 f21_ l22_ 0 [(0, .ref 344)] [] _ _
  refine ga_aload_n (v := .ref 344) hm_61 rfl rfl rfl ?_
  refine ga_dup hm_61 rfl rfl ?_
  have b25_ : 0 ≤ Fb 344 5 ∧ Fb 344 5 ≤ 600 := gi_g hg_Fb rfl
  refine ga_geti (z := Fb 344 5) hm_61 rfl sc_344 rfl (rfl) ?_
  refine ga_aload_n (v := .ref 344) hm_61 rfl rfl rfl ?_
  refine gIi (nY := 1) (F := 0) (L := 0) (As := []) (b := 344) (rest := [.int (Int32.ofInt (Fb 344 5)), .ref 344]) hm_61 rfl hm_59 rfl rfl (fl_ob sc_344) rfl rfl rfl rfl rfl (by omega) (by omega) ?_
  intro f26_ l27_ h28_ h29_
  show fl_R xi_ms 59 f26_ l27_ 0 [(0, .ref 344)] [] _ _
  refine ga_aload_n (v := .ref 344) hm_59 rfl rfl rfl ?_
  have b30_ : 0 ≤ Fb 344 9 ∧ Fb 344 9 ≤ 5 := gi_g hg_Fb rfl
  refine ga_geti (z := Fb 344 9) hm_59 rfl sc_344 rfl (rfl) ?_
  refine fl_if_le (a := Fb 344 9) hm_59 rfl ⟨by omega, by omega⟩ (fun h31_ => ?_) (fun h32_ => ?_)
  · exfalso; omega
  refine fl_iconst hm_59 rfl ?_
  refine fl_goto hm_59 rfl ?_
  refine gr_i hm_59 rfl rfl (ga_nb (by omega)) ?_
  clear h28_ h29_ f26_ l27_
  refine fl_if_eq hm_61 rfl ⟨by omega, by omega⟩ (fun h => absurd h (by omega)) (fun _ => ?_)
  refine fl_iconst hm_61 rfl ?_
  refine fl_goto hm_61 rfl ?_
  refine ga_iadd (a := Fb 344 5) (b := 0) (c := Fb 344 5) hm_61 rfl (by omega) ?_
  refine ga_puti (z := Fb 344 5) hm_61 rfl sc_344 rfl rfl ?_
  refine gr_v hm_61 rfl rfl ?_
  clear h23_ h24_ f21_ l22_
  refine ga_aload_n (v := .ref 344) hm_184 rfl rfl rfl ?_
  refine fl_bipush hm_184 rfl rfl ?_
  obtain ⟨F33_, q34_⟩ : ∃ Fq_, Fq_ = (fl_u Fb 344 5 (Fb 344 5)) := ⟨_, rfl⟩
  rw [← q34_]
  have g35_ : gi F33_ := by rw [q34_]; exact gi_u (hg_Fb) rfl (by omega) (by omega)
  have g36_ : fs [(344, 344, 5, 5), (344, 344, 9, 10), (344, 344, 33, 33), (344, 344, 36, 36), (344, 344, 64, 64), (358, 358, 0, 100000), (360, 366, 0, 100000)] F F33_ := by rw [q34_]; exact fs_u (hf_Fb) rfl
  have rk37_ : rk K F33_ := by rw [q34_]; exact rk_u (hrk_b) (by first | decide | exact nc_ rfl | omega) (by first | decide | exact nc_ rfl | omega)
  have e38_ : F33_ 344 5 = Fb 344 5 := by rw [q34_]; exact fl_u_eq
  refine gVv (nY := 2) (F := 2) (L := 41) (As := [.int (Int32.ofInt 41)]) (b := 344) (rest := []) hm_184 rfl hm_51 rfl rfl (fl_ob sc_344) rfl rfl rfl rfl rfl (by omega) (by omega) (mc_51 hG F33_ X g35_ (K) (41) (1) hgK rk37_ hkt (⟨by omega, by omega⟩) (by omega) (by omega)) (fun _ _ h => False.elim h) ?_
  have e40_ : F33_ 344 10 = Fb 344 10 := by rw [q34_]; exact fl_u_ne (by first | exact nc_ rfl | decide | omega)
  have b41_ : 0 ≤ Fb 344 10 ∧ Fb 344 10 ≤ 600 := gi_g hg_Fb rfl
  have e42_ : F33_ 344 9 = Fb 344 9 := by rw [q34_]; exact fl_u_ne (by first | exact nc_ rfl | decide | omega)
  rintro A1_ (⟨F46_, hA_, g47_, s48_, c43_, c44_, c45_⟩ | ⟨F52_, hA_, g53_, s54_, c49_, c50_, c51_⟩)
  ·
    subst hA_
    have g55_ : fs [(344, 344, 5, 5), (344, 344, 9, 10), (344, 344, 33, 33), (344, 344, 36, 36), (344, 344, 64, 64), (358, 358, 0, 100000), (360, 366, 0, 100000)] F F46_ := fs_tr g36_ s48_ rfl
    have rk56_ : rk K F46_ := rk_fs rk37_ s48_ (fs_rg rfl) rfl
    try simp only [e38_, e40_, e42_] at c44_
    have c44_k := c44_.2 (by omega)
    clear c44_
    have b57_ : 0 ≤ F46_ 344 9 ∧ F46_ 344 9 ≤ 5 := gi_g g47_ rfl
    have b58_ : 0 ≤ F46_ 344 10 ∧ F46_ 344 10 ≤ 600 := gi_g g47_ rfl
    have b59_ : 0 ≤ F46_ 344 5 ∧ F46_ 344 5 ≤ 600 := gi_g g47_ rfl
    have e60_ : Fb 5 2 = F 5 2 := (hf_Fb 5 2 rfl).trans (rfl)
    have e61_ : F33_ 5 2 = F 5 2 := by rw [q34_]; exact (fl_u_ne (by first | exact nc_ rfl | decide | omega)).trans (e60_)
    have e62_ : F46_ 5 2 = F 5 2 := (s48_ 5 2 rfl).trans (e61_)
    have b63_ : 0 ≤ F 5 2 ∧ F 5 2 ≤ 600 := gi_g hgi rfl
    exact mb_184_38 hG F X hgi K nm ts pl ps hgK hrk hkt hp h0 h5 hnm hts hpl hps h33 fr lo hfr hlo F46_ g47_ g55_ rk56_ (by omega) (⟨by omega, by omega⟩) (⟨fun h0_ => by rw [show F46_ 344 9 = Fb 344 9 by omega, show F46_ 344 10 = Fb 344 10 by omega]; exact hb.1 h0_, fun h0_ => by have h1_ := hb.2 h0_; omega⟩) (⟨lb_, tlb_, (trm_fs (by rw [q34_]; exact (trm_u htb1_ (by first | decide | exact nc_ rfl | omega))) s48_ (by first | exact fs_rg rfl | exact fun r j hj => (fs_n (by omega) (fs_n (by omega) rfl)))), htb2_⟩)
  exfalso; omega
set_option maxHeartbeats 16000000 in
theorem mb_184_23 {G : Nat → Nat → Option Nat} (hG : gg G) (F : fl_N) (X : xi_H) (hgi : gi F) (K : fl_N) (nm : Int) (ts pl : List Int) (ps : List (List Int)) (hgK : gi K) (hrk : rk K F) (hkt : rkt K) (hp : 0 ≤ F 344 5 ∧ F 344 5 ≤ K 1 6 - 1) (h0 : F 344 9 = 0) (h5 : F 344 5 = 0) (hnm : nrel nm (F 344 14)) (hts : rpn (F 349) (F 344 15) ts) (hpl : rpn (F 350) (F 344 17) pl) (hps : rprd F ps ∧ ps.length = pl.length) (h33 : F 344 33 = 0) (fr lo : Nat) (hfr : 7 ≤ fr) (hlo : 165 ≤ lo) (Fb : fl_N) (hg_Fb : gi Fb) (hf_Fb : fs [(344, 344, 5, 5), (344, 344, 9, 10), (344, 344, 33, 33), (344, 344, 36, 36), (344, 344, 64, 64), (358, 358, 0, 100000), (360, 366, 0, 100000)] F Fb) (hrk_b : rk K Fb) (hbd : ¬ Fb 344 9 = 0) (hp_b : 0 ≤ Fb 344 5 ∧ Fb 344 5 ≤ K 1 6 - 1) (hb : (F 344 9 = 0 → sp_prb K nm ts pl ps = .inl (Fb 344 9, Fb 344 10)) ∧ (¬ F 344 9 = 0 → Fb 344 9 = F 344 9 ∧ Fb 344 10 = F 344 10)) (htb : ∃ l tl, trm Fb 5 2 l tl ∧ l.length = tl.length) : fl_R xi_ms 184 fr lo 23 [(0, .ref 344)] [] (fl_H sh_T G Fb ++ X) (pq_184 G F X K nm ts pl ps) := by
  have hP := (rkt_p hkt hp.1 hp.2 hgK).1
  have hK16 : 0 ≤ K 1 6 ∧ K 1 6 ≤ 601 := gi_g hgK rfl
  have hko := hkt.1
  obtain ⟨lb_, tlb_, htb1_, htb2_⟩ := htb
  refine ga_aload_n (v := .ref 344) hm_184 rfl rfl rfl ?_
  have b21_ : 0 ≤ Fb 344 5 ∧ Fb 344 5 ≤ 600 := gi_g hg_Fb rfl
  refine gVl (nY := 3) (F := 2) (L := 46) (As := []) (b := 344) (rest := []) hm_184 rfl hm_58 rfl rfl (fl_ob sc_344) rfl rfl rfl rfl rfl (by omega) (by omega) (mc_58 hG Fb X hg_Fb (K) hgK hrk_b hkt (⟨by omega, by omega⟩)) (fun _ _ h => False.elim h) ?_
  have b23_ : 0 ≤ Fb 344 10 ∧ Fb 344 10 ≤ 600 := gi_g hg_Fb rfl
  have b24_ : 0 ≤ Fb 344 9 ∧ Fb 344 9 ≤ 5 := gi_g hg_Fb rfl
  rintro z22_ A1_ (⟨F29_, hA_, g30_, s31_, c25_, c26_, c27_, c28_⟩ | ⟨F39_, hA_, g40_, s41_, c32_, c33_, c34_, c35_, c36_, c37_, c38_⟩)
  ·
    subst hA_
    have g42_ : fs [(344, 344, 5, 5), (344, 344, 9, 10), (344, 344, 33, 33), (344, 344, 36, 36), (344, 344, 64, 64), (358, 358, 0, 100000), (360, 366, 0, 100000)] F F29_ := fs_tr hf_Fb s31_ rfl
    have rk43_ : rk K F29_ := rk_fs hrk_b s31_ (fs_rg rfl) rfl
    have c26_k := c26_.2 (by omega)
    clear c26_
    refine ga_pop2 hm_184 rfl rfl ?_
    have b44_ : 0 ≤ F29_ 344 9 ∧ F29_ 344 9 ≤ 5 := gi_g g30_ rfl
    have b45_ : 0 ≤ F29_ 344 10 ∧ F29_ 344 10 ≤ 600 := gi_g g30_ rfl
    have e46_ : F29_ 344 5 = Fb 344 5 := (s31_ 344 5 rfl).trans (rfl)
    have e47_ : Fb 5 2 = F 5 2 := (hf_Fb 5 2 rfl).trans (rfl)
    have e48_ : F29_ 5 2 = F 5 2 := (s31_ 5 2 rfl).trans (e47_)
    have b49_ : 0 ≤ F 5 2 ∧ F 5 2 ≤ 600 := gi_g hgi rfl
    exact mb_184_28 hG F X hgi K nm ts pl ps hgK hrk hkt hp h0 h5 hnm hts hpl hps h33 fr lo hfr hlo F29_ g30_ g42_ rk43_ (by omega) (⟨by omega, by omega⟩) (⟨fun h0_ => by rw [show F29_ 344 9 = Fb 344 9 by omega, show F29_ 344 10 = Fb 344 10 by omega]; exact hb.1 h0_, fun h0_ => by have h1_ := hb.2 h0_; omega⟩) (⟨lb_, tlb_, (trm_fs htb1_ s31_ (by first | exact fs_rg rfl | exact fun r j hj => (fs_n (by omega) rfl))), htb2_⟩)
  exfalso; omega
set_option maxHeartbeats 16000000 in
theorem mb_184_17 {G : Nat → Nat → Option Nat} (hG : gg G) (F : fl_N) (X : xi_H) (hgi : gi F) (K : fl_N) (nm : Int) (ts pl : List Int) (ps : List (List Int)) (hgK : gi K) (hrk : rk K F) (hkt : rkt K) (hp : 0 ≤ F 344 5 ∧ F 344 5 ≤ K 1 6 - 1) (h0 : F 344 9 = 0) (h5 : F 344 5 = 0) (hnm : nrel nm (F 344 14)) (hts : rpn (F 349) (F 344 15) ts) (hpl : rpn (F 350) (F 344 17) pl) (hps : rprd F ps ∧ ps.length = pl.length) (h33 : F 344 33 = 0) (fr lo : Nat) (hfr : 7 ≤ fr) (hlo : 165 ≤ lo) (Fb : fl_N) (hg_Fb : gi Fb) (hf_Fb : fs [(344, 344, 5, 5), (344, 344, 9, 10), (344, 344, 33, 33), (344, 344, 36, 36), (344, 344, 64, 64), (358, 358, 0, 100000), (360, 366, 0, 100000)] F Fb) (hrk_b : rk K Fb) (hbd : ¬ Fb 344 9 = 0) (hp_b : 0 ≤ Fb 344 5 ∧ Fb 344 5 ≤ K 1 6 - 1) (hb : (F 344 9 = 0 → sp_prb K nm ts pl ps = .inl (Fb 344 9, Fb 344 10)) ∧ (¬ F 344 9 = 0 → Fb 344 9 = F 344 9 ∧ Fb 344 10 = F 344 10)) (htb : ∃ l tl, trm Fb 5 2 l tl ∧ l.length = tl.length) : fl_R xi_ms 184 fr lo 17 [(0, .ref 344)] [] (fl_H sh_T G Fb ++ X) (pq_184 G F X K nm ts pl ps) := by
  have hP := (rkt_p hkt hp.1 hp.2 hgK).1
  have hK16 : 0 ≤ K 1 6 ∧ K 1 6 ≤ 601 := gi_g hgK rfl
  have hko := hkt.1
  obtain ⟨lb_, tlb_, htb1_, htb2_⟩ := htb
  refine ga_aload_n (v := .ref 344) hm_184 rfl rfl rfl ?_
  refine fl_bipush hm_184 rfl rfl ?_
  have b21_ : 0 ≤ Fb 344 5 ∧ Fb 344 5 ≤ 600 := gi_g hg_Fb rfl
  refine gVv (nY := 2) (F := 2) (L := 44) (As := [.int (Int32.ofInt 13)]) (b := 344) (rest := []) hm_184 rfl hm_55 rfl rfl (fl_ob sc_344) rfl rfl rfl rfl rfl (by omega) (by omega) (mc_55 hG Fb X hg_Fb (K) (13) ([112, 114, 111, 98, 108, 101, 109]) hgK hrk_b hkt (⟨by omega, by omega⟩) (⟨by omega, by omega⟩) (by decide) (kw_13 hrk_b)) (fun _ _ h => False.elim h) ?_
  have b23_ : 0 ≤ Fb 344 10 ∧ Fb 344 10 ≤ 600 := gi_g hg_Fb rfl
  have b24_ : 0 ≤ Fb 344 9 ∧ Fb 344 9 ≤ 5 := gi_g hg_Fb rfl
  rintro A1_ (⟨F28_, hA_, g29_, s30_, c25_, c26_, c27_⟩ | ⟨F34_, hA_, g35_, s36_, c31_, c32_, c33_⟩)
  ·
    subst hA_
    have g37_ : fs [(344, 344, 5, 5), (344, 344, 9, 10), (344, 344, 33, 33), (344, 344, 36, 36), (344, 344, 64, 64), (358, 358, 0, 100000), (360, 366, 0, 100000)] F F28_ := fs_tr hf_Fb s30_ rfl
    have rk38_ : rk K F28_ := rk_fs hrk_b s30_ (fs_rg rfl) rfl
    have c26_k := c26_.2 (by omega)
    clear c26_
    have b39_ : 0 ≤ F28_ 344 9 ∧ F28_ 344 9 ≤ 5 := gi_g g29_ rfl
    have b40_ : 0 ≤ F28_ 344 10 ∧ F28_ 344 10 ≤ 600 := gi_g g29_ rfl
    have b41_ : 0 ≤ F28_ 344 5 ∧ F28_ 344 5 ≤ 600 := gi_g g29_ rfl
    have e42_ : Fb 5 2 = F 5 2 := (hf_Fb 5 2 rfl).trans (rfl)
    have e43_ : F28_ 5 2 = F 5 2 := (s30_ 5 2 rfl).trans (e42_)
    have b44_ : 0 ≤ F 5 2 ∧ F 5 2 ≤ 600 := gi_g hgi rfl
    exact mb_184_23 hG F X hgi K nm ts pl ps hgK hrk hkt hp h0 h5 hnm hts hpl hps h33 fr lo hfr hlo F28_ g29_ g37_ rk38_ (by omega) (⟨by omega, by omega⟩) (⟨fun h0_ => by rw [show F28_ 344 9 = Fb 344 9 by omega, show F28_ 344 10 = Fb 344 10 by omega]; exact hb.1 h0_, fun h0_ => by have h1_ := hb.2 h0_; omega⟩) (⟨lb_, tlb_, (trm_fs htb1_ s30_ (by first | exact fs_rg rfl | exact fun r j hj => (fs_n (by omega) (fs_n (by omega) rfl)))), htb2_⟩)
  exfalso; omega
set_option maxHeartbeats 16000000 in
theorem mb_184_11 {G : Nat → Nat → Option Nat} (hG : gg G) (F : fl_N) (X : xi_H) (hgi : gi F) (K : fl_N) (nm : Int) (ts pl : List Int) (ps : List (List Int)) (hgK : gi K) (hrk : rk K F) (hkt : rkt K) (hp : 0 ≤ F 344 5 ∧ F 344 5 ≤ K 1 6 - 1) (h0 : F 344 9 = 0) (h5 : F 344 5 = 0) (hnm : nrel nm (F 344 14)) (hts : rpn (F 349) (F 344 15) ts) (hpl : rpn (F 350) (F 344 17) pl) (hps : rprd F ps ∧ ps.length = pl.length) (h33 : F 344 33 = 0) (fr lo : Nat) (hfr : 7 ≤ fr) (hlo : 165 ≤ lo) (Fb : fl_N) (hg_Fb : gi Fb) (hf_Fb : fs [(344, 344, 5, 5), (344, 344, 9, 10), (344, 344, 33, 33), (344, 344, 36, 36), (344, 344, 64, 64), (358, 358, 0, 100000), (360, 366, 0, 100000)] F Fb) (hrk_b : rk K Fb) (hbd : ¬ Fb 344 9 = 0) (hp_b : 0 ≤ Fb 344 5 ∧ Fb 344 5 ≤ K 1 6 - 1) (hb : (F 344 9 = 0 → sp_prb K nm ts pl ps = .inl (Fb 344 9, Fb 344 10)) ∧ (¬ F 344 9 = 0 → Fb 344 9 = F 344 9 ∧ Fb 344 10 = F 344 10)) (htb : ∃ l tl, trm Fb 5 2 l tl ∧ l.length = tl.length) : fl_R xi_ms 184 fr lo 11 [(0, .ref 344)] [] (fl_H sh_T G Fb ++ X) (pq_184 G F X K nm ts pl ps) := by
  have hP := (rkt_p hkt hp.1 hp.2 hgK).1
  have hK16 : 0 ≤ K 1 6 ∧ K 1 6 ≤ 601 := gi_g hgK rfl
  have hko := hkt.1
  obtain ⟨lb_, tlb_, htb1_, htb2_⟩ := htb
  refine ga_aload_n (v := .ref 344) hm_184 rfl rfl rfl ?_
  refine fl_bipush hm_184 rfl rfl ?_
  have b21_ : 0 ≤ Fb 344 5 ∧ Fb 344 5 ≤ 600 := gi_g hg_Fb rfl
  refine gVv (nY := 2) (F := 2) (L := 41) (As := [.int (Int32.ofInt 40)]) (b := 344) (rest := []) hm_184 rfl hm_51 rfl rfl (fl_ob sc_344) rfl rfl rfl rfl rfl (by omega) (by omega) (mc_51 hG Fb X hg_Fb (K) (40) (0) hgK hrk_b hkt (⟨by omega, by omega⟩) (by omega) (by omega)) (fun _ _ h => False.elim h) ?_
  have b23_ : 0 ≤ Fb 344 10 ∧ Fb 344 10 ≤ 600 := gi_g hg_Fb rfl
  have b24_ : 0 ≤ Fb 344 9 ∧ Fb 344 9 ≤ 5 := gi_g hg_Fb rfl
  rintro A1_ (⟨F28_, hA_, g29_, s30_, c25_, c26_, c27_⟩ | ⟨F34_, hA_, g35_, s36_, c31_, c32_, c33_⟩)
  ·
    subst hA_
    have g37_ : fs [(344, 344, 5, 5), (344, 344, 9, 10), (344, 344, 33, 33), (344, 344, 36, 36), (344, 344, 64, 64), (358, 358, 0, 100000), (360, 366, 0, 100000)] F F28_ := fs_tr hf_Fb s30_ rfl
    have rk38_ : rk K F28_ := rk_fs hrk_b s30_ (fs_rg rfl) rfl
    have c26_k := c26_.2 (by omega)
    clear c26_
    have b39_ : 0 ≤ F28_ 344 9 ∧ F28_ 344 9 ≤ 5 := gi_g g29_ rfl
    have b40_ : 0 ≤ F28_ 344 10 ∧ F28_ 344 10 ≤ 600 := gi_g g29_ rfl
    have b41_ : 0 ≤ F28_ 344 5 ∧ F28_ 344 5 ≤ 600 := gi_g g29_ rfl
    have e42_ : Fb 5 2 = F 5 2 := (hf_Fb 5 2 rfl).trans (rfl)
    have e43_ : F28_ 5 2 = F 5 2 := (s30_ 5 2 rfl).trans (e42_)
    have b44_ : 0 ≤ F 5 2 ∧ F 5 2 ≤ 600 := gi_g hgi rfl
    exact mb_184_17 hG F X hgi K nm ts pl ps hgK hrk hkt hp h0 h5 hnm hts hpl hps h33 fr lo hfr hlo F28_ g29_ g37_ rk38_ (by omega) (⟨by omega, by omega⟩) (⟨fun h0_ => by rw [show F28_ 344 9 = Fb 344 9 by omega, show F28_ 344 10 = Fb 344 10 by omega]; exact hb.1 h0_, fun h0_ => by have h1_ := hb.2 h0_; omega⟩) (⟨lb_, tlb_, (trm_fs htb1_ s30_ (by first | exact fs_rg rfl | exact fun r j hj => (fs_n (by omega) (fs_n (by omega) rfl)))), htb2_⟩)
  exfalso; omega
set_option maxHeartbeats 16000000 in
theorem mb_184_6 {G : Nat → Nat → Option Nat} (hG : gg G) (F : fl_N) (X : xi_H) (hgi : gi F) (K : fl_N) (nm : Int) (ts pl : List Int) (ps : List (List Int)) (hgK : gi K) (hrk : rk K F) (hkt : rkt K) (hp : 0 ≤ F 344 5 ∧ F 344 5 ≤ K 1 6 - 1) (h0 : F 344 9 = 0) (h5 : F 344 5 = 0) (hnm : nrel nm (F 344 14)) (hts : rpn (F 349) (F 344 15) ts) (hpl : rpn (F 350) (F 344 17) pl) (hps : rprd F ps ∧ ps.length = pl.length) (h33 : F 344 33 = 0) (fr lo : Nat) (hfr : 7 ≤ fr) (hlo : 165 ≤ lo) (Fb : fl_N) (hg_Fb : gi Fb) (hf_Fb : fs [(344, 344, 5, 5), (344, 344, 9, 10), (344, 344, 33, 33), (344, 344, 36, 36), (344, 344, 64, 64), (358, 358, 0, 100000), (360, 366, 0, 100000)] F Fb) (hrk_b : rk K Fb) (hbd : ¬ Fb 344 9 = 0) (hp_b : 0 ≤ Fb 344 5 ∧ Fb 344 5 ≤ K 1 6 - 1) (hb : (F 344 9 = 0 → sp_prb K nm ts pl ps = .inl (Fb 344 9, Fb 344 10)) ∧ (¬ F 344 9 = 0 → Fb 344 9 = F 344 9 ∧ Fb 344 10 = F 344 10)) (htb : ∃ l tl, trm Fb 5 2 l tl ∧ l.length = tl.length) : fl_R xi_ms 184 fr lo 6 [(0, .ref 344)] [] (fl_H sh_T G Fb ++ X) (pq_184 G F X K nm ts pl ps) := by
  have hP := (rkt_p hkt hp.1 hp.2 hgK).1
  have hK16 : 0 ≤ K 1 6 ∧ K 1 6 ≤ 601 := gi_g hgK rfl
  have hko := hkt.1
  obtain ⟨lb_, tlb_, htb1_, htb2_⟩ := htb
  refine ga_aload_n (v := .ref 344) hm_184 rfl rfl rfl ?_
  refine fl_iconst hm_184 rfl ?_
  have b21_ : 0 ≤ Fb 344 5 ∧ Fb 344 5 ≤ 600 := gi_g hg_Fb rfl
  refine gVv (nY := 2) (F := 2) (L := 44) (As := [.int (Int32.ofInt 0)]) (b := 344) (rest := []) hm_184 rfl hm_55 rfl rfl (fl_ob sc_344) rfl rfl rfl rfl rfl (by omega) (by omega) (mc_55 hG Fb X hg_Fb (K) (0) ([100, 101, 102, 105, 110, 101]) hgK hrk_b hkt (⟨by omega, by omega⟩) (⟨by omega, by omega⟩) (by decide) (kw_0 hrk_b)) (fun _ _ h => False.elim h) ?_
  have b23_ : 0 ≤ Fb 344 10 ∧ Fb 344 10 ≤ 600 := gi_g hg_Fb rfl
  have b24_ : 0 ≤ Fb 344 9 ∧ Fb 344 9 ≤ 5 := gi_g hg_Fb rfl
  rintro A1_ (⟨F28_, hA_, g29_, s30_, c25_, c26_, c27_⟩ | ⟨F34_, hA_, g35_, s36_, c31_, c32_, c33_⟩)
  ·
    subst hA_
    have g37_ : fs [(344, 344, 5, 5), (344, 344, 9, 10), (344, 344, 33, 33), (344, 344, 36, 36), (344, 344, 64, 64), (358, 358, 0, 100000), (360, 366, 0, 100000)] F F28_ := fs_tr hf_Fb s30_ rfl
    have rk38_ : rk K F28_ := rk_fs hrk_b s30_ (fs_rg rfl) rfl
    have c26_k := c26_.2 (by omega)
    clear c26_
    have b39_ : 0 ≤ F28_ 344 9 ∧ F28_ 344 9 ≤ 5 := gi_g g29_ rfl
    have b40_ : 0 ≤ F28_ 344 10 ∧ F28_ 344 10 ≤ 600 := gi_g g29_ rfl
    have b41_ : 0 ≤ F28_ 344 5 ∧ F28_ 344 5 ≤ 600 := gi_g g29_ rfl
    have e42_ : Fb 5 2 = F 5 2 := (hf_Fb 5 2 rfl).trans (rfl)
    have e43_ : F28_ 5 2 = F 5 2 := (s30_ 5 2 rfl).trans (e42_)
    have b44_ : 0 ≤ F 5 2 ∧ F 5 2 ≤ 600 := gi_g hgi rfl
    exact mb_184_11 hG F X hgi K nm ts pl ps hgK hrk hkt hp h0 h5 hnm hts hpl hps h33 fr lo hfr hlo F28_ g29_ g37_ rk38_ (by omega) (⟨by omega, by omega⟩) (⟨fun h0_ => by rw [show F28_ 344 9 = Fb 344 9 by omega, show F28_ 344 10 = Fb 344 10 by omega]; exact hb.1 h0_, fun h0_ => by have h1_ := hb.2 h0_; omega⟩) (⟨lb_, tlb_, (trm_fs htb1_ s30_ (by first | exact fs_rg rfl | exact fun r j hj => (fs_n (by omega) (fs_n (by omega) rfl)))), htb2_⟩)
  exfalso; omega
set_option maxHeartbeats 16000000 in
theorem mg_184_150 {G : Nat → Nat → Option Nat} (hG : gg G) (F : fl_N) (X : xi_H) (hgi : gi F) (K : fl_N) (nm : Int) (ts pl : List Int) (ps : List (List Int)) (hgK : gi K) (hrk : rk K F) (hkt : rkt K) (hp : 0 ≤ F 344 5 ∧ F 344 5 ≤ K 1 6 - 1) (h0 : F 344 9 = 0) (h5 : F 344 5 = 0) (hnm : nrel nm (F 344 14)) (hts : rpn (F 349) (F 344 15) ts) (hpl : rpn (F 350) (F 344 17) pl) (hps : rprd F ps ∧ ps.length = pl.length) (h33 : F 344 33 = 0) (fr lo : Nat) (hfr : 7 ≤ fr) (hlo : 165 ≤ lo) (Fg : fl_N) (l : List Int) (tl : List Int) (hg_Fg : gi Fg) (hf_Fg : fs [(344, 344, 5, 5), (344, 344, 9, 10), (344, 344, 33, 33), (344, 344, 36, 36), (344, 344, 64, 64), (358, 358, 0, 100000), (360, 366, 0, 100000)] F Fg) (hrk_g : rk K Fg) (h0g : Fg 344 9 = 0 ∧ F 344 9 = 0) (hp_g : 0 ≤ Fg 344 5 ∧ Fg 344 5 ≤ K 1 6 - 1) (hq_ : sp_prb K nm ts pl ps = sp_r3 K l tl pl ps (Fg 344 5)) (ht_g : trm Fg 5 2 l tl) (hlt_g : l.length = tl.length) (hpl_g : rpn (Fg 350) (Fg 344 17) pl) (hps_g : rprd Fg ps ∧ ps.length = pl.length) : fl_R xi_ms 184 fr lo 150 [(0, .ref 344)] [] (fl_H sh_T G Fg ++ X) (pq_184 G F X K nm ts pl ps) := by
  have hP := (rkt_p hkt hp.1 hp.2 hgK).1
  have hK16 : 0 ≤ K 1 6 ∧ K 1 6 ≤ 601 := gi_g hgK rfl
  have hko := hkt.1
  refine ga_aload_n (v := .ref 344) hm_184 rfl rfl rfl ?_
  refine fl_bipush hm_184 rfl rfl ?_
  have b21_ : 0 ≤ Fg 344 5 ∧ Fg 344 5 ≤ 600 := gi_g hg_Fg rfl
  refine gVv (nY := 2) (F := 2) (L := 41) (As := [.int (Int32.ofInt 40)]) (b := 344) (rest := []) hm_184 rfl hm_51 rfl rfl (fl_ob sc_344) rfl rfl rfl rfl rfl (by omega) (by omega) (mc_51 hG Fg X hg_Fg (K) (40) (0) hgK hrk_g hkt (⟨by omega, by omega⟩) (by omega) (by omega)) (fun _ _ h => False.elim h) ?_
  have b23_ : 0 ≤ Fg 344 10 ∧ Fg 344 10 ≤ 600 := gi_g hg_Fg rfl
  have b24_ : 0 ≤ Fg 344 9 ∧ Fg 344 9 ≤ 5 := gi_g hg_Fg rfl
  rintro A1_ (⟨F28_, hA_, g29_, s30_, c25_, c26_, c27_⟩ | ⟨F34_, hA_, g35_, s36_, c31_, c32_, c33_⟩)
  ·
    subst hA_
    have g37_ : fs [(344, 344, 5, 5), (344, 344, 9, 10), (344, 344, 33, 33), (344, 344, 36, 36), (344, 344, 64, 64), (358, 358, 0, 100000), (360, 366, 0, 100000)] F F28_ := fs_tr hf_Fg s30_ rfl
    have rk38_ : rk K F28_ := rk_fs hrk_g s30_ (fs_rg rfl) rfl
    have c26_s := c26_.1 (by omega)
    clear c26_
    have b39_ : 0 ≤ F28_ 344 9 ∧ F28_ 344 9 ≤ 5 := gi_g g29_ rfl
    have b40_ : 0 ≤ F28_ 344 10 ∧ F28_ 344 10 ≤ 600 := gi_g g29_ rfl
    have b41_ : 0 ≤ F28_ 344 5 ∧ F28_ 344 5 ≤ 600 := gi_g g29_ rfl
    have e42_ : Fg 5 2 = F 5 2 := (hf_Fg 5 2 rfl).trans (rfl)
    have e43_ : F28_ 5 2 = F 5 2 := (s30_ 5 2 rfl).trans (e42_)
    have b44_ : 0 ≤ F 5 2 ∧ F 5 2 ≤ 600 := gi_g hgi rfl
    exact mb_184_156 hG F X hgi K nm ts pl ps hgK hrk hkt hp h0 h5 hnm hts hpl hps h33 fr lo hfr hlo F28_ g29_ g37_ rk38_ (by omega) (⟨by omega, by omega⟩) (⟨by intro h0_; have hs_ := c26_s; rw [hq_, sp_r3, sp_part]; rw [hs_]; try (show Sum.inl _ = _); try (congr 2 <;> omega), fun h0_ => by exfalso; omega⟩) (⟨l, tl, (trm_fs ht_g s30_ (by first | exact fs_rg rfl | exact fun r j hj => (fs_n (by omega) (fs_n (by omega) rfl)))), hlt_g⟩)
  subst hA_
  have g45_ : fs [(344, 344, 5, 5), (344, 344, 9, 10), (344, 344, 33, 33), (344, 344, 36, 36), (344, 344, 64, 64), (358, 358, 0, 100000), (360, 366, 0, 100000)] F F34_ := fs_tr hf_Fg s36_ rfl
  have rk46_ : rk K F34_ := rk_fs hrk_g s36_ (fs_rg rfl) rfl
  refine ga_aload_n (v := .ref 344) hm_184 rfl rfl rfl ?_
  refine fl_bipush hm_184 rfl rfl ?_
  have b47_ : 0 ≤ F34_ 344 5 ∧ F34_ 344 5 ≤ 600 := gi_g g35_ rfl
  refine gVv (nY := 2) (F := 2) (L := 44) (As := [.int (Int32.ofInt 16)]) (b := 344) (rest := []) hm_184 rfl hm_55 rfl rfl (fl_ob sc_344) rfl rfl rfl rfl rfl (by omega) (by omega) (mc_55 hG F34_ X g35_ (K) (16) ([58, 105, 110, 105, 116]) hgK rk46_ hkt (⟨by omega, by omega⟩) (⟨by omega, by omega⟩) (by decide) (kw_16 rk46_)) (fun _ _ h => False.elim h) ?_
  have b49_ : 0 ≤ F34_ 344 10 ∧ F34_ 344 10 ≤ 600 := gi_g g35_ rfl
  have b50_ : 0 ≤ F34_ 344 9 ∧ F34_ 344 9 ≤ 5 := gi_g g35_ rfl
  rintro A1_ (⟨F54_, hA_, g55_, s56_, c51_, c52_, c53_⟩ | ⟨F60_, hA_, g61_, s62_, c57_, c58_, c59_⟩)
  ·
    subst hA_
    have g63_ : fs [(344, 344, 5, 5), (344, 344, 9, 10), (344, 344, 33, 33), (344, 344, 36, 36), (344, 344, 64, 64), (358, 358, 0, 100000), (360, 366, 0, 100000)] F F54_ := fs_tr g45_ s56_ rfl
    have rk64_ : rk K F54_ := rk_fs rk46_ s56_ (fs_rg rfl) rfl
    have c52_s := c52_.1 (by omega)
    clear c52_
    have b65_ : 0 ≤ F54_ 344 9 ∧ F54_ 344 9 ≤ 5 := gi_g g55_ rfl
    have b66_ : 0 ≤ F54_ 344 10 ∧ F54_ 344 10 ≤ 600 := gi_g g55_ rfl
    have b67_ : 0 ≤ F54_ 344 5 ∧ F54_ 344 5 ≤ 600 := gi_g g55_ rfl
    have e68_ : Fg 5 2 = F 5 2 := (hf_Fg 5 2 rfl).trans (rfl)
    have e69_ : F34_ 5 2 = F 5 2 := (s36_ 5 2 rfl).trans (e68_)
    have e70_ : F54_ 5 2 = F 5 2 := (s56_ 5 2 rfl).trans (e69_)
    have b71_ : 0 ≤ F 5 2 ∧ F 5 2 ≤ 600 := gi_g hgi rfl
    exact mb_184_162 hG F X hgi K nm ts pl ps hgK hrk hkt hp h0 h5 hnm hts hpl hps h33 fr lo hfr hlo F54_ g55_ g63_ rk64_ (by omega) (⟨by omega, by omega⟩) (⟨by intro h0_; have hs_ := c52_s; rw [hq_, sp_r3, sp_part]; rw [c32_]; simp only [pb_r]; rw [hs_]; try (show Sum.inl _ = _); try (congr 2 <;> omega), fun h0_ => by exfalso; omega⟩) (⟨l, tl, (trm_fs (trm_fs ht_g s36_ (by first | exact fs_rg rfl | exact fun r j hj => (fs_n (by omega) (fs_n (by omega) rfl)))) s56_ (by first | exact fs_rg rfl | exact fun r j hj => (fs_n (by omega) (fs_n (by omega) rfl)))), hlt_g⟩)
  subst hA_
  have g72_ : fs [(344, 344, 5, 5), (344, 344, 9, 10), (344, 344, 33, 33), (344, 344, 36, 36), (344, 344, 64, 64), (358, 358, 0, 100000), (360, 366, 0, 100000)] F F60_ := fs_tr g45_ s62_ rfl
  have rk73_ : rk K F60_ := rk_fs rk46_ s62_ (fs_rg rfl) rfl
  refine ga_aload_n (v := .ref 344) hm_184 rfl rfl rfl ?_
  have b74_ : 0 ≤ F60_ 344 5 ∧ F60_ 344 5 ≤ 600 := gi_g g61_ rfl
  refine gVv (nY := 2) (F := 5) (L := 117) (As := []) (b := 344) (rest := []) hm_184 rfl hm_178 rfl rfl (fl_ob sc_344) rfl rfl rfl rfl rfl (by omega) (by omega) (mc_178 hG F60_ X g61_ (K) (l) (tl) (pl) (ps) hgK rk73_ hkt (⟨by omega, by omega⟩) ((trm_fs (trm_fs ht_g s36_ (by first | exact fs_rg rfl | exact fun r j hj => (fs_n (by omega) (fs_n (by omega) rfl)))) s62_ (by first | exact fs_rg rfl | exact fun r j hj => (fs_n (by omega) (fs_n (by omega) rfl))))) (hlt_g) ((rpn_fs (rpn_fs hpl_g s36_ (fun _ => (by first | exact fs_c rfl | exact (fs_n (by omega) (fs_n (by omega) rfl)))) (by first | exact fs_c rfl | exact (fs_n (by omega) (fs_n (by omega) rfl)))) s62_ (fun _ => (by first | exact fs_c rfl | exact (fs_n (by omega) (fs_n (by omega) rfl)))) (by first | exact fs_c rfl | exact (fs_n (by omega) (fs_n (by omega) rfl))))) (⟨(rprd_fs (rprd_fs hps_g.1 s36_ (by first | exact fs_rg rfl | exact fun r j hj => (fs_n (by omega) (fs_n (by omega) rfl)))) s62_ (by first | exact fs_rg rfl | exact fun r j hj => (fs_n (by omega) (fs_n (by omega) rfl)))), hps_g.2⟩)) (fun _ _ h => False.elim h) ?_
  have b76_ : 0 ≤ F60_ 344 10 ∧ F60_ 344 10 ≤ 600 := gi_g g61_ rfl
  have b77_ : 0 ≤ F60_ 344 9 ∧ F60_ 344 9 ≤ 5 := gi_g g61_ rfl
  rintro A1_ (⟨F81_, hA_, g82_, s83_, c78_, c79_, c80_⟩ | ⟨F87_, hA_, g88_, s89_, c84_, c85_, c86_⟩)
  ·
    subst hA_
    have g90_ : fs [(344, 344, 5, 5), (344, 344, 9, 10), (344, 344, 33, 33), (344, 344, 36, 36), (344, 344, 64, 64), (358, 358, 0, 100000), (360, 366, 0, 100000)] F F81_ := fs_tr g72_ s83_ rfl
    have rk91_ : rk K F81_ := rk_fs rk73_ s83_ (fs_rg rfl) rfl
    have c79_s := c79_.1 (by omega)
    clear c79_
    have b92_ : 0 ≤ F81_ 344 9 ∧ F81_ 344 9 ≤ 5 := gi_g g82_ rfl
    have b93_ : 0 ≤ F81_ 344 10 ∧ F81_ 344 10 ≤ 600 := gi_g g82_ rfl
    have b94_ : 0 ≤ F81_ 344 5 ∧ F81_ 344 5 ≤ 600 := gi_g g82_ rfl
    have e95_ : Fg 5 2 = F 5 2 := (hf_Fg 5 2 rfl).trans (rfl)
    have e96_ : F34_ 5 2 = F 5 2 := (s36_ 5 2 rfl).trans (e95_)
    have e97_ : F60_ 5 2 = F 5 2 := (s62_ 5 2 rfl).trans (e96_)
    have e98_ : F81_ 5 2 = F 5 2 := (s83_ 5 2 rfl).trans (e97_)
    have b99_ : 0 ≤ F 5 2 ∧ F 5 2 ≤ 600 := gi_g hgi rfl
    exact mb_184_166 hG F X hgi K nm ts pl ps hgK hrk hkt hp h0 h5 hnm hts hpl hps h33 fr lo hfr hlo F81_ g82_ g90_ rk91_ (by omega) (⟨by omega, by omega⟩) (⟨by intro h0_; have hs_ := c79_s; rw [hq_, sp_r3, sp_part]; rw [c32_]; simp only [pb_r]; rw [c58_]; simp only [pb_r]; rw [si1_fl hs_]; try (show Sum.inl _ = _); try (congr 2 <;> omega), fun h0_ => by exfalso; omega⟩) (⟨l, tl, (trm_fs (trm_fs (trm_fs ht_g s36_ (by first | exact fs_rg rfl | exact fun r j hj => (fs_n (by omega) (fs_n (by omega) rfl)))) s62_ (by first | exact fs_rg rfl | exact fun r j hj => (fs_n (by omega) (fs_n (by omega) rfl)))) s83_ (by first | exact fs_rg rfl | exact fun r j hj => (fs_n (by omega) (fs_n (by omega) (fs_n (by omega) (fs_n (by omega) rfl)))))), hlt_g⟩)
  subst hA_
  have g100_ : fs [(344, 344, 5, 5), (344, 344, 9, 10), (344, 344, 33, 33), (344, 344, 36, 36), (344, 344, 64, 64), (358, 358, 0, 100000), (360, 366, 0, 100000)] F F87_ := fs_tr g72_ s89_ rfl
  have rk101_ : rk K F87_ := rk_fs rk73_ s89_ (fs_rg rfl) rfl
  refine ga_aload_n (v := .ref 344) hm_184 rfl rfl rfl ?_
  refine fl_bipush hm_184 rfl rfl ?_
  have b102_ : 0 ≤ F87_ 344 5 ∧ F87_ 344 5 ≤ 600 := gi_g g88_ rfl
  refine gVv (nY := 2) (F := 2) (L := 41) (As := [.int (Int32.ofInt 41)]) (b := 344) (rest := []) hm_184 rfl hm_51 rfl rfl (fl_ob sc_344) rfl rfl rfl rfl rfl (by omega) (by omega) (mc_51 hG F87_ X g88_ (K) (41) (1) hgK rk101_ hkt (⟨by omega, by omega⟩) (by omega) (by omega)) (fun _ _ h => False.elim h) ?_
  have b104_ : 0 ≤ F87_ 344 10 ∧ F87_ 344 10 ≤ 600 := gi_g g88_ rfl
  have b105_ : 0 ≤ F87_ 344 9 ∧ F87_ 344 9 ≤ 5 := gi_g g88_ rfl
  rintro A1_ (⟨F109_, hA_, g110_, s111_, c106_, c107_, c108_⟩ | ⟨F115_, hA_, g116_, s117_, c112_, c113_, c114_⟩)
  ·
    subst hA_
    have g118_ : fs [(344, 344, 5, 5), (344, 344, 9, 10), (344, 344, 33, 33), (344, 344, 36, 36), (344, 344, 64, 64), (358, 358, 0, 100000), (360, 366, 0, 100000)] F F109_ := fs_tr g100_ s111_ rfl
    have rk119_ : rk K F109_ := rk_fs rk101_ s111_ (fs_rg rfl) rfl
    have c107_s := c107_.1 (by omega)
    clear c107_
    have b120_ : 0 ≤ F109_ 344 9 ∧ F109_ 344 9 ≤ 5 := gi_g g110_ rfl
    have b121_ : 0 ≤ F109_ 344 10 ∧ F109_ 344 10 ≤ 600 := gi_g g110_ rfl
    have b122_ : 0 ≤ F109_ 344 5 ∧ F109_ 344 5 ≤ 600 := gi_g g110_ rfl
    have e123_ : Fg 5 2 = F 5 2 := (hf_Fg 5 2 rfl).trans (rfl)
    have e124_ : F34_ 5 2 = F 5 2 := (s36_ 5 2 rfl).trans (e123_)
    have e125_ : F60_ 5 2 = F 5 2 := (s62_ 5 2 rfl).trans (e124_)
    have e126_ : F87_ 5 2 = F 5 2 := (s89_ 5 2 rfl).trans (e125_)
    have e127_ : F109_ 5 2 = F 5 2 := (s111_ 5 2 rfl).trans (e126_)
    have b128_ : 0 ≤ F 5 2 ∧ F 5 2 ≤ 600 := gi_g hgi rfl
    exact mb_184_172 hG F X hgi K nm ts pl ps hgK hrk hkt hp h0 h5 hnm hts hpl hps h33 fr lo hfr hlo F109_ g110_ g118_ rk119_ (by omega) (⟨by omega, by omega⟩) (⟨by intro h0_; have hs_ := c107_s; rw [hq_, sp_r3, sp_part]; rw [c32_]; simp only [pb_r]; rw [c58_]; simp only [pb_r]; rw [si1_ok c85_.1]; simp only [pb_r]; rw [hs_]; try (show Sum.inl _ = _); try (congr 2 <;> omega), fun h0_ => by exfalso; omega⟩) (⟨l, tl, (trm_fs (trm_fs (trm_fs (trm_fs ht_g s36_ (by first | exact fs_rg rfl | exact fun r j hj => (fs_n (by omega) (fs_n (by omega) rfl)))) s62_ (by first | exact fs_rg rfl | exact fun r j hj => (fs_n (by omega) (fs_n (by omega) rfl)))) s89_ (by first | exact fs_rg rfl | exact fun r j hj => (fs_n (by omega) (fs_n (by omega) (fs_n (by omega) (fs_n (by omega) rfl)))))) s111_ (by first | exact fs_rg rfl | exact fun r j hj => (fs_n (by omega) (fs_n (by omega) rfl)))), hlt_g⟩)
  subst hA_
  have g129_ : fs [(344, 344, 5, 5), (344, 344, 9, 10), (344, 344, 33, 33), (344, 344, 36, 36), (344, 344, 64, 64), (358, 358, 0, 100000), (360, 366, 0, 100000)] F F115_ := fs_tr g100_ s117_ rfl
  have rk130_ : rk K F115_ := rk_fs rk101_ s117_ (fs_rg rfl) rfl
  refine ga_aload_n (v := .ref 344) hm_184 rfl rfl rfl ?_
  refine fl_bipush hm_184 rfl rfl ?_
  have b131_ : 0 ≤ F115_ 344 5 ∧ F115_ 344 5 ≤ 600 := gi_g g116_ rfl
  refine gVv (nY := 2) (F := 2) (L := 41) (As := [.int (Int32.ofInt 40)]) (b := 344) (rest := []) hm_184 rfl hm_51 rfl rfl (fl_ob sc_344) rfl rfl rfl rfl rfl (by omega) (by omega) (mc_51 hG F115_ X g116_ (K) (40) (0) hgK rk130_ hkt (⟨by omega, by omega⟩) (by omega) (by omega)) (fun _ _ h => False.elim h) ?_
  have b133_ : 0 ≤ F115_ 344 10 ∧ F115_ 344 10 ≤ 600 := gi_g g116_ rfl
  have b134_ : 0 ≤ F115_ 344 9 ∧ F115_ 344 9 ≤ 5 := gi_g g116_ rfl
  rintro A1_ (⟨F138_, hA_, g139_, s140_, c135_, c136_, c137_⟩ | ⟨F144_, hA_, g145_, s146_, c141_, c142_, c143_⟩)
  ·
    subst hA_
    have g147_ : fs [(344, 344, 5, 5), (344, 344, 9, 10), (344, 344, 33, 33), (344, 344, 36, 36), (344, 344, 64, 64), (358, 358, 0, 100000), (360, 366, 0, 100000)] F F138_ := fs_tr g129_ s140_ rfl
    have rk148_ : rk K F138_ := rk_fs rk130_ s140_ (fs_rg rfl) rfl
    have c136_s := c136_.1 (by omega)
    clear c136_
    have b149_ : 0 ≤ F138_ 344 9 ∧ F138_ 344 9 ≤ 5 := gi_g g139_ rfl
    have b150_ : 0 ≤ F138_ 344 10 ∧ F138_ 344 10 ≤ 600 := gi_g g139_ rfl
    have b151_ : 0 ≤ F138_ 344 5 ∧ F138_ 344 5 ≤ 600 := gi_g g139_ rfl
    have e152_ : Fg 5 2 = F 5 2 := (hf_Fg 5 2 rfl).trans (rfl)
    have e153_ : F34_ 5 2 = F 5 2 := (s36_ 5 2 rfl).trans (e152_)
    have e154_ : F60_ 5 2 = F 5 2 := (s62_ 5 2 rfl).trans (e153_)
    have e155_ : F87_ 5 2 = F 5 2 := (s89_ 5 2 rfl).trans (e154_)
    have e156_ : F115_ 5 2 = F 5 2 := (s117_ 5 2 rfl).trans (e155_)
    have e157_ : F138_ 5 2 = F 5 2 := (s140_ 5 2 rfl).trans (e156_)
    have b158_ : 0 ≤ F 5 2 ∧ F 5 2 ≤ 600 := gi_g hgi rfl
    exact mb_184_178 hG F X hgi K nm ts pl ps hgK hrk hkt hp h0 h5 hnm hts hpl hps h33 fr lo hfr hlo F138_ g139_ g147_ rk148_ (by omega) (⟨by omega, by omega⟩) (⟨by intro h0_; have hs_ := c136_s; rw [hq_, sp_r3, sp_part]; rw [c32_]; simp only [pb_r]; rw [c58_]; simp only [pb_r]; rw [si1_ok c85_.1]; simp only [pb_r]; rw [c113_]; simp only [pb_r]; rw [sp_part]; rw [hs_]; try (show Sum.inl _ = _); try (congr 2 <;> omega), fun h0_ => by exfalso; omega⟩) (⟨l, tl, (trm_fs (trm_fs (trm_fs (trm_fs (trm_fs ht_g s36_ (by first | exact fs_rg rfl | exact fun r j hj => (fs_n (by omega) (fs_n (by omega) rfl)))) s62_ (by first | exact fs_rg rfl | exact fun r j hj => (fs_n (by omega) (fs_n (by omega) rfl)))) s89_ (by first | exact fs_rg rfl | exact fun r j hj => (fs_n (by omega) (fs_n (by omega) (fs_n (by omega) (fs_n (by omega) rfl)))))) s117_ (by first | exact fs_rg rfl | exact fun r j hj => (fs_n (by omega) (fs_n (by omega) rfl)))) s140_ (by first | exact fs_rg rfl | exact fun r j hj => (fs_n (by omega) (fs_n (by omega) rfl)))), hlt_g⟩)
  subst hA_
  have g159_ : fs [(344, 344, 5, 5), (344, 344, 9, 10), (344, 344, 33, 33), (344, 344, 36, 36), (344, 344, 64, 64), (358, 358, 0, 100000), (360, 366, 0, 100000)] F F144_ := fs_tr g129_ s146_ rfl
  have rk160_ : rk K F144_ := rk_fs rk130_ s146_ (fs_rg rfl) rfl
  refine ga_aload_n (v := .ref 344) hm_184 rfl rfl rfl ?_
  refine fl_bipush hm_184 rfl rfl ?_
  have b161_ : 0 ≤ F144_ 344 5 ∧ F144_ 344 5 ≤ 600 := gi_g g145_ rfl
  refine gVv (nY := 2) (F := 2) (L := 44) (As := [.int (Int32.ofInt 17)]) (b := 344) (rest := []) hm_184 rfl hm_55 rfl rfl (fl_ob sc_344) rfl rfl rfl rfl rfl (by omega) (by omega) (mc_55 hG F144_ X g145_ (K) (17) ([58, 103, 111, 97, 108]) hgK rk160_ hkt (⟨by omega, by omega⟩) (⟨by omega, by omega⟩) (by decide) (kw_17 rk160_)) (fun _ _ h => False.elim h) ?_
  have b163_ : 0 ≤ F144_ 344 10 ∧ F144_ 344 10 ≤ 600 := gi_g g145_ rfl
  have b164_ : 0 ≤ F144_ 344 9 ∧ F144_ 344 9 ≤ 5 := gi_g g145_ rfl
  rintro A1_ (⟨F168_, hA_, g169_, s170_, c165_, c166_, c167_⟩ | ⟨F174_, hA_, g175_, s176_, c171_, c172_, c173_⟩)
  ·
    subst hA_
    have g177_ : fs [(344, 344, 5, 5), (344, 344, 9, 10), (344, 344, 33, 33), (344, 344, 36, 36), (344, 344, 64, 64), (358, 358, 0, 100000), (360, 366, 0, 100000)] F F168_ := fs_tr g159_ s170_ rfl
    have rk178_ : rk K F168_ := rk_fs rk160_ s170_ (fs_rg rfl) rfl
    have c166_s := c166_.1 (by omega)
    clear c166_
    have b179_ : 0 ≤ F168_ 344 9 ∧ F168_ 344 9 ≤ 5 := gi_g g169_ rfl
    have b180_ : 0 ≤ F168_ 344 10 ∧ F168_ 344 10 ≤ 600 := gi_g g169_ rfl
    have b181_ : 0 ≤ F168_ 344 5 ∧ F168_ 344 5 ≤ 600 := gi_g g169_ rfl
    have e182_ : Fg 5 2 = F 5 2 := (hf_Fg 5 2 rfl).trans (rfl)
    have e183_ : F34_ 5 2 = F 5 2 := (s36_ 5 2 rfl).trans (e182_)
    have e184_ : F60_ 5 2 = F 5 2 := (s62_ 5 2 rfl).trans (e183_)
    have e185_ : F87_ 5 2 = F 5 2 := (s89_ 5 2 rfl).trans (e184_)
    have e186_ : F115_ 5 2 = F 5 2 := (s117_ 5 2 rfl).trans (e185_)
    have e187_ : F144_ 5 2 = F 5 2 := (s146_ 5 2 rfl).trans (e186_)
    have e188_ : F168_ 5 2 = F 5 2 := (s170_ 5 2 rfl).trans (e187_)
    have b189_ : 0 ≤ F 5 2 ∧ F 5 2 ≤ 600 := gi_g hgi rfl
    exact mb_184_184 hG F X hgi K nm ts pl ps hgK hrk hkt hp h0 h5 hnm hts hpl hps h33 fr lo hfr hlo F168_ g169_ g177_ rk178_ (by omega) (⟨by omega, by omega⟩) (⟨by intro h0_; have hs_ := c166_s; rw [hq_, sp_r3, sp_part]; rw [c32_]; simp only [pb_r]; rw [c58_]; simp only [pb_r]; rw [si1_ok c85_.1]; simp only [pb_r]; rw [c113_]; simp only [pb_r]; rw [sp_part]; rw [c142_]; simp only [pb_r]; rw [hs_]; try (show Sum.inl _ = _); try (congr 2 <;> omega), fun h0_ => by exfalso; omega⟩) (⟨l, tl, (trm_fs (trm_fs (trm_fs (trm_fs (trm_fs (trm_fs ht_g s36_ (by first | exact fs_rg rfl | exact fun r j hj => (fs_n (by omega) (fs_n (by omega) rfl)))) s62_ (by first | exact fs_rg rfl | exact fun r j hj => (fs_n (by omega) (fs_n (by omega) rfl)))) s89_ (by first | exact fs_rg rfl | exact fun r j hj => (fs_n (by omega) (fs_n (by omega) (fs_n (by omega) (fs_n (by omega) rfl)))))) s117_ (by first | exact fs_rg rfl | exact fun r j hj => (fs_n (by omega) (fs_n (by omega) rfl)))) s146_ (by first | exact fs_rg rfl | exact fun r j hj => (fs_n (by omega) (fs_n (by omega) rfl)))) s170_ (by first | exact fs_rg rfl | exact fun r j hj => (fs_n (by omega) (fs_n (by omega) rfl)))), hlt_g⟩)
  subst hA_
  have g190_ : fs [(344, 344, 5, 5), (344, 344, 9, 10), (344, 344, 33, 33), (344, 344, 36, 36), (344, 344, 64, 64), (358, 358, 0, 100000), (360, 366, 0, 100000)] F F174_ := fs_tr g159_ s176_ rfl
  have rk191_ : rk K F174_ := rk_fs rk160_ s176_ (fs_rg rfl) rfl
  refine ga_aload_n (v := .ref 344) hm_184 rfl rfl rfl ?_
  refine ga_getr (b := 358) hm_184 rfl sc_344 rfl ?_
  refine fl_iconst hm_184 rfl ?_
  refine fl_iconst hm_184 rfl ?_
  refine fl_iast (z := 5) (v := 0) hm_184 rfl sc_358 (by omega) (by omega) (by omega) ?_
  refine ga_aload_n (v := .ref 344) hm_184 rfl rfl rfl ?_
  refine fl_iconst hm_184 rfl ?_
  refine fl_bipush hm_184 rfl rfl ?_
  obtain ⟨F192_, q193_⟩ : ∃ Fq_, Fq_ = (fl_u F174_ 358 (5 : Int).toNat 0) := ⟨_, rfl⟩
  rw [← q193_]
  have g194_ : gi F192_ := by rw [q193_]; exact gi_u (g175_) rfl (by omega) (by omega)
  have g195_ : fs [(344, 344, 5, 5), (344, 344, 9, 10), (344, 344, 33, 33), (344, 344, 36, 36), (344, 344, 64, 64), (358, 358, 0, 100000), (360, 366, 0, 100000)] F F192_ := by rw [q193_]; exact fs_u (g190_) rfl
  have rk196_ : rk K F192_ := by rw [q193_]; exact rk_u (rk191_) (by first | decide | exact nc_ rfl | omega) (by first | decide | exact nc_ rfl | omega)
  have e197_ : F192_ 344 5 = F174_ 344 5 := by rw [q193_]; exact fl_u_ne (by first | exact nc_ rfl | decide | omega)
  have b198_ : 0 ≤ F174_ 344 5 ∧ F174_ 344 5 ≤ 600 := gi_g g175_ rfl
  refine gVv (nY := 4) (F := 6) (L := 142) (As := [.int (Int32.ofInt 5), .int (Int32.ofInt 40)]) (b := 344) (rest := []) hm_184 rfl hm_175 rfl rfl (fl_ob sc_344) rfl rfl rfl rfl rfl (by omega) (by omega) (mc_175 hG F192_ X g194_ (K) (5) (40) (2) (l) (tl) (pl) (ps) hgK rk196_ hkt (⟨by omega, by omega⟩) ((by rw [q193_]; exact (trm_u (trm_fs (trm_fs (trm_fs (trm_fs (trm_fs (trm_fs ht_g s36_ (by first | exact fs_rg rfl | exact fun r j hj => (fs_n (by omega) (fs_n (by omega) rfl)))) s62_ (by first | exact fs_rg rfl | exact fun r j hj => (fs_n (by omega) (fs_n (by omega) rfl)))) s89_ (by first | exact fs_rg rfl | exact fun r j hj => (fs_n (by omega) (fs_n (by omega) (fs_n (by omega) (fs_n (by omega) rfl)))))) s117_ (by first | exact fs_rg rfl | exact fun r j hj => (fs_n (by omega) (fs_n (by omega) rfl)))) s146_ (by first | exact fs_rg rfl | exact fun r j hj => (fs_n (by omega) (fs_n (by omega) rfl)))) s176_ (by first | exact fs_rg rfl | exact fun r j hj => (fs_n (by omega) (fs_n (by omega) rfl)))) (by first | decide | exact nc_ rfl | omega)))) (hlt_g) (⟨by omega, by omega⟩) ((by rw [q193_]; exact (rpn_u (rpn_fs (rpn_fs (rpn_fs (rpn_fs (rpn_fs (rpn_fs hpl_g s36_ (fun _ => (by first | exact fs_c rfl | exact (fs_n (by omega) (fs_n (by omega) rfl)))) (by first | exact fs_c rfl | exact (fs_n (by omega) (fs_n (by omega) rfl)))) s62_ (fun _ => (by first | exact fs_c rfl | exact (fs_n (by omega) (fs_n (by omega) rfl)))) (by first | exact fs_c rfl | exact (fs_n (by omega) (fs_n (by omega) rfl)))) s89_ (fun _ => (by first | exact fs_c rfl | exact (fs_n (by omega) (fs_n (by omega) (fs_n (by omega) (fs_n (by omega) rfl)))))) (by first | exact fs_c rfl | exact (fs_n (by omega) (fs_n (by omega) (fs_n (by omega) (fs_n (by omega) rfl)))))) s117_ (fun _ => (by first | exact fs_c rfl | exact (fs_n (by omega) (fs_n (by omega) rfl)))) (by first | exact fs_c rfl | exact (fs_n (by omega) (fs_n (by omega) rfl)))) s146_ (fun _ => (by first | exact fs_c rfl | exact (fs_n (by omega) (fs_n (by omega) rfl)))) (by first | exact fs_c rfl | exact (fs_n (by omega) (fs_n (by omega) rfl)))) s176_ (fun _ => (by first | exact fs_c rfl | exact (fs_n (by omega) (fs_n (by omega) rfl)))) (by first | exact fs_c rfl | exact (fs_n (by omega) (fs_n (by omega) rfl)))) (by first | decide | exact nc_ rfl | omega) (by first | decide | exact nc_ rfl | omega)))) (⟨(by rw [q193_]; exact (rprd_u (rprd_fs (rprd_fs (rprd_fs (rprd_fs (rprd_fs (rprd_fs hps_g.1 s36_ (by first | exact fs_rg rfl | exact fun r j hj => (fs_n (by omega) (fs_n (by omega) rfl)))) s62_ (by first | exact fs_rg rfl | exact fun r j hj => (fs_n (by omega) (fs_n (by omega) rfl)))) s89_ (by first | exact fs_rg rfl | exact fun r j hj => (fs_n (by omega) (fs_n (by omega) (fs_n (by omega) (fs_n (by omega) rfl)))))) s117_ (by first | exact fs_rg rfl | exact fun r j hj => (fs_n (by omega) (fs_n (by omega) rfl)))) s146_ (by first | exact fs_rg rfl | exact fun r j hj => (fs_n (by omega) (fs_n (by omega) rfl)))) s176_ (by first | exact fs_rg rfl | exact fun r j hj => (fs_n (by omega) (fs_n (by omega) rfl)))) (by first | decide | exact nc_ rfl | omega))), hps_g.2⟩) (⟨by omega, by omega⟩) (Or.inr (by omega)) (by rw [q193_]; exact fl_u_eq)) (fun _ _ h => False.elim h) ?_
  have e200_ : F192_ 344 10 = F174_ 344 10 := by rw [q193_]; exact fl_u_ne (by first | exact nc_ rfl | decide | omega)
  have b201_ : 0 ≤ F174_ 344 10 ∧ F174_ 344 10 ≤ 600 := gi_g g175_ rfl
  have e202_ : F192_ 344 9 = F174_ 344 9 := by rw [q193_]; exact fl_u_ne (by first | exact nc_ rfl | decide | omega)
  have b203_ : 0 ≤ F174_ 344 9 ∧ F174_ 344 9 ≤ 5 := gi_g g175_ rfl
  rintro A1_ (⟨F207_, hA_, g208_, s209_, c204_, c205_, c206_⟩ | ⟨F213_, hA_, g214_, s215_, c210_, c211_, c212_⟩)
  ·
    subst hA_
    have g216_ : fs [(344, 344, 5, 5), (344, 344, 9, 10), (344, 344, 33, 33), (344, 344, 36, 36), (344, 344, 64, 64), (358, 358, 0, 100000), (360, 366, 0, 100000)] F F207_ := fs_tr g195_ s209_ rfl
    have rk217_ : rk K F207_ := rk_fs rk196_ s209_ (fs_rg rfl) rfl
    try simp only [e197_, e200_, e202_] at c205_
    have c205_s := c205_.1 (by omega)
    clear c205_
    have b218_ : 0 ≤ F207_ 344 9 ∧ F207_ 344 9 ≤ 5 := gi_g g208_ rfl
    have b219_ : 0 ≤ F207_ 344 10 ∧ F207_ 344 10 ≤ 600 := gi_g g208_ rfl
    have b220_ : 0 ≤ F207_ 344 5 ∧ F207_ 344 5 ≤ 600 := gi_g g208_ rfl
    have e221_ : Fg 5 2 = F 5 2 := (hf_Fg 5 2 rfl).trans (rfl)
    have e222_ : F34_ 5 2 = F 5 2 := (s36_ 5 2 rfl).trans (e221_)
    have e223_ : F60_ 5 2 = F 5 2 := (s62_ 5 2 rfl).trans (e222_)
    have e224_ : F87_ 5 2 = F 5 2 := (s89_ 5 2 rfl).trans (e223_)
    have e225_ : F115_ 5 2 = F 5 2 := (s117_ 5 2 rfl).trans (e224_)
    have e226_ : F144_ 5 2 = F 5 2 := (s146_ 5 2 rfl).trans (e225_)
    have e227_ : F174_ 5 2 = F 5 2 := (s176_ 5 2 rfl).trans (e226_)
    have e228_ : F192_ 5 2 = F 5 2 := by rw [q193_]; exact (fl_u_ne (by first | exact nc_ rfl | decide | omega)).trans (e227_)
    have e229_ : F207_ 5 2 = F 5 2 := (s209_ 5 2 rfl).trans (e228_)
    have b230_ : 0 ≤ F 5 2 ∧ F 5 2 ≤ 600 := gi_g hgi rfl
    exact mb_184_198 hG F X hgi K nm ts pl ps hgK hrk hkt hp h0 h5 hnm hts hpl hps h33 fr lo hfr hlo F207_ g208_ g216_ rk217_ (by omega) (⟨by omega, by omega⟩) (⟨by intro h0_; have hs_ := c205_s; rw [hq_, sp_r3, sp_part]; rw [c32_]; simp only [pb_r]; rw [c58_]; simp only [pb_r]; rw [si1_ok c85_.1]; simp only [pb_r]; rw [c113_]; simp only [pb_r]; rw [sp_part]; rw [c142_]; simp only [pb_r]; rw [c172_]; simp only [pb_r]; rw [hs_]; try (show Sum.inl _ = _); try (congr 2 <;> omega), fun h0_ => by exfalso; omega⟩) (⟨l, tl, (trm_fs (by rw [q193_]; exact (trm_u (trm_fs (trm_fs (trm_fs (trm_fs (trm_fs (trm_fs ht_g s36_ (by first | exact fs_rg rfl | exact fun r j hj => (fs_n (by omega) (fs_n (by omega) rfl)))) s62_ (by first | exact fs_rg rfl | exact fun r j hj => (fs_n (by omega) (fs_n (by omega) rfl)))) s89_ (by first | exact fs_rg rfl | exact fun r j hj => (fs_n (by omega) (fs_n (by omega) (fs_n (by omega) (fs_n (by omega) rfl)))))) s117_ (by first | exact fs_rg rfl | exact fun r j hj => (fs_n (by omega) (fs_n (by omega) rfl)))) s146_ (by first | exact fs_rg rfl | exact fun r j hj => (fs_n (by omega) (fs_n (by omega) rfl)))) s176_ (by first | exact fs_rg rfl | exact fun r j hj => (fs_n (by omega) (fs_n (by omega) rfl)))) (by first | decide | exact nc_ rfl | omega))) s209_ (by first | exact fs_rg rfl | exact fun r j hj => (fs_n (by omega) (fs_n (by omega) (fs_n (by omega) (fs_n (by omega) rfl)))))), hlt_g⟩)
  subst hA_
  have g231_ : fs [(344, 344, 5, 5), (344, 344, 9, 10), (344, 344, 33, 33), (344, 344, 36, 36), (344, 344, 64, 64), (358, 358, 0, 100000), (360, 366, 0, 100000)] F F213_ := fs_tr g195_ s215_ rfl
  have rk232_ : rk K F213_ := rk_fs rk196_ s215_ (fs_rg rfl) rfl
  try simp only [e202_] at c210_
  try simp only [e197_] at c211_
  refine ga_aload_n (v := .ref 344) hm_184 rfl rfl rfl ?_
  refine fl_bipush hm_184 rfl rfl ?_
  have b233_ : 0 ≤ F213_ 344 5 ∧ F213_ 344 5 ≤ 600 := gi_g g214_ rfl
  refine gVv (nY := 2) (F := 2) (L := 41) (As := [.int (Int32.ofInt 41)]) (b := 344) (rest := []) hm_184 rfl hm_51 rfl rfl (fl_ob sc_344) rfl rfl rfl rfl rfl (by omega) (by omega) (mc_51 hG F213_ X g214_ (K) (41) (1) hgK rk232_ hkt (⟨by omega, by omega⟩) (by omega) (by omega)) (fun _ _ h => False.elim h) ?_
  have b235_ : 0 ≤ F213_ 344 10 ∧ F213_ 344 10 ≤ 600 := gi_g g214_ rfl
  have b236_ : 0 ≤ F213_ 344 9 ∧ F213_ 344 9 ≤ 5 := gi_g g214_ rfl
  rintro A1_ (⟨F240_, hA_, g241_, s242_, c237_, c238_, c239_⟩ | ⟨F246_, hA_, g247_, s248_, c243_, c244_, c245_⟩)
  ·
    subst hA_
    have g249_ : fs [(344, 344, 5, 5), (344, 344, 9, 10), (344, 344, 33, 33), (344, 344, 36, 36), (344, 344, 64, 64), (358, 358, 0, 100000), (360, 366, 0, 100000)] F F240_ := fs_tr g231_ s242_ rfl
    have rk250_ : rk K F240_ := rk_fs rk232_ s242_ (fs_rg rfl) rfl
    have c238_s := c238_.1 (by omega)
    clear c238_
    have b251_ : 0 ≤ F240_ 344 9 ∧ F240_ 344 9 ≤ 5 := gi_g g241_ rfl
    have b252_ : 0 ≤ F240_ 344 10 ∧ F240_ 344 10 ≤ 600 := gi_g g241_ rfl
    have b253_ : 0 ≤ F240_ 344 5 ∧ F240_ 344 5 ≤ 600 := gi_g g241_ rfl
    have e254_ : Fg 5 2 = F 5 2 := (hf_Fg 5 2 rfl).trans (rfl)
    have e255_ : F34_ 5 2 = F 5 2 := (s36_ 5 2 rfl).trans (e254_)
    have e256_ : F60_ 5 2 = F 5 2 := (s62_ 5 2 rfl).trans (e255_)
    have e257_ : F87_ 5 2 = F 5 2 := (s89_ 5 2 rfl).trans (e256_)
    have e258_ : F115_ 5 2 = F 5 2 := (s117_ 5 2 rfl).trans (e257_)
    have e259_ : F144_ 5 2 = F 5 2 := (s146_ 5 2 rfl).trans (e258_)
    have e260_ : F174_ 5 2 = F 5 2 := (s176_ 5 2 rfl).trans (e259_)
    have e261_ : F192_ 5 2 = F 5 2 := by rw [q193_]; exact (fl_u_ne (by first | exact nc_ rfl | decide | omega)).trans (e260_)
    have e262_ : F213_ 5 2 = F 5 2 := (s215_ 5 2 rfl).trans (e261_)
    have e263_ : F240_ 5 2 = F 5 2 := (s242_ 5 2 rfl).trans (e262_)
    have b264_ : 0 ≤ F 5 2 ∧ F 5 2 ≤ 600 := gi_g hgi rfl
    exact mb_184_204 hG F X hgi K nm ts pl ps hgK hrk hkt hp h0 h5 hnm hts hpl hps h33 fr lo hfr hlo F240_ g241_ g249_ rk250_ (by omega) (⟨by omega, by omega⟩) (⟨by intro h0_; have hs_ := c238_s; rw [hq_, sp_r3, sp_part]; rw [c32_]; simp only [pb_r]; rw [c58_]; simp only [pb_r]; rw [si1_ok c85_.1]; simp only [pb_r]; rw [c113_]; simp only [pb_r]; rw [sp_part]; rw [c142_]; simp only [pb_r]; rw [c172_]; simp only [pb_r]; rw [c211_]; simp only [pb_r]; rw [hs_]; try (show Sum.inl _ = _); try (congr 2 <;> omega), fun h0_ => by exfalso; omega⟩) (⟨l, tl, (trm_fs (trm_fs (by rw [q193_]; exact (trm_u (trm_fs (trm_fs (trm_fs (trm_fs (trm_fs (trm_fs ht_g s36_ (by first | exact fs_rg rfl | exact fun r j hj => (fs_n (by omega) (fs_n (by omega) rfl)))) s62_ (by first | exact fs_rg rfl | exact fun r j hj => (fs_n (by omega) (fs_n (by omega) rfl)))) s89_ (by first | exact fs_rg rfl | exact fun r j hj => (fs_n (by omega) (fs_n (by omega) (fs_n (by omega) (fs_n (by omega) rfl)))))) s117_ (by first | exact fs_rg rfl | exact fun r j hj => (fs_n (by omega) (fs_n (by omega) rfl)))) s146_ (by first | exact fs_rg rfl | exact fun r j hj => (fs_n (by omega) (fs_n (by omega) rfl)))) s176_ (by first | exact fs_rg rfl | exact fun r j hj => (fs_n (by omega) (fs_n (by omega) rfl)))) (by first | decide | exact nc_ rfl | omega))) s215_ (by first | exact fs_rg rfl | exact fun r j hj => (fs_n (by omega) (fs_n (by omega) (fs_n (by omega) (fs_n (by omega) rfl)))))) s242_ (by first | exact fs_rg rfl | exact fun r j hj => (fs_n (by omega) (fs_n (by omega) rfl)))), hlt_g⟩)
  subst hA_
  have g265_ : fs [(344, 344, 5, 5), (344, 344, 9, 10), (344, 344, 33, 33), (344, 344, 36, 36), (344, 344, 64, 64), (358, 358, 0, 100000), (360, 366, 0, 100000)] F F246_ := fs_tr g231_ s248_ rfl
  have rk266_ : rk K F246_ := rk_fs rk232_ s248_ (fs_rg rfl) rfl
  refine ga_aload_n (v := .ref 344) hm_184 rfl rfl rfl ?_
  refine fl_bipush hm_184 rfl rfl ?_
  have b267_ : 0 ≤ F246_ 344 5 ∧ F246_ 344 5 ≤ 600 := gi_g g247_ rfl
  refine gVv (nY := 2) (F := 2) (L := 41) (As := [.int (Int32.ofInt 41)]) (b := 344) (rest := []) hm_184 rfl hm_51 rfl rfl (fl_ob sc_344) rfl rfl rfl rfl rfl (by omega) (by omega) (mc_51 hG F246_ X g247_ (K) (41) (1) hgK rk266_ hkt (⟨by omega, by omega⟩) (by omega) (by omega)) (fun _ _ h => False.elim h) ?_
  have b269_ : 0 ≤ F246_ 344 10 ∧ F246_ 344 10 ≤ 600 := gi_g g247_ rfl
  have b270_ : 0 ≤ F246_ 344 9 ∧ F246_ 344 9 ≤ 5 := gi_g g247_ rfl
  rintro A1_ (⟨F274_, hA_, g275_, s276_, c271_, c272_, c273_⟩ | ⟨F280_, hA_, g281_, s282_, c277_, c278_, c279_⟩)
  ·
    subst hA_
    have g283_ : fs [(344, 344, 5, 5), (344, 344, 9, 10), (344, 344, 33, 33), (344, 344, 36, 36), (344, 344, 64, 64), (358, 358, 0, 100000), (360, 366, 0, 100000)] F F274_ := fs_tr g265_ s276_ rfl
    have rk284_ : rk K F274_ := rk_fs rk266_ s276_ (fs_rg rfl) rfl
    have c272_s := c272_.1 (by omega)
    clear c272_
    have b285_ : 0 ≤ F274_ 344 9 ∧ F274_ 344 9 ≤ 5 := gi_g g275_ rfl
    have b286_ : 0 ≤ F274_ 344 10 ∧ F274_ 344 10 ≤ 600 := gi_g g275_ rfl
    have b287_ : 0 ≤ F274_ 344 5 ∧ F274_ 344 5 ≤ 600 := gi_g g275_ rfl
    have e288_ : Fg 5 2 = F 5 2 := (hf_Fg 5 2 rfl).trans (rfl)
    have e289_ : F34_ 5 2 = F 5 2 := (s36_ 5 2 rfl).trans (e288_)
    have e290_ : F60_ 5 2 = F 5 2 := (s62_ 5 2 rfl).trans (e289_)
    have e291_ : F87_ 5 2 = F 5 2 := (s89_ 5 2 rfl).trans (e290_)
    have e292_ : F115_ 5 2 = F 5 2 := (s117_ 5 2 rfl).trans (e291_)
    have e293_ : F144_ 5 2 = F 5 2 := (s146_ 5 2 rfl).trans (e292_)
    have e294_ : F174_ 5 2 = F 5 2 := (s176_ 5 2 rfl).trans (e293_)
    have e295_ : F192_ 5 2 = F 5 2 := by rw [q193_]; exact (fl_u_ne (by first | exact nc_ rfl | decide | omega)).trans (e294_)
    have e296_ : F213_ 5 2 = F 5 2 := (s215_ 5 2 rfl).trans (e295_)
    have e297_ : F246_ 5 2 = F 5 2 := (s248_ 5 2 rfl).trans (e296_)
    have e298_ : F274_ 5 2 = F 5 2 := (s276_ 5 2 rfl).trans (e297_)
    have b299_ : 0 ≤ F 5 2 ∧ F 5 2 ≤ 600 := gi_g hgi rfl
    exact mb_184_210 hG F X hgi K nm ts pl ps hgK hrk hkt hp h0 h5 hnm hts hpl hps h33 fr lo hfr hlo F274_ g275_ g283_ rk284_ (by omega) (⟨by omega, by omega⟩) (⟨by intro h0_; have hs_ := c272_s; rw [hq_, sp_r3, sp_part]; rw [c32_]; simp only [pb_r]; rw [c58_]; simp only [pb_r]; rw [si1_ok c85_.1]; simp only [pb_r]; rw [c113_]; simp only [pb_r]; rw [sp_part]; rw [c142_]; simp only [pb_r]; rw [c172_]; simp only [pb_r]; rw [c211_]; simp only [pb_r]; rw [c244_]; simp only [pb_r]; rw [sp_close]; rw [hs_]; try (show Sum.inl _ = _); try (congr 2 <;> omega), fun h0_ => by exfalso; omega⟩) (⟨l, tl, (trm_fs (trm_fs (trm_fs (by rw [q193_]; exact (trm_u (trm_fs (trm_fs (trm_fs (trm_fs (trm_fs (trm_fs ht_g s36_ (by first | exact fs_rg rfl | exact fun r j hj => (fs_n (by omega) (fs_n (by omega) rfl)))) s62_ (by first | exact fs_rg rfl | exact fun r j hj => (fs_n (by omega) (fs_n (by omega) rfl)))) s89_ (by first | exact fs_rg rfl | exact fun r j hj => (fs_n (by omega) (fs_n (by omega) (fs_n (by omega) (fs_n (by omega) rfl)))))) s117_ (by first | exact fs_rg rfl | exact fun r j hj => (fs_n (by omega) (fs_n (by omega) rfl)))) s146_ (by first | exact fs_rg rfl | exact fun r j hj => (fs_n (by omega) (fs_n (by omega) rfl)))) s176_ (by first | exact fs_rg rfl | exact fun r j hj => (fs_n (by omega) (fs_n (by omega) rfl)))) (by first | decide | exact nc_ rfl | omega))) s215_ (by first | exact fs_rg rfl | exact fun r j hj => (fs_n (by omega) (fs_n (by omega) (fs_n (by omega) (fs_n (by omega) rfl)))))) s248_ (by first | exact fs_rg rfl | exact fun r j hj => (fs_n (by omega) (fs_n (by omega) rfl)))) s276_ (by first | exact fs_rg rfl | exact fun r j hj => (fs_n (by omega) (fs_n (by omega) rfl)))), hlt_g⟩)
  subst hA_
  have g300_ : fs [(344, 344, 5, 5), (344, 344, 9, 10), (344, 344, 33, 33), (344, 344, 36, 36), (344, 344, 64, 64), (358, 358, 0, 100000), (360, 366, 0, 100000)] F F280_ := fs_tr g265_ s282_ rfl
  have rk301_ : rk K F280_ := rk_fs rk266_ s282_ (fs_rg rfl) rfl
  refine ga_aload_n (v := .ref 344) hm_184 rfl rfl rfl ?_
  refine gIi (nY := 1) (F := 0) (L := 0) (As := []) (b := 344) (rest := []) hm_184 rfl hm_59 rfl rfl (fl_ob sc_344) rfl rfl rfl rfl rfl (by omega) (by omega) ?_
  intro f302_ l303_ h304_ h305_
  show fl_R xi_ms 59 f302_ l303_ 0 [(0, .ref 344)] [] _ _
  refine ga_aload_n (v := .ref 344) hm_59 rfl rfl rfl ?_
  have b306_ : 0 ≤ F280_ 344 9 ∧ F280_ 344 9 ≤ 5 := gi_g g281_ rfl
  refine ga_geti (z := F280_ 344 9) hm_59 rfl sc_344 rfl (rfl) ?_
  refine fl_if_le (a := F280_ 344 9) hm_59 rfl ⟨by omega, by omega⟩ (fun h307_ => ?_) (fun h308_ => ?_)
  ·
    refine fl_iconst hm_59 rfl ?_
    refine gr_i hm_59 rfl rfl (ga_nb (by omega)) ?_
    clear h304_ h305_ f302_ l303_
    refine fl_if_ne hm_184 rfl ⟨by omega, by omega⟩ (fun h => absurd h (by omega)) (fun _ => ?_)
    refine ga_aload_n (v := .ref 344) hm_184 rfl rfl rfl ?_
    have b309_ : 0 ≤ F280_ 344 5 ∧ F280_ 344 5 ≤ 600 := gi_g g281_ rfl
    refine ga_geti (z := F280_ 344 5) hm_184 rfl sc_344 rfl (rfl) ?_
    refine ga_aload_n (v := .ref 344) hm_184 rfl rfl rfl ?_
    have e310_ : F280_ 344 4 = K 1 6 - 1 := rk301_.2.1
    refine ga_geti (z := K 1 6 - 1) hm_184 rfl sc_344 rfl (e310_) ?_
    refine fl_icmp_ge (a := F280_ 344 5) (b := K 1 6 - 1) hm_184 rfl ⟨by omega, by omega⟩ ⟨by omega, by omega⟩ (fun h311_ => ?_) (fun h312_ => ?_)
    ·
      refine gr_v hm_184 rfl rfl ?_
      have b313_ : 0 ≤ F 344 9 ∧ F 344 9 ≤ 5 := gi_g hgi rfl
      exact Or.inr (⟨F280_, rfl, g281_, g300_, (by omega), (⟨l, tl, by rw [hq_, sp_r3, sp_part]; rw [c32_]; simp only [pb_r]; rw [c58_]; simp only [pb_r]; rw [si1_ok c85_.1]; simp only [pb_r]; rw [c113_]; simp only [pb_r]; rw [sp_part]; rw [c142_]; simp only [pb_r]; rw [c172_]; simp only [pb_r]; rw [c211_]; simp only [pb_r]; rw [c244_]; simp only [pb_r]; rw [sp_close]; rw [c278_]; simp only [pb_r]; rw [sp_kind, if_pos ((rkt_p hkt (p := F280_ 344 5) (by omega) (by omega) hgK).2.2 (by omega)).2]; simp only [pb_r]⟩), (⟨by omega, by omega⟩)⟩)
    refine ga_aload_n (v := .ref 344) hm_184 rfl rfl rfl ?_
    refine fl_iconst hm_184 rfl ?_
    refine gVv (nY := 2) (F := 0) (L := 0) (As := [.int (Int32.ofInt 1)]) (b := 344) (rest := []) hm_184 rfl hm_54 rfl rfl (fl_ob sc_344) rfl rfl rfl rfl rfl (by omega) (by omega) (mc_54 hG F280_ X g281_ (K) (1) hgK rk301_ hkt (⟨by omega, by omega⟩) (⟨by omega, by omega⟩)) (fun _ _ h => False.elim h) ?_
    have b315_ : 0 ≤ F280_ 344 10 ∧ F280_ 344 10 ≤ 600 := gi_g g281_ rfl
    rintro A1_ ⟨F319_, hA_, g320_, s321_, c316_, c317_, c318_⟩
    subst hA_
    have g322_ : fs [(344, 344, 5, 5), (344, 344, 9, 10), (344, 344, 33, 33), (344, 344, 36, 36), (344, 344, 64, 64), (358, 358, 0, 100000), (360, 366, 0, 100000)] F F319_ := fs_tr g300_ s321_ rfl
    have rk323_ : rk K F319_ := rk_fs rk301_ s321_ (fs_rg rfl) rfl
    have c317_s := c317_.1 (by omega)
    clear c317_
    refine gr_v hm_184 rfl rfl ?_
    have b324_ : 0 ≤ F319_ 344 9 ∧ F319_ 344 9 ≤ 5 := gi_g g320_ rfl
    have e325_ : F319_ 344 5 = F280_ 344 5 := (s321_ 344 5 rfl).trans (rfl)
    have b326_ : 0 ≤ F319_ 344 10 ∧ F319_ 344 10 ≤ 600 := gi_g g320_ rfl
    have b327_ : 0 ≤ F 344 10 ∧ F 344 10 ≤ 600 := gi_g hgi rfl
    have b328_ : 0 ≤ F 344 9 ∧ F 344 9 ≤ 5 := gi_g hgi rfl
    exact Or.inl ⟨F319_, rfl, g320_, g322_, (by omega), (⟨by intro h0_; have hs_ := c317_s; rw [hq_, sp_r3, sp_part]; rw [c32_]; simp only [pb_r]; rw [c58_]; simp only [pb_r]; rw [si1_ok c85_.1]; simp only [pb_r]; rw [c113_]; simp only [pb_r]; rw [sp_part]; rw [c142_]; simp only [pb_r]; rw [c172_]; simp only [pb_r]; rw [c211_]; simp only [pb_r]; rw [c244_]; simp only [pb_r]; rw [sp_close]; rw [c278_]; simp only [pb_r]; rw [sp_kind, if_neg (hko.2.2 (F280_ 344 5) (by omega) (by omega)).1]; show Sum.inl (1, K 4 _) = _; congr 2 <;> omega, fun h0_ => by exfalso; omega⟩), (⟨by omega, by omega⟩)⟩
  exfalso; omega
set_option maxHeartbeats 16000000 in
theorem mg_184_98 {G : Nat → Nat → Option Nat} (hG : gg G) (F : fl_N) (X : xi_H) (hgi : gi F) (K : fl_N) (nm : Int) (ts pl : List Int) (ps : List (List Int)) (hgK : gi K) (hrk : rk K F) (hkt : rkt K) (hp : 0 ≤ F 344 5 ∧ F 344 5 ≤ K 1 6 - 1) (h0 : F 344 9 = 0) (h5 : F 344 5 = 0) (hnm : nrel nm (F 344 14)) (hts : rpn (F 349) (F 344 15) ts) (hpl : rpn (F 350) (F 344 17) pl) (hps : rprd F ps ∧ ps.length = pl.length) (h33 : F 344 33 = 0) (fr lo : Nat) (hfr : 7 ≤ fr) (hlo : 165 ≤ lo) (Fg : fl_N) (hg_Fg : gi Fg) (hf_Fg : fs [(344, 344, 5, 5), (344, 344, 9, 10), (344, 344, 33, 33), (344, 344, 36, 36), (344, 344, 64, 64), (358, 358, 0, 100000), (360, 366, 0, 100000)] F Fg) (hrk_g : rk K Fg) (h0g : Fg 344 9 = 0 ∧ F 344 9 = 0) (hp_g : 0 ≤ Fg 344 5 ∧ Fg 344 5 ≤ K 1 6 - 1) (hq_ : sp_prb K nm ts pl ps = sp_r2 K ts pl ps (Fg 344 5)) (hts_g : rpn (Fg 349) (Fg 344 15) ts) (hpl_g : rpn (Fg 350) (Fg 344 17) pl) (hps_g : rprd Fg ps ∧ ps.length = pl.length) (h33g : Fg 344 33 = 0) : fl_R xi_ms 184 fr lo 98 [(0, .ref 344)] [] (fl_H sh_T G Fg ++ X) (pq_184 G F X K nm ts pl ps) := by
  have hP := (rkt_p hkt hp.1 hp.2 hgK).1
  have hK16 : 0 ≤ K 1 6 ∧ K 1 6 ≤ 601 := gi_g hgK rfl
  have hko := hkt.1
  refine fl_iconst hm_184 rfl ?_
  refine ga_istore_n (lv2 := [(3, .int (Int32.ofInt 1)), (0, .ref 344)]) hm_184 rfl (Nat.le_of_ble_eq_true rfl) rfl ?_
  have b24_ : 0 ≤ Fg 344 5 ∧ Fg 344 5 ≤ 600 := gi_g hg_Fg rfl
  have L22_ : ∀ (n21_ : Nat) (mo : Int) (l : List Int) (tl : List Int) (F1 : fl_N), (7 - F1 344 33 : Int).toNat = n21_ → (gi F1) → (fs [(344, 344, 5, 5), (344, 344, 9, 10), (344, 344, 33, 33), (364, 365, 0, 100000)] Fg F1) → (F1 344 9 = 0) → ((mo = 1 ∧ ((l.length : Int) = 0 ∨ ¬ K 3 (F1 344 5).toNat = 1)) ∨ (mo = 0 ∧ 0 < (l.length : Int) ∧ K 3 (F1 344 5).toNat = 1)) → (0 ≤ F1 344 5 ∧ F1 344 5 ≤ K 1 6 - 1) → (trm F1 5 2 l tl ∧ l.length = tl.length) → (sp_objs K ts 6 [] [] (Fg 344 5) = sp_objs K ts (6 - l.length) l tl (F1 344 5)) → fl_R xi_ms 184 fr lo 100 [(3, .int (Int32.ofInt mo)), (0, .ref 344)] [] (fl_H sh_T G F1 ++ X) (pq_184 G F X K nm ts pl ps) := by
    intro n21_
    induction n21_ using Nat.strongRecOn with
    | ind n21_ ih23_ =>
    intro mo l tl F1 hn25_ hg_F1 hf_F1 hk hmo hp1 ht1 hspo
    have g26_ : fs [(344, 344, 5, 5), (344, 344, 9, 10), (344, 344, 33, 33), (344, 344, 36, 36), (344, 344, 64, 64), (358, 358, 0, 100000), (360, 366, 0, 100000)] F F1 := fs_tr hf_Fg hf_F1 rfl
    have rk27_ : rk K F1 := rk_fs hrk_g hf_F1 (fs_rg rfl) rfl
    have hP1 := (rkt_p hkt (p := F1 344 5) (by omega) (by omega) hgK).1
    have hb33 : 0 ≤ F1 344 33 ∧ F1 344 33 ≤ 6 := gi_g hg_F1 rfl
    have hT1_ := (tr5 ht1.1).1.1
    refine ga_iload_n (z := mo) hm_184 rfl rfl ?_
    refine fl_if_eq (a := mo) hm_184 rfl ⟨by omega, by omega⟩ (fun h28_ => ?_) (fun h29_ => ?_)
    ·
      refine ga_aload_n (v := .ref 344) hm_184 rfl rfl rfl ?_
      refine fl_bipush hm_184 rfl rfl ?_
      have b30_ : 0 ≤ F1 344 5 ∧ F1 344 5 ≤ 600 := gi_g hg_F1 rfl
      refine gVv (nY := 2) (F := 2) (L := 41) (As := [.int (Int32.ofInt 41)]) (b := 344) (rest := []) hm_184 rfl hm_51 rfl rfl (fl_ob sc_344) rfl rfl rfl rfl rfl (by omega) (by omega) (mc_51 hG F1 X hg_F1 (K) (41) (1) hgK rk27_ hkt (⟨by omega, by omega⟩) (by omega) (by omega)) (fun _ _ h => False.elim h) ?_
      have b32_ : 0 ≤ F1 344 10 ∧ F1 344 10 ≤ 600 := gi_g hg_F1 rfl
      have b33_ : 0 ≤ F1 344 9 ∧ F1 344 9 ≤ 5 := gi_g hg_F1 rfl
      rintro A1_ (⟨F37_, hA_, g38_, s39_, c34_, c35_, c36_⟩ | ⟨F43_, hA_, g44_, s45_, c40_, c41_, c42_⟩)
      ·
        subst hA_
        have g46_ : fs [(344, 344, 5, 5), (344, 344, 9, 10), (344, 344, 33, 33), (344, 344, 36, 36), (344, 344, 64, 64), (358, 358, 0, 100000), (360, 366, 0, 100000)] F F37_ := fs_tr g26_ s39_ rfl
        have rk47_ : rk K F37_ := rk_fs rk27_ s39_ (fs_rg rfl) rfl
        have c35_s := c35_.1 (by omega)
        clear c35_
        have b48_ : 0 ≤ F37_ 344 9 ∧ F37_ 344 9 ≤ 5 := gi_g g38_ rfl
        have b49_ : 0 ≤ F37_ 344 10 ∧ F37_ 344 10 ≤ 600 := gi_g g38_ rfl
        have b50_ : 0 ≤ F37_ 344 5 ∧ F37_ 344 5 ≤ 600 := gi_g g38_ rfl
        have e51_ : Fg 5 2 = F 5 2 := (hf_Fg 5 2 rfl).trans (rfl)
        have e52_ : F1 5 2 = F 5 2 := (hf_F1 5 2 rfl).trans (e51_)
        have e53_ : F37_ 5 2 = F 5 2 := (s39_ 5 2 rfl).trans (e52_)
        have b54_ : 0 ≤ F 5 2 ∧ F 5 2 ≤ 600 := gi_g hgi rfl
        exact fl_R_sub (lv' := [(0, .ref 344)]) rfl rfl (mb_184_139 hG F X hgi K nm ts pl ps hgK hrk hkt hp h0 h5 hnm hts hpl hps h33 fr lo hfr hlo F37_ g38_ g46_ rk47_ (by omega) (⟨by omega, by omega⟩) (⟨by intro h0_; have hs_ := c35_s; rw [hq_, sp_r2]; rw [hspo, so_e (by omega) (by omega)]; simp only [pb_r]; rw [hs_]; try (show Sum.inl _ = _); try (congr 2 <;> omega), fun h0_ => by exfalso; omega⟩) (⟨l, tl, (trm_fs ht1.1 s39_ (by first | exact fs_rg rfl | exact fun r j hj => (fs_n (by omega) (fs_n (by omega) rfl)))), ht1.2⟩))
      subst hA_
      have g55_ : fs [(344, 344, 5, 5), (344, 344, 9, 10), (344, 344, 33, 33), (344, 344, 36, 36), (344, 344, 64, 64), (358, 358, 0, 100000), (360, 366, 0, 100000)] F F43_ := fs_tr g26_ s45_ rfl
      have rk56_ : rk K F43_ := rk_fs rk27_ s45_ (fs_rg rfl) rfl
      refine ga_aload_n (v := .ref 344) hm_184 rfl rfl rfl ?_
      refine gIi (nY := 1) (F := 0) (L := 0) (As := []) (b := 344) (rest := []) hm_184 rfl hm_59 rfl rfl (fl_ob sc_344) rfl rfl rfl rfl rfl (by omega) (by omega) ?_
      intro f57_ l58_ h59_ h60_
      show fl_R xi_ms 59 f57_ l58_ 0 [(0, .ref 344)] [] _ _
      refine ga_aload_n (v := .ref 344) hm_59 rfl rfl rfl ?_
      have b61_ : 0 ≤ F43_ 344 9 ∧ F43_ 344 9 ≤ 5 := gi_g g44_ rfl
      refine ga_geti (z := F43_ 344 9) hm_59 rfl sc_344 rfl (rfl) ?_
      refine fl_if_le (a := F43_ 344 9) hm_59 rfl ⟨by omega, by omega⟩ (fun h62_ => ?_) (fun h63_ => ?_)
      ·
        refine fl_iconst hm_59 rfl ?_
        refine gr_i hm_59 rfl rfl (ga_nb (by omega)) ?_
        clear h59_ h60_ f57_ l58_
        refine fl_if_ne hm_184 rfl ⟨by omega, by omega⟩ (fun h => absurd h (by omega)) (fun _ => ?_)
        refine ga_aload_n (v := .ref 344) hm_184 rfl rfl rfl ?_
        refine gVv (nY := 6) (F := 1) (L := 22) (As := []) (b := 344) (rest := []) hm_184 rfl hm_171 rfl rfl (fl_ob sc_344) rfl rfl rfl rfl rfl (by omega) (by omega) (mc_171 hG F43_ X g44_) (fun _ _ h => False.elim h) ?_
        rintro A1_ ⟨F65_, hA_, g66_, s67_⟩
        subst hA_
        have g68_ : fs [(344, 344, 5, 5), (344, 344, 9, 10), (344, 344, 33, 33), (344, 344, 36, 36), (344, 344, 64, 64), (358, 358, 0, 100000), (360, 366, 0, 100000)] F F65_ := fs_tr g55_ s67_ rfl
        have rk69_ : rk K F65_ := rk_fs rk56_ s67_ (fs_rg rfl) rfl
        have e70_ : F65_ 344 9 = F43_ 344 9 := (s67_ 344 9 rfl).trans (rfl)
        have e71_ : F65_ 344 10 = F43_ 344 10 := (s67_ 344 10 rfl).trans (rfl)
        have b72_ : 0 ≤ F43_ 344 10 ∧ F43_ 344 10 ≤ 600 := gi_g g44_ rfl
        have e73_ : F65_ 344 5 = F43_ 344 5 := (s67_ 344 5 rfl).trans (rfl)
        have b74_ : 0 ≤ F43_ 344 5 ∧ F43_ 344 5 ≤ 600 := gi_g g44_ rfl
        exact fl_R_sub (lv' := [(0, .ref 344)]) rfl rfl (mg_184_150 hG F X hgi K nm ts pl ps hgK hrk hkt hp h0 h5 hnm hts hpl hps h33 fr lo hfr hlo F65_ (l) (tl) g66_ g68_ rk69_ ⟨by omega, by omega⟩ ⟨by omega, by omega⟩ (by rw [hq_, sp_r2]; rw [hspo, so_e (by omega) (by omega)]; simp only [pb_r]; rw [c41_]; simp only [pb_r]; first | rfl | (congr 1; omega)) ((trm_fs (trm_fs ht1.1 s45_ (by first | exact fs_rg rfl | exact fun r j hj => (fs_n (by omega) (fs_n (by omega) rfl)))) s67_ (by first | exact fs_rg rfl | exact fun r j hj => (fs_n (by omega) (fs_n (by omega) rfl))))) (ht1.2) ((rpn_fs (rpn_fs (rpn_fs hpl_g hf_F1 (fun _ => (by first | exact fs_c rfl | exact (fs_n (by omega) (fs_n (by omega) (fs_n (by omega) (fs_n (by omega) rfl)))))) (by first | exact fs_c rfl | exact (fs_n (by omega) (fs_n (by omega) (fs_n (by omega) (fs_n (by omega) rfl)))))) s45_ (fun _ => (by first | exact fs_c rfl | exact (fs_n (by omega) (fs_n (by omega) rfl)))) (by first | exact fs_c rfl | exact (fs_n (by omega) (fs_n (by omega) rfl)))) s67_ (fun _ => (by first | exact fs_c rfl | exact (fs_n (by omega) (fs_n (by omega) rfl)))) (by first | exact fs_c rfl | exact (fs_n (by omega) (fs_n (by omega) rfl))))) (⟨(rprd_fs (rprd_fs (rprd_fs hps_g.1 hf_F1 (by first | exact fs_rg rfl | exact fun r j hj => (fs_n (by omega) (fs_n (by omega) (fs_n (by omega) (fs_n (by omega) rfl)))))) s45_ (by first | exact fs_rg rfl | exact fun r j hj => (fs_n (by omega) (fs_n (by omega) rfl)))) s67_ (by first | exact fs_rg rfl | exact fun r j hj => (fs_n (by omega) (fs_n (by omega) rfl)))), hps_g.2⟩))
      exfalso; omega
    refine ga_aload_n (v := .ref 344) hm_184 rfl rfl rfl ?_
    refine gIi (nY := 1) (F := 0) (L := 0) (As := []) (b := 344) (rest := []) hm_184 rfl hm_59 rfl rfl (fl_ob sc_344) rfl rfl rfl rfl rfl (by omega) (by omega) ?_
    intro f75_ l76_ h77_ h78_
    show fl_R xi_ms 59 f75_ l76_ 0 [(0, .ref 344)] [] _ _
    refine ga_aload_n (v := .ref 344) hm_59 rfl rfl rfl ?_
    have b79_ : 0 ≤ F1 344 9 ∧ F1 344 9 ≤ 5 := gi_g hg_F1 rfl
    refine ga_geti (z := F1 344 9) hm_59 rfl sc_344 rfl (rfl) ?_
    refine fl_if_le (a := F1 344 9) hm_59 rfl ⟨by omega, by omega⟩ (fun h80_ => ?_) (fun h81_ => ?_)
    ·
      refine fl_iconst hm_59 rfl ?_
      refine gr_i hm_59 rfl rfl (ga_nb (by omega)) ?_
      clear h77_ h78_ f75_ l76_
      refine fl_if_ne hm_184 rfl ⟨by omega, by omega⟩ (fun h => absurd h (by omega)) (fun _ => ?_)
      refine ga_aload_n (v := .ref 344) hm_184 rfl rfl rfl ?_
      have b82_ : 0 ≤ F1 344 5 ∧ F1 344 5 ≤ 600 := gi_g hg_F1 rfl
      refine gVv (nY := 3) (F := 4) (L := 89) (As := []) (b := 344) (rest := []) hm_184 rfl hm_180 rfl rfl (fl_ob sc_344) rfl rfl rfl rfl rfl (by omega) (by omega) (mc_180 hG F1 X hg_F1 (K) (ts) (l) (tl) hgK rk27_ hkt (⟨by omega, by omega⟩) ((rpn_fs hts_g hf_F1 (fun _ => (by first | exact fs_c rfl | exact (fs_n (by omega) (fs_n (by omega) (fs_n (by omega) (fs_n (by omega) rfl)))))) (by first | exact fs_c rfl | exact (fs_n (by omega) (fs_n (by omega) (fs_n (by omega) (fs_n (by omega) rfl))))))) (ht1.1) (ht1.2)) (fun _ _ h => False.elim h) ?_
      have b84_ : 0 ≤ F1 344 10 ∧ F1 344 10 ≤ 600 := gi_g hg_F1 rfl
      rintro A1_ (⟨F89_, hA_, g90_, s91_, c85_, c86_, c87_, c88_⟩ | ⟨F95_, hA_, g96_, s97_, c92_, c93_, c94_⟩)
      ·
        subst hA_
        have g98_ : fs [(344, 344, 5, 5), (344, 344, 9, 10), (344, 344, 33, 33), (344, 344, 36, 36), (344, 344, 64, 64), (358, 358, 0, 100000), (360, 366, 0, 100000)] F F89_ := fs_tr g26_ s91_ rfl
        have rk99_ : rk K F89_ := rk_fs rk27_ s91_ (fs_rg rfl) rfl
        have c86_s := c86_.1 (by omega)
        clear c86_
        refine ga_aload_n (v := .ref 344) hm_184 rfl rfl rfl ?_
        refine fl_bipush hm_184 rfl rfl ?_
        have b100_ : 0 ≤ F89_ 344 5 ∧ F89_ 344 5 ≤ 600 := gi_g g90_ rfl
        refine gVi (nY := 2) (F := 1) (L := 20) (As := [.int (Int32.ofInt 41)]) (b := 344) (rest := []) hm_184 rfl hm_52 rfl rfl (fl_ob sc_344) rfl rfl rfl rfl rfl (by omega) (by omega) (mc_52 hG F89_ X g90_ (K) (41) hgK rk99_ hkt (⟨by omega, by omega⟩) (by omega)) (fun _ _ h => False.elim h) ?_
        have b102_ : 0 ≤ F89_ 344 9 ∧ F89_ 344 9 ≤ 5 := gi_g g90_ rfl
        rintro z101_ A1_ (⟨hA_, hz_, c103_⟩ | ⟨hA_, hz_, c104_, c105_⟩)
        ·
          subst hA_
          subst hz_
          refine fl_if_ne hm_184 rfl ⟨by omega, by omega⟩ (fun h => absurd h (by omega)) (fun _ => ?_)
          refine fl_iconst hm_184 rfl ?_
          refine fl_goto hm_184 rfl ?_
          refine ga_istore_n (lv2 := [(3, .int (Int32.ofInt 1)), (0, .ref 344)]) hm_184 rfl (Nat.le_of_ble_eq_true rfl) rfl ?_
          refine fl_goto hm_184 rfl ?_
          refine ga_iload_n (z := 1) hm_184 rfl rfl ?_
          refine fl_if_eq hm_184 rfl ⟨by omega, by omega⟩ (fun h => absurd h (by omega)) (fun _ => ?_)
          refine ga_aload_n (v := .ref 344) hm_184 rfl rfl rfl ?_
          refine gIi (nY := 1) (F := 0) (L := 0) (As := []) (b := 344) (rest := []) hm_184 rfl hm_59 rfl rfl (fl_ob sc_344) rfl rfl rfl rfl rfl (by omega) (by omega) ?_
          intro f106_ l107_ h108_ h109_
          show fl_R xi_ms 59 f106_ l107_ 0 [(0, .ref 344)] [] _ _
          refine ga_aload_n (v := .ref 344) hm_59 rfl rfl rfl ?_
          refine ga_geti (z := F89_ 344 9) hm_59 rfl sc_344 rfl (rfl) ?_
          refine fl_if_le (a := F89_ 344 9) hm_59 rfl ⟨by omega, by omega⟩ (fun h110_ => ?_) (fun h111_ => ?_)
          · exfalso; omega
          refine fl_iconst hm_59 rfl ?_
          refine fl_goto hm_59 rfl ?_
          refine gr_i hm_59 rfl rfl (ga_nb (by omega)) ?_
          clear h108_ h109_ f106_ l107_
          refine fl_if_ne hm_184 rfl ⟨by omega, by omega⟩ (fun _ => ?_) (fun h => absurd (by omega) h)
          refine ga_aload_n (v := .ref 344) hm_184 rfl rfl rfl ?_
          refine fl_bipush hm_184 rfl rfl ?_
          refine gVv (nY := 2) (F := 2) (L := 41) (As := [.int (Int32.ofInt 41)]) (b := 344) (rest := []) hm_184 rfl hm_51 rfl rfl (fl_ob sc_344) rfl rfl rfl rfl rfl (by omega) (by omega) (mc_51 hG F89_ X g90_ (K) (41) (1) hgK rk99_ hkt (⟨by omega, by omega⟩) (by omega) (by omega)) (fun _ _ h => False.elim h) ?_
          have b113_ : 0 ≤ F89_ 344 10 ∧ F89_ 344 10 ≤ 600 := gi_g g90_ rfl
          rintro A1_ (⟨F117_, hA_, g118_, s119_, c114_, c115_, c116_⟩ | ⟨F123_, hA_, g124_, s125_, c120_, c121_, c122_⟩)
          ·
            subst hA_
            have g126_ : fs [(344, 344, 5, 5), (344, 344, 9, 10), (344, 344, 33, 33), (344, 344, 36, 36), (344, 344, 64, 64), (358, 358, 0, 100000), (360, 366, 0, 100000)] F F117_ := fs_tr g98_ s119_ rfl
            have rk127_ : rk K F117_ := rk_fs rk99_ s119_ (fs_rg rfl) rfl
            have c115_k := c115_.2 (by omega)
            clear c115_
            have b128_ : 0 ≤ F117_ 344 9 ∧ F117_ 344 9 ≤ 5 := gi_g g118_ rfl
            have b129_ : 0 ≤ F117_ 344 10 ∧ F117_ 344 10 ≤ 600 := gi_g g118_ rfl
            have b130_ : 0 ≤ F117_ 344 5 ∧ F117_ 344 5 ≤ 600 := gi_g g118_ rfl
            have e131_ : Fg 5 2 = F 5 2 := (hf_Fg 5 2 rfl).trans (rfl)
            have e132_ : F1 5 2 = F 5 2 := (hf_F1 5 2 rfl).trans (e131_)
            have e133_ : F89_ 5 2 = F 5 2 := (s91_ 5 2 rfl).trans (e132_)
            have e134_ : F117_ 5 2 = F 5 2 := (s119_ 5 2 rfl).trans (e133_)
            have b135_ : 0 ≤ F 5 2 ∧ F 5 2 ≤ 600 := gi_g hgi rfl
            exact fl_R_sub (lv' := [(0, .ref 344)]) rfl rfl (mb_184_139 hG F X hgi K nm ts pl ps hgK hrk hkt hp h0 h5 hnm hts hpl hps h33 fr lo hfr hlo F117_ g118_ g126_ rk127_ (by omega) (⟨by omega, by omega⟩) (⟨by intro h0_; have hs_ := c86_s; rw [hq_, sp_r2]; rw [hspo, so_f (by omega) hs_]; try (show Sum.inl _ = _); try (congr 2 <;> omega), fun h0_ => by exfalso; omega⟩) (by obtain ⟨l8_, tl8_, h8_, h9_⟩ := c88_; exact ⟨l8_, tl8_, (trm_fs h8_ s119_ (by first | exact fs_rg rfl | exact fun r j hj => (fs_n (by omega) (fs_n (by omega) rfl)))), h9_⟩))
          exfalso; omega
        exfalso; omega
      subst hA_
      have g136_ : fs [(344, 344, 5, 5), (344, 344, 9, 10), (344, 344, 33, 33), (344, 344, 36, 36), (344, 344, 64, 64), (358, 358, 0, 100000), (360, 366, 0, 100000)] F F95_ := fs_tr g26_ s97_ rfl
      have rk137_ : rk K F95_ := rk_fs rk27_ s97_ (fs_rg rfl) rfl
      obtain ⟨co_, to_, co1_, co2_⟩ := c93_
      have co3_ := (tr5 co2_).1.1
      rw [List.length_append, List.length_singleton] at co3_
      refine ga_aload_n (v := .ref 344) hm_184 rfl rfl rfl ?_
      refine fl_bipush hm_184 rfl rfl ?_
      have b138_ : 0 ≤ F95_ 344 5 ∧ F95_ 344 5 ≤ 600 := gi_g g96_ rfl
      refine gVi (nY := 2) (F := 1) (L := 20) (As := [.int (Int32.ofInt 41)]) (b := 344) (rest := []) hm_184 rfl hm_52 rfl rfl (fl_ob sc_344) rfl rfl rfl rfl rfl (by omega) (by omega) (mc_52 hG F95_ X g96_ (K) (41) hgK rk137_ hkt (⟨by omega, by omega⟩) (by omega)) (fun _ _ h => False.elim h) ?_
      have b140_ : 0 ≤ F95_ 344 9 ∧ F95_ 344 9 ≤ 5 := gi_g g96_ rfl
      rintro z139_ A1_ (⟨hA_, hz_, c141_⟩ | ⟨hA_, hz_, c142_, c143_⟩)
      ·
        subst hA_
        subst hz_
        refine fl_if_ne hm_184 rfl ⟨by omega, by omega⟩ (fun h => absurd h (by omega)) (fun _ => ?_)
        refine fl_iconst hm_184 rfl ?_
        refine fl_goto hm_184 rfl ?_
        refine ga_istore_n (lv2 := [(3, .int (Int32.ofInt 1)), (0, .ref 344)]) hm_184 rfl (Nat.le_of_ble_eq_true rfl) rfl ?_
        refine fl_goto hm_184 rfl ?_
        have b144_ : 0 ≤ K 1 6 ∧ K 1 6 ≤ 601 := gi_g hgK rfl
        have e145_ : Fg 5 2 = F 5 2 := (hf_Fg 5 2 rfl).trans (rfl)
        have e146_ : F1 5 2 = F 5 2 := (hf_F1 5 2 rfl).trans (e145_)
        have e147_ : F95_ 5 2 = F 5 2 := (s97_ 5 2 rfl).trans (e146_)
        have b148_ : 0 ≤ F 5 2 ∧ F 5 2 ≤ 600 := gi_g hgi rfl
        have b149_ : 0 ≤ F95_ 344 33 ∧ F95_ 344 33 ≤ 6 := gi_g g96_ rfl
        have b150_ : 0 ≤ F1 344 33 ∧ F1 344 33 ≤ 6 := gi_g hg_F1 rfl
        exact ih23_ _ (by omega) (1) (_) (_) F95_ rfl g96_ (fs_tr hf_F1 s97_ rfl) (by omega) (Or.inl ⟨rfl, Or.inr (by omega)⟩) (⟨by omega, by omega⟩) (⟨co2_, by simp only [List.length_append, List.length_singleton]; omega⟩) (by rw [hspo]; exact so_step (by omega) co1_ (by simp))
      subst hA_
      subst hz_
      refine fl_if_ne hm_184 rfl ⟨by omega, by omega⟩ (fun _ => ?_) (fun h => absurd (by omega) h)
      refine fl_iconst hm_184 rfl ?_
      refine ga_istore_n (lv2 := [(3, .int (Int32.ofInt 0)), (0, .ref 344)]) hm_184 rfl (Nat.le_of_ble_eq_true rfl) rfl ?_
      refine fl_goto hm_184 rfl ?_
      have b151_ : 0 ≤ K 1 6 ∧ K 1 6 ≤ 601 := gi_g hgK rfl
      have e152_ : Fg 5 2 = F 5 2 := (hf_Fg 5 2 rfl).trans (rfl)
      have e153_ : F1 5 2 = F 5 2 := (hf_F1 5 2 rfl).trans (e152_)
      have e154_ : F95_ 5 2 = F 5 2 := (s97_ 5 2 rfl).trans (e153_)
      have b155_ : 0 ≤ F 5 2 ∧ F 5 2 ≤ 600 := gi_g hgi rfl
      have b156_ : 0 ≤ F95_ 344 33 ∧ F95_ 344 33 ≤ 6 := gi_g g96_ rfl
      have b157_ : 0 ≤ F1 344 33 ∧ F1 344 33 ≤ 6 := gi_g hg_F1 rfl
      exact ih23_ _ (by omega) (0) (_) (_) F95_ rfl g96_ (fs_tr hf_F1 s97_ rfl) (by omega) (Or.inr ⟨rfl, by simp only [List.length_append, List.length_singleton]; omega, by omega⟩) (⟨by omega, by omega⟩) (⟨co2_, by simp only [List.length_append, List.length_singleton]; omega⟩) (by rw [hspo]; exact so_step (by omega) co1_ (by simp))
    exfalso; omega
  have b158_ : 0 ≤ Fg 344 9 ∧ Fg 344 9 ≤ 5 := gi_g hg_Fg rfl
  have b159_ : 0 ≤ K 1 6 ∧ K 1 6 ≤ 601 := gi_g hgK rfl
  have e160_ : Fg 5 2 = F 5 2 := (hf_Fg 5 2 rfl).trans (rfl)
  have b161_ : 0 ≤ F 5 2 ∧ F 5 2 ≤ 600 := gi_g hgi rfl
  have b162_ : 0 ≤ Fg 344 33 ∧ Fg 344 33 ≤ 6 := gi_g hg_Fg rfl
  exact L22_ _ (1) ([]) ([]) Fg rfl hg_Fg fs_refl (by omega) (Or.inl ⟨rfl, Or.inl rfl⟩) (⟨by omega, by omega⟩) (⟨(tr5_0 h33g), rfl⟩) (rfl)
set_option maxHeartbeats 16000000 in
theorem mc_184 {G : Nat → Nat → Option Nat} (hG : gg G) (F : fl_N) (X : xi_H) (hgi : gi F) (K : fl_N) (nm : Int) (ts pl : List Int) (ps : List (List Int)) (hgK : gi K) (hrk : rk K F) (hkt : rkt K) (hp : 0 ≤ F 344 5 ∧ F 344 5 ≤ K 1 6 - 1) (h0 : F 344 9 = 0) (h5 : F 344 5 = 0) (hnm : nrel nm (F 344 14)) (hts : rpn (F 349) (F 344 15) ts) (hpl : rpn (F 350) (F 344 17) pl) (hps : rprd F ps ∧ ps.length = pl.length) (h33 : F 344 33 = 0) : fl_M xi_ms 184 7 165 [.ref 344] (fl_H sh_T G F ++ X) (pq_184 G F X K nm ts pl ps) := by
  intro fr lo hfr hlo
  show fl_R xi_ms 184 fr lo 0 [(0, .ref 344)] [] _ _
  have hP := (rkt_p hkt hp.1 hp.2 hgK).1
  have hK16 : 0 ≤ K 1 6 ∧ K 1 6 ≤ 601 := gi_g hgK rfl
  have hko := hkt.1
  have h0_9 := h0
  refine ga_aload_n (v := .ref 344) hm_184 rfl rfl rfl ?_
  refine fl_bipush hm_184 rfl rfl ?_
  have b1_ : 0 ≤ F 344 5 ∧ F 344 5 ≤ 600 := gi_g hgi rfl
  refine gVv (nY := 2) (F := 2) (L := 41) (As := [.int (Int32.ofInt 40)]) (b := 344) (rest := []) hm_184 rfl hm_51 rfl rfl (fl_ob sc_344) rfl rfl rfl rfl rfl (by omega) (by omega) (mc_51 hG F X hgi (K) (40) (0) hgK hrk hkt (⟨by omega, by omega⟩) (by omega) (by omega)) (fun _ _ h => False.elim h) ?_
  have b3_ : 0 ≤ F 344 10 ∧ F 344 10 ≤ 600 := gi_g hgi rfl
  have b4_ : 0 ≤ F 344 9 ∧ F 344 9 ≤ 5 := gi_g hgi rfl
  rintro A1_ (⟨F8_, hA_, g9_, s10_, c5_, c6_, c7_⟩ | ⟨F14_, hA_, g15_, s16_, c11_, c12_, c13_⟩)
  ·
    subst hA_
    have g17_ : fs [(344, 344, 5, 5), (344, 344, 9, 10), (344, 344, 33, 33), (344, 344, 36, 36), (344, 344, 64, 64), (358, 358, 0, 100000), (360, 366, 0, 100000)] F F8_ := fs_tr fs_refl s10_ rfl
    have rk18_ : rk K F8_ := rk_fs hrk s10_ (fs_rg rfl) rfl
    have c6_s := c6_.1 (by omega)
    clear c6_
    have b19_ : 0 ≤ F8_ 344 9 ∧ F8_ 344 9 ≤ 5 := gi_g g9_ rfl
    have b20_ : 0 ≤ F8_ 344 10 ∧ F8_ 344 10 ≤ 600 := gi_g g9_ rfl
    have b21_ : 0 ≤ F8_ 344 5 ∧ F8_ 344 5 ≤ 600 := gi_g g9_ rfl
    have e22_ : F8_ 5 2 = F 5 2 := (s10_ 5 2 rfl).trans (rfl)
    have b23_ : 0 ≤ F 5 2 ∧ F 5 2 ≤ 600 := gi_g hgi rfl
    exact mb_184_6 hG F X hgi K nm ts pl ps hgK hrk hkt hp h0 h5 hnm hts hpl hps h33 fr lo hfr hlo F8_ g9_ g17_ rk18_ (by omega) (⟨by omega, by omega⟩) (⟨by intro h0_; have hs_ := c6_s; rw [sp_prb, sp_open]; rw [h5] at hs_; rw [hs_]; try (show Sum.inl _ = _); try (congr 2 <;> omega), fun h0_ => by exfalso; omega⟩) (⟨[], [], (trm_fs (tr5_0 h33) s10_ (by first | exact fs_rg rfl | exact fun r j hj => (fs_n (by omega) (fs_n (by omega) rfl)))), rfl⟩)
  subst hA_
  have g24_ : fs [(344, 344, 5, 5), (344, 344, 9, 10), (344, 344, 33, 33), (344, 344, 36, 36), (344, 344, 64, 64), (358, 358, 0, 100000), (360, 366, 0, 100000)] F F14_ := fs_tr fs_refl s16_ rfl
  have rk25_ : rk K F14_ := rk_fs hrk s16_ (fs_rg rfl) rfl
  refine ga_aload_n (v := .ref 344) hm_184 rfl rfl rfl ?_
  refine fl_iconst hm_184 rfl ?_
  have b26_ : 0 ≤ F14_ 344 5 ∧ F14_ 344 5 ≤ 600 := gi_g g15_ rfl
  refine gVv (nY := 2) (F := 2) (L := 44) (As := [.int (Int32.ofInt 0)]) (b := 344) (rest := []) hm_184 rfl hm_55 rfl rfl (fl_ob sc_344) rfl rfl rfl rfl rfl (by omega) (by omega) (mc_55 hG F14_ X g15_ (K) (0) ([100, 101, 102, 105, 110, 101]) hgK rk25_ hkt (⟨by omega, by omega⟩) (⟨by omega, by omega⟩) (by decide) (kw_0 rk25_)) (fun _ _ h => False.elim h) ?_
  have b28_ : 0 ≤ F14_ 344 10 ∧ F14_ 344 10 ≤ 600 := gi_g g15_ rfl
  have b29_ : 0 ≤ F14_ 344 9 ∧ F14_ 344 9 ≤ 5 := gi_g g15_ rfl
  rintro A1_ (⟨F33_, hA_, g34_, s35_, c30_, c31_, c32_⟩ | ⟨F39_, hA_, g40_, s41_, c36_, c37_, c38_⟩)
  ·
    subst hA_
    have g42_ : fs [(344, 344, 5, 5), (344, 344, 9, 10), (344, 344, 33, 33), (344, 344, 36, 36), (344, 344, 64, 64), (358, 358, 0, 100000), (360, 366, 0, 100000)] F F33_ := fs_tr g24_ s35_ rfl
    have rk43_ : rk K F33_ := rk_fs rk25_ s35_ (fs_rg rfl) rfl
    have c31_s := c31_.1 (by omega)
    clear c31_
    have b44_ : 0 ≤ F33_ 344 9 ∧ F33_ 344 9 ≤ 5 := gi_g g34_ rfl
    have b45_ : 0 ≤ F33_ 344 10 ∧ F33_ 344 10 ≤ 600 := gi_g g34_ rfl
    have b46_ : 0 ≤ F33_ 344 5 ∧ F33_ 344 5 ≤ 600 := gi_g g34_ rfl
    have e47_ : F14_ 5 2 = F 5 2 := (s16_ 5 2 rfl).trans (rfl)
    have e48_ : F33_ 5 2 = F 5 2 := (s35_ 5 2 rfl).trans (e47_)
    have b49_ : 0 ≤ F 5 2 ∧ F 5 2 ≤ 600 := gi_g hgi rfl
    exact mb_184_11 hG F X hgi K nm ts pl ps hgK hrk hkt hp h0 h5 hnm hts hpl hps h33 fr lo hfr hlo F33_ g34_ g42_ rk43_ (by omega) (⟨by omega, by omega⟩) (⟨by intro h0_; have hs_ := c31_s; rw [sp_prb, sp_open]; rw [(congrArg (sp_kind K 0) h5.symm).trans c12_]; simp only [pb_r]; rw [hs_]; try (show Sum.inl _ = _); try (congr 2 <;> omega), fun h0_ => by exfalso; omega⟩) (⟨[], [], (trm_fs (trm_fs (tr5_0 h33) s16_ (by first | exact fs_rg rfl | exact fun r j hj => (fs_n (by omega) (fs_n (by omega) rfl)))) s35_ (by first | exact fs_rg rfl | exact fun r j hj => (fs_n (by omega) (fs_n (by omega) rfl)))), rfl⟩)
  subst hA_
  have g50_ : fs [(344, 344, 5, 5), (344, 344, 9, 10), (344, 344, 33, 33), (344, 344, 36, 36), (344, 344, 64, 64), (358, 358, 0, 100000), (360, 366, 0, 100000)] F F39_ := fs_tr g24_ s41_ rfl
  have rk51_ : rk K F39_ := rk_fs rk25_ s41_ (fs_rg rfl) rfl
  refine ga_aload_n (v := .ref 344) hm_184 rfl rfl rfl ?_
  refine fl_bipush hm_184 rfl rfl ?_
  have b52_ : 0 ≤ F39_ 344 5 ∧ F39_ 344 5 ≤ 600 := gi_g g40_ rfl
  refine gVv (nY := 2) (F := 2) (L := 41) (As := [.int (Int32.ofInt 40)]) (b := 344) (rest := []) hm_184 rfl hm_51 rfl rfl (fl_ob sc_344) rfl rfl rfl rfl rfl (by omega) (by omega) (mc_51 hG F39_ X g40_ (K) (40) (0) hgK rk51_ hkt (⟨by omega, by omega⟩) (by omega) (by omega)) (fun _ _ h => False.elim h) ?_
  have b54_ : 0 ≤ F39_ 344 10 ∧ F39_ 344 10 ≤ 600 := gi_g g40_ rfl
  have b55_ : 0 ≤ F39_ 344 9 ∧ F39_ 344 9 ≤ 5 := gi_g g40_ rfl
  rintro A1_ (⟨F59_, hA_, g60_, s61_, c56_, c57_, c58_⟩ | ⟨F65_, hA_, g66_, s67_, c62_, c63_, c64_⟩)
  ·
    subst hA_
    have g68_ : fs [(344, 344, 5, 5), (344, 344, 9, 10), (344, 344, 33, 33), (344, 344, 36, 36), (344, 344, 64, 64), (358, 358, 0, 100000), (360, 366, 0, 100000)] F F59_ := fs_tr g50_ s61_ rfl
    have rk69_ : rk K F59_ := rk_fs rk51_ s61_ (fs_rg rfl) rfl
    have c57_s := c57_.1 (by omega)
    clear c57_
    have b70_ : 0 ≤ F59_ 344 9 ∧ F59_ 344 9 ≤ 5 := gi_g g60_ rfl
    have b71_ : 0 ≤ F59_ 344 10 ∧ F59_ 344 10 ≤ 600 := gi_g g60_ rfl
    have b72_ : 0 ≤ F59_ 344 5 ∧ F59_ 344 5 ≤ 600 := gi_g g60_ rfl
    have e73_ : F14_ 5 2 = F 5 2 := (s16_ 5 2 rfl).trans (rfl)
    have e74_ : F39_ 5 2 = F 5 2 := (s41_ 5 2 rfl).trans (e73_)
    have e75_ : F59_ 5 2 = F 5 2 := (s61_ 5 2 rfl).trans (e74_)
    have b76_ : 0 ≤ F 5 2 ∧ F 5 2 ≤ 600 := gi_g hgi rfl
    exact mb_184_17 hG F X hgi K nm ts pl ps hgK hrk hkt hp h0 h5 hnm hts hpl hps h33 fr lo hfr hlo F59_ g60_ g68_ rk69_ (by omega) (⟨by omega, by omega⟩) (⟨by intro h0_; have hs_ := c57_s; rw [sp_prb, sp_open]; rw [(congrArg (sp_kind K 0) h5.symm).trans c12_]; simp only [pb_r]; rw [c37_]; simp only [pb_r]; rw [hs_]; try (show Sum.inl _ = _); try (congr 2 <;> omega), fun h0_ => by exfalso; omega⟩) (⟨[], [], (trm_fs (trm_fs (trm_fs (tr5_0 h33) s16_ (by first | exact fs_rg rfl | exact fun r j hj => (fs_n (by omega) (fs_n (by omega) rfl)))) s41_ (by first | exact fs_rg rfl | exact fun r j hj => (fs_n (by omega) (fs_n (by omega) rfl)))) s61_ (by first | exact fs_rg rfl | exact fun r j hj => (fs_n (by omega) (fs_n (by omega) rfl)))), rfl⟩)
  subst hA_
  have g77_ : fs [(344, 344, 5, 5), (344, 344, 9, 10), (344, 344, 33, 33), (344, 344, 36, 36), (344, 344, 64, 64), (358, 358, 0, 100000), (360, 366, 0, 100000)] F F65_ := fs_tr g50_ s67_ rfl
  have rk78_ : rk K F65_ := rk_fs rk51_ s67_ (fs_rg rfl) rfl
  refine ga_aload_n (v := .ref 344) hm_184 rfl rfl rfl ?_
  refine fl_bipush hm_184 rfl rfl ?_
  have b79_ : 0 ≤ F65_ 344 5 ∧ F65_ 344 5 ≤ 600 := gi_g g66_ rfl
  refine gVv (nY := 2) (F := 2) (L := 44) (As := [.int (Int32.ofInt 13)]) (b := 344) (rest := []) hm_184 rfl hm_55 rfl rfl (fl_ob sc_344) rfl rfl rfl rfl rfl (by omega) (by omega) (mc_55 hG F65_ X g66_ (K) (13) ([112, 114, 111, 98, 108, 101, 109]) hgK rk78_ hkt (⟨by omega, by omega⟩) (⟨by omega, by omega⟩) (by decide) (kw_13 rk78_)) (fun _ _ h => False.elim h) ?_
  have b81_ : 0 ≤ F65_ 344 10 ∧ F65_ 344 10 ≤ 600 := gi_g g66_ rfl
  have b82_ : 0 ≤ F65_ 344 9 ∧ F65_ 344 9 ≤ 5 := gi_g g66_ rfl
  rintro A1_ (⟨F86_, hA_, g87_, s88_, c83_, c84_, c85_⟩ | ⟨F92_, hA_, g93_, s94_, c89_, c90_, c91_⟩)
  ·
    subst hA_
    have g95_ : fs [(344, 344, 5, 5), (344, 344, 9, 10), (344, 344, 33, 33), (344, 344, 36, 36), (344, 344, 64, 64), (358, 358, 0, 100000), (360, 366, 0, 100000)] F F86_ := fs_tr g77_ s88_ rfl
    have rk96_ : rk K F86_ := rk_fs rk78_ s88_ (fs_rg rfl) rfl
    have c84_s := c84_.1 (by omega)
    clear c84_
    have b97_ : 0 ≤ F86_ 344 9 ∧ F86_ 344 9 ≤ 5 := gi_g g87_ rfl
    have b98_ : 0 ≤ F86_ 344 10 ∧ F86_ 344 10 ≤ 600 := gi_g g87_ rfl
    have b99_ : 0 ≤ F86_ 344 5 ∧ F86_ 344 5 ≤ 600 := gi_g g87_ rfl
    have e100_ : F14_ 5 2 = F 5 2 := (s16_ 5 2 rfl).trans (rfl)
    have e101_ : F39_ 5 2 = F 5 2 := (s41_ 5 2 rfl).trans (e100_)
    have e102_ : F65_ 5 2 = F 5 2 := (s67_ 5 2 rfl).trans (e101_)
    have e103_ : F86_ 5 2 = F 5 2 := (s88_ 5 2 rfl).trans (e102_)
    have b104_ : 0 ≤ F 5 2 ∧ F 5 2 ≤ 600 := gi_g hgi rfl
    exact mb_184_23 hG F X hgi K nm ts pl ps hgK hrk hkt hp h0 h5 hnm hts hpl hps h33 fr lo hfr hlo F86_ g87_ g95_ rk96_ (by omega) (⟨by omega, by omega⟩) (⟨by intro h0_; have hs_ := c84_s; rw [sp_prb, sp_open]; rw [(congrArg (sp_kind K 0) h5.symm).trans c12_]; simp only [pb_r]; rw [c37_]; simp only [pb_r]; rw [c63_]; simp only [pb_r]; rw [hs_]; try (show Sum.inl _ = _); try (congr 2 <;> omega), fun h0_ => by exfalso; omega⟩) (⟨[], [], (trm_fs (trm_fs (trm_fs (trm_fs (tr5_0 h33) s16_ (by first | exact fs_rg rfl | exact fun r j hj => (fs_n (by omega) (fs_n (by omega) rfl)))) s41_ (by first | exact fs_rg rfl | exact fun r j hj => (fs_n (by omega) (fs_n (by omega) rfl)))) s67_ (by first | exact fs_rg rfl | exact fun r j hj => (fs_n (by omega) (fs_n (by omega) rfl)))) s88_ (by first | exact fs_rg rfl | exact fun r j hj => (fs_n (by omega) (fs_n (by omega) rfl)))), rfl⟩)
  subst hA_
  have g105_ : fs [(344, 344, 5, 5), (344, 344, 9, 10), (344, 344, 33, 33), (344, 344, 36, 36), (344, 344, 64, 64), (358, 358, 0, 100000), (360, 366, 0, 100000)] F F92_ := fs_tr g77_ s94_ rfl
  have rk106_ : rk K F92_ := rk_fs rk78_ s94_ (fs_rg rfl) rfl
  refine ga_aload_n (v := .ref 344) hm_184 rfl rfl rfl ?_
  have b107_ : 0 ≤ F92_ 344 5 ∧ F92_ 344 5 ≤ 600 := gi_g g93_ rfl
  refine gVl (nY := 3) (F := 2) (L := 46) (As := []) (b := 344) (rest := []) hm_184 rfl hm_58 rfl rfl (fl_ob sc_344) rfl rfl rfl rfl rfl (by omega) (by omega) (mc_58 hG F92_ X g93_ (K) hgK rk106_ hkt (⟨by omega, by omega⟩)) (fun _ _ h => False.elim h) ?_
  have b109_ : 0 ≤ F92_ 344 10 ∧ F92_ 344 10 ≤ 600 := gi_g g93_ rfl
  have b110_ : 0 ≤ F92_ 344 9 ∧ F92_ 344 9 ≤ 5 := gi_g g93_ rfl
  rintro z108_ A1_ (⟨F115_, hA_, g116_, s117_, c111_, c112_, c113_, c114_⟩ | ⟨F125_, hA_, g126_, s127_, c118_, c119_, c120_, c121_, c122_, c123_, c124_⟩)
  ·
    subst hA_
    have g128_ : fs [(344, 344, 5, 5), (344, 344, 9, 10), (344, 344, 33, 33), (344, 344, 36, 36), (344, 344, 64, 64), (358, 358, 0, 100000), (360, 366, 0, 100000)] F F115_ := fs_tr g105_ s117_ rfl
    have rk129_ : rk K F115_ := rk_fs rk106_ s117_ (fs_rg rfl) rfl
    have c112_s := c112_.1 (by omega)
    clear c112_
    refine ga_pop2 hm_184 rfl rfl ?_
    have b130_ : 0 ≤ F115_ 344 9 ∧ F115_ 344 9 ≤ 5 := gi_g g116_ rfl
    have b131_ : 0 ≤ F115_ 344 10 ∧ F115_ 344 10 ≤ 600 := gi_g g116_ rfl
    have e132_ : F115_ 344 5 = F92_ 344 5 := (s117_ 344 5 rfl).trans (rfl)
    have e133_ : F14_ 5 2 = F 5 2 := (s16_ 5 2 rfl).trans (rfl)
    have e134_ : F39_ 5 2 = F 5 2 := (s41_ 5 2 rfl).trans (e133_)
    have e135_ : F65_ 5 2 = F 5 2 := (s67_ 5 2 rfl).trans (e134_)
    have e136_ : F92_ 5 2 = F 5 2 := (s94_ 5 2 rfl).trans (e135_)
    have e137_ : F115_ 5 2 = F 5 2 := (s117_ 5 2 rfl).trans (e136_)
    have b138_ : 0 ≤ F 5 2 ∧ F 5 2 ≤ 600 := gi_g hgi rfl
    exact mb_184_28 hG F X hgi K nm ts pl ps hgK hrk hkt hp h0 h5 hnm hts hpl hps h33 fr lo hfr hlo F115_ g116_ g128_ rk129_ (by omega) (⟨by omega, by omega⟩) (⟨by intro h0_; have hs_ := c112_s; rw [sp_prb, sp_open]; rw [(congrArg (sp_kind K 0) h5.symm).trans c12_]; simp only [pb_r]; rw [c37_]; simp only [pb_r]; rw [c63_]; simp only [pb_r]; rw [c90_]; simp only [pb_r]; have h1_ := nm_no hs_; rw [sp_nm, if_neg h1_] at hs_; have h2_ := Prod.mk.inj (Sum.inl.inj hs_); rw [sp_kind, if_neg h1_]; show Sum.inl (1, K 4 _) = _; congr 2 <;> omega, fun h0_ => by exfalso; omega⟩) (⟨[], [], (trm_fs (trm_fs (trm_fs (trm_fs (trm_fs (tr5_0 h33) s16_ (by first | exact fs_rg rfl | exact fun r j hj => (fs_n (by omega) (fs_n (by omega) rfl)))) s41_ (by first | exact fs_rg rfl | exact fun r j hj => (fs_n (by omega) (fs_n (by omega) rfl)))) s67_ (by first | exact fs_rg rfl | exact fun r j hj => (fs_n (by omega) (fs_n (by omega) rfl)))) s94_ (by first | exact fs_rg rfl | exact fun r j hj => (fs_n (by omega) (fs_n (by omega) rfl)))) s117_ (by first | exact fs_rg rfl | exact fun r j hj => (fs_n (by omega) rfl))), rfl⟩)
  subst hA_
  have g139_ : fs [(344, 344, 5, 5), (344, 344, 9, 10), (344, 344, 33, 33), (344, 344, 36, 36), (344, 344, 64, 64), (358, 358, 0, 100000), (360, 366, 0, 100000)] F F125_ := fs_tr g105_ s127_ rfl
  have rk140_ : rk K F125_ := rk_fs rk106_ s127_ (fs_rg rfl) rfl
  refine ga_pop2 hm_184 rfl rfl ?_
  refine ga_aload_n (v := .ref 344) hm_184 rfl rfl rfl ?_
  refine gIv (nY := 1) (F := 1) (L := 20) (As := []) (b := 344) (rest := []) hm_184 rfl hm_61 rfl rfl (fl_ob sc_344) rfl rfl rfl rfl rfl (by omega) (by omega) ?_
  intro f141_ l142_ h143_ h144_
  show fl_R xi_ms 61 f141_ l142_ 0 [(0, .ref 344)] [] _ _
  refine ga_aload_n (v := .ref 344) hm_61 rfl rfl rfl ?_
  refine ga_dup hm_61 rfl rfl ?_
  have e145_ : F125_ 344 5 = F92_ 344 5 := (s127_ 344 5 rfl).trans (rfl)
  refine ga_geti (z := F92_ 344 5) hm_61 rfl sc_344 rfl (e145_) ?_
  refine ga_aload_n (v := .ref 344) hm_61 rfl rfl rfl ?_
  refine gIi (nY := 1) (F := 0) (L := 0) (As := []) (b := 344) (rest := [.int (Int32.ofInt (F92_ 344 5)), .ref 344]) hm_61 rfl hm_59 rfl rfl (fl_ob sc_344) rfl rfl rfl rfl rfl (by omega) (by omega) ?_
  intro f146_ l147_ h148_ h149_
  show fl_R xi_ms 59 f146_ l147_ 0 [(0, .ref 344)] [] _ _
  refine ga_aload_n (v := .ref 344) hm_59 rfl rfl rfl ?_
  have b150_ : 0 ≤ F125_ 344 9 ∧ F125_ 344 9 ≤ 5 := gi_g g126_ rfl
  refine ga_geti (z := F125_ 344 9) hm_59 rfl sc_344 rfl (rfl) ?_
  refine fl_if_le (a := F125_ 344 9) hm_59 rfl ⟨by omega, by omega⟩ (fun h151_ => ?_) (fun h152_ => ?_)
  ·
    refine fl_iconst hm_59 rfl ?_
    refine gr_i hm_59 rfl rfl (ga_nb (by omega)) ?_
    clear h148_ h149_ f146_ l147_
    refine fl_if_eq hm_61 rfl ⟨by omega, by omega⟩ (fun _ => ?_) (fun h => absurd (by omega) h)
    refine fl_iconst hm_61 rfl ?_
    refine ga_iadd (a := F92_ 344 5) (b := 1) (c := F92_ 344 5 + 1) hm_61 rfl (by omega) ?_
    refine ga_puti (z := F92_ 344 5 + 1) hm_61 rfl sc_344 rfl rfl ?_
    refine gr_v hm_61 rfl rfl ?_
    clear h143_ h144_ f141_ l142_
    refine ga_aload_n (v := .ref 344) hm_184 rfl rfl rfl ?_
    refine fl_bipush hm_184 rfl rfl ?_
    obtain ⟨F153_, q154_⟩ : ∃ Fq_, Fq_ = (fl_u F125_ 344 5 (F92_ 344 5 + 1)) := ⟨_, rfl⟩
    rw [← q154_]
    have g155_ : gi F153_ := by rw [q154_]; exact gi_u (g126_) rfl (by omega) (by omega)
    have g156_ : fs [(344, 344, 5, 5), (344, 344, 9, 10), (344, 344, 33, 33), (344, 344, 36, 36), (344, 344, 64, 64), (358, 358, 0, 100000), (360, 366, 0, 100000)] F F153_ := by rw [q154_]; exact fs_u (g139_) rfl
    have rk157_ : rk K F153_ := by rw [q154_]; exact rk_u (rk140_) (by first | decide | exact nc_ rfl | omega) (by first | decide | exact nc_ rfl | omega)
    have e158_ : F153_ 344 5 = F92_ 344 5 + 1 := by rw [q154_]; exact fl_u_eq
    refine gVv (nY := 2) (F := 2) (L := 41) (As := [.int (Int32.ofInt 41)]) (b := 344) (rest := []) hm_184 rfl hm_51 rfl rfl (fl_ob sc_344) rfl rfl rfl rfl rfl (by omega) (by omega) (mc_51 hG F153_ X g155_ (K) (41) (1) hgK rk157_ hkt (⟨by omega, by omega⟩) (by omega) (by omega)) (fun _ _ h => False.elim h) ?_
    have e160_ : F153_ 344 10 = F125_ 344 10 := by rw [q154_]; exact fl_u_ne (by first | exact nc_ rfl | decide | omega)
    have b161_ : 0 ≤ F125_ 344 10 ∧ F125_ 344 10 ≤ 600 := gi_g g126_ rfl
    have e162_ : F153_ 344 9 = F125_ 344 9 := by rw [q154_]; exact fl_u_ne (by first | exact nc_ rfl | decide | omega)
    rintro A1_ (⟨F166_, hA_, g167_, s168_, c163_, c164_, c165_⟩ | ⟨F172_, hA_, g173_, s174_, c169_, c170_, c171_⟩)
    ·
      subst hA_
      have g175_ : fs [(344, 344, 5, 5), (344, 344, 9, 10), (344, 344, 33, 33), (344, 344, 36, 36), (344, 344, 64, 64), (358, 358, 0, 100000), (360, 366, 0, 100000)] F F166_ := fs_tr g156_ s168_ rfl
      have rk176_ : rk K F166_ := rk_fs rk157_ s168_ (fs_rg rfl) rfl
      try simp only [e158_, e160_, e162_] at c164_
      have c164_s := c164_.1 (by omega)
      clear c164_
      have b177_ : 0 ≤ F166_ 344 9 ∧ F166_ 344 9 ≤ 5 := gi_g g167_ rfl
      have b178_ : 0 ≤ F166_ 344 10 ∧ F166_ 344 10 ≤ 600 := gi_g g167_ rfl
      have b179_ : 0 ≤ F166_ 344 5 ∧ F166_ 344 5 ≤ 600 := gi_g g167_ rfl
      have e180_ : F14_ 5 2 = F 5 2 := (s16_ 5 2 rfl).trans (rfl)
      have e181_ : F39_ 5 2 = F 5 2 := (s41_ 5 2 rfl).trans (e180_)
      have e182_ : F65_ 5 2 = F 5 2 := (s67_ 5 2 rfl).trans (e181_)
      have e183_ : F92_ 5 2 = F 5 2 := (s94_ 5 2 rfl).trans (e182_)
      have e184_ : F125_ 5 2 = F 5 2 := (s127_ 5 2 rfl).trans (e183_)
      have e185_ : F153_ 5 2 = F 5 2 := by rw [q154_]; exact (fl_u_ne (by first | exact nc_ rfl | decide | omega)).trans (e184_)
      have e186_ : F166_ 5 2 = F 5 2 := (s168_ 5 2 rfl).trans (e185_)
      have b187_ : 0 ≤ F 5 2 ∧ F 5 2 ≤ 600 := gi_g hgi rfl
      exact mb_184_38 hG F X hgi K nm ts pl ps hgK hrk hkt hp h0 h5 hnm hts hpl hps h33 fr lo hfr hlo F166_ g167_ g175_ rk176_ (by omega) (⟨by omega, by omega⟩) (⟨by intro h0_; have hs_ := c164_s; rw [sp_prb, sp_open]; rw [(congrArg (sp_kind K 0) h5.symm).trans c12_]; simp only [pb_r]; rw [c37_]; simp only [pb_r]; rw [c63_]; simp only [pb_r]; rw [c90_]; simp only [pb_r]; rw [(show sp_kind K 2 (F92_ 344 5) = .inr (F92_ 344 5 + 1) by rw [sp_kind, if_pos (by omega), sk, if_pos (by omega)])]; simp only [pb_r]; rw [hs_]; try (show Sum.inl _ = _); try (congr 2 <;> omega), fun h0_ => by exfalso; omega⟩) (⟨[], [], (trm_fs (by rw [q154_]; exact (trm_u (trm_fs (trm_fs (trm_fs (trm_fs (trm_fs (tr5_0 h33) s16_ (by first | exact fs_rg rfl | exact fun r j hj => (fs_n (by omega) (fs_n (by omega) rfl)))) s41_ (by first | exact fs_rg rfl | exact fun r j hj => (fs_n (by omega) (fs_n (by omega) rfl)))) s67_ (by first | exact fs_rg rfl | exact fun r j hj => (fs_n (by omega) (fs_n (by omega) rfl)))) s94_ (by first | exact fs_rg rfl | exact fun r j hj => (fs_n (by omega) (fs_n (by omega) rfl)))) s127_ (by first | exact fs_rg rfl | exact fun r j hj => (fs_n (by omega) rfl))) (by first | decide | exact nc_ rfl | omega))) s168_ (by first | exact fs_rg rfl | exact fun r j hj => (fs_n (by omega) (fs_n (by omega) rfl)))), rfl⟩)
    subst hA_
    have g188_ : fs [(344, 344, 5, 5), (344, 344, 9, 10), (344, 344, 33, 33), (344, 344, 36, 36), (344, 344, 64, 64), (358, 358, 0, 100000), (360, 366, 0, 100000)] F F172_ := fs_tr g156_ s174_ rfl
    have rk189_ : rk K F172_ := rk_fs rk157_ s174_ (fs_rg rfl) rfl
    try simp only [e162_] at c169_
    try simp only [e158_] at c170_
    refine ga_aload_n (v := .ref 344) hm_184 rfl rfl rfl ?_
    refine fl_bipush hm_184 rfl rfl ?_
    have b190_ : 0 ≤ F172_ 344 5 ∧ F172_ 344 5 ≤ 600 := gi_g g173_ rfl
    refine gVv (nY := 2) (F := 2) (L := 41) (As := [.int (Int32.ofInt 40)]) (b := 344) (rest := []) hm_184 rfl hm_51 rfl rfl (fl_ob sc_344) rfl rfl rfl rfl rfl (by omega) (by omega) (mc_51 hG F172_ X g173_ (K) (40) (0) hgK rk189_ hkt (⟨by omega, by omega⟩) (by omega) (by omega)) (fun _ _ h => False.elim h) ?_
    have b192_ : 0 ≤ F172_ 344 10 ∧ F172_ 344 10 ≤ 600 := gi_g g173_ rfl
    have b193_ : 0 ≤ F172_ 344 9 ∧ F172_ 344 9 ≤ 5 := gi_g g173_ rfl
    rintro A1_ (⟨F197_, hA_, g198_, s199_, c194_, c195_, c196_⟩ | ⟨F203_, hA_, g204_, s205_, c200_, c201_, c202_⟩)
    ·
      subst hA_
      have g206_ : fs [(344, 344, 5, 5), (344, 344, 9, 10), (344, 344, 33, 33), (344, 344, 36, 36), (344, 344, 64, 64), (358, 358, 0, 100000), (360, 366, 0, 100000)] F F197_ := fs_tr g188_ s199_ rfl
      have rk207_ : rk K F197_ := rk_fs rk189_ s199_ (fs_rg rfl) rfl
      have c195_s := c195_.1 (by omega)
      clear c195_
      have b208_ : 0 ≤ F197_ 344 9 ∧ F197_ 344 9 ≤ 5 := gi_g g198_ rfl
      have b209_ : 0 ≤ F197_ 344 10 ∧ F197_ 344 10 ≤ 600 := gi_g g198_ rfl
      have b210_ : 0 ≤ F197_ 344 5 ∧ F197_ 344 5 ≤ 600 := gi_g g198_ rfl
      have e211_ : F14_ 5 2 = F 5 2 := (s16_ 5 2 rfl).trans (rfl)
      have e212_ : F39_ 5 2 = F 5 2 := (s41_ 5 2 rfl).trans (e211_)
      have e213_ : F65_ 5 2 = F 5 2 := (s67_ 5 2 rfl).trans (e212_)
      have e214_ : F92_ 5 2 = F 5 2 := (s94_ 5 2 rfl).trans (e213_)
      have e215_ : F125_ 5 2 = F 5 2 := (s127_ 5 2 rfl).trans (e214_)
      have e216_ : F153_ 5 2 = F 5 2 := by rw [q154_]; exact (fl_u_ne (by first | exact nc_ rfl | decide | omega)).trans (e215_)
      have e217_ : F172_ 5 2 = F 5 2 := (s174_ 5 2 rfl).trans (e216_)
      have e218_ : F197_ 5 2 = F 5 2 := (s199_ 5 2 rfl).trans (e217_)
      have b219_ : 0 ≤ F 5 2 ∧ F 5 2 ≤ 600 := gi_g hgi rfl
      exact mb_184_44 hG F X hgi K nm ts pl ps hgK hrk hkt hp h0 h5 hnm hts hpl hps h33 fr lo hfr hlo F197_ g198_ g206_ rk207_ (by omega) (⟨by omega, by omega⟩) (⟨by intro h0_; have hs_ := c195_s; rw [sp_prb, sp_open]; rw [(congrArg (sp_kind K 0) h5.symm).trans c12_]; simp only [pb_r]; rw [c37_]; simp only [pb_r]; rw [c63_]; simp only [pb_r]; rw [c90_]; simp only [pb_r]; rw [(show sp_kind K 2 (F92_ 344 5) = .inr (F92_ 344 5 + 1) by rw [sp_kind, if_pos (by omega), sk, if_pos (by omega)])]; simp only [pb_r]; rw [c170_]; simp only [pb_r]; rw [sp_dname, sp_part]; rw [hs_]; try (show Sum.inl _ = _); try (congr 2 <;> omega), fun h0_ => by exfalso; omega⟩) (⟨[], [], (trm_fs (trm_fs (by rw [q154_]; exact (trm_u (trm_fs (trm_fs (trm_fs (trm_fs (trm_fs (tr5_0 h33) s16_ (by first | exact fs_rg rfl | exact fun r j hj => (fs_n (by omega) (fs_n (by omega) rfl)))) s41_ (by first | exact fs_rg rfl | exact fun r j hj => (fs_n (by omega) (fs_n (by omega) rfl)))) s67_ (by first | exact fs_rg rfl | exact fun r j hj => (fs_n (by omega) (fs_n (by omega) rfl)))) s94_ (by first | exact fs_rg rfl | exact fun r j hj => (fs_n (by omega) (fs_n (by omega) rfl)))) s127_ (by first | exact fs_rg rfl | exact fun r j hj => (fs_n (by omega) rfl))) (by first | decide | exact nc_ rfl | omega))) s174_ (by first | exact fs_rg rfl | exact fun r j hj => (fs_n (by omega) (fs_n (by omega) rfl)))) s199_ (by first | exact fs_rg rfl | exact fun r j hj => (fs_n (by omega) (fs_n (by omega) rfl)))), rfl⟩)
    subst hA_
    have g220_ : fs [(344, 344, 5, 5), (344, 344, 9, 10), (344, 344, 33, 33), (344, 344, 36, 36), (344, 344, 64, 64), (358, 358, 0, 100000), (360, 366, 0, 100000)] F F203_ := fs_tr g188_ s205_ rfl
    have rk221_ : rk K F203_ := rk_fs rk189_ s205_ (fs_rg rfl) rfl
    refine ga_aload_n (v := .ref 344) hm_184 rfl rfl rfl ?_
    refine fl_bipush hm_184 rfl rfl ?_
    have b222_ : 0 ≤ F203_ 344 5 ∧ F203_ 344 5 ≤ 600 := gi_g g204_ rfl
    refine gVv (nY := 2) (F := 2) (L := 44) (As := [.int (Int32.ofInt 14)]) (b := 344) (rest := []) hm_184 rfl hm_55 rfl rfl (fl_ob sc_344) rfl rfl rfl rfl rfl (by omega) (by omega) (mc_55 hG F203_ X g204_ (K) (14) ([58, 100, 111, 109, 97, 105, 110]) hgK rk221_ hkt (⟨by omega, by omega⟩) (⟨by omega, by omega⟩) (by decide) (kw_14 rk221_)) (fun _ _ h => False.elim h) ?_
    have b224_ : 0 ≤ F203_ 344 10 ∧ F203_ 344 10 ≤ 600 := gi_g g204_ rfl
    have b225_ : 0 ≤ F203_ 344 9 ∧ F203_ 344 9 ≤ 5 := gi_g g204_ rfl
    rintro A1_ (⟨F229_, hA_, g230_, s231_, c226_, c227_, c228_⟩ | ⟨F235_, hA_, g236_, s237_, c232_, c233_, c234_⟩)
    ·
      subst hA_
      have g238_ : fs [(344, 344, 5, 5), (344, 344, 9, 10), (344, 344, 33, 33), (344, 344, 36, 36), (344, 344, 64, 64), (358, 358, 0, 100000), (360, 366, 0, 100000)] F F229_ := fs_tr g220_ s231_ rfl
      have rk239_ : rk K F229_ := rk_fs rk221_ s231_ (fs_rg rfl) rfl
      have c227_s := c227_.1 (by omega)
      clear c227_
      have b240_ : 0 ≤ F229_ 344 9 ∧ F229_ 344 9 ≤ 5 := gi_g g230_ rfl
      have b241_ : 0 ≤ F229_ 344 10 ∧ F229_ 344 10 ≤ 600 := gi_g g230_ rfl
      have b242_ : 0 ≤ F229_ 344 5 ∧ F229_ 344 5 ≤ 600 := gi_g g230_ rfl
      have e243_ : F14_ 5 2 = F 5 2 := (s16_ 5 2 rfl).trans (rfl)
      have e244_ : F39_ 5 2 = F 5 2 := (s41_ 5 2 rfl).trans (e243_)
      have e245_ : F65_ 5 2 = F 5 2 := (s67_ 5 2 rfl).trans (e244_)
      have e246_ : F92_ 5 2 = F 5 2 := (s94_ 5 2 rfl).trans (e245_)
      have e247_ : F125_ 5 2 = F 5 2 := (s127_ 5 2 rfl).trans (e246_)
      have e248_ : F153_ 5 2 = F 5 2 := by rw [q154_]; exact (fl_u_ne (by first | exact nc_ rfl | decide | omega)).trans (e247_)
      have e249_ : F172_ 5 2 = F 5 2 := (s174_ 5 2 rfl).trans (e248_)
      have e250_ : F203_ 5 2 = F 5 2 := (s205_ 5 2 rfl).trans (e249_)
      have e251_ : F229_ 5 2 = F 5 2 := (s231_ 5 2 rfl).trans (e250_)
      have b252_ : 0 ≤ F 5 2 ∧ F 5 2 ≤ 600 := gi_g hgi rfl
      exact mb_184_50 hG F X hgi K nm ts pl ps hgK hrk hkt hp h0 h5 hnm hts hpl hps h33 fr lo hfr hlo F229_ g230_ g238_ rk239_ (by omega) (⟨by omega, by omega⟩) (⟨by intro h0_; have hs_ := c227_s; rw [sp_prb, sp_open]; rw [(congrArg (sp_kind K 0) h5.symm).trans c12_]; simp only [pb_r]; rw [c37_]; simp only [pb_r]; rw [c63_]; simp only [pb_r]; rw [c90_]; simp only [pb_r]; rw [(show sp_kind K 2 (F92_ 344 5) = .inr (F92_ 344 5 + 1) by rw [sp_kind, if_pos (by omega), sk, if_pos (by omega)])]; simp only [pb_r]; rw [c170_]; simp only [pb_r]; rw [sp_dname, sp_part]; rw [c201_]; simp only [pb_r]; rw [hs_]; try (show Sum.inl _ = _); try (congr 2 <;> omega), fun h0_ => by exfalso; omega⟩) (⟨[], [], (trm_fs (trm_fs (trm_fs (by rw [q154_]; exact (trm_u (trm_fs (trm_fs (trm_fs (trm_fs (trm_fs (tr5_0 h33) s16_ (by first | exact fs_rg rfl | exact fun r j hj => (fs_n (by omega) (fs_n (by omega) rfl)))) s41_ (by first | exact fs_rg rfl | exact fun r j hj => (fs_n (by omega) (fs_n (by omega) rfl)))) s67_ (by first | exact fs_rg rfl | exact fun r j hj => (fs_n (by omega) (fs_n (by omega) rfl)))) s94_ (by first | exact fs_rg rfl | exact fun r j hj => (fs_n (by omega) (fs_n (by omega) rfl)))) s127_ (by first | exact fs_rg rfl | exact fun r j hj => (fs_n (by omega) rfl))) (by first | decide | exact nc_ rfl | omega))) s174_ (by first | exact fs_rg rfl | exact fun r j hj => (fs_n (by omega) (fs_n (by omega) rfl)))) s205_ (by first | exact fs_rg rfl | exact fun r j hj => (fs_n (by omega) (fs_n (by omega) rfl)))) s231_ (by first | exact fs_rg rfl | exact fun r j hj => (fs_n (by omega) (fs_n (by omega) rfl)))), rfl⟩)
    subst hA_
    have g253_ : fs [(344, 344, 5, 5), (344, 344, 9, 10), (344, 344, 33, 33), (344, 344, 36, 36), (344, 344, 64, 64), (358, 358, 0, 100000), (360, 366, 0, 100000)] F F235_ := fs_tr g220_ s237_ rfl
    have rk254_ : rk K F235_ := rk_fs rk221_ s237_ (fs_rg rfl) rfl
    refine ga_aload_n (v := .ref 344) hm_184 rfl rfl rfl ?_
    have b255_ : 0 ≤ F235_ 344 5 ∧ F235_ 344 5 ≤ 600 := gi_g g236_ rfl
    refine gVl (nY := 3) (F := 2) (L := 46) (As := []) (b := 344) (rest := []) hm_184 rfl hm_58 rfl rfl (fl_ob sc_344) rfl rfl rfl rfl rfl (by omega) (by omega) (mc_58 hG F235_ X g236_ (K) hgK rk254_ hkt (⟨by omega, by omega⟩)) (fun _ _ h => False.elim h) ?_
    have b257_ : 0 ≤ F235_ 344 10 ∧ F235_ 344 10 ≤ 600 := gi_g g236_ rfl
    have b258_ : 0 ≤ F235_ 344 9 ∧ F235_ 344 9 ≤ 5 := gi_g g236_ rfl
    rintro z256_ A1_ (⟨F263_, hA_, g264_, s265_, c259_, c260_, c261_, c262_⟩ | ⟨F273_, hA_, g274_, s275_, c266_, c267_, c268_, c269_, c270_, c271_, c272_⟩)
    ·
      subst hA_
      have g276_ : fs [(344, 344, 5, 5), (344, 344, 9, 10), (344, 344, 33, 33), (344, 344, 36, 36), (344, 344, 64, 64), (358, 358, 0, 100000), (360, 366, 0, 100000)] F F263_ := fs_tr g253_ s265_ rfl
      have rk277_ : rk K F263_ := rk_fs rk254_ s265_ (fs_rg rfl) rfl
      have c260_s := c260_.1 (by omega)
      clear c260_
      refine ga_lstore_n (lv2 := [(1, .long (Int64.ofInt z256_)), (0, .ref 344)]) hm_184 rfl (Nat.le_of_ble_eq_true rfl) rfl ?_
      refine ga_aload_n (v := .ref 344) hm_184 rfl rfl rfl ?_
      refine gIi (nY := 1) (F := 0) (L := 0) (As := []) (b := 344) (rest := []) hm_184 rfl hm_59 rfl rfl (fl_ob sc_344) rfl rfl rfl rfl rfl (by omega) (by omega) ?_
      intro f278_ l279_ h280_ h281_
      show fl_R xi_ms 59 f278_ l279_ 0 [(0, .ref 344)] [] _ _
      refine ga_aload_n (v := .ref 344) hm_59 rfl rfl rfl ?_
      have b282_ : 0 ≤ F263_ 344 9 ∧ F263_ 344 9 ≤ 5 := gi_g g264_ rfl
      refine ga_geti (z := F263_ 344 9) hm_59 rfl sc_344 rfl (rfl) ?_
      refine fl_if_le (a := F263_ 344 9) hm_59 rfl ⟨by omega, by omega⟩ (fun h283_ => ?_) (fun h284_ => ?_)
      · exfalso; omega
      refine fl_iconst hm_59 rfl ?_
      refine fl_goto hm_59 rfl ?_
      refine gr_i hm_59 rfl rfl (ga_nb (by omega)) ?_
      clear h280_ h281_ f278_ l279_
      refine fl_if_ne hm_184 rfl ⟨by omega, by omega⟩ (fun _ => ?_) (fun h => absurd (by omega) h)
      have b285_ : 0 ≤ F263_ 344 10 ∧ F263_ 344 10 ≤ 600 := gi_g g264_ rfl
      have e286_ : F263_ 344 5 = F235_ 344 5 := (s265_ 344 5 rfl).trans (rfl)
      have e287_ : F14_ 5 2 = F 5 2 := (s16_ 5 2 rfl).trans (rfl)
      have e288_ : F39_ 5 2 = F 5 2 := (s41_ 5 2 rfl).trans (e287_)
      have e289_ : F65_ 5 2 = F 5 2 := (s67_ 5 2 rfl).trans (e288_)
      have e290_ : F92_ 5 2 = F 5 2 := (s94_ 5 2 rfl).trans (e289_)
      have e291_ : F125_ 5 2 = F 5 2 := (s127_ 5 2 rfl).trans (e290_)
      have e292_ : F153_ 5 2 = F 5 2 := by rw [q154_]; exact (fl_u_ne (by first | exact nc_ rfl | decide | omega)).trans (e291_)
      have e293_ : F172_ 5 2 = F 5 2 := (s174_ 5 2 rfl).trans (e292_)
      have e294_ : F203_ 5 2 = F 5 2 := (s205_ 5 2 rfl).trans (e293_)
      have e295_ : F235_ 5 2 = F 5 2 := (s237_ 5 2 rfl).trans (e294_)
      have e296_ : F263_ 5 2 = F 5 2 := (s265_ 5 2 rfl).trans (e295_)
      have b297_ : 0 ≤ F 5 2 ∧ F 5 2 ≤ 600 := gi_g hgi rfl
      exact fl_R_sub (lv' := [(0, .ref 344)]) rfl rfl (mb_184_76 hG F X hgi K nm ts pl ps hgK hrk hkt hp h0 h5 hnm hts hpl hps h33 fr lo hfr hlo F263_ g264_ g276_ rk277_ (by omega) (⟨by omega, by omega⟩) (⟨by intro h0_; have hs_ := c260_s; rw [sp_prb, sp_open]; rw [(congrArg (sp_kind K 0) h5.symm).trans c12_]; simp only [pb_r]; rw [c37_]; simp only [pb_r]; rw [c63_]; simp only [pb_r]; rw [c90_]; simp only [pb_r]; rw [(show sp_kind K 2 (F92_ 344 5) = .inr (F92_ 344 5 + 1) by rw [sp_kind, if_pos (by omega), sk, if_pos (by omega)])]; simp only [pb_r]; rw [c170_]; simp only [pb_r]; rw [sp_dname, sp_part]; rw [c201_]; simp only [pb_r]; rw [c233_]; simp only [pb_r]; have h1_ := nm_no hs_; rw [sp_nm, if_neg h1_] at hs_; have h2_ := Prod.mk.inj (Sum.inl.inj hs_); rw [if_neg (fun h8_ => h1_ h8_.1), sp_kind, if_neg h1_]; show Sum.inl (1, K 4 _) = _; congr 2 <;> omega, fun h0_ => by exfalso; omega⟩) (⟨[], [], (trm_fs (trm_fs (trm_fs (trm_fs (by rw [q154_]; exact (trm_u (trm_fs (trm_fs (trm_fs (trm_fs (trm_fs (tr5_0 h33) s16_ (by first | exact fs_rg rfl | exact fun r j hj => (fs_n (by omega) (fs_n (by omega) rfl)))) s41_ (by first | exact fs_rg rfl | exact fun r j hj => (fs_n (by omega) (fs_n (by omega) rfl)))) s67_ (by first | exact fs_rg rfl | exact fun r j hj => (fs_n (by omega) (fs_n (by omega) rfl)))) s94_ (by first | exact fs_rg rfl | exact fun r j hj => (fs_n (by omega) (fs_n (by omega) rfl)))) s127_ (by first | exact fs_rg rfl | exact fun r j hj => (fs_n (by omega) rfl))) (by first | decide | exact nc_ rfl | omega))) s174_ (by first | exact fs_rg rfl | exact fun r j hj => (fs_n (by omega) (fs_n (by omega) rfl)))) s205_ (by first | exact fs_rg rfl | exact fun r j hj => (fs_n (by omega) (fs_n (by omega) rfl)))) s237_ (by first | exact fs_rg rfl | exact fun r j hj => (fs_n (by omega) (fs_n (by omega) rfl)))) s265_ (by first | exact fs_rg rfl | exact fun r j hj => (fs_n (by omega) rfl))), rfl⟩))
    subst hA_
    have g298_ : fs [(344, 344, 5, 5), (344, 344, 9, 10), (344, 344, 33, 33), (344, 344, 36, 36), (344, 344, 64, 64), (358, 358, 0, 100000), (360, 366, 0, 100000)] F F273_ := fs_tr g253_ s275_ rfl
    have rk299_ : rk K F273_ := rk_fs rk254_ s275_ (fs_rg rfl) rfl
    refine ga_lstore_n (lv2 := [(1, .long (Int64.ofInt z256_)), (0, .ref 344)]) hm_184 rfl (Nat.le_of_ble_eq_true rfl) rfl ?_
    refine ga_aload_n (v := .ref 344) hm_184 rfl rfl rfl ?_
    refine gIi (nY := 1) (F := 0) (L := 0) (As := []) (b := 344) (rest := []) hm_184 rfl hm_59 rfl rfl (fl_ob sc_344) rfl rfl rfl rfl rfl (by omega) (by omega) ?_
    intro f300_ l301_ h302_ h303_
    show fl_R xi_ms 59 f300_ l301_ 0 [(0, .ref 344)] [] _ _
    refine ga_aload_n (v := .ref 344) hm_59 rfl rfl rfl ?_
    have b304_ : 0 ≤ F273_ 344 9 ∧ F273_ 344 9 ≤ 5 := gi_g g274_ rfl
    refine ga_geti (z := F273_ 344 9) hm_59 rfl sc_344 rfl (rfl) ?_
    refine fl_if_le (a := F273_ 344 9) hm_59 rfl ⟨by omega, by omega⟩ (fun h305_ => ?_) (fun h306_ => ?_)
    ·
      refine fl_iconst hm_59 rfl ?_
      refine gr_i hm_59 rfl rfl (ga_nb (by omega)) ?_
      clear h302_ h303_ f300_ l301_
      refine fl_if_ne hm_184 rfl ⟨by omega, by omega⟩ (fun h => absurd h (by omega)) (fun _ => ?_)
      refine ga_lload_n (z := z256_) hm_184 rfl rfl ?_
      refine ga_aload_n (v := .ref 344) hm_184 rfl rfl rfl ?_
      have e307_ : F14_ 344 14 = F 344 14 := (s16_ 344 14 rfl).trans (rfl)
      have e308_ : F39_ 344 14 = F 344 14 := (s41_ 344 14 rfl).trans (e307_)
      have e309_ : F65_ 344 14 = F 344 14 := (s67_ 344 14 rfl).trans (e308_)
      have e310_ : F92_ 344 14 = F 344 14 := (s94_ 344 14 rfl).trans (e309_)
      have e311_ : F125_ 344 14 = F 344 14 := (s127_ 344 14 rfl).trans (e310_)
      have e312_ : F153_ 344 14 = F 344 14 := by rw [q154_]; exact (fl_u_ne (by first | exact nc_ rfl | decide | omega)).trans (e311_)
      have e313_ : F172_ 344 14 = F 344 14 := (s174_ 344 14 rfl).trans (e312_)
      have e314_ : F203_ 344 14 = F 344 14 := (s205_ 344 14 rfl).trans (e313_)
      have e315_ : F235_ 344 14 = F 344 14 := (s237_ 344 14 rfl).trans (e314_)
      have e316_ : F273_ 344 14 = F 344 14 := (s275_ 344 14 rfl).trans (e315_)
      have b317_ : 0 ≤ F 344 14 ∧ F 344 14 ≤ 2565726408 := gi_g hgi rfl
      refine ga_getl (z := F 344 14) hm_184 rfl sc_344 rfl (e316_) ?_
      refine ga_lcmpq (a := z256_) (b := F 344 14) hm_184 rfl rfl ⟨by omega, by omega⟩ ⟨by omega, by omega⟩ (fun h318_ => ?_) (fun h319_ => ?_)
      ·
        refine ga_aload_n (v := .ref 344) hm_184 rfl rfl rfl ?_
        refine gIv (nY := 1) (F := 1) (L := 20) (As := []) (b := 344) (rest := []) hm_184 rfl hm_61 rfl rfl (fl_ob sc_344) rfl rfl rfl rfl rfl (by omega) (by omega) ?_
        intro f320_ l321_ h322_ h323_
        show fl_R xi_ms 61 f320_ l321_ 0 [(0, .ref 344)] [] _ _
        refine ga_aload_n (v := .ref 344) hm_61 rfl rfl rfl ?_
        refine ga_dup hm_61 rfl rfl ?_
        have e324_ : F273_ 344 5 = F235_ 344 5 := (s275_ 344 5 rfl).trans (rfl)
        refine ga_geti (z := F235_ 344 5) hm_61 rfl sc_344 rfl (e324_) ?_
        refine ga_aload_n (v := .ref 344) hm_61 rfl rfl rfl ?_
        refine gIi (nY := 1) (F := 0) (L := 0) (As := []) (b := 344) (rest := [.int (Int32.ofInt (F235_ 344 5)), .ref 344]) hm_61 rfl hm_59 rfl rfl (fl_ob sc_344) rfl rfl rfl rfl rfl (by omega) (by omega) ?_
        intro f325_ l326_ h327_ h328_
        show fl_R xi_ms 59 f325_ l326_ 0 [(0, .ref 344)] [] _ _
        refine ga_aload_n (v := .ref 344) hm_59 rfl rfl rfl ?_
        refine ga_geti (z := F273_ 344 9) hm_59 rfl sc_344 rfl (rfl) ?_
        refine fl_if_le (a := F273_ 344 9) hm_59 rfl ⟨by omega, by omega⟩ (fun h329_ => ?_) (fun h330_ => ?_)
        ·
          refine fl_iconst hm_59 rfl ?_
          refine gr_i hm_59 rfl rfl (ga_nb (by omega)) ?_
          clear h327_ h328_ f325_ l326_
          refine fl_if_eq hm_61 rfl ⟨by omega, by omega⟩ (fun _ => ?_) (fun h => absurd (by omega) h)
          refine fl_iconst hm_61 rfl ?_
          refine ga_iadd (a := F235_ 344 5) (b := 1) (c := F235_ 344 5 + 1) hm_61 rfl (by omega) ?_
          refine ga_puti (z := F235_ 344 5 + 1) hm_61 rfl sc_344 rfl rfl ?_
          refine gr_v hm_61 rfl rfl ?_
          clear h322_ h323_ f320_ l321_
          refine ga_aload_n (v := .ref 344) hm_184 rfl rfl rfl ?_
          refine fl_bipush hm_184 rfl rfl ?_
          obtain ⟨F331_, q332_⟩ : ∃ Fq_, Fq_ = (fl_u F273_ 344 5 (F235_ 344 5 + 1)) := ⟨_, rfl⟩
          rw [← q332_]
          have g333_ : gi F331_ := by rw [q332_]; exact gi_u (g274_) rfl (by omega) (by omega)
          have g334_ : fs [(344, 344, 5, 5), (344, 344, 9, 10), (344, 344, 33, 33), (344, 344, 36, 36), (344, 344, 64, 64), (358, 358, 0, 100000), (360, 366, 0, 100000)] F F331_ := by rw [q332_]; exact fs_u (g298_) rfl
          have rk335_ : rk K F331_ := by rw [q332_]; exact rk_u (rk299_) (by first | decide | exact nc_ rfl | omega) (by first | decide | exact nc_ rfl | omega)
          have e336_ : F331_ 344 5 = F235_ 344 5 + 1 := by rw [q332_]; exact fl_u_eq
          refine gVv (nY := 2) (F := 2) (L := 41) (As := [.int (Int32.ofInt 41)]) (b := 344) (rest := []) hm_184 rfl hm_51 rfl rfl (fl_ob sc_344) rfl rfl rfl rfl rfl (by omega) (by omega) (mc_51 hG F331_ X g333_ (K) (41) (1) hgK rk335_ hkt (⟨by omega, by omega⟩) (by omega) (by omega)) (fun _ _ h => False.elim h) ?_
          have e338_ : F331_ 344 10 = F273_ 344 10 := by rw [q332_]; exact fl_u_ne (by first | exact nc_ rfl | decide | omega)
          have b339_ : 0 ≤ F273_ 344 10 ∧ F273_ 344 10 ≤ 600 := gi_g g274_ rfl
          have e340_ : F331_ 344 9 = F273_ 344 9 := by rw [q332_]; exact fl_u_ne (by first | exact nc_ rfl | decide | omega)
          rintro A1_ (⟨F344_, hA_, g345_, s346_, c341_, c342_, c343_⟩ | ⟨F350_, hA_, g351_, s352_, c347_, c348_, c349_⟩)
          ·
            subst hA_
            have g353_ : fs [(344, 344, 5, 5), (344, 344, 9, 10), (344, 344, 33, 33), (344, 344, 36, 36), (344, 344, 64, 64), (358, 358, 0, 100000), (360, 366, 0, 100000)] F F344_ := fs_tr g334_ s346_ rfl
            have rk354_ : rk K F344_ := rk_fs rk335_ s346_ (fs_rg rfl) rfl
            try simp only [e336_, e338_, e340_] at c342_
            have c342_s := c342_.1 (by omega)
            clear c342_
            have b355_ : 0 ≤ F344_ 344 9 ∧ F344_ 344 9 ≤ 5 := gi_g g345_ rfl
            have b356_ : 0 ≤ F344_ 344 10 ∧ F344_ 344 10 ≤ 600 := gi_g g345_ rfl
            have b357_ : 0 ≤ F344_ 344 5 ∧ F344_ 344 5 ≤ 600 := gi_g g345_ rfl
            have e358_ : F14_ 5 2 = F 5 2 := (s16_ 5 2 rfl).trans (rfl)
            have e359_ : F39_ 5 2 = F 5 2 := (s41_ 5 2 rfl).trans (e358_)
            have e360_ : F65_ 5 2 = F 5 2 := (s67_ 5 2 rfl).trans (e359_)
            have e361_ : F92_ 5 2 = F 5 2 := (s94_ 5 2 rfl).trans (e360_)
            have e362_ : F125_ 5 2 = F 5 2 := (s127_ 5 2 rfl).trans (e361_)
            have e363_ : F153_ 5 2 = F 5 2 := by rw [q154_]; exact (fl_u_ne (by first | exact nc_ rfl | decide | omega)).trans (e362_)
            have e364_ : F172_ 5 2 = F 5 2 := (s174_ 5 2 rfl).trans (e363_)
            have e365_ : F203_ 5 2 = F 5 2 := (s205_ 5 2 rfl).trans (e364_)
            have e366_ : F235_ 5 2 = F 5 2 := (s237_ 5 2 rfl).trans (e365_)
            have e367_ : F273_ 5 2 = F 5 2 := (s275_ 5 2 rfl).trans (e366_)
            have e368_ : F331_ 5 2 = F 5 2 := by rw [q332_]; exact (fl_u_ne (by first | exact nc_ rfl | decide | omega)).trans (e367_)
            have e369_ : F344_ 5 2 = F 5 2 := (s346_ 5 2 rfl).trans (e368_)
            have b370_ : 0 ≤ F 5 2 ∧ F 5 2 ≤ 600 := gi_g hgi rfl
            exact fl_R_sub (lv' := [(0, .ref 344)]) rfl rfl (mb_184_86 hG F X hgi K nm ts pl ps hgK hrk hkt hp h0 h5 hnm hts hpl hps h33 fr lo hfr hlo F344_ g345_ g353_ rk354_ (by omega) (⟨by omega, by omega⟩) (⟨by intro h0_; have hs_ := c342_s; rw [sp_prb, sp_open]; rw [(congrArg (sp_kind K 0) h5.symm).trans c12_]; simp only [pb_r]; rw [c37_]; simp only [pb_r]; rw [c63_]; simp only [pb_r]; rw [c90_]; simp only [pb_r]; rw [(show sp_kind K 2 (F92_ 344 5) = .inr (F92_ 344 5 + 1) by rw [sp_kind, if_pos (by omega), sk, if_pos (by omega)])]; simp only [pb_r]; rw [c170_]; simp only [pb_r]; rw [sp_dname, sp_part]; rw [c201_]; simp only [pb_r]; rw [c233_]; simp only [pb_r]; rw [if_neg (fun h8_ => h8_.2 ((nrel_inj c269_ hnm).mpr (by omega))), (show sp_kind K 2 (F235_ 344 5) = .inr (F235_ 344 5 + 1) by rw [sp_kind, if_pos (by omega), sk, if_pos (by omega)])]; simp only [pb_r]; rw [hs_]; try (show Sum.inl _ = _); try (congr 2 <;> omega), fun h0_ => by exfalso; omega⟩) (⟨[], [], (trm_fs (by rw [q332_]; exact (trm_u (trm_fs (trm_fs (trm_fs (trm_fs (by rw [q154_]; exact (trm_u (trm_fs (trm_fs (trm_fs (trm_fs (trm_fs (tr5_0 h33) s16_ (by first | exact fs_rg rfl | exact fun r j hj => (fs_n (by omega) (fs_n (by omega) rfl)))) s41_ (by first | exact fs_rg rfl | exact fun r j hj => (fs_n (by omega) (fs_n (by omega) rfl)))) s67_ (by first | exact fs_rg rfl | exact fun r j hj => (fs_n (by omega) (fs_n (by omega) rfl)))) s94_ (by first | exact fs_rg rfl | exact fun r j hj => (fs_n (by omega) (fs_n (by omega) rfl)))) s127_ (by first | exact fs_rg rfl | exact fun r j hj => (fs_n (by omega) rfl))) (by first | decide | exact nc_ rfl | omega))) s174_ (by first | exact fs_rg rfl | exact fun r j hj => (fs_n (by omega) (fs_n (by omega) rfl)))) s205_ (by first | exact fs_rg rfl | exact fun r j hj => (fs_n (by omega) (fs_n (by omega) rfl)))) s237_ (by first | exact fs_rg rfl | exact fun r j hj => (fs_n (by omega) (fs_n (by omega) rfl)))) s275_ (by first | exact fs_rg rfl | exact fun r j hj => (fs_n (by omega) rfl))) (by first | decide | exact nc_ rfl | omega))) s346_ (by first | exact fs_rg rfl | exact fun r j hj => (fs_n (by omega) (fs_n (by omega) rfl)))), rfl⟩))
          subst hA_
          have g371_ : fs [(344, 344, 5, 5), (344, 344, 9, 10), (344, 344, 33, 33), (344, 344, 36, 36), (344, 344, 64, 64), (358, 358, 0, 100000), (360, 366, 0, 100000)] F F350_ := fs_tr g334_ s352_ rfl
          have rk372_ : rk K F350_ := rk_fs rk335_ s352_ (fs_rg rfl) rfl
          try simp only [e340_] at c347_
          try simp only [e336_] at c348_
          refine ga_aload_n (v := .ref 344) hm_184 rfl rfl rfl ?_
          refine fl_bipush hm_184 rfl rfl ?_
          have b373_ : 0 ≤ F350_ 344 5 ∧ F350_ 344 5 ≤ 600 := gi_g g351_ rfl
          refine gVv (nY := 2) (F := 2) (L := 41) (As := [.int (Int32.ofInt 40)]) (b := 344) (rest := []) hm_184 rfl hm_51 rfl rfl (fl_ob sc_344) rfl rfl rfl rfl rfl (by omega) (by omega) (mc_51 hG F350_ X g351_ (K) (40) (0) hgK rk372_ hkt (⟨by omega, by omega⟩) (by omega) (by omega)) (fun _ _ h => False.elim h) ?_
          have b375_ : 0 ≤ F350_ 344 10 ∧ F350_ 344 10 ≤ 600 := gi_g g351_ rfl
          have b376_ : 0 ≤ F350_ 344 9 ∧ F350_ 344 9 ≤ 5 := gi_g g351_ rfl
          rintro A1_ (⟨F380_, hA_, g381_, s382_, c377_, c378_, c379_⟩ | ⟨F386_, hA_, g387_, s388_, c383_, c384_, c385_⟩)
          ·
            subst hA_
            have g389_ : fs [(344, 344, 5, 5), (344, 344, 9, 10), (344, 344, 33, 33), (344, 344, 36, 36), (344, 344, 64, 64), (358, 358, 0, 100000), (360, 366, 0, 100000)] F F380_ := fs_tr g371_ s382_ rfl
            have rk390_ : rk K F380_ := rk_fs rk372_ s382_ (fs_rg rfl) rfl
            have c378_s := c378_.1 (by omega)
            clear c378_
            have b391_ : 0 ≤ F380_ 344 9 ∧ F380_ 344 9 ≤ 5 := gi_g g381_ rfl
            have b392_ : 0 ≤ F380_ 344 10 ∧ F380_ 344 10 ≤ 600 := gi_g g381_ rfl
            have b393_ : 0 ≤ F380_ 344 5 ∧ F380_ 344 5 ≤ 600 := gi_g g381_ rfl
            have e394_ : F14_ 5 2 = F 5 2 := (s16_ 5 2 rfl).trans (rfl)
            have e395_ : F39_ 5 2 = F 5 2 := (s41_ 5 2 rfl).trans (e394_)
            have e396_ : F65_ 5 2 = F 5 2 := (s67_ 5 2 rfl).trans (e395_)
            have e397_ : F92_ 5 2 = F 5 2 := (s94_ 5 2 rfl).trans (e396_)
            have e398_ : F125_ 5 2 = F 5 2 := (s127_ 5 2 rfl).trans (e397_)
            have e399_ : F153_ 5 2 = F 5 2 := by rw [q154_]; exact (fl_u_ne (by first | exact nc_ rfl | decide | omega)).trans (e398_)
            have e400_ : F172_ 5 2 = F 5 2 := (s174_ 5 2 rfl).trans (e399_)
            have e401_ : F203_ 5 2 = F 5 2 := (s205_ 5 2 rfl).trans (e400_)
            have e402_ : F235_ 5 2 = F 5 2 := (s237_ 5 2 rfl).trans (e401_)
            have e403_ : F273_ 5 2 = F 5 2 := (s275_ 5 2 rfl).trans (e402_)
            have e404_ : F331_ 5 2 = F 5 2 := by rw [q332_]; exact (fl_u_ne (by first | exact nc_ rfl | decide | omega)).trans (e403_)
            have e405_ : F350_ 5 2 = F 5 2 := (s352_ 5 2 rfl).trans (e404_)
            have e406_ : F380_ 5 2 = F 5 2 := (s382_ 5 2 rfl).trans (e405_)
            have b407_ : 0 ≤ F 5 2 ∧ F 5 2 ≤ 600 := gi_g hgi rfl
            exact fl_R_sub (lv' := [(0, .ref 344)]) rfl rfl (mb_184_92 hG F X hgi K nm ts pl ps hgK hrk hkt hp h0 h5 hnm hts hpl hps h33 fr lo hfr hlo F380_ g381_ g389_ rk390_ (by omega) (⟨by omega, by omega⟩) (⟨by intro h0_; have hs_ := c378_s; rw [sp_prb, sp_open]; rw [(congrArg (sp_kind K 0) h5.symm).trans c12_]; simp only [pb_r]; rw [c37_]; simp only [pb_r]; rw [c63_]; simp only [pb_r]; rw [c90_]; simp only [pb_r]; rw [(show sp_kind K 2 (F92_ 344 5) = .inr (F92_ 344 5 + 1) by rw [sp_kind, if_pos (by omega), sk, if_pos (by omega)])]; simp only [pb_r]; rw [c170_]; simp only [pb_r]; rw [sp_dname, sp_part]; rw [c201_]; simp only [pb_r]; rw [c233_]; simp only [pb_r]; rw [if_neg (fun h8_ => h8_.2 ((nrel_inj c269_ hnm).mpr (by omega))), (show sp_kind K 2 (F235_ 344 5) = .inr (F235_ 344 5 + 1) by rw [sp_kind, if_pos (by omega), sk, if_pos (by omega)])]; simp only [pb_r]; rw [c348_]; simp only [pb_r]; rw [sp_robjs, sp_part]; rw [hs_]; try (show Sum.inl _ = _); try (congr 2 <;> omega), fun h0_ => by exfalso; omega⟩) (⟨[], [], (trm_fs (trm_fs (by rw [q332_]; exact (trm_u (trm_fs (trm_fs (trm_fs (trm_fs (by rw [q154_]; exact (trm_u (trm_fs (trm_fs (trm_fs (trm_fs (trm_fs (tr5_0 h33) s16_ (by first | exact fs_rg rfl | exact fun r j hj => (fs_n (by omega) (fs_n (by omega) rfl)))) s41_ (by first | exact fs_rg rfl | exact fun r j hj => (fs_n (by omega) (fs_n (by omega) rfl)))) s67_ (by first | exact fs_rg rfl | exact fun r j hj => (fs_n (by omega) (fs_n (by omega) rfl)))) s94_ (by first | exact fs_rg rfl | exact fun r j hj => (fs_n (by omega) (fs_n (by omega) rfl)))) s127_ (by first | exact fs_rg rfl | exact fun r j hj => (fs_n (by omega) rfl))) (by first | decide | exact nc_ rfl | omega))) s174_ (by first | exact fs_rg rfl | exact fun r j hj => (fs_n (by omega) (fs_n (by omega) rfl)))) s205_ (by first | exact fs_rg rfl | exact fun r j hj => (fs_n (by omega) (fs_n (by omega) rfl)))) s237_ (by first | exact fs_rg rfl | exact fun r j hj => (fs_n (by omega) (fs_n (by omega) rfl)))) s275_ (by first | exact fs_rg rfl | exact fun r j hj => (fs_n (by omega) rfl))) (by first | decide | exact nc_ rfl | omega))) s352_ (by first | exact fs_rg rfl | exact fun r j hj => (fs_n (by omega) (fs_n (by omega) rfl)))) s382_ (by first | exact fs_rg rfl | exact fun r j hj => (fs_n (by omega) (fs_n (by omega) rfl)))), rfl⟩))
          subst hA_
          have g408_ : fs [(344, 344, 5, 5), (344, 344, 9, 10), (344, 344, 33, 33), (344, 344, 36, 36), (344, 344, 64, 64), (358, 358, 0, 100000), (360, 366, 0, 100000)] F F386_ := fs_tr g371_ s388_ rfl
          have rk409_ : rk K F386_ := rk_fs rk372_ s388_ (fs_rg rfl) rfl
          refine ga_aload_n (v := .ref 344) hm_184 rfl rfl rfl ?_
          refine fl_bipush hm_184 rfl rfl ?_
          have b410_ : 0 ≤ F386_ 344 5 ∧ F386_ 344 5 ≤ 600 := gi_g g387_ rfl
          refine gVv (nY := 2) (F := 2) (L := 44) (As := [.int (Int32.ofInt 15)]) (b := 344) (rest := []) hm_184 rfl hm_55 rfl rfl (fl_ob sc_344) rfl rfl rfl rfl rfl (by omega) (by omega) (mc_55 hG F386_ X g387_ (K) (15) ([58, 111, 98, 106, 101, 99, 116, 115]) hgK rk409_ hkt (⟨by omega, by omega⟩) (⟨by omega, by omega⟩) (by decide) (kw_15 rk409_)) (fun _ _ h => False.elim h) ?_
          have b412_ : 0 ≤ F386_ 344 10 ∧ F386_ 344 10 ≤ 600 := gi_g g387_ rfl
          have b413_ : 0 ≤ F386_ 344 9 ∧ F386_ 344 9 ≤ 5 := gi_g g387_ rfl
          rintro A1_ (⟨F417_, hA_, g418_, s419_, c414_, c415_, c416_⟩ | ⟨F423_, hA_, g424_, s425_, c420_, c421_, c422_⟩)
          ·
            subst hA_
            have g426_ : fs [(344, 344, 5, 5), (344, 344, 9, 10), (344, 344, 33, 33), (344, 344, 36, 36), (344, 344, 64, 64), (358, 358, 0, 100000), (360, 366, 0, 100000)] F F417_ := fs_tr g408_ s419_ rfl
            have rk427_ : rk K F417_ := rk_fs rk409_ s419_ (fs_rg rfl) rfl
            have c415_s := c415_.1 (by omega)
            clear c415_
            have b428_ : 0 ≤ F417_ 344 9 ∧ F417_ 344 9 ≤ 5 := gi_g g418_ rfl
            have b429_ : 0 ≤ F417_ 344 10 ∧ F417_ 344 10 ≤ 600 := gi_g g418_ rfl
            have b430_ : 0 ≤ F417_ 344 5 ∧ F417_ 344 5 ≤ 600 := gi_g g418_ rfl
            have e431_ : F14_ 5 2 = F 5 2 := (s16_ 5 2 rfl).trans (rfl)
            have e432_ : F39_ 5 2 = F 5 2 := (s41_ 5 2 rfl).trans (e431_)
            have e433_ : F65_ 5 2 = F 5 2 := (s67_ 5 2 rfl).trans (e432_)
            have e434_ : F92_ 5 2 = F 5 2 := (s94_ 5 2 rfl).trans (e433_)
            have e435_ : F125_ 5 2 = F 5 2 := (s127_ 5 2 rfl).trans (e434_)
            have e436_ : F153_ 5 2 = F 5 2 := by rw [q154_]; exact (fl_u_ne (by first | exact nc_ rfl | decide | omega)).trans (e435_)
            have e437_ : F172_ 5 2 = F 5 2 := (s174_ 5 2 rfl).trans (e436_)
            have e438_ : F203_ 5 2 = F 5 2 := (s205_ 5 2 rfl).trans (e437_)
            have e439_ : F235_ 5 2 = F 5 2 := (s237_ 5 2 rfl).trans (e438_)
            have e440_ : F273_ 5 2 = F 5 2 := (s275_ 5 2 rfl).trans (e439_)
            have e441_ : F331_ 5 2 = F 5 2 := by rw [q332_]; exact (fl_u_ne (by first | exact nc_ rfl | decide | omega)).trans (e440_)
            have e442_ : F350_ 5 2 = F 5 2 := (s352_ 5 2 rfl).trans (e441_)
            have e443_ : F386_ 5 2 = F 5 2 := (s388_ 5 2 rfl).trans (e442_)
            have e444_ : F417_ 5 2 = F 5 2 := (s419_ 5 2 rfl).trans (e443_)
            have b445_ : 0 ≤ F 5 2 ∧ F 5 2 ≤ 600 := gi_g hgi rfl
            exact fl_R_sub (lv' := [(0, .ref 344)]) rfl rfl (mb_184_98 hG F X hgi K nm ts pl ps hgK hrk hkt hp h0 h5 hnm hts hpl hps h33 fr lo hfr hlo F417_ g418_ g426_ rk427_ (by omega) (⟨by omega, by omega⟩) (⟨by intro h0_; have hs_ := c415_s; rw [sp_prb, sp_open]; rw [(congrArg (sp_kind K 0) h5.symm).trans c12_]; simp only [pb_r]; rw [c37_]; simp only [pb_r]; rw [c63_]; simp only [pb_r]; rw [c90_]; simp only [pb_r]; rw [(show sp_kind K 2 (F92_ 344 5) = .inr (F92_ 344 5 + 1) by rw [sp_kind, if_pos (by omega), sk, if_pos (by omega)])]; simp only [pb_r]; rw [c170_]; simp only [pb_r]; rw [sp_dname, sp_part]; rw [c201_]; simp only [pb_r]; rw [c233_]; simp only [pb_r]; rw [if_neg (fun h8_ => h8_.2 ((nrel_inj c269_ hnm).mpr (by omega))), (show sp_kind K 2 (F235_ 344 5) = .inr (F235_ 344 5 + 1) by rw [sp_kind, if_pos (by omega), sk, if_pos (by omega)])]; simp only [pb_r]; rw [c348_]; simp only [pb_r]; rw [sp_robjs, sp_part]; rw [c384_]; simp only [pb_r]; rw [hs_]; try (show Sum.inl _ = _); try (congr 2 <;> omega), fun h0_ => by exfalso; omega⟩) (⟨[], [], (trm_fs (trm_fs (trm_fs (by rw [q332_]; exact (trm_u (trm_fs (trm_fs (trm_fs (trm_fs (by rw [q154_]; exact (trm_u (trm_fs (trm_fs (trm_fs (trm_fs (trm_fs (tr5_0 h33) s16_ (by first | exact fs_rg rfl | exact fun r j hj => (fs_n (by omega) (fs_n (by omega) rfl)))) s41_ (by first | exact fs_rg rfl | exact fun r j hj => (fs_n (by omega) (fs_n (by omega) rfl)))) s67_ (by first | exact fs_rg rfl | exact fun r j hj => (fs_n (by omega) (fs_n (by omega) rfl)))) s94_ (by first | exact fs_rg rfl | exact fun r j hj => (fs_n (by omega) (fs_n (by omega) rfl)))) s127_ (by first | exact fs_rg rfl | exact fun r j hj => (fs_n (by omega) rfl))) (by first | decide | exact nc_ rfl | omega))) s174_ (by first | exact fs_rg rfl | exact fun r j hj => (fs_n (by omega) (fs_n (by omega) rfl)))) s205_ (by first | exact fs_rg rfl | exact fun r j hj => (fs_n (by omega) (fs_n (by omega) rfl)))) s237_ (by first | exact fs_rg rfl | exact fun r j hj => (fs_n (by omega) (fs_n (by omega) rfl)))) s275_ (by first | exact fs_rg rfl | exact fun r j hj => (fs_n (by omega) rfl))) (by first | decide | exact nc_ rfl | omega))) s352_ (by first | exact fs_rg rfl | exact fun r j hj => (fs_n (by omega) (fs_n (by omega) rfl)))) s388_ (by first | exact fs_rg rfl | exact fun r j hj => (fs_n (by omega) (fs_n (by omega) rfl)))) s419_ (by first | exact fs_rg rfl | exact fun r j hj => (fs_n (by omega) (fs_n (by omega) rfl)))), rfl⟩))
          subst hA_
          have g446_ : fs [(344, 344, 5, 5), (344, 344, 9, 10), (344, 344, 33, 33), (344, 344, 36, 36), (344, 344, 64, 64), (358, 358, 0, 100000), (360, 366, 0, 100000)] F F423_ := fs_tr g408_ s425_ rfl
          have rk447_ : rk K F423_ := rk_fs rk409_ s425_ (fs_rg rfl) rfl
          have b448_ : 0 ≤ F423_ 344 9 ∧ F423_ 344 9 ≤ 5 := gi_g g424_ rfl
          have b449_ : 0 ≤ F423_ 344 10 ∧ F423_ 344 10 ≤ 600 := gi_g g424_ rfl
          have b450_ : 0 ≤ F423_ 344 5 ∧ F423_ 344 5 ≤ 600 := gi_g g424_ rfl
          have e451_ : F14_ 344 33 = F 344 33 := (s16_ 344 33 rfl).trans (rfl)
          have e452_ : F39_ 344 33 = F 344 33 := (s41_ 344 33 rfl).trans (e451_)
          have e453_ : F65_ 344 33 = F 344 33 := (s67_ 344 33 rfl).trans (e452_)
          have e454_ : F92_ 344 33 = F 344 33 := (s94_ 344 33 rfl).trans (e453_)
          have e455_ : F125_ 344 33 = F 344 33 := (s127_ 344 33 rfl).trans (e454_)
          have e456_ : F153_ 344 33 = F 344 33 := by rw [q154_]; exact (fl_u_ne (by first | exact nc_ rfl | decide | omega)).trans (e455_)
          have e457_ : F172_ 344 33 = F 344 33 := (s174_ 344 33 rfl).trans (e456_)
          have e458_ : F203_ 344 33 = F 344 33 := (s205_ 344 33 rfl).trans (e457_)
          have e459_ : F235_ 344 33 = F 344 33 := (s237_ 344 33 rfl).trans (e458_)
          have e460_ : F273_ 344 33 = F 344 33 := (s275_ 344 33 rfl).trans (e459_)
          have e461_ : F331_ 344 33 = F 344 33 := by rw [q332_]; exact (fl_u_ne (by first | exact nc_ rfl | decide | omega)).trans (e460_)
          have e462_ : F350_ 344 33 = F 344 33 := (s352_ 344 33 rfl).trans (e461_)
          have e463_ : F386_ 344 33 = F 344 33 := (s388_ 344 33 rfl).trans (e462_)
          have e464_ : F423_ 344 33 = F 344 33 := (s425_ 344 33 rfl).trans (e463_)
          have b465_ : 0 ≤ F 344 33 ∧ F 344 33 ≤ 6 := gi_g hgi rfl
          exact fl_R_sub (lv' := [(0, .ref 344)]) rfl rfl (mg_184_98 hG F X hgi K nm ts pl ps hgK hrk hkt hp h0 h5 hnm hts hpl hps h33 fr lo hfr hlo F423_ g424_ g446_ rk447_ ⟨by omega, by omega⟩ ⟨by omega, by omega⟩ (by rw [sp_prb, sp_open]; rw [(congrArg (sp_kind K 0) h5.symm).trans c12_]; simp only [pb_r]; rw [c37_]; simp only [pb_r]; rw [c63_]; simp only [pb_r]; rw [c90_]; simp only [pb_r]; rw [(show sp_kind K 2 (F92_ 344 5) = .inr (F92_ 344 5 + 1) by rw [sp_kind, if_pos (by omega), sk, if_pos (by omega)])]; simp only [pb_r]; rw [c170_]; simp only [pb_r]; rw [sp_dname, sp_part]; rw [c201_]; simp only [pb_r]; rw [c233_]; simp only [pb_r]; rw [if_neg (fun h8_ => h8_.2 ((nrel_inj c269_ hnm).mpr (by omega))), (show sp_kind K 2 (F235_ 344 5) = .inr (F235_ 344 5 + 1) by rw [sp_kind, if_pos (by omega), sk, if_pos (by omega)])]; simp only [pb_r]; rw [c348_]; simp only [pb_r]; rw [sp_robjs, sp_part]; rw [c384_]; simp only [pb_r]; rw [c421_]; simp only [pb_r]; first | rfl | (congr 1; omega)) ((rpn_fs (rpn_fs (rpn_fs (by rw [q332_]; exact (rpn_u (rpn_fs (rpn_fs (rpn_fs (rpn_fs (by rw [q154_]; exact (rpn_u (rpn_fs (rpn_fs (rpn_fs (rpn_fs (rpn_fs hts s16_ (fun _ => (by first | exact fs_c rfl | exact (fs_n (by omega) (fs_n (by omega) rfl)))) (by first | exact fs_c rfl | exact (fs_n (by omega) (fs_n (by omega) rfl)))) s41_ (fun _ => (by first | exact fs_c rfl | exact (fs_n (by omega) (fs_n (by omega) rfl)))) (by first | exact fs_c rfl | exact (fs_n (by omega) (fs_n (by omega) rfl)))) s67_ (fun _ => (by first | exact fs_c rfl | exact (fs_n (by omega) (fs_n (by omega) rfl)))) (by first | exact fs_c rfl | exact (fs_n (by omega) (fs_n (by omega) rfl)))) s94_ (fun _ => (by first | exact fs_c rfl | exact (fs_n (by omega) (fs_n (by omega) rfl)))) (by first | exact fs_c rfl | exact (fs_n (by omega) (fs_n (by omega) rfl)))) s127_ (fun _ => (by first | exact fs_c rfl | exact (fs_n (by omega) rfl))) (by first | exact fs_c rfl | exact (fs_n (by omega) rfl))) (by first | decide | exact nc_ rfl | omega) (by first | decide | exact nc_ rfl | omega))) s174_ (fun _ => (by first | exact fs_c rfl | exact (fs_n (by omega) (fs_n (by omega) rfl)))) (by first | exact fs_c rfl | exact (fs_n (by omega) (fs_n (by omega) rfl)))) s205_ (fun _ => (by first | exact fs_c rfl | exact (fs_n (by omega) (fs_n (by omega) rfl)))) (by first | exact fs_c rfl | exact (fs_n (by omega) (fs_n (by omega) rfl)))) s237_ (fun _ => (by first | exact fs_c rfl | exact (fs_n (by omega) (fs_n (by omega) rfl)))) (by first | exact fs_c rfl | exact (fs_n (by omega) (fs_n (by omega) rfl)))) s275_ (fun _ => (by first | exact fs_c rfl | exact (fs_n (by omega) rfl))) (by first | exact fs_c rfl | exact (fs_n (by omega) rfl))) (by first | decide | exact nc_ rfl | omega) (by first | decide | exact nc_ rfl | omega))) s352_ (fun _ => (by first | exact fs_c rfl | exact (fs_n (by omega) (fs_n (by omega) rfl)))) (by first | exact fs_c rfl | exact (fs_n (by omega) (fs_n (by omega) rfl)))) s388_ (fun _ => (by first | exact fs_c rfl | exact (fs_n (by omega) (fs_n (by omega) rfl)))) (by first | exact fs_c rfl | exact (fs_n (by omega) (fs_n (by omega) rfl)))) s425_ (fun _ => (by first | exact fs_c rfl | exact (fs_n (by omega) (fs_n (by omega) rfl)))) (by first | exact fs_c rfl | exact (fs_n (by omega) (fs_n (by omega) rfl))))) ((rpn_fs (rpn_fs (rpn_fs (by rw [q332_]; exact (rpn_u (rpn_fs (rpn_fs (rpn_fs (rpn_fs (by rw [q154_]; exact (rpn_u (rpn_fs (rpn_fs (rpn_fs (rpn_fs (rpn_fs hpl s16_ (fun _ => (by first | exact fs_c rfl | exact (fs_n (by omega) (fs_n (by omega) rfl)))) (by first | exact fs_c rfl | exact (fs_n (by omega) (fs_n (by omega) rfl)))) s41_ (fun _ => (by first | exact fs_c rfl | exact (fs_n (by omega) (fs_n (by omega) rfl)))) (by first | exact fs_c rfl | exact (fs_n (by omega) (fs_n (by omega) rfl)))) s67_ (fun _ => (by first | exact fs_c rfl | exact (fs_n (by omega) (fs_n (by omega) rfl)))) (by first | exact fs_c rfl | exact (fs_n (by omega) (fs_n (by omega) rfl)))) s94_ (fun _ => (by first | exact fs_c rfl | exact (fs_n (by omega) (fs_n (by omega) rfl)))) (by first | exact fs_c rfl | exact (fs_n (by omega) (fs_n (by omega) rfl)))) s127_ (fun _ => (by first | exact fs_c rfl | exact (fs_n (by omega) rfl))) (by first | exact fs_c rfl | exact (fs_n (by omega) rfl))) (by first | decide | exact nc_ rfl | omega) (by first | decide | exact nc_ rfl | omega))) s174_ (fun _ => (by first | exact fs_c rfl | exact (fs_n (by omega) (fs_n (by omega) rfl)))) (by first | exact fs_c rfl | exact (fs_n (by omega) (fs_n (by omega) rfl)))) s205_ (fun _ => (by first | exact fs_c rfl | exact (fs_n (by omega) (fs_n (by omega) rfl)))) (by first | exact fs_c rfl | exact (fs_n (by omega) (fs_n (by omega) rfl)))) s237_ (fun _ => (by first | exact fs_c rfl | exact (fs_n (by omega) (fs_n (by omega) rfl)))) (by first | exact fs_c rfl | exact (fs_n (by omega) (fs_n (by omega) rfl)))) s275_ (fun _ => (by first | exact fs_c rfl | exact (fs_n (by omega) rfl))) (by first | exact fs_c rfl | exact (fs_n (by omega) rfl))) (by first | decide | exact nc_ rfl | omega) (by first | decide | exact nc_ rfl | omega))) s352_ (fun _ => (by first | exact fs_c rfl | exact (fs_n (by omega) (fs_n (by omega) rfl)))) (by first | exact fs_c rfl | exact (fs_n (by omega) (fs_n (by omega) rfl)))) s388_ (fun _ => (by first | exact fs_c rfl | exact (fs_n (by omega) (fs_n (by omega) rfl)))) (by first | exact fs_c rfl | exact (fs_n (by omega) (fs_n (by omega) rfl)))) s425_ (fun _ => (by first | exact fs_c rfl | exact (fs_n (by omega) (fs_n (by omega) rfl)))) (by first | exact fs_c rfl | exact (fs_n (by omega) (fs_n (by omega) rfl))))) (⟨(rprd_fs (rprd_fs (rprd_fs (by rw [q332_]; exact (rprd_u (rprd_fs (rprd_fs (rprd_fs (rprd_fs (by rw [q154_]; exact (rprd_u (rprd_fs (rprd_fs (rprd_fs (rprd_fs (rprd_fs hps.1 s16_ (by first | exact fs_rg rfl | exact fun r j hj => (fs_n (by omega) (fs_n (by omega) rfl)))) s41_ (by first | exact fs_rg rfl | exact fun r j hj => (fs_n (by omega) (fs_n (by omega) rfl)))) s67_ (by first | exact fs_rg rfl | exact fun r j hj => (fs_n (by omega) (fs_n (by omega) rfl)))) s94_ (by first | exact fs_rg rfl | exact fun r j hj => (fs_n (by omega) (fs_n (by omega) rfl)))) s127_ (by first | exact fs_rg rfl | exact fun r j hj => (fs_n (by omega) rfl))) (by first | decide | exact nc_ rfl | omega))) s174_ (by first | exact fs_rg rfl | exact fun r j hj => (fs_n (by omega) (fs_n (by omega) rfl)))) s205_ (by first | exact fs_rg rfl | exact fun r j hj => (fs_n (by omega) (fs_n (by omega) rfl)))) s237_ (by first | exact fs_rg rfl | exact fun r j hj => (fs_n (by omega) (fs_n (by omega) rfl)))) s275_ (by first | exact fs_rg rfl | exact fun r j hj => (fs_n (by omega) rfl))) (by first | decide | exact nc_ rfl | omega))) s352_ (by first | exact fs_rg rfl | exact fun r j hj => (fs_n (by omega) (fs_n (by omega) rfl)))) s388_ (by first | exact fs_rg rfl | exact fun r j hj => (fs_n (by omega) (fs_n (by omega) rfl)))) s425_ (by first | exact fs_rg rfl | exact fun r j hj => (fs_n (by omega) (fs_n (by omega) rfl)))), hps.2⟩) (by omega))
        exfalso; omega
      refine ga_aload_n (v := .ref 344) hm_184 rfl rfl rfl ?_
      refine fl_iconst hm_184 rfl ?_
      have e466_ : F273_ 344 5 = F235_ 344 5 := (s275_ 344 5 rfl).trans (rfl)
      refine gVv (nY := 2) (F := 0) (L := 0) (As := [.int (Int32.ofInt 3)]) (b := 344) (rest := []) hm_184 rfl hm_54 rfl rfl (fl_ob sc_344) rfl rfl rfl rfl rfl (by omega) (by omega) (mc_54 hG F273_ X g274_ (K) (3) hgK rk299_ hkt (⟨by omega, by omega⟩) (⟨by omega, by omega⟩)) (fun _ _ h => False.elim h) ?_
      have b468_ : 0 ≤ F273_ 344 10 ∧ F273_ 344 10 ≤ 600 := gi_g g274_ rfl
      rintro A1_ ⟨F472_, hA_, g473_, s474_, c469_, c470_, c471_⟩
      subst hA_
      have g475_ : fs [(344, 344, 5, 5), (344, 344, 9, 10), (344, 344, 33, 33), (344, 344, 36, 36), (344, 344, 64, 64), (358, 358, 0, 100000), (360, 366, 0, 100000)] F F472_ := fs_tr g298_ s474_ rfl
      have rk476_ : rk K F472_ := rk_fs rk299_ s474_ (fs_rg rfl) rfl
      try simp only [e466_] at c470_
      try simp only [e466_] at c471_
      have c470_s := c470_.1 (by omega)
      clear c470_
      have b477_ : 0 ≤ F472_ 344 9 ∧ F472_ 344 9 ≤ 5 := gi_g g473_ rfl
      have b478_ : 0 ≤ F472_ 344 10 ∧ F472_ 344 10 ≤ 600 := gi_g g473_ rfl
      have e479_ : F472_ 344 5 = F235_ 344 5 := (s474_ 344 5 rfl).trans (e466_)
      have e480_ : F14_ 5 2 = F 5 2 := (s16_ 5 2 rfl).trans (rfl)
      have e481_ : F39_ 5 2 = F 5 2 := (s41_ 5 2 rfl).trans (e480_)
      have e482_ : F65_ 5 2 = F 5 2 := (s67_ 5 2 rfl).trans (e481_)
      have e483_ : F92_ 5 2 = F 5 2 := (s94_ 5 2 rfl).trans (e482_)
      have e484_ : F125_ 5 2 = F 5 2 := (s127_ 5 2 rfl).trans (e483_)
      have e485_ : F153_ 5 2 = F 5 2 := by rw [q154_]; exact (fl_u_ne (by first | exact nc_ rfl | decide | omega)).trans (e484_)
      have e486_ : F172_ 5 2 = F 5 2 := (s174_ 5 2 rfl).trans (e485_)
      have e487_ : F203_ 5 2 = F 5 2 := (s205_ 5 2 rfl).trans (e486_)
      have e488_ : F235_ 5 2 = F 5 2 := (s237_ 5 2 rfl).trans (e487_)
      have e489_ : F273_ 5 2 = F 5 2 := (s275_ 5 2 rfl).trans (e488_)
      have e490_ : F472_ 5 2 = F 5 2 := (s474_ 5 2 rfl).trans (e489_)
      have b491_ : 0 ≤ F 5 2 ∧ F 5 2 ≤ 600 := gi_g hgi rfl
      exact fl_R_sub (lv' := [(0, .ref 344)]) rfl rfl (mb_184_76 hG F X hgi K nm ts pl ps hgK hrk hkt hp h0 h5 hnm hts hpl hps h33 fr lo hfr hlo F472_ g473_ g475_ rk476_ (by omega) (⟨by omega, by omega⟩) (⟨by intro h0_; have hs_ := c470_s; rw [sp_prb, sp_open]; rw [(congrArg (sp_kind K 0) h5.symm).trans c12_]; simp only [pb_r]; rw [c37_]; simp only [pb_r]; rw [c63_]; simp only [pb_r]; rw [c90_]; simp only [pb_r]; rw [(show sp_kind K 2 (F92_ 344 5) = .inr (F92_ 344 5 + 1) by rw [sp_kind, if_pos (by omega), sk, if_pos (by omega)])]; simp only [pb_r]; rw [c170_]; simp only [pb_r]; rw [sp_dname, sp_part]; rw [c201_]; simp only [pb_r]; rw [c233_]; simp only [pb_r]; rw [if_pos ⟨by omega, fun h8_ => absurd ((nrel_inj c269_ hnm).mp h8_) (by omega)⟩]; show Sum.inl (3, K 4 _) = _; congr 2 <;> omega, fun h0_ => by exfalso; omega⟩) (⟨[], [], (trm_fs (trm_fs (trm_fs (trm_fs (trm_fs (by rw [q154_]; exact (trm_u (trm_fs (trm_fs (trm_fs (trm_fs (trm_fs (tr5_0 h33) s16_ (by first | exact fs_rg rfl | exact fun r j hj => (fs_n (by omega) (fs_n (by omega) rfl)))) s41_ (by first | exact fs_rg rfl | exact fun r j hj => (fs_n (by omega) (fs_n (by omega) rfl)))) s67_ (by first | exact fs_rg rfl | exact fun r j hj => (fs_n (by omega) (fs_n (by omega) rfl)))) s94_ (by first | exact fs_rg rfl | exact fun r j hj => (fs_n (by omega) (fs_n (by omega) rfl)))) s127_ (by first | exact fs_rg rfl | exact fun r j hj => (fs_n (by omega) rfl))) (by first | decide | exact nc_ rfl | omega))) s174_ (by first | exact fs_rg rfl | exact fun r j hj => (fs_n (by omega) (fs_n (by omega) rfl)))) s205_ (by first | exact fs_rg rfl | exact fun r j hj => (fs_n (by omega) (fs_n (by omega) rfl)))) s237_ (by first | exact fs_rg rfl | exact fun r j hj => (fs_n (by omega) (fs_n (by omega) rfl)))) s275_ (by first | exact fs_rg rfl | exact fun r j hj => (fs_n (by omega) rfl))) s474_ (by first | exact fs_rg rfl | exact fun r j hj => (fs_n (by omega) rfl))), rfl⟩))
    exfalso; omega
  exfalso; omega

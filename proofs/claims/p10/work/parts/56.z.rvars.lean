def sp_p1 (K : fl_N) (ts : List Int) (m : Nat) (l tl : List Int) (p : Int) : PR (Int × List Int × List Int) := pb (sp_params K ts m l tl p) (fun q => if K 3 q.1.toNat = 1 then .inr q else pf K q.1 1)
theorem sp1_e {K : fl_N} {ts l tl : List Int} {m : Nat} {p : Int} (hk : K 3 p.toNat = 1) : sp_p1 K ts m l tl p = .inr (p, l, tl) := by
  rw [sp_p1, spp_e hk, pb_r, if_pos hk]
theorem sp1_z {K : fl_N} {ts l tl : List Int} {m : Nat} {p : Int} (hm : m = 0) (hk : ¬ K 3 p.toNat = 1) : sp_p1 K ts m l tl p = .inl (1, K 4 p.toNat) := by
  subst hm
  rw [sp_p1, sp_params, pb_r, if_neg hk]
  rfl
theorem sp1_u {K : fl_N} {ts l tl : List Int} {m : Nat} {p : Int} (hm : 0 < m) (hk : ¬ K 3 p.toNat = 1) : sp_p1 K ts m l tl p = pb (pb (sp_typed K ts 3 l tl p) (fun q => sp_params K ts (m - 1) q.2.1 q.2.2 q.1)) (fun q => if K 3 q.1.toNat = 1 then .inr q else pf K q.1 1) := by
  obtain ⟨k, rfl⟩ : ∃ k, m = k + 1 := ⟨m - 1, by omega⟩
  rw [sp_p1]
  conv => lhs; unfold sp_params
  rw [if_neg hk]
  rfl
theorem sp1_f1 {K : fl_N} {ts l tl : List Int} {m : Nat} {p : Int} (hk : ¬ K 3 p.toNat = 1) (h3 : ¬ K 3 p.toNat = 3) : sp_p1 K ts m l tl p = .inl (1, K 4 p.toNat) := by
  by_cases e : m = 0
  · exact sp1_z e hk
  · rw [sp1_u (by omega) hk, sp_typed, sp_new, if_neg h3]
    rfl
theorem sp1_f2 {K : fl_N} {ts l tl : List Int} {m : Nat} {p : Int} (hm : 0 < m) (h3 : K 3 p.toNat = 3) (hz : 0 ≤ idx l (K 6 p.toNat)) : sp_p1 K ts m l tl p = .inl (2, K 4 p.toNat) := by
  rw [sp1_u hm (by omega), sp_typed, sp_new, if_pos h3, if_neg (by omega)]
  rfl
theorem sp1_rt {K : fl_N} {ts l tl : List Int} {m : Nat} {p : Int} (hm : 0 < m) (h3 : K 3 p.toNat = 3) (hz : idx l (K 6 p.toNat) = -1) (hp : p < K 1 6 - 1) : sp_p1 K ts m l tl p = pb (sp_rt K ts (p + 1)) (fun r => sp_p1 K ts (m - 1) (l ++ [K 6 p.toNat]) (tl ++ [r.2]) r.1) := by
  rw [sp1_u hm (by omega), sp_typed, sp_new, if_pos h3, if_pos (by omega), sk, if_pos hp, pb_r, sp_rt]
  by_cases c : isw K (p + 1) [45] = true
  · simp only [c, if_true]
    rw [pb_as, pb_as]
    rfl
  · simp only [c, if_false]
    rfl
theorem dup_0 {l : List Int} {c : Int} (h : (l.length : Int) = 0) : idx l c = -1 := by
  have e : l = [] := List.eq_nil_of_length_eq_zero (by omega)
  rw [e]
  rfl
theorem dup_1 {g : Nat → Int} {n c v : Int} {l : List Int} (h : rpn g n l) (hr : nrel c v) (hn : (l.length : Int) = 1) : (g 0 = v → 0 ≤ idx l c) ∧ (¬ g 0 = v → idx l c = -1) := by
  match l, h, hn with
  | [x], h, _ =>
    have h9 := nrel_inj (h.2 0 x rfl) hr
    constructor
    · intro e
      rw [idx, if_pos (h9.mpr e)]
      decide
    · intro e
      rw [idx, if_neg (fun q => e (h9.mp q))]
      rfl
/-- types of parameters, one more than the class's -/
def rty (g : Nat → Int) (a : Nat) (tl : List Int) : Prop := ∀ (j : Nat) (x : Int), tl[j]? = some x → g (a + j) = x + 1
theorem rty_snoc {g g' : Nat → Int} {a : Nat} {tl : List Int} {t : Int} (h : rty g a tl) (hg : ∀ j : Nat, j < tl.length → g' (a + j) = g (a + j)) (ht : g' (a + tl.length) = t + 1) : rty g' a (tl ++ [t]) := by
  intro j x hx
  by_cases hj : j = tl.length
  · subst hj
    rw [List.getElem?_append_right (Nat.le_refl _)] at hx
    simp only [Nat.sub_self, List.getElem?_cons_zero, Option.some.injEq] at hx
    rw [ht, hx]
  · have hl : j < tl.length := by
      have h9 := (List.getElem?_eq_some_iff.mp hx).1
      rw [List.length_append, List.length_singleton] at h9
      omega
    rw [List.getElem?_append_left hl] at hx
    rw [hg j hl]
    exact h j x hx
theorem rt_eq {K : fl_N} {ts : List Int} {p q t : Int} {α : Type} {f : Int × Int → PR α} (h : sp_rt K ts p = .inr (q, t)) : pb (sp_rt K ts p) f = f (q, t) := by
  rw [h]
  rfl
theorem rt_er {K : fl_N} {ts : List Int} {p : Int} {e : Int × Int} {α : Type} {f : Int × Int → PR α} (h : sp_rt K ts p = .inl e) : pb (sp_rt K ts p) f = .inl e := by
  rw [h]
  rfl
theorem rpn_at {g g' : Nat → Int} {n c v : Int} {l : List Int} (h : rpn g n l) (hg : ∀ j : Nat, (j : Int) < n → g' j = g j) (hv : g' n.toNat = v) (hr : nrel c v) : rpn g' (n + 1) (l ++ [c]) := rpn_snoc h hg hv hr
theorem ra_fa {g : Nat → Int} {at_ fm n z c v : Int} {l : List Int} (h : rpn (fun j => g (at_.toNat + j)) n l) (hr : nrel c v) (h1 : -1 ≤ z ∧ z < n ∨ z = -1) (h2 : z = -1 → ∀ j : Nat, (j : Int) < n → g (fm.toNat + j) ≠ v) (h3 : 0 ≤ z → g (fm.toNat + z.toNat) = v ∧ ∀ j : Nat, (j : Int) < z → g (fm.toNat + j) ≠ v) (he : fm = at_) : idx l c = z := by
  subst he
  have hn := h.1
  exact rpn_find h hr (by omega) h2 h3
theorem rpn_cg {g g' : Nat → Int} {n : Int} {l : List Int} (h : rpn g n l) (hg : ∀ j : Nat, (j : Int) < n → g' j = g j) : rpn g' n l := ⟨h.1, fun j x hx => by
  have h9 := (List.getElem?_eq_some_iff.mp hx).1
  rw [hg j (by have := h.1; omega)]
  exact h.2 j x hx⟩

/- CheapPlannerModel.readVariables -/
abbrev pq_188 (G : Nat → Nat → Option Nat) (F : fl_N) (X : xi_H) (K : fl_N) (mo at_ : Int) (ts : List Int) : Outcome → xi_H → Prop := gqi (fun z A => (∃ F' : fl_N, fl_H sh_T G F' ++ X = A ∧ gi F' ∧ fs [(344, 344, 5, 5), (344, 344, 9, 10), (355, 356, 0, 100000)] F F' ∧ (¬ F' 344 9 = 0) ∧ ((F 344 9 = 0 → sp_p1 K ts 3 [] [] (F 344 5) = .inl (F' 344 9, F' 344 10)) ∧ (¬ F 344 9 = 0 → F' 344 9 = F 344 9 ∧ F' 344 10 = F 344 10)) ∧ (0 ≤ F' 344 5 ∧ F' 344 5 ≤ K 1 6 - 1) ∧ (0 ≤ z ∧ z ≤ 3)) ∨ (∃ F' : fl_N, fl_H sh_T G F' ++ X = A ∧ gi F' ∧ fs [(344, 344, 5, 5), (344, 344, 9, 10), (355, 356, 0, 100000)] F F' ∧ (F' 344 9 = 0 ∧ F 344 9 = 0) ∧ (∃ l tl, (sp_p1 K ts 3 [] [] (F 344 5) = .inr (F' 344 5, l, tl) ∧ K 3 (F' 344 5).toNat = 1) ∧ (z = (tl.length : Int) ∧ tl.length = l.length) ∧ rty (F' 355) at_.toNat tl ∧ rpn (fun j => F' 356 (at_.toNat + j)) z l) ∧ (0 ≤ F' 344 5 ∧ F' 344 5 ≤ K 1 6 - 1) ∧ (0 ≤ z ∧ z ≤ 3) ∧ (∀ j : Nat, (j < at_.toNat ∨ at_.toNat + 3 ≤ j) → F' 355 j = F 355 j))) gqn
theorem mc_188 {G : Nat → Nat → Option Nat} (hG : gg G) (F : fl_N) (X : xi_H) (hgi : gi F) (K : fl_N) (mo at_ : Int) (ts : List Int) (hgK : gi K) (hrk : rk K F) (hkt : rkt K) (hp : 0 ≤ F 344 5 ∧ F 344 5 ≤ K 1 6 - 1) (hts : rpn (F 349) (F 344 15) ts) (hmo : mo = 3) (hat : 0 ≤ at_ ∧ at_ ≤ 12) : fl_M xi_ms 188 4 89 [.ref 344, .int (Int32.ofInt mo), .ref 356, .ref 355, .int (Int32.ofInt at_)] (fl_H sh_T G F ++ X) (pq_188 G F X K mo at_ ts) := by
  intro fr lo hfr hlo
  show fl_R xi_ms 188 fr lo 0 [(0, .ref 344), (1, .int (Int32.ofInt mo)), (2, .ref 356), (3, .ref 355), (4, .int (Int32.ofInt at_))] [] _ _
  have hP := (rkt_p hkt hp.1 hp.2 hgK).1
  have hK16 : 0 ≤ K 1 6 ∧ K 1 6 ≤ 601 := gi_g hgK rfl
  have hko := hkt.1
  have b1_ : 0 ≤ F 344 9 ∧ F 344 9 ≤ 5 := gi_g hgi rfl
  by_cases h2_ : F 344 9 = 0
  ·
    refine fl_iconst hm_188 rfl ?_
    refine ga_istore (lv2 := [(5, .int (Int32.ofInt 0)), (0, .ref 344), (1, .int (Int32.ofInt mo)), (2, .ref 356), (3, .ref 355), (4, .int (Int32.ofInt at_))]) hm_188 rfl (Nat.le_of_ble_eq_true rfl) rfl ?_
    have b6_ : 0 ≤ F 344 5 ∧ F 344 5 ≤ 600 := gi_g hgi rfl
    have L4_ : ∀ (n3_ : Nat) (n : Int) (l : List Int) (tl : List Int) (F1 : fl_N), (4 - n : Int).toNat = n3_ → (gi F1) → (fs [(344, 344, 5, 5), (344, 344, 9, 10), (355, 356, 0, 100000)] F F1) → (F1 344 9 = 0) → (0 ≤ n ∧ n ≤ 3 ∧ (l.length : Int) = n ∧ (tl.length : Int) = n) → (rpn (fun j => F1 356 (at_.toNat + j)) n l) → (rty (F1 355) at_.toNat tl) → (0 ≤ F1 344 5 ∧ F1 344 5 ≤ K 1 6 - 1) → (sp_p1 K ts 3 [] [] (F 344 5) = sp_p1 K ts (3 - l.length) l tl (F1 344 5)) → (∀ j : Nat, (j < at_.toNat ∨ at_.toNat + 3 ≤ j) → F1 355 j = F 355 j) → fl_R xi_ms 188 fr lo 3 [(5, .int (Int32.ofInt n)), (0, .ref 344), (1, .int (Int32.ofInt mo)), (2, .ref 356), (3, .ref 355), (4, .int (Int32.ofInt at_))] [] (fl_H sh_T G F1 ++ X) (pq_188 G F X K mo at_ ts) := by
      intro n3_
      induction n3_ using Nat.strongRecOn with
      | ind n3_ ih5_ =>
      intro n l tl F1 hn7_ hg_F1 hf_F1 hk hn hsc hty hp1 hsp hl5
      have g8_ : fs [(344, 344, 5, 5), (344, 344, 9, 10), (355, 356, 0, 100000)] F F1 := fs_tr fs_refl hf_F1 rfl
      have rk9_ : rk K F1 := rk_fs hrk hf_F1 (fun r k h => (fs_n (by omega) (fs_n (by omega) (fs_n (by omega) rfl)))) (fs_n (by omega) (fs_n (by omega) (fs_n (by omega) rfl)))
      have hP1 := (rkt_p hkt (p := F1 344 5) (by omega) (by omega) hgK).1
      refine ga_aload_n (v := .ref 344) hm_188 rfl rfl rfl ?_
      refine gIi (nY := 1) (F := 0) (L := 0) (As := []) (b := 344) (rest := []) hm_188 rfl hm_59 rfl rfl (fl_ob sc_344) rfl rfl rfl rfl rfl (by omega) (by omega) ?_
      intro f10_ l11_ h12_ h13_
      show fl_R xi_ms 59 f10_ l11_ 0 [(0, .ref 344)] [] _ _
      refine ga_aload_n (v := .ref 344) hm_59 rfl rfl rfl ?_
      have b14_ : 0 ≤ F1 344 9 ∧ F1 344 9 ≤ 5 := gi_g hg_F1 rfl
      refine ga_geti (z := F1 344 9) hm_59 rfl sc_344 rfl (rfl) ?_
      refine fl_if_le (a := F1 344 9) hm_59 rfl ⟨by omega, by omega⟩ (fun h15_ => ?_) (fun h16_ => ?_)
      ·
        refine fl_iconst hm_59 rfl ?_
        refine gr_i hm_59 rfl rfl (ga_nb (by omega)) ?_
        clear h12_ h13_ f10_ l11_
        refine fl_if_ne hm_188 rfl ⟨by omega, by omega⟩ (fun h => absurd h (by omega)) (fun _ => ?_)
        refine ga_aload_n (v := .ref 344) hm_188 rfl rfl rfl ?_
        refine fl_bipush hm_188 rfl rfl ?_
        have b17_ : 0 ≤ F1 344 5 ∧ F1 344 5 ≤ 600 := gi_g hg_F1 rfl
        refine gVi (nY := 2) (F := 1) (L := 20) (As := [.int (Int32.ofInt 41)]) (b := 344) (rest := []) hm_188 rfl hm_52 rfl rfl (fl_ob sc_344) rfl rfl rfl rfl rfl (by omega) (by omega) (mc_52 hG F1 X hg_F1 (K) (41) hgK rk9_ hkt (by omega) (by omega)) (fun _ _ h => False.elim h) ?_
        rintro z18_ A1_ (⟨hA_, hz_, c19_⟩ | ⟨hA_, hz_, c20_, c21_⟩)
        ·
          subst hA_
          subst hz_
          refine fl_if_ne hm_188 rfl ⟨by omega, by omega⟩ (fun h => absurd h (by omega)) (fun _ => ?_)
          refine ga_iload (z := n) hm_188 rfl rfl ?_
          refine ga_iload_n (z := mo) hm_188 rfl rfl ?_
          refine fl_icmp_eq (a := n) (b := mo) hm_188 rfl ⟨by omega, by omega⟩ ⟨by omega, by omega⟩ (fun h22_ => ?_) (fun h23_ => ?_)
          ·
            refine ga_aload_n (v := .ref 344) hm_188 rfl rfl rfl ?_
            refine fl_iconst hm_188 rfl ?_
            refine gVv (nY := 2) (F := 0) (L := 0) (As := [.int (Int32.ofInt 1)]) (b := 344) (rest := []) hm_188 rfl hm_54 rfl rfl (fl_ob sc_344) rfl rfl rfl rfl rfl (by omega) (by omega) (mc_54 hG F1 X hg_F1 (K) (1) hgK rk9_ hkt (by omega) (by omega)) (fun _ _ h => False.elim h) ?_
            have b25_ : 0 ≤ F1 344 10 ∧ F1 344 10 ≤ 600 := gi_g hg_F1 rfl
            rintro A1_ ⟨F29_, hA_, g30_, s31_, c26_, c27_, c28_⟩
            subst hA_
            have g32_ : fs [(344, 344, 5, 5), (344, 344, 9, 10), (355, 356, 0, 100000)] F F29_ := fs_tr g8_ s31_ rfl
            have rk33_ : rk K F29_ := rk_fs rk9_ s31_ (fun r k h => (fs_n (by omega) rfl)) (fs_n (by omega) rfl)
            have c27_s := c27_.1 (by omega)
            clear c27_
            refine ga_aload_n (v := .ref 344) hm_188 rfl rfl rfl ?_
            refine gIi (nY := 1) (F := 0) (L := 0) (As := []) (b := 344) (rest := []) hm_188 rfl hm_59 rfl rfl (fl_ob sc_344) rfl rfl rfl rfl rfl (by omega) (by omega) ?_
            intro f34_ l35_ h36_ h37_
            show fl_R xi_ms 59 f34_ l35_ 0 [(0, .ref 344)] [] _ _
            refine ga_aload_n (v := .ref 344) hm_59 rfl rfl rfl ?_
            have b38_ : 0 ≤ F29_ 344 9 ∧ F29_ 344 9 ≤ 5 := gi_g g30_ rfl
            refine ga_geti (z := F29_ 344 9) hm_59 rfl sc_344 rfl (rfl) ?_
            refine fl_if_le (a := F29_ 344 9) hm_59 rfl ⟨by omega, by omega⟩ (fun h39_ => ?_) (fun h40_ => ?_)
            · exfalso; omega
            refine fl_iconst hm_59 rfl ?_
            refine fl_goto hm_59 rfl ?_
            refine gr_i hm_59 rfl rfl (ga_nb (by omega)) ?_
            clear h36_ h37_ f34_ l35_
            refine fl_if_eq hm_188 rfl ⟨by omega, by omega⟩ (fun h => absurd h (by omega)) (fun _ => ?_)
            refine ga_lconst (z := 0) hm_188 rfl rfl ?_
            refine fl_goto hm_188 rfl ?_
            
            refine ga_lstore (lv2 := [(6, .long (Int64.ofInt 0)), (5, .int (Int32.ofInt n)), (0, .ref 344), (1, .int (Int32.ofInt mo)), (2, .ref 356), (3, .ref 355), (4, .int (Int32.ofInt at_))]) hm_188 rfl (Nat.le_of_ble_eq_true rfl) rfl ?_
            refine ga_aload_n (v := .ref 344) hm_188 rfl rfl rfl ?_
            refine gIi (nY := 1) (F := 0) (L := 0) (As := []) (b := 344) (rest := []) hm_188 rfl hm_59 rfl rfl (fl_ob sc_344) rfl rfl rfl rfl rfl (by omega) (by omega) ?_
            intro f41_ l42_ h43_ h44_
            show fl_R xi_ms 59 f41_ l42_ 0 [(0, .ref 344)] [] _ _
            refine ga_aload_n (v := .ref 344) hm_59 rfl rfl rfl ?_
            refine ga_geti (z := F29_ 344 9) hm_59 rfl sc_344 rfl (rfl) ?_
            refine fl_if_le (a := F29_ 344 9) hm_59 rfl ⟨by omega, by omega⟩ (fun h45_ => ?_) (fun h46_ => ?_)
            · exfalso; omega
            refine fl_iconst hm_59 rfl ?_
            refine fl_goto hm_59 rfl ?_
            refine gr_i hm_59 rfl rfl (ga_nb (by omega)) ?_
            clear h43_ h44_ f41_ l42_
            refine fl_if_ne hm_188 rfl ⟨by omega, by omega⟩ (fun _ => ?_) (fun h => absurd (by omega) h)
            refine ga_aload_n (v := .ref 344) hm_188 rfl rfl rfl ?_
            refine gIv (nY := 1) (F := 1) (L := 20) (As := []) (b := 344) (rest := []) hm_188 rfl hm_61 rfl rfl (fl_ob sc_344) rfl rfl rfl rfl rfl (by omega) (by omega) ?_
            intro f47_ l48_ h49_ h50_
            show fl_R xi_ms 61 f47_ l48_ 0 [(0, .ref 344)] [] _ _
            refine ga_aload_n (v := .ref 344) hm_61 rfl rfl rfl ?_
            refine ga_dup hm_61 rfl rfl ?_
            have e51_ : F29_ 344 5 = F1 344 5 := (s31_ 344 5 rfl).trans (rfl)
            refine ga_geti (z := F1 344 5) hm_61 rfl sc_344 rfl (e51_) ?_
            refine ga_aload_n (v := .ref 344) hm_61 rfl rfl rfl ?_
            refine gIi (nY := 1) (F := 0) (L := 0) (As := []) (b := 344) (rest := [.int (Int32.ofInt (F1 344 5)), .ref 344]) hm_61 rfl hm_59 rfl rfl (fl_ob sc_344) rfl rfl rfl rfl rfl (by omega) (by omega) ?_
            intro f52_ l53_ h54_ h55_
            show fl_R xi_ms 59 f52_ l53_ 0 [(0, .ref 344)] [] _ _
            refine ga_aload_n (v := .ref 344) hm_59 rfl rfl rfl ?_
            refine ga_geti (z := F29_ 344 9) hm_59 rfl sc_344 rfl (rfl) ?_
            refine fl_if_le (a := F29_ 344 9) hm_59 rfl ⟨by omega, by omega⟩ (fun h56_ => ?_) (fun h57_ => ?_)
            · exfalso; omega
            refine fl_iconst hm_59 rfl ?_
            refine fl_goto hm_59 rfl ?_
            refine gr_i hm_59 rfl rfl (ga_nb (by omega)) ?_
            clear h54_ h55_ f52_ l53_
            refine fl_if_eq hm_61 rfl ⟨by omega, by omega⟩ (fun h => absurd h (by omega)) (fun _ => ?_)
            refine fl_iconst hm_61 rfl ?_
            refine fl_goto hm_61 rfl ?_
            refine ga_iadd (a := F1 344 5) (b := 0) (c := F1 344 5) hm_61 rfl (by omega) ?_
            refine ga_puti (z := F1 344 5) hm_61 rfl sc_344 rfl rfl ?_
            refine gr_v hm_61 rfl rfl ?_
            clear h49_ h50_ f47_ l48_
            refine ga_aload_n (v := .ref 344) hm_188 rfl rfl rfl ?_
            refine gIi (nY := 1) (F := 0) (L := 0) (As := []) (b := 344) (rest := []) hm_188 rfl hm_59 rfl rfl (fl_ob sc_344) rfl rfl rfl rfl rfl (by omega) (by omega) ?_
            intro f58_ l59_ h60_ h61_
            show fl_R xi_ms 59 f58_ l59_ 0 [(0, .ref 344)] [] _ _
            refine ga_aload_n (v := .ref 344) hm_59 rfl rfl rfl ?_
            refine ga_geti (z := F29_ 344 9) hm_59 rfl sc_344 rfl (fl_u_ne (by omega)) ?_
            refine fl_if_le (a := F29_ 344 9) hm_59 rfl ⟨by omega, by omega⟩ (fun h62_ => ?_) (fun h63_ => ?_)
            · exfalso; omega
            refine fl_iconst hm_59 rfl ?_
            refine fl_goto hm_59 rfl ?_
            refine gr_i hm_59 rfl rfl (ga_nb (by omega)) ?_
            clear h60_ h61_ f58_ l59_
            refine fl_if_eq hm_188 rfl ⟨by omega, by omega⟩ (fun h => absurd h (by omega)) (fun _ => ?_)
            refine ga_iload (z := n) hm_188 rfl rfl ?_
            obtain ⟨F64_, q65_⟩ : ∃ F9_, F9_ = (fl_u F29_ 344 5 (F1 344 5)) := ⟨_, rfl⟩
            rw [← q65_]
            have g66_ : gi F64_ := by rw [q65_]; exact gi_u (g30_) rfl (by omega) (by omega)
            have g67_ : fs [(344, 344, 5, 5), (344, 344, 9, 10), (355, 356, 0, 100000)] F F64_ := by rw [q65_]; exact fs_u (g32_) rfl
            have rk68_ : rk K F64_ := by rw [q65_]; exact rk_u (rk33_) (by omega) (by omega)
            refine gr_i (z := n) hm_188 rfl rfl rfl ?_
            have e69_ : F64_ 344 9 = F29_ 344 9 := by rw [q65_]; exact fl_u_ne (by omega)
            have e70_ : F64_ 344 10 = F29_ 344 10 := by rw [q65_]; exact fl_u_ne (by omega)
            have e71_ : F64_ 344 5 = F1 344 5 := by rw [q65_]; exact fl_u_eq
            have b72_ : 0 ≤ F29_ 344 10 ∧ F29_ 344 10 ≤ 600 := gi_g g30_ rfl
            have b73_ : 0 ≤ F 344 10 ∧ F 344 10 ≤ 600 := gi_g hgi rfl
            exact Or.inl ⟨F64_, rfl, g66_, g67_, (by omega), (⟨by intro h0_; have hs_ := c27_s; rw [hsp, sp1_z (by omega) (by omega)]; congr 2 <;> omega, fun h0_ => by exfalso; omega⟩), (by omega), (by omega)⟩
          refine ga_aload_n (v := .ref 344) hm_188 rfl rfl rfl ?_
          refine gVi (nY := 1) (F := 2) (L := 46) (As := []) (b := 344) (rest := []) hm_188 rfl hm_169 rfl rfl (fl_ob sc_344) rfl rfl rfl rfl rfl (by omega) (by omega) (mc_169 hG F1 X hg_F1 (K) hgK rk9_ hkt (by omega)) (fun _ _ h => False.elim h) ?_
          rintro z74_ A1_ (⟨hA_, hz_, c75_⟩ | ⟨hA_, hz_, c76_, c77_, c78_⟩)
          ·
            subst hA_
            subst hz_
            refine fl_if_ne hm_188 rfl ⟨by omega, by omega⟩ (fun h => absurd h (by omega)) (fun _ => ?_)
            refine ga_aload_n (v := .ref 344) hm_188 rfl rfl rfl ?_
            refine fl_iconst hm_188 rfl ?_
            refine gVv (nY := 2) (F := 0) (L := 0) (As := [.int (Int32.ofInt 1)]) (b := 344) (rest := []) hm_188 rfl hm_54 rfl rfl (fl_ob sc_344) rfl rfl rfl rfl rfl (by omega) (by omega) (mc_54 hG F1 X hg_F1 (K) (1) hgK rk9_ hkt (by omega) (by omega)) (fun _ _ h => False.elim h) ?_
            have b80_ : 0 ≤ F1 344 10 ∧ F1 344 10 ≤ 600 := gi_g hg_F1 rfl
            rintro A1_ ⟨F84_, hA_, g85_, s86_, c81_, c82_, c83_⟩
            subst hA_
            have g87_ : fs [(344, 344, 5, 5), (344, 344, 9, 10), (355, 356, 0, 100000)] F F84_ := fs_tr g8_ s86_ rfl
            have rk88_ : rk K F84_ := rk_fs rk9_ s86_ (fun r k h => (fs_n (by omega) rfl)) (fs_n (by omega) rfl)
            have c82_s := c82_.1 (by omega)
            clear c82_
            refine ga_aload_n (v := .ref 344) hm_188 rfl rfl rfl ?_
            refine gIi (nY := 1) (F := 0) (L := 0) (As := []) (b := 344) (rest := []) hm_188 rfl hm_59 rfl rfl (fl_ob sc_344) rfl rfl rfl rfl rfl (by omega) (by omega) ?_
            intro f89_ l90_ h91_ h92_
            show fl_R xi_ms 59 f89_ l90_ 0 [(0, .ref 344)] [] _ _
            refine ga_aload_n (v := .ref 344) hm_59 rfl rfl rfl ?_
            have b93_ : 0 ≤ F84_ 344 9 ∧ F84_ 344 9 ≤ 5 := gi_g g85_ rfl
            refine ga_geti (z := F84_ 344 9) hm_59 rfl sc_344 rfl (rfl) ?_
            refine fl_if_le (a := F84_ 344 9) hm_59 rfl ⟨by omega, by omega⟩ (fun h94_ => ?_) (fun h95_ => ?_)
            · exfalso; omega
            refine fl_iconst hm_59 rfl ?_
            refine fl_goto hm_59 rfl ?_
            refine gr_i hm_59 rfl rfl (ga_nb (by omega)) ?_
            clear h91_ h92_ f89_ l90_
            refine fl_if_eq hm_188 rfl ⟨by omega, by omega⟩ (fun h => absurd h (by omega)) (fun _ => ?_)
            refine ga_lconst (z := 0) hm_188 rfl rfl ?_
            refine fl_goto hm_188 rfl ?_
            
            refine ga_lstore (lv2 := [(6, .long (Int64.ofInt 0)), (5, .int (Int32.ofInt n)), (0, .ref 344), (1, .int (Int32.ofInt mo)), (2, .ref 356), (3, .ref 355), (4, .int (Int32.ofInt at_))]) hm_188 rfl (Nat.le_of_ble_eq_true rfl) rfl ?_
            refine ga_aload_n (v := .ref 344) hm_188 rfl rfl rfl ?_
            refine gIi (nY := 1) (F := 0) (L := 0) (As := []) (b := 344) (rest := []) hm_188 rfl hm_59 rfl rfl (fl_ob sc_344) rfl rfl rfl rfl rfl (by omega) (by omega) ?_
            intro f96_ l97_ h98_ h99_
            show fl_R xi_ms 59 f96_ l97_ 0 [(0, .ref 344)] [] _ _
            refine ga_aload_n (v := .ref 344) hm_59 rfl rfl rfl ?_
            refine ga_geti (z := F84_ 344 9) hm_59 rfl sc_344 rfl (rfl) ?_
            refine fl_if_le (a := F84_ 344 9) hm_59 rfl ⟨by omega, by omega⟩ (fun h100_ => ?_) (fun h101_ => ?_)
            · exfalso; omega
            refine fl_iconst hm_59 rfl ?_
            refine fl_goto hm_59 rfl ?_
            refine gr_i hm_59 rfl rfl (ga_nb (by omega)) ?_
            clear h98_ h99_ f96_ l97_
            refine fl_if_ne hm_188 rfl ⟨by omega, by omega⟩ (fun _ => ?_) (fun h => absurd (by omega) h)
            refine ga_aload_n (v := .ref 344) hm_188 rfl rfl rfl ?_
            refine gIv (nY := 1) (F := 1) (L := 20) (As := []) (b := 344) (rest := []) hm_188 rfl hm_61 rfl rfl (fl_ob sc_344) rfl rfl rfl rfl rfl (by omega) (by omega) ?_
            intro f102_ l103_ h104_ h105_
            show fl_R xi_ms 61 f102_ l103_ 0 [(0, .ref 344)] [] _ _
            refine ga_aload_n (v := .ref 344) hm_61 rfl rfl rfl ?_
            refine ga_dup hm_61 rfl rfl ?_
            have e106_ : F84_ 344 5 = F1 344 5 := (s86_ 344 5 rfl).trans (rfl)
            refine ga_geti (z := F1 344 5) hm_61 rfl sc_344 rfl (e106_) ?_
            refine ga_aload_n (v := .ref 344) hm_61 rfl rfl rfl ?_
            refine gIi (nY := 1) (F := 0) (L := 0) (As := []) (b := 344) (rest := [.int (Int32.ofInt (F1 344 5)), .ref 344]) hm_61 rfl hm_59 rfl rfl (fl_ob sc_344) rfl rfl rfl rfl rfl (by omega) (by omega) ?_
            intro f107_ l108_ h109_ h110_
            show fl_R xi_ms 59 f107_ l108_ 0 [(0, .ref 344)] [] _ _
            refine ga_aload_n (v := .ref 344) hm_59 rfl rfl rfl ?_
            refine ga_geti (z := F84_ 344 9) hm_59 rfl sc_344 rfl (rfl) ?_
            refine fl_if_le (a := F84_ 344 9) hm_59 rfl ⟨by omega, by omega⟩ (fun h111_ => ?_) (fun h112_ => ?_)
            · exfalso; omega
            refine fl_iconst hm_59 rfl ?_
            refine fl_goto hm_59 rfl ?_
            refine gr_i hm_59 rfl rfl (ga_nb (by omega)) ?_
            clear h109_ h110_ f107_ l108_
            refine fl_if_eq hm_61 rfl ⟨by omega, by omega⟩ (fun h => absurd h (by omega)) (fun _ => ?_)
            refine fl_iconst hm_61 rfl ?_
            refine fl_goto hm_61 rfl ?_
            refine ga_iadd (a := F1 344 5) (b := 0) (c := F1 344 5) hm_61 rfl (by omega) ?_
            refine ga_puti (z := F1 344 5) hm_61 rfl sc_344 rfl rfl ?_
            refine gr_v hm_61 rfl rfl ?_
            clear h104_ h105_ f102_ l103_
            refine ga_aload_n (v := .ref 344) hm_188 rfl rfl rfl ?_
            refine gIi (nY := 1) (F := 0) (L := 0) (As := []) (b := 344) (rest := []) hm_188 rfl hm_59 rfl rfl (fl_ob sc_344) rfl rfl rfl rfl rfl (by omega) (by omega) ?_
            intro f113_ l114_ h115_ h116_
            show fl_R xi_ms 59 f113_ l114_ 0 [(0, .ref 344)] [] _ _
            refine ga_aload_n (v := .ref 344) hm_59 rfl rfl rfl ?_
            refine ga_geti (z := F84_ 344 9) hm_59 rfl sc_344 rfl (fl_u_ne (by omega)) ?_
            refine fl_if_le (a := F84_ 344 9) hm_59 rfl ⟨by omega, by omega⟩ (fun h117_ => ?_) (fun h118_ => ?_)
            · exfalso; omega
            refine fl_iconst hm_59 rfl ?_
            refine fl_goto hm_59 rfl ?_
            refine gr_i hm_59 rfl rfl (ga_nb (by omega)) ?_
            clear h115_ h116_ f113_ l114_
            refine fl_if_eq hm_188 rfl ⟨by omega, by omega⟩ (fun h => absurd h (by omega)) (fun _ => ?_)
            refine ga_iload (z := n) hm_188 rfl rfl ?_
            obtain ⟨F119_, q120_⟩ : ∃ F9_, F9_ = (fl_u F84_ 344 5 (F1 344 5)) := ⟨_, rfl⟩
            rw [← q120_]
            have g121_ : gi F119_ := by rw [q120_]; exact gi_u (g85_) rfl (by omega) (by omega)
            have g122_ : fs [(344, 344, 5, 5), (344, 344, 9, 10), (355, 356, 0, 100000)] F F119_ := by rw [q120_]; exact fs_u (g87_) rfl
            have rk123_ : rk K F119_ := by rw [q120_]; exact rk_u (rk88_) (by omega) (by omega)
            refine gr_i (z := n) hm_188 rfl rfl rfl ?_
            have e124_ : F119_ 344 9 = F84_ 344 9 := by rw [q120_]; exact fl_u_ne (by omega)
            have e125_ : F119_ 344 10 = F84_ 344 10 := by rw [q120_]; exact fl_u_ne (by omega)
            have e126_ : F119_ 344 5 = F1 344 5 := by rw [q120_]; exact fl_u_eq
            have b127_ : 0 ≤ F84_ 344 10 ∧ F84_ 344 10 ≤ 600 := gi_g g85_ rfl
            have b128_ : 0 ≤ F 344 10 ∧ F 344 10 ≤ 600 := gi_g hgi rfl
            exact Or.inl ⟨F119_, rfl, g121_, g122_, (by omega), (⟨by intro h0_; have hs_ := c82_s; rw [hsp, sp1_f1 (by omega) (fun h8_ => c75_ ⟨by omega, h8_⟩)]; congr 2 <;> omega, fun h0_ => by exfalso; omega⟩), (by omega), (by omega)⟩
          subst hA_
          subst hz_
          refine fl_if_ne hm_188 rfl ⟨by omega, by omega⟩ (fun _ => ?_) (fun h => absurd (by omega) h)
          refine ga_aload_n (v := .ref 344) hm_188 rfl rfl rfl ?_
          refine gIi (nY := 1) (F := 0) (L := 0) (As := []) (b := 344) (rest := []) hm_188 rfl hm_59 rfl rfl (fl_ob sc_344) rfl rfl rfl rfl rfl (by omega) (by omega) ?_
          intro f129_ l130_ h131_ h132_
          show fl_R xi_ms 59 f129_ l130_ 0 [(0, .ref 344)] [] _ _
          refine ga_aload_n (v := .ref 344) hm_59 rfl rfl rfl ?_
          refine ga_geti (z := F1 344 9) hm_59 rfl sc_344 rfl (rfl) ?_
          refine fl_if_le (a := F1 344 9) hm_59 rfl ⟨by omega, by omega⟩ (fun h133_ => ?_) (fun h134_ => ?_)
          ·
            refine fl_iconst hm_59 rfl ?_
            refine gr_i hm_59 rfl rfl (ga_nb (by omega)) ?_
            clear h131_ h132_ f129_ l130_
            refine fl_if_eq hm_188 rfl ⟨by omega, by omega⟩ (fun _ => ?_) (fun h => absurd (by omega) h)
            refine ga_aload_n (v := .ref 344) hm_188 rfl rfl rfl ?_
            refine fl_iconst hm_188 rfl ?_
            refine gVl (nY := 7) (F := 1) (L := 20) (As := [.int (Int32.ofInt 1)]) (b := 344) (rest := []) hm_188 rfl hm_60 rfl rfl (fl_ob sc_344) rfl rfl rfl rfl rfl (by omega) (by omega) (mc_60 hG F1 X hg_F1 (K) (1) hgK rk9_ hkt (by omega) (by omega)) (fun _ _ h => False.elim h) ?_
            rintro z135_ A1_ ⟨hA_, c136_, c137_⟩
            subst hA_
            have hvr := (tk_var hkt hgK (p := F1 344 5) (by omega) (by omega)).1 c76_.2
            refine ga_lstore (lv2 := [(6, .long (Int64.ofInt z135_)), (5, .int (Int32.ofInt n)), (0, .ref 344), (1, .int (Int32.ofInt mo)), (2, .ref 356), (3, .ref 355), (4, .int (Int32.ofInt at_))]) hm_188 rfl (Nat.le_of_ble_eq_true rfl) rfl ?_
            refine ga_aload_n (v := .ref 344) hm_188 rfl rfl rfl ?_
            refine gIi (nY := 1) (F := 0) (L := 0) (As := []) (b := 344) (rest := []) hm_188 rfl hm_59 rfl rfl (fl_ob sc_344) rfl rfl rfl rfl rfl (by omega) (by omega) ?_
            intro f138_ l139_ h140_ h141_
            show fl_R xi_ms 59 f138_ l139_ 0 [(0, .ref 344)] [] _ _
            refine ga_aload_n (v := .ref 344) hm_59 rfl rfl rfl ?_
            refine ga_geti (z := F1 344 9) hm_59 rfl sc_344 rfl (rfl) ?_
            refine fl_if_le (a := F1 344 9) hm_59 rfl ⟨by omega, by omega⟩ (fun h142_ => ?_) (fun h143_ => ?_)
            ·
              refine fl_iconst hm_59 rfl ?_
              refine gr_i hm_59 rfl rfl (ga_nb (by omega)) ?_
              clear h140_ h141_ f138_ l139_
              refine fl_if_ne hm_188 rfl ⟨by omega, by omega⟩ (fun h => absurd h (by omega)) (fun _ => ?_)
              refine ga_aload_n (v := .ref 356) hm_188 rfl rfl rfl ?_
              refine ga_iload (z := at_) hm_188 rfl rfl ?_
              refine ga_iload (z := n) hm_188 rfl rfl ?_
              refine ga_lload (z := z135_) hm_188 rfl rfl ?_
              refine gSi (nY := 7) (F := 0) (L := 0) (As := [.ref 356, .int (Int32.ofInt at_), .int (Int32.ofInt n), .long (Int64.ofInt z135_)]) (rest := []) hm_188 rfl hm_162 rfl rfl (fl_pos sc_0) rfl rfl rfl rfl (by omega) (by omega) (mc_162 hG F1 X hg_F1 (356) (15) (at_) (n) (z135_) sc_356 (fun _ => rfl) (by omega) (by omega))  ?_
              rintro z144_ A1_ ⟨hA_, c145_, c146_, c147_⟩
              subst hA_
              refine fl_iconst hm_188 rfl ?_
              refine fl_icmp_eq (a := z144_) (b := -1) hm_188 rfl ⟨by omega, by omega⟩ ⟨by omega, by omega⟩ (fun h148_ => ?_) (fun h149_ => ?_)
              ·
                refine ga_aload_n (v := .ref 344) hm_188 rfl rfl rfl ?_
                refine gIv (nY := 1) (F := 1) (L := 20) (As := []) (b := 344) (rest := []) hm_188 rfl hm_61 rfl rfl (fl_ob sc_344) rfl rfl rfl rfl rfl (by omega) (by omega) ?_
                intro f150_ l151_ h152_ h153_
                show fl_R xi_ms 61 f150_ l151_ 0 [(0, .ref 344)] [] _ _
                refine ga_aload_n (v := .ref 344) hm_61 rfl rfl rfl ?_
                refine ga_dup hm_61 rfl rfl ?_
                refine ga_geti (z := F1 344 5) hm_61 rfl sc_344 rfl (rfl) ?_
                refine ga_aload_n (v := .ref 344) hm_61 rfl rfl rfl ?_
                refine gIi (nY := 1) (F := 0) (L := 0) (As := []) (b := 344) (rest := [.int (Int32.ofInt (F1 344 5)), .ref 344]) hm_61 rfl hm_59 rfl rfl (fl_ob sc_344) rfl rfl rfl rfl rfl (by omega) (by omega) ?_
                intro f154_ l155_ h156_ h157_
                show fl_R xi_ms 59 f154_ l155_ 0 [(0, .ref 344)] [] _ _
                refine ga_aload_n (v := .ref 344) hm_59 rfl rfl rfl ?_
                refine ga_geti (z := F1 344 9) hm_59 rfl sc_344 rfl (rfl) ?_
                refine fl_if_le (a := F1 344 9) hm_59 rfl ⟨by omega, by omega⟩ (fun h158_ => ?_) (fun h159_ => ?_)
                ·
                  refine fl_iconst hm_59 rfl ?_
                  refine gr_i hm_59 rfl rfl (ga_nb (by omega)) ?_
                  clear h156_ h157_ f154_ l155_
                  refine fl_if_eq hm_61 rfl ⟨by omega, by omega⟩ (fun _ => ?_) (fun h => absurd (by omega) h)
                  refine fl_iconst hm_61 rfl ?_
                  refine ga_iadd (a := F1 344 5) (b := 1) (c := F1 344 5 + 1) hm_61 rfl (by omega) ?_
                  refine ga_puti (z := F1 344 5 + 1) hm_61 rfl sc_344 rfl rfl ?_
                  refine gr_v hm_61 rfl rfl ?_
                  clear h152_ h153_ f150_ l151_
                  refine ga_aload_n (v := .ref 344) hm_188 rfl rfl rfl ?_
                  refine gIi (nY := 1) (F := 0) (L := 0) (As := []) (b := 344) (rest := []) hm_188 rfl hm_59 rfl rfl (fl_ob sc_344) rfl rfl rfl rfl rfl (by omega) (by omega) ?_
                  intro f160_ l161_ h162_ h163_
                  show fl_R xi_ms 59 f160_ l161_ 0 [(0, .ref 344)] [] _ _
                  refine ga_aload_n (v := .ref 344) hm_59 rfl rfl rfl ?_
                  refine ga_geti (z := F1 344 9) hm_59 rfl sc_344 rfl (fl_u_ne (by omega)) ?_
                  refine fl_if_le (a := F1 344 9) hm_59 rfl ⟨by omega, by omega⟩ (fun h164_ => ?_) (fun h165_ => ?_)
                  ·
                    refine fl_iconst hm_59 rfl ?_
                    refine gr_i hm_59 rfl rfl (ga_nb (by omega)) ?_
                    clear h162_ h163_ f160_ l161_
                    refine fl_if_eq hm_188 rfl ⟨by omega, by omega⟩ (fun _ => ?_) (fun h => absurd (by omega) h)
                    refine ga_aload_n (v := .ref 356) hm_188 rfl rfl rfl ?_
                    refine ga_iload (z := at_) hm_188 rfl rfl ?_
                    refine ga_iload (z := n) hm_188 rfl rfl ?_
                    refine ga_iadd (a := at_) (b := n) (c := at_ + n) hm_188 rfl (by omega) ?_
                    refine ga_lload (z := z135_) hm_188 rfl rfl ?_
                    refine fl_last (z := at_ + n) (v := z135_) hm_188 rfl sc_356 (by omega) (by omega) (by omega) ?_
                    refine ga_aload_n (v := .ref 355) hm_188 rfl rfl rfl ?_
                    refine ga_iload (z := at_) hm_188 rfl rfl ?_
                    refine ga_iload (z := n) hm_188 rfl rfl ?_
                    refine ga_iadd (a := at_) (b := n) (c := at_ + n) hm_188 rfl (by omega) ?_
                    refine ga_aload_n (v := .ref 344) hm_188 rfl rfl rfl ?_
                    obtain ⟨F166_, q167_⟩ : ∃ F9_, F9_ = (fl_u (fl_u F1 344 5 (F1 344 5 + 1)) 356 (at_ + n).toNat z135_) := ⟨_, rfl⟩
                    rw [← q167_]
                    have g168_ : gi F166_ := by rw [q167_]; exact gi_u (gi_u (hg_F1) rfl (by omega) (by omega)) rfl (by omega) (by omega)
                    have g169_ : fs [(344, 344, 5, 5), (344, 344, 9, 10), (355, 356, 0, 100000)] F F166_ := by rw [q167_]; exact fs_u (fs_u (g8_) rfl) (fs_z (fs_z (fs_y (by omega))))
                    have rk170_ : rk K F166_ := by rw [q167_]; exact rk_u (rk_u (rk9_) (by omega) (by omega)) (by omega) (by omega)
                    have e171_ : F166_ 344 5 = F1 344 5 + 1 := by rw [q167_]; exact (fl_u_ne (by omega)).trans (fl_u_eq)
                    refine gVi (nY := 2) (F := 3) (L := 68) (As := []) (b := 344) (rest := [.int (Int32.ofInt (at_ + n)), .ref 355]) hm_188 rfl hm_186 rfl rfl (fl_ob sc_344) rfl rfl rfl rfl rfl (by omega) (by omega) (mc_186 hG F166_ X g168_ (K) (ts) hgK rk170_ hkt (by omega) ((by rw [q167_]; exact (rpn_u (rpn_u (rpn_fs hts hf_F1 (fun _ => (fs_n (by omega) (fs_n (by omega) (fs_n (by omega) rfl)))) (fs_n (by omega) (fs_n (by omega) (fs_n (by omega) rfl)))) (by omega) (by omega)) (by omega) (by omega))))) (fun _ _ h => False.elim h) ?_
                    have e173_ : F166_ 344 10 = F1 344 10 := by rw [q167_]; exact (fl_u_ne (by omega)).trans (fl_u_ne (by omega))
                    have b174_ : 0 ≤ F1 344 10 ∧ F1 344 10 ≤ 600 := gi_g hg_F1 rfl
                    have e175_ : F166_ 344 9 = F1 344 9 := by rw [q167_]; exact (fl_u_ne (by omega)).trans (fl_u_ne (by omega))
                    rintro z172_ A1_ (⟨F180_, hA_, g181_, s182_, c176_, c177_, c178_, c179_⟩ | ⟨F187_, hA_, g188_, s189_, c183_, c184_, c185_, c186_⟩)
                    ·
                      subst hA_
                      have g190_ : fs [(344, 344, 5, 5), (344, 344, 9, 10), (355, 356, 0, 100000)] F F180_ := fs_tr g169_ s182_ rfl
                      have rk191_ : rk K F180_ := rk_fs rk170_ s182_ (fun r k h => (fs_n (by omega) (fs_n (by omega) rfl))) (fs_n (by omega) (fs_n (by omega) rfl))
                      try simp only [e171_, e173_, e175_] at c177_
                      have c177_s := c177_.1 (by omega)
                      clear c177_
                      refine fl_iast (z := at_ + n) (v := z172_) hm_188 rfl sc_355 (by omega) (by omega) (by omega) ?_
                      refine ga_inc (a := n) (c := n + 1) (lv2 := [(5, .int (Int32.ofInt (n + 1))), (6, .long (Int64.ofInt z135_)), (0, .ref 344), (1, .int (Int32.ofInt mo)), (2, .ref 356), (3, .ref 355), (4, .int (Int32.ofInt at_))]) hm_188 rfl rfl (Nat.le_of_ble_eq_true rfl) rfl rfl ?_
                      refine fl_goto hm_188 rfl ?_
                      refine ga_aload_n (v := .ref 344) hm_188 rfl rfl rfl ?_
                      refine gIi (nY := 1) (F := 0) (L := 0) (As := []) (b := 344) (rest := []) hm_188 rfl hm_59 rfl rfl (fl_ob sc_344) rfl rfl rfl rfl rfl (by omega) (by omega) ?_
                      intro f192_ l193_ h194_ h195_
                      show fl_R xi_ms 59 f192_ l193_ 0 [(0, .ref 344)] [] _ _
                      refine ga_aload_n (v := .ref 344) hm_59 rfl rfl rfl ?_
                      have b196_ : 0 ≤ F180_ 344 9 ∧ F180_ 344 9 ≤ 5 := gi_g g181_ rfl
                      refine ga_geti (z := F180_ 344 9) hm_59 rfl sc_344 rfl (fl_u_ne (by omega)) ?_
                      refine fl_if_le (a := F180_ 344 9) hm_59 rfl ⟨by omega, by omega⟩ (fun h197_ => ?_) (fun h198_ => ?_)
                      · exfalso; omega
                      refine fl_iconst hm_59 rfl ?_
                      refine fl_goto hm_59 rfl ?_
                      refine gr_i hm_59 rfl rfl (ga_nb (by omega)) ?_
                      clear h194_ h195_ f192_ l193_
                      refine fl_if_ne hm_188 rfl ⟨by omega, by omega⟩ (fun _ => ?_) (fun h => absurd (by omega) h)
                      refine ga_iload (z := n + 1) hm_188 rfl rfl ?_
                      obtain ⟨F199_, q200_⟩ : ∃ F9_, F9_ = (fl_u F180_ 355 (at_ + n).toNat z172_) := ⟨_, rfl⟩
                      rw [← q200_]
                      have g201_ : gi F199_ := by rw [q200_]; exact gi_u (g181_) rfl (by omega) (by omega)
                      have g202_ : fs [(344, 344, 5, 5), (344, 344, 9, 10), (355, 356, 0, 100000)] F F199_ := by rw [q200_]; exact fs_u (g190_) (fs_z (fs_z (fs_y (by omega))))
                      have rk203_ : rk K F199_ := by rw [q200_]; exact rk_u (rk191_) (by omega) (by omega)
                      refine gr_i (z := n + 1) hm_188 rfl rfl rfl ?_
                      have e204_ : F199_ 344 9 = F180_ 344 9 := by rw [q200_]; exact fl_u_ne (by omega)
                      have e205_ : F199_ 344 10 = F180_ 344 10 := by rw [q200_]; exact fl_u_ne (by omega)
                      have e206_ : F199_ 344 5 = F180_ 344 5 := by rw [q200_]; exact fl_u_ne (by omega)
                      have b207_ : 0 ≤ F180_ 344 10 ∧ F180_ 344 10 ≤ 600 := gi_g g181_ rfl
                      have b208_ : 0 ≤ F 344 10 ∧ F 344 10 ≤ 600 := gi_g hgi rfl
                      have b209_ : 0 ≤ F180_ 344 5 ∧ F180_ 344 5 ≤ 600 := gi_g g181_ rfl
                      exact Or.inl ⟨F199_, rfl, g201_, g202_, (by omega), (⟨by intro h0_; have hs_ := c177_s; rw [hsp, sp1_rt (by omega) (by omega) (by rw [(ra_fa hsc (show nrel (K 6 (F1 344 5).toNat) z135_ by rw [c136_, if_pos (by omega)]; exact hvr.2) c145_ c146_ c147_ rfl)]; omega) (by omega), rt_er hs_]; congr 2 <;> omega, fun h0_ => by exfalso; omega⟩), (by omega), (by omega)⟩
                    subst hA_
                    have g210_ : fs [(344, 344, 5, 5), (344, 344, 9, 10), (355, 356, 0, 100000)] F F187_ := fs_tr g169_ s189_ rfl
                    have rk211_ : rk K F187_ := rk_fs rk170_ s189_ (fun r k h => (fs_n (by omega) (fs_n (by omega) rfl))) (fs_n (by omega) (fs_n (by omega) rfl))
                    try simp only [e175_] at c183_
                    try simp only [e171_] at c184_
                    refine fl_iast (z := at_ + n) (v := z172_) hm_188 rfl sc_355 (by omega) (by omega) (by omega) ?_
                    refine ga_inc (a := n) (c := n + 1) (lv2 := [(5, .int (Int32.ofInt (n + 1))), (6, .long (Int64.ofInt z135_)), (0, .ref 344), (1, .int (Int32.ofInt mo)), (2, .ref 356), (3, .ref 355), (4, .int (Int32.ofInt at_))]) hm_188 rfl rfl (Nat.le_of_ble_eq_true rfl) rfl rfl ?_
                    refine fl_goto hm_188 rfl ?_
                    obtain ⟨F212_, q213_⟩ : ∃ F9_, F9_ = (fl_u F187_ 355 (at_ + n).toNat z172_) := ⟨_, rfl⟩
                    rw [← q213_]
                    have g214_ : gi F212_ := by rw [q213_]; exact gi_u (g188_) rfl (by omega) (by omega)
                    have g215_ : fs [(344, 344, 5, 5), (344, 344, 9, 10), (355, 356, 0, 100000)] F F212_ := by rw [q213_]; exact fs_u (g210_) (fs_z (fs_z (fs_y (by omega))))
                    have rk216_ : rk K F212_ := by rw [q213_]; exact rk_u (rk211_) (by omega) (by omega)
                    have e217_ : F212_ 344 9 = F187_ 344 9 := by rw [q213_]; exact fl_u_ne (by omega)
                    have b218_ : 0 ≤ F187_ 344 9 ∧ F187_ 344 9 ≤ 5 := gi_g g188_ rfl
                    have e219_ : F212_ 344 5 = F187_ 344 5 := by rw [q213_]; exact fl_u_ne (by omega)
                    have b220_ : 0 ≤ F187_ 344 5 ∧ F187_ 344 5 ≤ 600 := gi_g g188_ rfl
                    have b221_ : 0 ≤ K 1 6 ∧ K 1 6 ≤ 601 := gi_g hgK rfl
                    have e222_ : F166_ 356 (at_ + n).toNat = z135_ := by rw [q167_]; exact fl_u_eq
                    have e223_ : F187_ 356 (at_ + n).toNat = z135_ := (s189_ 356 (at_ + n).toNat (fs_n (by omega) (fs_n (by omega) rfl))).trans (e222_)
                    have e224_ : F212_ 356 (at_ + n).toNat = z135_ := by rw [q213_]; exact (fl_u_ne (by omega)).trans (e223_)
                    exact fl_R_sub (lv' := [(5, .int (Int32.ofInt (n + 1))), (0, .ref 344), (1, .int (Int32.ofInt mo)), (2, .ref 356), (3, .ref 355), (4, .int (Int32.ofInt at_))]) rfl rfl (ih5_ _ (by omega) (n + 1) (_) (_) F212_ rfl g214_ (by rw [q213_]; exact fs_u ((fs_tr (by rw [q167_]; exact fs_u (fs_u (hf_F1) rfl) (fs_z (fs_z (fs_y (by omega))))) s189_ rfl)) (fs_z (fs_z (fs_y (by omega))))) (by omega) (by simp only [List.length_append, List.length_singleton]; omega) (rpn_at hsc (fun j hj => (Eq.trans (a := F212_ 356 (at_.toNat + j)) (b := F187_ 356 (at_.toNat + j)) (by rw [q213_]; exact (fl_u_ne (by omega))) (Eq.trans (a := F187_ 356 (at_.toNat + j)) (b := F166_ 356 (at_.toNat + j)) (s189_ 356 (at_.toNat + j) (fs_n (by omega) (fs_n (by omega) rfl))) (show F166_ 356 (at_.toNat + j) = F1 356 (at_.toNat + j) from (by rw [q167_]; exact (fl_u_ne (by omega)).trans ((fl_u_ne (by omega)))))))) (by show F212_ 356 (at_.toNat + n.toNat) = _; rw [show at_.toNat + n.toNat = (at_ + n).toNat by omega]; exact e224_) (show nrel (K 6 (F1 344 5).toNat) z135_ by rw [c136_, if_pos (by omega)]; exact hvr.2)) (rty_snoc (t := z172_ - 1) hty (fun j hj => (Eq.trans (a := F212_ 355 (at_.toNat + j)) (b := F187_ 355 (at_.toNat + j)) (by rw [q213_]; exact (fl_u_ne (by omega))) (Eq.trans (a := F187_ 355 (at_.toNat + j)) (b := F166_ 355 (at_.toNat + j)) (s189_ 355 (at_.toNat + j) (fs_n (by omega) (fs_n (by omega) rfl))) (show F166_ 355 (at_.toNat + j) = F1 355 (at_.toNat + j) from (by rw [q167_]; exact (fl_u_ne (by omega)).trans ((fl_u_ne (by omega)))))))) (by rw [q213_, show at_.toNat + tl.length = (at_ + n).toNat by omega]; exact (fl_u_eq).trans (by omega))) (by omega) (by rw [hsp, sp1_rt (by omega) (by omega) (by rw [(ra_fa hsc (show nrel (K 6 (F1 344 5).toNat) z135_ by rw [c136_, if_pos (by omega)]; exact hvr.2) c145_ c146_ c147_ rfl)]; omega) (by omega), rt_eq c184_]; congr 1 <;> first | (simp only [List.length_append, List.length_singleton]; omega) | (show F187_ 344 5 = _; omega) | rfl) (fun j hj => Eq.trans ((Eq.trans (a := F212_ 355 j) (b := F187_ 355 j) (by rw [q213_]; exact (fl_u_ne (by omega))) (Eq.trans (a := F187_ 355 j) (b := F166_ 355 j) (s189_ 355 j (fs_n (by omega) (fs_n (by omega) rfl))) (show F166_ 355 j = F1 355 j from (by rw [q167_]; exact (fl_u_ne (by omega)).trans ((fl_u_ne (by omega)))))))) (hl5 j hj)))
                  exfalso; omega
                exfalso; omega
              refine ga_aload_n (v := .ref 344) hm_188 rfl rfl rfl ?_
              refine fl_iconst hm_188 rfl ?_
              refine gVv (nY := 2) (F := 0) (L := 0) (As := [.int (Int32.ofInt 2)]) (b := 344) (rest := []) hm_188 rfl hm_54 rfl rfl (fl_ob sc_344) rfl rfl rfl rfl rfl (by omega) (by omega) (mc_54 hG F1 X hg_F1 (K) (2) hgK rk9_ hkt (by omega) (by omega)) (fun _ _ h => False.elim h) ?_
              have b226_ : 0 ≤ F1 344 10 ∧ F1 344 10 ≤ 600 := gi_g hg_F1 rfl
              rintro A1_ ⟨F230_, hA_, g231_, s232_, c227_, c228_, c229_⟩
              subst hA_
              have g233_ : fs [(344, 344, 5, 5), (344, 344, 9, 10), (355, 356, 0, 100000)] F F230_ := fs_tr g8_ s232_ rfl
              have rk234_ : rk K F230_ := rk_fs rk9_ s232_ (fun r k h => (fs_n (by omega) rfl)) (fs_n (by omega) rfl)
              have c228_s := c228_.1 (by omega)
              clear c228_
              refine ga_aload_n (v := .ref 344) hm_188 rfl rfl rfl ?_
              refine gIv (nY := 1) (F := 1) (L := 20) (As := []) (b := 344) (rest := []) hm_188 rfl hm_61 rfl rfl (fl_ob sc_344) rfl rfl rfl rfl rfl (by omega) (by omega) ?_
              intro f235_ l236_ h237_ h238_
              show fl_R xi_ms 61 f235_ l236_ 0 [(0, .ref 344)] [] _ _
              refine ga_aload_n (v := .ref 344) hm_61 rfl rfl rfl ?_
              refine ga_dup hm_61 rfl rfl ?_
              have e239_ : F230_ 344 5 = F1 344 5 := (s232_ 344 5 rfl).trans (rfl)
              refine ga_geti (z := F1 344 5) hm_61 rfl sc_344 rfl (e239_) ?_
              refine ga_aload_n (v := .ref 344) hm_61 rfl rfl rfl ?_
              refine gIi (nY := 1) (F := 0) (L := 0) (As := []) (b := 344) (rest := [.int (Int32.ofInt (F1 344 5)), .ref 344]) hm_61 rfl hm_59 rfl rfl (fl_ob sc_344) rfl rfl rfl rfl rfl (by omega) (by omega) ?_
              intro f240_ l241_ h242_ h243_
              show fl_R xi_ms 59 f240_ l241_ 0 [(0, .ref 344)] [] _ _
              refine ga_aload_n (v := .ref 344) hm_59 rfl rfl rfl ?_
              have b244_ : 0 ≤ F230_ 344 9 ∧ F230_ 344 9 ≤ 5 := gi_g g231_ rfl
              refine ga_geti (z := F230_ 344 9) hm_59 rfl sc_344 rfl (rfl) ?_
              refine fl_if_le (a := F230_ 344 9) hm_59 rfl ⟨by omega, by omega⟩ (fun h245_ => ?_) (fun h246_ => ?_)
              · exfalso; omega
              refine fl_iconst hm_59 rfl ?_
              refine fl_goto hm_59 rfl ?_
              refine gr_i hm_59 rfl rfl (ga_nb (by omega)) ?_
              clear h242_ h243_ f240_ l241_
              refine fl_if_eq hm_61 rfl ⟨by omega, by omega⟩ (fun h => absurd h (by omega)) (fun _ => ?_)
              refine fl_iconst hm_61 rfl ?_
              refine fl_goto hm_61 rfl ?_
              refine ga_iadd (a := F1 344 5) (b := 0) (c := F1 344 5) hm_61 rfl (by omega) ?_
              refine ga_puti (z := F1 344 5) hm_61 rfl sc_344 rfl rfl ?_
              refine gr_v hm_61 rfl rfl ?_
              clear h237_ h238_ f235_ l236_
              refine ga_aload_n (v := .ref 344) hm_188 rfl rfl rfl ?_
              refine gIi (nY := 1) (F := 0) (L := 0) (As := []) (b := 344) (rest := []) hm_188 rfl hm_59 rfl rfl (fl_ob sc_344) rfl rfl rfl rfl rfl (by omega) (by omega) ?_
              intro f247_ l248_ h249_ h250_
              show fl_R xi_ms 59 f247_ l248_ 0 [(0, .ref 344)] [] _ _
              refine ga_aload_n (v := .ref 344) hm_59 rfl rfl rfl ?_
              refine ga_geti (z := F230_ 344 9) hm_59 rfl sc_344 rfl (fl_u_ne (by omega)) ?_
              refine fl_if_le (a := F230_ 344 9) hm_59 rfl ⟨by omega, by omega⟩ (fun h251_ => ?_) (fun h252_ => ?_)
              · exfalso; omega
              refine fl_iconst hm_59 rfl ?_
              refine fl_goto hm_59 rfl ?_
              refine gr_i hm_59 rfl rfl (ga_nb (by omega)) ?_
              clear h249_ h250_ f247_ l248_
              refine fl_if_eq hm_188 rfl ⟨by omega, by omega⟩ (fun h => absurd h (by omega)) (fun _ => ?_)
              refine ga_iload (z := n) hm_188 rfl rfl ?_
              obtain ⟨F253_, q254_⟩ : ∃ F9_, F9_ = (fl_u F230_ 344 5 (F1 344 5)) := ⟨_, rfl⟩
              rw [← q254_]
              have g255_ : gi F253_ := by rw [q254_]; exact gi_u (g231_) rfl (by omega) (by omega)
              have g256_ : fs [(344, 344, 5, 5), (344, 344, 9, 10), (355, 356, 0, 100000)] F F253_ := by rw [q254_]; exact fs_u (g233_) rfl
              have rk257_ : rk K F253_ := by rw [q254_]; exact rk_u (rk234_) (by omega) (by omega)
              refine gr_i (z := n) hm_188 rfl rfl rfl ?_
              have e258_ : F253_ 344 9 = F230_ 344 9 := by rw [q254_]; exact fl_u_ne (by omega)
              have e259_ : F253_ 344 10 = F230_ 344 10 := by rw [q254_]; exact fl_u_ne (by omega)
              have e260_ : F253_ 344 5 = F1 344 5 := by rw [q254_]; exact fl_u_eq
              have b261_ : 0 ≤ F230_ 344 10 ∧ F230_ 344 10 ≤ 600 := gi_g g231_ rfl
              have b262_ : 0 ≤ F 344 10 ∧ F 344 10 ≤ 600 := gi_g hgi rfl
              exact Or.inl ⟨F253_, rfl, g255_, g256_, (by omega), (⟨by intro h0_; have hs_ := c228_s; rw [hsp, sp1_f2 (by omega) (by omega) (by rw [(ra_fa hsc (show nrel (K 6 (F1 344 5).toNat) z135_ by rw [c136_, if_pos (by omega)]; exact hvr.2) c145_ c146_ c147_ rfl)]; omega)]; congr 2 <;> omega, fun h0_ => by exfalso; omega⟩), (by omega), (by omega)⟩
            exfalso; omega
          exfalso; omega
        subst hA_
        subst hz_
        refine fl_if_ne hm_188 rfl ⟨by omega, by omega⟩ (fun _ => ?_) (fun h => absurd (by omega) h)
        refine ga_iload (z := n) hm_188 rfl rfl ?_
        refine gr_i (z := n) hm_188 rfl rfl rfl ?_
        exact Or.inr (⟨F1, rfl, hg_F1, g8_, (by omega), (⟨l, tl, ⟨by rw [hsp, sp1_e (by omega)], by omega⟩, ⟨by omega, by omega⟩, hty, hsc⟩), (by omega), (by omega), (hl5)⟩)
      exfalso; omega
    have b263_ : 0 ≤ K 1 6 ∧ K 1 6 ≤ 601 := gi_g hgK rfl
    exact L4_ _ (0) ([]) ([]) F rfl hgi fs_refl (by omega) (by simp) (⟨rfl, fun j x hx => by simp at hx⟩) (fun j x hx => by simp at hx) (by omega) (rfl) (fun j hj => rfl)
  refine fl_iconst hm_188 rfl ?_
  refine ga_istore (lv2 := [(5, .int (Int32.ofInt 0)), (0, .ref 344), (1, .int (Int32.ofInt mo)), (2, .ref 356), (3, .ref 355), (4, .int (Int32.ofInt at_))]) hm_188 rfl (Nat.le_of_ble_eq_true rfl) rfl ?_
  refine ga_aload_n (v := .ref 344) hm_188 rfl rfl rfl ?_
  refine gIi (nY := 1) (F := 0) (L := 0) (As := []) (b := 344) (rest := []) hm_188 rfl hm_59 rfl rfl (fl_ob sc_344) rfl rfl rfl rfl rfl (by omega) (by omega) ?_
  intro f264_ l265_ h266_ h267_
  show fl_R xi_ms 59 f264_ l265_ 0 [(0, .ref 344)] [] _ _
  refine ga_aload_n (v := .ref 344) hm_59 rfl rfl rfl ?_
  refine ga_geti (z := F 344 9) hm_59 rfl sc_344 rfl (rfl) ?_
  refine fl_if_le (a := F 344 9) hm_59 rfl ⟨by omega, by omega⟩ (fun h268_ => ?_) (fun h269_ => ?_)
  · exfalso; omega
  refine fl_iconst hm_59 rfl ?_
  refine fl_goto hm_59 rfl ?_
  refine gr_i hm_59 rfl rfl (ga_nb (by omega)) ?_
  clear h266_ h267_ f264_ l265_
  refine fl_if_ne hm_188 rfl ⟨by omega, by omega⟩ (fun _ => ?_) (fun h => absurd (by omega) h)
  refine ga_iload (z := 0) hm_188 rfl rfl ?_
  refine gr_i (z := 0) hm_188 rfl rfl rfl ?_
  have b270_ : 0 ≤ F 344 10 ∧ F 344 10 ≤ 600 := gi_g hgi rfl
  have b271_ : 0 ≤ F 344 5 ∧ F 344 5 ≤ 600 := gi_g hgi rfl
  exact Or.inl ⟨F, rfl, hgi, fs_refl, (by omega), (⟨fun h0_ => by exfalso; omega, fun h0_ => by constructor <;> omega⟩), (by omega), (by omega)⟩

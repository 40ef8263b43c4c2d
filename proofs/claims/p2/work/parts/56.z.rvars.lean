def sp_p1 (K : fl_N) (ts : List Int) (m : Nat) (l tl : List Int) (p : Int) : PR (Int × List Int × List Int) := pb (sp_params K ts m l tl p) (fun q => if K 3 q.1.toNat = 1 then .inr q else pf K q.1 1)
theorem sp1_e {K : fl_N} {ts l tl : List Int} {m : Nat} {p : Int} (hk : K 3 p.toNat = 1) : sp_p1 K ts m l tl p = .inr (p, l, tl) := by
  rw [sp_p1, spp_e hk, pb_r, if_pos hk]
theorem sp1_z {K : fl_N} {ts l tl : List Int} {m : Nat} {p : Int} (hm : m = 0) (hk : ¬ K 3 p.toNat = 1) : sp_p1 K ts m l tl p = .inl (1, K 4 p.toNat) := by
  subst hm
  rw [sp_p1, sp_params, pb_r, if_neg hk]
  rfl
theorem sp1_u {K : fl_N} {ts l tl : List Int} {m : Nat} {p : Int} (hm : 0 < m) (hk : ¬ K 3 p.toNat = 1) : sp_p1 K ts m l tl p = pb (pb (sp_typed K ts 3 l tl p) (fun q => sp_params K ts (m - 1) q.2.1 q.2.2 q.1)) (fun q => if K 3 q.1.toNat = 1 then .inr q else pf K q.1 1) := by
  obtain ⟨k, rfl⟩ : ∃ k, m = k + 1 := ⟨m - 1, by omega⟩
  rw [sp_p1]
  conv => lhs; unfold sp_params
  rw [if_neg hk]
  rfl
theorem sp1_f1 {K : fl_N} {ts l tl : List Int} {m : Nat} {p : Int} (hk : ¬ K 3 p.toNat = 1) (h3 : ¬ K 3 p.toNat = 3) : sp_p1 K ts m l tl p = .inl (1, K 4 p.toNat) := by
  by_cases e : m = 0
  · exact sp1_z e hk
  · rw [sp1_u (by omega) hk, sp_typed, sp_new, if_neg h3]
    rfl
theorem sp1_f2 {K : fl_N} {ts l tl : List Int} {m : Nat} {p : Int} (hm : 0 < m) (h3 : K 3 p.toNat = 3) (hz : 0 ≤ idx l (K 6 p.toNat)) : sp_p1 K ts m l tl p = .inl (2, K 4 p.toNat) := by
  rw [sp1_u hm (by omega), sp_typed, sp_new, if_pos h3, if_neg (by omega)]
  rfl
theorem sp1_rt {K : fl_N} {ts l tl : List Int} {m : Nat} {p : Int} (hm : 0 < m) (h3 : K 3 p.toNat = 3) (hz : idx l (K 6 p.toNat) = -1) (hp : p < K 1 6 - 1) : sp_p1 K ts m l tl p = pb (sp_rt K ts (p + 1)) (fun r => sp_p1 K ts (m - 1) (l ++ [K 6 p.toNat]) (tl ++ [r.2]) r.1) := by
  rw [sp1_u hm (by omega), sp_typed, sp_new, if_pos h3, if_pos (by omega), sk, if_pos hp, pb_r, sp_rt]
  by_cases c : isw K (p + 1) [45] = true
  · simp only [c, if_true]
    rw [pb_as, pb_as]
    rfl
  · simp only [c, if_false]
    rfl
theorem dup_0 {l : List Int} {c : Int} (h : (l.length : Int) = 0) : idx l c = -1 := by
  have e : l = [] := List.eq_nil_of_length_eq_zero (by omega)
  rw [e]
  rfl
theorem dup_1 {g : Nat → Int} {n c v : Int} {l : List Int} (h : rpn g n l) (hr : nrel c v) (hn : (l.length : Int) = 1) : (g 0 = v → 0 ≤ idx l c) ∧ (¬ g 0 = v → idx l c = -1) := by
  match l, h, hn with
  | [x], h, _ =>
    have h9 := nrel_inj (h.2 0 x rfl) hr
    constructor
    · intro e
      rw [idx, if_pos (h9.mpr e)]
      decide
    · intro e
      rw [idx, if_neg (fun q => e (h9.mp q))]
      rfl
/-- types of parameters, one more than the class's -/
def rty (g : Nat → Int) (a : Nat) (tl : List Int) : Prop := ∀ (j : Nat) (x : Int), tl[j]? = some x → g (a + j) = x + 1
theorem rty_snoc {g g' : Nat → Int} {a : Nat} {tl : List Int} {t : Int} (h : rty g a tl) (hg : ∀ j : Nat, j < tl.length → g' (a + j) = g (a + j)) (ht : g' (a + tl.length) = t + 1) : rty g' a (tl ++ [t]) := by
  intro j x hx
  by_cases hj : j = tl.length
  · subst hj
    rw [List.getElem?_append_right (Nat.le_refl _)] at hx
    simp only [Nat.sub_self, List.getElem?_cons_zero, Option.some.injEq] at hx
    rw [ht, hx]
  · have hl : j < tl.length := by
      have h9 := (List.getElem?_eq_some_iff.mp hx).1
      rw [List.length_append, List.length_singleton] at h9
      omega
    rw [List.getElem?_append_left hl] at hx
    rw [hg j hl]
    exact h j x hx
theorem rt_eq {K : fl_N} {ts : List Int} {p q t : Int} {α : Type} {f : Int × Int → PR α} (h : sp_rt K ts p = .inr (q, t)) : pb (sp_rt K ts p) f = f (q, t) := by
  rw [h]
  rfl
theorem rt_er {K : fl_N} {ts : List Int} {p : Int} {e : Int × Int} {α : Type} {f : Int × Int → PR α} (h : sp_rt K ts p = .inl e) : pb (sp_rt K ts p) f = .inl e := by
  rw [h]
  rfl
theorem rpn_at {g g' : Nat → Int} {n c v : Int} {l : List Int} (h : rpn g n l) (hg : ∀ j : Nat, (j : Int) < n → g' j = g j) (hv : g' n.toNat = v) (hr : nrel c v) : rpn g' (n + 1) (l ++ [c]) := rpn_snoc h hg hv hr
theorem ra_fa {g : Nat → Int} {at_ fm n z c v : Int} {l : List Int} (h : rpn (fun j => g (at_.toNat + j)) n l) (hr : nrel c v) (h1 : -1 ≤ z ∧ z < n ∨ z = -1) (h2 : z = -1 → ∀ j : Nat, (j : Int) < n → g (fm.toNat + j) ≠ v) (h3 : 0 ≤ z → g (fm.toNat + z.toNat) = v ∧ ∀ j : Nat, (j : Int) < z → g (fm.toNat + j) ≠ v) (he : fm = at_) : idx l c = z := by
  subst he
  have hn := h.1
  exact rpn_find h hr (by omega) h2 h3
theorem rpn_cg {g g' : Nat → Int} {n : Int} {l : List Int} (h : rpn g n l) (hg : ∀ j : Nat, (j : Int) < n → g' j = g j) : rpn g' n l := ⟨h.1, fun j x hx => by
  have h9 := (List.getElem?_eq_some_iff.mp hx).1
  rw [hg j (by have := h.1; omega)]
  exact h.2 j x hx⟩

/- CheapPlannerModel.readVariables -/
abbrev pq_188 (G : Nat → Nat → Option Nat) (F : fl_N) (X : xi_H) (K : fl_N) (mo at_ : Int) (ts : List Int) : Outcome → xi_H → Prop := gqi (fun z A => (∃ F' : fl_N, fl_H sh_T G F' ++ X = A ∧ gi F' ∧ fs [(344, 344, 5, 5), (344, 344, 9, 10), (355, 356, 0, 100000)] F F' ∧ (¬ F' 344 9 = 0) ∧ ((F 344 9 = 0 → sp_p1 K ts 3 [] [] (F 344 5) = .inl (F' 344 9, F' 344 10)) ∧ (¬ F 344 9 = 0 → F' 344 9 = F 344 9 ∧ F' 344 10 = F 344 10)) ∧ (0 ≤ F' 344 5 ∧ F' 344 5 ≤ K 1 6 - 1) ∧ (0 ≤ z ∧ z ≤ 3)) ∨ (∃ F' : fl_N, fl_H sh_T G F' ++ X = A ∧ gi F' ∧ fs [(344, 344, 5, 5), (344, 344, 9, 10), (355, 356, 0, 100000)] F F' ∧ (F' 344 9 = 0 ∧ F 344 9 = 0) ∧ (∃ l tl, (sp_p1 K ts 3 [] [] (F 344 5) = .inr (F' 344 5, l, tl) ∧ K 3 (F' 344 5).toNat = 1) ∧ (z = (tl.length : Int) ∧ tl.length = l.length) ∧ rty (F' 355) at_.toNat tl ∧ rpn (fun j => F' 356 (at_.toNat + j)) z l) ∧ (0 ≤ F' 344 5 ∧ F' 344 5 ≤ K 1 6 - 1) ∧ (0 ≤ z ∧ z ≤ 3))) gqn
theorem mc_188 {G : Nat → Nat → Option Nat} (hG : gg G) (F : fl_N) (X : xi_H) (hgi : gi F) (K : fl_N) (mo at_ : Int) (ts : List Int) (hgK : gi K) (hrk : rk K F) (hkt : rkt K) (hp : 0 ≤ F 344 5 ∧ F 344 5 ≤ K 1 6 - 1) (hts : rpn (F 349) (F 344 15) ts) (hmo : mo = 3) (hat : 0 ≤ at_ ∧ at_ ≤ 12) : fl_M xi_ms 188 4 89 [.ref 344, .int (Int32.ofInt mo), .ref 356, .ref 355, .int (Int32.ofInt at_)] (fl_H sh_T G F ++ X) (pq_188 G F X K mo at_ ts) := by
  intro fr lo hfr hlo
  show fl_R xi_ms 188 fr lo 0 [(0, .ref 344), (1, .int (Int32.ofInt mo)), (2, .ref 356), (3, .ref 355), (4, .int (Int32.ofInt at_))] [] _ _
  have hP := (rkt_p hkt hp.1 hp.2 hgK).1
  have hK16 : 0 ≤ K 1 6 ∧ K 1 6 ≤ 601 := gi_g hgK rfl
  have hko := hkt.1
  have b1_ : 0 ≤ F 344 9 ∧ F 344 9 ≤ 5 := gi_g hgi rfl
  by_cases h2_ : F 344 9 = 0
  ·
    refine fl_iconst hm_188 rfl ?_
    refine ga_istore (lv2 := [(5, .int (Int32.ofInt 0)), (0, .ref 344), (1, .int (Int32.ofInt mo)), (2, .ref 356), (3, .ref 355), (4, .int (Int32.ofInt at_))]) hm_188 rfl (Nat.le_of_ble_eq_true rfl) rfl ?_
    have L4_ : ∀ (n3_ : Nat) (n : Int) (l : List Int) (tl : List Int) (F1 : fl_N), (4 - n : Int).toNat = n3_ → (gi F1) → (fs [(344, 344, 5, 5), (344, 344, 9, 10), (355, 356, 0, 100000)] F F1) → (F1 344 9 = 0) → (0 ≤ n ∧ n ≤ 3 ∧ (l.length : Int) = n ∧ (tl.length : Int) = n) → (rpn (fun j => F1 356 (at_.toNat + j)) n l) → (rty (F1 355) at_.toNat tl) → (0 ≤ F1 344 5 ∧ F1 344 5 ≤ K 1 6 - 1) → (sp_p1 K ts 3 [] [] (F 344 5) = sp_p1 K ts (3 - l.length) l tl (F1 344 5)) → fl_R xi_ms 188 fr lo 3 [(5, .int (Int32.ofInt n)), (0, .ref 344), (1, .int (Int32.ofInt mo)), (2, .ref 356), (3, .ref 355), (4, .int (Int32.ofInt at_))] [] (fl_H sh_T G F1 ++ X) (pq_188 G F X K mo at_ ts) := by
      intro n3_
      induction n3_ using Nat.strongRecOn with
      | ind n3_ ih5_ =>
      intro n l tl F1 hn6_ hg_F1 hf_F1 hk hn hsc hty hp1 hsp
      have g7_ : fs [(344, 344, 5, 5), (344, 344, 9, 10), (355, 356, 0, 100000)] F F1 := fs_tr fs_refl hf_F1 rfl
      have rk8_ : rk K F1 := rk_fs hrk hf_F1 (fun r k h => (fs_n (by omega) (fs_n (by omega) (fs_n (by omega) rfl)))) (fs_n (by omega) (fs_n (by omega) (fs_n (by omega) rfl)))
      have hP1 := (rkt_p hkt (p := F1 344 5) (by omega) (by omega) hgK).1
      refine ga_aload_n (v := .ref 344) hm_188 rfl rfl rfl ?_
      refine gIi (nY := 1) (F := 0) (L := 0) (As := []) (b := 344) (rest := []) hm_188 rfl hm_59 rfl rfl (fl_ob sc_344) rfl rfl rfl rfl rfl (by omega) (by omega) ?_
      intro f9_ l10_ h11_ h12_
      show fl_R xi_ms 59 f9_ l10_ 0 [(0, .ref 344)] [] _ _
      refine ga_aload_n (v := .ref 344) hm_59 rfl rfl rfl ?_
      have b13_ : 0 ≤ F1 344 9 ∧ F1 344 9 ≤ 5 := gi_g hg_F1 rfl
      refine ga_geti (z := F1 344 9) hm_59 rfl sc_344 rfl (rfl) ?_
      refine fl_if_le (a := F1 344 9) hm_59 rfl ⟨by omega, by omega⟩ (fun h14_ => ?_) (fun h15_ => ?_)
      ·
        refine fl_iconst hm_59 rfl ?_
        refine gr_i hm_59 rfl rfl (ga_nb (by omega)) ?_
        clear h11_ h12_ f9_ l10_
        refine fl_if_ne hm_188 rfl ⟨by omega, by omega⟩ (fun h => absurd h (by omega)) (fun _ => ?_)
        refine ga_aload_n (v := .ref 344) hm_188 rfl rfl rfl ?_
        refine fl_bipush hm_188 rfl rfl ?_
        have b16_ : 0 ≤ F1 344 5 ∧ F1 344 5 ≤ 600 := gi_g hg_F1 rfl
        refine gVi (nY := 2) (F := 1) (L := 20) (As := [.int (Int32.ofInt 41)]) (b := 344) (rest := []) hm_188 rfl hm_52 rfl rfl (fl_ob sc_344) rfl rfl rfl rfl rfl (by omega) (by omega) (mc_52 hG F1 X hg_F1 (K) (41) hgK rk8_ hkt (by omega) (by omega)) (fun _ _ h => False.elim h) ?_
        rintro z17_ A1_ (⟨hA_, hz_, c18_⟩ | ⟨hA_, hz_, c19_, c20_⟩)
        ·
          subst hA_
          subst hz_
          refine fl_if_ne hm_188 rfl ⟨by omega, by omega⟩ (fun h => absurd h (by omega)) (fun _ => ?_)
          refine ga_iload (z := n) hm_188 rfl rfl ?_
          refine ga_iload_n (z := mo) hm_188 rfl rfl ?_
          refine fl_icmp_eq (a := n) (b := mo) hm_188 rfl ⟨by omega, by omega⟩ ⟨by omega, by omega⟩ (fun h21_ => ?_) (fun h22_ => ?_)
          ·
            refine ga_aload_n (v := .ref 344) hm_188 rfl rfl rfl ?_
            refine fl_iconst hm_188 rfl ?_
            refine gVv (nY := 2) (F := 0) (L := 0) (As := [.int (Int32.ofInt 1)]) (b := 344) (rest := []) hm_188 rfl hm_54 rfl rfl (fl_ob sc_344) rfl rfl rfl rfl rfl (by omega) (by omega) (mc_54 hG F1 X hg_F1 (K) (1) hgK rk8_ hkt (by omega) (by omega)) (fun _ _ h => False.elim h) ?_
            have b24_ : 0 ≤ F1 344 10 ∧ F1 344 10 ≤ 600 := gi_g hg_F1 rfl
            rintro A1_ ⟨F28_, hA_, g29_, s30_, c25_, c26_, c27_⟩
            subst hA_
            have g31_ : fs [(344, 344, 5, 5), (344, 344, 9, 10), (355, 356, 0, 100000)] F F28_ := fs_tr g7_ s30_ rfl
            have rk32_ : rk K F28_ := rk_fs rk8_ s30_ (fun r k h => (fs_n (by omega) rfl)) (fs_n (by omega) rfl)
            have c26_s := c26_.1 (by omega)
            clear c26_
            refine ga_aload_n (v := .ref 344) hm_188 rfl rfl rfl ?_
            refine gIi (nY := 1) (F := 0) (L := 0) (As := []) (b := 344) (rest := []) hm_188 rfl hm_59 rfl rfl (fl_ob sc_344) rfl rfl rfl rfl rfl (by omega) (by omega) ?_
            intro f33_ l34_ h35_ h36_
            show fl_R xi_ms 59 f33_ l34_ 0 [(0, .ref 344)] [] _ _
            refine ga_aload_n (v := .ref 344) hm_59 rfl rfl rfl ?_
            have b37_ : 0 ≤ F28_ 344 9 ∧ F28_ 344 9 ≤ 5 := gi_g g29_ rfl
            refine ga_geti (z := F28_ 344 9) hm_59 rfl sc_344 rfl (rfl) ?_
            refine fl_if_le (a := F28_ 344 9) hm_59 rfl ⟨by omega, by omega⟩ (fun h38_ => ?_) (fun h39_ => ?_)
            · exfalso; omega
            refine fl_iconst hm_59 rfl ?_
            refine fl_goto hm_59 rfl ?_
            refine gr_i hm_59 rfl rfl (ga_nb (by omega)) ?_
            clear h35_ h36_ f33_ l34_
            refine fl_if_eq hm_188 rfl ⟨by omega, by omega⟩ (fun h => absurd h (by omega)) (fun _ => ?_)
            refine ga_lconst (z := 0) hm_188 rfl rfl ?_
            refine fl_goto hm_188 rfl ?_
            
            refine ga_lstore (lv2 := [(6, .long (Int64.ofInt 0)), (5, .int (Int32.ofInt n)), (0, .ref 344), (1, .int (Int32.ofInt mo)), (2, .ref 356), (3, .ref 355), (4, .int (Int32.ofInt at_))]) hm_188 rfl (Nat.le_of_ble_eq_true rfl) rfl ?_
            refine ga_aload_n (v := .ref 344) hm_188 rfl rfl rfl ?_
            refine gIi (nY := 1) (F := 0) (L := 0) (As := []) (b := 344) (rest := []) hm_188 rfl hm_59 rfl rfl (fl_ob sc_344) rfl rfl rfl rfl rfl (by omega) (by omega) ?_
            intro f40_ l41_ h42_ h43_
            show fl_R xi_ms 59 f40_ l41_ 0 [(0, .ref 344)] [] _ _
            refine ga_aload_n (v := .ref 344) hm_59 rfl rfl rfl ?_
            refine ga_geti (z := F28_ 344 9) hm_59 rfl sc_344 rfl (rfl) ?_
            refine fl_if_le (a := F28_ 344 9) hm_59 rfl ⟨by omega, by omega⟩ (fun h44_ => ?_) (fun h45_ => ?_)
            · exfalso; omega
            refine fl_iconst hm_59 rfl ?_
            refine fl_goto hm_59 rfl ?_
            refine gr_i hm_59 rfl rfl (ga_nb (by omega)) ?_
            clear h42_ h43_ f40_ l41_
            refine fl_if_ne hm_188 rfl ⟨by omega, by omega⟩ (fun _ => ?_) (fun h => absurd (by omega) h)
            refine ga_aload_n (v := .ref 344) hm_188 rfl rfl rfl ?_
            refine gIv (nY := 1) (F := 1) (L := 20) (As := []) (b := 344) (rest := []) hm_188 rfl hm_61 rfl rfl (fl_ob sc_344) rfl rfl rfl rfl rfl (by omega) (by omega) ?_
            intro f46_ l47_ h48_ h49_
            show fl_R xi_ms 61 f46_ l47_ 0 [(0, .ref 344)] [] _ _
            refine ga_aload_n (v := .ref 344) hm_61 rfl rfl rfl ?_
            refine ga_dup hm_61 rfl rfl ?_
            have e50_ : F28_ 344 5 = F1 344 5 := (s30_ 344 5 rfl).trans (rfl)
            refine ga_geti (z := F1 344 5) hm_61 rfl sc_344 rfl (e50_) ?_
            refine ga_aload_n (v := .ref 344) hm_61 rfl rfl rfl ?_
            refine gIi (nY := 1) (F := 0) (L := 0) (As := []) (b := 344) (rest := [.int (Int32.ofInt (F1 344 5)), .ref 344]) hm_61 rfl hm_59 rfl rfl (fl_ob sc_344) rfl rfl rfl rfl rfl (by omega) (by omega) ?_
            intro f51_ l52_ h53_ h54_
            show fl_R xi_ms 59 f51_ l52_ 0 [(0, .ref 344)] [] _ _
            refine ga_aload_n (v := .ref 344) hm_59 rfl rfl rfl ?_
            refine ga_geti (z := F28_ 344 9) hm_59 rfl sc_344 rfl (rfl) ?_
            refine fl_if_le (a := F28_ 344 9) hm_59 rfl ⟨by omega, by omega⟩ (fun h55_ => ?_) (fun h56_ => ?_)
            · exfalso; omega
            refine fl_iconst hm_59 rfl ?_
            refine fl_goto hm_59 rfl ?_
            refine gr_i hm_59 rfl rfl (ga_nb (by omega)) ?_
            clear h53_ h54_ f51_ l52_
            refine fl_if_eq hm_61 rfl ⟨by omega, by omega⟩ (fun h => absurd h (by omega)) (fun _ => ?_)
            refine fl_iconst hm_61 rfl ?_
            refine fl_goto hm_61 rfl ?_
            refine ga_iadd (a := F1 344 5) (b := 0) (c := F1 344 5) hm_61 rfl (by omega) ?_
            refine ga_puti (z := F1 344 5) hm_61 rfl sc_344 rfl rfl ?_
            refine gr_v hm_61 rfl rfl ?_
            clear h48_ h49_ f46_ l47_
            refine ga_aload_n (v := .ref 344) hm_188 rfl rfl rfl ?_
            refine gIi (nY := 1) (F := 0) (L := 0) (As := []) (b := 344) (rest := []) hm_188 rfl hm_59 rfl rfl (fl_ob sc_344) rfl rfl rfl rfl rfl (by omega) (by omega) ?_
            intro f57_ l58_ h59_ h60_
            show fl_R xi_ms 59 f57_ l58_ 0 [(0, .ref 344)] [] _ _
            refine ga_aload_n (v := .ref 344) hm_59 rfl rfl rfl ?_
            refine ga_geti (z := F28_ 344 9) hm_59 rfl sc_344 rfl (fl_u_ne (by omega)) ?_
            refine fl_if_le (a := F28_ 344 9) hm_59 rfl ⟨by omega, by omega⟩ (fun h61_ => ?_) (fun h62_ => ?_)
            · exfalso; omega
            refine fl_iconst hm_59 rfl ?_
            refine fl_goto hm_59 rfl ?_
            refine gr_i hm_59 rfl rfl (ga_nb (by omega)) ?_
            clear h59_ h60_ f57_ l58_
            refine fl_if_eq hm_188 rfl ⟨by omega, by omega⟩ (fun h => absurd h (by omega)) (fun _ => ?_)
            refine ga_iload (z := n) hm_188 rfl rfl ?_
            obtain ⟨F63_, q64_⟩ : ∃ F9_, F9_ = (fl_u F28_ 344 5 (F1 344 5)) := ⟨_, rfl⟩
            rw [← q64_]
            have g65_ : gi F63_ := by rw [q64_]; exact gi_u (g29_) rfl (by omega) (by omega)
            have g66_ : fs [(344, 344, 5, 5), (344, 344, 9, 10), (355, 356, 0, 100000)] F F63_ := by rw [q64_]; exact fs_u (g31_) rfl
            have rk67_ : rk K F63_ := by rw [q64_]; exact rk_u (rk32_) (by omega) (by omega)
            refine gr_i (z := n) hm_188 rfl rfl rfl ?_
            have e68_ : F63_ 344 9 = F28_ 344 9 := by rw [q64_]; exact fl_u_ne (by omega)
            have e69_ : F63_ 344 10 = F28_ 344 10 := by rw [q64_]; exact fl_u_ne (by omega)
            have e70_ : F63_ 344 5 = F1 344 5 := by rw [q64_]; exact fl_u_eq
            have b71_ : 0 ≤ F28_ 344 10 ∧ F28_ 344 10 ≤ 600 := gi_g g29_ rfl
            have b72_ : 0 ≤ F 344 10 ∧ F 344 10 ≤ 600 := gi_g hgi rfl
            have b73_ : 0 ≤ F 344 5 ∧ F 344 5 ≤ 600 := gi_g hgi rfl
            exact Or.inl ⟨F63_, rfl, g65_, g66_, (by omega), (⟨by intro h0_; have hs_ := c26_s; rw [hsp, sp1_z (by omega) (by omega)]; congr 2 <;> omega, fun h0_ => by exfalso; omega⟩), (by omega), (by omega)⟩
          refine ga_aload_n (v := .ref 344) hm_188 rfl rfl rfl ?_
          refine gVi (nY := 1) (F := 2) (L := 46) (As := []) (b := 344) (rest := []) hm_188 rfl hm_169 rfl rfl (fl_ob sc_344) rfl rfl rfl rfl rfl (by omega) (by omega) (mc_169 hG F1 X hg_F1 (K) hgK rk8_ hkt (by omega)) (fun _ _ h => False.elim h) ?_
          rintro z74_ A1_ (⟨hA_, hz_, c75_⟩ | ⟨hA_, hz_, c76_, c77_, c78_⟩)
          ·
            subst hA_
            subst hz_
            refine fl_if_ne hm_188 rfl ⟨by omega, by omega⟩ (fun h => absurd h (by omega)) (fun _ => ?_)
            refine ga_aload_n (v := .ref 344) hm_188 rfl rfl rfl ?_
            refine fl_iconst hm_188 rfl ?_
            refine gVv (nY := 2) (F := 0) (L := 0) (As := [.int (Int32.ofInt 1)]) (b := 344) (rest := []) hm_188 rfl hm_54 rfl rfl (fl_ob sc_344) rfl rfl rfl rfl rfl (by omega) (by omega) (mc_54 hG F1 X hg_F1 (K) (1) hgK rk8_ hkt (by omega) (by omega)) (fun _ _ h => False.elim h) ?_
            have b80_ : 0 ≤ F1 344 10 ∧ F1 344 10 ≤ 600 := gi_g hg_F1 rfl
            rintro A1_ ⟨F84_, hA_, g85_, s86_, c81_, c82_, c83_⟩
            subst hA_
            have g87_ : fs [(344, 344, 5, 5), (344, 344, 9, 10), (355, 356, 0, 100000)] F F84_ := fs_tr g7_ s86_ rfl
            have rk88_ : rk K F84_ := rk_fs rk8_ s86_ (fun r k h => (fs_n (by omega) rfl)) (fs_n (by omega) rfl)
            have c82_s := c82_.1 (by omega)
            clear c82_
            refine ga_aload_n (v := .ref 344) hm_188 rfl rfl rfl ?_
            refine gIi (nY := 1) (F := 0) (L := 0) (As := []) (b := 344) (rest := []) hm_188 rfl hm_59 rfl rfl (fl_ob sc_344) rfl rfl rfl rfl rfl (by omega) (by omega) ?_
            intro f89_ l90_ h91_ h92_
            show fl_R xi_ms 59 f89_ l90_ 0 [(0, .ref 344)] [] _ _
            refine ga_aload_n (v := .ref 344) hm_59 rfl rfl rfl ?_
            have b93_ : 0 ≤ F84_ 344 9 ∧ F84_ 344 9 ≤ 5 := gi_g g85_ rfl
            refine ga_geti (z := F84_ 344 9) hm_59 rfl sc_344 rfl (rfl) ?_
            refine fl_if_le (a := F84_ 344 9) hm_59 rfl ⟨by omega, by omega⟩ (fun h94_ => ?_) (fun h95_ => ?_)
            · exfalso; omega
            refine fl_iconst hm_59 rfl ?_
            refine fl_goto hm_59 rfl ?_
            refine gr_i hm_59 rfl rfl (ga_nb (by omega)) ?_
            clear h91_ h92_ f89_ l90_
            refine fl_if_eq hm_188 rfl ⟨by omega, by omega⟩ (fun h => absurd h (by omega)) (fun _ => ?_)
            refine ga_lconst (z := 0) hm_188 rfl rfl ?_
            refine fl_goto hm_188 rfl ?_
            
            refine ga_lstore (lv2 := [(6, .long (Int64.ofInt 0)), (5, .int (Int32.ofInt n)), (0, .ref 344), (1, .int (Int32.ofInt mo)), (2, .ref 356), (3, .ref 355), (4, .int (Int32.ofInt at_))]) hm_188 rfl (Nat.le_of_ble_eq_true rfl) rfl ?_
            refine ga_aload_n (v := .ref 344) hm_188 rfl rfl rfl ?_
            refine gIi (nY := 1) (F := 0) (L := 0) (As := []) (b := 344) (rest := []) hm_188 rfl hm_59 rfl rfl (fl_ob sc_344) rfl rfl rfl rfl rfl (by omega) (by omega) ?_
            intro f96_ l97_ h98_ h99_
            show fl_R xi_ms 59 f96_ l97_ 0 [(0, .ref 344)] [] _ _
            refine ga_aload_n (v := .ref 344) hm_59 rfl rfl rfl ?_
            refine ga_geti (z := F84_ 344 9) hm_59 rfl sc_344 rfl (rfl) ?_
            refine fl_if_le (a := F84_ 344 9) hm_59 rfl ⟨by omega, by omega⟩ (fun h100_ => ?_) (fun h101_ => ?_)
            · exfalso; omega
            refine fl_iconst hm_59 rfl ?_
            refine fl_goto hm_59 rfl ?_
            refine gr_i hm_59 rfl rfl (ga_nb (by omega)) ?_
            clear h98_ h99_ f96_ l97_
            refine fl_if_ne hm_188 rfl ⟨by omega, by omega⟩ (fun _ => ?_) (fun h => absurd (by omega) h)
            refine ga_aload_n (v := .ref 344) hm_188 rfl rfl rfl ?_
            refine gIv (nY := 1) (F := 1) (L := 20) (As := []) (b := 344) (rest := []) hm_188 rfl hm_61 rfl rfl (fl_ob sc_344) rfl rfl rfl rfl rfl (by omega) (by omega) ?_
            intro f102_ l103_ h104_ h105_
            show fl_R xi_ms 61 f102_ l103_ 0 [(0, .ref 344)] [] _ _
            refine ga_aload_n (v := .ref 344) hm_61 rfl rfl rfl ?_
            refine ga_dup hm_61 rfl rfl ?_
            have e106_ : F84_ 344 5 = F1 344 5 := (s86_ 344 5 rfl).trans (rfl)
            refine ga_geti (z := F1 344 5) hm_61 rfl sc_344 rfl (e106_) ?_
            refine ga_aload_n (v := .ref 344) hm_61 rfl rfl rfl ?_
            refine gIi (nY := 1) (F := 0) (L := 0) (As := []) (b := 344) (rest := [.int (Int32.ofInt (F1 344 5)), .ref 344]) hm_61 rfl hm_59 rfl rfl (fl_ob sc_344) rfl rfl rfl rfl rfl (by omega) (by omega) ?_
            intro f107_ l108_ h109_ h110_
            show fl_R xi_ms 59 f107_ l108_ 0 [(0, .ref 344)] [] _ _
            refine ga_aload_n (v := .ref 344) hm_59 rfl rfl rfl ?_
            refine ga_geti (z := F84_ 344 9) hm_59 rfl sc_344 rfl (rfl) ?_
            refine fl_if_le (a := F84_ 344 9) hm_59 rfl ⟨by omega, by omega⟩ (fun h111_ => ?_) (fun h112_ => ?_)
            · exfalso; omega
            refine fl_iconst hm_59 rfl ?_
            refine fl_goto hm_59 rfl ?_
            refine gr_i hm_59 rfl rfl (ga_nb (by omega)) ?_
            clear h109_ h110_ f107_ l108_
            refine fl_if_eq hm_61 rfl ⟨by omega, by omega⟩ (fun h => absurd h (by omega)) (fun _ => ?_)
            refine fl_iconst hm_61 rfl ?_
            refine fl_goto hm_61 rfl ?_
            refine ga_iadd (a := F1 344 5) (b := 0) (c := F1 344 5) hm_61 rfl (by omega) ?_
            refine ga_puti (z := F1 344 5) hm_61 rfl sc_344 rfl rfl ?_
            refine gr_v hm_61 rfl rfl ?_
            clear h104_ h105_ f102_ l103_
            refine ga_aload_n (v := .ref 344) hm_188 rfl rfl rfl ?_
            refine gIi (nY := 1) (F := 0) (L := 0) (As := []) (b := 344) (rest := []) hm_188 rfl hm_59 rfl rfl (fl_ob sc_344) rfl rfl rfl rfl rfl (by omega) (by omega) ?_
            intro f113_ l114_ h115_ h116_
            show fl_R xi_ms 59 f113_ l114_ 0 [(0, .ref 344)] [] _ _
            refine ga_aload_n (v := .ref 344) hm_59 rfl rfl rfl ?_
            refine ga_geti (z := F84_ 344 9) hm_59 rfl sc_344 rfl (fl_u_ne (by omega)) ?_
            refine fl_if_le (a := F84_ 344 9) hm_59 rfl ⟨by omega, by omega⟩ (fun h117_ => ?_) (fun h118_ => ?_)
            · exfalso; omega
            refine fl_iconst hm_59 rfl ?_
            refine fl_goto hm_59 rfl ?_
            refine gr_i hm_59 rfl rfl (ga_nb (by omega)) ?_
            clear h115_ h116_ f113_ l114_
            refine fl_if_eq hm_188 rfl ⟨by omega, by omega⟩ (fun h => absurd h (by omega)) (fun _ => ?_)
            refine ga_iload (z := n) hm_188 rfl rfl ?_
            obtain ⟨F119_, q120_⟩ : ∃ F9_, F9_ = (fl_u F84_ 344 5 (F1 344 5)) := ⟨_, rfl⟩
            rw [← q120_]
            have g121_ : gi F119_ := by rw [q120_]; exact gi_u (g85_) rfl (by omega) (by omega)
            have g122_ : fs [(344, 344, 5, 5), (344, 344, 9, 10), (355, 356, 0, 100000)] F F119_ := by rw [q120_]; exact fs_u (g87_) rfl
            have rk123_ : rk K F119_ := by rw [q120_]; exact rk_u (rk88_) (by omega) (by omega)
            refine gr_i (z := n) hm_188 rfl rfl rfl ?_
            have e124_ : F119_ 344 9 = F84_ 344 9 := by rw [q120_]; exact fl_u_ne (by omega)
            have e125_ : F119_ 344 10 = F84_ 344 10 := by rw [q120_]; exact fl_u_ne (by omega)
            have e126_ : F119_ 344 5 = F1 344 5 := by rw [q120_]; exact fl_u_eq
            have b127_ : 0 ≤ F84_ 344 10 ∧ F84_ 344 10 ≤ 600 := gi_g g85_ rfl
            have b128_ : 0 ≤ F 344 10 ∧ F 344 10 ≤ 600 := gi_g hgi rfl
            have b129_ : 0 ≤ F 344 5 ∧ F 344 5 ≤ 600 := gi_g hgi rfl
            exact Or.inl ⟨F119_, rfl, g121_, g122_, (by omega), (⟨by intro h0_; have hs_ := c82_s; rw [hsp, sp1_f1 (by omega) (fun h8_ => c75_ ⟨by omega, h8_⟩)]; congr 2 <;> omega, fun h0_ => by exfalso; omega⟩), (by omega), (by omega)⟩
          subst hA_
          subst hz_
          refine fl_if_ne hm_188 rfl ⟨by omega, by omega⟩ (fun _ => ?_) (fun h => absurd (by omega) h)
          refine ga_aload_n (v := .ref 344) hm_188 rfl rfl rfl ?_
          refine gIi (nY := 1) (F := 0) (L := 0) (As := []) (b := 344) (rest := []) hm_188 rfl hm_59 rfl rfl (fl_ob sc_344) rfl rfl rfl rfl rfl (by omega) (by omega) ?_
          intro f130_ l131_ h132_ h133_
          show fl_R xi_ms 59 f130_ l131_ 0 [(0, .ref 344)] [] _ _
          refine ga_aload_n (v := .ref 344) hm_59 rfl rfl rfl ?_
          refine ga_geti (z := F1 344 9) hm_59 rfl sc_344 rfl (rfl) ?_
          refine fl_if_le (a := F1 344 9) hm_59 rfl ⟨by omega, by omega⟩ (fun h134_ => ?_) (fun h135_ => ?_)
          ·
            refine fl_iconst hm_59 rfl ?_
            refine gr_i hm_59 rfl rfl (ga_nb (by omega)) ?_
            clear h132_ h133_ f130_ l131_
            refine fl_if_eq hm_188 rfl ⟨by omega, by omega⟩ (fun _ => ?_) (fun h => absurd (by omega) h)
            refine ga_aload_n (v := .ref 344) hm_188 rfl rfl rfl ?_
            refine fl_iconst hm_188 rfl ?_
            refine gVl (nY := 7) (F := 1) (L := 20) (As := [.int (Int32.ofInt 1)]) (b := 344) (rest := []) hm_188 rfl hm_60 rfl rfl (fl_ob sc_344) rfl rfl rfl rfl rfl (by omega) (by omega) (mc_60 hG F1 X hg_F1 (K) (1) hgK rk8_ hkt (by omega) (by omega)) (fun _ _ h => False.elim h) ?_
            rintro z136_ A1_ ⟨hA_, c137_, c138_⟩
            subst hA_
            have hvr := (tk_var hkt hgK (p := F1 344 5) (by omega) (by omega)).1 c76_.2
            refine ga_lstore (lv2 := [(6, .long (Int64.ofInt z136_)), (5, .int (Int32.ofInt n)), (0, .ref 344), (1, .int (Int32.ofInt mo)), (2, .ref 356), (3, .ref 355), (4, .int (Int32.ofInt at_))]) hm_188 rfl (Nat.le_of_ble_eq_true rfl) rfl ?_
            refine ga_aload_n (v := .ref 344) hm_188 rfl rfl rfl ?_
            refine gIi (nY := 1) (F := 0) (L := 0) (As := []) (b := 344) (rest := []) hm_188 rfl hm_59 rfl rfl (fl_ob sc_344) rfl rfl rfl rfl rfl (by omega) (by omega) ?_
            intro f139_ l140_ h141_ h142_
            show fl_R xi_ms 59 f139_ l140_ 0 [(0, .ref 344)] [] _ _
            refine ga_aload_n (v := .ref 344) hm_59 rfl rfl rfl ?_
            refine ga_geti (z := F1 344 9) hm_59 rfl sc_344 rfl (rfl) ?_
            refine fl_if_le (a := F1 344 9) hm_59 rfl ⟨by omega, by omega⟩ (fun h143_ => ?_) (fun h144_ => ?_)
            ·
              refine fl_iconst hm_59 rfl ?_
              refine gr_i hm_59 rfl rfl (ga_nb (by omega)) ?_
              clear h141_ h142_ f139_ l140_
              refine fl_if_ne hm_188 rfl ⟨by omega, by omega⟩ (fun h => absurd h (by omega)) (fun _ => ?_)
              refine ga_aload_n (v := .ref 356) hm_188 rfl rfl rfl ?_
              refine ga_iload (z := at_) hm_188 rfl rfl ?_
              refine ga_iload (z := n) hm_188 rfl rfl ?_
              refine ga_lload (z := z136_) hm_188 rfl rfl ?_
              refine gSi (nY := 7) (F := 0) (L := 0) (As := [.ref 356, .int (Int32.ofInt at_), .int (Int32.ofInt n), .long (Int64.ofInt z136_)]) (rest := []) hm_188 rfl hm_162 rfl rfl (fl_pos sc_0) rfl rfl rfl rfl (by omega) (by omega) (mc_162 hG F1 X hg_F1 (356) (15) (at_) (n) (z136_) sc_356 (fun _ => rfl) (by omega) (by omega))  ?_
              rintro z145_ A1_ ⟨hA_, c146_, c147_, c148_⟩
              subst hA_
              refine fl_iconst hm_188 rfl ?_
              refine fl_icmp_eq (a := z145_) (b := -1) hm_188 rfl ⟨by omega, by omega⟩ ⟨by omega, by omega⟩ (fun h149_ => ?_) (fun h150_ => ?_)
              ·
                refine ga_aload_n (v := .ref 344) hm_188 rfl rfl rfl ?_
                refine gIv (nY := 1) (F := 1) (L := 20) (As := []) (b := 344) (rest := []) hm_188 rfl hm_61 rfl rfl (fl_ob sc_344) rfl rfl rfl rfl rfl (by omega) (by omega) ?_
                intro f151_ l152_ h153_ h154_
                show fl_R xi_ms 61 f151_ l152_ 0 [(0, .ref 344)] [] _ _
                refine ga_aload_n (v := .ref 344) hm_61 rfl rfl rfl ?_
                refine ga_dup hm_61 rfl rfl ?_
                refine ga_geti (z := F1 344 5) hm_61 rfl sc_344 rfl (rfl) ?_
                refine ga_aload_n (v := .ref 344) hm_61 rfl rfl rfl ?_
                refine gIi (nY := 1) (F := 0) (L := 0) (As := []) (b := 344) (rest := [.int (Int32.ofInt (F1 344 5)), .ref 344]) hm_61 rfl hm_59 rfl rfl (fl_ob sc_344) rfl rfl rfl rfl rfl (by omega) (by omega) ?_
                intro f155_ l156_ h157_ h158_
                show fl_R xi_ms 59 f155_ l156_ 0 [(0, .ref 344)] [] _ _
                refine ga_aload_n (v := .ref 344) hm_59 rfl rfl rfl ?_
                refine ga_geti (z := F1 344 9) hm_59 rfl sc_344 rfl (rfl) ?_
                refine fl_if_le (a := F1 344 9) hm_59 rfl ⟨by omega, by omega⟩ (fun h159_ => ?_) (fun h160_ => ?_)
                ·
                  refine fl_iconst hm_59 rfl ?_
                  refine gr_i hm_59 rfl rfl (ga_nb (by omega)) ?_
                  clear h157_ h158_ f155_ l156_
                  refine fl_if_eq hm_61 rfl ⟨by omega, by omega⟩ (fun _ => ?_) (fun h => absurd (by omega) h)
                  refine fl_iconst hm_61 rfl ?_
                  refine ga_iadd (a := F1 344 5) (b := 1) (c := F1 344 5 + 1) hm_61 rfl (by omega) ?_
                  refine ga_puti (z := F1 344 5 + 1) hm_61 rfl sc_344 rfl rfl ?_
                  refine gr_v hm_61 rfl rfl ?_
                  clear h153_ h154_ f151_ l152_
                  refine ga_aload_n (v := .ref 344) hm_188 rfl rfl rfl ?_
                  refine gIi (nY := 1) (F := 0) (L := 0) (As := []) (b := 344) (rest := []) hm_188 rfl hm_59 rfl rfl (fl_ob sc_344) rfl rfl rfl rfl rfl (by omega) (by omega) ?_
                  intro f161_ l162_ h163_ h164_
                  show fl_R xi_ms 59 f161_ l162_ 0 [(0, .ref 344)] [] _ _
                  refine ga_aload_n (v := .ref 344) hm_59 rfl rfl rfl ?_
                  refine ga_geti (z := F1 344 9) hm_59 rfl sc_344 rfl (fl_u_ne (by omega)) ?_
                  refine fl_if_le (a := F1 344 9) hm_59 rfl ⟨by omega, by omega⟩ (fun h165_ => ?_) (fun h166_ => ?_)
                  ·
                    refine fl_iconst hm_59 rfl ?_
                    refine gr_i hm_59 rfl rfl (ga_nb (by omega)) ?_
                    clear h163_ h164_ f161_ l162_
                    refine fl_if_eq hm_188 rfl ⟨by omega, by omega⟩ (fun _ => ?_) (fun h => absurd (by omega) h)
                    refine ga_aload_n (v := .ref 356) hm_188 rfl rfl rfl ?_
                    refine ga_iload (z := at_) hm_188 rfl rfl ?_
                    refine ga_iload (z := n) hm_188 rfl rfl ?_
                    refine ga_iadd (a := at_) (b := n) (c := at_ + n) hm_188 rfl (by omega) ?_
                    refine ga_lload (z := z136_) hm_188 rfl rfl ?_
                    refine fl_last (z := at_ + n) (v := z136_) hm_188 rfl sc_356 (by omega) (by omega) (by omega) ?_
                    refine ga_aload_n (v := .ref 355) hm_188 rfl rfl rfl ?_
                    refine ga_iload (z := at_) hm_188 rfl rfl ?_
                    refine ga_iload (z := n) hm_188 rfl rfl ?_
                    refine ga_iadd (a := at_) (b := n) (c := at_ + n) hm_188 rfl (by omega) ?_
                    refine ga_aload_n (v := .ref 344) hm_188 rfl rfl rfl ?_
                    obtain ⟨F167_, q168_⟩ : ∃ F9_, F9_ = (fl_u (fl_u F1 344 5 (F1 344 5 + 1)) 356 (at_ + n).toNat z136_) := ⟨_, rfl⟩
                    rw [← q168_]
                    have g169_ : gi F167_ := by rw [q168_]; exact gi_u (gi_u (hg_F1) rfl (by omega) (by omega)) rfl (by omega) (by omega)
                    have g170_ : fs [(344, 344, 5, 5), (344, 344, 9, 10), (355, 356, 0, 100000)] F F167_ := by rw [q168_]; exact fs_u (fs_u (g7_) rfl) (fs_z (fs_z (fs_y (by omega))))
                    have rk171_ : rk K F167_ := by rw [q168_]; exact rk_u (rk_u (rk8_) (by omega) (by omega)) (by omega) (by omega)
                    have e172_ : F167_ 344 5 = F1 344 5 + 1 := by rw [q168_]; exact (fl_u_ne (by omega)).trans (fl_u_eq)
                    refine gVi (nY := 2) (F := 3) (L := 68) (As := []) (b := 344) (rest := [.int (Int32.ofInt (at_ + n)), .ref 355]) hm_188 rfl hm_186 rfl rfl (fl_ob sc_344) rfl rfl rfl rfl rfl (by omega) (by omega) (mc_186 hG F167_ X g169_ (K) (ts) hgK rk171_ hkt (by omega) ((by rw [q168_]; exact (rpn_u (rpn_u (rpn_fs hts hf_F1 (fun _ => (fs_n (by omega) (fs_n (by omega) (fs_n (by omega) rfl)))) (fs_n (by omega) (fs_n (by omega) (fs_n (by omega) rfl)))) (by omega) (by omega)) (by omega) (by omega))))) (fun _ _ h => False.elim h) ?_
                    have e174_ : F167_ 344 10 = F1 344 10 := by rw [q168_]; exact (fl_u_ne (by omega)).trans (fl_u_ne (by omega))
                    have b175_ : 0 ≤ F1 344 10 ∧ F1 344 10 ≤ 600 := gi_g hg_F1 rfl
                    have e176_ : F167_ 344 9 = F1 344 9 := by rw [q168_]; exact (fl_u_ne (by omega)).trans (fl_u_ne (by omega))
                    rintro z173_ A1_ (⟨F181_, hA_, g182_, s183_, c177_, c178_, c179_, c180_⟩ | ⟨F188_, hA_, g189_, s190_, c184_, c185_, c186_, c187_⟩)
                    ·
                      subst hA_
                      have g191_ : fs [(344, 344, 5, 5), (344, 344, 9, 10), (355, 356, 0, 100000)] F F181_ := fs_tr g170_ s183_ rfl
                      have rk192_ : rk K F181_ := rk_fs rk171_ s183_ (fun r k h => (fs_n (by omega) (fs_n (by omega) rfl))) (fs_n (by omega) (fs_n (by omega) rfl))
                      try simp only [e172_, e174_, e176_] at c178_
                      have c178_s := c178_.1 (by omega)
                      clear c178_
                      refine fl_iast (z := at_ + n) (v := z173_) hm_188 rfl sc_355 (by omega) (by omega) (by omega) ?_
                      refine ga_inc (a := n) (c := n + 1) (lv2 := [(5, .int (Int32.ofInt (n + 1))), (6, .long (Int64.ofInt z136_)), (0, .ref 344), (1, .int (Int32.ofInt mo)), (2, .ref 356), (3, .ref 355), (4, .int (Int32.ofInt at_))]) hm_188 rfl rfl (Nat.le_of_ble_eq_true rfl) rfl rfl ?_
                      refine fl_goto hm_188 rfl ?_
                      refine ga_aload_n (v := .ref 344) hm_188 rfl rfl rfl ?_
                      refine gIi (nY := 1) (F := 0) (L := 0) (As := []) (b := 344) (rest := []) hm_188 rfl hm_59 rfl rfl (fl_ob sc_344) rfl rfl rfl rfl rfl (by omega) (by omega) ?_
                      intro f193_ l194_ h195_ h196_
                      show fl_R xi_ms 59 f193_ l194_ 0 [(0, .ref 344)] [] _ _
                      refine ga_aload_n (v := .ref 344) hm_59 rfl rfl rfl ?_
                      have b197_ : 0 ≤ F181_ 344 9 ∧ F181_ 344 9 ≤ 5 := gi_g g182_ rfl
                      refine ga_geti (z := F181_ 344 9) hm_59 rfl sc_344 rfl (fl_u_ne (by omega)) ?_
                      refine fl_if_le (a := F181_ 344 9) hm_59 rfl ⟨by omega, by omega⟩ (fun h198_ => ?_) (fun h199_ => ?_)
                      · exfalso; omega
                      refine fl_iconst hm_59 rfl ?_
                      refine fl_goto hm_59 rfl ?_
                      refine gr_i hm_59 rfl rfl (ga_nb (by omega)) ?_
                      clear h195_ h196_ f193_ l194_
                      refine fl_if_ne hm_188 rfl ⟨by omega, by omega⟩ (fun _ => ?_) (fun h => absurd (by omega) h)
                      refine ga_iload (z := n + 1) hm_188 rfl rfl ?_
                      obtain ⟨F200_, q201_⟩ : ∃ F9_, F9_ = (fl_u F181_ 355 (at_ + n).toNat z173_) := ⟨_, rfl⟩
                      rw [← q201_]
                      have g202_ : gi F200_ := by rw [q201_]; exact gi_u (g182_) rfl (by omega) (by omega)
                      have g203_ : fs [(344, 344, 5, 5), (344, 344, 9, 10), (355, 356, 0, 100000)] F F200_ := by rw [q201_]; exact fs_u (g191_) (fs_z (fs_z (fs_y (by omega))))
                      have rk204_ : rk K F200_ := by rw [q201_]; exact rk_u (rk192_) (by omega) (by omega)
                      refine gr_i (z := n + 1) hm_188 rfl rfl rfl ?_
                      have e205_ : F200_ 344 9 = F181_ 344 9 := by rw [q201_]; exact fl_u_ne (by omega)
                      have e206_ : F200_ 344 10 = F181_ 344 10 := by rw [q201_]; exact fl_u_ne (by omega)
                      have e207_ : F200_ 344 5 = F181_ 344 5 := by rw [q201_]; exact fl_u_ne (by omega)
                      have b208_ : 0 ≤ F181_ 344 10 ∧ F181_ 344 10 ≤ 600 := gi_g g182_ rfl
                      have b209_ : 0 ≤ F 344 10 ∧ F 344 10 ≤ 600 := gi_g hgi rfl
                      have b210_ : 0 ≤ F 344 5 ∧ F 344 5 ≤ 600 := gi_g hgi rfl
                      have b211_ : 0 ≤ F181_ 344 5 ∧ F181_ 344 5 ≤ 600 := gi_g g182_ rfl
                      exact Or.inl ⟨F200_, rfl, g202_, g203_, (by omega), (⟨by intro h0_; have hs_ := c178_s; rw [hsp, sp1_rt (by omega) (by omega) (by rw [(ra_fa hsc (show nrel (K 6 (F1 344 5).toNat) z136_ by rw [c137_, if_pos (by omega)]; exact hvr.2) c146_ c147_ c148_ rfl)]; omega) (by omega), rt_er hs_]; congr 2 <;> omega, fun h0_ => by exfalso; omega⟩), (by omega), (by omega)⟩
                    subst hA_
                    have g212_ : fs [(344, 344, 5, 5), (344, 344, 9, 10), (355, 356, 0, 100000)] F F188_ := fs_tr g170_ s190_ rfl
                    have rk213_ : rk K F188_ := rk_fs rk171_ s190_ (fun r k h => (fs_n (by omega) (fs_n (by omega) rfl))) (fs_n (by omega) (fs_n (by omega) rfl))
                    try simp only [e176_] at c184_
                    try simp only [e172_] at c185_
                    refine fl_iast (z := at_ + n) (v := z173_) hm_188 rfl sc_355 (by omega) (by omega) (by omega) ?_
                    refine ga_inc (a := n) (c := n + 1) (lv2 := [(5, .int (Int32.ofInt (n + 1))), (6, .long (Int64.ofInt z136_)), (0, .ref 344), (1, .int (Int32.ofInt mo)), (2, .ref 356), (3, .ref 355), (4, .int (Int32.ofInt at_))]) hm_188 rfl rfl (Nat.le_of_ble_eq_true rfl) rfl rfl ?_
                    refine fl_goto hm_188 rfl ?_
                    obtain ⟨F214_, q215_⟩ : ∃ F9_, F9_ = (fl_u F188_ 355 (at_ + n).toNat z173_) := ⟨_, rfl⟩
                    rw [← q215_]
                    have g216_ : gi F214_ := by rw [q215_]; exact gi_u (g189_) rfl (by omega) (by omega)
                    have g217_ : fs [(344, 344, 5, 5), (344, 344, 9, 10), (355, 356, 0, 100000)] F F214_ := by rw [q215_]; exact fs_u (g212_) (fs_z (fs_z (fs_y (by omega))))
                    have rk218_ : rk K F214_ := by rw [q215_]; exact rk_u (rk213_) (by omega) (by omega)
                    have e219_ : F214_ 344 9 = F188_ 344 9 := by rw [q215_]; exact fl_u_ne (by omega)
                    have b220_ : 0 ≤ F188_ 344 9 ∧ F188_ 344 9 ≤ 5 := gi_g g189_ rfl
                    have e221_ : F214_ 344 5 = F188_ 344 5 := by rw [q215_]; exact fl_u_ne (by omega)
                    have b222_ : 0 ≤ F188_ 344 5 ∧ F188_ 344 5 ≤ 600 := gi_g g189_ rfl
                    have b223_ : 0 ≤ K 1 6 ∧ K 1 6 ≤ 601 := gi_g hgK rfl
                    have b224_ : 0 ≤ F 344 5 ∧ F 344 5 ≤ 600 := gi_g hgi rfl
                    have e225_ : F167_ 356 (at_ + n).toNat = z136_ := by rw [q168_]; exact fl_u_eq
                    have e226_ : F188_ 356 (at_ + n).toNat = z136_ := (s190_ 356 (at_ + n).toNat (fs_n (by omega) (fs_n (by omega) rfl))).trans (e225_)
                    have e227_ : F214_ 356 (at_ + n).toNat = z136_ := by rw [q215_]; exact (fl_u_ne (by omega)).trans (e226_)
                    exact fl_R_sub (lv' := [(5, .int (Int32.ofInt (n + 1))), (0, .ref 344), (1, .int (Int32.ofInt mo)), (2, .ref 356), (3, .ref 355), (4, .int (Int32.ofInt at_))]) rfl rfl (ih5_ _ (by omega) (n + 1) (_) (_) F214_ rfl g216_ (by rw [q215_]; exact fs_u ((fs_tr (by rw [q168_]; exact fs_u (fs_u (hf_F1) rfl) (fs_z (fs_z (fs_y (by omega))))) s190_ rfl)) (fs_z (fs_z (fs_y (by omega))))) (by omega) (by simp only [List.length_append, List.length_singleton]; omega) (rpn_at hsc (fun j hj => (Eq.trans (a := F214_ 356 (at_.toNat + j)) (b := F188_ 356 (at_.toNat + j)) (by rw [q215_]; exact (fl_u_ne (by omega))) (Eq.trans (a := F188_ 356 (at_.toNat + j)) (b := F167_ 356 (at_.toNat + j)) (s190_ 356 (at_.toNat + j) (fs_n (by omega) (fs_n (by omega) rfl))) (show F167_ 356 (at_.toNat + j) = F1 356 (at_.toNat + j) from (by rw [q168_]; exact (fl_u_ne (by omega)).trans ((fl_u_ne (by omega)))))))) (by show F214_ 356 (at_.toNat + n.toNat) = _; rw [show at_.toNat + n.toNat = (at_ + n).toNat by omega]; exact e227_) (show nrel (K 6 (F1 344 5).toNat) z136_ by rw [c137_, if_pos (by omega)]; exact hvr.2)) (rty_snoc (t := z173_ - 1) hty (fun j hj => (Eq.trans (a := F214_ 355 (at_.toNat + j)) (b := F188_ 355 (at_.toNat + j)) (by rw [q215_]; exact (fl_u_ne (by omega))) (Eq.trans (a := F188_ 355 (at_.toNat + j)) (b := F167_ 355 (at_.toNat + j)) (s190_ 355 (at_.toNat + j) (fs_n (by omega) (fs_n (by omega) rfl))) (show F167_ 355 (at_.toNat + j) = F1 355 (at_.toNat + j) from (by rw [q168_]; exact (fl_u_ne (by omega)).trans ((fl_u_ne (by omega)))))))) (by rw [q215_, show at_.toNat + tl.length = (at_ + n).toNat by omega]; exact (fl_u_eq).trans (by omega))) (by omega) (by rw [hsp, sp1_rt (by omega) (by omega) (by rw [(ra_fa hsc (show nrel (K 6 (F1 344 5).toNat) z136_ by rw [c137_, if_pos (by omega)]; exact hvr.2) c146_ c147_ c148_ rfl)]; omega) (by omega), rt_eq c185_]; congr 1 <;> first | (simp only [List.length_append, List.length_singleton]; omega) | (show F188_ 344 5 = _; omega) | rfl))
                  exfalso; omega
                exfalso; omega
              refine ga_aload_n (v := .ref 344) hm_188 rfl rfl rfl ?_
              refine fl_iconst hm_188 rfl ?_
              refine gVv (nY := 2) (F := 0) (L := 0) (As := [.int (Int32.ofInt 2)]) (b := 344) (rest := []) hm_188 rfl hm_54 rfl rfl (fl_ob sc_344) rfl rfl rfl rfl rfl (by omega) (by omega) (mc_54 hG F1 X hg_F1 (K) (2) hgK rk8_ hkt (by omega) (by omega)) (fun _ _ h => False.elim h) ?_
              have b229_ : 0 ≤ F1 344 10 ∧ F1 344 10 ≤ 600 := gi_g hg_F1 rfl
              rintro A1_ ⟨F233_, hA_, g234_, s235_, c230_, c231_, c232_⟩
              subst hA_
              have g236_ : fs [(344, 344, 5, 5), (344, 344, 9, 10), (355, 356, 0, 100000)] F F233_ := fs_tr g7_ s235_ rfl
              have rk237_ : rk K F233_ := rk_fs rk8_ s235_ (fun r k h => (fs_n (by omega) rfl)) (fs_n (by omega) rfl)
              have c231_s := c231_.1 (by omega)
              clear c231_
              refine ga_aload_n (v := .ref 344) hm_188 rfl rfl rfl ?_
              refine gIv (nY := 1) (F := 1) (L := 20) (As := []) (b := 344) (rest := []) hm_188 rfl hm_61 rfl rfl (fl_ob sc_344) rfl rfl rfl rfl rfl (by omega) (by omega) ?_
              intro f238_ l239_ h240_ h241_
              show fl_R xi_ms 61 f238_ l239_ 0 [(0, .ref 344)] [] _ _
              refine ga_aload_n (v := .ref 344) hm_61 rfl rfl rfl ?_
              refine ga_dup hm_61 rfl rfl ?_
              have e242_ : F233_ 344 5 = F1 344 5 := (s235_ 344 5 rfl).trans (rfl)
              refine ga_geti (z := F1 344 5) hm_61 rfl sc_344 rfl (e242_) ?_
              refine ga_aload_n (v := .ref 344) hm_61 rfl rfl rfl ?_
              refine gIi (nY := 1) (F := 0) (L := 0) (As := []) (b := 344) (rest := [.int (Int32.ofInt (F1 344 5)), .ref 344]) hm_61 rfl hm_59 rfl rfl (fl_ob sc_344) rfl rfl rfl rfl rfl (by omega) (by omega) ?_
              intro f243_ l244_ h245_ h246_
              show fl_R xi_ms 59 f243_ l244_ 0 [(0, .ref 344)] [] _ _
              refine ga_aload_n (v := .ref 344) hm_59 rfl rfl rfl ?_
              have b247_ : 0 ≤ F233_ 344 9 ∧ F233_ 344 9 ≤ 5 := gi_g g234_ rfl
              refine ga_geti (z := F233_ 344 9) hm_59 rfl sc_344 rfl (rfl) ?_
              refine fl_if_le (a := F233_ 344 9) hm_59 rfl ⟨by omega, by omega⟩ (fun h248_ => ?_) (fun h249_ => ?_)
              · exfalso; omega
              refine fl_iconst hm_59 rfl ?_
              refine fl_goto hm_59 rfl ?_
              refine gr_i hm_59 rfl rfl (ga_nb (by omega)) ?_
              clear h245_ h246_ f243_ l244_
              refine fl_if_eq hm_61 rfl ⟨by omega, by omega⟩ (fun h => absurd h (by omega)) (fun _ => ?_)
              refine fl_iconst hm_61 rfl ?_
              refine fl_goto hm_61 rfl ?_
              refine ga_iadd (a := F1 344 5) (b := 0) (c := F1 344 5) hm_61 rfl (by omega) ?_
              refine ga_puti (z := F1 344 5) hm_61 rfl sc_344 rfl rfl ?_
              refine gr_v hm_61 rfl rfl ?_
              clear h240_ h241_ f238_ l239_
              refine ga_aload_n (v := .ref 344) hm_188 rfl rfl rfl ?_
              refine gIi (nY := 1) (F := 0) (L := 0) (As := []) (b := 344) (rest := []) hm_188 rfl hm_59 rfl rfl (fl_ob sc_344) rfl rfl rfl rfl rfl (by omega) (by omega) ?_
              intro f250_ l251_ h252_ h253_
              show fl_R xi_ms 59 f250_ l251_ 0 [(0, .ref 344)] [] _ _
              refine ga_aload_n (v := .ref 344) hm_59 rfl rfl rfl ?_
              refine ga_geti (z := F233_ 344 9) hm_59 rfl sc_344 rfl (fl_u_ne (by omega)) ?_
              refine fl_if_le (a := F233_ 344 9) hm_59 rfl ⟨by omega, by omega⟩ (fun h254_ => ?_) (fun h255_ => ?_)
              · exfalso; omega
              refine fl_iconst hm_59 rfl ?_
              refine fl_goto hm_59 rfl ?_
              refine gr_i hm_59 rfl rfl (ga_nb (by omega)) ?_
              clear h252_ h253_ f250_ l251_
              refine fl_if_eq hm_188 rfl ⟨by omega, by omega⟩ (fun h => absurd h (by omega)) (fun _ => ?_)
              refine ga_iload (z := n) hm_188 rfl rfl ?_
              obtain ⟨F256_, q257_⟩ : ∃ F9_, F9_ = (fl_u F233_ 344 5 (F1 344 5)) := ⟨_, rfl⟩
              rw [← q257_]
              have g258_ : gi F256_ := by rw [q257_]; exact gi_u (g234_) rfl (by omega) (by omega)
              have g259_ : fs [(344, 344, 5, 5), (344, 344, 9, 10), (355, 356, 0, 100000)] F F256_ := by rw [q257_]; exact fs_u (g236_) rfl
              have rk260_ : rk K F256_ := by rw [q257_]; exact rk_u (rk237_) (by omega) (by omega)
              refine gr_i (z := n) hm_188 rfl rfl rfl ?_
              have e261_ : F256_ 344 9 = F233_ 344 9 := by rw [q257_]; exact fl_u_ne (by omega)
              have e262_ : F256_ 344 10 = F233_ 344 10 := by rw [q257_]; exact fl_u_ne (by omega)
              have e263_ : F256_ 344 5 = F1 344 5 := by rw [q257_]; exact fl_u_eq
              have b264_ : 0 ≤ F233_ 344 10 ∧ F233_ 344 10 ≤ 600 := gi_g g234_ rfl
              have b265_ : 0 ≤ F 344 10 ∧ F 344 10 ≤ 600 := gi_g hgi rfl
              have b266_ : 0 ≤ F 344 5 ∧ F 344 5 ≤ 600 := gi_g hgi rfl
              exact Or.inl ⟨F256_, rfl, g258_, g259_, (by omega), (⟨by intro h0_; have hs_ := c231_s; rw [hsp, sp1_f2 (by omega) (by omega) (by rw [(ra_fa hsc (show nrel (K 6 (F1 344 5).toNat) z136_ by rw [c137_, if_pos (by omega)]; exact hvr.2) c146_ c147_ c148_ rfl)]; omega)]; congr 2 <;> omega, fun h0_ => by exfalso; omega⟩), (by omega), (by omega)⟩
            exfalso; omega
          exfalso; omega
        subst hA_
        subst hz_
        refine fl_if_ne hm_188 rfl ⟨by omega, by omega⟩ (fun _ => ?_) (fun h => absurd (by omega) h)
        refine ga_iload (z := n) hm_188 rfl rfl ?_
        refine gr_i (z := n) hm_188 rfl rfl rfl ?_
        have b267_ : 0 ≤ F 344 5 ∧ F 344 5 ≤ 600 := gi_g hgi rfl
        exact Or.inr (⟨F1, rfl, hg_F1, g7_, (by omega), (⟨l, tl, ⟨by rw [hsp, sp1_e (by omega)], by omega⟩, ⟨by omega, by omega⟩, hty, hsc⟩), (by omega), (by omega)⟩)
      exfalso; omega
    have b268_ : 0 ≤ F 344 5 ∧ F 344 5 ≤ 600 := gi_g hgi rfl
    have b269_ : 0 ≤ K 1 6 ∧ K 1 6 ≤ 601 := gi_g hgK rfl
    exact L4_ _ (0) ([]) ([]) F rfl hgi fs_refl (by omega) (by simp) (⟨rfl, fun j x hx => by simp at hx⟩) (fun j x hx => by simp at hx) (by omega) (rfl)
  refine fl_iconst hm_188 rfl ?_
  refine ga_istore (lv2 := [(5, .int (Int32.ofInt 0)), (0, .ref 344), (1, .int (Int32.ofInt mo)), (2, .ref 356), (3, .ref 355), (4, .int (Int32.ofInt at_))]) hm_188 rfl (Nat.le_of_ble_eq_true rfl) rfl ?_
  refine ga_aload_n (v := .ref 344) hm_188 rfl rfl rfl ?_
  refine gIi (nY := 1) (F := 0) (L := 0) (As := []) (b := 344) (rest := []) hm_188 rfl hm_59 rfl rfl (fl_ob sc_344) rfl rfl rfl rfl rfl (by omega) (by omega) ?_
  intro f270_ l271_ h272_ h273_
  show fl_R xi_ms 59 f270_ l271_ 0 [(0, .ref 344)] [] _ _
  refine ga_aload_n (v := .ref 344) hm_59 rfl rfl rfl ?_
  refine ga_geti (z := F 344 9) hm_59 rfl sc_344 rfl (rfl) ?_
  refine fl_if_le (a := F 344 9) hm_59 rfl ⟨by omega, by omega⟩ (fun h274_ => ?_) (fun h275_ => ?_)
  · exfalso; omega
  refine fl_iconst hm_59 rfl ?_
  refine fl_goto hm_59 rfl ?_
  refine gr_i hm_59 rfl rfl (ga_nb (by omega)) ?_
  clear h272_ h273_ f270_ l271_
  refine fl_if_ne hm_188 rfl ⟨by omega, by omega⟩ (fun _ => ?_) (fun h => absurd (by omega) h)
  refine ga_iload (z := 0) hm_188 rfl rfl ?_
  refine gr_i (z := 0) hm_188 rfl rfl rfl ?_
  have b276_ : 0 ≤ F 344 10 ∧ F 344 10 ≤ 600 := gi_g hgi rfl
  have b277_ : 0 ≤ F 344 5 ∧ F 344 5 ≤ 600 := gi_g hgi rfl
  exact Or.inl ⟨F, rfl, hgi, fs_refl, (by omega), (⟨fun h0_ => by exfalso; omega, fun h0_ => by constructor <;> omega⟩), (by omega), (by omega)⟩

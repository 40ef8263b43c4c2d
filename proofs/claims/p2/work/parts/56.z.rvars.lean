def sp_p1 (K : fl_N) (ts : List Int) (m : Nat) (l tl : List Int) (p : Int) : PR (Int × List Int × List Int) := pb (sp_params K ts m l tl p) (fun q => if K 3 q.1.toNat = 1 then .inr q else pf K q.1 1)
theorem sp1_e {K : fl_N} {ts l tl : List Int} {m : Nat} {p : Int} (hk : K 3 p.toNat = 1) : sp_p1 K ts m l tl p = .inr (p, l, tl) := by
  rw [sp_p1, spp_e hk, pb_r, if_pos hk]
theorem sp1_z {K : fl_N} {ts l tl : List Int} {m : Nat} {p : Int} (hm : m = 0) (hk : ¬ K 3 p.toNat = 1) : sp_p1 K ts m l tl p = .inl (1, K 4 p.toNat) := by
  subst hm
  rw [sp_p1, sp_params, pb_r, if_neg hk]
  rfl
theorem sp1_u {K : fl_N} {ts l tl : List Int} {m : Nat} {p : Int} (hm : 0 < m) (hk : ¬ K 3 p.toNat = 1) : sp_p1 K ts m l tl p = pb (pb (sp_typed K ts 3 l tl p) (fun q => sp_params K ts (m - 1) q.2.1 q.2.2 q.1)) (fun q => if K 3 q.1.toNat = 1 then .inr q else pf K q.1 1) := by
  obtain ⟨k, rfl⟩ : ∃ k, m = k + 1 := ⟨m - 1, by omega⟩
  rw [sp_p1]
  conv => lhs; unfold sp_params
  rw [if_neg hk]
  rfl
theorem sp1_f1 {K : fl_N} {ts l tl : List Int} {m : Nat} {p : Int} (hk : ¬ K 3 p.toNat = 1) (h3 : ¬ K 3 p.toNat = 3) : sp_p1 K ts m l tl p = .inl (1, K 4 p.toNat) := by
  by_cases e : m = 0
  · exact sp1_z e hk
  · rw [sp1_u (by omega) hk, sp_typed, sp_new, if_neg h3]
    rfl
theorem sp1_f2 {K : fl_N} {ts l tl : List Int} {m : Nat} {p : Int} (hm : 0 < m) (h3 : K 3 p.toNat = 3) (hz : 0 ≤ idx l (K 6 p.toNat)) : sp_p1 K ts m l tl p = .inl (2, K 4 p.toNat) := by
  rw [sp1_u hm (by omega), sp_typed, sp_new, if_pos h3, if_neg (by omega)]
  rfl
theorem sp1_rt {K : fl_N} {ts l tl : List Int} {m : Nat} {p : Int} (hm : 0 < m) (h3 : K 3 p.toNat = 3) (hz : idx l (K 6 p.toNat) = -1) (hp : p < K 1 6 - 1) : sp_p1 K ts m l tl p = pb (sp_rt K ts (p + 1)) (fun r => sp_p1 K ts (m - 1) (l ++ [K 6 p.toNat]) (tl ++ [r.2]) r.1) := by
  rw [sp1_u hm (by omega), sp_typed, sp_new, if_pos h3, if_pos (by omega), sk, if_pos hp, pb_r, sp_rt]
  by_cases c : isw K (p + 1) [45] = true
  · simp only [c, if_true]
    rw [pb_as, pb_as]
    rfl
  · simp only [c, if_false]
    rfl
theorem dup_0 {l : List Int} {c : Int} (h : (l.length : Int) = 0) : idx l c = -1 := by
  have e : l = [] := List.eq_nil_of_length_eq_zero (by omega)
  rw [e]
  rfl
theorem dup_1 {g : Nat → Int} {n c v : Int} {l : List Int} (h : rpn g n l) (hr : nrel c v) (hn : (l.length : Int) = 1) : (g 0 = v → 0 ≤ idx l c) ∧ (¬ g 0 = v → idx l c = -1) := by
  match l, h, hn with
  | [x], h, _ =>
    have h9 := nrel_inj (h.2 0 x rfl) hr
    constructor
    · intro e
      rw [idx, if_pos (h9.mpr e)]
      decide
    · intro e
      rw [idx, if_neg (fun q => e (h9.mp q))]
      rfl
/-- types of parameters, one more than the class's -/
def rty (g : Nat → Int) (a : Nat) (tl : List Int) : Prop := ∀ (j : Nat) (x : Int), tl[j]? = some x → g (a + j) = x + 1
theorem rty_snoc {g g' : Nat → Int} {a : Nat} {tl : List Int} {t : Int} (h : rty g a tl) (hg : ∀ j : Nat, j < tl.length → g' (a + j) = g (a + j)) (ht : g' (a + tl.length) = t + 1) : rty g' a (tl ++ [t]) := by
  intro j x hx
  by_cases hj : j = tl.length
  · subst hj
    rw [List.getElem?_append_right (Nat.le_refl _)] at hx
    simp only [Nat.sub_self, List.getElem?_cons_zero, Option.some.injEq] at hx
    rw [ht, hx]
  · have hl : j < tl.length := by
      have h9 := (List.getElem?_eq_some_iff.mp hx).1
      rw [List.length_append, List.length_singleton] at h9
      omega
    rw [List.getElem?_append_left hl] at hx
    rw [hg j hl]
    exact h j x hx
theorem rt_eq {K : fl_N} {ts : List Int} {p q t : Int} {α : Type} {f : Int × Int → PR α} (h : sp_rt K ts p = .inr (q, t)) : pb (sp_rt K ts p) f = f (q, t) := by
  rw [h]
  rfl
theorem rt_er {K : fl_N} {ts : List Int} {p : Int} {e : Int × Int} {α : Type} {f : Int × Int → PR α} (h : sp_rt K ts p = .inl e) : pb (sp_rt K ts p) f = .inl e := by
  rw [h]
  rfl
theorem rpn_at {g g' : Nat → Int} {n c v : Int} {l : List Int} (h : rpn g n l) (hg : ∀ j : Nat, (j : Int) < n → g' j = g j) (hv : g' n.toNat = v) (hr : nrel c v) : rpn g' (n + 1) (l ++ [c]) := rpn_snoc h hg hv hr
theorem ra_fa {g : Nat → Int} {at_ fm n z c v : Int} {l : List Int} (h : rpn (fun j => g (at_.toNat + j)) n l) (hr : nrel c v) (h1 : -1 ≤ z ∧ z < n ∨ z = -1) (h2 : z = -1 → ∀ j : Nat, (j : Int) < n → g (fm.toNat + j) ≠ v) (h3 : 0 ≤ z → g (fm.toNat + z.toNat) = v ∧ ∀ j : Nat, (j : Int) < z → g (fm.toNat + j) ≠ v) (he : fm = at_) : idx l c = z := by
  subst he
  have hn := h.1
  exact rpn_find h hr (by omega) h2 h3
theorem rpn_cg {g g' : Nat → Int} {n : Int} {l : List Int} (h : rpn g n l) (hg : ∀ j : Nat, (j : Int) < n → g' j = g j) : rpn g' n l := ⟨h.1, fun j x hx => by
  have h9 := (List.getElem?_eq_some_iff.mp hx).1
  rw [hg j (by have := h.1; omega)]
  exact h.2 j x hx⟩

/- CheapPlannerModel.readVariables -/
abbrev pq_188 (G : Nat → Nat → Option Nat) (F : fl_N) (X : xi_H) (K : fl_N) (mo at_ : Int) (ts : List Int) : Outcome → xi_H → Prop := gqi (fun z A => (∃ F' : fl_N, fl_H sh_T G F' ++ X = A ∧ gi F' ∧ fs [(344, 344, 5, 5), (344, 344, 9, 10), (355, 356, 0, 100000)] F F' ∧ (¬ F' 344 9 = 0) ∧ ((F 344 9 = 0 → sp_p1 K ts 3 [] [] (F 344 5) = .inl (F' 344 9, F' 344 10)) ∧ (¬ F 344 9 = 0 → F' 344 9 = F 344 9 ∧ F' 344 10 = F 344 10)) ∧ (0 ≤ F' 344 5 ∧ F' 344 5 ≤ K 1 6 - 1) ∧ (0 ≤ z ∧ z ≤ 3)) ∨ (∃ F' : fl_N, fl_H sh_T G F' ++ X = A ∧ gi F' ∧ fs [(344, 344, 5, 5), (344, 344, 9, 10), (355, 356, 0, 100000)] F F' ∧ (F' 344 9 = 0 ∧ F 344 9 = 0) ∧ (∃ l tl, (sp_p1 K ts 3 [] [] (F 344 5) = .inr (F' 344 5, l, tl) ∧ K 3 (F' 344 5).toNat = 1) ∧ (z = (tl.length : Int) ∧ tl.length = l.length) ∧ rty (F' 355) at_.toNat tl ∧ rpn (fun j => F' 356 (at_.toNat + j)) z l) ∧ (0 ≤ F' 344 5 ∧ F' 344 5 ≤ K 1 6 - 1) ∧ (0 ≤ z ∧ z ≤ 3))) gqn
theorem mc_188 {G : Nat → Nat → Option Nat} (hG : gg G) (F : fl_N) (X : xi_H) (hgi : gi F) (K : fl_N) (mo at_ : Int) (ts : List Int) (hgK : gi K) (hrk : rk K F) (hkt : rkt K) (hp : 0 ≤ F 344 5 ∧ F 344 5 ≤ K 1 6 - 1) (hts : rpn (F 349) (F 344 15) ts) (hmo : mo = 3) (hat : 0 ≤ at_ ∧ at_ ≤ 12) : fl_M xi_ms 188 4 89 [.ref 344, .int (Int32.ofInt mo), .ref 356, .ref 355, .int (Int32.ofInt at_)] (fl_H sh_T G F ++ X) (pq_188 G F X K mo at_ ts) := by
  intro fr lo hfr hlo
  show fl_R xi_ms 188 fr lo 0 [(0, .ref 344), (1, .int (Int32.ofInt mo)), (2, .ref 356), (3, .ref 355), (4, .int (Int32.ofInt at_))] [] _ _
  have hP := rkt_p hkt hp.1 hp.2 hgK
  have hK16 : 0 ≤ K 1 6 ∧ K 1 6 ≤ 601 := gi_g hgK rfl
  have hko := hkt.1
  have b1_ : 0 ≤ F 344 9 ∧ F 344 9 ≤ 5 := gi_g hgi rfl
  by_cases h2_ : F 344 9 = 0
  ·
    refine fl_iconst hm_188 rfl ?_
    refine ga_istore (lv2 := [(5, .int (Int32.ofInt 0)), (0, .ref 344), (1, .int (Int32.ofInt mo)), (2, .ref 356), (3, .ref 355), (4, .int (Int32.ofInt at_))]) hm_188 rfl (Nat.le_of_ble_eq_true rfl) rfl ?_
    have L4_ : ∀ (n3_ : Nat) (n : Int) (l : List Int) (tl : List Int) (F1 : fl_N), (4 - n : Int).toNat = n3_ → (gi F1) → (fs [(344, 344, 5, 5), (344, 344, 9, 10), (355, 356, 0, 100000)] F F1) → (F1 344 9 = 0) → (0 ≤ n ∧ n ≤ 3 ∧ (l.length : Int) = n ∧ (tl.length : Int) = n) → (rpn (fun j => F1 356 (at_.toNat + j)) n l) → (rty (F1 355) at_.toNat tl) → (0 ≤ F1 344 5 ∧ F1 344 5 ≤ K 1 6 - 1) → (sp_p1 K ts 3 [] [] (F 344 5) = sp_p1 K ts (3 - l.length) l tl (F1 344 5)) → fl_R xi_ms 188 fr lo 3 [(5, .int (Int32.ofInt n)), (0, .ref 344), (1, .int (Int32.ofInt mo)), (2, .ref 356), (3, .ref 355), (4, .int (Int32.ofInt at_))] [] (fl_H sh_T G F1 ++ X) (pq_188 G F X K mo at_ ts) := by
      intro n3_
      induction n3_ using Nat.strongRecOn with
      | ind n3_ ih5_ =>
      intro n l tl F1 hn6_ hg_F1 hf_F1 hk hn hsc hty hp1 hsp
      have g7_ : fs [(344, 344, 5, 5), (344, 344, 9, 10), (355, 356, 0, 100000)] F F1 := fs_tr fs_refl hf_F1 rfl
      have rk8_ : rk K F1 := rk_fs hrk hf_F1 (fun r k h => (fs_n (by omega) (fs_n (by omega) (fs_n (by omega) rfl)))) (fs_n (by omega) (fs_n (by omega) (fs_n (by omega) rfl)))
      have hP1 := rkt_p hkt (p := F1 344 5) (by omega) (by omega) hgK
      refine ga_aload_n (v := .ref 344) hm_188 rfl rfl rfl ?_
      refine gIi (nY := 1) (F := 0) (L := 0) (As := []) (b := 344) (rest := []) hm_188 rfl hm_59 rfl rfl (fl_ob sc_344) rfl rfl rfl rfl rfl (by omega) (by omega) ?_
      intro f9_ l10_ h11_ h12_
      show fl_R xi_ms 59 f9_ l10_ 0 [(0, .ref 344)] [] _ _
      refine ga_aload_n (v := .ref 344) hm_59 rfl rfl rfl ?_
      have b13_ : 0 ≤ F1 344 9 ∧ F1 344 9 ≤ 5 := gi_g hg_F1 rfl
      refine ga_geti (z := F1 344 9) hm_59 rfl sc_344 rfl (rfl) ?_
      refine fl_if_le (a := F1 344 9) hm_59 rfl ⟨by omega, by omega⟩ (fun h14_ => ?_) (fun h15_ => ?_)
      ·
        refine fl_iconst hm_59 rfl ?_
        refine gr_i hm_59 rfl rfl (ga_nb (by omega)) ?_
        refine fl_if_ne hm_188 rfl ⟨by omega, by omega⟩ (fun h => absurd h (by omega)) (fun _ => ?_)
        refine ga_aload_n (v := .ref 344) hm_188 rfl rfl rfl ?_
        refine fl_bipush hm_188 rfl rfl ?_
        have b16_ : 0 ≤ F1 344 5 ∧ F1 344 5 ≤ 600 := gi_g hg_F1 rfl
        refine gVi (nY := 2) (F := 1) (L := 20) (As := [.int (Int32.ofInt 41)]) (b := 344) (rest := []) hm_188 rfl hm_52 rfl rfl (fl_ob sc_344) rfl rfl rfl rfl rfl (by omega) (by omega) (mc_52 hG F1 X hg_F1 (K) (41) hgK rk8_ hkt (by omega) (by omega)) (fun _ _ h => False.elim h) ?_
        rintro z17_ A1_ (⟨hA_, hz_, c18_⟩ | ⟨hA_, hz_, c19_⟩)
        ·
          subst hA_
          subst hz_
          refine fl_if_ne hm_188 rfl ⟨by omega, by omega⟩ (fun h => absurd h (by omega)) (fun _ => ?_)
          refine ga_iload (z := n) hm_188 rfl rfl ?_
          refine ga_iload_n (z := mo) hm_188 rfl rfl ?_
          refine fl_icmp_eq (a := n) (b := mo) hm_188 rfl ⟨by omega, by omega⟩ ⟨by omega, by omega⟩ (fun h20_ => ?_) (fun h21_ => ?_)
          ·
            refine ga_aload_n (v := .ref 344) hm_188 rfl rfl rfl ?_
            refine fl_iconst hm_188 rfl ?_
            refine gVv (nY := 2) (F := 0) (L := 0) (As := [.int (Int32.ofInt 1)]) (b := 344) (rest := []) hm_188 rfl hm_54 rfl rfl (fl_ob sc_344) rfl rfl rfl rfl rfl (by omega) (by omega) (mc_54 hG F1 X hg_F1 (K) (1) hgK rk8_ hkt (by omega) (by omega)) (fun _ _ h => False.elim h) ?_
            have b23_ : 0 ≤ F1 344 10 ∧ F1 344 10 ≤ 600 := gi_g hg_F1 rfl
            rintro A1_ ⟨F27_, hA_, g28_, s29_, c24_, c25_, c26_⟩
            subst hA_
            have g30_ : fs [(344, 344, 5, 5), (344, 344, 9, 10), (355, 356, 0, 100000)] F F27_ := fs_tr g7_ s29_ rfl
            have rk31_ : rk K F27_ := rk_fs rk8_ s29_ (fun r k h => (fs_n (by omega) rfl)) (fs_n (by omega) rfl)
            refine ga_aload_n (v := .ref 344) hm_188 rfl rfl rfl ?_
            refine gIi (nY := 1) (F := 0) (L := 0) (As := []) (b := 344) (rest := []) hm_188 rfl hm_59 rfl rfl (fl_ob sc_344) rfl rfl rfl rfl rfl (by omega) (by omega) ?_
            intro f32_ l33_ h34_ h35_
            show fl_R xi_ms 59 f32_ l33_ 0 [(0, .ref 344)] [] _ _
            refine ga_aload_n (v := .ref 344) hm_59 rfl rfl rfl ?_
            have b36_ : 0 ≤ F27_ 344 9 ∧ F27_ 344 9 ≤ 5 := gi_g g28_ rfl
            refine ga_geti (z := F27_ 344 9) hm_59 rfl sc_344 rfl (rfl) ?_
            refine fl_if_le (a := F27_ 344 9) hm_59 rfl ⟨by omega, by omega⟩ (fun h37_ => ?_) (fun h38_ => ?_)
            · exfalso; omega
            refine fl_iconst hm_59 rfl ?_
            refine fl_goto hm_59 rfl ?_
            refine gr_i hm_59 rfl rfl (ga_nb (by omega)) ?_
            refine fl_if_eq hm_188 rfl ⟨by omega, by omega⟩ (fun h => absurd h (by omega)) (fun _ => ?_)
            refine ga_lconst (z := 0) hm_188 rfl rfl ?_
            refine fl_goto hm_188 rfl ?_
            
            refine ga_lstore (lv2 := [(6, .long (Int64.ofInt 0)), (5, .int (Int32.ofInt n)), (0, .ref 344), (1, .int (Int32.ofInt mo)), (2, .ref 356), (3, .ref 355), (4, .int (Int32.ofInt at_))]) hm_188 rfl (Nat.le_of_ble_eq_true rfl) rfl ?_
            refine ga_aload_n (v := .ref 344) hm_188 rfl rfl rfl ?_
            refine gIi (nY := 1) (F := 0) (L := 0) (As := []) (b := 344) (rest := []) hm_188 rfl hm_59 rfl rfl (fl_ob sc_344) rfl rfl rfl rfl rfl (by omega) (by omega) ?_
            intro f39_ l40_ h41_ h42_
            show fl_R xi_ms 59 f39_ l40_ 0 [(0, .ref 344)] [] _ _
            refine ga_aload_n (v := .ref 344) hm_59 rfl rfl rfl ?_
            refine ga_geti (z := F27_ 344 9) hm_59 rfl sc_344 rfl (rfl) ?_
            refine fl_if_le (a := F27_ 344 9) hm_59 rfl ⟨by omega, by omega⟩ (fun h43_ => ?_) (fun h44_ => ?_)
            · exfalso; omega
            refine fl_iconst hm_59 rfl ?_
            refine fl_goto hm_59 rfl ?_
            refine gr_i hm_59 rfl rfl (ga_nb (by omega)) ?_
            refine fl_if_ne hm_188 rfl ⟨by omega, by omega⟩ (fun _ => ?_) (fun h => absurd (by omega) h)
            refine ga_aload_n (v := .ref 344) hm_188 rfl rfl rfl ?_
            refine gIv (nY := 1) (F := 1) (L := 20) (As := []) (b := 344) (rest := []) hm_188 rfl hm_61 rfl rfl (fl_ob sc_344) rfl rfl rfl rfl rfl (by omega) (by omega) ?_
            intro f45_ l46_ h47_ h48_
            show fl_R xi_ms 61 f45_ l46_ 0 [(0, .ref 344)] [] _ _
            refine ga_aload_n (v := .ref 344) hm_61 rfl rfl rfl ?_
            refine ga_dup hm_61 rfl rfl ?_
            have e49_ : F27_ 344 5 = F1 344 5 := (s29_ 344 5 rfl).trans (rfl)
            refine ga_geti (z := F1 344 5) hm_61 rfl sc_344 rfl (e49_) ?_
            refine ga_aload_n (v := .ref 344) hm_61 rfl rfl rfl ?_
            refine gIi (nY := 1) (F := 0) (L := 0) (As := []) (b := 344) (rest := [.int (Int32.ofInt (F1 344 5)), .ref 344]) hm_61 rfl hm_59 rfl rfl (fl_ob sc_344) rfl rfl rfl rfl rfl (by omega) (by omega) ?_
            intro f50_ l51_ h52_ h53_
            show fl_R xi_ms 59 f50_ l51_ 0 [(0, .ref 344)] [] _ _
            refine ga_aload_n (v := .ref 344) hm_59 rfl rfl rfl ?_
            refine ga_geti (z := F27_ 344 9) hm_59 rfl sc_344 rfl (rfl) ?_
            refine fl_if_le (a := F27_ 344 9) hm_59 rfl ⟨by omega, by omega⟩ (fun h54_ => ?_) (fun h55_ => ?_)
            · exfalso; omega
            refine fl_iconst hm_59 rfl ?_
            refine fl_goto hm_59 rfl ?_
            refine gr_i hm_59 rfl rfl (ga_nb (by omega)) ?_
            refine fl_if_eq hm_61 rfl ⟨by omega, by omega⟩ (fun h => absurd h (by omega)) (fun _ => ?_)
            refine fl_iconst hm_61 rfl ?_
            refine fl_goto hm_61 rfl ?_
            refine ga_iadd (a := F1 344 5) (b := 0) (c := F1 344 5) hm_61 rfl (by omega) ?_
            refine ga_puti (z := F1 344 5) hm_61 rfl sc_344 rfl rfl ?_
            refine gr_v hm_61 rfl rfl ?_
            refine ga_aload_n (v := .ref 344) hm_188 rfl rfl rfl ?_
            refine gIi (nY := 1) (F := 0) (L := 0) (As := []) (b := 344) (rest := []) hm_188 rfl hm_59 rfl rfl (fl_ob sc_344) rfl rfl rfl rfl rfl (by omega) (by omega) ?_
            intro f56_ l57_ h58_ h59_
            show fl_R xi_ms 59 f56_ l57_ 0 [(0, .ref 344)] [] _ _
            refine ga_aload_n (v := .ref 344) hm_59 rfl rfl rfl ?_
            refine ga_geti (z := F27_ 344 9) hm_59 rfl sc_344 rfl (fl_u_ne (by omega)) ?_
            refine fl_if_le (a := F27_ 344 9) hm_59 rfl ⟨by omega, by omega⟩ (fun h60_ => ?_) (fun h61_ => ?_)
            · exfalso; omega
            refine fl_iconst hm_59 rfl ?_
            refine fl_goto hm_59 rfl ?_
            refine gr_i hm_59 rfl rfl (ga_nb (by omega)) ?_
            refine fl_if_eq hm_188 rfl ⟨by omega, by omega⟩ (fun h => absurd h (by omega)) (fun _ => ?_)
            refine ga_iload (z := n) hm_188 rfl rfl ?_
            obtain ⟨F62_, q63_⟩ : ∃ F9_, F9_ = (fl_u F27_ 344 5 (F1 344 5)) := ⟨_, rfl⟩
            rw [← q63_]
            have g64_ : gi F62_ := by rw [q63_]; exact gi_u (g28_) rfl (by omega) (by omega)
            have g65_ : fs [(344, 344, 5, 5), (344, 344, 9, 10), (355, 356, 0, 100000)] F F62_ := by rw [q63_]; exact fs_u (g30_) rfl
            have rk66_ : rk K F62_ := by rw [q63_]; exact rk_u (rk31_) (by omega) (by omega)
            refine gr_i (z := n) hm_188 rfl rfl rfl ?_
            have e67_ : F62_ 344 9 = F27_ 344 9 := by rw [q63_]; exact fl_u_ne (by omega)
            have e68_ : F62_ 344 10 = F27_ 344 10 := by rw [q63_]; exact fl_u_ne (by omega)
            have e69_ : F62_ 344 5 = F1 344 5 := by rw [q63_]; exact fl_u_eq
            have b70_ : 0 ≤ F27_ 344 10 ∧ F27_ 344 10 ≤ 600 := gi_g g28_ rfl
            have b71_ : 0 ≤ F 344 10 ∧ F 344 10 ≤ 600 := gi_g hgi rfl
            have b72_ : 0 ≤ F 344 5 ∧ F 344 5 ≤ 600 := gi_g hgi rfl
            exact Or.inl ⟨F62_, rfl, g64_, g65_, (by omega), (⟨by intro h0_; have hs_ := c25_.1 (by omega); rw [hsp, sp1_z (by omega) (by omega)]; congr 2 <;> omega, fun h0_ => by exfalso; omega⟩), (by omega), (by omega)⟩
          refine ga_aload_n (v := .ref 344) hm_188 rfl rfl rfl ?_
          refine gVi (nY := 1) (F := 2) (L := 46) (As := []) (b := 344) (rest := []) hm_188 rfl hm_169 rfl rfl (fl_ob sc_344) rfl rfl rfl rfl rfl (by omega) (by omega) (mc_169 hG F1 X hg_F1 (K) hgK rk8_ hkt (by omega)) (fun _ _ h => False.elim h) ?_
          rintro z73_ A1_ (⟨hA_, hz_, c74_⟩ | ⟨hA_, hz_, c75_, c76_⟩)
          ·
            subst hA_
            subst hz_
            refine fl_if_ne hm_188 rfl ⟨by omega, by omega⟩ (fun h => absurd h (by omega)) (fun _ => ?_)
            refine ga_aload_n (v := .ref 344) hm_188 rfl rfl rfl ?_
            refine fl_iconst hm_188 rfl ?_
            refine gVv (nY := 2) (F := 0) (L := 0) (As := [.int (Int32.ofInt 1)]) (b := 344) (rest := []) hm_188 rfl hm_54 rfl rfl (fl_ob sc_344) rfl rfl rfl rfl rfl (by omega) (by omega) (mc_54 hG F1 X hg_F1 (K) (1) hgK rk8_ hkt (by omega) (by omega)) (fun _ _ h => False.elim h) ?_
            have b78_ : 0 ≤ F1 344 10 ∧ F1 344 10 ≤ 600 := gi_g hg_F1 rfl
            rintro A1_ ⟨F82_, hA_, g83_, s84_, c79_, c80_, c81_⟩
            subst hA_
            have g85_ : fs [(344, 344, 5, 5), (344, 344, 9, 10), (355, 356, 0, 100000)] F F82_ := fs_tr g7_ s84_ rfl
            have rk86_ : rk K F82_ := rk_fs rk8_ s84_ (fun r k h => (fs_n (by omega) rfl)) (fs_n (by omega) rfl)
            refine ga_aload_n (v := .ref 344) hm_188 rfl rfl rfl ?_
            refine gIi (nY := 1) (F := 0) (L := 0) (As := []) (b := 344) (rest := []) hm_188 rfl hm_59 rfl rfl (fl_ob sc_344) rfl rfl rfl rfl rfl (by omega) (by omega) ?_
            intro f87_ l88_ h89_ h90_
            show fl_R xi_ms 59 f87_ l88_ 0 [(0, .ref 344)] [] _ _
            refine ga_aload_n (v := .ref 344) hm_59 rfl rfl rfl ?_
            have b91_ : 0 ≤ F82_ 344 9 ∧ F82_ 344 9 ≤ 5 := gi_g g83_ rfl
            refine ga_geti (z := F82_ 344 9) hm_59 rfl sc_344 rfl (rfl) ?_
            refine fl_if_le (a := F82_ 344 9) hm_59 rfl ⟨by omega, by omega⟩ (fun h92_ => ?_) (fun h93_ => ?_)
            · exfalso; omega
            refine fl_iconst hm_59 rfl ?_
            refine fl_goto hm_59 rfl ?_
            refine gr_i hm_59 rfl rfl (ga_nb (by omega)) ?_
            refine fl_if_eq hm_188 rfl ⟨by omega, by omega⟩ (fun h => absurd h (by omega)) (fun _ => ?_)
            refine ga_lconst (z := 0) hm_188 rfl rfl ?_
            refine fl_goto hm_188 rfl ?_
            
            refine ga_lstore (lv2 := [(6, .long (Int64.ofInt 0)), (5, .int (Int32.ofInt n)), (0, .ref 344), (1, .int (Int32.ofInt mo)), (2, .ref 356), (3, .ref 355), (4, .int (Int32.ofInt at_))]) hm_188 rfl (Nat.le_of_ble_eq_true rfl) rfl ?_
            refine ga_aload_n (v := .ref 344) hm_188 rfl rfl rfl ?_
            refine gIi (nY := 1) (F := 0) (L := 0) (As := []) (b := 344) (rest := []) hm_188 rfl hm_59 rfl rfl (fl_ob sc_344) rfl rfl rfl rfl rfl (by omega) (by omega) ?_
            intro f94_ l95_ h96_ h97_
            show fl_R xi_ms 59 f94_ l95_ 0 [(0, .ref 344)] [] _ _
            refine ga_aload_n (v := .ref 344) hm_59 rfl rfl rfl ?_
            refine ga_geti (z := F82_ 344 9) hm_59 rfl sc_344 rfl (rfl) ?_
            refine fl_if_le (a := F82_ 344 9) hm_59 rfl ⟨by omega, by omega⟩ (fun h98_ => ?_) (fun h99_ => ?_)
            · exfalso; omega
            refine fl_iconst hm_59 rfl ?_
            refine fl_goto hm_59 rfl ?_
            refine gr_i hm_59 rfl rfl (ga_nb (by omega)) ?_
            refine fl_if_ne hm_188 rfl ⟨by omega, by omega⟩ (fun _ => ?_) (fun h => absurd (by omega) h)
            refine ga_aload_n (v := .ref 344) hm_188 rfl rfl rfl ?_
            refine gIv (nY := 1) (F := 1) (L := 20) (As := []) (b := 344) (rest := []) hm_188 rfl hm_61 rfl rfl (fl_ob sc_344) rfl rfl rfl rfl rfl (by omega) (by omega) ?_
            intro f100_ l101_ h102_ h103_
            show fl_R xi_ms 61 f100_ l101_ 0 [(0, .ref 344)] [] _ _
            refine ga_aload_n (v := .ref 344) hm_61 rfl rfl rfl ?_
            refine ga_dup hm_61 rfl rfl ?_
            have e104_ : F82_ 344 5 = F1 344 5 := (s84_ 344 5 rfl).trans (rfl)
            refine ga_geti (z := F1 344 5) hm_61 rfl sc_344 rfl (e104_) ?_
            refine ga_aload_n (v := .ref 344) hm_61 rfl rfl rfl ?_
            refine gIi (nY := 1) (F := 0) (L := 0) (As := []) (b := 344) (rest := [.int (Int32.ofInt (F1 344 5)), .ref 344]) hm_61 rfl hm_59 rfl rfl (fl_ob sc_344) rfl rfl rfl rfl rfl (by omega) (by omega) ?_
            intro f105_ l106_ h107_ h108_
            show fl_R xi_ms 59 f105_ l106_ 0 [(0, .ref 344)] [] _ _
            refine ga_aload_n (v := .ref 344) hm_59 rfl rfl rfl ?_
            refine ga_geti (z := F82_ 344 9) hm_59 rfl sc_344 rfl (rfl) ?_
            refine fl_if_le (a := F82_ 344 9) hm_59 rfl ⟨by omega, by omega⟩ (fun h109_ => ?_) (fun h110_ => ?_)
            · exfalso; omega
            refine fl_iconst hm_59 rfl ?_
            refine fl_goto hm_59 rfl ?_
            refine gr_i hm_59 rfl rfl (ga_nb (by omega)) ?_
            refine fl_if_eq hm_61 rfl ⟨by omega, by omega⟩ (fun h => absurd h (by omega)) (fun _ => ?_)
            refine fl_iconst hm_61 rfl ?_
            refine fl_goto hm_61 rfl ?_
            refine ga_iadd (a := F1 344 5) (b := 0) (c := F1 344 5) hm_61 rfl (by omega) ?_
            refine ga_puti (z := F1 344 5) hm_61 rfl sc_344 rfl rfl ?_
            refine gr_v hm_61 rfl rfl ?_
            refine ga_aload_n (v := .ref 344) hm_188 rfl rfl rfl ?_
            refine gIi (nY := 1) (F := 0) (L := 0) (As := []) (b := 344) (rest := []) hm_188 rfl hm_59 rfl rfl (fl_ob sc_344) rfl rfl rfl rfl rfl (by omega) (by omega) ?_
            intro f111_ l112_ h113_ h114_
            show fl_R xi_ms 59 f111_ l112_ 0 [(0, .ref 344)] [] _ _
            refine ga_aload_n (v := .ref 344) hm_59 rfl rfl rfl ?_
            refine ga_geti (z := F82_ 344 9) hm_59 rfl sc_344 rfl (fl_u_ne (by omega)) ?_
            refine fl_if_le (a := F82_ 344 9) hm_59 rfl ⟨by omega, by omega⟩ (fun h115_ => ?_) (fun h116_ => ?_)
            · exfalso; omega
            refine fl_iconst hm_59 rfl ?_
            refine fl_goto hm_59 rfl ?_
            refine gr_i hm_59 rfl rfl (ga_nb (by omega)) ?_
            refine fl_if_eq hm_188 rfl ⟨by omega, by omega⟩ (fun h => absurd h (by omega)) (fun _ => ?_)
            refine ga_iload (z := n) hm_188 rfl rfl ?_
            obtain ⟨F117_, q118_⟩ : ∃ F9_, F9_ = (fl_u F82_ 344 5 (F1 344 5)) := ⟨_, rfl⟩
            rw [← q118_]
            have g119_ : gi F117_ := by rw [q118_]; exact gi_u (g83_) rfl (by omega) (by omega)
            have g120_ : fs [(344, 344, 5, 5), (344, 344, 9, 10), (355, 356, 0, 100000)] F F117_ := by rw [q118_]; exact fs_u (g85_) rfl
            have rk121_ : rk K F117_ := by rw [q118_]; exact rk_u (rk86_) (by omega) (by omega)
            refine gr_i (z := n) hm_188 rfl rfl rfl ?_
            have e122_ : F117_ 344 9 = F82_ 344 9 := by rw [q118_]; exact fl_u_ne (by omega)
            have e123_ : F117_ 344 10 = F82_ 344 10 := by rw [q118_]; exact fl_u_ne (by omega)
            have e124_ : F117_ 344 5 = F1 344 5 := by rw [q118_]; exact fl_u_eq
            have b125_ : 0 ≤ F82_ 344 10 ∧ F82_ 344 10 ≤ 600 := gi_g g83_ rfl
            have b126_ : 0 ≤ F 344 10 ∧ F 344 10 ≤ 600 := gi_g hgi rfl
            have b127_ : 0 ≤ F 344 5 ∧ F 344 5 ≤ 600 := gi_g hgi rfl
            exact Or.inl ⟨F117_, rfl, g119_, g120_, (by omega), (⟨by intro h0_; have hs_ := c80_.1 (by omega); rw [hsp, sp1_f1 (by omega) (fun h8_ => c74_ ⟨by omega, h8_⟩)]; congr 2 <;> omega, fun h0_ => by exfalso; omega⟩), (by omega), (by omega)⟩
          subst hA_
          subst hz_
          refine fl_if_ne hm_188 rfl ⟨by omega, by omega⟩ (fun _ => ?_) (fun h => absurd (by omega) h)
          refine ga_aload_n (v := .ref 344) hm_188 rfl rfl rfl ?_
          refine gIi (nY := 1) (F := 0) (L := 0) (As := []) (b := 344) (rest := []) hm_188 rfl hm_59 rfl rfl (fl_ob sc_344) rfl rfl rfl rfl rfl (by omega) (by omega) ?_
          intro f128_ l129_ h130_ h131_
          show fl_R xi_ms 59 f128_ l129_ 0 [(0, .ref 344)] [] _ _
          refine ga_aload_n (v := .ref 344) hm_59 rfl rfl rfl ?_
          refine ga_geti (z := F1 344 9) hm_59 rfl sc_344 rfl (rfl) ?_
          refine fl_if_le (a := F1 344 9) hm_59 rfl ⟨by omega, by omega⟩ (fun h132_ => ?_) (fun h133_ => ?_)
          ·
            refine fl_iconst hm_59 rfl ?_
            refine gr_i hm_59 rfl rfl (ga_nb (by omega)) ?_
            refine fl_if_eq hm_188 rfl ⟨by omega, by omega⟩ (fun _ => ?_) (fun h => absurd (by omega) h)
            refine ga_aload_n (v := .ref 344) hm_188 rfl rfl rfl ?_
            refine fl_iconst hm_188 rfl ?_
            refine gVl (nY := 7) (F := 1) (L := 20) (As := [.int (Int32.ofInt 1)]) (b := 344) (rest := []) hm_188 rfl hm_60 rfl rfl (fl_ob sc_344) rfl rfl rfl rfl rfl (by omega) (by omega) (mc_60 hG F1 X hg_F1 (K) (1) hgK rk8_ hkt (by omega) (by omega)) (fun _ _ h => False.elim h) ?_
            rintro z134_ A1_ ⟨hA_, c135_, c136_⟩
            subst hA_
            have hvr := (tk_var hkt hgK (p := F1 344 5) (by omega) (by omega)).1 c75_.2
            refine ga_lstore (lv2 := [(6, .long (Int64.ofInt z134_)), (5, .int (Int32.ofInt n)), (0, .ref 344), (1, .int (Int32.ofInt mo)), (2, .ref 356), (3, .ref 355), (4, .int (Int32.ofInt at_))]) hm_188 rfl (Nat.le_of_ble_eq_true rfl) rfl ?_
            refine ga_aload_n (v := .ref 344) hm_188 rfl rfl rfl ?_
            refine gIi (nY := 1) (F := 0) (L := 0) (As := []) (b := 344) (rest := []) hm_188 rfl hm_59 rfl rfl (fl_ob sc_344) rfl rfl rfl rfl rfl (by omega) (by omega) ?_
            intro f137_ l138_ h139_ h140_
            show fl_R xi_ms 59 f137_ l138_ 0 [(0, .ref 344)] [] _ _
            refine ga_aload_n (v := .ref 344) hm_59 rfl rfl rfl ?_
            refine ga_geti (z := F1 344 9) hm_59 rfl sc_344 rfl (rfl) ?_
            refine fl_if_le (a := F1 344 9) hm_59 rfl ⟨by omega, by omega⟩ (fun h141_ => ?_) (fun h142_ => ?_)
            ·
              refine fl_iconst hm_59 rfl ?_
              refine gr_i hm_59 rfl rfl (ga_nb (by omega)) ?_
              refine fl_if_ne hm_188 rfl ⟨by omega, by omega⟩ (fun h => absurd h (by omega)) (fun _ => ?_)
              refine ga_aload_n (v := .ref 356) hm_188 rfl rfl rfl ?_
              refine ga_iload (z := at_) hm_188 rfl rfl ?_
              refine ga_iload (z := n) hm_188 rfl rfl ?_
              refine ga_lload (z := z134_) hm_188 rfl rfl ?_
              refine gSi (nY := 7) (F := 0) (L := 0) (As := [.ref 356, .int (Int32.ofInt at_), .int (Int32.ofInt n), .long (Int64.ofInt z134_)]) (rest := []) hm_188 rfl hm_162 rfl rfl (fl_pos sc_0) rfl rfl rfl rfl (by omega) (by omega) (mc_162 hG F1 X hg_F1 (356) (15) (at_) (n) (z134_) sc_356 (fun _ => rfl) (by omega) (by omega))  ?_
              rintro z143_ A1_ ⟨hA_, c144_, c145_, c146_⟩
              subst hA_
              refine fl_iconst hm_188 rfl ?_
              refine fl_icmp_eq (a := z143_) (b := -1) hm_188 rfl ⟨by omega, by omega⟩ ⟨by omega, by omega⟩ (fun h147_ => ?_) (fun h148_ => ?_)
              ·
                refine ga_aload_n (v := .ref 344) hm_188 rfl rfl rfl ?_
                refine gIv (nY := 1) (F := 1) (L := 20) (As := []) (b := 344) (rest := []) hm_188 rfl hm_61 rfl rfl (fl_ob sc_344) rfl rfl rfl rfl rfl (by omega) (by omega) ?_
                intro f149_ l150_ h151_ h152_
                show fl_R xi_ms 61 f149_ l150_ 0 [(0, .ref 344)] [] _ _
                refine ga_aload_n (v := .ref 344) hm_61 rfl rfl rfl ?_
                refine ga_dup hm_61 rfl rfl ?_
                refine ga_geti (z := F1 344 5) hm_61 rfl sc_344 rfl (rfl) ?_
                refine ga_aload_n (v := .ref 344) hm_61 rfl rfl rfl ?_
                refine gIi (nY := 1) (F := 0) (L := 0) (As := []) (b := 344) (rest := [.int (Int32.ofInt (F1 344 5)), .ref 344]) hm_61 rfl hm_59 rfl rfl (fl_ob sc_344) rfl rfl rfl rfl rfl (by omega) (by omega) ?_
                intro f153_ l154_ h155_ h156_
                show fl_R xi_ms 59 f153_ l154_ 0 [(0, .ref 344)] [] _ _
                refine ga_aload_n (v := .ref 344) hm_59 rfl rfl rfl ?_
                refine ga_geti (z := F1 344 9) hm_59 rfl sc_344 rfl (rfl) ?_
                refine fl_if_le (a := F1 344 9) hm_59 rfl ⟨by omega, by omega⟩ (fun h157_ => ?_) (fun h158_ => ?_)
                ·
                  refine fl_iconst hm_59 rfl ?_
                  refine gr_i hm_59 rfl rfl (ga_nb (by omega)) ?_
                  refine fl_if_eq hm_61 rfl ⟨by omega, by omega⟩ (fun _ => ?_) (fun h => absurd (by omega) h)
                  refine fl_iconst hm_61 rfl ?_
                  refine ga_iadd (a := F1 344 5) (b := 1) (c := F1 344 5 + 1) hm_61 rfl (by omega) ?_
                  refine ga_puti (z := F1 344 5 + 1) hm_61 rfl sc_344 rfl rfl ?_
                  refine gr_v hm_61 rfl rfl ?_
                  refine ga_aload_n (v := .ref 344) hm_188 rfl rfl rfl ?_
                  refine gIi (nY := 1) (F := 0) (L := 0) (As := []) (b := 344) (rest := []) hm_188 rfl hm_59 rfl rfl (fl_ob sc_344) rfl rfl rfl rfl rfl (by omega) (by omega) ?_
                  intro f159_ l160_ h161_ h162_
                  show fl_R xi_ms 59 f159_ l160_ 0 [(0, .ref 344)] [] _ _
                  refine ga_aload_n (v := .ref 344) hm_59 rfl rfl rfl ?_
                  refine ga_geti (z := F1 344 9) hm_59 rfl sc_344 rfl (fl_u_ne (by omega)) ?_
                  refine fl_if_le (a := F1 344 9) hm_59 rfl ⟨by omega, by omega⟩ (fun h163_ => ?_) (fun h164_ => ?_)
                  ·
                    refine fl_iconst hm_59 rfl ?_
                    refine gr_i hm_59 rfl rfl (ga_nb (by omega)) ?_
                    refine fl_if_eq hm_188 rfl ⟨by omega, by omega⟩ (fun _ => ?_) (fun h => absurd (by omega) h)
                    refine ga_aload_n (v := .ref 356) hm_188 rfl rfl rfl ?_
                    refine ga_iload (z := at_) hm_188 rfl rfl ?_
                    refine ga_iload (z := n) hm_188 rfl rfl ?_
                    refine ga_iadd (a := at_) (b := n) (c := at_ + n) hm_188 rfl (by omega) ?_
                    refine ga_lload (z := z134_) hm_188 rfl rfl ?_
                    refine fl_last (z := at_ + n) (v := z134_) hm_188 rfl sc_356 (by omega) (by omega) (by omega) ?_
                    refine ga_aload_n (v := .ref 355) hm_188 rfl rfl rfl ?_
                    refine ga_iload (z := at_) hm_188 rfl rfl ?_
                    refine ga_iload (z := n) hm_188 rfl rfl ?_
                    refine ga_iadd (a := at_) (b := n) (c := at_ + n) hm_188 rfl (by omega) ?_
                    refine ga_aload_n (v := .ref 344) hm_188 rfl rfl rfl ?_
                    obtain ⟨F165_, q166_⟩ : ∃ F9_, F9_ = (fl_u (fl_u F1 344 5 (F1 344 5 + 1)) 356 (at_ + n).toNat z134_) := ⟨_, rfl⟩
                    rw [← q166_]
                    have g167_ : gi F165_ := by rw [q166_]; exact gi_u (gi_u (hg_F1) rfl (by omega) (by omega)) rfl (by omega) (by omega)
                    have g168_ : fs [(344, 344, 5, 5), (344, 344, 9, 10), (355, 356, 0, 100000)] F F165_ := by rw [q166_]; exact fs_u (fs_u (g7_) rfl) (fs_z (fs_z (fs_y (by omega))))
                    have rk169_ : rk K F165_ := by rw [q166_]; exact rk_u (rk_u (rk8_) (by omega) (by omega)) (by omega) (by omega)
                    have e170_ : F165_ 344 5 = F1 344 5 + 1 := by rw [q166_]; exact (fl_u_ne (by omega)).trans (fl_u_eq)
                    refine gVi (nY := 2) (F := 3) (L := 68) (As := []) (b := 344) (rest := [.int (Int32.ofInt (at_ + n)), .ref 355]) hm_188 rfl hm_186 rfl rfl (fl_ob sc_344) rfl rfl rfl rfl rfl (by omega) (by omega) (mc_186 hG F165_ X g167_ (K) (ts) hgK rk169_ hkt (by omega) ((by rw [q166_]; exact (rpn_u (rpn_u (rpn_fs hts hf_F1 (fun _ => (fs_n (by omega) (fs_n (by omega) (fs_n (by omega) rfl)))) (fs_n (by omega) (fs_n (by omega) (fs_n (by omega) rfl)))) (by omega) (by omega)) (by omega) (by omega))))) (fun _ _ h => False.elim h) ?_
                    have e172_ : F165_ 344 10 = F1 344 10 := by rw [q166_]; exact (fl_u_ne (by omega)).trans (fl_u_ne (by omega))
                    have b173_ : 0 ≤ F1 344 10 ∧ F1 344 10 ≤ 600 := gi_g hg_F1 rfl
                    have e174_ : F165_ 344 9 = F1 344 9 := by rw [q166_]; exact (fl_u_ne (by omega)).trans (fl_u_ne (by omega))
                    rintro z171_ A1_ (⟨F179_, hA_, g180_, s181_, c175_, c176_, c177_, c178_⟩ | ⟨F186_, hA_, g187_, s188_, c182_, c183_, c184_, c185_⟩)
                    ·
                      subst hA_
                      have g189_ : fs [(344, 344, 5, 5), (344, 344, 9, 10), (355, 356, 0, 100000)] F F179_ := fs_tr g168_ s181_ rfl
                      have rk190_ : rk K F179_ := rk_fs rk169_ s181_ (fun r k h => (fs_n (by omega) (fs_n (by omega) rfl))) (fs_n (by omega) (fs_n (by omega) rfl))
                      try simp only [e170_, e172_, e174_] at c176_
                      have hP191_ := rkt_p hkt (p := F1 344 5 + 1) (by omega) (by omega) hgK
                      have hP192_ := rkt_p hkt (p := F179_ 344 5) (by omega) (by omega) hgK
                      refine fl_iast (z := at_ + n) (v := z171_) hm_188 rfl sc_355 (by omega) (by omega) (by omega) ?_
                      refine ga_inc (a := n) (c := n + 1) (lv2 := [(5, .int (Int32.ofInt (n + 1))), (6, .long (Int64.ofInt z134_)), (0, .ref 344), (1, .int (Int32.ofInt mo)), (2, .ref 356), (3, .ref 355), (4, .int (Int32.ofInt at_))]) hm_188 rfl rfl (Nat.le_of_ble_eq_true rfl) rfl rfl ?_
                      refine fl_goto hm_188 rfl ?_
                      refine ga_aload_n (v := .ref 344) hm_188 rfl rfl rfl ?_
                      refine gIi (nY := 1) (F := 0) (L := 0) (As := []) (b := 344) (rest := []) hm_188 rfl hm_59 rfl rfl (fl_ob sc_344) rfl rfl rfl rfl rfl (by omega) (by omega) ?_
                      intro f193_ l194_ h195_ h196_
                      show fl_R xi_ms 59 f193_ l194_ 0 [(0, .ref 344)] [] _ _
                      refine ga_aload_n (v := .ref 344) hm_59 rfl rfl rfl ?_
                      have b197_ : 0 ≤ F179_ 344 9 ∧ F179_ 344 9 ≤ 5 := gi_g g180_ rfl
                      refine ga_geti (z := F179_ 344 9) hm_59 rfl sc_344 rfl (fl_u_ne (by omega)) ?_
                      refine fl_if_le (a := F179_ 344 9) hm_59 rfl ⟨by omega, by omega⟩ (fun h198_ => ?_) (fun h199_ => ?_)
                      · exfalso; omega
                      refine fl_iconst hm_59 rfl ?_
                      refine fl_goto hm_59 rfl ?_
                      refine gr_i hm_59 rfl rfl (ga_nb (by omega)) ?_
                      refine fl_if_ne hm_188 rfl ⟨by omega, by omega⟩ (fun _ => ?_) (fun h => absurd (by omega) h)
                      refine ga_iload (z := n + 1) hm_188 rfl rfl ?_
                      obtain ⟨F200_, q201_⟩ : ∃ F9_, F9_ = (fl_u F179_ 355 (at_ + n).toNat z171_) := ⟨_, rfl⟩
                      rw [← q201_]
                      have g202_ : gi F200_ := by rw [q201_]; exact gi_u (g180_) rfl (by omega) (by omega)
                      have g203_ : fs [(344, 344, 5, 5), (344, 344, 9, 10), (355, 356, 0, 100000)] F F200_ := by rw [q201_]; exact fs_u (g189_) (fs_z (fs_z (fs_y (by omega))))
                      have rk204_ : rk K F200_ := by rw [q201_]; exact rk_u (rk190_) (by omega) (by omega)
                      refine gr_i (z := n + 1) hm_188 rfl rfl rfl ?_
                      have e205_ : F200_ 344 9 = F179_ 344 9 := by rw [q201_]; exact fl_u_ne (by omega)
                      have e206_ : F200_ 344 10 = F179_ 344 10 := by rw [q201_]; exact fl_u_ne (by omega)
                      have e207_ : F200_ 344 5 = F179_ 344 5 := by rw [q201_]; exact fl_u_ne (by omega)
                      have b208_ : 0 ≤ F179_ 344 10 ∧ F179_ 344 10 ≤ 600 := gi_g g180_ rfl
                      have b209_ : 0 ≤ F 344 10 ∧ F 344 10 ≤ 600 := gi_g hgi rfl
                      have b210_ : 0 ≤ F 344 5 ∧ F 344 5 ≤ 600 := gi_g hgi rfl
                      have b211_ : 0 ≤ F179_ 344 5 ∧ F179_ 344 5 ≤ 600 := gi_g g180_ rfl
                      exact Or.inl ⟨F200_, rfl, g202_, g203_, (by omega), (⟨by intro h0_; have hs_ := c176_.1 (by omega); rw [hsp, sp1_rt (by omega) (by omega) (by rw [(ra_fa hsc (show nrel (K 6 (F1 344 5).toNat) z134_ by rw [c135_, if_pos (by omega)]; exact hvr.2) c144_ c145_ c146_ rfl)]; omega) (by omega), rt_er hs_]; congr 2 <;> omega, fun h0_ => by exfalso; omega⟩), (by omega), (by omega)⟩
                    subst hA_
                    have g212_ : fs [(344, 344, 5, 5), (344, 344, 9, 10), (355, 356, 0, 100000)] F F186_ := fs_tr g168_ s188_ rfl
                    have rk213_ : rk K F186_ := rk_fs rk169_ s188_ (fun r k h => (fs_n (by omega) (fs_n (by omega) rfl))) (fs_n (by omega) (fs_n (by omega) rfl))
                    try simp only [e174_] at c182_
                    try simp only [e170_] at c183_
                    have hP214_ := rkt_p hkt (p := F1 344 5 + 1) (by omega) (by omega) hgK
                    have hP215_ := rkt_p hkt (p := F186_ 344 5) (by omega) (by omega) hgK
                    refine fl_iast (z := at_ + n) (v := z171_) hm_188 rfl sc_355 (by omega) (by omega) (by omega) ?_
                    refine ga_inc (a := n) (c := n + 1) (lv2 := [(5, .int (Int32.ofInt (n + 1))), (6, .long (Int64.ofInt z134_)), (0, .ref 344), (1, .int (Int32.ofInt mo)), (2, .ref 356), (3, .ref 355), (4, .int (Int32.ofInt at_))]) hm_188 rfl rfl (Nat.le_of_ble_eq_true rfl) rfl rfl ?_
                    refine fl_goto hm_188 rfl ?_
                    obtain ⟨F216_, q217_⟩ : ∃ F9_, F9_ = (fl_u F186_ 355 (at_ + n).toNat z171_) := ⟨_, rfl⟩
                    rw [← q217_]
                    have g218_ : gi F216_ := by rw [q217_]; exact gi_u (g187_) rfl (by omega) (by omega)
                    have g219_ : fs [(344, 344, 5, 5), (344, 344, 9, 10), (355, 356, 0, 100000)] F F216_ := by rw [q217_]; exact fs_u (g212_) (fs_z (fs_z (fs_y (by omega))))
                    have rk220_ : rk K F216_ := by rw [q217_]; exact rk_u (rk213_) (by omega) (by omega)
                    have e221_ : F216_ 344 9 = F186_ 344 9 := by rw [q217_]; exact fl_u_ne (by omega)
                    have b222_ : 0 ≤ F186_ 344 9 ∧ F186_ 344 9 ≤ 5 := gi_g g187_ rfl
                    have e223_ : F216_ 344 5 = F186_ 344 5 := by rw [q217_]; exact fl_u_ne (by omega)
                    have b224_ : 0 ≤ F186_ 344 5 ∧ F186_ 344 5 ≤ 600 := gi_g g187_ rfl
                    have b225_ : 0 ≤ K 1 6 ∧ K 1 6 ≤ 601 := gi_g hgK rfl
                    have b226_ : 0 ≤ F 344 5 ∧ F 344 5 ≤ 600 := gi_g hgi rfl
                    have e227_ : F165_ 356 (at_ + n).toNat = z134_ := by rw [q166_]; exact fl_u_eq
                    have e228_ : F186_ 356 (at_ + n).toNat = z134_ := (s188_ 356 (at_ + n).toNat (fs_n (by omega) (fs_n (by omega) rfl))).trans (e227_)
                    have e229_ : F216_ 356 (at_ + n).toNat = z134_ := by rw [q217_]; exact (fl_u_ne (by omega)).trans (e228_)
                    exact fl_R_sub (lv' := [(5, .int (Int32.ofInt (n + 1))), (0, .ref 344), (1, .int (Int32.ofInt mo)), (2, .ref 356), (3, .ref 355), (4, .int (Int32.ofInt at_))]) rfl rfl (ih5_ _ (by omega) (n + 1) (_) (_) F216_ rfl g218_ (by rw [q217_]; exact fs_u ((fs_tr (by rw [q166_]; exact fs_u (fs_u (hf_F1) rfl) (fs_z (fs_z (fs_y (by omega))))) s188_ rfl)) (fs_z (fs_z (fs_y (by omega))))) (by omega) (by simp only [List.length_append, List.length_singleton]; omega) (rpn_at hsc (fun j hj => (Eq.trans (a := F216_ 356 (at_.toNat + j)) (b := F186_ 356 (at_.toNat + j)) (by rw [q217_]; exact (fl_u_ne (by omega))) (Eq.trans (a := F186_ 356 (at_.toNat + j)) (b := F165_ 356 (at_.toNat + j)) (s188_ 356 (at_.toNat + j) (fs_n (by omega) (fs_n (by omega) rfl))) (show F165_ 356 (at_.toNat + j) = F1 356 (at_.toNat + j) from (by rw [q166_]; exact (fl_u_ne (by omega)).trans ((fl_u_ne (by omega)))))))) (by show F216_ 356 (at_.toNat + n.toNat) = _; rw [show at_.toNat + n.toNat = (at_ + n).toNat by omega]; exact e229_) (show nrel (K 6 (F1 344 5).toNat) z134_ by rw [c135_, if_pos (by omega)]; exact hvr.2)) (rty_snoc (t := z171_ - 1) hty (fun j hj => (Eq.trans (a := F216_ 355 (at_.toNat + j)) (b := F186_ 355 (at_.toNat + j)) (by rw [q217_]; exact (fl_u_ne (by omega))) (Eq.trans (a := F186_ 355 (at_.toNat + j)) (b := F165_ 355 (at_.toNat + j)) (s188_ 355 (at_.toNat + j) (fs_n (by omega) (fs_n (by omega) rfl))) (show F165_ 355 (at_.toNat + j) = F1 355 (at_.toNat + j) from (by rw [q166_]; exact (fl_u_ne (by omega)).trans ((fl_u_ne (by omega)))))))) (by rw [q217_, show at_.toNat + tl.length = (at_ + n).toNat by omega]; exact (fl_u_eq).trans (by omega))) (by omega) (by rw [hsp, sp1_rt (by omega) (by omega) (by rw [(ra_fa hsc (show nrel (K 6 (F1 344 5).toNat) z134_ by rw [c135_, if_pos (by omega)]; exact hvr.2) c144_ c145_ c146_ rfl)]; omega) (by omega), rt_eq c183_]; congr 1 <;> first | (simp only [List.length_append, List.length_singleton]; omega) | (show F186_ 344 5 = _; omega) | rfl))
                  exfalso; omega
                exfalso; omega
              refine ga_aload_n (v := .ref 344) hm_188 rfl rfl rfl ?_
              refine fl_iconst hm_188 rfl ?_
              refine gVv (nY := 2) (F := 0) (L := 0) (As := [.int (Int32.ofInt 2)]) (b := 344) (rest := []) hm_188 rfl hm_54 rfl rfl (fl_ob sc_344) rfl rfl rfl rfl rfl (by omega) (by omega) (mc_54 hG F1 X hg_F1 (K) (2) hgK rk8_ hkt (by omega) (by omega)) (fun _ _ h => False.elim h) ?_
              have b231_ : 0 ≤ F1 344 10 ∧ F1 344 10 ≤ 600 := gi_g hg_F1 rfl
              rintro A1_ ⟨F235_, hA_, g236_, s237_, c232_, c233_, c234_⟩
              subst hA_
              have g238_ : fs [(344, 344, 5, 5), (344, 344, 9, 10), (355, 356, 0, 100000)] F F235_ := fs_tr g7_ s237_ rfl
              have rk239_ : rk K F235_ := rk_fs rk8_ s237_ (fun r k h => (fs_n (by omega) rfl)) (fs_n (by omega) rfl)
              refine ga_aload_n (v := .ref 344) hm_188 rfl rfl rfl ?_
              refine gIv (nY := 1) (F := 1) (L := 20) (As := []) (b := 344) (rest := []) hm_188 rfl hm_61 rfl rfl (fl_ob sc_344) rfl rfl rfl rfl rfl (by omega) (by omega) ?_
              intro f240_ l241_ h242_ h243_
              show fl_R xi_ms 61 f240_ l241_ 0 [(0, .ref 344)] [] _ _
              refine ga_aload_n (v := .ref 344) hm_61 rfl rfl rfl ?_
              refine ga_dup hm_61 rfl rfl ?_
              have e244_ : F235_ 344 5 = F1 344 5 := (s237_ 344 5 rfl).trans (rfl)
              refine ga_geti (z := F1 344 5) hm_61 rfl sc_344 rfl (e244_) ?_
              refine ga_aload_n (v := .ref 344) hm_61 rfl rfl rfl ?_
              refine gIi (nY := 1) (F := 0) (L := 0) (As := []) (b := 344) (rest := [.int (Int32.ofInt (F1 344 5)), .ref 344]) hm_61 rfl hm_59 rfl rfl (fl_ob sc_344) rfl rfl rfl rfl rfl (by omega) (by omega) ?_
              intro f245_ l246_ h247_ h248_
              show fl_R xi_ms 59 f245_ l246_ 0 [(0, .ref 344)] [] _ _
              refine ga_aload_n (v := .ref 344) hm_59 rfl rfl rfl ?_
              have b249_ : 0 ≤ F235_ 344 9 ∧ F235_ 344 9 ≤ 5 := gi_g g236_ rfl
              refine ga_geti (z := F235_ 344 9) hm_59 rfl sc_344 rfl (rfl) ?_
              refine fl_if_le (a := F235_ 344 9) hm_59 rfl ⟨by omega, by omega⟩ (fun h250_ => ?_) (fun h251_ => ?_)
              · exfalso; omega
              refine fl_iconst hm_59 rfl ?_
              refine fl_goto hm_59 rfl ?_
              refine gr_i hm_59 rfl rfl (ga_nb (by omega)) ?_
              refine fl_if_eq hm_61 rfl ⟨by omega, by omega⟩ (fun h => absurd h (by omega)) (fun _ => ?_)
              refine fl_iconst hm_61 rfl ?_
              refine fl_goto hm_61 rfl ?_
              refine ga_iadd (a := F1 344 5) (b := 0) (c := F1 344 5) hm_61 rfl (by omega) ?_
              refine ga_puti (z := F1 344 5) hm_61 rfl sc_344 rfl rfl ?_
              refine gr_v hm_61 rfl rfl ?_
              refine ga_aload_n (v := .ref 344) hm_188 rfl rfl rfl ?_
              refine gIi (nY := 1) (F := 0) (L := 0) (As := []) (b := 344) (rest := []) hm_188 rfl hm_59 rfl rfl (fl_ob sc_344) rfl rfl rfl rfl rfl (by omega) (by omega) ?_
              intro f252_ l253_ h254_ h255_
              show fl_R xi_ms 59 f252_ l253_ 0 [(0, .ref 344)] [] _ _
              refine ga_aload_n (v := .ref 344) hm_59 rfl rfl rfl ?_
              refine ga_geti (z := F235_ 344 9) hm_59 rfl sc_344 rfl (fl_u_ne (by omega)) ?_
              refine fl_if_le (a := F235_ 344 9) hm_59 rfl ⟨by omega, by omega⟩ (fun h256_ => ?_) (fun h257_ => ?_)
              · exfalso; omega
              refine fl_iconst hm_59 rfl ?_
              refine fl_goto hm_59 rfl ?_
              refine gr_i hm_59 rfl rfl (ga_nb (by omega)) ?_
              refine fl_if_eq hm_188 rfl ⟨by omega, by omega⟩ (fun h => absurd h (by omega)) (fun _ => ?_)
              refine ga_iload (z := n) hm_188 rfl rfl ?_
              obtain ⟨F258_, q259_⟩ : ∃ F9_, F9_ = (fl_u F235_ 344 5 (F1 344 5)) := ⟨_, rfl⟩
              rw [← q259_]
              have g260_ : gi F258_ := by rw [q259_]; exact gi_u (g236_) rfl (by omega) (by omega)
              have g261_ : fs [(344, 344, 5, 5), (344, 344, 9, 10), (355, 356, 0, 100000)] F F258_ := by rw [q259_]; exact fs_u (g238_) rfl
              have rk262_ : rk K F258_ := by rw [q259_]; exact rk_u (rk239_) (by omega) (by omega)
              refine gr_i (z := n) hm_188 rfl rfl rfl ?_
              have e263_ : F258_ 344 9 = F235_ 344 9 := by rw [q259_]; exact fl_u_ne (by omega)
              have e264_ : F258_ 344 10 = F235_ 344 10 := by rw [q259_]; exact fl_u_ne (by omega)
              have e265_ : F258_ 344 5 = F1 344 5 := by rw [q259_]; exact fl_u_eq
              have b266_ : 0 ≤ F235_ 344 10 ∧ F235_ 344 10 ≤ 600 := gi_g g236_ rfl
              have b267_ : 0 ≤ F 344 10 ∧ F 344 10 ≤ 600 := gi_g hgi rfl
              have b268_ : 0 ≤ F 344 5 ∧ F 344 5 ≤ 600 := gi_g hgi rfl
              exact Or.inl ⟨F258_, rfl, g260_, g261_, (by omega), (⟨by intro h0_; have hs_ := c233_.1 (by omega); rw [hsp, sp1_f2 (by omega) (by omega) (by rw [(ra_fa hsc (show nrel (K 6 (F1 344 5).toNat) z134_ by rw [c135_, if_pos (by omega)]; exact hvr.2) c144_ c145_ c146_ rfl)]; omega)]; congr 2 <;> omega, fun h0_ => by exfalso; omega⟩), (by omega), (by omega)⟩
            exfalso; omega
          exfalso; omega
        subst hA_
        subst hz_
        refine fl_if_ne hm_188 rfl ⟨by omega, by omega⟩ (fun _ => ?_) (fun h => absurd (by omega) h)
        refine ga_iload (z := n) hm_188 rfl rfl ?_
        refine gr_i (z := n) hm_188 rfl rfl rfl ?_
        have b269_ : 0 ≤ F 344 5 ∧ F 344 5 ≤ 600 := gi_g hgi rfl
        exact Or.inr (⟨F1, rfl, hg_F1, g7_, (by omega), (⟨l, tl, ⟨by rw [hsp, sp1_e (by omega)], by omega⟩, ⟨by omega, by omega⟩, hty, hsc⟩), (by omega), (by omega)⟩)
      exfalso; omega
    have b270_ : 0 ≤ F 344 5 ∧ F 344 5 ≤ 600 := gi_g hgi rfl
    have b271_ : 0 ≤ K 1 6 ∧ K 1 6 ≤ 601 := gi_g hgK rfl
    exact L4_ _ (0) ([]) ([]) F rfl hgi fs_refl (by omega) (by simp) (⟨rfl, fun j x hx => by simp at hx⟩) (fun j x hx => by simp at hx) (by omega) (rfl)
  refine fl_iconst hm_188 rfl ?_
  refine ga_istore (lv2 := [(5, .int (Int32.ofInt 0)), (0, .ref 344), (1, .int (Int32.ofInt mo)), (2, .ref 356), (3, .ref 355), (4, .int (Int32.ofInt at_))]) hm_188 rfl (Nat.le_of_ble_eq_true rfl) rfl ?_
  refine ga_aload_n (v := .ref 344) hm_188 rfl rfl rfl ?_
  refine gIi (nY := 1) (F := 0) (L := 0) (As := []) (b := 344) (rest := []) hm_188 rfl hm_59 rfl rfl (fl_ob sc_344) rfl rfl rfl rfl rfl (by omega) (by omega) ?_
  intro f272_ l273_ h274_ h275_
  show fl_R xi_ms 59 f272_ l273_ 0 [(0, .ref 344)] [] _ _
  refine ga_aload_n (v := .ref 344) hm_59 rfl rfl rfl ?_
  refine ga_geti (z := F 344 9) hm_59 rfl sc_344 rfl (rfl) ?_
  refine fl_if_le (a := F 344 9) hm_59 rfl ⟨by omega, by omega⟩ (fun h276_ => ?_) (fun h277_ => ?_)
  · exfalso; omega
  refine fl_iconst hm_59 rfl ?_
  refine fl_goto hm_59 rfl ?_
  refine gr_i hm_59 rfl rfl (ga_nb (by omega)) ?_
  refine fl_if_ne hm_188 rfl ⟨by omega, by omega⟩ (fun _ => ?_) (fun h => absurd (by omega) h)
  refine ga_iload (z := 0) hm_188 rfl rfl ?_
  refine gr_i (z := 0) hm_188 rfl rfl rfl ?_
  have b278_ : 0 ≤ F 344 10 ∧ F 344 10 ≤ 600 := gi_g hgi rfl
  have b279_ : 0 ≤ F 344 5 ∧ F 344 5 ≤ 600 := gi_g hgi rfl
  exact Or.inl ⟨F, rfl, hgi, fs_refl, (by omega), (⟨fun h0_ => by exfalso; omega, fun h0_ => by constructor <;> omega⟩), (by omega), (by omega)⟩

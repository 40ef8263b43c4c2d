theorem wm_step {f : Nat → Int} {w : List Int} {s i : Int} (h : ∀ q : Nat, (q : Int) < i → f (s.toNat + q) = w.getD q 0) (hi : 0 ≤ i) (he : f (s + i).toNat = w.getD i.toNat 0) (hs : 0 ≤ s) : ∀ q : Nat, (q : Int) < i + 1 → f (s.toNat + q) = w.getD q 0 := by
  intro q hq
  by_cases e : (q : Int) < i
  · exact h q e
  · have e2 : q = i.toNat := by omega
    subst e2
    rw [← he]
    congr 1
    omega
theorem na_l {F : fl_N} {a : Nat} {c : Int} {l : List Int} (h : rep (F (a + 1)) (F a 2) l) : rep ((fl_u (fl_u (fl_u F (a + 1) (F a 2).toNat c) (a + 2) (F a 2).toNat (-1)) a 2 (F a 2 + 1)) (a + 1)) ((fl_u (fl_u (fl_u F (a + 1) (F a 2).toNat c) (a + 2) (F a 2).toNat (-1)) a 2 (F a 2 + 1)) a 2) (l ++ [c]) := by
  have e : (fl_u (fl_u (fl_u F (a + 1) (F a 2).toNat c) (a + 2) (F a 2).toNat (-1)) a 2 (F a 2 + 1)) a 2 = F a 2 + 1 := fl_u_eq
  rw [e]
  refine rep_snoc h (fun j => ?_)
  rw [fl_u_ne (by omega), fl_u_ne (by omega)]
  simp [fl_u]
theorem na_t {F : fl_N} {a : Nat} {c : Int} {l : List Int} (h : rep (F (a + 2)) (F a 2) l) : rep ((fl_u (fl_u (fl_u F (a + 1) (F a 2).toNat c) (a + 2) (F a 2).toNat (-1)) a 2 (F a 2 + 1)) (a + 2)) ((fl_u (fl_u (fl_u F (a + 1) (F a 2).toNat c) (a + 2) (F a 2).toNat (-1)) a 2 (F a 2 + 1)) a 2) (l ++ [-1]) := by
  have e : (fl_u (fl_u (fl_u F (a + 1) (F a 2).toNat c) (a + 2) (F a 2).toNat (-1)) a 2 (F a 2 + 1)) a 2 = F a 2 + 1 := fl_u_eq
  rw [e]
  refine rep_snoc h (fun j => ?_)
  rw [fl_u_ne (by omega)]
  by_cases hj : j = (F a 2).toNat
  · simp [fl_u, hj]
  · rw [if_neg hj, fl_u_ne (by omega), fl_u_ne (by omega)]
theorem rep_u {F : fl_N} {a b k c j : Nat} {z : Int} {l : List Int} (h : rep (F a) (F b k) l) (h1 : c ≠ a) (h2 : ¬ (b = c ∧ k = j)) : rep ((fl_u F c j z) a) ((fl_u F c j z) b k) l := by
  rw [fl_u_r (Ne.symm h1), fl_u_ne h2]
  exact h
theorem rep_last {F : fl_N} {a : Nat} {x z n : Int} {l : List Int} (h : rep (F (a + 2)) (F a 2) (l ++ [x])) (hn : F a 2 = n) : rep ((fl_u F (a + 2) (n - 1).toNat z) (a + 2)) ((fl_u F (a + 2) (n - 1).toNat z) a 2) (l ++ [z]) := by
  subst hn
  rw [fl_u_ne (by omega)]
  have h1 := h.1
  rw [List.length_append, List.length_singleton] at h1
  refine ⟨by rw [List.length_append, List.length_singleton]; exact h1, fun j y hy => ?_⟩
  have e : (F a 2 - 1).toNat = l.length := by omega
  rw [e]
  by_cases hj : j = l.length
  · subst hj
    rw [List.getElem?_append_right (Nat.le_refl _)] at hy
    simp only [Nat.sub_self, List.getElem?_cons_zero, Option.some.injEq] at hy
    rw [fl_u_eq, hy]
  · rw [fl_u_ne (by omega)]
    have hl : j < l.length := by
      have h9 := (List.getElem?_eq_some_iff.mp hy).1
      rw [List.length_append, List.length_singleton] at h9
      omega
    rw [List.getElem?_append_left hl] at hy
    exact h.2 j y (by rw [List.getElem?_append_left hl]; exact hy)
theorem spp_step {K : fl_N} {ts l tl : List Int} {mo i p : Int} (h : i < mo) (hk : ¬ K 3 p.toNat = 1) : sp_params K ts (mo - i).toNat l tl p = pb (sp_typed K ts 3 l tl p) (fun q => sp_params K ts (mo - (i + 1)).toNat q.2.1 q.2.2 q.1) := by
  rw [show (mo - i).toNat = (mo - (i + 1)).toNat + 1 by omega]
  conv => lhs; unfold sp_params
  rw [if_neg hk]
theorem spp_z {K : fl_N} {ts l tl : List Int} {mo i p : Int} (h : mo ≤ i) : sp_params K ts (mo - i).toNat l tl p = .inr (p, l, tl) := by
  rw [show (mo - i).toNat = 0 by omega]
  rfl
theorem spp_e {K : fl_N} {ts l tl : List Int} {m : Nat} {p : Int} (hk : K 3 p.toNat = 1) : sp_params K ts m l tl p = .inr (p, l, tl) := by
  cases m with
  | zero => rfl
  | succ m => unfold sp_params; rw [if_pos hk]

/- CheapPlanner$Names.find -/
abbrev pq_109 (G : Nat → Nat → Option Nat) (F : fl_N) (X : xi_H) (a n : Nat) (c : Int) (l : List Int) : Outcome → xi_H → Prop := gqi (fun z A => fl_H sh_T G F ++ X = A ∧ (idx l c = z) ∧ (-1 ≤ z ∧ z < (l.length : Int) ∧ (l.length : Int) ≤ (n : Int))) gqn
theorem mc_109 {G : Nat → Nat → Option Nat} (hG : gg G) (F : fl_N) (X : xi_H) (hgi : gi F) (a n : Nat) (c : Int) (l : List Int) (h_a : nm a n) (hc : -9223372036854775808 ≤ c ∧ c ≤ 9223372036854775807) (hl : rep (F (a + 1)) (F a 2) l) : fl_M xi_ms 109 0 0 [.ref a, .long (Int64.ofInt c)] (fl_H sh_T G F ++ X) (pq_109 G F X a n c l) := by
  intro fr lo hfr hlo
  show fl_R xi_ms 109 fr lo 0 [(0, .ref a), (1, .long (Int64.ofInt c))] [] _ _
  have hl1 := hl.1
  have hr_a := h_a.2.2
  refine fl_iconst hm_109 rfl ?_
  refine ga_istore_n (lv2 := [(3, .int (Int32.ofInt 0)), (0, .ref a), (1, .long (Int64.ofInt c))]) hm_109 rfl (Nat.le_of_ble_eq_true rfl) rfl ?_
  have b4_ : 0 ≤ F a 2 ∧ F a 2 ≤ (n : Int) := gi_g hgi h_a.2.1.1
  have L2_ : ∀ (n1_ : Nat) (i : Int), (F a 2 - i : Int).toNat = n1_ → (0 ≤ i ∧ i ≤ F a 2) → (∀ j : Nat, (j : Int) < i → F (a + 1) j ≠ c) → fl_R xi_ms 109 fr lo 2 [(3, .int (Int32.ofInt i)), (0, .ref a), (1, .long (Int64.ofInt c))] [] (fl_H sh_T G F ++ X) (pq_109 G F X a n c l) := by
    intro n1_
    induction n1_ using Nat.strongRecOn with
    | ind n1_ ih3_ =>
    intro i hn5_ hi hj_
    refine ga_iload_n (z := i) hm_109 rfl rfl ?_
    refine ga_aload_n (v := .ref a) hm_109 rfl rfl rfl ?_
    refine ga_geti (z := F a 2) hm_109 rfl h_a.1.1 rfl (rfl) ?_
    refine fl_icmp_ge (a := i) (b := F a 2) hm_109 rfl ⟨by omega, by omega⟩ ⟨by omega, by omega⟩ (fun h6_ => ?_) (fun h7_ => ?_)
    ·
      refine fl_iconst hm_109 rfl ?_
      refine gr_i (z := -1) hm_109 rfl rfl rfl ?_
      exact ⟨rfl, (Eq.symm <| idx_find hl (by omega) (by intro hz j hj; first | omega | (exact hj_ j (by omega))) (by intro hz; first | omega | (exact ⟨by assumption, fun j hj => hj_ j (by omega)⟩))), (by omega)⟩
    refine ga_aload_n (v := .ref a) hm_109 rfl rfl rfl ?_
    refine ga_getr (b := a + 1) hm_109 rfl h_a.1.1 rfl ?_
    refine ga_iload_n (z := i) hm_109 rfl rfl ?_
    have b8_ : -9223372036854775808 ≤ F (a + 1) i.toNat ∧ F (a + 1) i.toNat ≤ 9223372036854775807 := gi_g hgi (gb_a h_a.2.1.2.2)
    refine ga_lald (z := i) (w := F (a + 1) i.toNat) hm_109 rfl h_a.1.2.1 (by omega) (by omega) (by omega) (rfl) ?_
    refine ga_lload_n (z := c) hm_109 rfl rfl ?_
    refine ga_lcmpn (a := F (a + 1) i.toNat) (b := c) hm_109 rfl rfl ⟨by omega, by omega⟩ ⟨by omega, by omega⟩ (fun h9_ => ?_) (fun h10_ => ?_)
    ·
      refine ga_inc (a := i) (c := i + 1) (lv2 := [(3, .int (Int32.ofInt (i + 1))), (0, .ref a), (1, .long (Int64.ofInt c))]) hm_109 rfl rfl (Nat.le_of_ble_eq_true rfl) rfl rfl ?_
      refine fl_goto hm_109 rfl ?_
      exact ih3_ _ (by omega) (i + 1) rfl (by omega) (nf_step hj_ (by omega) (by assumption))
    refine ga_iload_n (z := i) hm_109 rfl rfl ?_
    refine gr_i (z := i) hm_109 rfl rfl rfl ?_
    exact ⟨rfl, (Eq.symm <| idx_find hl (by omega) (by intro hz j hj; first | omega | (exact hj_ j (by omega))) (by intro hz; first | omega | (exact ⟨by assumption, fun j hj => hj_ j (by omega)⟩))), (by omega)⟩
  exact L2_ _ (0) rfl (by omega) (fun j hj => absurd hj (by omega))
/- CheapPlanner$Tokens.skip -/
abbrev pq_154 (G : Nat → Nat → Option Nat) (F : fl_N) (X : xi_H) (K : fl_N) : Outcome → xi_H → Prop := gqv (fun A => ∃ F' : fl_N, fl_H sh_T G F' ++ X = A ∧ gi F' ∧ fs [(1, 1, 7, 7)] F F' ∧ (sk K (F 1 7) = F' 1 7) ∧ (0 ≤ F' 1 7 ∧ F' 1 7 ≤ K 1 6 - 1)) gqn
theorem mc_154 {G : Nat → Nat → Option Nat} (hG : gg G) (F : fl_N) (X : xi_H) (hgi : gi F) (K : fl_N) (hgK : gi K) (hK : tkh K F) (hko : tko K) (hp : 0 ≤ F 1 7 ∧ F 1 7 ≤ K 1 6 - 1) : fl_M xi_ms 154 0 0 [.ref 1] (fl_H sh_T G F ++ X) (pq_154 G F X K) := by
  intro fr lo hfr hlo
  show fl_R xi_ms 154 fr lo 0 [(0, .ref 1)] [] _ _
  refine ga_aload_n (v := .ref 1) hm_154 rfl rfl rfl ?_
  have b1_ : 0 ≤ F 1 7 ∧ F 1 7 ≤ 600 := gi_g hgi rfl
  refine ga_geti (z := F 1 7) hm_154 rfl sc_1 rfl (rfl) ?_
  refine ga_aload_n (v := .ref 1) hm_154 rfl rfl rfl ?_
  have e2_ : F 1 6 = K 1 6 := hK.2
  have b3_ : 0 ≤ K 1 6 ∧ K 1 6 ≤ 601 := gi_g hgK rfl
  refine ga_geti (z := K 1 6) hm_154 rfl sc_1 rfl (e2_) ?_
  refine fl_iconst hm_154 rfl ?_
  refine ga_isub (a := K 1 6) (b := 1) (c := K 1 6 - 1) hm_154 rfl (by omega) ?_
  refine fl_icmp_ge (a := F 1 7) (b := K 1 6 - 1) hm_154 rfl ⟨by omega, by omega⟩ ⟨by omega, by omega⟩ (fun h4_ => ?_) (fun h5_ => ?_)
  ·
    refine gr_v hm_154 rfl rfl ?_
    exact ⟨F, rfl, hgi, fs_refl, (by unfold sk; first | (rw [if_pos (by omega)]; omega) | (rw [if_neg (by omega)])), (by omega)⟩
  refine ga_aload_n (v := .ref 1) hm_154 rfl rfl rfl ?_
  refine ga_dup hm_154 rfl rfl ?_
  refine ga_geti (z := F 1 7) hm_154 rfl sc_1 rfl (rfl) ?_
  refine fl_iconst hm_154 rfl ?_
  refine ga_iadd (a := F 1 7) (b := 1) (c := F 1 7 + 1) hm_154 rfl (by omega) ?_
  refine ga_puti (z := F 1 7 + 1) hm_154 rfl sc_1 rfl rfl ?_
  obtain ⟨F6_, q7_⟩ : ∃ F9_, F9_ = (fl_u F 1 7 (F 1 7 + 1)) := ⟨_, rfl⟩
  rw [← q7_]
  have g8_ : gi F6_ := by rw [q7_]; exact gi_u (hgi) rfl (by omega) (by omega)
  have g9_ : fs [(1, 1, 7, 7)] F F6_ := by rw [q7_]; exact fs_u (fs_refl) rfl
  have tk10_ : tkh K F6_ := by rw [q7_]; exact tkh_u (hK) (by omega) (by omega)
  refine gr_v hm_154 rfl rfl ?_
  have e11_ : F6_ 1 7 = F 1 7 + 1 := by rw [q7_]; exact fl_u_eq
  exact ⟨F6_, rfl, g8_, g9_, (by unfold sk; first | (rw [if_pos (by omega)]; omega) | (rw [if_neg (by omega)])), (by omega)⟩
/- CheapPlanner$Tokens.want -/
abbrev pq_24 (G : Nat → Nat → Option Nat) (F : fl_N) (X : xi_H) (K : fl_N) (k : Int) : Outcome → xi_H → Prop := gqv (fun A => ∃ F' : fl_N, fl_H sh_T G F' ++ X = A ∧ gi F' ∧ fs [(1, 1, 7, 7)] F F' ∧ (sp_kind K k (F 1 7) = .inr (F' 1 7)) ∧ (0 ≤ F' 1 7 ∧ F' 1 7 ≤ K 1 6 - 1)) (fun j A => ∃ F' : fl_N, (387 + X.length = j ∧ fl_H sh_T G F' ++ (X ++ [gx 14]) = A) ∧ gi F' ∧ fs [(1, 1, 7, 8)] F F' ∧ (∃ e, sp_kind K k (F 1 7) = .inl e ∧ F' 1 8 = e.1 + 10 * e.2))
theorem mc_24 {G : Nat → Nat → Option Nat} (hG : gg G) (F : fl_N) (X : xi_H) (hgi : gi F) (K : fl_N) (k : Int) (hgK : gi K) (hK : tkh K F) (hko : tko K) (hp : 0 ≤ F 1 7 ∧ F 1 7 ≤ K 1 6 - 1) (hk : 0 ≤ k ∧ k ≤ 5) : fl_M xi_ms 24 7 121 [.ref 1, .int (Int32.ofInt k)] (fl_H sh_T G F ++ X) (pq_24 G F X K k) := by
  intro fr lo hfr hlo
  show fl_R xi_ms 24 fr lo 0 [(0, .ref 1), (1, .int (Int32.ofInt k))] [] _ _
  refine ga_aload_n (v := .ref 1) hm_24 rfl rfl rfl ?_
  refine ga_getr (b := 3) hm_24 rfl sc_1 rfl ?_
  refine ga_aload_n (v := .ref 1) hm_24 rfl rfl rfl ?_
  have b1_ : 0 ≤ F 1 7 ∧ F 1 7 ≤ 600 := gi_g hgi rfl
  refine ga_geti (z := F 1 7) hm_24 rfl sc_1 rfl (rfl) ?_
  have e2_ : F 3 (F 1 7).toNat = K 3 (F 1 7).toNat := hK.1 3 (F 1 7).toNat (by omega)
  have b3_ : 0 ≤ K 3 (F 1 7).toNat ∧ K 3 (F 1 7).toNat ≤ 5 := gi_g hgK rfl
  refine ga_iald (z := F 1 7) (w := K 3 (F 1 7).toNat) hm_24 rfl sc_3 (by omega) (by omega) (by omega) (e2_) ?_
  refine ga_iload_n (z := k) hm_24 rfl rfl ?_
  refine fl_icmp_eq (a := K 3 (F 1 7).toNat) (b := k) hm_24 rfl ⟨by omega, by omega⟩ ⟨by omega, by omega⟩ (fun h4_ => ?_) (fun h5_ => ?_)
  ·
    refine ga_aload_n (v := .ref 1) hm_24 rfl rfl rfl ?_
    refine gVv (nY := 1) (F := 0) (L := 0) (As := []) (b := 1) (rest := []) hm_24 rfl hm_154 rfl rfl (fl_ob sc_1) rfl rfl rfl rfl rfl (by omega) (by omega) (mc_154 hG F X hgi (K) hgK hK hko (by omega)) (fun _ _ h => False.elim h) ?_
    rintro A1_ ⟨F9_, hA_, g10_, s11_, c7_, c8_⟩
    subst hA_
    have g12_ : fs [(1, 1, 7, 7)] F F9_ := fs_tr fs_refl s11_ rfl
    have tk13_ : tkh K F9_ := tkh_fs hK s11_ (fun r k h => (fs_n (by omega) rfl)) (fs_n (by omega) rfl)
    refine gr_v hm_24 rfl rfl ?_
    have b14_ : 0 ≤ F9_ 1 7 ∧ F9_ 1 7 ≤ 600 := gi_g g10_ rfl
    exact ⟨F9_, rfl, g10_, g12_, (by simp [sp_kind, pf, pb, h4_, c7_, c8_]; try first | omega | ((repeat' split) <;> first | rfl | (exfalso; omega) | omega)), (by omega)⟩
  refine ga_aload_n (v := .ref 1) hm_24 rfl rfl rfl ?_
  refine fl_iconst hm_24 rfl ?_
  refine gIv (nY := 2) (F := 6) (L := 100) (As := [.int (Int32.ofInt 1)]) (b := 1) (rest := []) hm_24 rfl hm_25 rfl rfl (fl_ob sc_1) rfl rfl rfl rfl rfl (by omega) (by omega) ?_
  intro f15_ l16_ h17_ h18_
  show fl_R xi_ms 25 f15_ l16_ 0 [(0, .ref 1), (1, .int (Int32.ofInt 1))] [] _ _
  refine ga_aload_n (v := .ref 1) hm_25 rfl rfl rfl ?_
  refine ga_iload_n (z := 1) hm_25 rfl rfl ?_
  refine fl_bipush hm_25 rfl rfl ?_
  refine ga_aload_n (v := .ref 1) hm_25 rfl rfl rfl ?_
  refine ga_getr (b := 4) hm_25 rfl sc_1 rfl ?_
  refine ga_aload_n (v := .ref 1) hm_25 rfl rfl rfl ?_
  refine ga_geti (z := F 1 7) hm_25 rfl sc_1 rfl (rfl) ?_
  have e19_ : F 4 (F 1 7).toNat = K 4 (F 1 7).toNat := hK.1 4 (F 1 7).toNat (by omega)
  have b20_ : 0 ≤ K 4 (F 1 7).toNat ∧ K 4 (F 1 7).toNat ≤ 600 := gi_g hgK rfl
  refine ga_iald (z := F 1 7) (w := K 4 (F 1 7).toNat) hm_25 rfl sc_4 (by omega) (by omega) (by omega) (e19_) ?_
  refine ga_imul (a := 10) (b := K 4 (F 1 7).toNat) (c := 10 * (K 4 (F 1 7).toNat)) hm_25 rfl (by omega) ?_
  refine ga_iadd (a := 1) (b := 10 * (K 4 (F 1 7).toNat)) (c := 10 * (K 4 (F 1 7).toNat) + 1) hm_25 rfl (by omega) ?_
  refine ga_puti (z := 10 * (K 4 (F 1 7).toNat) + 1) hm_25 rfl sc_1 rfl rfl ?_
  obtain ⟨F21_, q22_⟩ : ∃ F9_, F9_ = (fl_u F 1 8 (10 * (K 4 (F 1 7).toNat) + 1)) := ⟨_, rfl⟩
  rw [← q22_]
  have g23_ : gi F21_ := by rw [q22_]; exact gi_u (hgi) rfl (by omega) (by omega)
  have g24_ : fs [(1, 1, 7, 8)] F F21_ := by rw [q22_]; exact fs_u (fs_refl) rfl
  have tk25_ : tkh K F21_ := by rw [q22_]; exact tkh_u (hK) (by omega) (by omega)
  refine fl_thr hm_25 rfl rfl (by omega) (by omega) (Nat.le_of_ble_eq_true rfl) (fl_pos sc_0) ?_
  refine gw_v ⟨rfl, ?_⟩
  refine gw_v ?_
  have e26_ : F21_ 1 8 = 10 * (K 4 (F 1 7).toNat) + 1 := by rw [q22_]; exact fl_u_eq
  exact ⟨F21_, ⟨ga_len.symm, (List.append_assoc _ _ _).symm⟩, g23_, g24_, (⟨(1, K 4 (F 1 7).toNat), by simp [sp_kind, pf, pb, h5_, e26_]; try first | omega | ((repeat' split) <;> first | rfl | (exfalso; omega) | omega), by show _ = (1 : Int) + 10 * K 4 (F 1 7).toNat; omega⟩)⟩
/- CheapPlanner$Tokens.says -/
abbrev pq_152 (G : Nat → Nat → Option Nat) (F : fl_N) (X : xi_H) (K : fl_N) (j : Nat) (w : List Int) : Outcome → xi_H → Prop := gqi (fun z A => (fl_H sh_T G F ++ X = A ∧ (z = 0) ∧ (isw K (F 1 7) w = false)) ∨ (fl_H sh_T G F ++ X = A ∧ (z = 1) ∧ (isw K (F 1 7) w = true))) gqn
theorem mc_152 {G : Nat → Nat → Option Nat} (hG : gg G) (F : fl_N) (X : xi_H) (hgi : gi F) (K : fl_N) (j : Nat) (w : List Int) (hgK : gi K) (hK : tkh K F) (hko : tko K) (hp : 0 ≤ F 1 7 ∧ F 1 7 ≤ K 1 6 - 1) (ht : xi_tx[j]? = some w) (hw : w.length ≤ 20 ∧ ∀ i : Nat, i < w.length → 0 ≤ w.getD i 0 ∧ w.getD i 0 < 65536) : fl_M xi_ms 152 6 100 [.ref 1, .retAddr j] (fl_H sh_T G F ++ X) (pq_152 G F X K j w) := by
  intro fr lo hfr hlo
  show fl_R xi_ms 152 fr lo 0 [(0, .ref 1), (1, .retAddr j)] [] _ _
  refine ga_aload_n (v := .ref 1) hm_152 rfl rfl rfl ?_
  refine ga_getr (b := 4) hm_152 rfl sc_1 rfl ?_
  refine ga_aload_n (v := .ref 1) hm_152 rfl rfl rfl ?_
  have b1_ : 0 ≤ F 1 7 ∧ F 1 7 ≤ 600 := gi_g hgi rfl
  refine ga_geti (z := F 1 7) hm_152 rfl sc_1 rfl (rfl) ?_
  have e2_ : F 4 (F 1 7).toNat = K 4 (F 1 7).toNat := hK.1 4 (F 1 7).toNat (by omega)
  have b3_ : 0 ≤ K 4 (F 1 7).toNat ∧ K 4 (F 1 7).toNat ≤ 600 := gi_g hgK rfl
  refine ga_iald (z := F 1 7) (w := K 4 (F 1 7).toNat) hm_152 rfl sc_4 (by omega) (by omega) (by omega) (e2_) ?_
  refine ga_istore_n (lv2 := [(2, .int (Int32.ofInt (K 4 (F 1 7).toNat))), (0, .ref 1), (1, .retAddr j)]) hm_152 rfl (Nat.le_of_ble_eq_true rfl) rfl ?_
  refine ga_aload_n (v := .ref 1) hm_152 rfl rfl rfl ?_
  refine ga_getr (b := 5) hm_152 rfl sc_1 rfl ?_
  refine ga_aload_n (v := .ref 1) hm_152 rfl rfl rfl ?_
  refine ga_geti (z := F 1 7) hm_152 rfl sc_1 rfl (rfl) ?_
  have e4_ : F 5 (F 1 7).toNat = K 5 (F 1 7).toNat := hK.1 5 (F 1 7).toNat (by omega)
  have b5_ : 0 ≤ K 5 (F 1 7).toNat ∧ K 5 (F 1 7).toNat ≤ 600 := gi_g hgK rfl
  refine ga_iald (z := F 1 7) (w := K 5 (F 1 7).toNat) hm_152 rfl sc_5 (by omega) (by omega) (by omega) (e4_) ?_
  refine ga_iload_n (z := K 4 (F 1 7).toNat) hm_152 rfl rfl ?_
  refine ga_isub (a := K 5 (F 1 7).toNat) (b := K 4 (F 1 7).toNat) (c := K 5 (F 1 7).toNat - (K 4 (F 1 7).toNat)) hm_152 rfl (by omega) ?_
  refine ga_aload_n (v := .retAddr j) hm_152 rfl rfl rfl ?_
  refine ga_slen (j := j) (t := w) hm_152 rfl ht ⟨⟨by omega, by omega, Nat.le_of_ble_eq_true rfl⟩, fl_pos sc_0⟩ ?_
  refine fl_icmp_eq (a := K 5 (F 1 7).toNat - (K 4 (F 1 7).toNat)) (b := (w.length : Int)) hm_152 rfl ⟨by omega, by omega⟩ ⟨by omega, by omega⟩ (fun h6_ => ?_) (fun h7_ => ?_)
  ·
    refine fl_iconst hm_152 rfl ?_
    refine ga_istore_n (lv2 := [(3, .int (Int32.ofInt 0)), (2, .int (Int32.ofInt (K 4 (F 1 7).toNat))), (0, .ref 1), (1, .retAddr j)]) hm_152 rfl (Nat.le_of_ble_eq_true rfl) rfl ?_
    have L9_ : ∀ (n8_ : Nat) (i : Int), ((w.length : Int) - i : Int).toNat = n8_ → (0 ≤ i ∧ i ≤ (w.length : Int)) → (∀ q : Nat, (q : Int) < i → K 2 ((K 4 (F 1 7).toNat).toNat + q) = w.getD q 0) → fl_R xi_ms 152 fr lo 32 [(3, .int (Int32.ofInt i)), (2, .int (Int32.ofInt (K 4 (F 1 7).toNat))), (0, .ref 1), (1, .retAddr j)] [] (fl_H sh_T G F ++ X) (pq_152 G F X K j w) := by
      intro n8_
      induction n8_ using Nat.strongRecOn with
      | ind n8_ ih10_ =>
      intro i hn11_ hi hm
      refine ga_iload_n (z := i) hm_152 rfl rfl ?_
      refine ga_aload_n (v := .retAddr j) hm_152 rfl rfl rfl ?_
      refine ga_slen (j := j) (t := w) hm_152 rfl ht ⟨⟨by omega, by omega, Nat.le_of_ble_eq_true rfl⟩, fl_pos sc_0⟩ ?_
      refine fl_icmp_ge (a := i) (b := (w.length : Int)) hm_152 rfl ⟨by omega, by omega⟩ ⟨by omega, by omega⟩ (fun h12_ => ?_) (fun h13_ => ?_)
      ·
        refine fl_iconst hm_152 rfl ?_
        refine gr_i (z := 1) hm_152 rfl rfl (ga_nb (by omega)) ?_
        exact Or.inr (⟨rfl, rfl, (isw_t (by omega) (fun q hq => hm q (by omega)))⟩)
      refine ga_aload_n (v := .ref 1) hm_152 rfl rfl rfl ?_
      refine ga_getr (b := 2) hm_152 rfl sc_1 rfl ?_
      refine ga_iload_n (z := K 4 (F 1 7).toNat) hm_152 rfl rfl ?_
      refine ga_iload_n (z := i) hm_152 rfl rfl ?_
      refine ga_iadd (a := K 4 (F 1 7).toNat) (b := i) (c := K 4 (F 1 7).toNat + i) hm_152 rfl (by omega) ?_
      have e14_ : F 2 (K 4 (F 1 7).toNat + i).toNat = K 2 (K 4 (F 1 7).toNat + i).toNat := hK.1 2 (K 4 (F 1 7).toNat + i).toNat (by omega)
      have b15_ : 0 ≤ K 2 (K 4 (F 1 7).toNat + i).toNat ∧ K 2 (K 4 (F 1 7).toNat + i).toNat ≤ 126 := gi_g hgK rfl
      refine ga_cald (z := K 4 (F 1 7).toNat + i) (w := K 2 (K 4 (F 1 7).toNat + i).toNat) hm_152 rfl sc_2 (by omega) (by omega) (by omega) (e14_) ?_
      refine ga_aload_n (v := .retAddr j) hm_152 rfl rfl rfl ?_
      refine ga_iload_n (z := i) hm_152 rfl rfl ?_
      have u16_ : w[(i).toNat]? = some (w.getD (i).toNat 0) := by simp [show (i).toNat < w.length by omega]
      refine ga_schr (j := j) (t := w) (k := i) (z := (w.getD (i).toNat 0)) hm_152 rfl ht (by omega) (by omega) u16_ ⟨⟨by omega, by omega, Nat.le_of_ble_eq_true rfl⟩, fl_pos sc_0⟩ ?_
      have hb_ := hw.2 i.toNat (by omega)
      refine fl_icmp_eq (a := K 2 (K 4 (F 1 7).toNat + i).toNat) (b := (w.getD (i).toNat 0)) hm_152 rfl ⟨by omega, by omega⟩ ⟨by omega, by omega⟩ (fun h17_ => ?_) (fun h18_ => ?_)
      ·
        refine ga_inc (a := i) (c := i + 1) (lv2 := [(3, .int (Int32.ofInt (i + 1))), (2, .int (Int32.ofInt (K 4 (F 1 7).toNat))), (0, .ref 1), (1, .retAddr j)]) hm_152 rfl rfl (Nat.le_of_ble_eq_true rfl) rfl rfl ?_
        refine fl_goto hm_152 rfl ?_
        exact ih10_ _ (by omega) (i + 1) rfl (by omega) (wm_step hm (by omega) (by assumption) (by omega))
      refine fl_iconst hm_152 rfl ?_
      refine gr_i (z := 0) hm_152 rfl rfl (ga_nb (by omega)) ?_
      exact Or.inl ⟨rfl, rfl, (isw_f (i := i.toNat) (by omega) (by rw [show (K 4 (F 1 7).toNat).toNat + i.toNat = (K 4 (F 1 7).toNat + i).toNat by omega]; assumption))⟩
    exact L9_ _ (0) rfl (by omega) (fun q hq => absurd hq (by omega))
  refine fl_iconst hm_152 rfl ?_
  refine gr_i (z := 0) hm_152 rfl rfl (ga_nb (by omega)) ?_
  exact Or.inl ⟨rfl, rfl, (isw_l (by omega))⟩
/- CheapPlanner$Tokens.wantWord -/
abbrev pq_155 (G : Nat → Nat → Option Nat) (F : fl_N) (X : xi_H) (K : fl_N) (j : Nat) (w : List Int) : Outcome → xi_H → Prop := gqv (fun A => ∃ F' : fl_N, fl_H sh_T G F' ++ X = A ∧ gi F' ∧ fs [(1, 1, 7, 7)] F F' ∧ (sp_word K w (F 1 7) = .inr (F' 1 7)) ∧ (0 ≤ F' 1 7 ∧ F' 1 7 ≤ K 1 6 - 1)) (fun j A => ∃ F' : fl_N, (387 + X.length = j ∧ fl_H sh_T G F' ++ (X ++ [gx 14]) = A) ∧ gi F' ∧ fs [(1, 1, 7, 8)] F F' ∧ (∃ e, sp_word K w (F 1 7) = .inl e ∧ F' 1 8 = e.1 + 10 * e.2))
theorem mc_155 {G : Nat → Nat → Option Nat} (hG : gg G) (F : fl_N) (X : xi_H) (hgi : gi F) (K : fl_N) (j : Nat) (w : List Int) (hgK : gi K) (hK : tkh K F) (hko : tko K) (hp : 0 ≤ F 1 7 ∧ F 1 7 ≤ K 1 6 - 1) (ht : xi_tx[j]? = some w) (hw : w.length ≤ 20 ∧ ∀ i : Nat, i < w.length → 0 ≤ w.getD i 0 ∧ w.getD i 0 < 65536) : fl_M xi_ms 155 7 123 [.ref 1, .retAddr j] (fl_H sh_T G F ++ X) (pq_155 G F X K j w) := by
  intro fr lo hfr hlo
  show fl_R xi_ms 155 fr lo 0 [(0, .ref 1), (1, .retAddr j)] [] _ _
  refine ga_aload_n (v := .ref 1) hm_155 rfl rfl rfl ?_
  refine ga_aload_n (v := .retAddr j) hm_155 rfl rfl rfl ?_
  have b1_ : 0 ≤ F 1 7 ∧ F 1 7 ≤ 600 := gi_g hgi rfl
  refine gVi (nY := 4) (F := 6) (L := 100) (As := [.retAddr j]) (b := 1) (rest := []) hm_155 rfl hm_152 rfl rfl (fl_ob sc_1) rfl rfl rfl rfl rfl (by omega) (by omega) (mc_152 hG F X hgi (K) (j) (w) hgK hK hko (by omega) (ht) (hw)) (fun _ _ h => False.elim h) ?_
  rintro z2_ A1_ (⟨hA_, hz_, c3_⟩ | ⟨hA_, hz_, c4_⟩)
  ·
    subst hA_
    subst hz_
    refine fl_if_ne hm_155 rfl ⟨by omega, by omega⟩ (fun h => absurd h (by omega)) (fun _ => ?_)
    refine ga_aload_n (v := .ref 1) hm_155 rfl rfl rfl ?_
    refine fl_iconst hm_155 rfl ?_
    refine gIv (nY := 2) (F := 6) (L := 100) (As := [.int (Int32.ofInt 1)]) (b := 1) (rest := []) hm_155 rfl hm_25 rfl rfl (fl_ob sc_1) rfl rfl rfl rfl rfl (by omega) (by omega) ?_
    intro f5_ l6_ h7_ h8_
    show fl_R xi_ms 25 f5_ l6_ 0 [(0, .ref 1), (1, .int (Int32.ofInt 1))] [] _ _
    refine ga_aload_n (v := .ref 1) hm_25 rfl rfl rfl ?_
    refine ga_iload_n (z := 1) hm_25 rfl rfl ?_
    refine fl_bipush hm_25 rfl rfl ?_
    refine ga_aload_n (v := .ref 1) hm_25 rfl rfl rfl ?_
    refine ga_getr (b := 4) hm_25 rfl sc_1 rfl ?_
    refine ga_aload_n (v := .ref 1) hm_25 rfl rfl rfl ?_
    refine ga_geti (z := F 1 7) hm_25 rfl sc_1 rfl (rfl) ?_
    have e9_ : F 4 (F 1 7).toNat = K 4 (F 1 7).toNat := hK.1 4 (F 1 7).toNat (by omega)
    have b10_ : 0 ≤ K 4 (F 1 7).toNat ∧ K 4 (F 1 7).toNat ≤ 600 := gi_g hgK rfl
    refine ga_iald (z := F 1 7) (w := K 4 (F 1 7).toNat) hm_25 rfl sc_4 (by omega) (by omega) (by omega) (e9_) ?_
    refine ga_imul (a := 10) (b := K 4 (F 1 7).toNat) (c := 10 * (K 4 (F 1 7).toNat)) hm_25 rfl (by omega) ?_
    refine ga_iadd (a := 1) (b := 10 * (K 4 (F 1 7).toNat)) (c := 10 * (K 4 (F 1 7).toNat) + 1) hm_25 rfl (by omega) ?_
    refine ga_puti (z := 10 * (K 4 (F 1 7).toNat) + 1) hm_25 rfl sc_1 rfl rfl ?_
    obtain ⟨F11_, q12_⟩ : ∃ F9_, F9_ = (fl_u F 1 8 (10 * (K 4 (F 1 7).toNat) + 1)) := ⟨_, rfl⟩
    rw [← q12_]
    have g13_ : gi F11_ := by rw [q12_]; exact gi_u (hgi) rfl (by omega) (by omega)
    have g14_ : fs [(1, 1, 7, 8)] F F11_ := by rw [q12_]; exact fs_u (fs_refl) rfl
    have tk15_ : tkh K F11_ := by rw [q12_]; exact tkh_u (hK) (by omega) (by omega)
    refine fl_thr hm_25 rfl rfl (by omega) (by omega) (Nat.le_of_ble_eq_true rfl) (fl_pos sc_0) ?_
    refine gw_v ⟨rfl, ?_⟩
    refine gw_v ?_
    have e16_ : F11_ 1 8 = 10 * (K 4 (F 1 7).toNat) + 1 := by rw [q12_]; exact fl_u_eq
    exact ⟨F11_, ⟨ga_len.symm, (List.append_assoc _ _ _).symm⟩, g13_, g14_, (⟨(1, K 4 (F 1 7).toNat), by simp [sp_word, pf, pb, c3_, e16_]; try first | omega | ((repeat' split) <;> first | rfl | (exfalso; omega) | omega), by show _ = (1 : Int) + 10 * K 4 (F 1 7).toNat; omega⟩)⟩
  subst hA_
  subst hz_
  refine fl_if_ne hm_155 rfl ⟨by omega, by omega⟩ (fun _ => ?_) (fun h => absurd (by omega) h)
  refine ga_aload_n (v := .ref 1) hm_155 rfl rfl rfl ?_
  refine gVv (nY := 1) (F := 0) (L := 0) (As := []) (b := 1) (rest := []) hm_155 rfl hm_154 rfl rfl (fl_ob sc_1) rfl rfl rfl rfl rfl (by omega) (by omega) (mc_154 hG F X hgi (K) hgK hK hko (by omega)) (fun _ _ h => False.elim h) ?_
  rintro A1_ ⟨F20_, hA_, g21_, s22_, c18_, c19_⟩
  subst hA_
  have g23_ : fs [(1, 1, 7, 7)] F F20_ := fs_tr fs_refl s22_ rfl
  have tk24_ : tkh K F20_ := tkh_fs hK s22_ (fun r k h => (fs_n (by omega) rfl)) (fs_n (by omega) rfl)
  refine gr_v hm_155 rfl rfl ?_
  have b25_ : 0 ≤ F20_ 1 7 ∧ F20_ 1 7 ≤ 600 := gi_g g21_ rfl
  exact ⟨F20_, rfl, g21_, g23_, (by simp [sp_word, pf, pb, c4_, c18_, c19_]; try first | omega | ((repeat' split) <;> first | rfl | (exfalso; omega) | omega)), (by omega)⟩
/- CheapPlanner$Names.add -/
abbrev pq_108 (G : Nat → Nat → Option Nat) (F : fl_N) (X : xi_H) (a n : Nat) (c : Int) (l tl : List Int) : Outcome → xi_H → Prop := gqv (fun A => ∃ F' : fl_N, fl_H sh_T G F' ++ X = A ∧ gi F' ∧ fs [(a, a + 2, 0, 100000)] F F' ∧ (rep (F' (a + 1)) (F' a 2) (l ++ [c])) ∧ (rep (F' (a + 2)) (F' a 2) (tl ++ [-1]))) gqn
theorem mc_108 {G : Nat → Nat → Option Nat} (hG : gg G) (F : fl_N) (X : xi_H) (hgi : gi F) (a n : Nat) (c : Int) (l tl : List Int) (h_a : nm a n) (hc : -9223372036854775808 ≤ c ∧ c ≤ 9223372036854775807) (hl : rep (F (a + 1)) (F a 2) l) (htl : rep (F (a + 2)) (F a 2) tl) (hr : (l.length : Int) < (n : Int)) : fl_M xi_ms 108 0 0 [.ref a, .long (Int64.ofInt c)] (fl_H sh_T G F ++ X) (pq_108 G F X a n c l tl) := by
  intro fr lo hfr hlo
  show fl_R xi_ms 108 fr lo 0 [(0, .ref a), (1, .long (Int64.ofInt c))] [] _ _
  have hl1 := hl.1
  have hr_a := h_a.2.2
  refine ga_aload_n (v := .ref a) hm_108 rfl rfl rfl ?_
  have b1_ : 0 ≤ F a 2 ∧ F a 2 ≤ (n : Int) := gi_g hgi h_a.2.1.1
  refine ga_geti (z := F a 2) hm_108 rfl h_a.1.1 rfl (rfl) ?_
  refine ga_aload_n (v := .ref a) hm_108 rfl rfl rfl ?_
  refine ga_getr (b := a + 1) hm_108 rfl h_a.1.1 rfl ?_
  refine fl_alen hm_108 rfl ⟨_, fl_at h_a.1.2.1⟩ rfl ?_
  refine fl_icmp_ge (a := F a 2) (b := (n : Int)) hm_108 rfl ⟨by omega, by omega⟩ ⟨by omega, by omega⟩ (fun h2_ => ?_) (fun h3_ => ?_)
  ·
    refine gr_v hm_108 rfl rfl ?_
    exact ⟨F, rfl, hgi, fs_refl, (by exfalso; omega), (by exfalso; omega)⟩
  refine ga_aload_n (v := .ref a) hm_108 rfl rfl rfl ?_
  refine ga_getr (b := a + 1) hm_108 rfl h_a.1.1 rfl ?_
  refine ga_aload_n (v := .ref a) hm_108 rfl rfl rfl ?_
  refine ga_geti (z := F a 2) hm_108 rfl h_a.1.1 rfl (rfl) ?_
  refine ga_lload_n (z := c) hm_108 rfl rfl ?_
  refine fl_last (z := F a 2) (v := c) hm_108 rfl h_a.1.2.1 (by omega) (by omega) (by omega) ?_
  refine ga_aload_n (v := .ref a) hm_108 rfl rfl rfl ?_
  refine ga_getr (b := a + 2) hm_108 rfl h_a.1.1 rfl ?_
  refine ga_aload_n (v := .ref a) hm_108 rfl rfl rfl ?_
  refine ga_geti (z := F a 2) hm_108 rfl h_a.1.1 rfl (fl_u_ne (by omega)) ?_
  refine fl_iconst hm_108 rfl ?_
  refine fl_iast (z := F a 2) (v := -1) hm_108 rfl h_a.1.2.2 (by omega) (by omega) (by omega) ?_
  refine ga_aload_n (v := .ref a) hm_108 rfl rfl rfl ?_
  refine ga_dup hm_108 rfl rfl ?_
  refine ga_geti (z := F a 2) hm_108 rfl h_a.1.1 rfl ((fl_u_ne (by omega)).trans (fl_u_ne (by omega))) ?_
  refine fl_iconst hm_108 rfl ?_
  refine ga_iadd (a := F a 2) (b := 1) (c := F a 2 + 1) hm_108 rfl (by omega) ?_
  refine ga_puti (z := F a 2 + 1) hm_108 rfl h_a.1.1 rfl rfl ?_
  obtain ⟨F4_, q5_⟩ : ∃ F9_, F9_ = (fl_u (fl_u (fl_u F (a + 1) (F a 2).toNat c) (a + 2) (F a 2).toNat (-1)) a 2 (F a 2 + 1)) := ⟨_, rfl⟩
  rw [← q5_]
  have g6_ : gi F4_ := by rw [q5_]; exact gi_u (gi_u (gi_u (hgi) (gb_a h_a.2.1.2.2) (by omega) (by omega)) (gb_a h_a.2.1.2.1) (by omega) (by omega)) h_a.2.1.1 (by omega) (by omega)
  have g7_ : fs [(a, a + 2, 0, 100000)] F F4_ := by rw [q5_]; exact fs_u (fs_u (fs_u (fs_refl) (fs_y (by omega))) (fs_y (by omega))) (fs_y (by omega))
  refine gr_v hm_108 rfl rfl ?_
  have e8_ : F4_ a 2 = F a 2 + 1 := by rw [q5_]; exact fl_u_eq
  exact ⟨F4_, rfl, g6_, g7_, (by rw [q5_]; exact na_l hl), (by rw [q5_]; exact na_t htl)⟩
/- CheapPlanner$Reader.readNew -/
abbrev pq_121 (G : Nat → Nat → Option Nat) (F : fl_N) (X : xi_H) (K : fl_N) (a n : Nat) (k : Int) (l tl : List Int) : Outcome → xi_H → Prop := gqv (fun A => ∃ F' : fl_N, fl_H sh_T G F' ++ X = A ∧ gi F' ∧ fs [(1, 1, 7, 7), (a, a + 2, 0, 100000)] F F' ∧ (sp_new K k l (F 1 7) = .inr (F' 1 7, l ++ [K 6 (F 1 7).toNat])) ∧ (0 ≤ F' 1 7 ∧ F' 1 7 ≤ K 1 6 - 1) ∧ (rep (F' (a + 1)) (F' a 2) (l ++ [K 6 (F 1 7).toNat])) ∧ (rep (F' (a + 2)) (F' a 2) (tl ++ [-1]))) (fun j A => ∃ F' : fl_N, (387 + X.length = j ∧ fl_H sh_T G F' ++ (X ++ [gx 14]) = A) ∧ gi F' ∧ fs [(1, 1, 7, 8), (a, a + 2, 0, 100000)] F F' ∧ (∃ e, sp_new K k l (F 1 7) = .inl e ∧ F' 1 8 = e.1 + 10 * e.2))
theorem mc_121 {G : Nat → Nat → Option Nat} (hG : gg G) (F : fl_N) (X : xi_H) (hgi : gi F) (K : fl_N) (a n : Nat) (k : Int) (l tl : List Int) (hgK : gi K) (hK : tkh K F) (hko : tko K) (hp : 0 ≤ F 1 7 ∧ F 1 7 ≤ K 1 6 - 1) (h_a : nm a n) (hk : 0 ≤ k ∧ k ≤ 5) (hl : rep (F (a + 1)) (F a 2) l) (htl : rep (F (a + 2)) (F a 2) tl) (hr : (l.length : Int) < (n : Int)) : fl_M xi_ms 121 7 121 [.ref 118, .ref a, .int (Int32.ofInt k)] (fl_H sh_T G F ++ X) (pq_121 G F X K a n k l tl) := by
  intro fr lo hfr hlo
  show fl_R xi_ms 121 fr lo 0 [(0, .ref 118), (1, .ref a), (2, .int (Int32.ofInt k))] [] _ _
  have hr_a := h_a.2.2
  refine ga_aload_n (v := .ref 118) hm_121 rfl rfl rfl ?_
  refine ga_getr (b := 1) hm_121 rfl sc_118 rfl ?_
  refine ga_iload_n (z := k) hm_121 rfl rfl ?_
  refine gIi (nY := 2) (F := 0) (L := 0) (As := [.int (Int32.ofInt k)]) (b := 1) (rest := []) hm_121 rfl hm_153 rfl rfl (fl_ob sc_1) rfl rfl rfl rfl rfl (by omega) (by omega) ?_
  intro f1_ l2_ h3_ h4_
  show fl_R xi_ms 153 f1_ l2_ 0 [(0, .ref 1), (1, .int (Int32.ofInt k))] [] _ _
  refine ga_aload_n (v := .ref 1) hm_153 rfl rfl rfl ?_
  refine ga_getr (b := 3) hm_153 rfl sc_1 rfl ?_
  refine ga_aload_n (v := .ref 1) hm_153 rfl rfl rfl ?_
  have b5_ : 0 ≤ F 1 7 ∧ F 1 7 ≤ 600 := gi_g hgi rfl
  refine ga_geti (z := F 1 7) hm_153 rfl sc_1 rfl (rfl) ?_
  have e6_ : F 3 (F 1 7).toNat = K 3 (F 1 7).toNat := hK.1 3 (F 1 7).toNat (by omega)
  have b7_ : 0 ≤ K 3 (F 1 7).toNat ∧ K 3 (F 1 7).toNat ≤ 5 := gi_g hgK rfl
  refine ga_iald (z := F 1 7) (w := K 3 (F 1 7).toNat) hm_153 rfl sc_3 (by omega) (by omega) (by omega) (e6_) ?_
  refine ga_iload_n (z := k) hm_153 rfl rfl ?_
  refine fx_icmp_ne (a := K 3 (F 1 7).toNat) (b := k) hm_153 rfl ⟨by omega, by omega⟩ ⟨by omega, by omega⟩ (fun h8_ => ?_) (fun h9_ => ?_)
  ·
    refine fl_iconst hm_153 rfl ?_
    refine gr_i hm_153 rfl rfl (ga_nb (by omega)) ?_
    clear h3_ h4_ f1_ l2_
    refine fl_if_ne hm_121 rfl ⟨by omega, by omega⟩ (fun h => absurd h (by omega)) (fun _ => ?_)
    refine ga_aload_n (v := .ref 118) hm_121 rfl rfl rfl ?_
    refine ga_getr (b := 1) hm_121 rfl sc_118 rfl ?_
    refine fl_iconst hm_121 rfl ?_
    refine gIv (nY := 2) (F := 6) (L := 100) (As := [.int (Int32.ofInt 1)]) (b := 1) (rest := []) hm_121 rfl hm_25 rfl rfl (fl_ob sc_1) rfl rfl rfl rfl rfl (by omega) (by omega) ?_
    intro f10_ l11_ h12_ h13_
    show fl_R xi_ms 25 f10_ l11_ 0 [(0, .ref 1), (1, .int (Int32.ofInt 1))] [] _ _
    refine ga_aload_n (v := .ref 1) hm_25 rfl rfl rfl ?_
    refine ga_iload_n (z := 1) hm_25 rfl rfl ?_
    refine fl_bipush hm_25 rfl rfl ?_
    refine ga_aload_n (v := .ref 1) hm_25 rfl rfl rfl ?_
    refine ga_getr (b := 4) hm_25 rfl sc_1 rfl ?_
    refine ga_aload_n (v := .ref 1) hm_25 rfl rfl rfl ?_
    refine ga_geti (z := F 1 7) hm_25 rfl sc_1 rfl (rfl) ?_
    have e14_ : F 4 (F 1 7).toNat = K 4 (F 1 7).toNat := hK.1 4 (F 1 7).toNat (by omega)
    have b15_ : 0 ≤ K 4 (F 1 7).toNat ∧ K 4 (F 1 7).toNat ≤ 600 := gi_g hgK rfl
    refine ga_iald (z := F 1 7) (w := K 4 (F 1 7).toNat) hm_25 rfl sc_4 (by omega) (by omega) (by omega) (e14_) ?_
    refine ga_imul (a := 10) (b := K 4 (F 1 7).toNat) (c := 10 * (K 4 (F 1 7).toNat)) hm_25 rfl (by omega) ?_
    refine ga_iadd (a := 1) (b := 10 * (K 4 (F 1 7).toNat)) (c := 10 * (K 4 (F 1 7).toNat) + 1) hm_25 rfl (by omega) ?_
    refine ga_puti (z := 10 * (K 4 (F 1 7).toNat) + 1) hm_25 rfl sc_1 rfl rfl ?_
    obtain ⟨F16_, q17_⟩ : ∃ F9_, F9_ = (fl_u F 1 8 (10 * (K 4 (F 1 7).toNat) + 1)) := ⟨_, rfl⟩
    rw [← q17_]
    have g18_ : gi F16_ := by rw [q17_]; exact gi_u (hgi) rfl (by omega) (by omega)
    have g19_ : fs [(1, 1, 7, 8), (a, a + 2, 0, 100000)] F F16_ := by rw [q17_]; exact fs_u (fs_refl) (fs_y (by omega))
    have tk20_ : tkh K F16_ := by rw [q17_]; exact tkh_u (hK) (by omega) (by omega)
    refine fl_thr hm_25 rfl rfl (by omega) (by omega) (Nat.le_of_ble_eq_true rfl) (fl_pos sc_0) ?_
    refine gw_v ⟨rfl, ?_⟩
    refine gw_v ?_
    have e21_ : F16_ 1 8 = 10 * (K 4 (F 1 7).toNat) + 1 := by rw [q17_]; exact fl_u_eq
    exact ⟨F16_, ⟨ga_len.symm, (List.append_assoc _ _ _).symm⟩, g18_, g19_, (⟨(1, K 4 (F 1 7).toNat), by simp [sp_new, pf, pb, h8_, e21_]; try first | omega | ((repeat' split) <;> first | rfl | (exfalso; omega) | omega), by show _ = (1 : Int) + 10 * K 4 (F 1 7).toNat; omega⟩)⟩
  refine fl_iconst hm_153 rfl ?_
  refine fl_goto hm_153 rfl ?_
  refine gr_i hm_153 rfl rfl (ga_nb (by omega)) ?_
  clear h3_ h4_ f1_ l2_
  refine fl_if_ne hm_121 rfl ⟨by omega, by omega⟩ (fun _ => ?_) (fun h => absurd (by omega) h)
  refine ga_aload_n (v := .ref a) hm_121 rfl rfl rfl ?_
  refine ga_aload_n (v := .ref 118) hm_121 rfl rfl rfl ?_
  refine ga_getr (b := 1) hm_121 rfl sc_118 rfl ?_
  refine gIl (nY := 1) (F := 0) (L := 0) (As := []) (b := 1) (rest := [.ref a]) hm_121 rfl hm_149 rfl rfl (fl_ob sc_1) rfl rfl rfl rfl rfl (by omega) (by omega) ?_
  intro f22_ l23_ h24_ h25_
  show fl_R xi_ms 149 f22_ l23_ 0 [(0, .ref 1)] [] _ _
  refine ga_aload_n (v := .ref 1) hm_149 rfl rfl rfl ?_
  refine ga_getr (b := 6) hm_149 rfl sc_1 rfl ?_
  refine ga_aload_n (v := .ref 1) hm_149 rfl rfl rfl ?_
  refine ga_geti (z := F 1 7) hm_149 rfl sc_1 rfl (rfl) ?_
  have e26_ : F 6 (F 1 7).toNat = K 6 (F 1 7).toNat := hK.1 6 (F 1 7).toNat (by omega)
  have b27_ : -9223372036854775808 ≤ K 6 (F 1 7).toNat ∧ K 6 (F 1 7).toNat ≤ 9223372036854775807 := gi_g hgK rfl
  refine ga_lald (z := F 1 7) (w := K 6 (F 1 7).toNat) hm_149 rfl sc_6 (by omega) (by omega) (by omega) (e26_) ?_
  refine gr_l hm_149 rfl rfl ?_
  clear h24_ h25_ f22_ l23_
  refine gVi (nY := 4) (F := 0) (L := 0) (As := [.long (Int64.ofInt (K 6 (F 1 7).toNat))]) (b := a) (rest := []) hm_121 rfl hm_109 rfl rfl (fl_ob h_a.1.1) rfl rfl rfl rfl rfl (by omega) (by omega) (mc_109 hG F X hgi (a) (n) (K 6 (F 1 7).toNat) (l) h_a (by omega) (hl)) (fun _ _ h => False.elim h) ?_
  rintro z28_ A1_ ⟨hA_, c29_, c30_⟩
  subst hA_
  refine fl_if_lt (a := z28_) hm_121 rfl ⟨by omega, by omega⟩ (fun h31_ => ?_) (fun h32_ => ?_)
  ·
    refine ga_aload_n (v := .ref a) hm_121 rfl rfl rfl ?_
    refine ga_aload_n (v := .ref 118) hm_121 rfl rfl rfl ?_
    refine ga_getr (b := 1) hm_121 rfl sc_118 rfl ?_
    refine gIl (nY := 1) (F := 0) (L := 0) (As := []) (b := 1) (rest := [.ref a]) hm_121 rfl hm_149 rfl rfl (fl_ob sc_1) rfl rfl rfl rfl rfl (by omega) (by omega) ?_
    intro f33_ l34_ h35_ h36_
    show fl_R xi_ms 149 f33_ l34_ 0 [(0, .ref 1)] [] _ _
    refine ga_aload_n (v := .ref 1) hm_149 rfl rfl rfl ?_
    refine ga_getr (b := 6) hm_149 rfl sc_1 rfl ?_
    refine ga_aload_n (v := .ref 1) hm_149 rfl rfl rfl ?_
    refine ga_geti (z := F 1 7) hm_149 rfl sc_1 rfl (rfl) ?_
    refine ga_lald (z := F 1 7) (w := K 6 (F 1 7).toNat) hm_149 rfl sc_6 (by omega) (by omega) (by omega) (e26_) ?_
    refine gr_l hm_149 rfl rfl ?_
    clear h35_ h36_ f33_ l34_
    refine gVv (nY := 3) (F := 0) (L := 0) (As := [.long (Int64.ofInt (K 6 (F 1 7).toNat))]) (b := a) (rest := []) hm_121 rfl hm_108 rfl rfl (fl_ob h_a.1.1) rfl rfl rfl rfl rfl (by omega) (by omega) (mc_108 hG F X hgi (a) (n) (K 6 (F 1 7).toNat) (l) (tl) h_a (by omega) (hl) (htl) (by omega)) (fun _ _ h => False.elim h) ?_
    rintro A1_ ⟨F40_, hA_, g41_, s42_, c38_, c39_⟩
    subst hA_
    have g43_ : fs [(1, 1, 7, 7), (a, a + 2, 0, 100000)] F F40_ := fs_tr fs_refl s42_ (by simp [fs_le]; try omega)
    have tk44_ : tkh K F40_ := tkh_fs hK s42_ (fun r k h => (fs_n (by omega) rfl)) (fs_n (by omega) rfl)
    refine ga_aload_n (v := .ref 118) hm_121 rfl rfl rfl ?_
    refine ga_getr (b := 1) hm_121 rfl sc_118 rfl ?_
    have e45_ : F40_ 1 7 = F 1 7 := (s42_ 1 7 (fs_n (by omega) rfl)).trans (rfl)
    refine gVv (nY := 1) (F := 0) (L := 0) (As := []) (b := 1) (rest := []) hm_121 rfl hm_154 rfl rfl (fl_ob sc_1) rfl rfl rfl rfl rfl (by omega) (by omega) (mc_154 hG F40_ X g41_ (K) hgK tk44_ hko (by omega)) (fun _ _ h => False.elim h) ?_
    rintro A1_ ⟨F49_, hA_, g50_, s51_, c47_, c48_⟩
    subst hA_
    have g52_ : fs [(1, 1, 7, 7), (a, a + 2, 0, 100000)] F F49_ := fs_tr g43_ s51_ (by simp [fs_le]; try omega)
    have tk53_ : tkh K F49_ := tkh_fs tk44_ s51_ (fun r k h => (fs_n (by omega) rfl)) (fs_n (by omega) rfl)
    try simp only [e45_] at c47_
    refine gr_v hm_121 rfl rfl ?_
    have b54_ : 0 ≤ F49_ 1 7 ∧ F49_ 1 7 ≤ 600 := gi_g g50_ rfl
    have e55_ : F49_ a 2 = F40_ a 2 := (s51_ a 2 (fs_n (by omega) rfl)).trans (rfl)
    have b56_ : 0 ≤ F40_ a 2 ∧ F40_ a 2 ≤ (n : Int) := gi_g g41_ h_a.2.1.1
    exact ⟨F49_, rfl, g50_, g52_, (by simp [sp_new, pf, pb, h9_, c29_, c30_, h31_, c38_, c39_, e45_, c47_, c48_]; try first | omega | ((repeat' split) <;> first | rfl | (exfalso; omega) | omega)), (by omega), ((rep_fs c38_ s51_ (fun _ => (fs_n (by omega) rfl)) (fs_n (by omega) rfl))), ((rep_fs c39_ s51_ (fun _ => (fs_n (by omega) rfl)) (fs_n (by omega) rfl)))⟩
  refine ga_aload_n (v := .ref 118) hm_121 rfl rfl rfl ?_
  refine ga_getr (b := 1) hm_121 rfl sc_118 rfl ?_
  refine fl_iconst hm_121 rfl ?_
  refine gIv (nY := 2) (F := 6) (L := 100) (As := [.int (Int32.ofInt 2)]) (b := 1) (rest := []) hm_121 rfl hm_25 rfl rfl (fl_ob sc_1) rfl rfl rfl rfl rfl (by omega) (by omega) ?_
  intro f57_ l58_ h59_ h60_
  show fl_R xi_ms 25 f57_ l58_ 0 [(0, .ref 1), (1, .int (Int32.ofInt 2))] [] _ _
  refine ga_aload_n (v := .ref 1) hm_25 rfl rfl rfl ?_
  refine ga_iload_n (z := 2) hm_25 rfl rfl ?_
  refine fl_bipush hm_25 rfl rfl ?_
  refine ga_aload_n (v := .ref 1) hm_25 rfl rfl rfl ?_
  refine ga_getr (b := 4) hm_25 rfl sc_1 rfl ?_
  refine ga_aload_n (v := .ref 1) hm_25 rfl rfl rfl ?_
  refine ga_geti (z := F 1 7) hm_25 rfl sc_1 rfl (rfl) ?_
  have e61_ : F 4 (F 1 7).toNat = K 4 (F 1 7).toNat := hK.1 4 (F 1 7).toNat (by omega)
  have b62_ : 0 ≤ K 4 (F 1 7).toNat ∧ K 4 (F 1 7).toNat ≤ 600 := gi_g hgK rfl
  refine ga_iald (z := F 1 7) (w := K 4 (F 1 7).toNat) hm_25 rfl sc_4 (by omega) (by omega) (by omega) (e61_) ?_
  refine ga_imul (a := 10) (b := K 4 (F 1 7).toNat) (c := 10 * (K 4 (F 1 7).toNat)) hm_25 rfl (by omega) ?_
  refine ga_iadd (a := 2) (b := 10 * (K 4 (F 1 7).toNat)) (c := 10 * (K 4 (F 1 7).toNat) + 2) hm_25 rfl (by omega) ?_
  refine ga_puti (z := 10 * (K 4 (F 1 7).toNat) + 2) hm_25 rfl sc_1 rfl rfl ?_
  obtain ⟨F63_, q64_⟩ : ∃ F9_, F9_ = (fl_u F 1 8 (10 * (K 4 (F 1 7).toNat) + 2)) := ⟨_, rfl⟩
  rw [← q64_]
  have g65_ : gi F63_ := by rw [q64_]; exact gi_u (hgi) rfl (by omega) (by omega)
  have g66_ : fs [(1, 1, 7, 8), (a, a + 2, 0, 100000)] F F63_ := by rw [q64_]; exact fs_u (fs_refl) (fs_y (by omega))
  have tk67_ : tkh K F63_ := by rw [q64_]; exact tkh_u (hK) (by omega) (by omega)
  refine fl_thr hm_25 rfl rfl (by omega) (by omega) (Nat.le_of_ble_eq_true rfl) (fl_pos sc_0) ?_
  refine gw_v ⟨rfl, ?_⟩
  refine gw_v ?_
  have e68_ : F63_ 1 8 = 10 * (K 4 (F 1 7).toNat) + 2 := by rw [q64_]; exact fl_u_eq
  exact ⟨F63_, ⟨ga_len.symm, (List.append_assoc _ _ _).symm⟩, g65_, g66_, (⟨(2, K 4 (F 1 7).toNat), by simp [sp_new, pf, pb, h9_, c29_, c30_, h32_, e68_]; try first | omega | ((repeat' split) <;> first | rfl | (exfalso; omega) | omega), by show _ = (2 : Int) + 10 * K 4 (F 1 7).toNat; omega⟩)⟩
/- CheapPlanner$Reader.readType -/
abbrev pq_126 (G : Nat → Nat → Option Nat) (F : fl_N) (X : xi_H) (K : fl_N) (ts : List Int) : Outcome → xi_H → Prop := gqi (fun z A => ∃ F' : fl_N, fl_H sh_T G F' ++ X = A ∧ gi F' ∧ fs [(1, 1, 7, 7)] F F' ∧ (sp_type K ts (F 1 7) = .inr (F' 1 7, z)) ∧ (0 ≤ F' 1 7 ∧ F' 1 7 ≤ K 1 6 - 1) ∧ (0 ≤ z ∧ z ≤ 3)) (fun j A => ∃ F' : fl_N, (387 + X.length = j ∧ fl_H sh_T G F' ++ (X ++ [gx 14]) = A) ∧ gi F' ∧ fs [(1, 1, 7, 8)] F F' ∧ (∃ e, sp_type K ts (F 1 7) = .inl e ∧ F' 1 8 = e.1 + 10 * e.2))
theorem mc_126 {G : Nat → Nat → Option Nat} (hG : gg G) (F : fl_N) (X : xi_H) (hgi : gi F) (K : fl_N) (ts : List Int) (hgK : gi K) (hK : tkh K F) (hko : tko K) (hp : 0 ≤ F 1 7 ∧ F 1 7 ≤ K 1 6 - 1) (hts : rep (F 9) (F 8 2) ts) : fl_M xi_ms 126 7 121 [.ref 118] (fl_H sh_T G F ++ X) (pq_126 G F X K ts) := by
  intro fr lo hfr hlo
  show fl_R xi_ms 126 fr lo 0 [(0, .ref 118)] [] _ _
  refine ga_aload_n (v := .ref 118) hm_126 rfl rfl rfl ?_
  refine ga_getr (b := 1) hm_126 rfl sc_118 rfl ?_
  refine fl_iconst hm_126 rfl ?_
  refine gIi (nY := 2) (F := 0) (L := 0) (As := [.int (Int32.ofInt 2)]) (b := 1) (rest := []) hm_126 rfl hm_153 rfl rfl (fl_ob sc_1) rfl rfl rfl rfl rfl (by omega) (by omega) ?_
  intro f1_ l2_ h3_ h4_
  show fl_R xi_ms 153 f1_ l2_ 0 [(0, .ref 1), (1, .int (Int32.ofInt 2))] [] _ _
  refine ga_aload_n (v := .ref 1) hm_153 rfl rfl rfl ?_
  refine ga_getr (b := 3) hm_153 rfl sc_1 rfl ?_
  refine ga_aload_n (v := .ref 1) hm_153 rfl rfl rfl ?_
  have b5_ : 0 ≤ F 1 7 ∧ F 1 7 ≤ 600 := gi_g hgi rfl
  refine ga_geti (z := F 1 7) hm_153 rfl sc_1 rfl (rfl) ?_
  have e6_ : F 3 (F 1 7).toNat = K 3 (F 1 7).toNat := hK.1 3 (F 1 7).toNat (by omega)
  have b7_ : 0 ≤ K 3 (F 1 7).toNat ∧ K 3 (F 1 7).toNat ≤ 5 := gi_g hgK rfl
  refine ga_iald (z := F 1 7) (w := K 3 (F 1 7).toNat) hm_153 rfl sc_3 (by omega) (by omega) (by omega) (e6_) ?_
  refine ga_iload_n (z := 2) hm_153 rfl rfl ?_
  refine fx_icmp_ne (a := K 3 (F 1 7).toNat) (b := 2) hm_153 rfl ⟨by omega, by omega⟩ ⟨by omega, by omega⟩ (fun h8_ => ?_) (fun h9_ => ?_)
  ·
    refine fl_iconst hm_153 rfl ?_
    refine gr_i hm_153 rfl rfl (ga_nb (by omega)) ?_
    clear h3_ h4_ f1_ l2_
    refine fl_if_ne hm_126 rfl ⟨by omega, by omega⟩ (fun h => absurd h (by omega)) (fun _ => ?_)
    refine ga_aload_n (v := .ref 118) hm_126 rfl rfl rfl ?_
    refine ga_getr (b := 1) hm_126 rfl sc_118 rfl ?_
    refine fl_iconst hm_126 rfl ?_
    refine gIv (nY := 2) (F := 6) (L := 100) (As := [.int (Int32.ofInt 1)]) (b := 1) (rest := []) hm_126 rfl hm_25 rfl rfl (fl_ob sc_1) rfl rfl rfl rfl rfl (by omega) (by omega) ?_
    intro f10_ l11_ h12_ h13_
    show fl_R xi_ms 25 f10_ l11_ 0 [(0, .ref 1), (1, .int (Int32.ofInt 1))] [] _ _
    refine ga_aload_n (v := .ref 1) hm_25 rfl rfl rfl ?_
    refine ga_iload_n (z := 1) hm_25 rfl rfl ?_
    refine fl_bipush hm_25 rfl rfl ?_
    refine ga_aload_n (v := .ref 1) hm_25 rfl rfl rfl ?_
    refine ga_getr (b := 4) hm_25 rfl sc_1 rfl ?_
    refine ga_aload_n (v := .ref 1) hm_25 rfl rfl rfl ?_
    refine ga_geti (z := F 1 7) hm_25 rfl sc_1 rfl (rfl) ?_
    have e14_ : F 4 (F 1 7).toNat = K 4 (F 1 7).toNat := hK.1 4 (F 1 7).toNat (by omega)
    have b15_ : 0 ≤ K 4 (F 1 7).toNat ∧ K 4 (F 1 7).toNat ≤ 600 := gi_g hgK rfl
    refine ga_iald (z := F 1 7) (w := K 4 (F 1 7).toNat) hm_25 rfl sc_4 (by omega) (by omega) (by omega) (e14_) ?_
    refine ga_imul (a := 10) (b := K 4 (F 1 7).toNat) (c := 10 * (K 4 (F 1 7).toNat)) hm_25 rfl (by omega) ?_
    refine ga_iadd (a := 1) (b := 10 * (K 4 (F 1 7).toNat)) (c := 10 * (K 4 (F 1 7).toNat) + 1) hm_25 rfl (by omega) ?_
    refine ga_puti (z := 10 * (K 4 (F 1 7).toNat) + 1) hm_25 rfl sc_1 rfl rfl ?_
    obtain ⟨F16_, q17_⟩ : ∃ F9_, F9_ = (fl_u F 1 8 (10 * (K 4 (F 1 7).toNat) + 1)) := ⟨_, rfl⟩
    rw [← q17_]
    have g18_ : gi F16_ := by rw [q17_]; exact gi_u (hgi) rfl (by omega) (by omega)
    have g19_ : fs [(1, 1, 7, 8)] F F16_ := by rw [q17_]; exact fs_u (fs_refl) rfl
    have tk20_ : tkh K F16_ := by rw [q17_]; exact tkh_u (hK) (by omega) (by omega)
    refine fl_thr hm_25 rfl rfl (by omega) (by omega) (Nat.le_of_ble_eq_true rfl) (fl_pos sc_0) ?_
    refine gw_v ⟨rfl, ?_⟩
    refine gw_i ?_
    have e21_ : F16_ 1 8 = 10 * (K 4 (F 1 7).toNat) + 1 := by rw [q17_]; exact fl_u_eq
    exact ⟨F16_, ⟨ga_len.symm, (List.append_assoc _ _ _).symm⟩, g18_, g19_, (⟨(1, K 4 (F 1 7).toNat), by simp [sp_type, pf, pb, h8_, e21_]; try first | omega | ((repeat' split) <;> first | rfl | (exfalso; omega) | omega), by show _ = (1 : Int) + 10 * K 4 (F 1 7).toNat; omega⟩)⟩
  refine fl_iconst hm_153 rfl ?_
  refine fl_goto hm_153 rfl ?_
  refine gr_i hm_153 rfl rfl (ga_nb (by omega)) ?_
  clear h3_ h4_ f1_ l2_
  refine fl_if_ne hm_126 rfl ⟨by omega, by omega⟩ (fun _ => ?_) (fun h => absurd (by omega) h)
  refine ga_aload_n (v := .ref 118) hm_126 rfl rfl rfl ?_
  refine ga_getr (b := 7) hm_126 rfl sc_118 rfl ?_
  refine ga_getr (b := 8) hm_126 rfl sc_7 rfl ?_
  refine ga_aload_n (v := .ref 118) hm_126 rfl rfl rfl ?_
  refine ga_getr (b := 1) hm_126 rfl sc_118 rfl ?_
  refine gIl (nY := 1) (F := 0) (L := 0) (As := []) (b := 1) (rest := [.ref 8]) hm_126 rfl hm_149 rfl rfl (fl_ob sc_1) rfl rfl rfl rfl rfl (by omega) (by omega) ?_
  intro f22_ l23_ h24_ h25_
  show fl_R xi_ms 149 f22_ l23_ 0 [(0, .ref 1)] [] _ _
  refine ga_aload_n (v := .ref 1) hm_149 rfl rfl rfl ?_
  refine ga_getr (b := 6) hm_149 rfl sc_1 rfl ?_
  refine ga_aload_n (v := .ref 1) hm_149 rfl rfl rfl ?_
  refine ga_geti (z := F 1 7) hm_149 rfl sc_1 rfl (rfl) ?_
  have e26_ : F 6 (F 1 7).toNat = K 6 (F 1 7).toNat := hK.1 6 (F 1 7).toNat (by omega)
  have b27_ : -9223372036854775808 ≤ K 6 (F 1 7).toNat ∧ K 6 (F 1 7).toNat ≤ 9223372036854775807 := gi_g hgK rfl
  refine ga_lald (z := F 1 7) (w := K 6 (F 1 7).toNat) hm_149 rfl sc_6 (by omega) (by omega) (by omega) (e26_) ?_
  refine gr_l hm_149 rfl rfl ?_
  clear h24_ h25_ f22_ l23_
  refine gVi (nY := 4) (F := 0) (L := 0) (As := [.long (Int64.ofInt (K 6 (F 1 7).toNat))]) (b := 8) (rest := []) hm_126 rfl hm_109 rfl rfl (fl_ob sc_8) rfl rfl rfl rfl rfl (by omega) (by omega) (mc_109 hG F X hgi (8) (4) (K 6 (F 1 7).toNat) (ts) nm_8 (by omega) (hts)) (fun _ _ h => False.elim h) ?_
  rintro z28_ A1_ ⟨hA_, c29_, c30_⟩
  subst hA_
  refine ga_istore_n (lv2 := [(1, .int (Int32.ofInt z28_)), (0, .ref 118)]) hm_126 rfl (Nat.le_of_ble_eq_true rfl) rfl ?_
  refine ga_iload_n (z := z28_) hm_126 rfl rfl ?_
  refine fl_if_ge (a := z28_) hm_126 rfl ⟨by omega, by omega⟩ (fun h31_ => ?_) (fun h32_ => ?_)
  ·
    refine ga_aload_n (v := .ref 118) hm_126 rfl rfl rfl ?_
    refine ga_getr (b := 1) hm_126 rfl sc_118 rfl ?_
    refine gVv (nY := 1) (F := 0) (L := 0) (As := []) (b := 1) (rest := []) hm_126 rfl hm_154 rfl rfl (fl_ob sc_1) rfl rfl rfl rfl rfl (by omega) (by omega) (mc_154 hG F X hgi (K) hgK hK hko (by omega)) (fun _ _ h => False.elim h) ?_
    rintro A1_ ⟨F36_, hA_, g37_, s38_, c34_, c35_⟩
    subst hA_
    have g39_ : fs [(1, 1, 7, 7)] F F36_ := fs_tr fs_refl s38_ rfl
    have tk40_ : tkh K F36_ := tkh_fs hK s38_ (fun r k h => (fs_n (by omega) rfl)) (fs_n (by omega) rfl)
    refine ga_iload_n (z := z28_) hm_126 rfl rfl ?_
    refine gr_i (z := z28_) hm_126 rfl rfl rfl ?_
    have b41_ : 0 ≤ F36_ 1 7 ∧ F36_ 1 7 ≤ 600 := gi_g g37_ rfl
    exact ⟨F36_, rfl, g37_, g39_, (by simp [sp_type, pf, pb, h9_, c29_, c30_, h31_, c34_, c35_]; try first | omega | ((repeat' split) <;> first | rfl | (exfalso; omega) | omega)), (by omega), (by omega)⟩
  refine ga_aload_n (v := .ref 118) hm_126 rfl rfl rfl ?_
  refine ga_getr (b := 1) hm_126 rfl sc_118 rfl ?_
  refine fl_iconst hm_126 rfl ?_
  refine gIv (nY := 2) (F := 6) (L := 100) (As := [.int (Int32.ofInt 3)]) (b := 1) (rest := []) hm_126 rfl hm_25 rfl rfl (fl_ob sc_1) rfl rfl rfl rfl rfl (by omega) (by omega) ?_
  intro f42_ l43_ h44_ h45_
  show fl_R xi_ms 25 f42_ l43_ 0 [(0, .ref 1), (1, .int (Int32.ofInt 3))] [] _ _
  refine ga_aload_n (v := .ref 1) hm_25 rfl rfl rfl ?_
  refine ga_iload_n (z := 3) hm_25 rfl rfl ?_
  refine fl_bipush hm_25 rfl rfl ?_
  refine ga_aload_n (v := .ref 1) hm_25 rfl rfl rfl ?_
  refine ga_getr (b := 4) hm_25 rfl sc_1 rfl ?_
  refine ga_aload_n (v := .ref 1) hm_25 rfl rfl rfl ?_
  refine ga_geti (z := F 1 7) hm_25 rfl sc_1 rfl (rfl) ?_
  have e46_ : F 4 (F 1 7).toNat = K 4 (F 1 7).toNat := hK.1 4 (F 1 7).toNat (by omega)
  have b47_ : 0 ≤ K 4 (F 1 7).toNat ∧ K 4 (F 1 7).toNat ≤ 600 := gi_g hgK rfl
  refine ga_iald (z := F 1 7) (w := K 4 (F 1 7).toNat) hm_25 rfl sc_4 (by omega) (by omega) (by omega) (e46_) ?_
  refine ga_imul (a := 10) (b := K 4 (F 1 7).toNat) (c := 10 * (K 4 (F 1 7).toNat)) hm_25 rfl (by omega) ?_
  refine ga_iadd (a := 3) (b := 10 * (K 4 (F 1 7).toNat)) (c := 10 * (K 4 (F 1 7).toNat) + 3) hm_25 rfl (by omega) ?_
  refine ga_puti (z := 10 * (K 4 (F 1 7).toNat) + 3) hm_25 rfl sc_1 rfl rfl ?_
  obtain ⟨F48_, q49_⟩ : ∃ F9_, F9_ = (fl_u F 1 8 (10 * (K 4 (F 1 7).toNat) + 3)) := ⟨_, rfl⟩
  rw [← q49_]
  have g50_ : gi F48_ := by rw [q49_]; exact gi_u (hgi) rfl (by omega) (by omega)
  have g51_ : fs [(1, 1, 7, 8)] F F48_ := by rw [q49_]; exact fs_u (fs_refl) rfl
  have tk52_ : tkh K F48_ := by rw [q49_]; exact tkh_u (hK) (by omega) (by omega)
  refine fl_thr hm_25 rfl rfl (by omega) (by omega) (Nat.le_of_ble_eq_true rfl) (fl_pos sc_0) ?_
  refine gw_v ⟨rfl, ?_⟩
  refine gw_i ?_
  have e53_ : F48_ 1 8 = 10 * (K 4 (F 1 7).toNat) + 3 := by rw [q49_]; exact fl_u_eq
  exact ⟨F48_, ⟨ga_len.symm, (List.append_assoc _ _ _).symm⟩, g50_, g51_, (⟨(3, K 4 (F 1 7).toNat), by simp [sp_type, pf, pb, h9_, c29_, c30_, h32_, e53_]; try first | omega | ((repeat' split) <;> first | rfl | (exfalso; omega) | omega), by show _ = (3 : Int) + 10 * K 4 (F 1 7).toNat; omega⟩)⟩
/- CheapPlanner$Reader.readTyped -/
abbrev pq_127 (G : Nat → Nat → Option Nat) (F : fl_N) (X : xi_H) (K : fl_N) (a n : Nat) (k : Int) (l tl ts : List Int) : Outcome → xi_H → Prop := gqv (fun A => ∃ F' : fl_N, fl_H sh_T G F' ++ X = A ∧ gi F' ∧ fs [(1, 1, 7, 7), (a, a + 2, 0, 100000)] F F' ∧ (∃ t, sp_typed K ts k l tl (F 1 7) = .inr (F' 1 7, l ++ [K 6 (F 1 7).toNat], tl ++ [t]) ∧ rep (F' (a + 2)) (F' a 2) (tl ++ [t])) ∧ (0 ≤ F' 1 7 ∧ F' 1 7 ≤ K 1 6 - 1) ∧ (rep (F' (a + 1)) (F' a 2) (l ++ [K 6 (F 1 7).toNat]))) (fun j A => ∃ F' : fl_N, (387 + X.length = j ∧ fl_H sh_T G F' ++ (X ++ [gx 14]) = A) ∧ gi F' ∧ fs [(1, 1, 7, 8), (a, a + 2, 0, 100000)] F F' ∧ (∃ e, sp_typed K ts k l tl (F 1 7) = .inl e ∧ F' 1 8 = e.1 + 10 * e.2))
theorem mc_127 {G : Nat → Nat → Option Nat} (hG : gg G) (F : fl_N) (X : xi_H) (hgi : gi F) (K : fl_N) (a n : Nat) (k : Int) (l tl ts : List Int) (hgK : gi K) (hK : tkh K F) (hko : tko K) (hp : 0 ≤ F 1 7 ∧ F 1 7 ≤ K 1 6 - 1) (h_a : nm a n) (ha8 : 11 ≤ a) (hk : 0 ≤ k ∧ k ≤ 5) (hl : rep (F (a + 1)) (F a 2) l) (htl : rep (F (a + 2)) (F a 2) tl) (hr : (l.length : Int) < (n : Int)) (hts : rep (F 9) (F 8 2) ts) : fl_M xi_ms 127 8 143 [.ref 118, .ref a, .int (Int32.ofInt k)] (fl_H sh_T G F ++ X) (pq_127 G F X K a n k l tl ts) := by
  intro fr lo hfr hlo
  show fl_R xi_ms 127 fr lo 0 [(0, .ref 118), (1, .ref a), (2, .int (Int32.ofInt k))] [] _ _
  have hr_a := h_a.2.2
  refine ga_aload_n (v := .ref 118) hm_127 rfl rfl rfl ?_
  refine ga_aload_n (v := .ref a) hm_127 rfl rfl rfl ?_
  refine ga_iload_n (z := k) hm_127 rfl rfl ?_
  have b1_ : 0 ≤ F 1 7 ∧ F 1 7 ≤ 600 := gi_g hgi rfl
  refine gVv (nY := 3) (F := 7) (L := 121) (As := [.ref a, .int (Int32.ofInt k)]) (b := 118) (rest := []) hm_127 rfl hm_121 rfl rfl (fl_ob sc_118) rfl rfl rfl rfl rfl (by omega) (by omega) (mc_121 hG F X hgi (K) (a) (n) (k) (l) (tl) hgK hK hko (by omega) h_a (by omega) (hl) (htl) (by omega)) ?_ ?_
  ·
    rintro j_ A1_ ⟨F3_, ⟨hJ_, hA_⟩, g4_, s5_, c2_⟩
    subst hA_
    subst hJ_
    refine ⟨rfl, ?_⟩
    refine gw_v ?_
    have g6_ : fs [(1, 1, 7, 8), (a, a + 2, 0, 100000)] F F3_ := fs_tr fs_refl s5_ (by simp [fs_le]; try omega)
    have b7_ : 0 ≤ F3_ 1 8 ∧ F3_ 1 8 ≤ 100000 := gi_g g4_ rfl
    exact ⟨F3_, ⟨rfl, rfl⟩, g4_, g6_, (by obtain ⟨e, c1, c2⟩ := c2_; exact ⟨e, (by simp [sp_typed, c1, pf, pb]; try first | omega | ((repeat' split) <;> first | rfl | (exfalso; omega) | omega)), c2⟩)⟩
  rintro A1_ ⟨F13_, hA_, g14_, s15_, c9_, c10_, c11_, c12_⟩
  subst hA_
  have g16_ : fs [(1, 1, 7, 7), (a, a + 2, 0, 100000)] F F13_ := fs_tr fs_refl s15_ (by simp [fs_le]; try omega)
  have tk17_ : tkh K F13_ := tkh_fs hK s15_ (fun r k h => (fs_n (by omega) (fs_n (by omega) rfl))) (fs_n (by omega) (fs_n (by omega) rfl))
  have hl_n := c11_.1
  rw [List.length_append, List.length_singleton] at hl_n
  refine ga_aload_n (v := .ref 118) hm_127 rfl rfl rfl ?_
  refine ga_getr (b := 1) hm_127 rfl sc_118 rfl ?_
  refine ga_ldcs hm_127 rfl ?_
  have b18_ : 0 ≤ F13_ 1 7 ∧ F13_ 1 7 ≤ 600 := gi_g g14_ rfl
  refine gVi (nY := 4) (F := 6) (L := 100) (As := [.retAddr 5]) (b := 1) (rest := []) hm_127 rfl hm_152 rfl rfl (fl_ob sc_1) rfl rfl rfl rfl rfl (by omega) (by omega) (mc_152 hG F13_ X g14_ (K) (5) ([45]) hgK tk17_ hko (by omega) (rfl) (by decide)) (fun _ _ h => False.elim h) ?_
  rintro z19_ A1_ (⟨hA_, hz_, c20_⟩ | ⟨hA_, hz_, c21_⟩)
  ·
    subst hA_
    subst hz_
    refine fl_if_eq hm_127 rfl ⟨by omega, by omega⟩ (fun _ => ?_) (fun h => absurd (by omega) h)
    refine gr_v hm_127 rfl rfl ?_
    have b22_ : 0 ≤ F13_ a 2 ∧ F13_ a 2 ≤ (n : Int) := gi_g g14_ h_a.2.1.1
    exact ⟨F13_, rfl, g14_, g16_, (⟨-1, by simp [sp_typed, pf, pb, c9_, c10_, c11_, c12_, c20_], c12_⟩), (by omega), (c11_)⟩
  subst hA_
  subst hz_
  refine fl_if_eq hm_127 rfl ⟨by omega, by omega⟩ (fun h => absurd h (by omega)) (fun _ => ?_)
  refine ga_aload_n (v := .ref 118) hm_127 rfl rfl rfl ?_
  refine ga_getr (b := 1) hm_127 rfl sc_118 rfl ?_
  refine gVv (nY := 1) (F := 0) (L := 0) (As := []) (b := 1) (rest := []) hm_127 rfl hm_154 rfl rfl (fl_ob sc_1) rfl rfl rfl rfl rfl (by omega) (by omega) (mc_154 hG F13_ X g14_ (K) hgK tk17_ hko (by omega)) (fun _ _ h => False.elim h) ?_
  rintro A1_ ⟨F26_, hA_, g27_, s28_, c24_, c25_⟩
  subst hA_
  have g29_ : fs [(1, 1, 7, 7), (a, a + 2, 0, 100000)] F F26_ := fs_tr g16_ s28_ (by simp [fs_le]; try omega)
  have tk30_ : tkh K F26_ := tkh_fs tk17_ s28_ (fun r k h => (fs_n (by omega) rfl)) (fs_n (by omega) rfl)
  refine ga_aload_n (v := .ref a) hm_127 rfl rfl rfl ?_
  refine ga_aload_n (v := .ref 118) hm_127 rfl rfl rfl ?_
  have b31_ : 0 ≤ F26_ 1 7 ∧ F26_ 1 7 ≤ 600 := gi_g g27_ rfl
  refine gVi (nY := 2) (F := 7) (L := 121) (As := []) (b := 118) (rest := [.ref a]) hm_127 rfl hm_126 rfl rfl (fl_ob sc_118) rfl rfl rfl rfl rfl (by omega) (by omega) (mc_126 hG F26_ X g27_ (K) (ts) hgK tk30_ hko (by omega) ((rep_fs (rep_fs hts s15_ (fun _ => (fs_n (by omega) (fs_n (by omega) rfl))) (fs_n (by omega) (fs_n (by omega) rfl))) s28_ (fun _ => (fs_n (by omega) rfl)) (fs_n (by omega) rfl)))) ?_ ?_
  ·
    rintro j_ A1_ ⟨F33_, ⟨hJ_, hA_⟩, g34_, s35_, c32_⟩
    subst hA_
    subst hJ_
    refine ⟨rfl, ?_⟩
    refine gw_v ?_
    have g36_ : fs [(1, 1, 7, 8), (a, a + 2, 0, 100000)] F F33_ := fs_tr (fs_tr fs_refl g29_ (by simp [fs_le]; try omega)) s35_ (by simp [fs_le]; try omega)
    have b37_ : 0 ≤ F33_ 1 8 ∧ F33_ 1 8 ≤ 100000 := gi_g g34_ rfl
    exact ⟨F33_, ⟨rfl, rfl⟩, g34_, g36_, (by obtain ⟨e, c1, c2⟩ := c32_; exact ⟨e, (by simp [sp_typed, c1, pf, pb, c9_, c10_, c11_, c12_, c21_, c24_, c25_]; try first | omega | ((repeat' split) <;> first | rfl | (exfalso; omega) | omega)), c2⟩)⟩
  rintro z38_ A1_ ⟨F42_, hA_, g43_, s44_, c39_, c40_, c41_⟩
  subst hA_
  have g45_ : fs [(1, 1, 7, 7), (a, a + 2, 0, 100000)] F F42_ := fs_tr g29_ s44_ (by simp [fs_le]; try omega)
  have tk46_ : tkh K F42_ := tkh_fs tk30_ s44_ (fun r k h => (fs_n (by omega) rfl)) (fs_n (by omega) rfl)
  refine gIv (nY := 2) (F := 0) (L := 0) (As := [.int (Int32.ofInt z38_)]) (b := a) (rest := []) hm_127 rfl hm_111 rfl rfl (fl_ob h_a.1.1) rfl rfl rfl rfl rfl (by omega) (by omega) ?_
  intro f47_ l48_ h49_ h50_
  show fl_R xi_ms 111 f47_ l48_ 0 [(0, .ref a), (1, .int (Int32.ofInt z38_))] [] _ _
  refine ga_aload_n (v := .ref a) hm_111 rfl rfl rfl ?_
  have e51_ : F26_ a 2 = F13_ a 2 := (s28_ a 2 (fs_n (by omega) rfl)).trans (rfl)
  have e52_ : F42_ a 2 = F13_ a 2 := (s44_ a 2 (fs_n (by omega) rfl)).trans (e51_)
  have b53_ : 0 ≤ F13_ a 2 ∧ F13_ a 2 ≤ (n : Int) := gi_g g14_ h_a.2.1.1
  refine ga_geti (z := F13_ a 2) hm_111 rfl h_a.1.1 rfl (e52_) ?_
  refine fl_if_le (a := F13_ a 2) hm_111 rfl ⟨by omega, by omega⟩ (fun h54_ => ?_) (fun h55_ => ?_)
  ·
    refine gr_v hm_111 rfl rfl ?_
    clear h49_ h50_ f47_ l48_
    refine gr_v hm_127 rfl rfl ?_
    have b56_ : 0 ≤ F42_ 1 7 ∧ F42_ 1 7 ≤ 600 := gi_g g43_ rfl
    exact ⟨F42_, rfl, g43_, g45_, (by exfalso; omega), (by omega), ((rep_fs (rep_fs c11_ s28_ (fun _ => (fs_n (by omega) rfl)) (fs_n (by omega) rfl)) s44_ (fun _ => (fs_n (by omega) rfl)) (fs_n (by omega) rfl)))⟩
  refine ga_aload_n (v := .ref a) hm_111 rfl rfl rfl ?_
  refine ga_getr (b := a + 2) hm_111 rfl h_a.1.1 rfl ?_
  refine ga_aload_n (v := .ref a) hm_111 rfl rfl rfl ?_
  refine ga_geti (z := F13_ a 2) hm_111 rfl h_a.1.1 rfl (e52_) ?_
  refine fl_iconst hm_111 rfl ?_
  refine ga_isub (a := F13_ a 2) (b := 1) (c := F13_ a 2 - 1) hm_111 rfl (by omega) ?_
  refine ga_iload_n (z := z38_) hm_111 rfl rfl ?_
  refine fl_iast (z := F13_ a 2 - 1) (v := z38_) hm_111 rfl h_a.1.2.2 (by omega) (by omega) (by omega) ?_
  refine gr_v hm_111 rfl rfl ?_
  clear h49_ h50_ f47_ l48_
  obtain ⟨F57_, q58_⟩ : ∃ F9_, F9_ = (fl_u F42_ (a + 2) (F13_ a 2 - 1).toNat z38_) := ⟨_, rfl⟩
  rw [← q58_]
  have g59_ : gi F57_ := by rw [q58_]; exact gi_u (g43_) (gb_a h_a.2.1.2.1) (by omega) (by omega)
  have g60_ : fs [(1, 1, 7, 7), (a, a + 2, 0, 100000)] F F57_ := by rw [q58_]; exact fs_u (g45_) (fs_z (fs_y (by omega)))
  have tk61_ : tkh K F57_ := by rw [q58_]; exact tkh_u (tk46_) (by omega) (by omega)
  refine gr_v hm_127 rfl rfl ?_
  have e62_ : F57_ 1 7 = F42_ 1 7 := by rw [q58_]; exact fl_u_ne (by omega)
  have b63_ : 0 ≤ F42_ 1 7 ∧ F42_ 1 7 ≤ 600 := gi_g g43_ rfl
  have e64_ : F57_ a 2 = F13_ a 2 := by rw [q58_]; exact (fl_u_ne (by omega)).trans (e52_)
  exact ⟨F57_, rfl, g59_, g60_, (⟨z38_, by simp [sp_typed, pf, pb, c9_, c10_, c11_, c12_, c21_, c24_, c25_, c39_, c40_, c41_, e51_, e52_, h55_, e62_, e64_], by rw [q58_]; exact rep_last (rep_fs (rep_fs c12_ s28_ (fun _ => (fs_n (by omega) rfl)) (fs_n (by omega) rfl)) s44_ (fun _ => (fs_n (by omega) rfl)) (fs_n (by omega) rfl)) (by assumption)⟩), (by omega), ((by rw [q58_]; exact (rep_u (rep_fs (rep_fs c11_ s28_ (fun _ => (fs_n (by omega) rfl)) (fs_n (by omega) rfl)) s44_ (fun _ => (fs_n (by omega) rfl)) (fs_n (by omega) rfl)) (by omega) (by omega))))⟩
/- CheapPlanner$Reader.readParameters -/
abbrev pq_123 (G : Nat → Nat → Option Nat) (F : fl_N) (X : xi_H) (K : fl_N) (a n : Nat) (mo : Int) (ts : List Int) : Outcome → xi_H → Prop := gqv (fun A => ∃ F' : fl_N, fl_H sh_T G F' ++ X = A ∧ gi F' ∧ fs [(1, 1, 7, 7), (a, a + 2, 0, 100000)] F F' ∧ (∃ l tl, sp_params K ts mo.toNat [] [] (F 1 7) = .inr (F' 1 7, l, tl) ∧ rep (F' (a + 1)) (F' a 2) l ∧ rep (F' (a + 2)) (F' a 2) tl) ∧ (0 ≤ F' 1 7 ∧ F' 1 7 ≤ K 1 6 - 1)) (fun j A => ∃ F' : fl_N, (387 + X.length = j ∧ fl_H sh_T G F' ++ (X ++ [gx 14]) = A) ∧ gi F' ∧ fs [(1, 1, 7, 8), (a, a + 2, 0, 100000)] F F' ∧ (∃ e, sp_params K ts mo.toNat [] [] (F 1 7) = .inl e ∧ F' 1 8 = e.1 + 10 * e.2))
theorem mc_123 {G : Nat → Nat → Option Nat} (hG : gg G) (F : fl_N) (X : xi_H) (hgi : gi F) (K : fl_N) (a n : Nat) (mo : Int) (ts : List Int) (hgK : gi K) (hK : tkh K F) (hko : tko K) (hp : 0 ≤ F 1 7 ∧ F 1 7 ≤ K 1 6 - 1) (h_a : nm a n) (ha8 : 11 ≤ a) (hm : 0 ≤ mo ∧ mo ≤ (n : Int)) (hts : rep (F 9) (F 8 2) ts) : fl_M xi_ms 123 9 165 [.ref 118, .ref a, .int (Int32.ofInt mo)] (fl_H sh_T G F ++ X) (pq_123 G F X K a n mo ts) := by
  intro fr lo hfr hlo
  show fl_R xi_ms 123 fr lo 0 [(0, .ref 118), (1, .ref a), (2, .int (Int32.ofInt mo))] [] _ _
  have hr_a := h_a.2.2
  refine ga_aload_n (v := .ref a) hm_123 rfl rfl rfl ?_
  refine gIv (nY := 1) (F := 0) (L := 0) (As := []) (b := a) (rest := []) hm_123 rfl hm_27 rfl rfl (fl_ob h_a.1.1) rfl rfl rfl rfl rfl (by omega) (by omega) ?_
  intro f1_ l2_ h3_ h4_
  show fl_R xi_ms 27 f1_ l2_ 0 [(0, .ref a)] [] _ _
  refine ga_aload_n (v := .ref a) hm_27 rfl rfl rfl ?_
  refine fl_iconst hm_27 rfl ?_
  refine ga_puti (z := 0) hm_27 rfl h_a.1.1 rfl rfl ?_
  refine gr_v hm_27 rfl rfl ?_
  clear h3_ h4_ f1_ l2_
  refine fl_iconst hm_123 rfl ?_
  refine ga_istore_n (lv2 := [(3, .int (Int32.ofInt 0)), (0, .ref 118), (1, .ref a), (2, .int (Int32.ofInt mo))]) hm_123 rfl (Nat.le_of_ble_eq_true rfl) rfl ?_
  obtain ⟨F5_, q6_⟩ : ∃ F9_, F9_ = (fl_u F a 2 0) := ⟨_, rfl⟩
  rw [← q6_]
  have g7_ : gi F5_ := by rw [q6_]; exact gi_u (hgi) h_a.2.1.1 (by omega) (by omega)
  have g8_ : fs [(1, 1, 7, 7), (a, a + 2, 0, 100000)] F F5_ := by rw [q6_]; exact fs_u (fs_refl) (fs_z (fs_y (by omega)))
  have tk9_ : tkh K F5_ := by rw [q6_]; exact tkh_u (hK) (by omega) (by omega)
  have L11_ : ∀ (n10_ : Nat) (i : Int) (l : List Int) (tl : List Int) (F1 : fl_N), (mo - i : Int).toNat = n10_ → (gi F1) → (fs [(1, 1, 7, 7), (a, a + 2, 0, 100000)] F5_ F1) → (0 ≤ i ∧ i ≤ mo) → (rep (F1 (a + 1)) (F1 a 2) l) → (rep (F1 (a + 2)) (F1 a 2) tl) → ((l.length : Int) = i) → (0 ≤ F1 1 7 ∧ F1 1 7 ≤ K 1 6 - 1) → (sp_params K ts mo.toNat [] [] (F 1 7) = sp_params K ts (mo - i).toNat l tl (F1 1 7)) → fl_R xi_ms 123 fr lo 6 [(3, .int (Int32.ofInt i)), (0, .ref 118), (1, .ref a), (2, .int (Int32.ofInt mo))] [] (fl_H sh_T G F1 ++ X) (pq_123 G F X K a n mo ts) := by
    intro n10_
    induction n10_ using Nat.strongRecOn with
    | ind n10_ ih12_ =>
    intro i l tl F1 hn13_ hg_F1 hf_F1 hi hl htl hli hp1 hsp
    have g14_ : fs [(1, 1, 7, 7), (a, a + 2, 0, 100000)] F F1 := fs_tr g8_ hf_F1 (by simp [fs_le]; try omega)
    have tk15_ : tkh K F1 := tkh_fs tk9_ hf_F1 (fun r k h => (fs_n (by omega) (fs_n (by omega) rfl))) (fs_n (by omega) (fs_n (by omega) rfl))
    refine ga_iload_n (z := i) hm_123 rfl rfl ?_
    refine ga_iload_n (z := mo) hm_123 rfl rfl ?_
    refine fl_icmp_ge (a := i) (b := mo) hm_123 rfl ⟨by omega, by omega⟩ ⟨by omega, by omega⟩ (fun h16_ => ?_) (fun h17_ => ?_)
    ·
      refine gr_v hm_123 rfl rfl ?_
      have b18_ : 0 ≤ F1 1 7 ∧ F1 1 7 ≤ 600 := gi_g hg_F1 rfl
      have b19_ : 0 ≤ F1 a 2 ∧ F1 a 2 ≤ (n : Int) := gi_g hg_F1 h_a.2.1.1
      have b20_ : 0 ≤ F 1 7 ∧ F 1 7 ≤ 600 := gi_g hgi rfl
      exact ⟨F1, rfl, hg_F1, g14_, (⟨l, tl, by rw [hsp]; first | exact spp_z (by omega) | exact spp_e (by assumption), hl, htl⟩), (by omega)⟩
    refine ga_aload_n (v := .ref 118) hm_123 rfl rfl rfl ?_
    refine ga_getr (b := 1) hm_123 rfl sc_118 rfl ?_
    refine fl_iconst hm_123 rfl ?_
    refine gIi (nY := 2) (F := 0) (L := 0) (As := [.int (Int32.ofInt 1)]) (b := 1) (rest := []) hm_123 rfl hm_153 rfl rfl (fl_ob sc_1) rfl rfl rfl rfl rfl (by omega) (by omega) ?_
    intro f21_ l22_ h23_ h24_
    show fl_R xi_ms 153 f21_ l22_ 0 [(0, .ref 1), (1, .int (Int32.ofInt 1))] [] _ _
    refine ga_aload_n (v := .ref 1) hm_153 rfl rfl rfl ?_
    refine ga_getr (b := 3) hm_153 rfl sc_1 rfl ?_
    refine ga_aload_n (v := .ref 1) hm_153 rfl rfl rfl ?_
    have b25_ : 0 ≤ F1 1 7 ∧ F1 1 7 ≤ 600 := gi_g hg_F1 rfl
    refine ga_geti (z := F1 1 7) hm_153 rfl sc_1 rfl (rfl) ?_
    have e26_ : F1 3 (F1 1 7).toNat = K 3 (F1 1 7).toNat := tk15_.1 3 (F1 1 7).toNat (by omega)
    have b27_ : 0 ≤ K 3 (F1 1 7).toNat ∧ K 3 (F1 1 7).toNat ≤ 5 := gi_g hgK rfl
    refine ga_iald (z := F1 1 7) (w := K 3 (F1 1 7).toNat) hm_153 rfl sc_3 (by omega) (by omega) (by omega) (e26_) ?_
    refine ga_iload_n (z := 1) hm_153 rfl rfl ?_
    refine fx_icmp_ne (a := K 3 (F1 1 7).toNat) (b := 1) hm_153 rfl ⟨by omega, by omega⟩ ⟨by omega, by omega⟩ (fun h28_ => ?_) (fun h29_ => ?_)
    ·
      refine fl_iconst hm_153 rfl ?_
      refine gr_i hm_153 rfl rfl (ga_nb (by omega)) ?_
      clear h23_ h24_ f21_ l22_
      refine fl_if_ne hm_123 rfl ⟨by omega, by omega⟩ (fun h => absurd h (by omega)) (fun _ => ?_)
      refine ga_aload_n (v := .ref 118) hm_123 rfl rfl rfl ?_
      refine ga_aload_n (v := .ref a) hm_123 rfl rfl rfl ?_
      refine fl_iconst hm_123 rfl ?_
      refine gVv (nY := 3) (F := 8) (L := 143) (As := [.ref a, .int (Int32.ofInt 3)]) (b := 118) (rest := []) hm_123 rfl hm_127 rfl rfl (fl_ob sc_118) rfl rfl rfl rfl rfl (by omega) (by omega) (mc_127 hG F1 X hg_F1 (K) (a) (n) (3) (l) (tl) (ts) hgK tk15_ hko (by omega) h_a (by omega) (by omega) (hl) (htl) (by omega) ((rep_fs (by rw [q6_]; exact (rep_u hts (by omega) (by omega))) hf_F1 (fun _ => (fs_n (by omega) (fs_n (by omega) rfl))) (fs_n (by omega) (fs_n (by omega) rfl))))) ?_ ?_
      ·
        rintro j_ A1_ ⟨F31_, ⟨hJ_, hA_⟩, g32_, s33_, c30_⟩
        subst hA_
        subst hJ_
        refine ⟨rfl, ?_⟩
        refine gw_v ?_
        have g34_ : fs [(1, 1, 7, 8), (a, a + 2, 0, 100000)] F F31_ := fs_tr (fs_tr fs_refl g14_ (by simp [fs_le]; try omega)) s33_ (by simp [fs_le]; try omega)
        have b35_ : 0 ≤ F31_ 1 8 ∧ F31_ 1 8 ≤ 100000 := gi_g g32_ rfl
        have b36_ : 0 ≤ F 1 7 ∧ F 1 7 ≤ 600 := gi_g hgi rfl
        exact ⟨F31_, ⟨rfl, rfl⟩, g32_, g34_, (by obtain ⟨e, c1, c2⟩ := c30_; exact ⟨e, (by rw [hsp, spp_step (by omega) (by assumption), c1]; rfl), c2⟩)⟩
      rintro A1_ ⟨F41_, hA_, g42_, s43_, c38_, c39_, c40_⟩
      subst hA_
      have g44_ : fs [(1, 1, 7, 7), (a, a + 2, 0, 100000)] F F41_ := fs_tr g14_ s43_ (by simp [fs_le]; try omega)
      have tk45_ : tkh K F41_ := tkh_fs tk15_ s43_ (fun r k h => (fs_n (by omega) (fs_n (by omega) rfl))) (fs_n (by omega) (fs_n (by omega) rfl))
      obtain ⟨t_, ct1_, ct2_⟩ := c38_
      refine ga_inc (a := i) (c := i + 1) (lv2 := [(3, .int (Int32.ofInt (i + 1))), (0, .ref 118), (1, .ref a), (2, .int (Int32.ofInt mo))]) hm_123 rfl rfl (Nat.le_of_ble_eq_true rfl) rfl rfl ?_
      refine fl_goto hm_123 rfl ?_
      have b46_ : 0 ≤ F41_ a 2 ∧ F41_ a 2 ≤ (n : Int) := gi_g g42_ h_a.2.1.1
      have b47_ : 0 ≤ F1 a 2 ∧ F1 a 2 ≤ (n : Int) := gi_g hg_F1 h_a.2.1.1
      have b48_ : 0 ≤ F41_ 1 7 ∧ F41_ 1 7 ≤ 600 := gi_g g42_ rfl
      have b49_ : 0 ≤ K 1 6 ∧ K 1 6 ≤ 601 := gi_g hgK rfl
      have b50_ : 0 ≤ F 1 7 ∧ F 1 7 ≤ 600 := gi_g hgi rfl
      exact ih12_ _ (by omega) (i + 1) (_) (_) F41_ rfl g42_ (fs_tr hf_F1 s43_ (by simp [fs_le]; try omega)) (by omega) (c40_) (ct2_) (by simp; omega) (by omega) (by rw [hsp, spp_step (by omega) (by assumption), ct1_]; rfl)
    refine fl_iconst hm_153 rfl ?_
    refine fl_goto hm_153 rfl ?_
    refine gr_i hm_153 rfl rfl (ga_nb (by omega)) ?_
    clear h23_ h24_ f21_ l22_
    refine fl_if_ne hm_123 rfl ⟨by omega, by omega⟩ (fun _ => ?_) (fun h => absurd (by omega) h)
    refine gr_v hm_123 rfl rfl ?_
    have b51_ : 0 ≤ F1 a 2 ∧ F1 a 2 ≤ (n : Int) := gi_g hg_F1 h_a.2.1.1
    have b52_ : 0 ≤ F 1 7 ∧ F 1 7 ≤ 600 := gi_g hgi rfl
    exact ⟨F1, rfl, hg_F1, g14_, (⟨l, tl, by rw [hsp]; first | exact spp_z (by omega) | exact spp_e (by assumption), hl, htl⟩), (by omega)⟩
  have e53_ : F5_ a 2 = 0 := by rw [q6_]; exact fl_u_eq
  have e54_ : F5_ 1 7 = F 1 7 := by rw [q6_]; exact fl_u_ne (by omega)
  have b55_ : 0 ≤ F 1 7 ∧ F 1 7 ≤ 600 := gi_g hgi rfl
  have b56_ : 0 ≤ K 1 6 ∧ K 1 6 ≤ 601 := gi_g hgK rfl
  exact L11_ _ (0) ([]) ([]) F5_ rfl g7_ fs_refl (by omega) (by rw [q6_, fl_u_eq]; exact rep_nil) (by rw [q6_, fl_u_eq]; exact rep_nil) (by simp) (by omega) (by rw [e54_]; simp)

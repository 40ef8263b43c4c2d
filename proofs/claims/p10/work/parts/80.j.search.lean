/-! the reference's findGoal and grow -/
theorem pR_cg {F F' : fl_N} (h39 : F' 344 39 = F 344 39) (h46 : F' 344 46 = F 344 46) (h47 : F' 344 47 = F 344 47) (h48 : F' 344 48 = F 344 48) (e57 : ∀ j, F' 357 j = F 357 j) (e67 : ∀ j, F' 367 j = F 367 j) (e69 : ∀ j, F' 369 j = F 369 j) (e70 : ∀ j, F' 370 j = F 370 j) (e71 : ∀ j, F' 371 j = F 371 j) (e72 : ∀ j, F' 372 j = F 372 j) : pR F' = pR F := by
  have k57 : F' 357 = F 357 := funext e57
  have k67 : F' 367 = F 367 := funext e67
  have k69 : F' 369 = F 369 := funext e69
  have k70 : F' 370 = F 370 := funext e70
  have k71 : F' 371 = F 371 := funext e71
  have k72 : F' 372 = F 372 := funext e72
  unfold pR cbe dne gR
  rw [h39, h46, h47, h48, k57, k67, k69, k70, k71, k72]
theorem cb_cg {F F' : fl_N} {s x : Int} (e69 : ∀ j, F' 369 j = F 369 j) (e70 : ∀ j, F' 370 j = F 370 j) : cbe F' s x = cbe F s x := by
  unfold cbe
  rw [e69, e70]
theorem dn_cg {F F' : fl_N} {s x : Int} (e71 : ∀ j, F' 371 j = F 371 j) (e72 : ∀ j, F' 372 j = F 372 j) : dne F' s x = dne F s x := by
  unfold dne
  rw [e71, e72]
theorem gr_cg {F F' : fl_N} {x : Int} (h46 : F' 344 46 = F 344 46) (h47 : F' 344 47 = F 344 47) (h48 : F' 344 48 = F 344 48) : gR F' x = gR F x := by
  unfold gR
  rw [h46, h47, h48]
theorem tr_cg {F F' : fl_N} {T : tb_T} (hT : tR F T) (h49 : F' 344 49 = F 344 49) (h3 : ∀ j, F' 373 j = F 373 j) (h8 : ∀ j, F' 378 j = F 378 j) (h4 : ∀ j : Nat, j < T.length → F' 374 j = F 374 j) : tR F' T := by
  have e3 : F' 373 = F 373 := funext h3
  have e8 : F' 378 = F 378 := funext h8
  unfold tR
  rw [h49, e3, e8]
  exact ⟨hT.1, hT.2.1, fun i hi => (h4 i hi).trans (hT.2.2 i hi)⟩
theorem tr_add {F F' : fl_N} {T : tb_T} {f c : Int} {z : Nat} (hT : tR F T) (hs : slz hsh (F 373) (F 378) f z) (hno : has T f = false) (h49 : F' 344 49 = F 344 49 + 1) (hx : ∀ i, i < T.length → F' 373 i = F 373 i) (hx2 : F' 373 T.length = f) (h1 : F' 378 z = (T.length : Int) + 1) (h2 : ∀ j, ¬ j = z → F' 378 j = F 378 j) (hc : ∀ i, i < T.length → F' 374 i = F 374 i) (hc2 : F' 374 T.length = c) : tR F' (T ++ [(f, c)]) := by
  refine ⟨?_, hsz_add hT.2.1 hs hno hx hx2 h1 h2, fun i hi => ?_⟩
  · rw [h49, hT.1, List.length_append, List.length_singleton]
    omega
  · rw [List.length_append, List.length_singleton] at hi
    by_cases e : i < T.length
    · rw [hc i e, ca_app e]
      exact hT.2.2 i e
    · rw [show i = T.length by omega, hc2, ca_last]
theorem tr_re {F F' : fl_N} {T : tb_T} {n : Nat} {c : Int} (hT : tR F T) (h49 : F' 344 49 = F 344 49) (h3 : ∀ j, F' 373 j = F 373 j) (h8 : ∀ j, F' 378 j = F 378 j) (h4 : ∀ j : Nat, j ≠ n → F' 374 j = F 374 j) (hn : F' 374 n = c) (hc : n < T.length → ca T n = c) : tR F' T := by
  have e3 : F' 373 = F 373 := funext h3
  have e8 : F' 378 = F 378 := funext h8
  unfold tR
  rw [h49, e3, e8]
  refine ⟨hT.1, hT.2.1, fun i hi => ?_⟩
  by_cases e : i = n
  · subst e
    rw [hn, hc hi]
  · exact (h4 i e).trans (hT.2.2 i hi)
theorem tr_0 {B F' : fl_N} {f z : Int} (hz : ∀ j : Nat, j < 512 → B 378 j = 0) (hs : slr B f z) (h49 : F' 344 49 = 1) (h3 : F' 373 0 = f) (h4 : F' 374 0 = 0) (h8 : F' 378 z.toNat = 1) (ho : ∀ j : Nat, ¬ j = z.toNat → F' 378 j = B 378 j) : tR F' [(f, 0)] := by
  have h0 : hsz hsh (B 373) (B 378) [] := ⟨fun i hi => absurd hi (by simp), fun j hj => Or.inl (hz j hj), fun i hi => absurd hi (by simp)⟩
  have h := hsz_add (c := 0) (x' := F' 373) (s' := F' 378) h0 (slr_z hs) rfl (fun i hi => absurd hi (by simp)) h3 (by rw [h8]; rfl) ho
  refine ⟨by rw [h49]; rfl, h, fun i hi => ?_⟩
  rw [List.length_singleton] at hi
  rw [show i = 0 by omega, h4]
  rfl
/-- a step to the goal at cost c -/
def gqs (P : pp_T) (T : tb_T) (c : Int) (q : Nat × Nat) : Prop := (q.1 < T.length ∧ q.2 < P.1) ∧ way P T c q = true ∧ P.2.2.2.2 (nxs P T q)
def flI (P : pp_T) (T : tb_T) (c : Int) (i s : Nat) (b : Int) : Prop := b = 1 ↔ ∃ q, bfr q i s ∧ gqs P T c q
theorem flI_0 {P : pp_T} {T : tb_T} {c b : Int} (h : b = 0) : flI P T c 0 0 b := by
  refine ⟨fun h1 => absurd h1 (by omega), fun h1 => ?_⟩
  obtain ⟨q, hq, -⟩ := h1
  rcases hq with h2 | ⟨-, h2⟩
  · exact absurd h2 (by omega)
  · exact absurd h2 (by omega)
theorem flI_n {P : pp_T} {T : tb_T} {c b : Int} {i s : Nat} (h : flI P T c i s b) (hn : ¬ gqs P T c (i, s)) : flI P T c i (s + 1) b := by
  refine ⟨fun h1 => ?_, fun h1 => ?_⟩
  · obtain ⟨q, h2, h3⟩ := h.mp h1
    exact ⟨q, bfr_w h2, h3⟩
  · obtain ⟨q, hq, h1⟩ := h1
    rcases bfr_s hq with h2 | h2
    · exact h.mpr ⟨q, h2, h1⟩
    · rw [h2] at h1
      exact absurd h1 hn
theorem flI_y {P : pp_T} {T : tb_T} {c b : Int} {i s : Nat} (hb : b = 1) (hn : gqs P T c (i, s)) : flI P T c i (s + 1) b := ⟨fun _ => ⟨(i, s), Or.inr ⟨rfl, by show s < s + 1; omega⟩, hn⟩, fun _ => hb⟩
theorem flI_r {P : pp_T} {T : tb_T} {c b : Int} {i s : Nat} (h : flI P T c i s b) (hs : P.1 ≤ s) : flI P T c (i + 1) 0 b := by
  refine ⟨fun h1 => ?_, fun h1 => ?_⟩
  · obtain ⟨q, h2, h3⟩ := h.mp h1
    refine ⟨q, Or.inl ?_, h3⟩
    rcases h2 with h2 | ⟨h2, -⟩
    · omega
    · omega
  · obtain ⟨q, hq, h1⟩ := h1
    refine h.mpr ⟨q, ?_, h1⟩
    rcases hq with hq | ⟨-, hq⟩
    · by_cases e : q.1 = i
      · exact Or.inr ⟨e, by have h9 := h1.1.2; omega⟩
      · exact Or.inl (by omega)
    · exact absurd hq (by omega)
theorem flI_e {P : pp_T} {T : tb_T} {c b : Int} {i : Nat} (h : flI P T c i 0 b) (hi : T.length ≤ i) : b = 1 ↔ gol P c T = true := by
  rw [gol_grw]
  refine ⟨fun h1 => ?_, fun h1 => ?_⟩
  · obtain ⟨q, -, h2, h3, h4⟩ := h.mp h1
    exact ⟨q.1, h2.1, q.2, h2.2, h3, h4⟩
  · obtain ⟨j, h1, s, h2, h3, h4⟩ := h1
    exact h.mpr ⟨(j, s), Or.inl (by show j < i; omega), ⟨h1, h2⟩, h3, h4⟩
theorem way_x {F : fl_N} {T : tb_T} {i s : Nat} {c x y : Int} (hs : (s : Int) < F 344 39) (hx : xa T i = x) (hy : ca T i = y) : way (pR F) T c (i, s) = true ↔ y + F 357 (F 367 s).toNat = c ∧ cbe F (s : Int) x := by
  rw [way_t]
  show (ca T i + (pR F).2.1 s = c ∧ ((s : Int) < F 344 39 ∧ cbe F (s : Int) (xa T i))) ↔ _
  rw [pR_p hs, hx, hy]
  exact ⟨fun h => ⟨h.1, h.2.2⟩, fun h => ⟨h.1, hs, h.2⟩⟩
theorem nxs_x {F : fl_N} {T : tb_T} {i s : Nat} {x : Int} (hs : (s : Int) < F 344 39) (hx : xa T i = x) : nxs (pR F) T (i, s) = dne F (s : Int) x := by
  show (if (s : Int) < F 344 39 then dne F (s : Int) (xa T i) else 0) = _
  rw [if_pos hs, hx]
theorem gqs_x {F : fl_N} {T : tb_T} {i s : Nat} {c x y : Int} (hi : i < T.length) (hs : (s : Int) < F 344 39) (hx : xa T i = x) (hy : ca T i = y) : gqs (pR F) T c (i, s) ↔ (y + F 357 (F 367 s).toNat = c ∧ cbe F (s : Int) x) ∧ gR F (dne F (s : Int) x) := by
  unfold gqs
  rw [way_x hs hx hy, nxs_x hs hx]
  exact ⟨fun h => ⟨h.2.1, h.2.2⟩, fun h => ⟨⟨hi, by show s < (F 344 39).toNat; omega⟩, h.1, h.2⟩⟩
/-! grow: a part of a layer -/
noncomputable def gW (P : pp_T) (most : Nat) (c : Int) (T : tb_T) (i s : Nat) : tb_T × Bool := rsw P most c i s (lyW P most c T i)
theorem lyW_0 {P : pp_T} {most : Nat} {c : Int} {T : tb_T} : lyW P most c T 0 = (T, false) := rfl
theorem gW_0 {P : pp_T} {most : Nat} {c : Int} {T : tb_T} {i : Nat} : gW P most c T i 0 = lyW P most c T i := rfl
theorem gW_r {P : pp_T} {most : Nat} {c : Int} {T : tb_T} {i : Nat} : lyW P most c T (i + 1) = gW P most c T i P.1 := lyW_s
theorem fold_c {P : pp_T} {most : Nat} {c : Int} : ∀ (L : List (Nat × Nat)) (W : tb_T × Bool), ∃ N, (L.foldl (wst P most c) W).1 = W.1 ++ N ∧ ∀ e ∈ N, e.2 = c := by
  intro L
  induction L with
  | nil => intro W; exact ⟨[], by simp, fun e he => absurd he (by simp)⟩
  | cons q L ih =>
    intro W
    have h1 : ∃ N, (wst P most c W q).1 = W.1 ++ N ∧ ∀ e ∈ N, e.2 = c := by
      unfold wst
      split
      · split
        · exact ⟨_, rfl, fun e he => by rw [List.mem_singleton.mp he]⟩
        · exact ⟨[], by simp, fun e he => absurd he (by simp)⟩
      · exact ⟨[], by simp, fun e he => absurd he (by simp)⟩
    obtain ⟨N1, h1, h3⟩ := h1
    obtain ⟨N2, h2, h4⟩ := ih (wst P most c W q)
    refine ⟨N1 ++ N2, by rw [List.foldl_cons, h2, h1, List.append_assoc], fun e he => ?_⟩
    rcases List.mem_append.mp he with h5 | h5
    · exact h3 e h5
    · exact h4 e h5
theorem gW_c {P : pp_T} {most : Nat} {c : Int} {T : tb_T} {i s : Nat} : ∃ N, (gW P most c T i s).1 = T ++ N ∧ ∀ e ∈ N, e.2 = c := by
  obtain ⟨N1, h1, h3⟩ := fold_c (P := P) (most := most) (c := c) (prs i P.1) (T, false)
  obtain ⟨N2, h2, h4⟩ := fold_c (P := P) (most := most) (c := c) (rowp i s) (lyW P most c T i)
  refine ⟨N1 ++ N2, ?_, fun e he => ?_⟩
  · show (List.foldl (wst P most c) (lyW P most c T i) (rowp i s)).1 = _
    rw [h2, show (lyW P most c T i).1 = T ++ N1 from h1, List.append_assoc]
  · rcases List.mem_append.mp he with h5 | h5
    · exact h3 e h5
    · exact h4 e h5
theorem gW_x {F : fl_N} {P : pp_T} {most : Nat} {c : Int} {T : tb_T} {i s j : Nat} (h : tR F (gW P most c T i s).1) (hj : j < T.length) : xa T j = F 373 j ∧ ca T j = F 374 j := by
  obtain ⟨N, hN, -⟩ := gW_c (P := P) (most := most) (c := c) (T := T) (i := i) (s := s)
  have hl : j < (gW P most c T i s).1.length := by
    rw [hN, List.length_append]
    omega
  have h1 := h.2.1.1 j hl
  have h2 := h.2.2 j hl
  rw [hN, xa_app hj] at h1
  rw [hN, ca_app hj] at h2
  exact ⟨h1.symm, h2.symm⟩
theorem gW_k {P : pp_T} {most : Nat} {c : Int} {T : tb_T} {i s n : Nat} (hn : T.length ≤ n) : n < (gW P most c T i s).1.length → ca (gW P most c T i s).1 n = c := by
  obtain ⟨N, hN, h2⟩ := gW_c (P := P) (most := most) (c := c) (T := T) (i := i) (s := s)
  rw [hN]
  exact fun h => ca_new hn h h2
theorem gW_le {P : pp_T} {most : Nat} {c : Int} {T : tb_T} {i s : Nat} : T.length ≤ (gW P most c T i s).1.length := by
  obtain ⟨N, hN, -⟩ := gW_c (P := P) (most := most) (c := c) (T := T) (i := i) (s := s)
  rw [hN, List.length_append]
  omega
theorem gW_n {P : pp_T} {most : Nat} {c : Int} {T : tb_T} {i s : Nat} (hi : i < T.length) (h : ¬ way P T c (i, s) = true) : gW P most c T i (s + 1) = gW P most c T i s := by
  obtain ⟨N, hN, -⟩ := gW_c (P := P) (most := most) (c := c) (T := T) (i := i) (s := s)
  show rsw P most c i (s + 1) _ = _
  rw [rsw_s]
  refine wst_n ?_
  rw [show (rsw P most c i s (lyW P most c T i)).1 = T ++ N from hN, way_app hi]
  exact h
theorem gW_h {P : pp_T} {most : Nat} {c : Int} {T : tb_T} {i s : Nat} (hi : i < T.length) (h : has (gW P most c T i s).1 (nxs P T (i, s)) = true) : gW P most c T i (s + 1) = gW P most c T i s := by
  obtain ⟨N, hN, -⟩ := gW_c (P := P) (most := most) (c := c) (T := T) (i := i) (s := s)
  show rsw P most c i (s + 1) _ = _
  rw [rsw_s]
  refine wst_h ?_
  rw [show nxs P (rsw P most c i s (lyW P most c T i)).1 (i, s) = nxs P T (i, s) by rw [show (rsw P most c i s (lyW P most c T i)).1 = T ++ N from hN, nxs_app hi]]
  exact h
theorem gW_i {P : pp_T} {most : Nat} {c : Int} {T : tb_T} {i s : Nat} (hi : i < T.length) (hs : s < P.1) (hg : gol P c T = false) (h1 : way P T c (i, s) = true) (h3 : has (gW P most c T i s).1 (nxs P T (i, s)) = false) : gW P most c T i (s + 1) = if (gW P most c T i s).1.length < most then ((gW P most c T i s).1 ++ [(nxs P T (i, s), c)], (gW P most c T i s).2) else ((gW P most c T i s).1, true) := by
  obtain ⟨N, hN, -⟩ := gW_c (P := P) (most := most) (c := c) (T := T) (i := i) (s := s)
  have e : nxs P (rsw P most c i s (lyW P most c T i)).1 (i, s) = nxs P T (i, s) := by rw [show (rsw P most c i s (lyW P most c T i)).1 = T ++ N from hN, nxs_app hi]
  have e1 := wst_i (P := P) (most := most) (c := c) (W := rsw P most c i s (lyW P most c T i)) (q := (i, s)) (by rw [show (rsw P most c i s (lyW P most c T i)).1 = T ++ N from hN, way_app hi]; exact h1) (by rw [e]; exact gol_no hg hi hs h1) (by rw [e]; exact h3)
  rw [e] at e1
  show rsw P most c i (s + 1) _ = _
  rw [rsw_s]
  exact e1
theorem wst_t {P : pp_T} {most : Nat} {c : Int} {W : tb_T × Bool} {q : Nat × Nat} (h : W.2 = true) : (wst P most c W q).2 = true := by
  unfold wst
  split
  · split
    · exact h
    · rfl
  · exact h
theorem fold_t {P : pp_T} {most : Nat} {c : Int} : ∀ (L : List (Nat × Nat)) (W : tb_T × Bool), W.2 = true → (L.foldl (wst P most c) W).2 = true := by
  intro L
  induction L with
  | nil => intro W h; exact h
  | cons q L ih => intro W h; rw [List.foldl_cons]; exact ih _ (wst_t h)
theorem gW_up {P : pp_T} {most : Nat} {c : Int} {T : tb_T} {i : Nat} : ∀ (d s : Nat), (gW P most c T i s).2 = true → (gW P most c T i (s + d)).2 = true := by
  intro d
  induction d with
  | zero => intro s h; exact h
  | succ d ih =>
    intro s h
    rw [show s + (d + 1) = (s + d) + 1 by omega]
    show (rsw P most c i (s + d + 1) _).2 = true
    rw [rsw_s]
    exact wst_t (ih s h)
theorem lyW_up {P : pp_T} {most : Nat} {c : Int} {T : tb_T} : ∀ (d i : Nat), (lyW P most c T i).2 = true → (lyW P most c T (i + d)).2 = true := by
  intro d
  induction d with
  | zero => intro i h; exact h
  | succ d ih =>
    intro i h
    rw [show i + (d + 1) = (i + d) + 1 by omega, lyW_s]
    exact fold_t _ _ (ih i h)
theorem gW_crw {P : pp_T} {most : Nat} {c : Int} {T : tb_T} {i s : Nat} (hi : i < T.length) (hs : s < P.1) (h : (gW P most c T i (s + 1)).2 = true) : (lay P most c T).2 = true := by
  have h1 := gW_up (P.1 - (s + 1)) (s + 1) h
  rw [show s + 1 + (P.1 - (s + 1)) = P.1 by omega, ← gW_r] at h1
  have h2 := lyW_up (T.length - (i + 1)) (i + 1) h1
  rw [show i + 1 + (T.length - (i + 1)) = T.length by omega] at h2
  exact h2
theorem lay_gt {P : pp_T} {most : Nat} {c : Int} {T : tb_T} (hn : nw P T c) (hg : gol P c T = false) (hc : (lay P most c T).2 = false) : T.length < (lay P most c T).1.length := by
  obtain ⟨N, a1, a2, a3, -⟩ := lay_ok (P := P) (most := most) (c := c) (T := T)
  obtain ⟨q, h1, h2, h3, h4⟩ := hn
  have hw : way P T c q = true := way_t.mpr ⟨h2, h3⟩
  rcases a3 q (prs_mem.mpr h1) hw (gol_no hg h1.1 h1.2 hw) with h5 | h5
  · rw [a1] at h5 ⊢
    cases N with
    | nil =>
      rw [List.append_nil, h4] at h5
      cases h5
    | cons e N =>
      rw [List.length_append, List.length_cons]
      omega
  · rw [hc] at h5
    cases h5
theorem lay_ca {P : pp_T} {most : Nat} {c : Int} {T : tb_T} (hn : nw P T c) (hp : ∀ s, s < P.1 → 1 ≤ P.2.1 s ∧ P.2.1 s ≤ 999) (h : ∀ i : Nat, i < T.length → 0 ≤ ca T i ∧ ca T i ≤ 999 * (i : Int)) : ∀ i : Nat, i < (lay P most c T).1.length → 0 ≤ ca (lay P most c T).1 i ∧ ca (lay P most c T).1 i ≤ 999 * (i : Int) := by
  obtain ⟨N, a1, a2, -, -⟩ := lay_ok (P := P) (most := most) (c := c) (T := T)
  obtain ⟨q, h1, h2, -, -⟩ := hn
  have h3 := h q.1 h1.1
  have h4 := hp q.2 h1.2
  have h5 := h1.1
  intro i hi
  rw [a1] at hi ⊢
  by_cases e : i < T.length
  · rw [ca_app e]
    exact h i e
  · rw [ca_new (by omega) hi (fun e he => (a2 e he).1)]
    omega
theorem r_none {P : pp_T} {most : Nat} {T0 T : tb_T} (h0 : cms P most T0 T) (h : ∀ c, ¬ nw P T c) : ∃ k, resu P most k T0 0 (-1) := by
  refine h0 1 0 (-1) ?_
  unfold resu
  exact Or.inl ⟨h, rfl, rfl⟩
theorem r_gol {P : pp_T} {most : Nat} {T0 T : tb_T} {c : Int} (h0 : cms P most T0 T) (hn : nxt P T c) (hg : gol P c T = true) : ∃ k, resu P most k T0 0 c := by
  refine h0 1 0 c ?_
  unfold resu
  exact Or.inr ⟨c, hn, Or.inl ⟨hg, rfl, rfl⟩⟩
theorem r_crw {P : pp_T} {most : Nat} {T0 T : tb_T} {c : Int} (h0 : cms P most T0 T) (hn : nxt P T c) (hg : gol P c T = false) (hc : (lay P most c T).2 = true) : ∃ k, resu P most k T0 3 0 := by
  refine h0 1 3 0 ?_
  unfold resu
  exact Or.inr ⟨c, hn, Or.inr (Or.inl ⟨hg, hc, rfl, rfl⟩)⟩
theorem r_lay {P : pp_T} {most : Nat} {T0 T : tb_T} {c : Int} (h0 : cms P most T0 T) (hn : nxt P T c) (hg : gol P c T = false) (hc : (lay P most c T).2 = false) : cms P most T0 (lay P most c T).1 := fun k o v hr => by
  refine h0 (k + 1) o v ?_
  unfold resu
  exact Or.inr ⟨c, hn, Or.inr (Or.inr ⟨hg, hc, hr⟩)⟩
/-- what the reference's plan() answers -/
def plR (F : fl_N) (mo o v : Int) : Prop := (gR F (F 344 38) ∧ o = 0 ∧ v = 0) ∨ (¬ gR F (F 344 38) ∧ ∃ j, resu (pR F) mo.toNat j [(F 344 38, 0)] o v)
theorem nxt_no {P : pp_T} {T : tb_T} {c : Int} (hp : ∀ s, s < P.1 → 1 ≤ P.2.1 s ∧ P.2.1 s ≤ 999) (h : ∀ i : Nat, i < T.length → 0 ≤ ca T i ∧ ca T i ≤ 999 * (i : Int)) (hn : nxt P T c) : 1 ≤ c := by
  obtain ⟨⟨q, h1, h2, -, -⟩, -⟩ := hn
  have h3 := h q.1 h1.1
  have h4 := hp q.2 h1.2
  omega
theorem pR_b {F : fl_N} (h : ∀ s : Nat, (s : Int) < F 344 39 → 1 ≤ F 357 (F 367 s).toNat ∧ F 357 (F 367 s).toNat ≤ 999) : ∀ s, s < (pR F).1 → 1 ≤ (pR F).2.1 s ∧ (pR F).2.1 s ≤ 999 := fun s hs => by
  have hs' : (s : Int) < F 344 39 := by
    rw [pR_n] at hs
    omega
  rw [pR_p hs']
  exact h s hs'

/-! both searches have the same parameters -/
theorem pC_pR {F : fl_N} (hg : gi F) (h : ivM F) (h40 : F 120 3 ≤ 40) (he : F 344 39 = F 120 3) : pC F = pR F := by
  unfold pC pR
  rw [he]
  refine Prod.ext rfl (Prod.ext ?_ (Prod.ext ?_ (Prod.ext ?_ ?_)))
  · funext s
    show (if (s : Int) < F 120 3 then F (126 + 5 * s) 2 else 1) = (if (s : Int) < F 120 3 then F 357 (F 367 s).toNat else 1)
    by_cases e : (s : Int) < F 120 3
    · rw [if_pos e, if_pos e]
      exact (h.1 s e).2.2.2
    · rw [if_neg e, if_neg e]
  · funext s x
    show ((s : Int) < F 120 3 ∧ hN F (126 + 5 * s + 2) x) = ((s : Int) < F 120 3 ∧ cbe F (s : Int) x)
    apply propext
    constructor
    · rintro ⟨h1, h2⟩
      exact ⟨h1, (hC_cbe (i := (s : Int)) hg ⟨by omega, by omega⟩ (h.1 s h1)).mp h2⟩
    · rintro ⟨h1, h2⟩
      exact ⟨h1, (hC_cbe (i := (s : Int)) hg ⟨by omega, by omega⟩ (h.1 s h1)).mpr h2⟩
  · funext s x
    show (if (s : Int) < F 120 3 then aC F (s : Int) x else 0) = (if (s : Int) < F 120 3 then dne F (s : Int) x else 0)
    by_cases e : (s : Int) < F 120 3
    · rw [if_pos e, if_pos e]
      exact aC_dne (i := (s : Int)) (h.1 s e)
    · rw [if_neg e, if_neg e]
  · funext x
    exact propext (gC_gR hg h)
theorem pl_u {F : fl_N} {mo o v o' v' : Int} (hg : gi F) (h : ivM F) (h40 : F 120 3 ≤ 40) (he : F 344 39 = F 120 3) (h1 : plE F mo o v) (h2 : plR F mo o' v') : o = o' ∧ v = v' := by
  unfold plE at h1
  unfold plR at h2
  rw [pC_pR hg h h40 he, h.2.1] at h1
  rcases h1 with ⟨a1, a2, a3⟩ | ⟨a1, j, a2⟩
  · rcases h2 with ⟨b1, b2, b3⟩ | ⟨b1, k, b2⟩
    · exact ⟨a2.trans b2.symm, a3.trans b3.symm⟩
    · exact absurd ((gC_gR hg h).mp a1) b1
  · rcases h2 with ⟨b1, b2, b3⟩ | ⟨b1, k, b2⟩
    · exact absurd ((gC_gR hg h).mpr b1) a1
    · exact resu_u j k _ o v o' v' a2 b2
theorem plR_cg {F F' : fl_N} {mo o v : Int} (c : ∀ r k, 344 ≤ r → r < 386 → F' r k = F r k) (h : plR F' mo o v) : plR F mo o v := by
  have e : pR F' = pR F := pR_cg (c 344 39 (by decide) (by decide)) (c 344 46 (by decide) (by decide)) (c 344 47 (by decide) (by decide)) (c 344 48 (by decide) (by decide)) (fun j => c 357 j (by decide) (by decide)) (fun j => c 367 j (by decide) (by decide)) (fun j => c 369 j (by decide) (by decide)) (fun j => c 370 j (by decide) (by decide)) (fun j => c 371 j (by decide) (by decide)) (fun j => c 372 j (by decide) (by decide))
  unfold plR at h ⊢
  rw [e, c 344 38 (by decide) (by decide), gr_cg (c 344 46 (by decide) (by decide)) (c 344 47 (by decide) (by decide)) (c 344 48 (by decide) (by decide))] at h
  exact h
/-- a step's price is at least 1, and an action's -/
theorem prc_1 {F : fl_N} (hg : gi F) {tl : List Int} {D : List ad_T} (h1 : F 120 3 = ((stP tl D D.length).length : Int)) (h40 : F 120 3 ≤ 40) (h2 : sts F D (stP tl D D.length)) {s : Nat} (hs : (s : Int) < F 120 3) : 1 ≤ F (126 + 5 * s) 2 ∧ F (126 + 5 * s) 2 ≤ 999 := by
  have hb := prc_b hg (s := s) (by omega)
  have hl : s < (stP tl D D.length).length := by omega
  have h3 := (h2 s _ (List.getElem?_eq_getElem hl)).2.2.1
  refine ⟨?_, hb.2⟩
  rw [h3] at hb ⊢
  by_cases e : (dat D ((stP tl D D.length)[s]).1).2.2.2 = 0
  · rw [if_pos e]
    omega
  · rw [if_neg e] at hb ⊢
    omega
theorem prc_5 {F : fl_N} (hg : gi F) (h : ivM F) {s : Nat} (hs : (s : Int) < F 120 3) : ∃ a, a < 5 ∧ F (126 + 5 * s) 2 = F 357 a := by
  have h1 := (h.1 s hs).2.2.2
  have h2 : 0 ≤ F 367 s ∧ F 367 s ≤ 4 := gi_g hg rfl
  exact ⟨(F 367 s).toNat, by omega, h1⟩

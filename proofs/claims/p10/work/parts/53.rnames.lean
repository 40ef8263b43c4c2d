def sp_nm (K : fl_N) (p : Int) : PR Int := if K 3 p.toNat = 2 then .inr p else pf K p 1
theorem nr_1 {f : Nat → Int} {s e : Int} (h0 : 0 ≤ s) (hc : ¬ isnc (f s.toNat)) : nmr f s e = 0 := by
  unfold nmr
  split
  · rfl
  · rename_i h
    rw [show (e - s).toNat = (e - s - 1).toNat + 1 by omega]
    unfold nro
    rw [if_neg hc]
theorem tk_name {K : fl_N} (h : rkt K) (hg : gi K) {p : Int} (h0 : 0 ≤ p) (h1 : p ≤ K 1 6 - 1) : (K 3 p.toNat = 2 → nrel (K 6 p.toNat) (nmr (K 2) (K 4 p.toNat) (K 5 p.toNat))) ∧ (¬ K 3 p.toNat = 2 → nmr (K 2) (K 4 p.toNat) (K 5 p.toNat) = 0) := by
  have hP := rkt_p h h0 h1 hg
  by_cases e : p = K 1 6 - 1
  · have := hP.2.2 e
    refine ⟨fun h9 => absurd h9 (by omega), fun _ => ?_⟩
    unfold nmr
    rw [if_pos (by omega)]
  · obtain ⟨⟨h2, h3, h4⟩, h5⟩ := h.2.1 p h0 (by omega)
    rw [h3, h4]
    by_cases c1 : K 2 (K 4 p.toNat).toNat = 40 ∨ K 2 (K 4 p.toNat).toNat = 41
    · have k1 : ¬ tkk (K 2) (K 4 p.toNat).toNat (K 5 p.toNat).toNat = 2 := by
        unfold tkk
        rcases c1 with c | c
        · rw [if_pos c]; omega
        · rw [if_neg (by omega), if_pos c]; omega
      exact ⟨fun h9 => absurd h9 k1, fun _ => nr_1 h2.1 (by unfold isnc; omega)⟩
    · by_cases c2 : K 2 (K 4 p.toNat).toNat = 63
      · have k1 : ¬ tkk (K 2) (K 4 p.toNat).toNat (K 5 p.toNat).toNat = 2 := by
          unfold tkk
          rw [if_neg (by omega), if_neg (by omega), if_pos c2]
          split <;> omega
        exact ⟨fun h9 => absurd h9 k1, fun _ => nr_1 h2.1 (by unfold isnc; omega)⟩
      · have e1 : tkc (K 2) (K 4 p.toNat).toNat (K 5 p.toNat).toNat = nmc (K 2) (K 4 p.toNat).toNat (K 5 p.toNat).toNat := by
          unfold tkc
          rw [if_neg c1, if_neg c2]
        have e2 : tkk (K 2) (K 4 p.toNat).toNat (K 5 p.toNat).toNat = if nmc (K 2) (K 4 p.toNat).toNat (K 5 p.toNat).toNat = 0 then 4 else 2 := by
          unfold tkk
          rw [if_neg (by omega), if_neg (by omega), e1]
          split <;> rfl
        rw [e1, e2]
        rcases nm_rel (K 2) h2.1 h2.2.1 with ⟨a, b⟩ | a
        · rw [a, if_pos rfl]
          exact ⟨fun h9 => absurd h9 (by omega), fun _ => b⟩
        · have := nrel_pos a
          rw [if_neg (by omega)]
          exact ⟨fun _ => a, fun h9 => absurd rfl h9⟩
theorem tk_var {K : fl_N} (h : rkt K) (hg : gi K) {p : Int} (h0 : 0 ≤ p) (h1 : p ≤ K 1 6 - 1) : (K 3 p.toNat = 3 → (1 < K 5 p.toNat - K 4 p.toNat ∧ K 2 (K 4 p.toNat).toNat = 63) ∧ nrel (K 6 p.toNat) (nmr (K 2) (K 4 p.toNat + 1) (K 5 p.toNat))) ∧ (¬ K 3 p.toNat = 3 → 1 < K 5 p.toNat - K 4 p.toNat → K 2 (K 4 p.toNat).toNat = 63 → nmr (K 2) (K 4 p.toNat + 1) (K 5 p.toNat) = 0) := by
  have hP := rkt_p h h0 h1 hg
  by_cases e : p = K 1 6 - 1
  · have := hP.2.2 e
    exact ⟨fun h9 => absurd h9 (by omega), fun _ h8 => absurd h8 (by omega)⟩
  · obtain ⟨⟨h2, h3, h4⟩, h5⟩ := h.2.1 p h0 (by omega)
    rw [h3, h4]
    by_cases c1 : K 2 (K 4 p.toNat).toNat = 40 ∨ K 2 (K 4 p.toNat).toNat = 41
    · have k1 : ¬ tkk (K 2) (K 4 p.toNat).toNat (K 5 p.toNat).toNat = 3 := by
        unfold tkk
        rcases c1 with c | c
        · rw [if_pos c]; omega
        · rw [if_neg (by omega), if_pos c]; omega
      exact ⟨fun h9 => absurd h9 k1, fun _ _ h7 => absurd h7 (by omega)⟩
    · by_cases c2 : K 2 (K 4 p.toNat).toNat = 63
      · have e1 : tkc (K 2) (K 4 p.toNat).toNat (K 5 p.toNat).toNat = nmc (K 2) (K 4 p.toNat + 1).toNat (K 5 p.toNat).toNat := by
          unfold tkc
          rw [if_neg c1, if_pos c2, show (K 4 p.toNat + 1).toNat = (K 4 p.toNat).toNat + 1 by omega]
        have e2 : tkk (K 2) (K 4 p.toNat).toNat (K 5 p.toNat).toNat = if nmc (K 2) (K 4 p.toNat + 1).toNat (K 5 p.toNat).toNat = 0 then 4 else 3 := by
          unfold tkk
          rw [if_neg (by omega), if_neg (by omega), e1]
          split <;> rfl
        rw [e1, e2]
        by_cases c3 : K 4 p.toNat + 1 < K 5 p.toNat
        · rcases nm_rel (K 2) (s := K 4 p.toNat + 1) (by omega) c3 with ⟨a, b⟩ | a
          · rw [a, if_pos rfl]
            exact ⟨fun h9 => absurd h9 (by omega), fun _ _ _ => b⟩
          · have := nrel_pos a
            rw [if_neg (by omega)]
            exact ⟨fun _ => ⟨⟨by omega, c2⟩, a⟩, fun h9 => absurd rfl h9⟩
        · have z : nmc (K 2) (K 4 p.toNat + 1).toNat (K 5 p.toNat).toNat = 0 := by
            unfold nmc
            rw [if_neg (by omega), show (K 5 p.toNat).toNat - (K 4 p.toNat + 1).toNat = 0 by omega]
            rfl
          rw [z, if_pos rfl]
          exact ⟨fun h9 => absurd h9 (by omega), fun _ h8 => absurd h8 (by omega)⟩
      · have k1 : ¬ tkk (K 2) (K 4 p.toNat).toNat (K 5 p.toNat).toNat = 3 := by
          unfold tkk
          rw [if_neg (by omega), if_neg (by omega)]
          first | (split <;> omega) | (rw [if_neg c2]; split <;> omega)
        exact ⟨fun h9 => absurd h9 k1, fun _ _ h7 => absurd h7 c2⟩
theorem nn_k {k x z : Int} (h : ¬ k = 2 → x = 0) (hz : z = x) (hn : ¬ z = 0) : k = 2 := by
  by_cases e : k = 2
  · exact e
  · exact absurd (hz.trans (h e)) hn
theorem nn_r {k x c z : Int} (h : (k = 2 → nrel c x) ∧ (¬ k = 2 → x = 0)) (hz : z = x) (hn : ¬ z = 0) : nrel c z := by
  rw [hz]
  exact h.1 (nn_k h.2 hz hn)
theorem nn_n {k x c z : Int} (h : k = 2 → nrel c x) (hz : z = x) (hn : z = 0) : ¬ k = 2 := fun e => by
  have := nrel_pos (h e)
  omega
theorem iv_k {k x z a b : Int} (h : ¬ k = 3 → 1 < a → b = 63 → x = 0) (h1 : 1 < a) (h2 : b = 63) (hz : z = x) (hn : 0 < z) : k = 3 := by
  by_cases e : k = 3
  · exact e
  · have := h e h1 h2
    omega
theorem fd_idx {f : Nat → Int} {fm k : Int} (h : 0 ≤ fm) (hk : 0 ≤ k) : f (fm + k).toNat = f (fm.toNat + k.toNat) := by
  rw [show (fm + k).toNat = fm.toNat + k.toNat by omega]
theorem fd_eq {f : Nat → Int} {fm k z n v : Int} (h : (z = -1 ∧ ∀ j : Nat, k < (j : Int) → (j : Int) < n → f (fm.toNat + j) ≠ v) ∨ ((k < z ∧ z < n) ∧ f (fm.toNat + z.toNat) = v ∧ ∀ j : Nat, k < (j : Int) → (j : Int) < z → f (fm.toNat + j) ≠ v)) (hk : 0 ≤ k ∧ k < n ∧ 0 ≤ fm) (he : f (fm + k).toNat = v) : (k = -1 ∧ ∀ j : Nat, k - 1 < (j : Int) → (j : Int) < n → f (fm.toNat + j) ≠ v) ∨ ((k - 1 < k ∧ k < n) ∧ f (fm.toNat + k.toNat) = v ∧ ∀ j : Nat, k - 1 < (j : Int) → (j : Int) < k → f (fm.toNat + j) ≠ v) :=
  Or.inr ⟨⟨by omega, by omega⟩, by rw [show fm.toNat + k.toNat = (fm + k).toNat by omega]; exact he, fun j h1 h2 => absurd h2 (by omega)⟩
theorem fd_ne {f : Nat → Int} {fm k z n v : Int} (h : (z = -1 ∧ ∀ j : Nat, k < (j : Int) → (j : Int) < n → f (fm.toNat + j) ≠ v) ∨ ((k < z ∧ z < n) ∧ f (fm.toNat + z.toNat) = v ∧ ∀ j : Nat, k < (j : Int) → (j : Int) < z → f (fm.toNat + j) ≠ v)) (hk : 0 ≤ k ∧ k < n ∧ 0 ≤ fm) (he : ¬ f (fm + k).toNat = v) : (z = -1 ∧ ∀ j : Nat, k - 1 < (j : Int) → (j : Int) < n → f (fm.toNat + j) ≠ v) ∨ ((k - 1 < z ∧ z < n) ∧ f (fm.toNat + z.toNat) = v ∧ ∀ j : Nat, k - 1 < (j : Int) → (j : Int) < z → f (fm.toNat + j) ≠ v) := by
  have key : ∀ j : Nat, k - 1 < (j : Int) → ¬ k < (j : Int) → f (fm.toNat + j) ≠ v := fun j h1 h2 => by
    rw [show fm.toNat + j = (fm + k).toNat by omega]
    exact he
  rcases h with h | h
  · refine Or.inl ⟨h.1, fun j h1 h2 => ?_⟩
    by_cases e : k < (j : Int)
    · exact h.2 j e h2
    · exact key j h1 e
  · refine Or.inr ⟨⟨by omega, h.1.2⟩, h.2.1, fun j h1 h2 => ?_⟩
    by_cases e : k < (j : Int)
    · exact h.2.2 j e h2
    · exact key j h1 e
def sp_rt (K : fl_N) (ts : List Int) (p : Int) : PR (Int × Int) := if isw K p [45] = true then sp_type K ts (sk K p) else .inr (p, -1)
theorem rpn_fs {F F' : fl_N} {S : List (Nat × Nat × Nat × Nat)} {a b k : Nat} {l : List Int} (h : rpn (F a) (F b k) l) (hf : fs S F F') (h1 : ∀ j, fs_in S a j = false) (h2 : fs_in S b k = false) : rpn (F' a) (F' b k) l := by
  have e : F' a = F a := funext (fun j => hf a j (h1 j))
  rw [e, hf b k h2]
  exact h
theorem rpn_u {F : fl_N} {a b k c j : Nat} {z : Int} {l : List Int} (h : rpn (F a) (F b k) l) (h1 : c ≠ a) (h2 : ¬ (b = c ∧ k = j)) : rpn ((fl_u F c j z) a) ((fl_u F c j z) b k) l := by
  rw [fl_u_r (Ne.symm h1), fl_u_ne h2]
  exact h
theorem ra_fi {g : Nat → Int} {n z c v : Int} {l : List Int} (h : rpn g n l) (hr : nrel c v) (h1 : -1 ≤ z ∧ z < n ∨ z = -1) (h2 : z = -1 → ∀ j : Nat, (j : Int) < n → g ((0 : Int).toNat + j) ≠ v) (h3 : 0 ≤ z → g ((0 : Int).toNat + z.toNat) = v ∧ ∀ j : Nat, (j : Int) < z → g ((0 : Int).toNat + j) ≠ v) : idx l c = z := by
  have hn := h.1
  refine rpn_find h hr (by omega) (fun e j hj => ?_) (fun e => ?_)
  · have := h2 e j hj
    rwa [show (0 : Int).toNat + j = j by simp] at this
  · have h9 := h3 e
    rw [show (0 : Int).toNat + z.toNat = z.toNat by simp] at h9
    refine ⟨h9.1, fun j hj => ?_⟩
    have := h9.2 j hj
    rwa [show (0 : Int).toNat + j = j by simp] at this
theorem nm_no {K : fl_N} {p : Int} {e : Int × Int} (h : sp_nm K p = .inl e) : ¬ K 3 p.toNat = 2 := fun h1 => by
  rw [sp_nm, if_pos h1] at h
  cases h


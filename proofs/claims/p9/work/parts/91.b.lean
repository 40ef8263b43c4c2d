/-! the class's search: its tables -/
noncomputable def hshC (f : Int) : Int := lus (lmu f (-7046029254386353131)) 55
theorem lus_55 (a : Int) : 0 ≤ lus a 55 ∧ lus a 55 ≤ 511 := by
  have e : lus a 55 = (((Int64.ofInt a).toUInt64 >>> ((Int32.ofInt 55).toInt64.toUInt64 &&& Int64.toUInt64 63)).toInt64).toInt := lop_e 4 a 55
  obtain ⟨z, hz, h0, h1⟩ := ga_u55 (Int64.ofInt a)
  rw [e, hz, fl_toIntL ⟨by omega, by omega⟩]
  exact ⟨h0, h1⟩
theorem hshC_b (f : Int) : 0 ≤ hshC f ∧ hshC f ≤ 511 := lus_55 _
theorem ppr_all {f : Int} {e : Int} (h0 : 0 ≤ e) (h1 : e < 512) : ∃ i : Nat, i < 512 ∧ ppr hshC f i = e.toNat := by
  have hb := hshC_b f
  refine ⟨((e - hshC f) % 512).toNat, by omega, ?_⟩
  unfold ppr
  omega
def tS (F : fl_N) (T : tb_T) : Prop := F 331 8 = (T.length : Int) ∧ hsz hshC (F 332) (F 338) T ∧ (∀ i, i < T.length → F 333 i = ca T i) ∧ cnz (F 338) 512 ≤ T.length
/-- the next price above p -/
def sdu (F : fl_N) (x p d : Int) : Prop := (d = 2147483647 ∧ ∀ s : Nat, (s : Int) < F 120 3 → F (126 + 5 * s) 2 ≤ p) ∨ ∃ s : Nat, (s : Int) < F 120 3 ∧ p < F (126 + 5 * s) 2 ∧ d = x + F (126 + 5 * s) 2 ∧ ∀ s' : Nat, (s' : Int) < F 120 3 → p < F (126 + 5 * s') 2 → F (126 + 5 * s) 2 ≤ F (126 + 5 * s') 2
theorem prc_b {F : fl_N} (hg : gi F) {s : Nat} (hs : s < 41) : 0 ≤ F (126 + 5 * s) 2 ∧ F (126 + 5 * s) 2 ≤ 999 := by
  obtain ⟨a, -, n, q⟩ := ra_122 s hs
  rw [← q]
  exact gi_g hg n.2.1.2.2.1
def sdp (g : Nat → Int) (k p h : Int) : Prop := (h = 2147483647 ∧ ∀ s : Nat, (s : Int) < k → g s ≤ p) ∨ ∃ s : Nat, (s : Int) < k ∧ p < g s ∧ h = g s ∧ ∀ s' : Nat, (s' : Int) < k → p < g s' → g s ≤ g s'
theorem sdp_0 {g : Nat → Int} {p : Int} : sdp g 0 p 2147483647 := Or.inl ⟨rfl, fun s hs => absurd hs (by omega)⟩
theorem sdp_n {g : Nat → Int} {k p h : Int} (hs : sdp g k p h) (hk : 0 ≤ k) (hx : g k.toNat ≤ p ∨ h ≤ g k.toNat) (hb : g k.toNat < 2147483647) : sdp g (k + 1) p h := by
  rcases hs with ⟨h1, h2⟩ | ⟨s, h1, h2, h3, h4⟩
  · refine Or.inl ⟨h1, fun s hs => ?_⟩
    by_cases e : (s : Int) < k
    · exact h2 s e
    · rw [show s = k.toNat by omega]
      omega
  · refine Or.inr ⟨s, by omega, h2, h3, fun s' hs' h5 => ?_⟩
    by_cases e : (s' : Int) < k
    · exact h4 s' e h5
    · rw [show s' = k.toNat by omega] at h5 ⊢
      omega
theorem sdp_y {g : Nat → Int} {k p h : Int} (hs : sdp g k p h) (hk : 0 ≤ k) (h1 : p < g k.toNat) (h2 : g k.toNat < h) : sdp g (k + 1) p (g k.toNat) := by
  refine Or.inr ⟨k.toNat, by omega, h1, rfl, fun s' hs' h5 => ?_⟩
  by_cases e : (s' : Int) < k
  · rcases hs with ⟨h6, h7⟩ | ⟨s, h6, h7, h8, h9⟩
    · have h10 := h7 s' e
      omega
    · have h10 := h9 s' e h5
      omega
  · rw [show s' = k.toNat by omega]
    exact Int.le_refl _
theorem sdu_of {F : fl_N} {x p h d : Int} (hg : gi F) (hn : F 120 3 ≤ 41) (hs : sdp (fun s => F (126 + 5 * s) 2) (F 120 3) p h) (hd : d = if h = 2147483647 then 2147483647 else x + h) : sdu F x p d := by
  rcases hs with ⟨h1, h2⟩ | ⟨s, h1, h2, h3, h4⟩
  · rw [if_pos h1] at hd
    exact Or.inl ⟨hd, h2⟩
  · have hb := prc_b hg (s := s) (by omega)
    have h3' : h = F (126 + 5 * s) 2 := h3
    rw [if_neg (by omega)] at hd
    exact Or.inr ⟨s, h1, h2, by rw [hd, h3'], h4⟩
theorem ca_last {T : tb_T} {f c : Int} : ca (T ++ [(f, c)]) T.length = c := by
  unfold ca
  rw [List.getD_eq_getElem?_getD, List.getElem?_append_right (Nat.le_refl _)]
  simp
theorem ts_add {F F' : fl_N} {T : tb_T} {st co : Int} {sl : Nat} (hT : tS F T) (hs : slz hshC (F 332) (F 338) st sl) (hno : has T st = false) (h8 : F' 331 8 = F 331 8 + 1) (hx : ∀ i, i < T.length → F' 332 i = F 332 i) (hx2 : F' 332 T.length = st) (h1 : F' 338 sl = (T.length : Int) + 1) (h2 : ∀ j, ¬ j = sl → F' 338 j = F 338 j) (hc : ∀ i, i < T.length → F' 333 i = F 333 i) (hc2 : F' 333 T.length = co) : tS F' (T ++ [(st, co)]) := by
  refine ⟨?_, hsz_add hT.2.1 hs hno hx hx2 h1 h2, fun i hi => ?_, ?_⟩
  · rw [h8, hT.1, List.length_append, List.length_singleton]
    omega
  · rw [List.length_append, List.length_singleton] at hi
    by_cases e : i < T.length
    · rw [hc i e, ca_app e]
      exact hT.2.2.1 i e
    · rw [show i = T.length by omega, hc2, ca_last]
  · rw [List.length_append, List.length_singleton]
    have h3 := cnz_u (g := F 338) (g' := F' 338) (k := sl) h2 512
    have h4 := hT.2.2.2
    omega
theorem ts_cg {F F' : fl_N} {T : tb_T} (hT : tS F T) (h8 : F' 331 8 = F 331 8) (h2 : ∀ j, F' 332 j = F 332 j) (h3 : ∀ j, F' 333 j = F 333 j) (h4 : ∀ j, F' 338 j = F 338 j) : tS F' T := by
  have e2 : F' 332 = F 332 := funext h2
  have e4 : F' 338 = F 338 := funext h4
  unfold tS
  rw [h8, e2, e4]
  exact ⟨hT.1, hT.2.1, fun i hi => (h3 i).trans (hT.2.2.1 i hi), hT.2.2.2⟩
theorem ts_free {F : fl_N} {T : tb_T} (hT : tS F T) (h : F 331 8 ≤ 200) : ∃ e : Int, 0 ≤ e ∧ e < 512 ∧ F 338 e.toNat = 0 := by
  obtain ⟨k, h1, h2⟩ := cnz_free (F 338) 512 (by have h3 := hT.2.2.2; have h4 := hT.1; omega)
  exact ⟨(k : Int), by omega, by omega, h2⟩
theorem sdu_cg {F F' : fl_N} {x p d : Int} (hn : F 120 3 ≤ 41) (h : sdu F' x p d) (c : ∀ r k, 120 ≤ r ∧ r ≤ 330 → F' r k = F r k) : sdu F x p d := by
  unfold sdu at h ⊢
  rw [c 120 3 (by decide)] at h
  rcases h with ⟨h1, h2⟩ | ⟨s, h1, h2, h3, h4⟩
  · exact Or.inl ⟨h1, fun s hs => by rw [← c (126 + 5 * s) 2 ⟨by omega, by omega⟩]; exact h2 s hs⟩
  · have e := c (126 + 5 * s) 2 ⟨by omega, by omega⟩
    rw [e] at h2 h3 h4
    exact Or.inr ⟨s, h1, h2, h3, fun s' hs' h5 => by
      have e2 := c (126 + 5 * s') 2 ⟨by omega, by omega⟩
      have h6 := h4 s' hs' (by rw [e2]; exact h5)
      rw [e2] at h6
      exact h6⟩
def hN (F : fl_N) (d : Nat) (x : Int) : Prop := F d 2 = 1 ∧ lan x (F d 0) = F d 0 ∧ lan x (F d 1) = 0
/-- what comeTo does -/
def cto (F F' : fl_N) (T T' : tb_T) (st : Int) : Prop := (gC F st ∧ T' = T ∧ F' 331 11 = 1 ∧ F' 331 10 = F 331 10) ∨ (¬ gC F st ∧ F' 331 11 = F 331 11 ∧ ((has T st = true ∧ T' = T ∧ F' 331 10 = F 331 10) ∨ (has T st = false ∧ (T.length : Int) < F 331 9 ∧ T' = T ++ [(st, F 331 12)] ∧ F' 331 10 = F 331 10 ∧ sdu F (F 331 12) 0 (F' 334 T.length)) ∨ (has T st = false ∧ ¬ (T.length : Int) < F 331 9 ∧ T' = T ∧ F' 331 10 = 1)))
/-- the least due of the first k states -/
def lsd (F : fl_N) (k le : Int) : Prop := (∀ i : Nat, (i : Int) < k → le ≤ F 334 i) ∧ (le = 2147483647 ∨ ∃ i : Nat, (i : Int) < k ∧ F 334 i = le)

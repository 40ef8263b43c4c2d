section LX
variable {Ms : List xi_M} {y fr lo pc : Nat} {M : xi_M} {lv : xi_L} {st r : List Value} {A : xi_H} {nx : Nat} {aux : List Nat} {Q : Outcome → xi_H → Prop}
theorem fl_divL {a b : Int} (ha : 0 ≤ a) (hb : 0 < b) (ha2 : a < 9223372036854775808) (hb2 : b < 9223372036854775808) : Int64.ofInt a / Int64.ofInt b = Int64.ofInt (a / b) := by
  have h1 : a / b ≤ a := Int.ediv_le_self b ha
  have h2 : 0 ≤ a / b := Int.ediv_nonneg ha (by omega)
  rw [← Int64.toInt_inj, fl_toIntL (a := a / b) ⟨by omega, by omega⟩, Int64.toInt_div, fl_toIntL (a := a) ⟨by omega, by omega⟩, fl_toIntL (a := b) ⟨by omega, by omega⟩, Int.tdiv_eq_ediv_of_nonneg ha, Int.bmod_eq_of_le (by omega) (by omega)]
theorem fl_remL {a b : Int} (ha : 0 ≤ a) (hb : 0 < b) (ha2 : a < 9223372036854775808) (hb2 : b < 9223372036854775808) : Int64.ofInt a - Int64.ofInt a / Int64.ofInt b * Int64.ofInt b = Int64.ofInt (a % b) := by
  rw [fl_divL ha hb ha2 hb2, fl_mulL, ← Int64.ofInt_sub]
  congr 1
  have h := Int.emod_add_mul_ediv a b
  rw [Int.mul_comm b] at h
  omega
theorem ga_ne0L {b : Int} (hb : 0 < b) (hb2 : b < 9223372036854775808) : ¬ Int64.ofInt b = 0 := fun h => by
  have := (ga_eqL (a := b) (b := 0) ⟨by omega, by omega⟩ ⟨by omega, by omega⟩).mp h
  omega
theorem ga_ldiv {a b : Int} (hM : Ms[y]? = some M) (hrow : xi_row M.2.2.2.2.1 pc = some (.ldiv, nx, aux)) (ha : 0 ≤ a) (hb : 0 < b) (ha2 : a < 9223372036854775808) (hb2 : b < 9223372036854775808) (hk : fl_R Ms y fr lo nx lv (.long (Int64.ofInt (a / b)) :: r) A Q) : fl_R Ms y fr lo pc lv (.long (Int64.ofInt b) :: .long (Int64.ofInt a) :: r) A Q := by
  rw [← fl_divL ha hb ha2 hb2] at hk
  refine fl_s (pc' := nx) (lv' := lv) (st' := .long (Int64.ofInt a / Int64.ofInt b) :: r) (A' := A) hM hrow rfl ?_ rfl hk
  simp only [xi_s]
  rw [if_neg (ga_ne0L hb hb2)]
theorem ga_lrem {a b : Int} (hM : Ms[y]? = some M) (hrow : xi_row M.2.2.2.2.1 pc = some (.lrem, nx, aux)) (ha : 0 ≤ a) (hb : 0 < b) (ha2 : a < 9223372036854775808) (hb2 : b < 9223372036854775808) (hk : fl_R Ms y fr lo nx lv (.long (Int64.ofInt (a % b)) :: r) A Q) : fl_R Ms y fr lo pc lv (.long (Int64.ofInt b) :: .long (Int64.ofInt a) :: r) A Q := by
  rw [← fl_remL ha hb ha2 hb2] at hk
  refine fl_s (pc' := nx) (lv' := lv) (st' := .long (Int64.ofInt a - Int64.ofInt a / Int64.ofInt b * Int64.ofInt b) :: r) (A' := A) hM hrow rfl ?_ rfl hk
  simp only [xi_s]
  rw [if_neg (ga_ne0L hb hb2)]
end LX
/-! what a step does, where a state lies -/
def cbe (F : fl_N) (s f : Int) : Prop := lan (F 369 s.toNat) (lxo f (-1)) = 0 ∧ lan (F 370 s.toNat) f = 0
noncomputable def dne (F : fl_N) (s f : Int) : Int := lorr (lan f (lxo (F 372 s.toNat) (-1))) (F 371 s.toNat)
noncomputable def hsh (f : Int) : Int := iam (lxo (lus (lmu f 2654435761) 20) (lus (lmu f 2654435761) 43)) 511
def stp (F : fl_N) (f z : Int) : Prop := F 378 z.toNat = 0 ∨ F 373 (F 378 z.toNat - 1).toNat = f
def slr (F : fl_N) (f z : Int) : Prop := ∃ m : Nat, z = (hsh f + (m : Int)) % 512 ∧ stp F f z ∧ ∀ i : Nat, i < m → ¬ stp F f ((hsh f + (i : Int)) % 512)
theorem slr_u {F : fl_N} {f z w : Int} (h : slr F f z) (h1 : slr F f w) : z = w := by
  obtain ⟨m, e, hs, hn⟩ := h
  obtain ⟨k, e1, hs1, hn1⟩ := h1
  rcases Nat.lt_trichotomy m k with h2 | h2 | h2
  · exact absurd (e ▸ hs) (hn1 m h2)
  · rw [e, e1, h2]
  · exact absurd (e1 ▸ hs1) (hn k h2)
def cnz (g : Nat → Int) : Nat → Nat
  | 0 => 0
  | n + 1 => cnz g n + (if g n = 0 then 0 else 1)
theorem cnz_free (g : Nat → Int) : ∀ n : Nat, cnz g n < n → ∃ k, k < n ∧ g k = 0
  | 0, h => absurd h (by omega)
  | n + 1, h => by
    by_cases e : g n = 0
    · exact ⟨n, by omega, e⟩
    · rw [cnz, if_neg e] at h
      obtain ⟨k, h1, h2⟩ := cnz_free g n (by omega)
      exact ⟨k, by omega, h2⟩
theorem cnz_cg {g g' : Nat → Int} : ∀ {n : Nat}, (∀ j, j < n → g' j = g j) → cnz g' n = cnz g n
  | 0, _ => rfl
  | n + 1, h => by rw [cnz, cnz, h n (by omega), cnz_cg (fun j hj => h j (by omega))]
theorem cnz_u {g g' : Nat → Int} {k : Nat} (ho : ∀ j, j ≠ k → g' j = g j) : ∀ n : Nat, cnz g' n ≤ cnz g n + 1
  | 0 => by simp [cnz]
  | n + 1 => by
    rw [cnz, cnz]
    by_cases e : n = k
    · subst e
      rw [cnz_cg (g := g) (g' := g') (fun j hj => ho j (by omega))]
      split <;> split <;> omega
    · rw [ho n e]
      have := cnz_u ho n
      omega
theorem cnz_0 {g : Nat → Int} : ∀ {n : Nat}, (∀ j, j < n → g j = 0) → cnz g n = 0
  | 0, _ => rfl
  | n + 1, h => by rw [cnz, if_pos (h n (by omega)), cnz_0 (fun j hj => h j (by omega))]
/-! the states that were come to -/
def rs (F : fl_N) (old : Int) : Prop := F 375 0 = 0 ∧ ∀ m : Nat, 0 < m → (m : Int) < F 344 49 → (0 ≤ F 376 m ∧ F 376 m < (m : Int) ∧ F 376 m < old) ∧ F 375 m = F 375 (F 376 m).toNat + 1 ∧ F 377 m < F 344 39
theorem rs_mono {F : fl_N} {a b : Int} (h : rs F a) (hab : a ≤ b) : rs F b := ⟨h.1, fun m h1 h2 => by have := h.2 m h1 h2; exact ⟨⟨this.1.1, this.1.2.1, by omega⟩, this.2⟩⟩
theorem rs_d {F : fl_N} {old : Int} (h : rs F old) : ∀ m : Nat, (m : Int) < F 344 49 → F 375 m ≤ (m : Int) := by
  intro m
  induction m using Nat.strongRecOn with
  | ind m ih =>
    intro hm
    by_cases e : m = 0
    · subst e
      rw [h.1]
      exact Int.le_refl _
    · have h1 := h.2 m (by omega) hm
      have h2 := ih (F 376 m).toNat (by omega) (by omega)
      omega
theorem rs_di {F : fl_N} {old i : Int} (h : rs F old) (h0 : 0 ≤ i) (h1 : i < F 344 49) : F 375 i.toNat ≤ i := by
  have := rs_d h i.toNat (by omega)
  omega
theorem rs_cg {F F2 : fl_N} {old : Int} (h : rs F old) (c : F2 344 49 = F 344 49) (c1 : F2 344 39 = F 344 39) (hst : 1 ≤ F 344 49) (e : ∀ j : Nat, (j : Int) < F 344 49 → F2 375 j = F 375 j ∧ F2 376 j = F 376 j ∧ F2 377 j = F 377 j) : rs F2 old := by
  refine ⟨by rw [(e 0 (by omega)).1]; exact h.1, fun m h1 h2 => ?_⟩
  rw [c] at h2
  have h3 := h.2 m h1 h2
  have e1 := e m h2
  rw [e1.1, e1.2.1, e1.2.2, c1, (e (F 376 m).toNat (by omega)).1]
  exact h3
def gs (F : fl_N) (old : Int) : Prop := rs F old ∧ (cnz (F 378) 512 : Int) ≤ F 344 49 ∧ (∀ k : Nat, k < 512 → F 378 k ≤ F 344 49) ∧ 1 ≤ F 344 49
theorem gs_free {F : fl_N} {old : Int} (h : gs F old) (h2 : F 344 49 ≤ 200) : ∃ e : Int, 0 ≤ e ∧ e < 512 ∧ F 378 e.toNat = 0 := by
  obtain ⟨k, h1, h3⟩ := cnz_free (F 378) 512 (by have := h.2.1; omega)
  exact ⟨(k : Int), by omega, by omega, h3⟩
theorem gs_cg {F F2 : fl_N} {old : Int} (h : gs F old) (c : F2 344 49 = F 344 49) (c1 : F2 344 39 = F 344 39) (e : ∀ j : Nat, (j : Int) < F 344 49 → F2 375 j = F 375 j ∧ F2 376 j = F 376 j ∧ F2 377 j = F 377 j) (e8 : ∀ j, F2 378 j = F 378 j) : gs F2 old := by
  have e9 : F2 378 = F 378 := funext e8
  refine ⟨rs_cg h.1 c c1 h.2.2.2 e, ?_, ?_, ?_⟩
  · rw [e9, c]
    exact h.2.1
  · intro k hk
    rw [e8, c]
    exact h.2.2.1 k hk
  · rw [c]
    exact h.2.2.2
theorem gs_add {F F2 : fl_N} {old i s k : Int} (h : gs F old) (c : F2 344 49 = F 344 49 + 1) (c1 : F2 344 39 = F 344 39) (e : ∀ j : Nat, (j : Int) < F 344 49 → F2 375 j = F 375 j ∧ F2 376 j = F 376 j ∧ F2 377 j = F 377 j) (hb : F2 376 (F 344 49).toNat = i) (hy : F2 377 (F 344 49).toNat = s) (hd : F2 375 (F 344 49).toNat = F 375 i.toNat + 1) (hi : 0 ≤ i ∧ i < old) (ho : old ≤ F 344 49) (hs : s < F 344 39) (e8 : ∀ j : Nat, j ≠ k.toNat → F2 378 j = F 378 j) (hk : F2 378 k.toNat = F 344 49 + 1) : gs F2 old := by
  have h4 := h.2.2.2
  refine ⟨⟨by rw [(e 0 (by omega)).1]; exact h.1.1, fun m h1 h2 => ?_⟩, ?_, ?_, by omega⟩
  · rw [c] at h2
    by_cases em : (m : Int) < F 344 49
    · have h3 := h.1.2 m h1 em
      have e1 := e m em
      rw [e1.1, e1.2.1, e1.2.2, c1, (e (F 376 m).toNat (by omega)).1]
      exact h3
    · have e2 : m = (F 344 49).toNat := by omega
      subst e2
      rw [hb, hy, hd, c1, (e i.toNat (by omega)).1]
      exact ⟨⟨hi.1, by omega, hi.2⟩, rfl, hs⟩
  · have h5 := cnz_u e8 512
    have h6 := h.2.1
    omega
  · intro j hj
    by_cases ej : j = k.toNat
    · rw [ej, hk]
      omega
    · rw [e8 j ej]
      have := h.2.2.1 j hj
      omega
theorem gs_re {F F2 : fl_N} {old i s n : Int} (h : gs F old) (c : F2 344 49 = F 344 49) (c1 : F2 344 39 = F 344 39) (e : ∀ j : Nat, j ≠ n.toNat → F2 375 j = F 375 j ∧ F2 376 j = F 376 j ∧ F2 377 j = F 377 j) (hb : F2 376 n.toNat = i) (hy : F2 377 n.toNat = s) (hd : F2 375 n.toNat = F 375 i.toNat + 1) (hi : 0 ≤ i ∧ i < old) (hn : old ≤ n) (hs : s < F 344 39) (e8 : ∀ j, F2 378 j = F 378 j) : gs F2 old := by
  have h4 := h.2.2.2
  have e9 : F2 378 = F 378 := funext e8
  refine ⟨⟨by rw [(e 0 (by omega)).1]; exact h.1.1, fun m h1 h2 => ?_⟩, ?_, ?_, by omega⟩
  · rw [c] at h2
    by_cases em : m = n.toNat
    · subst em
      rw [hb, hy, hd, c1, (e i.toNat (by omega)).1]
      exact ⟨⟨hi.1, by omega, hi.2⟩, rfl, hs⟩
    · have h3 := h.1.2 m h1 h2
      have e1 := e m em
      rw [e1.1, e1.2.1, e1.2.2, c1, (e (F 376 m).toNat (by omega)).1]
      exact h3
  · rw [e9, c]
    exact h.2.1
  · intro j hj
    rw [e8, c]
    exact h.2.2.1 j hj
/-! a way that nextCost has seen -/
def nxe (F : fl_N) (c i s : Int) : Prop := (0 ≤ i ∧ i < F 344 49) ∧ (0 ≤ s ∧ s < F 344 39) ∧ iwa (F 374 i.toNat) (F 357 (F 367 s.toNat).toNat) = c ∧ cbe F s (F 373 i.toNat) ∧ ∃ k, slr F (dne F s (F 373 i.toNat)) k ∧ F 378 k.toNat = 0
def nxw (F : fl_N) (c : Int) : Prop := ∃ i s, nxe F c i s
theorem nxw_cg {F F2 : fl_N} {c : Int} (h : nxw F c) (c1 : F2 344 49 = F 344 49) (c2 : F2 344 39 = F 344 39) (h2 : F 344 49 ≤ 200) (e4 : ∀ j : Nat, j ≠ 200 → F2 374 j = F 374 j) (e57 : ∀ j, F2 357 j = F 357 j) (e67 : ∀ j, F2 367 j = F 367 j) (e69 : ∀ j, F2 369 j = F 369 j) (e70 : ∀ j, F2 370 j = F 370 j) (e71 : ∀ j, F2 371 j = F 371 j) (e72 : ∀ j, F2 372 j = F 372 j) (e73 : ∀ j, F2 373 j = F 373 j) (e78 : ∀ j, F2 378 j = F 378 j) : nxw F2 c := by
  obtain ⟨i, s, h1, h3, h4, h5, k, h6, h7⟩ := h
  refine ⟨i, s, by rw [c1]; exact h1, by rw [c2]; exact h3, by rw [e4 _ (by omega), e57, e67]; exact h4, ?_, k, ?_, by rw [e78]; exact h7⟩
  · unfold cbe at *
    rw [e69, e70, e73]
    exact h5
  · have e1 : dne F2 s (F2 373 i.toNat) = dne F s (F 373 i.toNat) := by
      unfold dne
      rw [e71, e72, e73]
    rw [e1]
    have e2 : ∀ f z, stp F2 f z = stp F f z := fun f z => by
      unfold stp
      rw [e78, e73]
    unfold slr at *
    simp only [e2]
    exact h6
/-! a way back -/
def wkc (F : fl_N) (k : Int) : Prop := rs F (F 344 49) ∧ 0 ≤ k ∧ ((k = 200 ∧ F 375 200 = F 375 (F 376 200).toNat + 1 ∧ 0 ≤ F 376 200 ∧ F 376 200 < F 344 49 ∧ F 377 200 < F 344 39) ∨ k < F 344 49)
theorem wk_step {F : fl_N} {k : Int} (h : wkc F k) (hd : 1 ≤ F 375 k.toNat) : F 377 k.toNat < F 344 39 ∧ wkc F (F 376 k.toNat) ∧ F 375 (F 376 k.toNat).toNat = F 375 k.toNat - 1 := by
  obtain ⟨h1, h0, h2⟩ := h
  rcases h2 with h2 | h2
  · obtain ⟨e, h3, h4, h5, h6⟩ := h2
    subst e
    rw [show (200 : Int).toNat = 200 from rfl] at *
    exact ⟨h6, ⟨h1, h4, Or.inr h5⟩, by omega⟩
  · have e : 0 < k.toNat := by
      rcases Nat.eq_zero_or_pos k.toNat with e | e
      · rw [e, h1.1] at hd
        omega
      · exact e
    have h3 := h1.2 k.toNat e (by omega)
    exact ⟨h3.2.2, ⟨h1, h3.1.1, Or.inr (by omega)⟩, by omega⟩
def gn (F : fl_N) : Prop := F 344 66 = 1 → (0 ≤ F 376 200 ∧ F 376 200 < F 344 49) ∧ F 375 200 = F 375 (F 376 200).toNat + 1 ∧ F 377 200 < F 344 39
theorem gn_cg {F F2 : fl_N} (h : gn F) (c : F2 344 66 = F 344 66) (c1 : F2 344 49 = F 344 49) (c2 : F2 344 39 = F 344 39) (e5 : ∀ j, F2 375 j = F 375 j) (e6 : ∀ j, F2 376 j = F 376 j) (e7 : ∀ j, F2 377 j = F 377 j) : gn F2 := by
  intro h1
  rw [c] at h1
  have h2 := h h1
  rw [e6, e5, e5, e7, c1, c2]
  exact h2
theorem gn_k {Fb Fk F2 : fl_N} {i s : Int} (o : ∀ j : Nat, j ≠ (200 : Int).toNat → Fk 374 j = Fb 374 j ∧ Fk 375 j = Fb 375 j ∧ Fk 376 j = Fb 376 j ∧ Fk 377 j = Fb 377 j) (b : Fk 376 (200 : Int).toNat = i) (y : Fk 377 (200 : Int).toNat = s) (d : Fk 375 (200 : Int).toNat = Fb 375 i.toNat + 1) (e5 : ∀ j, F2 375 j = Fk 375 j) (e6 : ∀ j, F2 376 j = Fk 376 j) (e7 : ∀ j, F2 377 j = Fk 377 j) (hi : 0 ≤ i ∧ i < F2 344 49) (h2 : F2 344 49 ≤ 200) (hs : s < F2 344 39) : gn F2 := by
  intro _
  rw [show (200 : Int).toNat = 200 from rfl] at *
  rw [e6, e5, e5, e7, b, y, d, (o i.toNat (by omega)).2.1]
  exact ⟨hi, rfl, hs⟩
theorem sl_step {F : fl_N} {f k k2 : Int} (h : ∃ m : Nat, k = (hsh f + (m : Int)) % 512 ∧ ∀ i : Nat, i < m → ¬ stp F f ((hsh f + (i : Int)) % 512)) (hk : k2 = (k + 1) % 512) (hn : ¬ stp F f k) : ∃ m : Nat, k2 = (hsh f + (m : Int)) % 512 ∧ ∀ i : Nat, i < m → ¬ stp F f ((hsh f + (i : Int)) % 512) := by
  obtain ⟨m, e, h1⟩ := h
  refine ⟨m + 1, by omega, fun i hi => ?_⟩
  by_cases e2 : i = m
  · subst e2
    rw [← e]
    exact hn
  · exact h1 i (by omega)
theorem wk_b {F F1 : fl_N} {p : Nat} {w k d : Int} (h : wkc F w → (wkc F k ∧ F 375 k.toNat = d + 1) ∧ ∀ j : Nat, d < (j : Int) → (j : Int) < F 375 w.toNat → F1 p j < F 344 39) (hd : 0 ≤ d) : wkc F w → (wkc F (F 376 k.toNat) ∧ F 375 (F 376 k.toNat).toNat = d - 1 + 1) ∧ ∀ j : Nat, d - 1 < (j : Int) → (j : Int) < F 375 w.toNat → fl_u F1 p d.toNat (F 377 k.toNat) p j < F 344 39 := by
  intro h0
  obtain ⟨⟨h1, h2⟩, h3⟩ := h h0
  obtain ⟨h4, h5, h6⟩ := wk_step h1 (by omega)
  refine ⟨⟨h5, by omega⟩, fun j h7 h8 => ?_⟩
  by_cases e : j = d.toNat
  · rw [e, fl_u_eq]
    exact h4
  · rw [fl_u_ne (by omega)]
    exact h3 j (by omega) h8
theorem rs_old {F F2 : fl_N} (h : rs F2 (F 344 49)) (c : F2 344 49 = F 344 49) : rs F2 (F2 344 49) := by rw [c]; exact h
theorem nwx_1 {F F2 : fl_N} {c i s iw sw n : Int} (h : (F2 = F ∧ (i < iw ∨ (i = iw ∧ s ≤ sw))) ∨ n < F2 344 49) (hw : nxe F c iw sw) (hn : ¬ iwa (F2 374 i.toNat) (F 357 (F 367 s.toNat).toNat) = c) : (F2 = F ∧ (i < iw ∨ (i = iw ∧ s + 1 ≤ sw))) ∨ n < F2 344 49 := by
  rcases h with ⟨e, h⟩ | h
  · refine Or.inl ⟨e, ?_⟩
    have h2 : ¬ (i = iw ∧ s = sw) := fun h3 => by
      rw [h3.1, h3.2, e] at hn
      exact hn hw.2.2.1
    omega
  · exact Or.inr h
theorem nwx_2 {F F2 : fl_N} {c i s iw sw n : Int} (h : (F2 = F ∧ (i < iw ∨ (i = iw ∧ s ≤ sw))) ∨ n < F2 344 49) (hw : nxe F c iw sw) (hn : ¬ cbe F2 s (F2 373 i.toNat)) : (F2 = F ∧ (i < iw ∨ (i = iw ∧ s + 1 ≤ sw))) ∨ n < F2 344 49 := by
  rcases h with ⟨e, h⟩ | h
  · refine Or.inl ⟨e, ?_⟩
    have h2 : ¬ (i = iw ∧ s = sw) := fun h3 => by
      rw [h3.1, h3.2, e] at hn
      exact hn hw.2.2.2.1
    omega
  · exact Or.inr h
theorem nwx_3 {F F2 : fl_N} {c i s iw sw n k : Int} (h : (F2 = F ∧ (i < iw ∨ (i = iw ∧ s ≤ sw))) ∨ n < F2 344 49) (hw : nxe F c iw sw) (hs : slr F2 (dne F2 s (F2 373 i.toNat)) k) (hn : ¬ F2 378 k.toNat = 0) : (F2 = F ∧ (i < iw ∨ (i = iw ∧ s + 1 ≤ sw))) ∨ n < F2 344 49 := by
  rcases h with ⟨e, h⟩ | h
  · refine Or.inl ⟨e, ?_⟩
    have h2 : ¬ (i = iw ∧ s = sw) := fun h3 => by
      rw [h3.1, h3.2, e] at hs
      rw [e] at hn
      obtain ⟨k2, h4, h5⟩ := hw.2.2.2.2
      rw [slr_u hs h4] at hn
      exact hn h5
    omega
  · exact Or.inr h
theorem nwx_gt {F F2 : fl_N} {i s iw sw k : Int} (h : (F2 = F ∧ (i < iw ∨ (i = iw ∧ s ≤ sw))) ∨ F 344 49 < F2 344 49) (hg : gs F2 (F 344 49)) (hk : 0 ≤ k ∧ k ≤ 511) (hn : F 344 49 < F2 378 k.toNat) : F 344 49 < F2 344 49 := by
  rcases h with ⟨e, h⟩ | h
  · have := hg.2.2.1 k.toNat (by omega)
    omega
  · exact h
theorem nwx_o {F F2 : fl_N} {i s iw sw : Int} (h : (F2 = F ∧ (i < iw ∨ (i = iw ∧ s ≤ sw))) ∨ F 344 49 < F2 344 49) (hs : sw < s) : (F2 = F ∧ i + 1 ≤ iw) ∨ F 344 49 < F2 344 49 := by
  rcases h with ⟨e, h⟩ | h
  · exact Or.inl ⟨e, by omega⟩
  · exact Or.inr h
theorem nwx_i {F F1 : fl_N} {i iw sw : Int} (h : (F1 = F ∧ i ≤ iw) ∨ F 344 49 < F1 344 49) (hs : 0 ≤ sw) : (F1 = F ∧ (i < iw ∨ (i = iw ∧ 0 ≤ sw))) ∨ F 344 49 < F1 344 49 := by
  rcases h with ⟨e, h⟩ | h
  · exact Or.inl ⟨e, by omega⟩
  · exact Or.inr h
theorem nwx_e {F F1 : fl_N} {i iw : Int} (h : (F1 = F ∧ i ≤ iw) ∨ F 344 49 < F1 344 49) (hs : iw < i) : F 344 49 < F1 344 49 := by
  rcases h with ⟨e, h⟩ | h
  · omega
  · exact h

/-- check(), plainly: class -/
def hC (F : fl_N) (i s : Int) : Prop := F (126 + 5 * i.toNat + 2) 2 = 1 ∧ lan s (F (126 + 5 * i.toNat + 2) 0) = F (126 + 5 * i.toNat + 2) 0 ∧ lan s (F (126 + 5 * i.toNat + 2) 1) = 0
noncomputable def aC (F : fl_N) (i s : Int) : Int := lorr (lan s (lxo (F (126 + 5 * i.toNat) 4) (-1))) (F (126 + 5 * i.toNat) 5)
def gC (F : fl_N) (s : Int) : Prop := F 123 2 = 1 ∧ lan s (F 123 0) = F 123 0 ∧ lan s (F 123 1) = 0
def ckC (F : fl_N) : Nat → Int → Int → Prop
  | 0, s, c => s = F 120 4 ∧ c = 0
  | k + 1, s, c => ∃ s0 c0, ckC F k s0 c0 ∧ hC F (F 342 k) s0 ∧ s = aC F (F 342 k) s0 ∧ c = c0 + F (126 + 5 * (F 342 k).toNat) 2
/-- and reference -/
def gR (F : fl_N) (s : Int) : Prop := F 344 48 = 1 ∧ lan (F 344 46) (lxo s (-1)) = 0 ∧ lan (F 344 47) s = 0
def ckR (F : fl_N) : Nat → Int → Int → Prop
  | 0, s, c => s = F 344 38 ∧ c = 0
  | k + 1, s, c => ∃ s0 c0, ckR F k s0 c0 ∧ cbe F (F 382 k) s0 ∧ s = dne F (F 382 k) s0 ∧ c = c0 + F 357 (F 367 (F 382 k).toNat).toNat

/- CheapPlannerModel.canBe -/
abbrev pq_157 (G : Nat → Nat → Option Nat) (F : fl_N) (X : xi_H) (s f : Int) : Outcome → xi_H → Prop := gqi (fun z A => (fl_H sh_T G F ++ X = A ∧ (z = 0) ∧ (¬ cbe F s f)) ∨ (fl_H sh_T G F ++ X = A ∧ (z = 1) ∧ (cbe F s f))) gqn
theorem mc_157 {G : Nat → Nat → Option Nat} (hG : gg G) (F : fl_N) (X : xi_H) (hgi : gi F) (s f : Int) (hs : 0 ≤ s ∧ s ≤ 39) (hf : -9223372036854775808 ≤ f ∧ f ≤ 9223372036854775807) : fl_M xi_ms 157 0 0 [.ref 344, .int (Int32.ofInt s), .long (Int64.ofInt f)] (fl_H sh_T G F ++ X) (pq_157 G F X s f) := by
  intro fr lo hfr hlo
  show fl_R xi_ms 157 fr lo 0 [(0, .ref 344), (1, .int (Int32.ofInt s)), (2, .long (Int64.ofInt f))] [] _ _
  refine ga_aload_n (v := .ref 344) hm_157 rfl rfl rfl ?_
  refine ga_getr (b := 369) hm_157 rfl sc_344 rfl ?_
  refine ga_iload_n (z := s) hm_157 rfl rfl ?_
  have b1_ : -9223372036854775808 ≤ F 369 s.toNat ∧ F 369 s.toNat ≤ 9223372036854775807 := gi_g hgi rfl
  refine ga_lald (z := s) (w := F 369 s.toNat) hm_157 rfl sc_369 (by omega) (by omega) (by omega) (rfl) ?_
  refine ga_lload_n (z := f) hm_157 rfl rfl ?_
  refine ga_ldcl (z := -1) hm_157 rfl (by decide) ?_
  refine ga_lx (z := (lxo f (-1))) hm_157 rfl rfl rfl (lop_e 2 _ _) (fun ⟨h2_, h3_⟩ => ?_)
  refine ga_lx (z := (lan (F 369 s.toNat) ((lxo f (-1))))) hm_157 rfl rfl rfl (lop_e 0 _ _) (fun ⟨h4_, h5_⟩ => ?_)
  refine ga_lconst (z := 0) hm_157 rfl rfl ?_
  refine ga_lcmpn (a := (lan (F 369 s.toNat) ((lxo f (-1))))) (b := 0) hm_157 rfl rfl ⟨by omega, by omega⟩ ⟨by omega, by omega⟩ (fun h6_ => ?_) (fun h7_ => ?_)
  ·
    refine fl_iconst hm_157 rfl ?_
    refine gr_i (z := 0) hm_157 rfl rfl (ga_nb (by omega)) ?_
    exact Or.inl ⟨rfl, rfl, (fun h9_ => by unfold cbe at h9_; omega)⟩
  refine ga_aload_n (v := .ref 344) hm_157 rfl rfl rfl ?_
  refine ga_getr (b := 370) hm_157 rfl sc_344 rfl ?_
  refine ga_iload_n (z := s) hm_157 rfl rfl ?_
  have b8_ : -9223372036854775808 ≤ F 370 s.toNat ∧ F 370 s.toNat ≤ 9223372036854775807 := gi_g hgi rfl
  refine ga_lald (z := s) (w := F 370 s.toNat) hm_157 rfl sc_370 (by omega) (by omega) (by omega) (rfl) ?_
  refine ga_lload_n (z := f) hm_157 rfl rfl ?_
  refine ga_lx (z := (lan (F 370 s.toNat) f)) hm_157 rfl rfl rfl (lop_e 0 _ _) (fun ⟨h9_, h10_⟩ => ?_)
  refine ga_lconst (z := 0) hm_157 rfl rfl ?_
  refine ga_lcmpn (a := (lan (F 370 s.toNat) f)) (b := 0) hm_157 rfl rfl ⟨by omega, by omega⟩ ⟨by omega, by omega⟩ (fun h11_ => ?_) (fun h12_ => ?_)
  ·
    refine fl_iconst hm_157 rfl ?_
    refine gr_i (z := 0) hm_157 rfl rfl (ga_nb (by omega)) ?_
    exact Or.inl ⟨rfl, rfl, (fun h9_ => by unfold cbe at h9_; omega)⟩
  refine fl_iconst hm_157 rfl ?_
  refine fl_goto hm_157 rfl ?_
  refine gr_i (z := 1) hm_157 rfl rfl (ga_nb (by omega)) ?_
  exact Or.inr (⟨rfl, rfl, (⟨by omega, by omega⟩)⟩)
/- CheapPlannerModel.done -/
abbrev pq_158 (G : Nat → Nat → Option Nat) (F : fl_N) (X : xi_H) (s f : Int) : Outcome → xi_H → Prop := gql (fun z A => fl_H sh_T G F ++ X = A ∧ (z = dne F s f) ∧ (-9223372036854775808 ≤ z ∧ z ≤ 9223372036854775807)) gqn
theorem mc_158 {G : Nat → Nat → Option Nat} (hG : gg G) (F : fl_N) (X : xi_H) (hgi : gi F) (s f : Int) (hs : 0 ≤ s ∧ s ≤ 39) (hf : -9223372036854775808 ≤ f ∧ f ≤ 9223372036854775807) : fl_M xi_ms 158 0 0 [.ref 344, .int (Int32.ofInt s), .long (Int64.ofInt f)] (fl_H sh_T G F ++ X) (pq_158 G F X s f) := by
  intro fr lo hfr hlo
  show fl_R xi_ms 158 fr lo 0 [(0, .ref 344), (1, .int (Int32.ofInt s)), (2, .long (Int64.ofInt f))] [] _ _
  refine ga_lload_n (z := f) hm_158 rfl rfl ?_
  refine ga_aload_n (v := .ref 344) hm_158 rfl rfl rfl ?_
  refine ga_getr (b := 372) hm_158 rfl sc_344 rfl ?_
  refine ga_iload_n (z := s) hm_158 rfl rfl ?_
  have b1_ : -9223372036854775808 ≤ F 372 s.toNat ∧ F 372 s.toNat ≤ 9223372036854775807 := gi_g hgi rfl
  refine ga_lald (z := s) (w := F 372 s.toNat) hm_158 rfl sc_372 (by omega) (by omega) (by omega) (rfl) ?_
  refine ga_ldcl (z := -1) hm_158 rfl (by decide) ?_
  refine ga_lx (z := (lxo (F 372 s.toNat) (-1))) hm_158 rfl rfl rfl (lop_e 2 _ _) (fun ⟨h2_, h3_⟩ => ?_)
  refine ga_lx (z := (lan f ((lxo (F 372 s.toNat) (-1))))) hm_158 rfl rfl rfl (lop_e 0 _ _) (fun ⟨h4_, h5_⟩ => ?_)
  refine ga_aload_n (v := .ref 344) hm_158 rfl rfl rfl ?_
  refine ga_getr (b := 371) hm_158 rfl sc_344 rfl ?_
  refine ga_iload_n (z := s) hm_158 rfl rfl ?_
  have b6_ : -9223372036854775808 ≤ F 371 s.toNat ∧ F 371 s.toNat ≤ 9223372036854775807 := gi_g hgi rfl
  refine ga_lald (z := s) (w := F 371 s.toNat) hm_158 rfl sc_371 (by omega) (by omega) (by omega) (rfl) ?_
  refine ga_lx (z := (lorr ((lan f ((lxo (F 372 s.toNat) (-1))))) (F 371 s.toNat))) hm_158 rfl rfl rfl (lop_e 1 _ _) (fun ⟨h7_, h8_⟩ => ?_)
  refine gr_l hm_158 rfl rfl ?_
  exact ⟨rfl, (rfl), (⟨by omega, by omega⟩)⟩
/- CheapPlannerModel.isGoal -/
abbrev pq_168 (G : Nat → Nat → Option Nat) (F : fl_N) (X : xi_H) (f : Int) : Outcome → xi_H → Prop := gqi (fun z A => fl_H sh_T G F ++ X = A ∧ (0 ≤ z ∧ z ≤ 1) ∧ ((z = 1 ∧ gR F f) ∨ (z = 0 ∧ ¬ gR F f))) gqn
theorem mc_168 {G : Nat → Nat → Option Nat} (hG : gg G) (F : fl_N) (X : xi_H) (hgi : gi F) (f : Int) (hf : -9223372036854775808 ≤ f ∧ f ≤ 9223372036854775807) : fl_M xi_ms 168 0 0 [.ref 344, .long (Int64.ofInt f)] (fl_H sh_T G F ++ X) (pq_168 G F X f) := by
  intro fr lo hfr hlo
  show fl_R xi_ms 168 fr lo 0 [(0, .ref 344), (1, .long (Int64.ofInt f))] [] _ _
  refine ga_aload_n (v := .ref 344) hm_168 rfl rfl rfl ?_
  have b1_ : 0 ≤ F 344 48 ∧ F 344 48 ≤ 1 := gi_g hgi rfl
  refine ga_geti (z := F 344 48) hm_168 rfl sc_344 rfl (rfl) ?_
  refine fl_if_eq (a := F 344 48) hm_168 rfl ⟨by omega, by omega⟩ (fun h2_ => ?_) (fun h3_ => ?_)
  ·
    refine fl_iconst hm_168 rfl ?_
    refine gr_i (z := 0) hm_168 rfl rfl (ga_nb (by omega)) ?_
    exact ⟨rfl, (⟨by omega, by omega⟩), (by unfold gR; first | exact Or.inl ⟨rfl, by omega, by omega, by omega⟩ | exact Or.inr ⟨rfl, by rintro ⟨h7_, h8_, h9_⟩; first | omega | contradiction⟩)⟩
  refine ga_aload_n (v := .ref 344) hm_168 rfl rfl rfl ?_
  have b4_ : -9223372036854775808 ≤ F 344 46 ∧ F 344 46 ≤ 9223372036854775807 := gi_g hgi rfl
  refine ga_getl (z := F 344 46) hm_168 rfl sc_344 rfl (rfl) ?_
  refine ga_lload_n (z := f) hm_168 rfl rfl ?_
  refine ga_ldcl (z := -1) hm_168 rfl (by decide) ?_
  refine ga_lx (z := (lxo f (-1))) hm_168 rfl rfl rfl (lop_e 2 _ _) (fun ⟨h5_, h6_⟩ => ?_)
  refine ga_lx (z := (lan (F 344 46) ((lxo f (-1))))) hm_168 rfl rfl rfl (lop_e 0 _ _) (fun ⟨h7_, h8_⟩ => ?_)
  refine ga_lconst (z := 0) hm_168 rfl rfl ?_
  refine ga_lcmpn (a := (lan (F 344 46) ((lxo f (-1))))) (b := 0) hm_168 rfl rfl ⟨by omega, by omega⟩ ⟨by omega, by omega⟩ (fun h9_ => ?_) (fun h10_ => ?_)
  ·
    refine fl_iconst hm_168 rfl ?_
    refine gr_i (z := 0) hm_168 rfl rfl (ga_nb (by omega)) ?_
    exact ⟨rfl, (⟨by omega, by omega⟩), (by unfold gR; first | exact Or.inl ⟨rfl, by omega, by omega, by omega⟩ | exact Or.inr ⟨rfl, by rintro ⟨h7_, h8_, h9_⟩; first | omega | contradiction⟩)⟩
  refine ga_aload_n (v := .ref 344) hm_168 rfl rfl rfl ?_
  have b11_ : -9223372036854775808 ≤ F 344 47 ∧ F 344 47 ≤ 9223372036854775807 := gi_g hgi rfl
  refine ga_getl (z := F 344 47) hm_168 rfl sc_344 rfl (rfl) ?_
  refine ga_lload_n (z := f) hm_168 rfl rfl ?_
  refine ga_lx (z := (lan (F 344 47) f)) hm_168 rfl rfl rfl (lop_e 0 _ _) (fun ⟨h12_, h13_⟩ => ?_)
  refine ga_lconst (z := 0) hm_168 rfl rfl ?_
  refine ga_lcmpn (a := (lan (F 344 47) f)) (b := 0) hm_168 rfl rfl ⟨by omega, by omega⟩ ⟨by omega, by omega⟩ (fun h14_ => ?_) (fun h15_ => ?_)
  ·
    refine fl_iconst hm_168 rfl ?_
    refine gr_i (z := 0) hm_168 rfl rfl (ga_nb (by omega)) ?_
    exact ⟨rfl, (⟨by omega, by omega⟩), (by unfold gR; first | exact Or.inl ⟨rfl, by omega, by omega, by omega⟩ | exact Or.inr ⟨rfl, by rintro ⟨h7_, h8_, h9_⟩; first | omega | contradiction⟩)⟩
  refine fl_iconst hm_168 rfl ?_
  refine fl_goto hm_168 rfl ?_
  refine gr_i (z := 1) hm_168 rfl rfl (ga_nb (by omega)) ?_
  exact ⟨rfl, (⟨by omega, by omega⟩), (by unfold gR; first | exact Or.inl ⟨rfl, by omega, by omega, by omega⟩ | exact Or.inr ⟨rfl, by rintro ⟨h7_, h8_, h9_⟩; first | omega | contradiction⟩)⟩

/-! isBefore of the class -/
theorem chn_le {ln pr ls : Nat → Int} {V : List wy_T} {b : Int} (h : chn ln pr ls V b) : ∀ i, i < V.length → (vat V i).length ≤ i := by
  intro i
  induction i using Nat.strongRecOn with
  | _ i ih =>
    intro hi
    by_cases h0 : 0 < i
    · obtain ⟨⟨h1, h2, -⟩, h3⟩ := (h.2 i hi).2 h0
      have h4 := ih (pr i).toNat (by omega) (by omega)
      rw [h3, List.length_append, List.length_singleton]
      omega
    · have e : i = 0 := by omega
      subst e
      rw [h.1]
      exact Nat.le_refl _
theorem chn_pos {ln pr ls : Nat → Int} {V : List wy_T} {b : Int} (h : chn ln pr ls V b) {i : Nat} (hi : i < V.length) (hl : (vat V i).length = 0) : i = 0 := by
  by_cases h0 : 0 < i
  · rw [((h.2 i hi).2 h0).2, List.length_append, List.length_singleton] at hl
    omega
  · omega
def ibS (V : List wy_T) (fm p : Nat) (nb l k on ot df : Int) : Prop := ∃ A B : wy_T, vat V fm = vat V on.toNat ++ A ∧ vat V p = vat V ot.toNat ++ B ∧ (A.length : Int) = k ∧ cmpd df (A ++ [nb]) (B ++ [l]) ∧ (on.toNat < V.length ∧ ot.toNat < V.length) ∧ (vat V on.toNat).length = (vat V ot.toNat).length
theorem ib_0 {V : List wy_T} {fm p : Int} {nb l : Int} (hf : fm.toNat < V.length) (hp : p.toNat < V.length) (hl : (vat V fm.toNat).length = (vat V p.toNat).length) : ibS V fm.toNat p.toNat nb l 0 fm p (nb - l) := ⟨[], [], by simp, by simp, rfl, cmpd_1, ⟨hf, hp⟩, hl⟩
theorem ib_s {ln pr ls : Nat → Int} {V : List wy_T} {b : Int} {fm p : Nat} {nb l k on ot df df' : Int} (hc : chn ln pr ls V b) (h : ibS V fm p nb l k on ot df) (hne : ¬ on = ot) (h0 : 0 ≤ on ∧ 0 ≤ ot) (hd : (ls on.toNat = ls ot.toNat ∧ df' = df) ∨ (¬ ls on.toNat = ls ot.toNat ∧ df' = ls on.toNat - ls ot.toNat)) : ibS V fm p nb l (k + 1) (pr on.toNat) (pr ot.toNat) df' := by
  obtain ⟨A, B, a1, a2, a3, a4, ⟨a5, a6⟩, a7⟩ := h
  have hp1 : 0 < on.toNat := by
    by_cases e : 0 < on.toNat
    · exact e
    · exfalso
      have e1 : on.toNat = 0 := by omega
      rw [e1, hc.1] at a7
      have e2 := chn_pos hc a6 a7.symm
      omega
  have hp2 : 0 < ot.toNat := by
    by_cases e : 0 < ot.toNat
    · exact e
    · exfalso
      have e1 : ot.toNat = 0 := by omega
      rw [e1, hc.1] at a7
      have e2 := chn_pos hc a5 a7
      omega
  obtain ⟨⟨b1, b2, -⟩, b3⟩ := (hc.2 _ a5).2 hp1
  obtain ⟨⟨c1, c2, -⟩, c3⟩ := (hc.2 _ a6).2 hp2
  rw [b3, c3, List.length_append, List.length_append, List.length_singleton, List.length_singleton] at a7
  refine ⟨ls on.toNat :: A, ls ot.toNat :: B, a1.trans (by rw [b3]; exact List.append_assoc _ _ _), a2.trans (by rw [c3]; exact List.append_assoc _ _ _), by rw [List.length_cons]; omega, ?_, ⟨by omega, by omega⟩, by omega⟩
  rcases hd with ⟨d1, d2⟩ | ⟨d1, d2⟩
  · rw [d2]
    exact cmpd_e a4 d1
  · rw [d2]
    exact cmpd_n a4 d1
theorem ib_e {V : List wy_T} {fm p : Nat} {nb l k on ot df : Int} (h : ibS V fm p nb l k on ot df) (e : on = ot) : df < 0 ↔ lxl (vat V fm ++ [nb]) (vat V p ++ [l]) := by
  obtain ⟨A, B, a1, a2, a3, a4, -, -⟩ := h
  subst e
  rw [a1, a2, List.append_assoc, List.append_assoc]
  exact cmpd_lx a4
theorem ib_k {ln pr ls : Nat → Int} {V : List wy_T} {b : Int} {fm p : Nat} {nb l k on ot df : Int} (h : ibS V fm p nb l k on ot df) (hc : chn ln pr ls V b) (hf : fm < V.length) (h2 : V.length ≤ 200) : k ≤ 199 := by
  obtain ⟨A, B, a1, a2, a3, a4, -, -⟩ := h
  have h3 := chn_le hc fm hf
  rw [a1, List.length_append] at h3
  omega
/-- what offer takes -/
def ofr (F : fl_N) (V : List wy_T) (w fm : Nat) (nb : Int) : Prop := F 335 fm + 1 < F 335 w ∨ (F 335 fm + 1 = F 335 w ∧ lxl (vat V fm ++ [nb]) (vat V (F 336 w).toNat ++ [F 337 w]))
def ofE (F F' : fl_N) (V : List wy_T) (w fm : Nat) (nb : Int) : Prop := (ofr F V w fm nb ∧ F' 335 w = F 335 fm + 1 ∧ F' 336 w = (fm : Int) ∧ F' 337 w = nb) ∨ (¬ ofr F V w fm nb ∧ F' 335 w = F 335 w ∧ F' 336 w = F 336 w ∧ F' 337 w = F 337 w)
/-- an entry that has a way, or none yet -/
def hwy (F : fl_N) (V : List wy_T) (w : Nat) : Prop := F 335 w ≤ 200 → (0 ≤ F 336 w ∧ (F 336 w).toNat < V.length) ∧ F 335 w = ((vat V (F 336 w).toNat).length : Int) + 1

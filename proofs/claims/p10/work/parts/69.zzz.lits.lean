/-! literals that were read fit their predicates -/
theorem tm_ok {K : fl_N} {k : Int} {l tl : List Int} {w p q : Int} (h : sp_term K k l tl w p = .inr q) : 0 ≤ idx l (K 6 p.toNat) ∧ q = sk K p ∧ (w = -1 ∨ tl.getD (idx l (K 6 p.toNat)).toNat 0 = w) := by
  unfold sp_term at h
  split at h
  · split at h
    · cases h
    · split at h
      · rename_i h1 h2 h3
        exact ⟨by omega, (Sum.inr.inj h).symm, h3⟩
      · cases h
  · cases h
theorem at_ok {K : fl_N} {k : Int} {l tl pl : List Int} {ps : List (List Int)} {p q : Int} (h : sp_atom K k l tl pl ps p = .inr q) : 0 ≤ idx pl (K 6 p.toNat) ∧ (0 < (ps.getD (idx pl (K 6 p.toNat)).toNat []).length → 0 ≤ idx l (K 6 (sk K p).toNat) ∧ ((ps.getD (idx pl (K 6 p.toNat)).toNat []).getD 0 0 = -1 ∨ tl.getD (idx l (K 6 (sk K p).toNat)).toNat 0 = (ps.getD (idx pl (K 6 p.toNat)).toNat []).getD 0 0)) ∧ (1 < (ps.getD (idx pl (K 6 p.toNat)).toNat []).length → 0 ≤ idx l (K 6 (sk K (sk K p)).toNat) ∧ ((ps.getD (idx pl (K 6 p.toNat)).toNat []).getD 1 0 = -1 ∨ tl.getD (idx l (K 6 (sk K (sk K p)).toNat)).toNat 0 = (ps.getD (idx pl (K 6 p.toNat)).toNat []).getD 1 0)) := by
  unfold sp_atom at h
  split at h
  · split at h
    · cases h
    · rename_i h1 h2
      obtain ⟨p1, e1, h⟩ := pb_ok h
      obtain ⟨p2, e2, h⟩ := pb_ok h
      refine ⟨by omega, fun h0 => ?_, fun h0 => ?_⟩
      · rw [if_pos h0] at e1
        have a := tm_ok e1
        exact ⟨a.1, a.2.2⟩
      · rw [if_pos (show 0 < (ps.getD (idx pl (K 6 p.toNat)).toNat []).length by omega)] at e1
        rw [if_pos h0] at e2
        have a := tm_ok e1
        rw [a.2.1] at e2
        have b := tm_ok e2
        exact ⟨b.1, b.2.2⟩
  · cases h
theorem at_lw {K : fl_N} {k : Int} {l tl pl : List Int} {ps : List (List Int)} {nt p q : Int} (h : sp_atom K k l tl pl ps p = .inr q) (hpn : pl.length = ps.length) : lwf ps (at_d K l pl ps nt p) := by
  intro _
  obtain ⟨a1, a2, a3⟩ := at_ok h
  have b := idx_bd pl (K 6 p.toNat)
  refine ⟨⟨a1, by rw [← hpn]; exact b.2⟩, ?_, ?_⟩
  · by_cases e : 0 < (ps.getD (idx pl (K 6 p.toNat)).toNat []).length
    · exact Or.inr ⟨e, by show 0 ≤ (if 0 < (ps.getD (idx pl (K 6 p.toNat)).toNat []).length then _ else _); rw [if_pos e]; exact (a2 e).1⟩
    · exact Or.inl ⟨by show (ps.getD (idx pl (K 6 p.toNat)).toNat []).length < 1; omega, by show (if 0 < (ps.getD (idx pl (K 6 p.toNat)).toNat []).length then _ else _) = _; rw [if_neg e]⟩
  · by_cases e : 1 < (ps.getD (idx pl (K 6 p.toNat)).toNat []).length
    · exact Or.inr ⟨e, by show 0 ≤ (if 1 < (ps.getD (idx pl (K 6 p.toNat)).toNat []).length then _ else _); rw [if_pos e]; exact (a3 e).1⟩
    · exact Or.inl ⟨by show (ps.getD (idx pl (K 6 p.toNat)).toNat []).length < 2; omega, by show (if 1 < (ps.getD (idx pl (K 6 p.toNat)).toNat []).length then _ else _) = _; rw [if_neg e]⟩
/-- the terms of a literal that was read are among the names in use -/
def ltn (n : Nat) (x : lt_T) : Prop := (-1 ≤ x.2.2.1 ∧ x.2.2.1 < (n : Int)) ∧ (-1 ≤ x.2.2.2 ∧ x.2.2.2 < (n : Int)) ∧ (x.1 = -1 → 0 ≤ x.2.2.1 ∧ 0 ≤ x.2.2.2)
theorem at_lt {K : fl_N} {k : Int} {l tl pl : List Int} {ps : List (List Int)} {nt p q : Int} (h : sp_atom K k l tl pl ps p = .inr q) : ltn l.length (at_d K l pl ps nt p) := by
  obtain ⟨a1, a2, a3⟩ := at_ok h
  have b1 := idx_bd l (K 6 (sk K p).toNat)
  have b2 := idx_bd l (K 6 (sk K (sk K p)).toNat)
  refine ⟨?_, ?_, fun h1 => absurd h1 (at_ge h)⟩
  · show -1 ≤ (if 0 < (ps.getD (idx pl (K 6 p.toNat)).toNat []).length then _ else _) ∧ (if 0 < (ps.getD (idx pl (K 6 p.toNat)).toNat []).length then _ else _) < _
    by_cases e : 0 < (ps.getD (idx pl (K 6 p.toNat)).toNat []).length
    · rw [if_pos e]; exact b1
    · rw [if_neg e]; exact ⟨by omega, by omega⟩
  · show -1 ≤ (if 1 < (ps.getD (idx pl (K 6 p.toNat)).toNat []).length then _ else _) ∧ (if 1 < (ps.getD (idx pl (K 6 p.toNat)).toNat []).length then _ else _) < _
    by_cases e : 1 < (ps.getD (idx pl (K 6 p.toNat)).toNat []).length
    · rw [if_pos e]; exact b2
    · rw [if_neg e]; exact ⟨by omega, by omega⟩
theorem eq_lt {K : fl_N} {k : Int} {l tl : List Int} {nt p q : Int} (h : sp_eq K k l tl p = .inr q) : ltn l.length (eq_d K l nt p) := by
  unfold sp_eq at h
  obtain ⟨p1, e1, h⟩ := pb_ok h
  obtain ⟨p2, e2, h⟩ := pb_ok h
  have a := tm_ok e1
  rw [a.2.1] at e2
  have b := tm_ok e2
  have b1 := idx_bd l (K 6 (sk K p).toNat)
  have b2 := idx_bd l (K 6 (sk K (sk K p)).toNat)
  exact ⟨b1, b2, fun _ => ⟨a.1, b.1⟩⟩
/-- the terms' types fit the predicate's -/
def lty (ps : List (List Int)) (tys : List Int) (x : lt_T) : Prop := ¬ x.1 = -1 → (0 < (ps.getD x.1.toNat []).length → (ps.getD x.1.toNat []).getD 0 0 = -1 ∨ tys.getD x.2.2.1.toNat 0 = (ps.getD x.1.toNat []).getD 0 0) ∧ (1 < (ps.getD x.1.toNat []).length → (ps.getD x.1.toNat []).getD 1 0 = -1 ∨ tys.getD x.2.2.2.toNat 0 = (ps.getD x.1.toNat []).getD 1 0)
theorem at_ty {K : fl_N} {k : Int} {l tl pl : List Int} {ps : List (List Int)} {nt p q : Int} (h : sp_atom K k l tl pl ps p = .inr q) : lty ps tl (at_d K l pl ps nt p) := by
  intro _
  obtain ⟨a1, a2, a3⟩ := at_ok h
  refine ⟨fun e => ?_, fun e => ?_⟩
  · have e' : 0 < (ps.getD (idx pl (K 6 p.toNat)).toNat []).length := e
    show (ps.getD (idx pl (K 6 p.toNat)).toNat []).getD 0 0 = -1 ∨ tl.getD (Int.toNat (if 0 < (ps.getD (idx pl (K 6 p.toNat)).toNat []).length then _ else _)) 0 = (ps.getD (idx pl (K 6 p.toNat)).toNat []).getD 0 0
    rw [if_pos e']
    exact (a2 e').2
  · have e' : 1 < (ps.getD (idx pl (K 6 p.toNat)).toNat []).length := e
    show (ps.getD (idx pl (K 6 p.toNat)).toNat []).getD 1 0 = -1 ∨ tl.getD (Int.toNat (if 1 < (ps.getD (idx pl (K 6 p.toNat)).toNat []).length then _ else _)) 0 = (ps.getD (idx pl (K 6 p.toNat)).toNat []).getD 1 0
    rw [if_pos e']
    exact (a3 e').2
def lok (ps : List (List Int)) (n : Nat) (tys : List Int) (x : lt_T) : Prop := lwf ps x ∧ ltn n x ∧ lty ps tys x
section LOK
variable {K : fl_N} {e : Bool} {k : Int} {l tl pl : List Int} {ps : List (List Int)}
theorem mb_all {nt p q : Int} (hpn : pl.length = ps.length) (h : (if e = false ∧ isw K p [61] = true then sp_eq K k l tl p else sp_atom K k l tl pl ps p) = .inr q) : lok ps l.length tl (mb_d K e l pl ps nt p) := by
  unfold mb_d
  by_cases c : e = false ∧ isw K p [61] = true
  · rw [if_pos c] at h ⊢
    exact ⟨fun h9 => absurd rfl h9, eq_lt h, fun h9 => absurd rfl h9⟩
  · rw [if_neg c] at h ⊢
    exact ⟨at_lw h hpn, at_lt h, at_ty h⟩
theorem mem_all {c p : Int} {r : Int × Int} (hpn : pl.length = ps.length) (h : sp_mem K e k l tl pl ps c p = .inr r) : ∀ x ∈ mem_d K e l pl ps p, lok ps l.length tl x := by
  unfold sp_mem at h
  unfold mem_d
  by_cases e1 : e = true ∧ isw K p [105, 110, 99, 114, 101, 97, 115, 101] = true
  · rw [if_pos e1]
    intro x hx
    simp at hx
  · rw [if_neg e1] at h ⊢
    by_cases e2 : isw K p [110, 111, 116] = true
    · rw [if_pos e2] at h ⊢
      obtain ⟨p1, k1, h⟩ := pb_ok h
      obtain ⟨p2, k2, h⟩ := pb_ok h
      rw [ks_ok k1]
      intro x hx
      rw [List.mem_singleton.mp hx]
      exact mb_all hpn k2
    · rw [if_neg e2] at h ⊢
      obtain ⟨p2, k2, h⟩ := pb_ok h
      intro x hx
      rw [List.mem_singleton.mp hx]
      exact mb_all hpn k2
theorem mems_all (hpn : pl.length = ps.length) : ∀ (m : Nat) (b : Bool) (c p : Int), ∀ x ∈ mems_d K e k l tl pl ps m b c p, lok ps l.length tl x := by
  intro m
  induction m with
  | zero => intro b c p x hx; simp [mems_d] at hx
  | succ m ih =>
    intro b c p x hx
    unfold mems_d at hx
    split at hx
    · simp at hx
    · split at hx
      · rename_i q hq
        rcases List.mem_append.mp hx with h | h
        · exact mem_all hpn hq x h
        · exact ih _ _ _ x h
      · simp at hx
theorem clause_all {p : Int} {r : Int × Int} (hpn : pl.length = ps.length) (h : sp_clause K e k l tl pl ps p = .inr r) : ∀ x ∈ clause_d K e k l tl pl ps p, lok ps l.length tl x := by
  unfold sp_clause at h
  obtain ⟨p1, k1, h⟩ := pb_ok h
  unfold clause_d
  rw [ks_ok k1]
  by_cases c : isw K p1 [97, 110, 100] = true
  · rw [if_pos c]
    exact mems_all hpn _ _ _ _
  · rw [if_neg c] at h ⊢
    exact mem_all hpn h
theorem atoms_all (hpn : pl.length = ps.length) : ∀ (m : Nat) (p : Int), ∀ x ∈ atoms_d K k l tl pl ps m p, lok ps l.length tl x ∧ ¬ x.1 = -1 ∧ x.2.1 = 0 := by
  intro m
  induction m with
  | zero => intro p x hx; simp [atoms_d] at hx
  | succ m ih =>
    intro p x hx
    unfold atoms_d at hx
    split at hx
    · split at hx
      · rename_i q hq
        rcases List.mem_cons.mp hx with h | h
        · rw [h]
          exact ⟨⟨at_lw hq hpn, at_lt hq, at_ty hq⟩, at_ge hq, rfl⟩
        · exact ih _ x h
      · simp at hx
    · simp at hx
end LOK
/-- a problem has an object -/
theorem objs_len {K : fl_N} {ts : List Int} : ∀ (m : Nat) (l tl : List Int) (p : Int) (r : Int × List Int × List Int), l.length = tl.length → sp_objs K ts m l tl p = .inr r → r.2.1.length = r.2.2.length ∧ l.length ≤ r.2.1.length ∧ (l = [] → 0 < m → 0 < r.2.1.length) := by
  intro m
  induction m with
  | zero =>
    intro l tl p r hl h
    have h9 := Sum.inr.inj h
    rw [← h9]
    exact ⟨hl, Nat.le_refl _, fun _ h0 => absurd h0 (by omega)⟩
  | succ m ih =>
    intro l tl p r hl h
    unfold sp_objs at h
    split at h
    · rename_i hc
      have h9 := Sum.inr.inj h
      rw [← h9]
      exact ⟨hl, Nat.le_refl _, fun h0 _ => absurd h0 hc.1⟩
    · obtain ⟨q, k1, h⟩ := pb_ok h
      have hq : q.2.1.length = l.length + 1 ∧ q.2.2.length = tl.length + 1 := by
        unfold sp_typed at k1
        obtain ⟨u, k2, k1⟩ := pb_ok k1
        have hu : u.2.length = l.length + 1 := by
          unfold sp_new at k2
          split at k2
          · split at k2
            · rw [← Sum.inr.inj k2]; simp
            · cases k2
          · cases k2
        split at k1
        · obtain ⟨v, k3, k1⟩ := pb_ok k1
          rw [← Sum.inr.inj k1]
          exact ⟨hu, by simp⟩
        · rw [← Sum.inr.inj k1]
          exact ⟨hu, by simp⟩
      obtain ⟨a, b, -⟩ := ih q.2.1 q.2.2 q.1 r (by omega) h
      exact ⟨a, by omega, fun _ _ => by omega⟩
/-- what a problem that was read holds -/
theorem prb_ok {K : fl_N} {nm : Int} {ts pl l tl : List Int} {ps : List (List Int)} (hpn : pl.length = ps.length) (h : sp_prb K nm ts pl ps = .inr (l, tl)) : (l.length = tl.length ∧ 0 < tl.length) ∧ (∀ x ∈ prb_i K nm ts pl ps, lok ps l.length tl x ∧ ¬ x.1 = -1 ∧ x.2.1 = 0) ∧ (∀ x ∈ prb_g K nm ts pl ps, lok ps l.length tl x) := by
  unfold sp_prb at h
  obtain ⟨p1, k1, h⟩ := pb_ok h
  obtain ⟨p2, k2, h⟩ := pb_ok h
  obtain ⟨p3, k3, h⟩ := pb_ok h
  obtain ⟨p4, k4, h⟩ := pb_ok h
  obtain ⟨r, k5, h⟩ := pb_ok h
  have hh : pr_h K nm ts = .inr r := by simp [pr_h, pb, k1, k2, k3, k4, k5]
  obtain ⟨p6, k6, h⟩ := pb_ok h
  obtain ⟨p7, k7, h⟩ := pb_ok h
  obtain ⟨p8, k8, h⟩ := pb_ok h
  obtain ⟨p9, k9, h⟩ := pb_ok h
  obtain ⟨s, k10, h⟩ := pb_ok h
  obtain ⟨p11, k11, h⟩ := pb_ok h
  obtain ⟨p12, k12, h⟩ := pb_ok h
  have hr : r.2 = (l, tl) := Sum.inr.inj h
  have hr1 : r.2.1 = l := by rw [hr]
  have hr2 : r.2.2 = tl := by rw [hr]
  unfold sp_part at k6 k9
  obtain ⟨a6, b6, c6⟩ := pb_ok k6
  obtain ⟨a9, b9, c9⟩ := pb_ok k9
  refine ⟨?_, ?_, ?_⟩
  · unfold sp_robjs at k5
    obtain ⟨q0, -, k5⟩ := pb_ok k5
    obtain ⟨q, kq, k5⟩ := pb_ok k5
    obtain ⟨q1, -, k5⟩ := pb_ok k5
    have e : r = (q1, q.2) := (Sum.inr.inj k5).symm
    obtain ⟨a, -, c⟩ := objs_len 6 [] [] q0 q rfl kq
    have e2 : q.2 = (l, tl) := by rw [← hr, e]
    rw [e2] at a c
    have c2 := c rfl (by decide)
    simp only at a c2
    omega
  · intro x hx
    unfold prb_i at hx
    rw [hh] at hx
    have h9 := atoms_all hpn _ _ x hx
    rw [hr1, hr2] at h9
    exact h9
  · intro x hx
    unfold prb_g at hx
    rw [hh] at hx
    simp only at hx
    rw [ks_ok b6, wd_ok c6, k7] at hx
    simp only at hx
    rw [ks_ok k8, ks_ok b9, wd_ok c9] at hx
    have h9 := clause_all hpn k10 x hx
    rw [hr1, hr2] at h9
    exact h9
/-- an action that was read -/
def adok (ps : List (List Int)) (d : ad_T) : Prop := (∀ x ∈ d.2.1, lok ps d.1.length d.1 x) ∧ (∀ x ∈ d.2.2.1, lok ps d.1.length d.1 x)
theorem params_len {K : fl_N} {ts : List Int} : ∀ (m : Nat) (l tl : List Int) (p : Int) (r : Int × List Int × List Int), l.length = tl.length → sp_params K ts m l tl p = .inr r → r.2.1.length = r.2.2.length ∧ r.2.1.length ≤ l.length + m := by
  intro m
  induction m with
  | zero =>
    intro l tl p r hl h
    have h9 := Sum.inr.inj h
    rw [← h9]
    exact ⟨hl, Nat.le_refl _⟩
  | succ m ih =>
    intro l tl p r hl h
    unfold sp_params at h
    split at h
    · have h9 := Sum.inr.inj h
      rw [← h9]
      exact ⟨hl, by show l.length ≤ _; omega⟩
    · obtain ⟨q, k1, h⟩ := pb_ok h
      have hq : q.2.1.length = l.length + 1 ∧ q.2.2.length = tl.length + 1 := by
        unfold sp_typed at k1
        obtain ⟨u, k2, k1⟩ := pb_ok k1
        have hu : u.2.length = l.length + 1 := by
          unfold sp_new at k2
          split at k2
          · split at k2
            · rw [← Sum.inr.inj k2]; simp
            · cases k2
          · cases k2
        split at k1
        · obtain ⟨v, k3, k1⟩ := pb_ok k1
          rw [← Sum.inr.inj k1]
          exact ⟨hu, by simp⟩
        · rw [← Sum.inr.inj k1]
          exact ⟨hu, by simp⟩
      obtain ⟨a, b⟩ := ih q.2.1 q.2.2 q.1 r (by omega) h
      exact ⟨a, by omega⟩
theorem act_ok {K : fl_N} {ts pl al : List Int} {ps : List (List Int)} {p : Int} {q : Int × List Int} (hpn : pl.length = ps.length) (h : sp_action K ts pl ps al p = .inr q) : adok ps (act_d K ts pl ps p) ∧ (act_d K ts pl ps p).1.length ≤ 3 := by
  unfold sp_action at h
  obtain ⟨p1, k1, h⟩ := pb_ok h
  obtain ⟨p2, k2, h⟩ := pb_ok h
  obtain ⟨⟨p3, al2⟩, k3, h⟩ := pb_ok h
  obtain ⟨p4, k4, h⟩ := pb_ok h
  obtain ⟨p5, k5, h⟩ := pb_ok h
  obtain ⟨⟨p6, l2, tl2⟩, k6, h⟩ := pb_ok h
  obtain ⟨p7, k7, h⟩ := pb_ok h
  obtain ⟨⟨p9, c9⟩, k8, h⟩ := pb_ok h
  obtain ⟨p10, k9, h⟩ := pb_ok h
  obtain ⟨⟨p11, c11⟩, k10, h⟩ := pb_ok h
  have hl := params_len 3 [] [] p5 _ rfl k6
  simp only [List.length_nil] at hl
  rw [act_h k1 k2 k3 k4 k5 k6 k7]
  by_cases c : isw K p7 [58, 112, 114, 101, 99, 111, 110, 100, 105, 116, 105, 111, 110] = true
  · simp only at k8
    rw [if_pos c] at k8
    rw [act_y c rfl k8 k9 k10]
    refine ⟨⟨?_, ?_⟩, ?_⟩
    · show ∀ x ∈ clause_d K false 3 l2 tl2 pl ps (sk K p7), lok ps tl2.length tl2 x
      rw [← hl.1]
      exact clause_all hpn k8
    · show ∀ x ∈ clause_d K true 3 l2 tl2 pl ps p10, lok ps tl2.length tl2 x
      rw [← hl.1]
      exact clause_all hpn k10
    · show tl2.length ≤ 3
      omega
  · simp only at k8
    rw [if_neg c] at k8
    have e9 := Prod.mk.inj (Sum.inr.inj k8)
    rw [← e9.1] at k9
    rw [act_n (by simpa using c) k9 k10]
    refine ⟨⟨?_, ?_⟩, ?_⟩
    · show ∀ x ∈ ([] : List lt_T), lok ps tl2.length tl2 x
      intro x hx
      simp at hx
    · show ∀ x ∈ clause_d K true 3 l2 tl2 pl ps p10, lok ps tl2.length tl2 x
      rw [← hl.1]
      exact clause_all hpn k10
    · show tl2.length ≤ 3
      omega
theorem acts_all {K : fl_N} {ts pl : List Int} {ps : List (List Int)} (hpn : pl.length = ps.length) : ∀ (m : Nat) (al : List Int) (p : Int), ∀ d ∈ acts_d K ts pl ps m al p, adok ps d ∧ d.1.length ≤ 3 := by
  intro m
  induction m with
  | zero => intro al p d hd; simp [acts_d] at hd
  | succ m ih =>
    intro al p d hd
    unfold acts_d at hd
    split at hd
    · simp at hd
    · split at hd
      · rename_i q hq
        rcases List.mem_cons.mp hd with h | h
        · rw [h]
          exact act_ok hpn hq
        · exact ih _ _ d h
      · simp at hd
theorem dom_all {K : fl_N} {ts pl al : List Int} {ps : List (List Int)} (hpn : pl.length = ps.length) (h : sp_dom K = .inr (ts, pl, ps, al)) : ∀ d ∈ dom_d K, adok ps d ∧ d.1.length ≤ 3 := by
  unfold sp_dom at h
  obtain ⟨p1, k1, h⟩ := pb_ok h
  obtain ⟨p2, k2, h⟩ := pb_ok h
  obtain ⟨p3, k3, h⟩ := pb_ok h
  obtain ⟨p4, k4, h⟩ := pb_ok h
  obtain ⟨t, k5, h⟩ := pb_ok h
  obtain ⟨q, k6, h⟩ := pb_ok h
  obtain ⟨a, k7, h⟩ := pb_ok h
  obtain ⟨p8, k8, h⟩ := pb_ok h
  have h9 := Sum.inr.inj h
  simp only [Prod.mk.injEq] at h9
  obtain ⟨e1, e2, e3, -⟩ := h9
  have hh : sp_head K = .inr (q.1, ts, pl, ps) := by
    unfold sp_head
    rw [k1, pb_r, k2, pb_r, k3, pb_r, k4, pb_r, k5, pb_r, k6, pb_r, e1, e2, e3]
  rw [dom_dd hh]
  exact acts_all hpn _ _ _

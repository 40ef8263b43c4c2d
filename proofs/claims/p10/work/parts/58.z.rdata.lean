theorem fs_c {S : List (Nat × Nat × Nat × Nat)} {r k : Nat} (h : S.any (fun q => Nat.ble q.1 r && Nat.ble r q.2.1) = false) : fs_in S r k = false := by
  unfold fs_in
  rw [List.any_eq_false] at h ⊢
  intro q hq h9
  exact h q hq (by rw [Bool.and_eq_true] at h9; exact h9.1)
theorem fs_rg {S : List (Nat × Nat × Nat × Nat)} {a b : Nat} (h : S.all (fun q => Nat.blt q.2.1 a || Nat.blt b q.1) = true) (r k : Nat) (hr : a ≤ r ∧ r ≤ b) : fs_in S r k = false := by
  unfold fs_in
  rw [List.any_eq_false]
  intro q hq h9
  rw [List.all_eq_true] at h
  have h1 := h q hq
  rw [Bool.or_eq_true, Nat.blt_eq, Nat.blt_eq] at h1
  rw [Bool.and_eq_true, Bool.and_eq_true, Nat.ble_eq, Nat.ble_eq] at h9
  omega
theorem nc_ {a b : Nat} {p : Prop} (h : Nat.beq a b = false) : ¬ (a = b ∧ p) := fun e => by rw [e.1, Nat.beq_refl] at h; cases h
/-! the reference's literals and actions: what its tables hold -/
def rat (F : fl_N) (ll : Nat) (x : lt_T) : Prop := F 362 ll = x.1 ∧ (x.2.2.1 = -1 ∨ F 363 (2 * ll) = x.2.2.1) ∧ (x.2.2.2 = -1 ∨ F 363 (2 * ll + 1) = x.2.2.2)
def rlt (F : fl_N) (ll : Nat) (x : lt_T) : Prop := F 361 ll = x.2.1 ∧ ((x.1 = -1 ∧ F 360 ll = 1 ∧ F 363 (2 * ll) = x.2.2.1 ∧ F 363 (2 * ll + 1) = x.2.2.2) ∨ (¬ x.1 = -1 ∧ F 360 ll = 0 ∧ rat F ll x))
/-- nothing changes but what belongs to action a, of the literals those from lo to hi -/
def lfr (a lo hi : Nat) (F F' : fl_N) : Prop := (∀ j, j ≠ a → F' 354 j = F 354 j ∧ F' 357 j = F 357 j ∧ F' 358 j = F 358 j ∧ F' 359 j = F 359 j) ∧ (∀ j, (j < 3 * a ∨ 3 * a + 3 ≤ j) → F' 355 j = F 355 j) ∧ (∀ j, (j < lo ∨ hi ≤ j) → F' 360 j = F 360 j ∧ F' 361 j = F 361 j ∧ F' 362 j = F 362 j ∧ F' 363 (2 * j) = F 363 (2 * j) ∧ F' 363 (2 * j + 1) = F 363 (2 * j + 1))
theorem lfr_r {a lo hi : Nat} {F : fl_N} : lfr a lo hi F F := ⟨fun _ _ => ⟨rfl, rfl, rfl, rfl⟩, fun _ _ => rfl, fun _ _ => ⟨rfl, rfl, rfl, rfl, rfl⟩⟩
theorem lfr_fs {a lo hi : Nat} {S : List (Nat × Nat × Nat × Nat)} {F F1 F2 : fl_N} (h : lfr a lo hi F F1) (hf : fs S F1 F2) (hS : ∀ r j, 354 ≤ r ∧ r ≤ 363 ∧ ¬ r = 356 → fs_in S r j = false) : lfr a lo hi F F2 := by
  have e : ∀ r j, 354 ≤ r ∧ r ≤ 363 ∧ ¬ r = 356 → F2 r j = F1 r j := fun r j hr => hf r j (hS r j hr)
  refine ⟨fun j hj => ?_, fun j hj => ?_, fun j hj => ?_⟩
  · rw [e 354 j (by omega), e 357 j (by omega), e 358 j (by omega), e 359 j (by omega)]
    exact h.1 j hj
  · rw [e 355 j (by omega)]
    exact h.2.1 j hj
  · rw [e 360 j (by omega), e 361 j (by omega), e 362 j (by omega), e 363 (2 * j) (by omega), e 363 (2 * j + 1) (by omega)]
    exact h.2.2 j hj
theorem lfr_tr {a lo hi lo2 hi2 : Nat} {F F1 F2 : fl_N} (h : lfr a lo hi F F1) (h2 : lfr a lo2 hi2 F1 F2) (h3 : lo ≤ lo2) (h4 : hi2 ≤ hi) : lfr a lo hi F F2 := by
  refine ⟨fun j hj => ?_, fun j hj => ?_, fun j hj => ?_⟩
  · obtain ⟨a1, a2, a3, a4⟩ := h2.1 j hj
    rw [a1, a2, a3, a4]
    exact h.1 j hj
  · rw [h2.2.1 j hj]
    exact h.2.1 j hj
  · obtain ⟨a1, a2, a3, a4, a5⟩ := h2.2.2 j (by omega)
    rw [a1, a2, a3, a4, a5]
    exact h.2.2 j hj
theorem lfr_u {a lo hi c k : Nat} {z : Int} {F F1 : fl_N} (h : lfr a lo hi F F1) (hc : c < 354 ∨ c = 356 ∨ 363 < c ∨ ((c = 354 ∨ (357 ≤ c ∧ c ≤ 359)) ∧ k = a) ∨ (c = 355 ∧ 3 * a ≤ k ∧ k < 3 * a + 3) ∨ (360 ≤ c ∧ c ≤ 362 ∧ lo ≤ k ∧ k < hi) ∨ (c = 363 ∧ 2 * lo ≤ k ∧ k < 2 * hi)) : lfr a lo hi F (fl_u F1 c k z) := by
  refine ⟨fun j hj => ?_, fun j hj => ?_, fun j hj => ?_⟩
  · rw [fl_u_ne (by omega), fl_u_ne (by omega), fl_u_ne (by omega), fl_u_ne (by omega)]
    exact h.1 j hj
  · rw [fl_u_ne (by omega)]
    exact h.2.1 j hj
  · rw [fl_u_ne (by omega), fl_u_ne (by omega), fl_u_ne (by omega), fl_u_ne (by omega), fl_u_ne (by omega)]
    exact h.2.2 j hj
theorem rlt_lfr {a lo hi ll : Nat} {F F' : fl_N} {x : lt_T} (h : rlt F ll x) (hf : lfr a lo hi F F') (hl : ll < lo ∨ hi ≤ ll) : rlt F' ll x := by
  obtain ⟨a1, a2, a3, a4, a5⟩ := hf.2.2 ll hl
  unfold rlt rat
  rw [a1, a2, a3, a4, a5]
  exact h
/-- the literals from at_ on -/
def rcl (F : fl_N) (at_ : Nat) (L : List lt_T) : Prop := ∀ (j : Nat) (x : lt_T), L[j]? = some x → rlt F (at_ + j) x
theorem rcl_nil {F : fl_N} {at_ : Nat} : rcl F at_ [] := fun j x h => by simp at h
theorem rcl_lfr {a lo hi at_ : Nat} {F F' : fl_N} {L : List lt_T} (h : rcl F at_ L) (hf : lfr a lo hi F F') (hl : at_ + L.length ≤ lo ∨ hi ≤ at_) : rcl F' at_ L := fun j x hx => by
  have h9 := (List.getElem?_eq_some_iff.mp hx).1
  exact rlt_lfr (h j x hx) hf (by omega)
theorem rcl_add {F : fl_N} {at_ ll : Nat} {L : List lt_T} {x : lt_T} (h : rcl F at_ L) (hl : ll = at_ + L.length) (hx : rlt F ll x) : rcl F at_ (L ++ [x]) := by
  intro j y hy
  by_cases e : j < L.length
  · rw [List.getElem?_append_left e] at hy
    exact h j y hy
  · have h9 := (List.getElem?_eq_some_iff.mp hy).1
    rw [List.length_append, List.length_singleton] at h9
    have e2 : j = L.length := by omega
    subst e2
    rw [List.getElem?_append_right (Nat.le_refl _)] at hy
    simp only [Nat.sub_self, List.getElem?_cons_zero, Option.some.injEq] at hy
    subst hy
    rw [← hl]
    exact hx
theorem rcl_eq {F : fl_N} {at_ : Nat} {L L' : List lt_T} (h : rcl F at_ L) (e : L = L') : rcl F at_ L' := by
  rw [← e]
  exact h
/-- an action of the reference -/
def racr (F : fl_N) (a : Nat) (x : ad_T) : Prop := (F 354 a = (x.1.length : Int) ∧ rty (F 355) (3 * a) x.1) ∧ (F 358 a = (x.2.1.length : Int) ∧ rcl F (8 * a) x.2.1) ∧ (F 359 a = (x.2.2.1.length : Int) ∧ rcl F (8 * a + 4) x.2.2.1) ∧ F 357 a = if x.2.2.2 = 0 then 1 else x.2.2.2
def rdar (F : fl_N) (D : List ad_T) : Prop := ∀ (j : Nat) (x : ad_T), D[j]? = some x → racr F j x
theorem rdar_nil {F : fl_N} : rdar F [] := fun j x h => by simp at h
theorem lfr_tz {a lo hi : Nat} {F F1 F2 : fl_N} (h : lfr a lo hi F F1) (h2 : lfr a 0 0 F1 F2) : lfr a lo hi F F2 := by
  refine ⟨fun j hj => ?_, fun j hj => ?_, fun j hj => ?_⟩
  · obtain ⟨a1, a2, a3, a4⟩ := h2.1 j hj
    rw [a1, a2, a3, a4]
    exact h.1 j hj
  · rw [h2.2.1 j hj]
    exact h.2.1 j hj
  · obtain ⟨a1, a2, a3, a4, a5⟩ := h2.2.2 j (by omega)
    rw [a1, a2, a3, a4, a5]
    exact h.2.2 j hj
theorem racr_lfr {a lo hi b : Nat} {F F' : fl_N} {x : ad_T} (h : racr F b x) (hf : lfr a lo hi F F') (hb : b < a) (hlo : 8 * a ≤ lo) (hx : x.1.length ≤ 3 ∧ x.2.1.length ≤ 4 ∧ x.2.2.1.length ≤ 4) : racr F' b x := by
  obtain ⟨⟨h1, h2⟩, ⟨h3, h4⟩, ⟨h5, h6⟩, h7⟩ := h
  obtain ⟨a1, a2, a3, a4⟩ := hf.1 b (by omega)
  refine ⟨⟨by rw [a1]; exact h1, fun j y hy => ?_⟩, ⟨by rw [a3]; exact h3, rcl_lfr h4 hf (by omega)⟩, ⟨by rw [a4]; exact h5, rcl_lfr h6 hf (by omega)⟩, by rw [a2]; exact h7⟩
  have h9 := (List.getElem?_eq_some_iff.mp hy).1
  rw [hf.2.1 _ (by omega)]
  exact h2 j y hy
theorem racr_ln {F : fl_N} {b : Nat} {x : ad_T} (h : racr F b x) (hg : gi F) (hb : b < 5) : x.1.length ≤ 3 ∧ x.2.1.length ≤ 4 ∧ x.2.2.1.length ≤ 4 := by
  have h1 := h.1.1
  have h2 := h.2.1.1
  have h3 := h.2.2.1.1
  have g1 : 0 ≤ F 354 b ∧ F 354 b ≤ 3 := gi_g hg rfl
  have g2 : 0 ≤ F 358 b ∧ F 358 b ≤ 4 := gi_g hg rfl
  have g3 : 0 ≤ F 359 b ∧ F 359 b ≤ 4 := gi_g hg rfl
  omega
theorem rdar_add {lo hi : Nat} {F F' : fl_N} {D : List ad_T} {x : ad_T} {a : Nat} (h : rdar F D) (hg : gi F) (ha : a = D.length) (h5 : a ≤ 4) (hf : lfr a lo hi F F') (hlo : 8 * a ≤ lo) (hx : racr F' a x) : rdar F' (D ++ [x]) := by
  intro j y hy
  by_cases e : j < D.length
  · rw [List.getElem?_append_left e] at hy
    exact racr_lfr (h j y hy) hf (by omega) hlo (racr_ln (h j y hy) hg (by omega))
  · have h9 := (List.getElem?_eq_some_iff.mp hy).1
    rw [List.length_append, List.length_singleton] at h9
    have e2 : j = D.length := by omega
    subst e2
    rw [List.getElem?_append_right (Nat.le_refl _)] at hy
    simp only [Nat.sub_self, List.getElem?_cons_zero, Option.some.injEq] at hy
    subst hy
    rw [← ha]
    exact hx
theorem rdar_fs {S : List (Nat × Nat × Nat × Nat)} {F F' : fl_N} {D : List ad_T} (h : rdar F D) (hf : fs S F F') (hS : ∀ r k, 354 ≤ r ∧ r ≤ 363 → fs_in S r k = false) : rdar F' D := by
  intro j x hx
  obtain ⟨⟨h1, h2⟩, ⟨h3, h4⟩, ⟨h5, h6⟩, h7⟩ := h j x hx
  have hl : lfr 0 0 0 F F' := lfr_fs lfr_r hf (fun r k hr => hS r k (by omega))
  have e : ∀ r k, 354 ≤ r ∧ r ≤ 363 → F' r k = F r k := fun r k hr => hf r k (hS r k hr)
  exact ⟨⟨by rw [e _ _ (by omega)]; exact h1, fun i y hy => by rw [e _ _ (by omega)]; exact h2 i y hy⟩, ⟨by rw [e _ _ (by omega)]; exact h3, rcl_lfr h4 hl (by omega)⟩, ⟨by rw [e _ _ (by omega)]; exact h5, rcl_lfr h6 hl (by omega)⟩, by rw [e _ _ (by omega)]; exact h7⟩
theorem lfr_v {a lo hi : Nat} {S : List (Nat × Nat × Nat × Nat)} {F F1 F2 : fl_N} (h : lfr a lo hi F F1) (hf : fs S F1 F2) (hS : ∀ r j, r = 354 ∨ (357 ≤ r ∧ r ≤ 363) → fs_in S r j = false) (h5 : ∀ j, (j < 3 * a ∨ 3 * a + 3 ≤ j) → F2 355 j = F1 355 j) : lfr a lo hi F F2 := by
  have e : ∀ r j, r = 354 ∨ (357 ≤ r ∧ r ≤ 363) → F2 r j = F1 r j := fun r j hr => hf r j (hS r j hr)
  refine ⟨fun j hj => ?_, fun j hj => ?_, fun j hj => ?_⟩
  · rw [e 354 j (by omega), e 357 j (by omega), e 358 j (by omega), e 359 j (by omega)]
    exact h.1 j hj
  · rw [h5 j hj]
    exact h.2.1 j hj
  · rw [e 360 j (by omega), e 361 j (by omega), e 362 j (by omega), e 363 (2 * j) (by omega), e 363 (2 * j + 1) (by omega)]
    exact h.2.2 j hj
theorem rat_cg {F F' : fl_N} {ll : Nat} {x : lt_T} {nt : Int} (h : rat F ll x) (h1 : F' 362 ll = F 362 ll) (h2 : F' 363 (2 * ll) = F 363 (2 * ll)) (h3 : F' 363 (2 * ll + 1) = F 363 (2 * ll + 1)) : rat F' ll (x.1, nt, x.2.2) := by
  unfold rat
  rw [h1, h2, h3]
  exact h
theorem at_ge {K : fl_N} {k : Int} {l tl pl : List Int} {ps : List (List Int)} {nt p q : Int} (h : sp_atom K k l tl pl ps p = .inr q) : ¬ (at_d K l pl ps nt p).1 = -1 := by
  show ¬ idx pl (K 6 p.toNat) = -1
  unfold sp_atom at h
  split at h
  · split at h
    · cases h
    · omega
  · cases h
theorem lfr_uo {a lo hi c k : Nat} {z : Int} {F F1 : fl_N} (h : lfr a lo hi F F1) (hc : (Nat.blt c 354 || Nat.beq c 356 || Nat.blt 363 c) = true) : lfr a lo hi F (fl_u F1 c k z) := lfr_u h (by
  rw [Bool.or_eq_true, Bool.or_eq_true, Nat.blt_eq, Nat.blt_eq, Nat.beq_eq] at hc
  omega)
theorem lfr_ua {a lo hi c k : Nat} {z : Int} {F F1 : fl_N} (h : lfr a lo hi F F1) (hc : (Nat.beq c 354 || (Nat.ble 357 c && Nat.ble c 359)) = true) (hk : k = a) : lfr a lo hi F (fl_u F1 c k z) := lfr_u h (by
  rw [Bool.or_eq_true, Bool.and_eq_true, Nat.ble_eq, Nat.ble_eq, Nat.beq_eq] at hc
  omega)
theorem lfr_ul {a lo hi c k : Nat} {z : Int} {F F1 : fl_N} (h : lfr a lo hi F F1) (hc : (Nat.ble 360 c && Nat.ble c 362) = true) (h1 : lo ≤ k) (h2 : k < hi) : lfr a lo hi F (fl_u F1 c k z) := lfr_u h (by
  rw [Bool.and_eq_true, Nat.ble_eq, Nat.ble_eq] at hc
  omega)
theorem lfr_ut {a lo hi k : Nat} {z : Int} {F F1 : fl_N} (h : lfr a lo hi F F1) (h1 : 2 * lo ≤ k) (h2 : k < 2 * hi) : lfr a lo hi F (fl_u F1 363 k z) := lfr_u h (by omega)
theorem lfr_ux {a lo hi k : Nat} {z : Int} {F F1 : fl_N} (h : lfr a lo hi F F1) (h1 : 3 * a ≤ k) (h2 : k < 3 * a + 3) : lfr a lo hi F (fl_u F1 355 k z) := lfr_u h (by omega)
theorem lfr_fg {a lo hi : Nat} {S : List (Nat × Nat × Nat × Nat)} {F F1 F2 : fl_N} (h : lfr a lo hi F F1) (hf : fs S F1 F2) (hS : S.all (fun q => Nat.blt q.2.1 354 || Nat.blt 363 q.1) = true) : lfr a lo hi F F2 := lfr_fs h hf (fun r j hr => fs_rg hS r j ⟨hr.1, hr.2.1⟩)
theorem lfr_vg {a lo hi : Nat} {S : List (Nat × Nat × Nat × Nat)} {F F1 F2 : fl_N} (h : lfr a lo hi F F1) (hf : fs S F1 F2) (h4 : S.all (fun q => Nat.blt q.2.1 354 || Nat.blt 354 q.1) = true) (hS : S.all (fun q => Nat.blt q.2.1 357 || Nat.blt 363 q.1) = true) (h5 : ∀ j, (j < 3 * a ∨ 3 * a + 3 ≤ j) → F2 355 j = F1 355 j) : lfr a lo hi F F2 := lfr_v h hf (fun r j hr => hr.elim (fun e => fs_rg h4 r j (by omega)) (fun e => fs_rg hS r j e)) h5

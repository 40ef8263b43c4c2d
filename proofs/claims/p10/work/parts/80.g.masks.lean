/-! words: what is inside, what is outside -/
theorem lan_c (a b : Int) : lan a b = lan b a := by
  rw [show lan a b = (Int64.ofInt a &&& Int64.ofInt b).toInt from lop_e 0 a b, show lan b a = (Int64.ofInt b &&& Int64.ofInt a).toInt from lop_e 0 b a, Int64.and_comm]
theorem bv_sub (x y : BitVec 64) : (y &&& x = x) ↔ (x &&& (y ^^^ BitVec.allOnes 64) = 0#64) := by
  constructor
  · intro h
    apply BitVec.eq_of_getLsbD_eq
    intro i hi
    have h1 := congrArg (fun z => BitVec.getLsbD z i) h
    simp only [BitVec.getLsbD_and, BitVec.getLsbD_xor, BitVec.getLsbD_allOnes, BitVec.getLsbD_zero, hi, decide_true] at h1 ⊢
    revert h1
    cases y.getLsbD i <;> cases x.getLsbD i <;> simp
  · intro h
    apply BitVec.eq_of_getLsbD_eq
    intro i hi
    have h1 := congrArg (fun z => BitVec.getLsbD z i) h
    simp only [BitVec.getLsbD_and, BitVec.getLsbD_xor, BitVec.getLsbD_allOnes, BitVec.getLsbD_zero, hi, decide_true] at h1 ⊢
    revert h1
    cases y.getLsbD i <;> cases x.getLsbD i <;> simp
theorem lan_nn {s i : Int} (hi : fl_j i) : lan s i = i ↔ lan i (lxo s (-1)) = 0 := by
  have e1 : lan s i = (Int64.ofInt s &&& Int64.ofInt i).toInt := lop_e 0 s i
  have e2 : lxo s (-1) = (Int64.ofInt s ^^^ Int64.ofInt (-1)).toInt := lop_e 2 s (-1)
  have e3 : lan i (lxo s (-1)) = (Int64.ofInt i &&& (Int64.ofInt s ^^^ Int64.ofInt (-1))).toInt := by
    rw [e2]
    refine (lop_e 0 i _).trans ?_
    show (Int64.ofInt i &&& Int64.ofInt (Int64.ofInt s ^^^ Int64.ofInt (-1)).toInt).toInt = _
    rw [Int64.ofInt_toInt]
  have ei : (Int64.ofInt i).toInt = i := fl_toIntL hi
  have hm : (Int64.ofInt (-1)).toBitVec = BitVec.allOnes 64 := by decide
  rw [e1, e3]
  constructor
  · intro h
    have h1 : Int64.ofInt s &&& Int64.ofInt i = Int64.ofInt i := Int64.toInt_inj.mp (h.trans ei.symm)
    have h2 := (bv_sub (Int64.ofInt i).toBitVec (Int64.ofInt s).toBitVec).mp (congrArg Int64.toBitVec h1)
    have h3 : Int64.ofInt i &&& (Int64.ofInt s ^^^ Int64.ofInt (-1)) = 0 := Int64.toBitVec_inj.mp (by
      show (Int64.ofInt i).toBitVec &&& ((Int64.ofInt s).toBitVec ^^^ (Int64.ofInt (-1)).toBitVec) = 0#64
      rw [hm]
      exact h2)
    rw [h3]
    rfl
  · intro h
    have h3 : Int64.ofInt i &&& (Int64.ofInt s ^^^ Int64.ofInt (-1)) = 0 := Int64.toInt_inj.mp h
    have h4 : (Int64.ofInt i).toBitVec &&& ((Int64.ofInt s).toBitVec ^^^ (Int64.ofInt (-1)).toBitVec) = 0#64 := congrArg Int64.toBitVec h3
    rw [hm] at h4
    have h1 : Int64.ofInt s &&& Int64.ofInt i = Int64.ofInt i := Int64.toBitVec_inj.mp ((bv_sub (Int64.ofInt i).toBitVec (Int64.ofInt s).toBitVec).mpr h4)
    rw [h1]
    exact ei
/-! a literal's place, where its terms' objects fit -/
theorem gdf_pl {ps : List (List Int)} {tl : List Int} {x : lt_T} {ob : Nat → Int} (hw : lwf ps x) (h1 : ¬ x.1 = -1) (hp6 : ps.length ≤ 6) (h6 : tl.length ≤ 6) (ha : 0 ≤ x.2.2.1 → 0 ≤ ob x.2.2.1.toNat ∧ ob x.2.2.1.toNat < (tl.length : Int)) (hb : 0 ≤ x.2.2.2 → 0 ≤ ob x.2.2.2.toNat ∧ ob x.2.2.2.toNat < (tl.length : Int)) (fa : 0 < (ps.getD x.1.toNat []).length → fit tl (ob x.2.2.1.toNat) ((ps.getD x.1.toNat []).getD 0 0) = true) (fb : 1 < (ps.getD x.1.toNat []).length → fit tl (ob x.2.2.2.toNat) ((ps.getD x.1.toNat []).getD 1 0) = true) : plq x ob < 216 ∧ gdf ps tl (plq x ob) = true := by
  obtain ⟨⟨w1, w2⟩, w3, w4⟩ := hw h1
  have hA : ∃ a : Nat, (if x.2.2.1 = -1 then (0 : Int) else ob x.2.2.1.toNat) = (a : Int) ∧ a < 6 ∧ (0 < (ps.getD x.1.toNat []).length → a < tl.length ∧ fit tl (a : Int) ((ps.getD x.1.toNat []).getD 0 0) = true) ∧ (¬ 0 < (ps.getD x.1.toNat []).length → a = 0) := by
    rcases w3 with ⟨c1, c2⟩ | ⟨c1, c2⟩
    · exact ⟨0, by rw [if_pos c2]; rfl, by decide, fun h => absurd h (by omega), fun _ => rfl⟩
    · obtain ⟨a1, a2⟩ := ha c2
      refine ⟨(ob x.2.2.1.toNat).toNat, ?_, by omega, fun h => ⟨by omega, ?_⟩, fun h => absurd c1 (by omega)⟩
      · rw [if_neg (by omega)]
        omega
      · rw [Int.toNat_of_nonneg a1]
        exact fa h
  have hB : ∃ b : Nat, (if x.2.2.2 = -1 then (0 : Int) else ob x.2.2.2.toNat) = (b : Int) ∧ b < 6 ∧ (1 < (ps.getD x.1.toNat []).length → b < tl.length ∧ fit tl (b : Int) ((ps.getD x.1.toNat []).getD 1 0) = true) ∧ (¬ 1 < (ps.getD x.1.toNat []).length → b = 0) := by
    rcases w4 with ⟨c1, c2⟩ | ⟨c1, c2⟩
    · exact ⟨0, by rw [if_pos c2]; rfl, by decide, fun h => absurd h (by omega), fun _ => rfl⟩
    · obtain ⟨a1, a2⟩ := hb c2
      refine ⟨(ob x.2.2.2.toNat).toNat, ?_, by omega, fun h => ⟨by omega, ?_⟩, fun h => absurd c1 (by omega)⟩
      · rw [if_neg (by omega)]
        omega
      · rw [Int.toNat_of_nonneg a1]
        exact fb h
  obtain ⟨a, a1, a2, a3, a4⟩ := hA
  obtain ⟨b, b1, b2, b3, b4⟩ := hB
  have e : plq x ob = 36 * x.1.toNat + 6 * a + b := by
    unfold plq
    rw [a1, b1]
    omega
  rw [e, gdf_at a2 b2]
  refine ⟨by omega, ?_⟩
  rw [Bool.and_eq_true, Bool.and_eq_true]
  refine ⟨⟨decide_eq_true (by omega), ?_⟩, ?_⟩
  · by_cases c : 0 < (ps.getD x.1.toNat []).length
    · rw [if_pos c, Bool.and_eq_true]
      exact ⟨decide_eq_true (a3 c).1, (a3 c).2⟩
    · rw [if_neg c]
      exact decide_eq_true (a4 c)
  · by_cases c : 1 < (ps.getD x.1.toNat []).length
    · rw [if_pos c, Bool.and_eq_true]
      exact ⟨decide_eq_true (b3 c).1, (b3 c).2⟩
    · rw [if_neg c]
      exact decide_eq_true (b4 c)
theorem fit_of {tl : List Int} {o w t : Int} (h : fit tl o t = true) (hw : w = -1 ∨ t = w) : fit tl o w = true := by
  unfold fit at h ⊢
  rw [Bool.or_eq_true, decide_eq_true_eq, decide_eq_true_eq] at h ⊢
  rcases hw with hw | hw
  · exact Or.inl hw
  · rw [hw] at h
    exact h
/-- the places of the literals of :init and :goal -/
theorem pl_i {ps : List (List Int)} {tl : List Int} {x : lt_T} (h : lok ps tl.length tl x) (h1 : ¬ x.1 = -1) (hp6 : ps.length ≤ 6) (h6 : tl.length ≤ 6) : plq x (fun j : Nat => (j : Int)) < 216 ∧ gdf ps tl (plq x (fun j : Nat => (j : Int))) = true := by
  obtain ⟨k1, k2, k3⟩ := h
  obtain ⟨t1, t2⟩ := k3 h1
  obtain ⟨-, w3, w4⟩ := k1 h1
  have n1 := k2.1
  have n2 := k2.2.1
  refine gdf_pl k1 h1 hp6 h6 (fun c => ⟨by omega, by omega⟩) (fun c => ⟨by omega, by omega⟩) (fun c => ?_) (fun c => ?_)
  · refine fit_of (t := tl.getD x.2.2.1.toNat 0) ?_ (t1 c)
    unfold fit
    rw [Bool.or_eq_true]
    exact Or.inr (decide_eq_true rfl)
  · refine fit_of (t := tl.getD x.2.2.2.toNat 0) ?_ (t2 c)
    unfold fit
    rw [Bool.or_eq_true]
    exact Or.inr (decide_eq_true rfl)
/-- the places of a step's literals -/
theorem pl_s {ps : List (List Int)} {tl : List Int} {d : ad_T} {v : Nat} {y : lt_T} (h : lok ps d.1.length d.1 y) (h1 : ¬ y.1 = -1) (hp6 : ps.length ≤ 6) (h6 : tl.length ≤ 6) (h3 : d.1.length ≤ 3) (hv : vld tl.length d.1.length v = true) (hf : fts tl d.1 v = true) : plq y (gvo v) < 216 ∧ gdf ps tl (plq y (gvo v)) = true := by
  obtain ⟨k1, k2, k3⟩ := h
  obtain ⟨t1, t2⟩ := k3 h1
  obtain ⟨-, w3, w4⟩ := k1 h1
  have n1 := k2.1
  have n2 := k2.2.1
  have gl : ∀ j, j < d.1.length → gvn v j < tl.length := fun j hj => by
    unfold vld at hv
    rw [List.all_eq_true] at hv
    have h9 := hv j (List.mem_range.mpr (by omega))
    rw [if_pos hj] at h9
    exact of_decide_eq_true h9
  have gf : ∀ j, j < d.1.length → fit tl ((gvn v j : Nat) : Int) (d.1.getD j 0) = true := fun j hj => by
    unfold fts at hf
    rw [List.all_eq_true] at hf
    exact hf j (List.mem_range.mpr hj)
  refine gdf_pl k1 h1 hp6 h6 (fun c => ?_) (fun c => ?_) (fun c => ?_) (fun c => ?_)
  · have h9 := gl y.2.2.1.toNat (by omega)
    unfold gvo
    exact ⟨by omega, by omega⟩
  · have h9 := gl y.2.2.2.toNat (by omega)
    unfold gvo
    exact ⟨by omega, by omega⟩
  · exact fit_of (gf y.2.2.1.toNat (by omega)) (t1 c)
  · exact fit_of (gf y.2.2.2.toNat (by omega)) (t2 c)
/-- both sides' masks of a step are the same -/
theorem msk_st {F G : Nat → Int} {ps : List (List Int)} {tl : List Int} {d : ad_T} {v : Nat} {ob : Nat → Int} {nt : Int} {L : List lt_T} (hL : ∀ y ∈ L, lok ps d.1.length d.1 y) (hp6 : ps.length ≤ 6) (h6 : tl.length ≤ 6) (h3 : d.1.length ≤ 3) (hv : vld tl.length d.1.length v = true) (hf : fts tl d.1 v = true) (ho : ∀ j, j < d.1.length → ob j = ((gvn v j : Nat) : Int)) (hF : ∀ q, q < 216 → gdf ps tl q = true → F q = (nfc ps tl q : Int)) (hG : ∀ q, q < 216 → gdf ps tl q = true → G q = (nfc ps tl q : Int)) : msk F ob nt L = msk G (gvo v) nt L := by
  refine msk_cg (fun x hx h1 => ?_)
  obtain ⟨p1, p2⟩ := pl_s (hL x hx) h1 hp6 h6 h3 hv hf
  have k2 := (hL x hx).2.1
  rw [plq_cg (m := d.1.length) (ob' := gvo v) k2.1.2 k2.2.1.2 k2.1.1 k2.2.1.1 ho, hF _ p1 p2, hG _ p1 p2]
theorem msk_it {F G : Nat → Int} {ps : List (List Int)} {tl : List Int} {ob : Nat → Int} {nt : Int} {L : List lt_T} (hL : ∀ y ∈ L, lok ps tl.length tl y) (hp6 : ps.length ≤ 6) (h6 : tl.length ≤ 6) (ho : ∀ j, j < tl.length → ob j = (j : Int)) (hF : ∀ q, q < 216 → gdf ps tl q = true → F q = (nfc ps tl q : Int)) (hG : ∀ q, q < 216 → gdf ps tl q = true → G q = (nfc ps tl q : Int)) : msk F ob nt L = msk G (fun j : Nat => (j : Int)) nt L := by
  refine msk_cg (fun x hx h1 => ?_)
  obtain ⟨p1, p2⟩ := pl_i (hL x hx) h1 hp6 h6
  have k2 := (hL x hx).2.1
  rw [plq_cg (m := tl.length) (ob' := fun j : Nat => (j : Int)) k2.1.2 k2.2.1.2 k2.1.1 k2.2.1.1 ho, hF _ p1 p2, hG _ p1 p2]
/-! both sides' steps, first state and goal, as check() sees them -/
def stq (F : fl_N) (i : Nat) : Prop := (F (126 + 5 * i + 2) 0 = F 369 i ∧ F (126 + 5 * i + 2) 1 = F 370 i ∧ F (126 + 5 * i + 2) 2 = 1) ∧ F (126 + 5 * i) 5 = F 371 i ∧ F (126 + 5 * i) 4 = F 372 i ∧ F (126 + 5 * i) 2 = F 357 (F 367 i).toNat
def ivM (F : fl_N) : Prop := (∀ i : Nat, (i : Int) < F 120 3 → stq F i) ∧ F 120 4 = F 344 38 ∧ F 123 0 = F 344 46 ∧ F 123 1 = F 344 47 ∧ F 123 2 = F 344 48
theorem hC_cbe {F : fl_N} (hg : gi F) {i s : Int} (h0 : 0 ≤ i ∧ i ≤ 39) (h : stq F i.toNat) : hC F i s ↔ cbe F i s := by
  obtain ⟨⟨a1, a2, a3⟩, -⟩ := h
  have hb : fl_j (F 369 i.toNat) := by
    have h9 : -9223372036854775808 ≤ F 369 i.toNat ∧ F 369 i.toNat ≤ 9223372036854775807 := gi_g hg rfl
    exact ⟨h9.1, by omega⟩
  unfold hC cbe
  rw [a1, a2, a3, lan_nn hb, lan_c s (F 370 i.toNat)]
  exact ⟨fun h9 => h9.2, fun h9 => ⟨rfl, h9⟩⟩
theorem aC_dne {F : fl_N} {i s : Int} (h : stq F i.toNat) : aC F i s = dne F i s := by
  obtain ⟨-, a4, a5, -⟩ := h
  unfold aC dne
  rw [a4, a5]
theorem gC_gR {F : fl_N} (hg : gi F) {s : Int} (h : ivM F) : gC F s ↔ gR F s := by
  obtain ⟨-, -, a1, a2, a3⟩ := h
  have hb : fl_j (F 344 46) := by
    have h9 : -9223372036854775808 ≤ F 344 46 ∧ F 344 46 ≤ 9223372036854775807 := gi_g hg rfl
    exact ⟨h9.1, by omega⟩
  unfold gC gR
  rw [a1, a2, a3, lan_nn hb, lan_c s (F 344 47)]
theorem ck_eq {F : fl_N} (hg : gi F) (h : ivM F) {n : Nat} (hr : ∀ j : Nat, j < n → F 342 j = F 382 j ∧ 0 ≤ F 342 j ∧ F 342 j < F 120 3) (h40 : F 120 3 ≤ 40) : ∀ (k : Nat) (s c : Int), k ≤ n → (ckC F k s c ↔ ckR F k s c) := by
  intro k
  induction k with
  | zero =>
    intro s c _
    unfold ckC ckR
    rw [h.2.1]
  | succ k ih =>
    intro s c hk
    obtain ⟨r1, r2, r3⟩ := hr k (by omega)
    have hq := h.1 (F 342 k).toNat (by omega)
    have hq2 := hq.2.2.2
    unfold ckC ckR
    constructor
    · rintro ⟨s0, c0, b1, b2, b3, b4⟩
      refine ⟨s0, c0, (ih s0 c0 (by omega)).mp b1, ?_, ?_, ?_⟩
      · rw [← r1]
        exact (hC_cbe hg ⟨by omega, by omega⟩ hq).mp b2
      · rw [← r1, ← aC_dne hq]
        exact b3
      · rw [← r1, ← hq2]
        exact b4
    · rintro ⟨s0, c0, b1, b2, b3, b4⟩
      rw [← r1] at b2 b3 b4
      exact ⟨s0, c0, (ih s0 c0 (by omega)).mpr b1, (hC_cbe hg ⟨by omega, by omega⟩ hq).mpr b2, by rw [aC_dne hq]; exact b3, by rw [hq2]; exact b4⟩
theorem ck_u {F : fl_N} : ∀ (k : Nat) (s c s' c' : Int), ckC F k s c → ckC F k s' c' → s = s' ∧ c = c' := by
  intro k
  induction k with
  | zero =>
    intro s c s' c' h h'
    exact ⟨h.1.trans h'.1.symm, h.2.trans h'.2.symm⟩
  | succ k ih =>
    intro s c s' c' h h'
    obtain ⟨s0, c0, b1, b2, b3, b4⟩ := h
    obtain ⟨s1, c1, d1, d2, d3, d4⟩ := h'
    obtain ⟨e1, e2⟩ := ih _ _ _ _ b1 d1
    rw [b3, b4, d3, d4, e1, e2]
    exact ⟨rfl, rfl⟩
theorem ck_le {F : fl_N} : ∀ (k : Nat) (s c : Int) (j : Nat), ckC F k s c → j < k → ∃ s' c', ckC F j s' c' ∧ hC F (F 342 j) s' := by
  intro k
  induction k with
  | zero => intro s c j _ hj; exact absurd hj (by omega)
  | succ k ih =>
    intro s c j h hj
    obtain ⟨s0, c0, b1, b2, -⟩ := h
    by_cases e : j = k
    · subst e
      exact ⟨s0, c0, b1, b2⟩
    · exact ih s0 c0 j b1 (by omega)
/-- so both check() answer alike -/
theorem chk_eq {F : fl_N} (hg : gi F) (h : ivM F) (hn : 0 ≤ F 0 10 ∧ F 0 10 = F 344 60) (hr : ∀ j : Nat, (j : Int) < F 0 10 → F 342 j = F 382 j ∧ 0 ≤ F 342 j ∧ F 342 j < F 120 3) (h40 : F 120 3 ≤ 40) {z1 z2 : Int} (h1 : (∃ (j : Nat) (s c : Int), (j : Int) < F 0 10 ∧ ckC F j s c ∧ ¬ hC F (F 342 j) s ∧ z1 = -1 - (j : Int)) ∨ (∃ s c : Int, ckC F (F 0 10).toNat s c ∧ ((gC F s ∧ z1 = c) ∨ (¬ gC F s ∧ z1 = -100)))) (h2 : (∃ (j : Nat) (s c : Int), (j : Int) < F 344 60 ∧ ckR F j s c ∧ ¬ cbe F (F 382 j) s ∧ z2 = -1 - (j : Int)) ∨ (∃ s c : Int, ckR F (F 344 60).toNat s c ∧ ((gR F s ∧ z2 = c) ∨ (¬ gR F s ∧ z2 = -100)))) : z1 = z2 := by
  have hE := ck_eq hg h (n := (F 0 10).toNat) (fun j hj => hr j (by omega)) h40
  rw [← hn.2] at h2
  have h2' : (∃ (j : Nat) (s c : Int), (j : Int) < F 0 10 ∧ ckC F j s c ∧ ¬ hC F (F 342 j) s ∧ z2 = -1 - (j : Int)) ∨ (∃ s c : Int, ckC F (F 0 10).toNat s c ∧ ((gC F s ∧ z2 = c) ∨ (¬ gC F s ∧ z2 = -100))) := by
    rcases h2 with ⟨j, s, c, b1, b2, b3, b4⟩ | ⟨s, c, b1, b2⟩
    · obtain ⟨r1, r2, r3⟩ := hr j b1
      refine Or.inl ⟨j, s, c, b1, (hE j s c (by omega)).mpr b2, fun h9 => b3 ?_, b4⟩
      rw [← r1]
      exact (hC_cbe hg ⟨by omega, by omega⟩ (h.1 (F 342 j).toNat (by omega))).mp h9
    · refine Or.inr ⟨s, c, (hE _ s c (Nat.le_refl _)).mpr b1, ?_⟩
      rw [gC_gR hg h]
      exact b2
  rcases h1 with ⟨j, s, c, b1, b2, b3, b4⟩ | ⟨s, c, b1, b2⟩
  · rcases h2' with ⟨j', s', c', d1, d2, d3, d4⟩ | ⟨s', c', d1, -⟩
    · have hj : j = j' := by
        rcases Nat.lt_trichotomy j j' with h9 | h9 | h9
        · obtain ⟨s1, c1, e1, e2⟩ := ck_le j' s' c' j d2 h9
          rw [(ck_u j _ _ _ _ e1 b2).1] at e2
          exact absurd e2 b3
        · exact h9
        · obtain ⟨s1, c1, e1, e2⟩ := ck_le j s c j' b2 h9
          rw [(ck_u j' _ _ _ _ e1 d2).1] at e2
          exact absurd e2 d3
      rw [b4, d4, hj]
    · obtain ⟨s1, c1, e1, e2⟩ := ck_le _ s' c' j d1 (by omega)
      rw [(ck_u j _ _ _ _ e1 b2).1] at e2
      exact absurd e2 b3
  · rcases h2' with ⟨j', s', c', d1, d2, d3, d4⟩ | ⟨s', c', d1, d2⟩
    · obtain ⟨s1, c1, e1, e2⟩ := ck_le _ s c j' b1 (by omega)
      rw [(ck_u j' _ _ _ _ e1 d2).1] at e2
      exact absurd e2 d3
    · obtain ⟨e1, e2⟩ := ck_u _ _ _ _ _ b1 d1
      rw [e1, e2] at b2
      rcases b2 with ⟨b2, b3⟩ | ⟨b2, b3⟩
      · rcases d2 with ⟨d2, d3⟩ | ⟨d2, d3⟩
        · rw [b3, d3]
        · exact absurd b2 d2
      · rcases d2 with ⟨d2, d3⟩ | ⟨d2, d3⟩
        · exact absurd d2 b2
        · rw [b3, d3]
theorem stP_ok {tl : List Int} {D : List ad_T} {n : Nat} {s : Nat × Nat} (h : s ∈ stP tl D n) : s.1 < n ∧ vld tl.length (dat D s.1).1.length s.2 = true ∧ fts tl (dat D s.1).1 s.2 = true := by
  unfold stP at h
  obtain ⟨a, ha, hs⟩ := List.mem_flatMap.mp h
  unfold stE at hs
  obtain ⟨x, hx, rfl⟩ := List.mem_map.mp hs
  unfold stA at hx
  have h9 := (List.mem_filter.mp hx).2
  rw [Bool.and_eq_true] at h9
  obtain ⟨h1, h2⟩ := h9
  unfold oks at h2
  rw [Bool.and_eq_true] at h2
  exact ⟨List.mem_range.mp ha, h1, h2.1⟩
theorem ivM_of {F : fl_N} {ps : List (List Int)} {tl : List Int} {D : List ad_T} {Li Lg : List lt_T} (hp6 : ps.length ≤ 6) (h6 : tl.length ≤ 6) (hD : ∀ d ∈ D, adok ps d ∧ d.1.length ≤ 3) (hC : pbC F ps tl D Li Lg) (hi : ∀ x ∈ Li, lok ps tl.length tl x) (hgl : ∀ x ∈ Lg, lok ps tl.length tl x) (h125 : ∀ j : Nat, j < 6 → F 125 j = (j : Int)) (hfr : fnr F 366 ps tl 216) (hrs : rsts F D (stP tl D D.length)) (hrd : rdar F D) (h38 : F 344 38 = msk (F 366) (fun j : Nat => (j : Int)) 0 Li) (h46 : F 344 46 = msk (F 366) (fun j : Nat => (j : Int)) 0 Lg) (h47 : F 344 47 = msk (F 366) (fun j : Nat => (j : Int)) 1 Lg) (h48 : F 344 48 = if eqh Lg (fun j : Nat => (j : Int)) = true then 1 else 0) : ivM F := by
  obtain ⟨-, a3, ⟨a4, a5⟩, a6, a7, a8, a9, a10⟩ := hC
  have ho : ∀ j, j < tl.length → F 125 j = (j : Int) := fun j hj => h125 j (by omega)
  have E2 : ∀ nt L, (∀ y ∈ L, lok ps tl.length tl y) → msk (F 121) (F 125) nt L = msk (F 366) (fun j : Nat => (j : Int)) nt L := fun nt L hL => msk_it hL hp6 h6 ho (fun q h1 h2 => a3 q h1 h2) (fun q h1 h2 => hfr q h1 h2)
  refine ⟨fun i hi' => ?_, ?_, ?_, ?_, ?_⟩
  · have hk : i < (stP tl D D.length).length := by omega
    obtain ⟨st, hst⟩ : ∃ s, (stP tl D D.length)[i]? = some s := ⟨_, List.getElem?_eq_getElem hk⟩
    obtain ⟨hlt, hv, hf⟩ := stP_ok (List.mem_of_getElem? hst)
    obtain ⟨b1, ⟨b2, b4⟩, b3, ⟨b5, b6, b7⟩, b8, b9⟩ := a6 i st hst
    obtain ⟨d1, d2, ⟨d3, d4⟩, d5, d6⟩ := hrs i st hst
    have had := hD _ (dat_mem hlt)
    have E : ∀ nt L, (∀ y ∈ L, lok ps (dat D st.1).1.length (dat D st.1).1 y) → msk (F 121) (F (126 + 5 * i + 1)) nt L = msk (F 366) (gvo st.2) nt L := fun nt L hL => msk_st hL hp6 h6 had.2 hv hf (fun j hj => b2 j hj) (fun q h1 h2 => a3 q h1 h2) (fun q h1 h2 => hfr q h1 h2)
    refine ⟨⟨?_, ?_, b7⟩, ?_, ?_, ?_⟩
    · rw [b5, d3]
      exact E 0 _ had.1.1
    · rw [b6, d4]
      exact E 1 _ had.1.1
    · rw [b9, d5]
      exact E 0 _ had.1.2
    · rw [b8, d6]
      exact E 1 _ had.1.2
    · rw [b3, d1, Int.toNat_natCast]
      exact ((hrd st.1 _ (dat_get hlt)).2.2.2).symm
  · rw [a7, h38]
    exact E2 0 _ hi
  · rw [a8, h46]
    exact E2 0 _ hgl
  · rw [a9, h47]
    exact E2 1 _ hgl
  · rw [a10, h48, eqh_ob (m := tl.length) (ob' := fun j : Nat => (j : Int)) (fun x hx h1 => ?_) ho]
    have k2 := (hgl x hx).2.1
    have k3 := k2.2.2 h1
    exact ⟨⟨k3.1, k2.1.2⟩, k3.2, k2.2.1.2⟩
theorem ivM_cg {F F' : fl_N} (h : ivM F) (h3 : F 120 3 ≤ 40) (hg : gi F) (c1 : ∀ r k, 120 ≤ r ∧ r ≤ 330 → F' r k = F r k) (c2 : ∀ k, k = 38 ∨ k = 46 ∨ k = 47 ∨ k = 48 → F' 344 k = F 344 k) (c3 : ∀ r k, 364 ≤ r ∧ r ≤ 372 → F' r k = F r k) (c4 : ∀ k : Nat, k < 5 → F' 357 k = F 357 k) : ivM F' := by
  obtain ⟨a1, a2, a3, a4, a5⟩ := h
  refine ⟨fun i hi => ?_, ?_, ?_, ?_, ?_⟩
  · rw [c1 120 3 (by decide)] at hi
    obtain ⟨⟨b1, b2, b3⟩, b4, b5, b6⟩ := a1 i hi
    have hb : 0 ≤ F 367 i ∧ F 367 i ≤ 4 := gi_g hg rfl
    refine ⟨⟨?_, ?_, ?_⟩, ?_, ?_, ?_⟩
    · rw [c1 (126 + 5 * i + 2) 0 ⟨by omega, by omega⟩, c3 369 i (by decide)]
      exact b1
    · rw [c1 (126 + 5 * i + 2) 1 ⟨by omega, by omega⟩, c3 370 i (by decide)]
      exact b2
    · rw [c1 (126 + 5 * i + 2) 2 ⟨by omega, by omega⟩]
      exact b3
    · rw [c1 (126 + 5 * i) 5 ⟨by omega, by omega⟩, c3 371 i (by decide)]
      exact b4
    · rw [c1 (126 + 5 * i) 4 ⟨by omega, by omega⟩, c3 372 i (by decide)]
      exact b5
    · rw [c1 (126 + 5 * i) 2 ⟨by omega, by omega⟩, c3 367 i (by decide), c4 (F 367 i).toNat (by omega)]
      exact b6
  · rw [c1 120 4 (by decide), c2 38 (by decide)]
    exact a2
  · rw [c1 123 0 (by decide), c2 46 (by decide)]
    exact a3
  · rw [c1 123 1 (by decide), c2 47 (by decide)]
    exact a4
  · rw [c1 123 2 (by decide), c2 48 (by decide)]
    exact a5

/-! WHAT LASTS FROM CALL TO CALL -/
def loS (S : List (Nat × Nat × Nat × Nat)) : Bool := S.all (fun q => Nat.blt q.2.1 344 || Nat.ble 386 q.1)
def hiS (S : List (Nat × Nat × Nat × Nat)) : Bool := S.all (fun q => Nat.ble 344 q.1)
theorem loS_at {S : List (Nat × Nat × Nat × Nat)} (h : loS S = true) {r k : Nat} (h1 : 344 ≤ r) (h2 : r < 386) : fs_in S r k = false := by
  unfold fs_in
  rw [List.any_eq_false]
  intro q hq h9
  have h3 := List.all_eq_true.mp h q hq
  rw [Bool.or_eq_true, Nat.blt_eq, Nat.ble_eq] at h3
  rw [Bool.and_eq_true, Bool.and_eq_true, Nat.ble_eq, Nat.ble_eq] at h9
  omega
theorem hiS_at {S : List (Nat × Nat × Nat × Nat)} (h : hiS S = true) {r k : Nat} (h1 : r < 344) : fs_in S r k = false := by
  unfold fs_in
  rw [List.any_eq_false]
  intro q hq h9
  have h3 := List.all_eq_true.mp h q hq
  rw [Nat.ble_eq] at h3
  rw [Bool.and_eq_true, Bool.and_eq_true, Nat.ble_eq, Nat.ble_eq] at h9
  omega
def ivB (F : fl_N) : Prop := (∀ j : Nat, j < 76 → F 346 j = ra_at 346 j) ∧ (F 344 11 = 1 → ∃ ts pl ps, rpn (F 349) (F 344 15) ts ∧ rpn (F 350) (F 344 17) pl ∧ (rprd F ps ∧ ps.length = pl.length)) ∧ (F 344 11 = 1 → ∀ j : Nat, (j : Int) < F 344 21 → 0 ≤ F 357 j) ∧ pli F ∧ (F 344 12 = 1 → sob F ∧ F 344 36 ≤ 40) ∧ (0 ≤ F 344 69 ∧ F 344 69 ≤ 65535)
def ckP (S : List (Nat × Nat × Nat × Nat)) : Bool := [13, 58].all (fun k => !fs_in S 344 k) && [354, 367, 368, 381].all (fun r => S.all (fun q => Nat.blt q.2.1 r || Nat.blt r q.1))
def ckB (S : List (Nat × Nat × Nat × Nat)) : Bool := [11, 12, 15, 17, 21, 36, 39].all (fun k => !fs_in S 344 k) && [346, 349, 350, 351, 352, 354, 357, 367, 368].all (fun r => S.all (fun q => Nat.blt q.2.1 r || Nat.blt r q.1))
theorem ck_at {S : List (Nat × Nat × Nat × Nat)} {L : List Nat} (h : L.all (fun r => S.all (fun q => Nat.blt q.2.1 r || Nat.blt r q.1)) = true) {r : Nat} (hr : r ∈ L) (k : Nat) : fs_in S r k = false := fs_rg (List.all_eq_true.mp h r hr) r k ⟨Nat.le_refl _, Nat.le_refl _⟩
theorem ck_f {S : List (Nat × Nat × Nat × Nat)} {L : List Nat} (h : L.all (fun k => !fs_in S 344 k) = true) {k : Nat} (hk : k ∈ L) : fs_in S 344 k = false := by
  have := List.all_eq_true.mp h k hk
  simpa using this
theorem pli_fs {S : List (Nat × Nat × Nat × Nat)} {F F' : fl_N} (h : pli F) (hf : fs S F F') (hc : ckP S = true) : pli F' := by
  simp only [ckP, Bool.and_eq_true] at hc
  exact pli_cg h (hf _ _ (ck_f hc.1 (by decide))) (hf _ _ (ck_f hc.1 (by decide))) (fun j => hf _ _ (ck_at hc.2 (by decide) j)) (fun j => hf _ _ (ck_at hc.2 (by decide) j)) (fun j => hf _ _ (ck_at hc.2 (by decide) j)) (fun j => hf _ _ (ck_at hc.2 (by decide) j))
theorem ivB_fs {S : List (Nat × Nat × Nat × Nat)} {F F' : fl_N} (h : ivB F) (hf : fs S F F') (hc : ckB S = true) (hp : pli F') (ho : 0 ≤ F' 344 69 ∧ F' 344 69 ≤ 65535) : ivB F' := by
  simp only [ckB, Bool.and_eq_true] at hc
  obtain ⟨h1, h2, h3, -, h5, -⟩ := h
  have e11 := hf _ _ (ck_f hc.1 (show 11 ∈ _ by decide))
  refine ⟨fun j hj => ?_, fun h9 => ?_, fun h9 j hj => ?_, hp, fun h9 => ?_, ho⟩
  · rw [hf _ _ (ck_at hc.2 (show 346 ∈ _ by decide) j)]
    exact h1 j hj
  · obtain ⟨ts, pl, ps, a1, a2, a3, a4⟩ := h2 (by rw [← e11]; exact h9)
    refine ⟨ts, pl, ps, rpn_fs a1 hf (fun j => ck_at hc.2 (by decide) j) (ck_f hc.1 (by decide)), rpn_fs a2 hf (fun j => ck_at hc.2 (by decide) j) (ck_f hc.1 (by decide)), rprd_fs a3 hf (fun r j hr => ?_), a4⟩
    have : r = 351 ∨ r = 352 := by omega
    rcases this with e | e
    · rw [e]
      exact ck_at hc.2 (by decide) j
    · rw [e]
      exact ck_at hc.2 (by decide) j
  · rw [hf _ _ (ck_f hc.1 (show 21 ∈ _ by decide))] at hj
    rw [hf _ _ (ck_at hc.2 (show 357 ∈ _ by decide) j)]
    exact h3 (by rw [← e11]; exact h9) j hj
  · have a1 := h5 (by rw [← hf _ _ (ck_f hc.1 (show 12 ∈ _ by decide))]; exact h9)
    refine ⟨sob_cg a1.1 (hf _ _ (ck_f hc.1 (by decide))) (fun j => hf _ _ (ck_at hc.2 (by decide) j)) (fun j => hf _ _ (ck_at hc.2 (by decide) j)) (fun j => hf _ _ (ck_at hc.2 (by decide) j)) (fun j => hf _ _ (ck_at hc.2 (by decide) j)), ?_⟩
    rw [hf _ _ (ck_f hc.1 (show 36 ∈ _ by decide))]
    exact a1.2
theorem ivB_lo {S : List (Nat × Nat × Nat × Nat)} {F F' : fl_N} (h : ivB F) (hf : fs S F F') (hc : loS S = true) : ivB F' := by
  have e : ∀ r k, 344 ≤ r → r < 386 → F' r k = F r k := fun r k h1 h2 => hf r k (loS_at hc h1 h2)
  obtain ⟨h1, h2, h3, h4, h5, h6⟩ := h
  have e11 := e 344 11 (by decide) (by decide)
  refine ⟨fun j hj => ?_, fun h9 => ?_, fun h9 j hj => ?_, ?_, fun h9 => ?_, ?_⟩
  · rw [e 346 j (by decide) (by decide)]
    exact h1 j hj
  · obtain ⟨ts, pl, ps, a1, a2, a3, a4⟩ := h2 (by rw [← e11]; exact h9)
    exact ⟨ts, pl, ps, rpn_fs a1 hf (fun j => loS_at hc (by decide) (by decide)) (loS_at hc (by decide) (by decide)), rpn_fs a2 hf (fun j => loS_at hc (by decide) (by decide)) (loS_at hc (by decide) (by decide)), rprd_fs a3 hf (fun r j hr => loS_at hc (by omega) (by omega)), a4⟩
  · rw [e 344 21 (by decide) (by decide)] at hj
    rw [e 357 j (by decide) (by decide)]
    exact h3 (by rw [← e11]; exact h9) j hj
  · exact pli_cg h4 (e 344 13 (by decide) (by decide)) (e 344 58 (by decide) (by decide)) (fun j => e 354 j (by decide) (by decide)) (fun j => e 367 j (by decide) (by decide)) (fun j => e 368 j (by decide) (by decide)) (fun j => e 381 j (by decide) (by decide))
  · have a1 := h5 (by rw [← e 344 12 (by decide) (by decide)]; exact h9)
    refine ⟨sob_cg a1.1 (e 344 39 (by decide) (by decide)) (fun j => e 357 j (by decide) (by decide)) (fun j => e 367 j (by decide) (by decide)) (fun j => e 354 j (by decide) (by decide)) (fun j => e 368 j (by decide) (by decide)), ?_⟩
    rw [e 344 36 (by decide) (by decide)]
    exact a1.2
  · rw [e 344 69 (by decide) (by decide)]
    exact h6
theorem dmi_fs {S : List (Nat × Nat × Nat × Nat)} {F F' : fl_N} (h : dmi F) (hg : gi F) (hf : fs S F F') (h1 : fs_in S 0 7 = false) (h2 : fs_in S 15 2 = false) (h3 : ∀ r k, 39 ≤ r ∧ r ≤ 103 → fs_in S r k = false) : dmi F' := by
  intro h9
  have hb : 0 ≤ F 15 2 ∧ F 15 2 ≤ 5 := gi_g hg rfl
  rw [hf 15 2 h2]
  exact di_fs (h (by rw [← hf 0 7 h1]; exact h9)) hf (fun r k hr => h3 r k ⟨hr.1, by omega⟩)
def ivA (F : fl_N) : Prop := fnd F ∧ dmi F
theorem ivA_hi {S : List (Nat × Nat × Nat × Nat)} {F F' : fl_N} (h : ivA F) (hg : gi F) (hf : fs S F F') (hc : hiS S = true) : ivA F' := ⟨fnd_cg h.1 (hf _ _ (hiS_at hc (by decide))) (hf _ _ (hiS_at hc (by decide))), dmi_fs h.2 hg hf (hiS_at hc (by decide)) (hiS_at hc (by decide)) (fun r k hr => hiS_at hc (by omega))⟩
theorem rep_f8 {S : List (Nat × Nat × Nat × Nat)} {F F' : fl_N} {a b k : Nat} {l : List Int} (h : rep (F a) (F b k) l) (hf : fs S F F') (h1 : ∀ j, fs_in S a j = false) (h2 : fs_in S b k = false) : rep (F' a) (F' b k) l := by
  rw [hf b k h2]
  exact ⟨h.1, fun j x hx => by rw [hf a j (h1 j)]; exact h.2 j x hx⟩
def okt (l : List Int) : Prop := (l.length : Int) ≤ 600 ∧ ∀ x ∈ l, 32 ≤ x
/-! the faults alike; where there is a domain, its name, types, predicates and actions alike; where there is a problem, its steps alike -/
def nkS (S : List (Nat × Nat × Nat × Nat)) : Bool := ((!fs_in S 1 8 && !fs_in S 7 0) && ((S.all (fun q => Nat.blt q.2.1 8 || Nat.blt 13 q.1)) && (S.all (fun q => Nat.blt q.2.1 21 || Nat.blt 38 q.1)))) && (!fs_in S 15 2 && (S.all (fun q => Nat.blt q.2.1 39 || Nat.blt 103 q.1))) && (!fs_in S 0 8 && (S.all (fun q => Nat.blt q.2.1 120 || Nat.blt 330 q.1)))
def ckN (S : List (Nat × Nat × Nat × Nat)) : Bool := [8, 12, 14, 15, 17, 21, 38, 39, 46, 47, 48].all (fun k => !fs_in S 344 k) && ((S.all (fun q => Nat.blt q.2.1 349 || Nat.blt 352 q.1) && S.all rs5) && S.all (fun q => Nat.blt q.2.1 364 || Nat.blt 372 q.1))
def ivD (F : fl_N) : Prop := ∃ nm ts pl ps D, F 7 0 = nm ∧ nrel nm (F 344 14) ∧ rep (F 9) (F 8 2) ts ∧ rep (F 12) (F 11 2) pl ∧ prd F ps ∧ pl.length = ps.length ∧ rpn (F 349) (F 344 15) ts ∧ rpn (F 350) (F 344 17) pl ∧ rprd F ps ∧ (dar F D ∧ (D.length : Int) = F 15 2) ∧ (rdar F D ∧ (D.length : Int) = F 344 21) ∧ ∀ d ∈ D, adok ps d ∧ d.1.length ≤ 3
theorem pbC_cg {F F' : fl_N} {ps : List (List Int)} {tl : List Int} {D : List ad_T} {Li Lg : List lt_T} (h : pbC F ps tl D Li Lg) (c : ∀ r k, 120 ≤ r ∧ r ≤ 330 → F' r k = F r k) : pbC F' ps tl D Li Lg := by
  obtain ⟨⟨a1, a2⟩, a3, ⟨a4, a5⟩, a6, a7, a8, a9, a10⟩ := h
  have e1 : F' 121 = F 121 := funext (fun k => c 121 k (by decide))
  have e2 : F' 125 = F 125 := funext (fun k => c 125 k (by decide))
  refine ⟨⟨(c 120 1 (by decide)).trans a1, a2⟩, fnr_cg a3 (fun j => c 121 j (by decide)), ⟨(c 120 3 (by decide)).trans a4, by rw [c 120 3 (by decide)]; exact a5⟩, sts_cg a6 (fun r k hr => c r k (by omega)) (fun k => c 121 k (by decide)), ?_, ?_⟩
  · rw [e1, e2]
    exact (c 120 4 (by decide)).trans a7
  · rw [e1, e2]
    exact ⟨(c 123 0 (by decide)).trans a8, (c 123 1 (by decide)).trans a9, (c 123 2 (by decide)).trans a10⟩
/-- a problem's steps, on both sides -/
def ivQ (F : fl_N) : Prop := ∃ tl D, (F 120 3 = ((stP tl D D.length).length : Int) ∧ F 120 3 ≤ 40) ∧ sts F D (stP tl D D.length) ∧ F 344 39 = ((stP tl D D.length).length : Int) ∧ rsts F D (stP tl D D.length) ∧ rdar F D ∧ D.length ≤ 5 ∧ ivM F
theorem ivQ_cg {F F' : fl_N} (hg : gi F) (h : ivQ F) (c1 : ∀ r k, 120 ≤ r ∧ r ≤ 330 → F' r k = F r k) (c3 : F' 344 39 = F 344 39) (c4 : ∀ r k, 364 ≤ r ∧ r ≤ 372 → F' r k = F r k) (c5 : ∀ D : List ad_T, D.length ≤ 5 → rdar F D → rdar F' D) (c6 : ∀ k, k = 38 ∨ k = 46 ∨ k = 47 ∨ k = 48 → F' 344 k = F 344 k) (c7 : ∀ k : Nat, k < 5 → F' 357 k = F 357 k) : ivQ F' := by
  obtain ⟨tl, D, ⟨a1, a2⟩, a3, a4, a5, a6, a7, a8⟩ := h
  exact ⟨tl, D, ⟨(c1 120 3 (by decide)).trans a1, by rw [c1 120 3 (by decide)]; exact a2⟩, sts_cg a3 (fun r k hr => c1 r k (by omega)) (fun k => c1 121 k (by decide)), c3.trans a4, rsts_cg a5 (fun j => c4 366 j (by decide)) (fun j _ => c4 368 j (by decide)) (fun r j hr _ => c4 r j (by omega)), c5 D a7 a6, a7, ivM_cg a8 a2 hg c1 c6 c4 c7⟩
def ivN (F : fl_N) : Prop := F 1 8 = F 344 8 ∧ (F 0 7 = 1 → ivD F) ∧ F 0 8 = F 344 12 ∧ (F 0 8 = 1 → F 0 7 = 1 ∧ ivQ F) ∧ ∀ j : Nat, j < 6 → F 125 j = (j : Int)
theorem ivN_c {S : List (Nat × Nat × Nat × Nat)} {F F' : fl_N} (hg : gi F) (h : ivN F) (hf : fs S F F') (hl : loS S = true) (hn : nkS S = true) (h7 : F' 0 7 = F 0 7) : ivN F' := by
  simp only [nkS, Bool.and_eq_true, Bool.not_eq_true'] at hn
  obtain ⟨⟨⟨⟨n1, n2⟩, n3, n4⟩, n5, n6⟩, n7, n8⟩ := hn
  have r4 : ∀ r k, 120 ≤ r ∧ r ≤ 330 → fs_in S r k = false := fs_rg n8
  have r3 : ∀ r k, 39 ≤ r ∧ r ≤ 103 → fs_in S r k = false := fs_rg n6
  have r1 : ∀ r k, 8 ≤ r ∧ r ≤ 13 → fs_in S r k = false := fs_rg n3
  have r2 : ∀ r k, 21 ≤ r ∧ r ≤ 38 → fs_in S r k = false := fs_rg n4
  have e : ∀ r k, 344 ≤ r → r < 386 → fs_in S r k = false := fun r k a b => loS_at hl a b
  refine ⟨by rw [hf 1 8 n1, hf 344 8 (e _ _ (by decide) (by decide))]; exact h.1, fun h9 => ?_, by rw [hf 0 8 n7, hf 344 12 (e _ _ (by decide) (by decide))]; exact h.2.2.1, fun h9 => ?_, fun j hj => (hf 125 j (r4 125 j (by decide))).trans (h.2.2.2.2 j hj)⟩
  · obtain ⟨nm, ts, pl, ps, D, a1, a2, a3, a4, a5, a6, a7, a8, a9, ⟨b1, b2⟩, ⟨b3, b4⟩, b5⟩ := h.2.1 (by rw [← h7]; exact h9)
    have hb : 0 ≤ F 11 2 ∧ F 11 2 ≤ 6 := gi_g hg rfl
    have h4 := a4.1
    have hb15 : 0 ≤ F 15 2 ∧ F 15 2 ≤ 5 := gi_g hg rfl
    exact ⟨nm, ts, pl, ps, D, (hf 7 0 n2).trans a1, by rw [hf 344 14 (e _ _ (by decide) (by decide))]; exact a2, rep_f8 a3 hf (fun j => r1 _ _ (by decide)) (r1 _ _ (by decide)), rep_f8 a4 hf (fun j => r1 _ _ (by decide)) (r1 _ _ (by decide)), prd_fs a5 hf (fun r k hr => r2 r k (by omega)), a6, rpn_fs a7 hf (fun j => e _ _ (by decide) (by decide)) (e _ _ (by decide) (by decide)), rpn_fs a8 hf (fun j => e _ _ (by decide) (by decide)) (e _ _ (by decide) (by decide)), rprd_fs a9 hf (fun r j hr => e r j (by omega) (by omega)), ⟨dar_fs b1 hf (fun r k hr => r3 r k (by omega)), by rw [hf 15 2 n5]; exact b2⟩, ⟨rdar_fs b3 hf (fun r k hr => e r k (by omega) (by omega)), by rw [hf 344 21 (e _ _ (by decide) (by decide))]; exact b4⟩, b5⟩
  · obtain ⟨p1, p2⟩ := h.2.2.2.1 (by rw [← hf 0 8 n7]; exact h9)
    exact ⟨h7.trans p1, ivQ_cg hg p2 (fun r k hr => hf r k (r4 r k hr)) (hf 344 39 (e _ _ (by decide) (by decide))) (fun r k hr => hf r k (e r k (by omega) (by omega))) (fun D _ hD => rdar_fs hD hf (fun r k hr => e r k (by omega) (by omega))) (fun k _ => hf 344 k (e _ _ (by decide) (by decide))) (fun k _ => hf 357 k (e _ _ (by decide) (by decide)))⟩
theorem ivN_r {S : List (Nat × Nat × Nat × Nat)} {F F' : fl_N} (hg : gi F) (h : ivN F) (hf : fs S F F') (hh : hiS S = true) (hn : ckN S = true) : ivN F' := by
  simp only [ckN, Bool.and_eq_true] at hn
  have c : ∀ r k, 349 ≤ r ∧ r ≤ 352 → fs_in S r k = false := fs_rg hn.2.1.1
  have c2 : ∀ r k, 364 ≤ r ∧ r ≤ 372 → fs_in S r k = false := fs_rg hn.2.2
  have e : ∀ r k, r < 344 → fs_in S r k = false := fun r k a => hiS_at hh a
  refine ⟨by rw [hf 1 8 (e _ _ (by decide)), hf 344 8 (ck_f hn.1 (by decide))]; exact h.1, fun h9 => ?_, by rw [hf 0 8 (e _ _ (by decide)), hf 344 12 (ck_f hn.1 (by decide))]; exact h.2.2.1, fun h9 => ?_, fun j hj => (hf 125 j (e 125 j (by decide))).trans (h.2.2.2.2 j hj)⟩
  · obtain ⟨nm, ts, pl, ps, D, a1, a2, a3, a4, a5, a6, a7, a8, a9, ⟨b1, b2⟩, ⟨b3, b4⟩, b5⟩ := h.2.1 (by rw [← hf 0 7 (e _ _ (by decide))]; exact h9)
    have hb : 0 ≤ F 11 2 ∧ F 11 2 ≤ 6 := gi_g hg rfl
    have h4 := a4.1
    have hb15 : 0 ≤ F 15 2 ∧ F 15 2 ≤ 5 := gi_g hg rfl
    exact ⟨nm, ts, pl, ps, D, (hf 7 0 (e _ _ (by decide))).trans a1, by rw [hf 344 14 (ck_f hn.1 (by decide))]; exact a2, rep_f8 a3 hf (fun j => e _ _ (by decide)) (e _ _ (by decide)), rep_f8 a4 hf (fun j => e _ _ (by decide)) (e _ _ (by decide)), prd_fs a5 hf (fun r k hr => e r k (by omega)), a6, rpn_fs a7 hf (fun j => c _ _ (by decide)) (ck_f hn.1 (by decide)), rpn_fs a8 hf (fun j => c _ _ (by decide)) (ck_f hn.1 (by decide)), rprd_fs a9 hf (fun r j hr => c r j (by omega)), ⟨dar_fs b1 hf (fun r k hr => e r k (by omega)), by rw [hf 15 2 (e _ _ (by decide))]; exact b2⟩, ⟨rdar_5 b3 hg (by omega) (lfr_s hf hn.2.1.2), by rw [hf 344 21 (ck_f hn.1 (by decide))]; exact b4⟩, b5⟩
  · obtain ⟨p1, p2⟩ := h.2.2.2.1 (by rw [← hf 0 8 (e _ _ (by decide))]; exact h9)
    exact ⟨(hf 0 7 (e _ _ (by decide))).trans p1, ivQ_cg hg p2 (fun r k hr => hf r k (e r k (by omega))) (hf 344 39 (ck_f hn.1 (by decide))) (fun r k hr => hf r k (c2 r k hr)) (fun D hl hD => rdar_5 hD hg hl (lfr_s hf hn.2.1.2)) (fun k hk => hf 344 k (ck_f hn.1 (by rcases hk with rfl | rfl | rfl | rfl <;> decide))) (fun k _ => hf 357 k (rs5_n hn.2.1.2 (by omega) (by omega)))⟩
theorem nkS_app {S : List (Nat × Nat × Nat × Nat)} (h : nkS S = true) : nkS (S ++ [(386, 386, 0, 100000)]) = true := by
  simp only [nkS, fs_in, Bool.and_eq_true, Bool.not_eq_true', List.any_append, List.all_append, Bool.or_eq_false_iff] at h ⊢
  exact ⟨⟨⟨⟨⟨h.1.1.1.1, rfl⟩, h.1.1.1.2, rfl⟩, ⟨h.1.1.2.1, rfl⟩, h.1.1.2.2, rfl⟩, ⟨h.1.2.1, rfl⟩, h.1.2.2, rfl⟩, ⟨h.2.1, rfl⟩, h.2.2, rfl⟩
def ivq (F : fl_N) : Prop := gi F ∧ ivA F ∧ ivB F ∧ F 0 7 = F 344 11 ∧ ivN F ∧ ∃ l, rep (F 2) (F 1 1) l ∧ rep (F 345) (F 344 1) l ∧ okt l
/-- the row of steps, alike where there is a problem -/
def ivR (F : fl_N) : Prop := F 0 8 = 1 → F 0 10 = F 344 60 ∧ ∀ j : Nat, (j : Int) < F 0 10 → F 342 j = F 382 j ∧ 0 ≤ F 342 j ∧ F 342 j < F 120 3
/-- the plan: there on both sides or on none, with as many steps and the same ones -/
def ivP (F : fl_N) : Prop := F 331 11 = F 344 13 ∧ (F 331 11 = 1 → F 335 200 = F 344 58 ∧ ∀ j : Nat, (j : Int) < F 335 200 → F 339 j = F 381 j)
def pK (F F' : fl_N) : Prop := (F' 331 11 = F 331 11 ∧ F' 335 200 = F 335 200 ∧ (∀ j, F' 339 j = F 339 j)) ∧ F' 344 13 = F 344 13 ∧ F' 344 58 = F 344 58 ∧ ∀ j, F' 381 j = F 381 j
theorem pK_r {F : fl_N} : pK F F := ⟨⟨rfl, rfl, fun _ => rfl⟩, rfl, rfl, fun _ => rfl⟩
theorem ivP_c {F F' : fl_N} (h : ivP F) (hc : pK F F') : ivP F' := by
  obtain ⟨⟨a1, a2, a3⟩, a4, a5, a6⟩ := hc
  refine ⟨by rw [a1, a4]; exact h.1, fun h9 => ?_⟩
  obtain ⟨b1, b2⟩ := h.2 (by rw [← a1]; exact h9)
  exact ⟨by rw [a2, a5]; exact b1, fun j hj => by rw [a3, a6]; exact b2 j (by rw [← a2]; exact hj)⟩
def ckV (S : List (Nat × Nat × Nat × Nat)) : Bool := (!fs_in S 344 13 && !fs_in S 344 58) && S.all (fun q => Nat.blt q.2.1 381 || Nat.blt 381 q.1)
theorem ivP_t {S : List (Nat × Nat × Nat × Nat)} {F F1 F2 : fl_N} (h : ivP F) (hc : pK F F1) (hf : fs S F1 F2) (hh : hiS S = true) (hw : ckV S = true) : ivP F2 := by
  simp only [ckV, Bool.and_eq_true, Bool.not_eq_true'] at hw
  have e : ∀ r k, r < 344 → fs_in S r k = false := fun r k a => hiS_at hh a
  exact ivP_c (ivP_c h hc) ⟨⟨hf 331 11 (e _ _ (by decide)), hf 335 200 (e _ _ (by decide)), fun j => hf 339 j (e _ _ (by decide))⟩, hf 344 13 hw.1.1, hf 344 58 hw.1.2, fun j => hf 381 j (fs_rg (a := 381) (b := 381) hw.2 381 j ⟨Nat.le_refl _, Nat.le_refl _⟩)⟩
/-- names: the actions' and, step by step, lines -/
def ivE (F : fl_N) : Prop := (F 0 7 = 1 → ∃ al, rep (F 16) (F 15 2) al ∧ rpn (F 353) (F 344 21) al) ∧ (F 0 8 = 1 → ∀ s : Nat, (s : Int) < F 120 3 → tA F s)
/-- the plan's text -/
def ivL (F : fl_N) : Prop := (¬ F 331 11 = 1 → F 0 12 = 0) ∧ (F 331 11 = 1 → rep (F 343) (F 0 12) (qTx F (F 344 58).toNat) ∧ ∀ j : Nat, (j : Int) < F 344 58 → rNm F (F 381 j).toNat)
def kN (F F' : fl_N) : Prop := ∀ r j, (r = 353 ∨ r = 354 ∨ r = 364 ∨ r = 367 ∨ r = 368) → F' r j = F r j
def kE (F F' : fl_N) : Prop := (∀ r j, (r = 16 ∨ r = 106 ∨ (126 ≤ r ∧ r ≤ 330)) → F' r j = F r j) ∧ kN F F' ∧ F' 0 7 = F 0 7 ∧ F' 0 8 = F 0 8 ∧ F' 15 2 = F 15 2 ∧ F' 120 3 = F 120 3 ∧ F' 344 21 = F 344 21
def kL (F F' : fl_N) : Prop := F' 0 12 = F 0 12 ∧ (∀ j, F' 343 j = F 343 j) ∧ F' 331 11 = F 331 11 ∧ F' 344 58 = F 344 58 ∧ ∀ j, F' 381 j = F 381 j
def kT (F F' : fl_N) : Prop := kE F F' ∧ kL F F'
theorem rTp_cg {F F' : fl_N} (h : kN F F') (s k : Nat) : rTp F' s k = rTp F s k := by
  unfold rTp
  rw [h 367 s (by decide)]
  simp only [h 353 _ (by decide), h 364 _ (by decide), h 368 _ (by decide)]
theorem rTx_cg {F F' : fl_N} (h : kN F F') (s : Nat) : rTx F' s = rTx F s := by
  unfold rTx
  rw [rTp_cg h, h 367 s (by decide), h 354 _ (by decide)]
theorem rNm_cg {F F' : fl_N} (h : kN F F') {s : Nat} (hn : rNm F s) : rNm F' s := by
  unfold rNm
  rw [h 367 s (by decide), h 354 _ (by decide), h 353 _ (by decide)]
  refine ⟨hn.1, fun p hp => ?_⟩
  rw [h 368 _ (by decide), h 364 _ (by decide)]
  exact hn.2 p hp
theorem qTx_cg {F F' : fl_N} (h : kN F F') (h2 : ∀ j, F' 381 j = F 381 j) (k : Nat) : qTx F' k = qTx F k := by
  unfold qTx
  simp only [h2, rTx_cg h]
theorem tA_cg {F F' : fl_N} (h1 : ∀ r j, (r = 16 ∨ r = 106 ∨ (126 ≤ r ∧ r ≤ 330)) → F' r j = F r j) (h2 : kN F F') {s : Nat} (hs : s ≤ 40) (h : tA F s) : tA F' s := by
  obtain ⟨a1, a2, a3⟩ := h
  have e0 : F' (126 + 5 * s) 0 = F (126 + 5 * s) 0 := h1 _ _ (Or.inr (Or.inr ⟨by omega, by omega⟩))
  have e1 : ∀ k, F' (126 + 5 * s + 1) k = F (126 + 5 * s + 1) k := fun k => h1 _ _ (Or.inr (Or.inr ⟨by omega, by omega⟩))
  have e2 : ∀ k, F' 16 k = F 16 k := fun k => h1 _ _ (Or.inl rfl)
  have e3 : ∀ k, F' 106 k = F 106 k := fun k => h1 _ _ (Or.inr (Or.inl rfl))
  refine ⟨sNm_cg a1 e0 e1 e2 e3, rNm_cg h2 a2, ?_⟩
  rw [rTx_cg h2, ← a3]
  unfold sTx
  rw [sTp_cg e0 e1 e2 e3]
theorem ivE_c {F F' : fl_N} (hg : gi F) (h : ivE F) (hc : kE F F') : ivE F' := by
  obtain ⟨c1, c2, c3, c4, c5, c6, c7⟩ := hc
  refine ⟨fun h9 => ?_, fun h9 s hs => ?_⟩
  · obtain ⟨al, a1, a2⟩ := h.1 (by rw [← c3]; exact h9)
    exact ⟨al, ⟨by rw [c5]; exact a1.1, fun j x hx => by rw [c1 16 j (Or.inl rfl)]; exact a1.2 j x hx⟩, ⟨by rw [c7]; exact a2.1, fun j x hx => by rw [c2 353 j (Or.inl rfl)]; exact a2.2 j x hx⟩⟩
  · have hb : 0 ≤ F 120 3 ∧ F 120 3 ≤ 41 := gi_g hg rfl
    exact tA_cg c1 c2 (by omega) (h.2 (by rw [← c4]; exact h9) s (by rw [← c6]; exact hs))
theorem ivL_c {F F' : fl_N} (h : ivL F) (h1 : kN F F') (hc : kL F F') : ivL F' := by
  obtain ⟨c1, c2, c3, c4, c5⟩ := hc
  refine ⟨fun h9 => by rw [c1]; exact h.1 (by rw [← c3]; exact h9), fun h9 => ?_⟩
  obtain ⟨a1, a2⟩ := h.2 (by rw [← c3]; exact h9)
  rw [c4, qTx_cg h1 c5]
  exact ⟨⟨by rw [c1]; exact a1.1, fun j x hx => by rw [c2]; exact a1.2 j x hx⟩, fun j hj => by rw [c5]; exact rNm_cg h1 (a2 j hj)⟩
def ivT (F : fl_N) : Prop := ivE F ∧ ivL F
theorem ivT_c {F F' : fl_N} (hg : gi F) (h : ivT F) (hc : kT F F') : ivT F' := ⟨ivE_c hg h.1 hc.1, ivL_c h.2 hc.1.2.1 hc.2⟩
def ckE (S : List (Nat × Nat × Nat × Nat)) : Bool := [353, 354, 364, 367, 368].all (fun r => S.all (fun q => Nat.blt q.2.1 r || Nat.blt r q.1)) && !fs_in S 344 21
theorem kE_t {S : List (Nat × Nat × Nat × Nat)} {F1 F2 : fl_N} (hf : fs S F1 F2) (hh : hiS S = true) (hw : ckE S = true) : kE F1 F2 := by
  simp only [ckE, Bool.and_eq_true, Bool.not_eq_true'] at hw
  have e : ∀ r k, r < 344 → fs_in S r k = false := fun r k a => hiS_at hh a
  exact ⟨fun r j hr => hf r j (e r j (by omega)), fun r j hr => hf r j (ck_at hw.1 (by rcases hr with rfl | rfl | rfl | rfl | rfl <;> decide) j), hf 0 7 (e _ _ (by decide)), hf 0 8 (e _ _ (by decide)), hf 15 2 (e _ _ (by decide)), hf 120 3 (e _ _ (by decide)), hf 344 21 hw.2⟩
theorem ivT_t {S : List (Nat × Nat × Nat × Nat)} {F F1 F2 : fl_N} (hg : gi F) (h : ivT F) (hc : kT F F1) (g1 : gi F1) (hf : fs S F1 F2) (hh : hiS S = true) (hw : ckE S = true) (hv : ckV S = true) : ivT F2 := by
  simp only [ckV, Bool.and_eq_true, Bool.not_eq_true'] at hv
  have e : ∀ r k, r < 344 → fs_in S r k = false := fun r k a => hiS_at hh a
  exact ivT_c g1 (ivT_c hg h hc) ⟨kE_t hf hh hw, hf 0 12 (e _ _ (by decide)), fun j => hf 343 j (e _ _ (by decide)), hf 331 11 (e _ _ (by decide)), hf 344 58 hv.1.2, fun j => hf 381 j (fs_rg (a := 381) (b := 381) hv.2 381 j ⟨Nat.le_refl _, Nat.le_refl _⟩)⟩
theorem kT_r {F : fl_N} : kT F F := ⟨⟨fun _ _ _ => rfl, fun _ _ _ => rfl, rfl, rfl, rfl, rfl, rfl⟩, rfl, fun _ => rfl, rfl, rfl, fun _ => rfl⟩
/-- both texts of a plan are one -/
theorem p_q {F : fl_N} (hA : ∀ s : Nat, (s : Int) < F 120 3 → tA F s) : ∀ n : Nat, (∀ j : Nat, j < n → (0 ≤ F 339 j ∧ F 339 j < F 120 3) ∧ F 339 j = F 381 j) → pTx F n = qTx F n ∧ ∀ j : Nat, j < n → rNm F (F 381 j).toNat := by
  intro n
  induction n with
  | zero => intro _; exact ⟨rfl, fun j hj => absurd hj (by omega)⟩
  | succ n ih =>
    intro h
    obtain ⟨b1, b2⟩ := ih (fun j hj => h j (by omega))
    obtain ⟨⟨c1, c2⟩, c3⟩ := h n (by omega)
    obtain ⟨-, d2, d3⟩ := hA (F 339 n).toNat (by omega)
    refine ⟨by rw [pTx_s, qTx_s, b1, d3, c3], fun j hj => ?_⟩
    by_cases e : j < n
    · exact b2 j e
    · rw [show j = n by omega, ← c3]
      exact d2
def iv (F : fl_N) : Prop := ((ivq F ∧ ivR F) ∧ ivP F) ∧ ivT F
/-- what a call that leaves row and plan alone leaves of them -/
def rP (F F' : fl_N) : Prop := (F' 0 8 = F 0 8 ∧ F' 0 10 = F 0 10 ∧ ∀ j, F' 342 j = F 342 j) ∧ F' 344 60 = F 344 60 ∧ (∀ j, F' 382 j = F 382 j) ∧ F' 120 3 = F 120 3 ∧ pK F F' ∧ kT F F'
/-- what a call that leaves the row alone leaves of it -/
def rC (F F' : fl_N) : Prop := (F' 0 8 = F 0 8 ∧ F' 0 10 = F 0 10 ∧ ∀ j, F' 342 j = F 342 j) ∧ F' 344 60 = F 344 60 ∧ (∀ j, F' 382 j = F 382 j) ∧ F' 120 3 = F 120 3
theorem rP_C {F F' : fl_N} (h : rP F F') : rC F F' := ⟨h.1, h.2.1, h.2.2.1, h.2.2.2.1⟩
theorem rP_K {F F' : fl_N} (h : rP F F') : pK F F' := h.2.2.2.2.1
theorem rP_T {F F' : fl_N} (h : rP F F') : kT F F' := h.2.2.2.2.2
theorem rC_r {F : fl_N} : rC F F := ⟨⟨rfl, rfl, fun _ => rfl⟩, rfl, fun _ => rfl, rfl⟩
def ckW (S : List (Nat × Nat × Nat × Nat)) : Bool := !fs_in S 344 60 && S.all (fun q => Nat.blt q.2.1 382 || Nat.blt 382 q.1)
theorem ivR_c {F F' : fl_N} (h : ivR F) (hc : rC F F') : ivR F' := fun h8 => by
  obtain ⟨⟨a1, a2, a3⟩, a4, a5, a6⟩ := hc
  obtain ⟨b1, b2⟩ := h (by rw [← a1]; exact h8)
  exact ⟨by rw [a2, a4]; exact b1, fun j hj => by rw [a3, a5, a6]; exact b2 j (by rw [← a2]; exact hj)⟩
theorem ivR_t {S : List (Nat × Nat × Nat × Nat)} {F F1 F2 : fl_N} (h : ivR F) (hc : rC F F1) (hf : fs S F1 F2) (hh : hiS S = true) (hw : ckW S = true) : ivR F2 := by
  simp only [ckW, Bool.and_eq_true, Bool.not_eq_true'] at hw
  have e : ∀ r k, r < 344 → fs_in S r k = false := fun r k a => hiS_at hh a
  exact ivR_c (ivR_c h hc) ⟨⟨hf 0 8 (e _ _ (by decide)), hf 0 10 (e _ _ (by decide)), fun j => hf 342 j (e _ _ (by decide))⟩, hf 344 60 hw.1, fun j => hf 382 j (fs_rg (a := 382) (b := 382) hw.2 382 j ⟨Nat.le_refl _, Nat.le_refl _⟩), hf 120 3 (e _ _ (by decide))⟩
/-- what the class's part of a call leaves, where it leaves texts and domains alone -/
def stC (F F' : fl_N) : Prop := gi F' ∧ ivA F' ∧ (∃ S, fs S F F' ∧ loS S = true ∧ nkS S = true) ∧ F' 0 7 = F 0 7 ∧ F' 1 1 = F 1 1 ∧ ∀ j, F' 2 j = F 2 j
theorem stC_iv {F F' : fl_N} (h : ivq F) (hc : stC F F') : ivq F' := by
  obtain ⟨hg, -, hB, h7, hN, l, r1, r2, ho⟩ := h
  obtain ⟨g', a', ⟨S, hf, hl, hn⟩, e1, e2, e3⟩ := hc
  refine ⟨g', a', ivB_lo hB hf hl, ?_, ivN_c hg hN hf hl hn e1, l, ?_, rep_f8 r2 hf (fun j => loS_at hl (by decide) (by decide)) (loS_at hl (by decide) (by decide)), ho⟩
  · rw [e1, h7, hf 344 11 (loS_at hl (by decide) (by decide))]
  · rw [e2]
    exact ⟨r1.1, fun j x hx => by rw [e3]; exact r1.2 j x hx⟩
def ckT (S : List (Nat × Nat × Nat × Nat)) : Bool := [1, 11].all (fun k => !fs_in S 344 k) && [345].all (fun r => S.all (fun q => Nat.blt q.2.1 r || Nat.blt r q.1))
theorem stR_iv {S : List (Nat × Nat × Nat × Nat)} {F F' : fl_N} (h : ivq F) (hg : gi F') (hf : fs S F F') (hh : hiS S = true) (ht : ckT S = true) (hn : ckN S = true) (hB : ivB F') : ivq F' := by
  obtain ⟨g0, hA, -, h7, hN, l, r1, r2, ho⟩ := h
  simp only [ckT, Bool.and_eq_true] at ht
  refine ⟨hg, ivA_hi hA g0 hf hh, hB, ?_, ivN_r g0 hN hf hh hn, l, rep_f8 r1 hf (fun j => hiS_at hh (by decide)) (hiS_at hh (by decide)), rep_f8 r2 hf (fun j => ck_at ht.2 (by decide) j) (ck_f ht.1 (by decide)), ho⟩
  rw [hf 0 7 (hiS_at hh (by decide)), hf 344 11 (ck_f ht.1 (by decide))]
  exact h7
theorem stR_fs {S : List (Nat × Nat × Nat × Nat)} {F F' : fl_N} (h : ivq F) (hg : gi F') (hf : fs S F F') (hh : hiS S = true) (ht : ckT S = true) (hb : ckB S = true) (hp : ckP S = true) (ho : fs_in S 344 69 = false) (hn : ckN S = true) : ivq F' := stR_iv h hg hf hh ht hn (ivB_fs h.2.2.1 hf hb (pli_fs h.2.2.1.2.2.2.1 hf hp) (by rw [hf 344 69 ho]; exact h.2.2.1.2.2.2.2.2))
theorem u386 {F : fl_N} {w : Int} : fs [(386, 386, 0, 100000)] F (fl_u F 386 (0 : Int).toNat w) := fs_u fs_refl rfl
theorem stC_386 {F F' : fl_N} {w : Int} (h : stC F F') (h1 : -9223372036854775808 ≤ w) (h2 : w ≤ 9223372036854775807) : stC F (fl_u F' 386 (0 : Int).toNat w) := by
  obtain ⟨g', a', ⟨S, hf, hl, hn⟩, e1, e2, e3⟩ := h
  have hu := u386 (F := F') (w := w)
  refine ⟨gi_u g' rfl h1 h2, ⟨fnd_cg a'.1 (hu _ _ rfl) (hu _ _ rfl), dmi_fs a'.2 g' hu rfl rfl (fun r k hr => fs_rg (a := 39) (b := 103) rfl r k hr)⟩, ⟨S ++ [(386, 386, 0, 100000)], ?_, ?_, nkS_app hn⟩, (hu _ _ rfl).trans e1, (hu _ _ rfl).trans e2, fun j => (hu _ _ (fs_c rfl)).trans (e3 j)⟩
  · intro r k hr
    unfold fs_in at hr
    rw [List.any_append, Bool.or_eq_false_iff] at hr
    rw [hu r k hr.2]
    exact hf r k hr.1
  · unfold loS at *
    rw [List.all_append, hl]
    rfl
theorem lo_386 {S : List (Nat × Nat × Nat × Nat)} {F F1 : fl_N} {w : Int} (hf : fs S F F1) (hl : loS S = true) : ∃ S, fs S F (fl_u F1 386 (0 : Int).toNat w) ∧ loS S = true := by
  refine ⟨S ++ [(386, 386, 0, 100000)], ?_, ?_⟩
  · intro r k hr
    unfold fs_in at hr
    rw [List.any_append, Bool.or_eq_false_iff] at hr
    rw [u386 r k hr.2]
    exact hf r k hr.1
  · unfold loS at *
    rw [List.all_append, hl]
    rfl
theorem stC_q {F F' : fl_N} (h : stC F F') : ∀ r k, 120 ≤ r ∧ r ≤ 330 → F' r k = F r k := by
  obtain ⟨-, -, ⟨S, hf, -, hn⟩, -⟩ := h
  simp only [nkS, Bool.and_eq_true, Bool.not_eq_true'] at hn
  exact fun r k hr => hf r k (fs_rg hn.2.2 r k hr)
theorem stC_l {F F' : fl_N} (h : stC F F') : ∀ r k, 344 ≤ r → r < 386 → F' r k = F r k := by
  obtain ⟨-, -, ⟨S, hf, hl, -⟩, -⟩ := h
  exact fun r k a b => hf r k (loS_at hl a b)
theorem stP_lt {tl : List Int} {D : List ad_T} {n : Nat} {s : Nat × Nat} (h : s ∈ stP tl D n) : s.1 < n := by
  unfold stP at h
  obtain ⟨a, ha, hs⟩ := List.mem_flatMap.mp h
  unfold stE at hs
  obtain ⟨x, -, rfl⟩ := List.mem_map.mp hs
  exact List.mem_range.mp ha
theorem gV_rV {F : fl_N} {tl : List Int} {D : List ad_T} {k w v z : Int} (hk : 0 ≤ k ∧ k < ((stP tl D D.length).length : Int)) (a3 : sts F D (stP tl D D.length)) (a5 : rsts F D (stP tl D D.length)) (a6 : rdar F D) (h1 : gV F k w v) (h2 : rV F k w z) : v = z := by
  have hk5 : k.toNat < (stP tl D D.length).length := by omega
  obtain ⟨st, hst⟩ : ∃ s, (stP tl D D.length)[k.toNat]? = some s := ⟨_, List.getElem?_eq_getElem hk5⟩
  have hlt := stP_lt (List.mem_of_getElem? hst)
  obtain ⟨b1, ⟨b2, b4⟩, b3, -⟩ := a3 k.toNat st hst
  obtain ⟨d1, d2, -⟩ := a5 k.toNat st hst
  have r1 := (a6 st.1 (dat D st.1) (dat_get hlt)).2.2.2
  unfold gV at h1
  unfold rV at h2
  rcases h1 with ⟨y1, y2⟩ | ⟨y1, y2⟩ | ⟨y1, y2⟩
  · rcases h2 with ⟨x1, x2⟩ | ⟨x1, x2⟩ | ⟨x1, x2⟩
    · rw [y2, x2, b1, d1]
    · exact absurd (y1.symm.trans x1) (by decide)
    · exfalso
      omega
  · rcases h2 with ⟨x1, x2⟩ | ⟨x1, x2⟩ | ⟨x1, x2⟩
    · exact absurd (x1.symm.trans y1) (by decide)
    · rw [y2, x2, d1, b3, Int.toNat_natCast, r1]
    · exfalso
      omega
  · rcases h2 with ⟨x1, x2⟩ | ⟨x1, x2⟩ | ⟨x1, x2⟩
    · exfalso
      omega
    · exfalso
      omega
    · have h3 := d2 (w - 1).toNat (by omega)
      rw [y2, x2, show (3 * k + w - 1).toNat = 3 * k.toNat + (w - 1).toNat by omega, h3]
      by_cases c : (w - 1).toNat < (dat D st.1).1.length
      · rw [if_pos c]
        exact b2 _ c
      · rw [if_neg c]
        exact b4 _ (by omega) (by omega)
theorem cbe_cg {F F' : fl_N} (h : ∀ r k, 344 ≤ r → r < 386 → F' r k = F r k) {i s : Int} : cbe F' i s ↔ cbe F i s := by
  unfold cbe
  rw [h 369 _ (by decide) (by decide), h 370 _ (by decide) (by decide)]
theorem dne_cg {F F' : fl_N} (h : ∀ r k, 344 ≤ r → r < 386 → F' r k = F r k) {i s : Int} : dne F' i s = dne F i s := by
  unfold dne
  rw [h 372 _ (by decide) (by decide), h 371 _ (by decide) (by decide)]
theorem gR_cg {F F' : fl_N} (h : ∀ r k, 344 ≤ r → r < 386 → F' r k = F r k) {s : Int} : gR F' s ↔ gR F s := by
  unfold gR
  rw [h 344 48 (by decide) (by decide), h 344 46 (by decide) (by decide), h 344 47 (by decide) (by decide)]
theorem ckR_cg {F F' : fl_N} (h : ∀ r k, 344 ≤ r → r < 386 → F' r k = F r k) : ∀ (k : Nat) (s c : Int), ckR F' k s c → ckR F k s c := by
  intro k
  induction k with
  | zero =>
    intro s c h1
    unfold ckR at h1 ⊢
    rw [h 344 38 (by decide) (by decide)] at h1
    exact h1
  | succ k ih =>
    intro s c h1
    unfold ckR at h1 ⊢
    obtain ⟨s0, c0, b1, b2, b3, b4⟩ := h1
    rw [h 382 k (by decide) (by decide)] at b2 b3 b4
    rw [h 367 _ (by decide) (by decide), h 357 _ (by decide) (by decide)] at b4
    exact ⟨s0, c0, ih s0 c0 b1, (cbe_cg h).mp b2, by rw [← dne_cg h]; exact b3, b4⟩
theorem hpa_iv {F : fl_N} (h : ivq F) : F 0 8 = 1 → ∀ s : Nat, (s : Int) < F 120 3 → 1 ≤ F (126 + 5 * s) 2 ∧ ∃ a, a < 5 ∧ F (126 + 5 * s) 2 = F 357 a := fun h8 s hs => by
  obtain ⟨-, tl, D, ⟨a1, a2⟩, a3, a4, a5, a6, a7, a8⟩ := h.2.2.2.2.1.2.2.2.1 h8
  exact ⟨(prc_1 h.1 a1 a2 a3 hs).1, prc_5 h.1 a8 hs⟩
theorem hpr_iv {F : fl_N} (h : ivq F) : F 344 12 = 1 → ∀ s : Nat, (s : Int) < F 344 39 → 1 ≤ F 357 (F 367 s).toNat ∧ F 357 (F 367 s).toNat ≤ 999 := fun h12 s hs => by
  have hN := h.2.2.2.2.1
  obtain ⟨-, tl, D, ⟨a1, a2⟩, a3, a4, a5, a6, a7, a8⟩ := hN.2.2.2.1 (hN.2.2.1.trans h12)
  have hs' : (s : Int) < F 120 3 := by omega
  rw [← (a8.1 s hs').2.2.2]
  exact prc_1 h.1 a1 a2 a3 hs'
theorem plL_cg {F F' : fl_N} {o v : Int} {w : wy_T} (h : plL F o v w) (h1 : F' 331 11 = F 331 11) (h2 : F' 335 200 = F 335 200) (h3 : ∀ j, F' 339 j = F 339 j) : plL F' o v w := by
  rcases h with ⟨a1, a2⟩ | ⟨a1, a2, a3, a4, a5⟩
  · exact Or.inl ⟨a1, h1.trans a2⟩
  · exact Or.inr ⟨a1, a2, h1.trans a3, h2.trans a4, fun j hj => (h3 j).trans (a5 j hj)⟩
theorem plV_cg {F F' : fl_N} {mo o v : Int} {w : wy_T} (c : ∀ r k, 344 ≤ r → r < 386 → F' r k = F r k) (h : plV F' mo o v w) : plV F mo o v w := by
  have e : pR F' = pR F := pR_cg (c 344 39 (by decide) (by decide)) (c 344 46 (by decide) (by decide)) (c 344 47 (by decide) (by decide)) (c 344 48 (by decide) (by decide)) (fun j => c 357 j (by decide) (by decide)) (fun j => c 367 j (by decide) (by decide)) (fun j => c 369 j (by decide) (by decide)) (fun j => c 370 j (by decide) (by decide)) (fun j => c 371 j (by decide) (by decide)) (fun j => c 372 j (by decide) (by decide))
  unfold plV at h ⊢
  rw [e, c 344 38 (by decide) (by decide), gr_cg (c 344 46 (by decide) (by decide)) (c 344 47 (by decide) (by decide)) (c 344 48 (by decide) (by decide))] at h
  exact h
/-- both plans are one: what is kept of them -/
theorem plL_K {F F2 : fl_N} {mo o v o' v' : Int} {w w' : wy_T} (hg : gi F) (h : ivM F) (h40 : F 120 3 ≤ 40) (he : F 344 39 = F 120 3) (h1 : plF F mo o v w) (h2 : plV F mo o' v' w') (k1 : plL F2 o v w) (k2 : plK F2 o' v' w') : ivP F2 := by
  obtain ⟨e1, e2, e3⟩ := plF_V (pC_pR hg h h40 he) (by rw [h.2.1]; exact gC_gR hg h) h.2.1 h1 h2
  subst e1
  subst e2
  subst e3
  rcases k1 with ⟨a1, a2⟩ | ⟨a1, a2, a3, a4, a5⟩
  · rcases k2 with ⟨b1, b2⟩ | ⟨b1, b2, -⟩
    · exact ⟨by rw [a2, b2], fun h9 => absurd h9 (by rw [a2]; decide)⟩
    · exact absurd ⟨b1, b2⟩ a1
  · rcases k2 with ⟨b1, b2⟩ | ⟨b1, b2, b3, b4, b5⟩
    · exact absurd ⟨a1, a2⟩ b1
    · exact ⟨by rw [a3, b3], fun _ => ⟨by rw [a4, b4], fun j hj => by rw [a5 j (by omega), b5 j (by omega)]⟩⟩
/-! CALLS UNDER HANDLERS -/
def xi_ch (M : xi_M) (pc j : Nat) (A1 : xi_H) : Option Nat := match M.2.2.2.2.2 with
  | [] => none
  | (a1, a2, h, _, ci) :: hs => match A1[j]? with
    | some (.inr (cj, _)) => if cj = ci ∧ a1 ≤ pc ∧ pc < a2 then some h else match hs.find? (fun q => q.2.2.2.2 == cj) with
      | some (_, _, h2, _, _) => if xi_hs cj ci a1 a2 hs pc = true then some h2 else none
      | none => none
    | _ => none
theorem xi_ch_a {M : xi_M} {pc j a1 a2 h ct ci : Nat} {hs : List (Nat × Nat × Nat × Nat × Nat)} {A1 : xi_H} {fs : List Value} (hM : M.2.2.2.2.2 = (a1, a2, h, ct, ci) :: hs) (hq : A1[j]? = some (.inr (ci, fs))) (hc : (Nat.ble a1 pc && Nat.blt pc a2) = true) : xi_ch M pc j A1 = some h := by
  rw [Bool.and_eq_true, Nat.ble_eq, Nat.blt_eq] at hc
  unfold xi_ch
  rw [hM]
  simp only
  rw [hq]
  simp only
  rw [if_pos ⟨trivial, hc⟩]
theorem xi_ch_b {M : xi_M} {pc j a1 a2 h ct ci cj b1 b2 h2 c2 x2 : Nat} {hs : List (Nat × Nat × Nat × Nat × Nat)} {A1 : xi_H} {fs : List Value} (hM : M.2.2.2.2.2 = (a1, a2, h, ct, ci) :: hs) (hq : A1[j]? = some (.inr (cj, fs))) (hne : Nat.beq cj ci = false) (hf : hs.find? (fun q => q.2.2.2.2 == cj) = some (b1, b2, h2, c2, x2)) (hc : xi_hs cj ci a1 a2 hs pc = true) : xi_ch M pc j A1 = some h2 := by
  unfold xi_ch
  rw [hM]
  simp only
  rw [hq]
  simp only
  rw [if_neg (fun h => by rw [h.1, Nat.beq_refl] at hne; cases hne), hf]
  simp only
  rw [if_pos hc]
theorem gx_at {G : Nat → Nat → Option Nat} {F : fl_N} {X : xi_H} {ci : Nat} : (fl_H sh_T G F ++ (X ++ [gx ci]))[387 + X.length]? = some (gx ci) := by
  rw [← List.append_assoc, List.getElem?_append_right (by rw [ga_len]; exact Nat.le_refl _), ga_len, Nat.sub_self]
  rfl
section GH
variable {Ms : List xi_M} {y fr lo pc n : Nat} {M : xi_M} {lv : xi_L} {st : List Value} {A A1 : xi_H} {nx : Nat} {Q : Outcome → xi_H → Prop} {P : Int → xi_H → Prop} {W1 : Nat → xi_H → Prop} {res : Option (Outcome × xi_H)}
theorem xg_VH {i x cM k b ci q : Nat} {tl : List Nat} {As rest fs : List Value} {Mc : xi_M} (hM : Ms[y]? = some M) (hrow : xi_row M.2.2.2.2.1 pc = some (.invokevirtual i, nx, x :: cM :: k :: tl)) (hMc : Ms[cM]? = some Mc) (hst : st = As.reverse ++ .ref b :: rest) (hk : As.length = k) (hb : A[b]? = some (.inr (ci, fs))) (hc : ((xi_cl[ci]?).map (·.1) = some Mc.1.cls ∧ xi_wt rest ≤ 8 ∧ 1 ≤ fr) ∧ 19 + Mc.2.2.1 ≤ lo ∧ xi_wt (.ref b :: As) ≤ Mc.2.2.1 ∧ Mc.2.2.2.2.2 = [])
    (hr : xi_go Ms n cM (fr - 1) (lo - (19 + Mc.2.2.1)) 0 (lv_args 0 (.ref b :: As)) [] A = some (.threw q, A1)) {h : Nat} (hch : xi_ch M pc q A1 = some h) (hk2 : xi_go Ms n y fr lo h lv [.ref q] A1 = res) : xi_go Ms (n + 1) y fr lo pc lv st A = res := by
  subst hst
  rw [xi_go_succ]
  unfold xi_body
  rw [hM]
  simp only
  rw [hrow]
  simp only
  rw [xi_x_v hMc hk hb hc]
  simp only
  rw [hr]
  simp only [if_true]
  unfold xi_ch at hch
  split at hch
  · cases hch
  · rename_i a1 a2 h0 ct c0 hs hhs
    rw [hhs]
    simp only
    split at hch
    · rename_i cj fs1 hq
      rw [hq]
      simp only
      split at hch
      · rename_i hc1
        rw [if_pos hc1]
        cases hch
        exact hk2
      · rename_i hc1
        rw [if_neg hc1]
        split at hch
        · rename_i b1 b2 h2 c2 x2 hfd
          rw [hfd]
          simp only
          split at hch
          · rename_i hcv
            rw [if_pos hcv]
            cases hch
            exact hk2
          · cases hch
        · cases hch
    · cases hch
theorem gHi {i x cM k b ci F L nY : Nat} {tl : List Nat} {As rest fs : List Value} {Mc : xi_M} (hM : Ms[y]? = some M) (hrow : xi_row M.2.2.2.2.1 pc = some (.invokevirtual i, nx, x :: cM :: k :: tl)) (hMc : Ms[cM]? = some Mc) (hst : st = As.reverse ++ .ref b :: rest) (hk : As.length = k) (hb : A[b]? = some (.inr (ci, fs))) (hc : (xi_cl[ci]?).map (·.1) = some Mc.1.cls) (hw : Nat.ble (xi_wt rest) 8 = true) (hn : Mc.2.2.1 = nY) (hwt : Nat.ble (xi_wt (.ref b :: As)) nY = true) (hh : Mc.2.2.2.2.2 = []) (hfr : F + 1 ≤ fr) (hlo : L + (19 + nY) ≤ lo) (hcal : fl_M Ms cM F L (.ref b :: As) A (gqi P W1)) (h1 : ∀ z A1, P z A1 → fl_R Ms y fr lo nx lv (.int (Int32.ofInt z) :: rest) A1 Q) (h2 : ∀ j A1, W1 j A1 → ∃ h, xi_ch M pc j A1 = some h ∧ fl_R Ms y fr lo h lv [.ref j] A1 Q) : fl_R Ms y fr lo pc lv st A Q := by
  subst hn
  obtain ⟨n, o, A1, h, hq⟩ := hcal (fr - 1) (lo - (19 + Mc.2.2.1)) (by omega) (by omega)
  have hcc : ((xi_cl[ci]?).map (·.1) = some Mc.1.cls ∧ xi_wt rest ≤ 8 ∧ 1 ≤ fr) ∧ 19 + Mc.2.2.1 ≤ lo ∧ xi_wt (.ref b :: As) ≤ Mc.2.2.1 ∧ Mc.2.2.2.2.2 = [] := ⟨⟨hc, Nat.le_of_ble_eq_true hw, by omega⟩, by omega, Nat.le_of_ble_eq_true hwt, hh⟩
  match o, hq, h with
  | .returned (some (.int w)), ⟨z, hz, hp⟩, h =>
    subst hz
    obtain ⟨n2, o2, A2, hr2, hq2⟩ := h1 z A1 hp
    have e2 : xi_go Ms (n + n2) y fr lo nx lv ((some (Value.int (Int32.ofInt z))).toList ++ rest) A1 = some (o2, A2) := by rw [Nat.add_comm]; exact xi_fuel hr2
    exact ⟨n + n2 + 1, o2, A2, xg_V hM hrow hMc hst hk hb hcc (xi_fuel (k := n2) h) e2, hq2⟩
  | .threw j, hq, h =>
    obtain ⟨hh1, hch, n2, o2, A2, hr2, hq2⟩ := h2 j A1 hq
    have e2 : xi_go Ms (n + n2) y fr lo hh1 lv [.ref j] A1 = some (o2, A2) := by rw [Nat.add_comm]; exact xi_fuel hr2
    exact ⟨n + n2 + 1, o2, A2, xg_VH hM hrow hMc hst hk hb hcc (xi_fuel (k := n2) h) hch e2, hq2⟩
  | .returned none, hq, _ => exact False.elim hq
  | .returned (some (.long _)), hq, _ => exact False.elim hq
  | .returned (some (.float _)), hq, _ => exact False.elim hq
  | .returned (some (.double _)), hq, _ => exact False.elim hq
  | .returned (some (.ref _)), hq, _ => exact False.elim hq
  | .returned (some .null), hq, _ => exact False.elim hq
  | .returned (some (.retAddr _)), hq, _ => exact False.elim hq
end GH
def rl_74 (F F' : fl_N) : Prop := F' 331 11 = 0 ∧ F' 0 12 = 0 ∧ fnd F' ∧ F' 1 1 = 0 ∧ F' 0 8 = 0 ∧ (∀ j, F' 125 j = F 125 j) ∧ dmi F' ∧ (∃ S, fs S F F' ∧ loS S = true) ∧ ((F' 0 7 = 1 ∧ F' 1 8 = 0 ∧ ∃ K ts pl ps al, dmk K F ∧ sp_dom K = .inr (ts, pl, ps, al) ∧ F' 7 0 = sp_dnm K ∧ rep (F' 9) (F' 8 2) ts ∧ rep (F' 12) (F' 11 2) pl ∧ prd F' ps ∧ pl.length = ps.length ∧ dar F' (dom_d K) ∧ ((dom_d K).length : Int) = F' 15 2 ∧ rep (F' 16) (F' 15 2) al) ∨ (F' 0 7 = 0 ∧ ∃ K e, dmk K F ∧ sp_dom K = .inl e ∧ F' 1 8 = e.1 + 10 * e.2))
theorem mh_74 {G : Nat → Nat → Option Nat} (hG : gg G) (F : fl_N) (X : xi_H) (hiv : ivq F)  : fl_M xi_ms 74 14 277 [.ref 0, .ref 386] (fl_H sh_T G F ++ X) (gqi (fun z A => ∃ (F' : fl_N) (X' : xi_H), fl_H sh_T G F' ++ X' = A ∧ (X' = X ∨ ∃ ci, X' = X ++ [gx ci]) ∧ gi F' ∧ rl_74 F F') gqn) := by
  have hgi := hiv.1
  intro fr lo hfr hlo
  show fl_R xi_ms 74 fr lo 0 [(0, .ref 0), (1, .ref 386)] [] _ _
  refine ga_aload_n (v := .ref 386) hm_74 rfl rfl rfl ?_
  refine fl_iconst hm_74 rfl ?_
  refine ga_aload_n (v := .ref 0) hm_74 rfl rfl rfl ?_
  refine gHi (nY := 1) (F := 13) (L := 257) (As := []) (b := 0) (rest := [.int (Int32.ofInt 0), .ref 386]) hm_74 rfl hm_2 rfl rfl (fl_ob sc_0) rfl rfl rfl rfl rfl (by omega) (by omega) (mc_2v hG F X hgi ) ?_ ?_
  · rintro z A1 ⟨F1, hA_, g1, s1, c1, c2, c3, c4, c5, c6, c7, c8⟩
    subst hA_
    refine ga_lany hm_74 rfl rfl rfl (fun w ⟨hw1, hw2⟩ => ?_)
    refine fl_last (z := 0) (v := w) hm_74 rfl sc_386 (by omega) (by omega) (by omega) ?_
    refine fl_goto hm_74 rfl ?_
    refine fl_iconst hm_74 rfl ?_
    refine gr_i (z := 0) hm_74 rfl rfl rfl ?_
    have hu := u386 (F := F1) (w := w)
    obtain ⟨K, ts, pl, ps, al, k1, k2, k3, k4, k5, k6, k7, k8, k9, k10, k11⟩ := c1
    have hb15 : 0 ≤ F1 15 2 ∧ F1 15 2 ≤ 5 := gi_g g1 rfl
    have hb11 : 0 ≤ F1 11 2 ∧ F1 11 2 ≤ 6 := gi_g g1 rfl
    have hk6 := k6.1
    exact ⟨_, X, rfl, Or.inl rfl, gi_u g1 rfl (by omega) (by omega), (hu 331 11 rfl).trans c5, (hu 0 12 rfl).trans c8, (fun h9 => absurd h9 (by rw [hu 331 11 rfl, c5]; decide)), (hu 1 1 rfl).trans c2, (hu 0 8 rfl).trans c7, (fun j => (hu 125 j (fs_c rfl)).trans (s1 125 j (fs_c rfl))), dmi_fs c4 g1 hu rfl rfl (fun r k hr => fs_rg (a := 39) (b := 103) rfl r k hr), lo_386 s1 rfl, Or.inl ⟨(hu 0 7 rfl).trans c3, (hu 1 8 rfl).trans c6, K, ts, pl, ps, al, k1, k2, (hu 7 0 rfl).trans k4, rep_f8 k5 hu (fun j => fs_c rfl) rfl, rep_f8 k6 hu (fun j => fs_c rfl) rfl, prd_fs k7 hu (fun r k hr => fs_rg (a := 21) (b := 38) rfl r k ⟨hr.1, by omega⟩), k8, dar_fs k9 hu (fun r k hr => fs_rg (a := 39) (b := 103) rfl r k ⟨hr.1, by omega⟩), by rw [hu 15 2 rfl]; exact k10, rep_f8 k11 hu (fun j => fs_c rfl) rfl⟩⟩
  · rintro j A1 ⟨F1, ⟨hJ_, hA_⟩, g1, s1, c1, c2, c3, c4, c5, c6⟩
    subst hA_
    subst hJ_
    refine ⟨11, xi_ch_a rfl gx_at rfl, ?_⟩
    refine ga_astore_n (lv2 := [(2, .ref (387 + X.length)), (0, .ref 0), (1, .ref 386)]) hm_74 rfl (Nat.le_of_ble_eq_true rfl) rfl ?_
    refine fl_iconst hm_74 rfl ?_
    refine gr_i (z := 1) hm_74 rfl rfl rfl ?_
    obtain ⟨K, e, k1, k2, k3⟩ := c1
    exact ⟨F1, _, rfl, Or.inr ⟨_, rfl⟩, g1, c4, c6, (fun h9 => absurd h9 (by rw [c4]; decide)), c2, c5, (fun j => s1 125 j (fs_c rfl)), (fun h9 => absurd h9 (by rw [c3]; decide)), ⟨_, s1, rfl⟩, Or.inr ⟨c3, K, e, k1, k2, k3⟩⟩
def rl_75 (z : Int) (nm : Int) (ts pl : List Int) (ps : List (List Int)) (D : List ad_T) (F F' : fl_N) : Prop := ((F 0 7 = 0 → F' = F) ∧ (¬ F 0 7 = 0 → F' 331 11 = 0 ∧ F' 0 12 = 0) ∧ ∀ j, F' 339 j = F 339 j) ∧ ivA F' ∧ (∃ S, fs S F F' ∧ loS S = true) ∧ F' 0 7 = F 0 7 ∧ (¬ z = 0 → F' 0 8 = (if F 0 7 = 0 then F 0 8 else 0)) ∧ (z = 0 → F' 0 8 = 1 ∧ F' 0 10 = 0) ∧ (∀ r k, (7 ≤ r ∧ r ≤ 13) ∨ (21 ≤ r ∧ r ≤ 38) ∨ (15 ≤ r ∧ r ≤ 16) ∨ (39 ≤ r ∧ r ≤ 103) ∨ (125 ≤ r ∧ r ≤ 125) → F' r k = F r k) ∧ ((F 0 7 = 0 ∧ z = 1 ∧ F' 1 1 = F 1 1 ∧ (∀ j, F' 2 j = F 2 j) ∧ F' 1 8 = F 1 8) ∨ (F 0 7 = 1 ∧ F' 1 1 = 0 ∧ ((∃ K e, dmk K F ∧ sp_prb K nm ts pl ps = .inl e ∧ F' 1 8 = e.1 + 10 * e.2 ∧ z = 2) ∨ (F' 1 8 = 0 ∧ ∃ K l tl, dmk K F ∧ sp_prb K nm ts pl ps = .inr (l, tl) ∧ ((z = 3 ∧ (40 < nfc ps tl 216 ∨ 40 < (stP tl D D.length).length)) ∨ (z = 0 ∧ nfc ps tl 216 ≤ 40 ∧ (stP tl D D.length).length ≤ 40 ∧ F' 386 0 = (Int32.ofInt ((stP tl D D.length).length : Int)).toInt ∧ pbC F' ps tl D (prb_i K nm ts pl ps) (prb_g K nm ts pl ps) ∧ tl.length ≤ 6 ∧ rep (F' 106) (F' 105 2) l))))))
theorem mh_75 {G : Nat → Nat → Option Nat} (hG : gg G) (F : fl_N) (X : xi_H) (hiv : ivq F) (nm : Int) (ts pl : List Int) (ps : List (List Int)) (hnm : F 7 0 = nm) (hts : rep (F 9) (F 8 2) ts) (hpl : rep (F 12) (F 11 2) pl) (hps : prd F ps) (hpn : pl.length = ps.length) (D : List ad_T) (hDD : F 0 7 = 1 → dar F D ∧ (D.length : Int) = F 15 2) : fl_M xi_ms 75 13 255 [.ref 0, .ref 386] (fl_H sh_T G F ++ X) (gqi (fun z A => ∃ (F' : fl_N) (X' : xi_H), fl_H sh_T G F' ++ X' = A ∧ (X' = X ∨ ∃ ci, X' = X ++ [gx ci]) ∧ gi F' ∧ rl_75 z nm ts pl ps D F F') gqn) := by
  have hgi := hiv.1
  intro fr lo hfr hlo
  show fl_R xi_ms 75 fr lo 0 [(0, .ref 0), (1, .ref 386)] [] _ _
  refine ga_aload_n (v := .ref 386) hm_75 rfl rfl rfl ?_
  refine fl_iconst hm_75 rfl ?_
  refine ga_aload_n (v := .ref 0) hm_75 rfl rfl rfl ?_
  refine gHi (nY := 1) (F := 12) (L := 235) (As := []) (b := 0) (rest := [.int (Int32.ofInt 0), .ref 386]) hm_75 rfl hm_3 rfl rfl (fl_ob sc_0) rfl rfl rfl rfl rfl (by omega) (by omega) (mc_3v hG F X hgi nm ts pl ps D hiv.2.1.1 hiv.2.1.2 hnm hts hpl hps hpn hDD) ?_ ?_
  · rintro z A1 ⟨F1, hA_, g1, s1, c1, c2, c3, c4, c5, c6, c7⟩
    subst hA_
    obtain ⟨w, hw0, hw9⟩ : ∃ w : Int, Int32.ofInt z = Int32.ofInt w ∧ w = (Int32.ofInt z).toInt := ⟨_, (Int32.ofInt_toInt _).symm, rfl⟩
    have hwr : fl_i w := by
      rw [hw9]
      exact ⟨by have h := Int32.le_toInt (Int32.ofInt z); omega, by have h := Int32.toInt_lt (Int32.ofInt z); omega⟩
    obtain ⟨hw1, hw2⟩ := hwr
    rw [hw0]
    refine ga_i2l (z := w) hm_75 rfl ⟨hw1, hw2⟩ ?_
    obtain ⟨K, l, tl, k1, k2, k3, k4, k7, k8⟩ := c4
    have k5 := k4.1.2
    have k6 := k4.2.2.1
    refine fl_last (z := 0) (v := w) hm_75 rfl sc_386 (by omega) (by omega) (by omega) ?_
    refine fl_goto hm_75 rfl ?_
    refine fl_iconst hm_75 rfl ?_
    refine gr_i (z := 0) hm_75 rfl rfl rfl ?_
    have hu := u386 (F := F1) (w := w)
    exact ⟨_, X, rfl, Or.inl rfl, gi_u g1 rfl (by omega) (by omega), ⟨fun h9 => absurd (h9.symm.trans c2.1) (by decide), fun _ => ⟨(hu 331 11 rfl).trans c7.1, (hu 0 12 rfl).trans c7.2⟩, fun j => (hu 339 j (fs_c rfl)).trans (s1 339 j (fs_c rfl))⟩, ⟨fnd_cg c3 (hu _ _ rfl) (hu _ _ rfl), dmi_fs (dmi_fs hiv.2.1.2 hgi s1 rfl rfl (fun r k hr => fs_rg (a := 39) (b := 103) rfl r k hr)) g1 hu rfl rfl (fun r k hr => fs_rg (a := 39) (b := 103) rfl r k hr)⟩, lo_386 s1 rfl, (hu 0 7 rfl).trans (s1 0 7 rfl), (fun h9 => absurd rfl h9), (fun _ => ⟨(hu 0 8 rfl).trans c6.1, (hu 0 10 rfl).trans c6.2⟩), (fun r k hr => (hu r k (by rcases hr with hr | hr | hr | hr | hr; exact fs_rg (a := 7) (b := 13) rfl r k hr; exact fs_rg (a := 21) (b := 38) rfl r k hr; exact fs_rg (a := 15) (b := 16) rfl r k hr; exact fs_rg (a := 39) (b := 103) rfl r k hr; exact fs_rg (a := 125) (b := 125) rfl r k hr)).trans (s1 r k (by rcases hr with hr | hr | hr | hr | hr; exact fs_rg (a := 7) (b := 13) rfl r k hr; exact fs_rg (a := 21) (b := 38) rfl r k hr; exact fs_rg (a := 15) (b := 16) rfl r k hr; exact fs_rg (a := 39) (b := 103) rfl r k hr; exact fs_rg (a := 125) (b := 125) rfl r k hr))), Or.inr ⟨c2.1, (hu 1 1 rfl).trans c2.2, Or.inr ⟨(hu 1 8 rfl).trans c5, K, l, tl, k1, k2, Or.inr ⟨rfl, k5, by omega, by rw [← k3, ← hw9]; exact fl_u_eq, pbC_cg k4 (fun r k hr => hu r k (fs_rg (a := 120) (b := 330) rfl r k hr)), k7, rep_f8 k8 hu (fun j => fs_c rfl) rfl⟩⟩⟩⟩
  · rintro j A1 ⟨F1, ci, hci, ⟨hJ_, hA_⟩, g1, s1, c2, c3, c4, c5, c7⟩
    subst hA_
    subst hJ_
    have hcc : ∀ v : Int, (ci = 15 → v = 1) → (ci = 14 → v = 2) → (ci = 16 → v = 3) → ((F 0 7 = 0 ∧ v = 1 ∧ F1 1 1 = F 1 1 ∧ (∀ j, F1 2 j = F 2 j) ∧ F1 1 8 = F 1 8) ∨ (F 0 7 = 1 ∧ F1 1 1 = 0 ∧ ((∃ K e, dmk K F ∧ sp_prb K nm ts pl ps = .inl e ∧ F1 1 8 = e.1 + 10 * e.2 ∧ v = 2) ∨ (F1 1 8 = 0 ∧ ∃ K l tl, dmk K F ∧ sp_prb K nm ts pl ps = .inr (l, tl) ∧ ((v = 3 ∧ (40 < nfc ps tl 216 ∨ 40 < (stP tl D D.length).length)) ∨ (v = 0 ∧ nfc ps tl 216 ≤ 40 ∧ (stP tl D D.length).length ≤ 40 ∧ F1 386 0 = (Int32.ofInt ((stP tl D D.length).length : Int)).toInt ∧ pbC F1 ps tl D (prb_i K nm ts pl ps) (prb_g K nm ts pl ps) ∧ tl.length ≤ 6 ∧ rep (F1 106) (F1 105 2) l)))))) := by
      intro v v1 v2 v3
      rcases c2 with ⟨p1, p2⟩ | ⟨p1, p2⟩
      · rcases c4 with ⟨q1, q2, q3⟩ | ⟨q1, -⟩ | ⟨q1, -⟩
        · exact Or.inl ⟨p1, v1 q2, p2, fun j => s1 _ _ (fs_c rfl), q3⟩
        · exact absurd (p1.symm.trans q1) (by decide)
        · exact absurd (p1.symm.trans q1) (by decide)
      · rcases c4 with ⟨q1, -⟩ | ⟨q1, q2, K, e, q3, q4, q5⟩ | ⟨q1, q2, q3, K, l, tl, q4, q5, q6⟩
        · exact absurd (q1.symm.trans p1) (by decide)
        · exact Or.inr ⟨p1, p2, Or.inl ⟨K, e, q3, q4, q5, v2 q2⟩⟩
        · exact Or.inr ⟨p1, p2, Or.inr ⟨q3, K, l, tl, q4, q5, Or.inl ⟨v3 q2, q6⟩⟩⟩
    have hst : ∀ r k, (7 ≤ r ∧ r ≤ 13) ∨ (21 ≤ r ∧ r ≤ 38) ∨ (15 ≤ r ∧ r ≤ 16) ∨ (39 ≤ r ∧ r ≤ 103) ∨ (125 ≤ r ∧ r ≤ 125) → F1 r k = F r k := fun r k hr => s1 r k (by rcases hr with hr | hr | hr | hr | hr; exact fs_rg (a := 7) (b := 13) rfl r k hr; exact fs_rg (a := 21) (b := 38) rfl r k hr; exact fs_rg (a := 15) (b := 16) rfl r k hr; exact fs_rg (a := 39) (b := 103) rfl r k hr; exact fs_rg (a := 125) (b := 125) rfl r k hr)
    rcases hci with rfl | rfl | rfl
    ·
      refine ⟨11, xi_ch_a rfl gx_at rfl, ?_⟩
      refine ga_astore_n (lv2 := [(2, .ref (387 + X.length)), (0, .ref 0), (1, .ref 386)]) hm_75 rfl (Nat.le_of_ble_eq_true rfl) rfl ?_
      refine fl_iconst hm_75 rfl ?_
      refine gr_i (z := 1) hm_75 rfl rfl rfl ?_
      exact ⟨F1, _, rfl, Or.inr ⟨_, rfl⟩, g1, ⟨c7.1, c7.2, fun j => s1 339 j (fs_c rfl)⟩, ⟨c3, dmi_fs hiv.2.1.2 hgi s1 rfl rfl (fun r k hr => fs_rg (a := 39) (b := 103) rfl r k hr)⟩, ⟨_, s1, rfl⟩, s1 0 7 rfl, (fun _ => c5), (fun h9 => absurd h9 (by decide)), hst, hcc 1 (fun _ => rfl) (fun h9 => absurd h9 (by decide)) (fun h9 => absurd h9 (by decide))⟩
    ·
      refine ⟨14, xi_ch_b rfl gx_at rfl rfl rfl, ?_⟩
      refine ga_astore_n (lv2 := [(2, .ref (387 + X.length)), (0, .ref 0), (1, .ref 386)]) hm_75 rfl (Nat.le_of_ble_eq_true rfl) rfl ?_
      refine fl_iconst hm_75 rfl ?_
      refine gr_i (z := 2) hm_75 rfl rfl rfl ?_
      exact ⟨F1, _, rfl, Or.inr ⟨_, rfl⟩, g1, ⟨c7.1, c7.2, fun j => s1 339 j (fs_c rfl)⟩, ⟨c3, dmi_fs hiv.2.1.2 hgi s1 rfl rfl (fun r k hr => fs_rg (a := 39) (b := 103) rfl r k hr)⟩, ⟨_, s1, rfl⟩, s1 0 7 rfl, (fun _ => c5), (fun h9 => absurd h9 (by decide)), hst, hcc 2 (fun h9 => absurd h9 (by decide)) (fun _ => rfl) (fun h9 => absurd h9 (by decide))⟩
    ·
      refine ⟨17, xi_ch_b rfl gx_at rfl rfl rfl, ?_⟩
      refine ga_astore_n (lv2 := [(2, .ref (387 + X.length)), (0, .ref 0), (1, .ref 386)]) hm_75 rfl (Nat.le_of_ble_eq_true rfl) rfl ?_
      refine fl_iconst hm_75 rfl ?_
      refine gr_i (z := 3) hm_75 rfl rfl rfl ?_
      exact ⟨F1, _, rfl, Or.inr ⟨_, rfl⟩, g1, ⟨c7.1, c7.2, fun j => s1 339 j (fs_c rfl)⟩, ⟨c3, dmi_fs hiv.2.1.2 hgi s1 rfl rfl (fun r k hr => fs_rg (a := 39) (b := 103) rfl r k hr)⟩, ⟨_, s1, rfl⟩, s1 0 7 rfl, (fun _ => c5), (fun h9 => absurd h9 (by decide)), hst, hcc 3 (fun h9 => absurd h9 (by decide)) (fun h9 => absurd h9 (by decide)) (fun _ => rfl)⟩
def rl_76 (mo z : Int) (F F' : fl_N) : Prop := ((z = 1 ∧ F 0 8 = 0 ∧ (F' 331 11 = F 331 11 ∧ F' 335 200 = F 335 200 ∧ (∀ j, F' 339 j = F 339 j)) ∧ F' 0 12 = F 0 12 ∧ (∀ j, F' 343 j = F 343 j)) ∨ (z = 2 ∧ F 0 8 = 1 ∧ ¬ (1 ≤ mo ∧ mo ≤ 200) ∧ (F' 331 11 = F 331 11 ∧ F' 335 200 = F 335 200 ∧ (∀ j, F' 339 j = F 339 j)) ∧ F' 0 12 = F 0 12 ∧ (∀ j, F' 343 j = F 343 j)) ∨ (z = 3 ∧ F 0 8 = 1 ∧ (1 ≤ mo ∧ mo ≤ 200) ∧ plF F mo 3 0 [] ∧ plL F' 3 0 [] ∧ F' 0 12 = 0) ∨ (z = 0 ∧ F 0 8 = 1 ∧ (1 ≤ mo ∧ mo ≤ 200) ∧ ∃ v w, F' 386 0 = (Int32.ofInt v).toInt ∧ plF F mo 0 v w ∧ plL F' 0 v w ∧ ((¬ F' 331 11 = 1 ∧ F' 0 12 = 0) ∨ (F' 331 11 = 1 ∧ rep (F' 343) (F' 0 12) (pTx F' (F' 335 200).toNat) ∧ ∀ j : Nat, (j : Int) < F' 335 200 → 0 ≤ F' 339 j ∧ F' 339 j < F 120 3)))) ∧ stC F F' ∧ rC F F' ∧ kE F F'
theorem mh_76 {G : Nat → Nat → Option Nat} (hG : gg G) (F : fl_N) (X : xi_H) (hiv : ivq F) (mo : Int) (hmo : -2147483648 ≤ mo ∧ mo ≤ 2147483647) (hE : ivE F) : fl_M xi_ms 76 8 167 [.ref 0, .int (Int32.ofInt mo), .ref 386] (fl_H sh_T G F ++ X) (gqi (fun z A => ∃ (F' : fl_N) (X' : xi_H), fl_H sh_T G F' ++ X' = A ∧ (X' = X ∨ ∃ ci, X' = X ++ [gx ci]) ∧ gi F' ∧ rl_76 mo z F F') gqn) := by
  have hgi := hiv.1
  intro fr lo hfr hlo
  show fl_R xi_ms 76 fr lo 0 [(0, .ref 0), (1, .int (Int32.ofInt mo)), (2, .ref 386)] [] _ _
  refine ga_aload_n (v := .ref 386) hm_76 rfl rfl rfl ?_
  refine fl_iconst hm_76 rfl ?_
  refine ga_aload_n (v := .ref 0) hm_76 rfl rfl rfl ?_
  refine ga_iload_n (z := mo) hm_76 rfl rfl ?_
  refine gHi (nY := 3) (F := 7) (L := 145) (As := [.int (Int32.ofInt mo)]) (b := 0) (rest := [.int (Int32.ofInt 0), .ref 386]) hm_76 rfl hm_5 rfl rfl (fl_ob sc_0) rfl rfl rfl rfl rfl (by omega) (by omega) (mc_5v hG F X hgi mo (F 357) hiv.2.1.1 hmo (hpa_iv hiv) (fun h8 s hs => (hE.2 h8 s hs).1)) ?_ ?_
  · rintro z A1 ⟨F1, hA_, g1, s1, c1, c2, c3, c4⟩
    subst hA_
    obtain ⟨v_, hv0, hv9⟩ : ∃ v_ : Int, Int32.ofInt z = Int32.ofInt v_ ∧ v_ = (Int32.ofInt z).toInt := ⟨_, (Int32.ofInt_toInt _).symm, rfl⟩
    have hvr : fl_i v_ := by
      rw [hv9]
      exact ⟨by have h := Int32.le_toInt (Int32.ofInt z); omega, by have h := Int32.toInt_lt (Int32.ofInt z); omega⟩
    obtain ⟨hv1, hv2⟩ := hvr
    rw [hv0]
    refine ga_i2l (z := v_) hm_76 rfl ⟨hv1, hv2⟩ ?_
    refine fl_last (z := 0) (v := v_) hm_76 rfl sc_386 (by omega) (by omega) (by omega) ?_
    refine fl_goto hm_76 rfl ?_
    refine fl_iconst hm_76 rfl ?_
    refine gr_i (z := 0) hm_76 rfl rfl rfl ?_
    obtain ⟨c31, c32, ww, c33, c34⟩ := c3
    have hu := u386 (F := F1) (w := v_)
    have hb3 : 0 ≤ F 120 3 ∧ F 120 3 ≤ 41 := gi_g hgi rfl
    have c5 : ((¬ (fl_u F1 386 (0 : Int).toNat v_) 331 11 = 1 ∧ (fl_u F1 386 (0 : Int).toNat v_) 0 12 = 0) ∨ ((fl_u F1 386 (0 : Int).toNat v_) 331 11 = 1 ∧ rep ((fl_u F1 386 (0 : Int).toNat v_) 343) ((fl_u F1 386 (0 : Int).toNat v_) 0 12) (pTx (fl_u F1 386 (0 : Int).toNat v_) ((fl_u F1 386 (0 : Int).toNat v_) 335 200).toNat) ∧ ∀ j : Nat, (j : Int) < (fl_u F1 386 (0 : Int).toNat v_) 335 200 → 0 ≤ (fl_u F1 386 (0 : Int).toNat v_) 339 j ∧ (fl_u F1 386 (0 : Int).toNat v_) 339 j < F 120 3)) := by
      rcases c4 with ⟨p1, p2⟩ | ⟨p1, p2, p3⟩
      · exact Or.inl ⟨by rw [hu 331 11 rfl]; exact p1, (hu 0 12 rfl).trans p2⟩
      · refine Or.inr ⟨(hu 331 11 rfl).trans p1, ?_, fun j hj => by rw [hu 339 j (fs_c rfl)]; exact p3 j (by rw [← hu 335 200 rfl]; exact hj)⟩
        rw [hu 335 200 rfl, pTx_cg (F := F1) (n := F 120 3) (fun k => hu 16 k (fs_c rfl)) (fun k => hu 106 k (fs_c rfl)) (fun r k h1 h2 => hu r k (fs_rg (a := 126) (b := 330) rfl r k ⟨h1, by omega⟩)) (fun j => hu 339 j (fs_c rfl)) hb3.2 _ (fun j hj => p3 j (by omega))]
        exact ⟨by rw [hu 0 12 rfl]; exact p2.1, fun j y hy => by rw [hu 343 j (fs_c rfl)]; exact p2.2 j y hy⟩
    exact ⟨_, X, rfl, Or.inl rfl, gi_u g1 rfl (by omega) (by omega), ⟨Or.inr (Or.inr (Or.inr ⟨rfl, c31, c32, z, ww, by rw [← hv9]; exact fl_u_eq, c33, plL_cg c34 (u386 (F := F1) (w := v_) 331 11 rfl) (u386 (F := F1) (w := v_) 335 200 rfl) (fun j => u386 (F := F1) (w := v_) 339 j (fs_c rfl)), c5⟩)), stC_386 (show stC F F1 from ⟨g1, ⟨c2, dmi_fs hiv.2.1.2 hgi s1 rfl rfl (fun r k hr => fs_rg (a := 39) (b := 103) rfl r k hr)⟩, ⟨_, s1, rfl, rfl⟩, s1 _ _ rfl, s1 _ _ rfl, fun j => s1 _ _ (fs_c rfl)⟩) (by omega) (by omega), ⟨⟨((u386 (F := F1) (w := v_) 0 8 rfl)).trans (s1 0 8 rfl), ((u386 (F := F1) (w := v_) 0 10 rfl)).trans (s1 0 10 rfl), fun j => ((u386 (F := F1) (w := v_) 342 j (fs_c rfl))).trans (s1 342 j (fs_c rfl))⟩, ((u386 (F := F1) (w := v_) 344 60 rfl)).trans (s1 344 60 rfl), fun j => ((u386 (F := F1) (w := v_) 382 j (fs_c rfl))).trans (s1 382 j (fs_c rfl)), ((u386 (F := F1) (w := v_) 120 3 rfl)).trans (s1 120 3 rfl)⟩, ⟨fun r j hr => (by rcases hr with rfl | rfl | hr; exact ((u386 (F := F1) (w := v_) 16 j (fs_c rfl))).trans (s1 16 j (fs_c rfl)); exact ((u386 (F := F1) (w := v_) 106 j (fs_c rfl))).trans (s1 106 j (fs_c rfl)); exact ((u386 (F := F1) (w := v_) r j (fs_rg (a := 126) (b := 330) rfl r j hr))).trans (s1 r j (fs_rg (a := 126) (b := 330) rfl r j hr))), fun r j hr => (by rcases hr with rfl | rfl | rfl | rfl | rfl; exact ((u386 (F := F1) (w := v_) 353 j (fs_c rfl))).trans (s1 353 j (fs_c rfl)); exact ((u386 (F := F1) (w := v_) 354 j (fs_c rfl))).trans (s1 354 j (fs_c rfl)); exact ((u386 (F := F1) (w := v_) 364 j (fs_c rfl))).trans (s1 364 j (fs_c rfl)); exact ((u386 (F := F1) (w := v_) 367 j (fs_c rfl))).trans (s1 367 j (fs_c rfl)); exact ((u386 (F := F1) (w := v_) 368 j (fs_c rfl))).trans (s1 368 j (fs_c rfl))), ((u386 (F := F1) (w := v_) 0 7 rfl)).trans (s1 0 7 rfl), ((u386 (F := F1) (w := v_) 0 8 rfl)).trans (s1 0 8 rfl), ((u386 (F := F1) (w := v_) 15 2 rfl)).trans (s1 15 2 rfl), ((u386 (F := F1) (w := v_) 120 3 rfl)).trans (s1 120 3 rfl), ((u386 (F := F1) (w := v_) 344 21 rfl)).trans (s1 344 21 rfl)⟩⟩⟩
  · rintro j A1 ⟨F1, ci, hci, ⟨hJ_, hA_⟩, g1, s1, c2, c3, c4⟩
    subst hA_
    subst hJ_
    rcases hci with rfl | rfl | rfl
    ·
      refine ⟨12, xi_ch_a rfl gx_at rfl, ?_⟩
      refine ga_astore_n (lv2 := [(3, .ref (387 + X.length)), (0, .ref 0), (1, .int (Int32.ofInt mo)), (2, .ref 386)]) hm_76 rfl (Nat.le_of_ble_eq_true rfl) rfl ?_
      refine fl_iconst hm_76 rfl ?_
      refine gr_i (z := 1) hm_76 rfl rfl rfl ?_
      exact ⟨F1, _, rfl, Or.inr ⟨_, rfl⟩, g1, ⟨Or.inl ⟨rfl, by rcases c3 with c | c | c; exact ⟨c.2.1, ⟨c.2.2.1, c.2.2.2.1, c.2.2.2.2⟩, (c4.1 (by decide)).1, (c4.1 (by decide)).2⟩; exact absurd c.1 (by decide); exact absurd c.1 (by decide)⟩, (show stC F F1 from ⟨g1, ⟨c2, dmi_fs hiv.2.1.2 hgi s1 rfl rfl (fun r k hr => fs_rg (a := 39) (b := 103) rfl r k hr)⟩, ⟨_, s1, rfl, rfl⟩, s1 _ _ rfl, s1 _ _ rfl, fun j => s1 _ _ (fs_c rfl)⟩), ⟨⟨s1 0 8 rfl, s1 0 10 rfl, fun j => s1 342 j (fs_c rfl)⟩, s1 344 60 rfl, fun j => s1 382 j (fs_c rfl), s1 120 3 rfl⟩, ⟨fun r j hr => (by rcases hr with rfl | rfl | hr; exact s1 16 j (fs_c rfl); exact s1 106 j (fs_c rfl); exact s1 r j (fs_rg (a := 126) (b := 330) rfl r j hr)), fun r j hr => (by rcases hr with rfl | rfl | rfl | rfl | rfl; exact s1 353 j (fs_c rfl); exact s1 354 j (fs_c rfl); exact s1 364 j (fs_c rfl); exact s1 367 j (fs_c rfl); exact s1 368 j (fs_c rfl)), s1 0 7 rfl, s1 0 8 rfl, s1 15 2 rfl, s1 120 3 rfl, s1 344 21 rfl⟩⟩⟩
    ·
      refine ⟨15, xi_ch_b rfl gx_at rfl rfl rfl, ?_⟩
      refine ga_astore_n (lv2 := [(3, .ref (387 + X.length)), (0, .ref 0), (1, .int (Int32.ofInt mo)), (2, .ref 386)]) hm_76 rfl (Nat.le_of_ble_eq_true rfl) rfl ?_
      refine fl_iconst hm_76 rfl ?_
      refine gr_i (z := 2) hm_76 rfl rfl rfl ?_
      exact ⟨F1, _, rfl, Or.inr ⟨_, rfl⟩, g1, ⟨Or.inr (Or.inl ⟨rfl, by rcases c3 with c | c | c; exact absurd c.1 (by decide); exact ⟨c.2.1, c.2.2.1, ⟨c.2.2.2.1, c.2.2.2.2.1, c.2.2.2.2.2⟩, (c4.1 (by decide)).1, (c4.1 (by decide)).2⟩; exact absurd c.1 (by decide)⟩), (show stC F F1 from ⟨g1, ⟨c2, dmi_fs hiv.2.1.2 hgi s1 rfl rfl (fun r k hr => fs_rg (a := 39) (b := 103) rfl r k hr)⟩, ⟨_, s1, rfl, rfl⟩, s1 _ _ rfl, s1 _ _ rfl, fun j => s1 _ _ (fs_c rfl)⟩), ⟨⟨s1 0 8 rfl, s1 0 10 rfl, fun j => s1 342 j (fs_c rfl)⟩, s1 344 60 rfl, fun j => s1 382 j (fs_c rfl), s1 120 3 rfl⟩, ⟨fun r j hr => (by rcases hr with rfl | rfl | hr; exact s1 16 j (fs_c rfl); exact s1 106 j (fs_c rfl); exact s1 r j (fs_rg (a := 126) (b := 330) rfl r j hr)), fun r j hr => (by rcases hr with rfl | rfl | rfl | rfl | rfl; exact s1 353 j (fs_c rfl); exact s1 354 j (fs_c rfl); exact s1 364 j (fs_c rfl); exact s1 367 j (fs_c rfl); exact s1 368 j (fs_c rfl)), s1 0 7 rfl, s1 0 8 rfl, s1 15 2 rfl, s1 120 3 rfl, s1 344 21 rfl⟩⟩⟩
    ·
      refine ⟨18, xi_ch_b rfl gx_at rfl rfl rfl, ?_⟩
      refine ga_astore_n (lv2 := [(3, .ref (387 + X.length)), (0, .ref 0), (1, .int (Int32.ofInt mo)), (2, .ref 386)]) hm_76 rfl (Nat.le_of_ble_eq_true rfl) rfl ?_
      refine fl_iconst hm_76 rfl ?_
      refine gr_i (z := 3) hm_76 rfl rfl rfl ?_
      exact ⟨F1, _, rfl, Or.inr ⟨_, rfl⟩, g1, ⟨Or.inr (Or.inr (Or.inl ⟨rfl, by rcases c3 with c | c | c; exact absurd c.1 (by decide); exact absurd c.1 (by decide); exact ⟨c.2.1, c.2.2.1, c.2.2.2.1, c.2.2.2.2, c4.2 rfl⟩⟩)), (show stC F F1 from ⟨g1, ⟨c2, dmi_fs hiv.2.1.2 hgi s1 rfl rfl (fun r k hr => fs_rg (a := 39) (b := 103) rfl r k hr)⟩, ⟨_, s1, rfl, rfl⟩, s1 _ _ rfl, s1 _ _ rfl, fun j => s1 _ _ (fs_c rfl)⟩), ⟨⟨s1 0 8 rfl, s1 0 10 rfl, fun j => s1 342 j (fs_c rfl)⟩, s1 344 60 rfl, fun j => s1 382 j (fs_c rfl), s1 120 3 rfl⟩, ⟨fun r j hr => (by rcases hr with rfl | rfl | hr; exact s1 16 j (fs_c rfl); exact s1 106 j (fs_c rfl); exact s1 r j (fs_rg (a := 126) (b := 330) rfl r j hr)), fun r j hr => (by rcases hr with rfl | rfl | rfl | rfl | rfl; exact s1 353 j (fs_c rfl); exact s1 354 j (fs_c rfl); exact s1 364 j (fs_c rfl); exact s1 367 j (fs_c rfl); exact s1 368 j (fs_c rfl)), s1 0 7 rfl, s1 0 8 rfl, s1 15 2 rfl, s1 120 3 rfl, s1 344 21 rfl⟩⟩⟩
def rl_77 (z : Int) (F F' : fl_N) : Prop := ((z = 1 ∧ ¬ F 331 11 = 1) ∨ (z = 0 ∧ F 331 11 = 1 ∧ F' 386 0 = (Int32.ofInt (F 335 200)).toInt)) ∧ stC F F' ∧ rP F F'
theorem mh_77 {G : Nat → Nat → Option Nat} (hG : gg G) (F : fl_N) (X : xi_H) (hiv : ivq F)  : fl_M xi_ms 77 7 120 [.ref 0, .ref 386] (fl_H sh_T G F ++ X) (gqi (fun z A => ∃ (F' : fl_N) (X' : xi_H), fl_H sh_T G F' ++ X' = A ∧ (X' = X ∨ ∃ ci, X' = X ++ [gx ci]) ∧ gi F' ∧ rl_77 z F F') gqn) := by
  have hgi := hiv.1
  intro fr lo hfr hlo
  show fl_R xi_ms 77 fr lo 0 [(0, .ref 0), (1, .ref 386)] [] _ _
  refine ga_aload_n (v := .ref 386) hm_77 rfl rfl rfl ?_
  refine fl_iconst hm_77 rfl ?_
  refine ga_aload_n (v := .ref 0) hm_77 rfl rfl rfl ?_
  refine gHi (nY := 1) (F := 6) (L := 100) (As := []) (b := 0) (rest := [.int (Int32.ofInt 0), .ref 386]) hm_77 rfl hm_6 rfl rfl (fl_ob sc_0) rfl rfl rfl rfl rfl (by omega) (by omega) (mc_6v hG F X hgi ) ?_ ?_
  · rintro z A1 ⟨F1, hA_, g1, s1, c1, c2⟩
    subst hA_
    obtain ⟨v_, hv0, hv9⟩ : ∃ v_ : Int, Int32.ofInt z = Int32.ofInt v_ ∧ v_ = (Int32.ofInt z).toInt := ⟨_, (Int32.ofInt_toInt _).symm, rfl⟩
    have hvr : fl_i v_ := by
      rw [hv9]
      exact ⟨by have h := Int32.le_toInt (Int32.ofInt z); omega, by have h := Int32.toInt_lt (Int32.ofInt z); omega⟩
    obtain ⟨hv1, hv2⟩ := hvr
    rw [hv0]
    refine ga_i2l (z := v_) hm_77 rfl ⟨hv1, hv2⟩ ?_
    refine fl_last (z := 0) (v := v_) hm_77 rfl sc_386 (by omega) (by omega) (by omega) ?_
    refine fl_goto hm_77 rfl ?_
    refine fl_iconst hm_77 rfl ?_
    refine gr_i (z := 0) hm_77 rfl rfl rfl ?_
    exact ⟨_, X, rfl, Or.inl rfl, gi_u g1 rfl (by omega) (by omega), ⟨Or.inr ⟨rfl, c2.1, by rw [← c2.2, ← hv9]; exact fl_u_eq⟩, stC_386 (show stC F F1 from ⟨g1, ⟨fnd_cg hiv.2.1.1 (s1 _ _ rfl) (s1 _ _ rfl), dmi_fs hiv.2.1.2 hgi s1 rfl rfl (fun r k hr => fs_rg (a := 39) (b := 103) rfl r k hr)⟩, ⟨_, s1, rfl, rfl⟩, s1 _ _ rfl, s1 _ _ rfl, fun j => s1 _ _ (fs_c rfl)⟩) (by omega) (by omega), ⟨⟨((u386 (F := F1) (w := v_) 0 8 rfl)).trans (s1 0 8 rfl), ((u386 (F := F1) (w := v_) 0 10 rfl)).trans (s1 0 10 rfl), fun j => ((u386 (F := F1) (w := v_) 342 j (fs_c rfl))).trans (s1 342 j (fs_c rfl))⟩, ((u386 (F := F1) (w := v_) 344 60 rfl)).trans (s1 344 60 rfl), fun j => ((u386 (F := F1) (w := v_) 382 j (fs_c rfl))).trans (s1 382 j (fs_c rfl)), ((u386 (F := F1) (w := v_) 120 3 rfl)).trans (s1 120 3 rfl), ⟨⟨((u386 (F := F1) (w := v_) 331 11 rfl)).trans (s1 331 11 rfl), ((u386 (F := F1) (w := v_) 335 200 rfl)).trans (s1 335 200 rfl), fun j => ((u386 (F := F1) (w := v_) 339 j (fs_c rfl))).trans (s1 339 j (fs_c rfl))⟩, ((u386 (F := F1) (w := v_) 344 13 rfl)).trans (s1 344 13 rfl), ((u386 (F := F1) (w := v_) 344 58 rfl)).trans (s1 344 58 rfl), fun j => ((u386 (F := F1) (w := v_) 381 j (fs_c rfl))).trans (s1 381 j (fs_c rfl))⟩, ⟨⟨fun r j hr => (by rcases hr with rfl | rfl | hr; exact ((u386 (F := F1) (w := v_) 16 j (fs_c rfl))).trans (s1 16 j (fs_c rfl)); exact ((u386 (F := F1) (w := v_) 106 j (fs_c rfl))).trans (s1 106 j (fs_c rfl)); exact ((u386 (F := F1) (w := v_) r j (fs_rg (a := 126) (b := 330) rfl r j hr))).trans (s1 r j (fs_rg (a := 126) (b := 330) rfl r j hr))), fun r j hr => (by rcases hr with rfl | rfl | rfl | rfl | rfl; exact ((u386 (F := F1) (w := v_) 353 j (fs_c rfl))).trans (s1 353 j (fs_c rfl)); exact ((u386 (F := F1) (w := v_) 354 j (fs_c rfl))).trans (s1 354 j (fs_c rfl)); exact ((u386 (F := F1) (w := v_) 364 j (fs_c rfl))).trans (s1 364 j (fs_c rfl)); exact ((u386 (F := F1) (w := v_) 367 j (fs_c rfl))).trans (s1 367 j (fs_c rfl)); exact ((u386 (F := F1) (w := v_) 368 j (fs_c rfl))).trans (s1 368 j (fs_c rfl))), ((u386 (F := F1) (w := v_) 0 7 rfl)).trans (s1 0 7 rfl), ((u386 (F := F1) (w := v_) 0 8 rfl)).trans (s1 0 8 rfl), ((u386 (F := F1) (w := v_) 15 2 rfl)).trans (s1 15 2 rfl), ((u386 (F := F1) (w := v_) 120 3 rfl)).trans (s1 120 3 rfl), ((u386 (F := F1) (w := v_) 344 21 rfl)).trans (s1 344 21 rfl)⟩, ((u386 (F := F1) (w := v_) 0 12 rfl)).trans (s1 0 12 rfl), fun j => ((u386 (F := F1) (w := v_) 343 j (fs_c rfl))).trans (s1 343 j (fs_c rfl)), ((u386 (F := F1) (w := v_) 331 11 rfl)).trans (s1 331 11 rfl), ((u386 (F := F1) (w := v_) 344 58 rfl)).trans (s1 344 58 rfl), fun j => ((u386 (F := F1) (w := v_) 381 j (fs_c rfl))).trans (s1 381 j (fs_c rfl))⟩⟩⟩⟩
  · rintro j A1 ⟨F1, ci, hci, ⟨hJ_, hA_⟩, g1, s1, c2⟩
    subst hA_
    subst hJ_
    subst hci
    refine ⟨11, xi_ch_a rfl gx_at rfl, ?_⟩
    refine ga_astore_n (lv2 := [(2, .ref (387 + X.length)), (0, .ref 0), (1, .ref 386)]) hm_77 rfl (Nat.le_of_ble_eq_true rfl) rfl ?_
    refine fl_iconst hm_77 rfl ?_
    refine gr_i (z := 1) hm_77 rfl rfl rfl ?_
    exact ⟨F1, _, rfl, Or.inr ⟨_, rfl⟩, g1, ⟨Or.inl ⟨rfl, c2⟩, (show stC F F1 from ⟨g1, ⟨fnd_cg hiv.2.1.1 (s1 _ _ rfl) (s1 _ _ rfl), dmi_fs hiv.2.1.2 hgi s1 rfl rfl (fun r k hr => fs_rg (a := 39) (b := 103) rfl r k hr)⟩, ⟨_, s1, rfl, rfl⟩, s1 _ _ rfl, s1 _ _ rfl, fun j => s1 _ _ (fs_c rfl)⟩), ⟨⟨s1 0 8 rfl, s1 0 10 rfl, fun j => s1 342 j (fs_c rfl)⟩, s1 344 60 rfl, fun j => s1 382 j (fs_c rfl), s1 120 3 rfl, ⟨⟨s1 331 11 rfl, s1 335 200 rfl, fun j => s1 339 j (fs_c rfl)⟩, s1 344 13 rfl, s1 344 58 rfl, fun j => s1 381 j (fs_c rfl)⟩, ⟨⟨fun r j hr => (by rcases hr with rfl | rfl | hr; exact s1 16 j (fs_c rfl); exact s1 106 j (fs_c rfl); exact s1 r j (fs_rg (a := 126) (b := 330) rfl r j hr)), fun r j hr => (by rcases hr with rfl | rfl | rfl | rfl | rfl; exact s1 353 j (fs_c rfl); exact s1 354 j (fs_c rfl); exact s1 364 j (fs_c rfl); exact s1 367 j (fs_c rfl); exact s1 368 j (fs_c rfl)), s1 0 7 rfl, s1 0 8 rfl, s1 15 2 rfl, s1 120 3 rfl, s1 344 21 rfl⟩, s1 0 12 rfl, fun j => s1 343 j (fs_c rfl), s1 331 11 rfl, s1 344 58 rfl, fun j => s1 381 j (fs_c rfl)⟩⟩⟩⟩
def rl_78 (k z : Int) (F F' : fl_N) : Prop := ((z = 1 ∧ ¬ (F 331 11 = 1 ∧ 0 ≤ k ∧ k < F 335 200)) ∨ (z = 0 ∧ (F 331 11 = 1 ∧ 0 ≤ k ∧ k < F 335 200) ∧ F' 386 0 = (Int32.ofInt (F 339 k.toNat)).toInt)) ∧ stC F F' ∧ rP F F'
theorem mh_78 {G : Nat → Nat → Option Nat} (hG : gg G) (F : fl_N) (X : xi_H) (hiv : ivq F) (k : Int) (hk : -2147483648 ≤ k ∧ k ≤ 2147483647) : fl_M xi_ms 78 7 121 [.ref 0, .int (Int32.ofInt k), .ref 386] (fl_H sh_T G F ++ X) (gqi (fun z A => ∃ (F' : fl_N) (X' : xi_H), fl_H sh_T G F' ++ X' = A ∧ (X' = X ∨ ∃ ci, X' = X ++ [gx ci]) ∧ gi F' ∧ rl_78 k z F F') gqn) := by
  have hgi := hiv.1
  intro fr lo hfr hlo
  show fl_R xi_ms 78 fr lo 0 [(0, .ref 0), (1, .int (Int32.ofInt k)), (2, .ref 386)] [] _ _
  refine ga_aload_n (v := .ref 386) hm_78 rfl rfl rfl ?_
  refine fl_iconst hm_78 rfl ?_
  refine ga_aload_n (v := .ref 0) hm_78 rfl rfl rfl ?_
  refine ga_iload_n (z := k) hm_78 rfl rfl ?_
  refine gHi (nY := 2) (F := 6) (L := 100) (As := [.int (Int32.ofInt k)]) (b := 0) (rest := [.int (Int32.ofInt 0), .ref 386]) hm_78 rfl hm_7 rfl rfl (fl_ob sc_0) rfl rfl rfl rfl rfl (by omega) (by omega) (mc_7v hG F X hgi k hiv.2.1.1 hk) ?_ ?_
  · rintro z A1 ⟨F1, hA_, g1, s1, c1, c2⟩
    subst hA_
    obtain ⟨v_, hv0, hv9⟩ : ∃ v_ : Int, Int32.ofInt z = Int32.ofInt v_ ∧ v_ = (Int32.ofInt z).toInt := ⟨_, (Int32.ofInt_toInt _).symm, rfl⟩
    have hvr : fl_i v_ := by
      rw [hv9]
      exact ⟨by have h := Int32.le_toInt (Int32.ofInt z); omega, by have h := Int32.toInt_lt (Int32.ofInt z); omega⟩
    obtain ⟨hv1, hv2⟩ := hvr
    rw [hv0]
    refine ga_i2l (z := v_) hm_78 rfl ⟨hv1, hv2⟩ ?_
    refine fl_last (z := 0) (v := v_) hm_78 rfl sc_386 (by omega) (by omega) (by omega) ?_
    refine fl_goto hm_78 rfl ?_
    refine fl_iconst hm_78 rfl ?_
    refine gr_i (z := 0) hm_78 rfl rfl rfl ?_
    exact ⟨_, X, rfl, Or.inl rfl, gi_u g1 rfl (by omega) (by omega), ⟨Or.inr ⟨rfl, c2.1, by rw [← c2.2, ← hv9]; exact fl_u_eq⟩, stC_386 (show stC F F1 from ⟨g1, ⟨fnd_cg hiv.2.1.1 (s1 _ _ rfl) (s1 _ _ rfl), dmi_fs hiv.2.1.2 hgi s1 rfl rfl (fun r k hr => fs_rg (a := 39) (b := 103) rfl r k hr)⟩, ⟨_, s1, rfl, rfl⟩, s1 _ _ rfl, s1 _ _ rfl, fun j => s1 _ _ (fs_c rfl)⟩) (by omega) (by omega), ⟨⟨((u386 (F := F1) (w := v_) 0 8 rfl)).trans (s1 0 8 rfl), ((u386 (F := F1) (w := v_) 0 10 rfl)).trans (s1 0 10 rfl), fun j => ((u386 (F := F1) (w := v_) 342 j (fs_c rfl))).trans (s1 342 j (fs_c rfl))⟩, ((u386 (F := F1) (w := v_) 344 60 rfl)).trans (s1 344 60 rfl), fun j => ((u386 (F := F1) (w := v_) 382 j (fs_c rfl))).trans (s1 382 j (fs_c rfl)), ((u386 (F := F1) (w := v_) 120 3 rfl)).trans (s1 120 3 rfl), ⟨⟨((u386 (F := F1) (w := v_) 331 11 rfl)).trans (s1 331 11 rfl), ((u386 (F := F1) (w := v_) 335 200 rfl)).trans (s1 335 200 rfl), fun j => ((u386 (F := F1) (w := v_) 339 j (fs_c rfl))).trans (s1 339 j (fs_c rfl))⟩, ((u386 (F := F1) (w := v_) 344 13 rfl)).trans (s1 344 13 rfl), ((u386 (F := F1) (w := v_) 344 58 rfl)).trans (s1 344 58 rfl), fun j => ((u386 (F := F1) (w := v_) 381 j (fs_c rfl))).trans (s1 381 j (fs_c rfl))⟩, ⟨⟨fun r j hr => (by rcases hr with rfl | rfl | hr; exact ((u386 (F := F1) (w := v_) 16 j (fs_c rfl))).trans (s1 16 j (fs_c rfl)); exact ((u386 (F := F1) (w := v_) 106 j (fs_c rfl))).trans (s1 106 j (fs_c rfl)); exact ((u386 (F := F1) (w := v_) r j (fs_rg (a := 126) (b := 330) rfl r j hr))).trans (s1 r j (fs_rg (a := 126) (b := 330) rfl r j hr))), fun r j hr => (by rcases hr with rfl | rfl | rfl | rfl | rfl; exact ((u386 (F := F1) (w := v_) 353 j (fs_c rfl))).trans (s1 353 j (fs_c rfl)); exact ((u386 (F := F1) (w := v_) 354 j (fs_c rfl))).trans (s1 354 j (fs_c rfl)); exact ((u386 (F := F1) (w := v_) 364 j (fs_c rfl))).trans (s1 364 j (fs_c rfl)); exact ((u386 (F := F1) (w := v_) 367 j (fs_c rfl))).trans (s1 367 j (fs_c rfl)); exact ((u386 (F := F1) (w := v_) 368 j (fs_c rfl))).trans (s1 368 j (fs_c rfl))), ((u386 (F := F1) (w := v_) 0 7 rfl)).trans (s1 0 7 rfl), ((u386 (F := F1) (w := v_) 0 8 rfl)).trans (s1 0 8 rfl), ((u386 (F := F1) (w := v_) 15 2 rfl)).trans (s1 15 2 rfl), ((u386 (F := F1) (w := v_) 120 3 rfl)).trans (s1 120 3 rfl), ((u386 (F := F1) (w := v_) 344 21 rfl)).trans (s1 344 21 rfl)⟩, ((u386 (F := F1) (w := v_) 0 12 rfl)).trans (s1 0 12 rfl), fun j => ((u386 (F := F1) (w := v_) 343 j (fs_c rfl))).trans (s1 343 j (fs_c rfl)), ((u386 (F := F1) (w := v_) 331 11 rfl)).trans (s1 331 11 rfl), ((u386 (F := F1) (w := v_) 344 58 rfl)).trans (s1 344 58 rfl), fun j => ((u386 (F := F1) (w := v_) 381 j (fs_c rfl))).trans (s1 381 j (fs_c rfl))⟩⟩⟩⟩
  · rintro j A1 ⟨F1, ci, hci, ⟨hJ_, hA_⟩, g1, s1, c2⟩
    subst hA_
    subst hJ_
    subst hci
    refine ⟨12, xi_ch_a rfl gx_at rfl, ?_⟩
    refine ga_astore_n (lv2 := [(3, .ref (387 + X.length)), (0, .ref 0), (1, .int (Int32.ofInt k)), (2, .ref 386)]) hm_78 rfl (Nat.le_of_ble_eq_true rfl) rfl ?_
    refine fl_iconst hm_78 rfl ?_
    refine gr_i (z := 1) hm_78 rfl rfl rfl ?_
    exact ⟨F1, _, rfl, Or.inr ⟨_, rfl⟩, g1, ⟨Or.inl ⟨rfl, c2⟩, (show stC F F1 from ⟨g1, ⟨fnd_cg hiv.2.1.1 (s1 _ _ rfl) (s1 _ _ rfl), dmi_fs hiv.2.1.2 hgi s1 rfl rfl (fun r k hr => fs_rg (a := 39) (b := 103) rfl r k hr)⟩, ⟨_, s1, rfl, rfl⟩, s1 _ _ rfl, s1 _ _ rfl, fun j => s1 _ _ (fs_c rfl)⟩), ⟨⟨s1 0 8 rfl, s1 0 10 rfl, fun j => s1 342 j (fs_c rfl)⟩, s1 344 60 rfl, fun j => s1 382 j (fs_c rfl), s1 120 3 rfl, ⟨⟨s1 331 11 rfl, s1 335 200 rfl, fun j => s1 339 j (fs_c rfl)⟩, s1 344 13 rfl, s1 344 58 rfl, fun j => s1 381 j (fs_c rfl)⟩, ⟨⟨fun r j hr => (by rcases hr with rfl | rfl | hr; exact s1 16 j (fs_c rfl); exact s1 106 j (fs_c rfl); exact s1 r j (fs_rg (a := 126) (b := 330) rfl r j hr)), fun r j hr => (by rcases hr with rfl | rfl | rfl | rfl | rfl; exact s1 353 j (fs_c rfl); exact s1 354 j (fs_c rfl); exact s1 364 j (fs_c rfl); exact s1 367 j (fs_c rfl); exact s1 368 j (fs_c rfl)), s1 0 7 rfl, s1 0 8 rfl, s1 15 2 rfl, s1 120 3 rfl, s1 344 21 rfl⟩, s1 0 12 rfl, fun j => s1 343 j (fs_c rfl), s1 331 11 rfl, s1 344 58 rfl, fun j => s1 381 j (fs_c rfl)⟩⟩⟩⟩
def rl_79 (k w z : Int) (F F' : fl_N) : Prop := (stC F F' ∧ rP F F') ∧ ((z = 1 ∧ ¬ (F 0 8 = 1 ∧ 0 ≤ k ∧ k < F 120 3)) ∨ (z = 2 ∧ (F 0 8 = 1 ∧ 0 ≤ k ∧ k < F 120 3) ∧ ¬ (0 ≤ w ∧ w ≤ 4)) ∨ (z = 0 ∧ (F 0 8 = 1 ∧ 0 ≤ k ∧ k < F 120 3) ∧ ∃ v, F' 386 0 = (Int32.ofInt v).toInt ∧ gV F k w v))
theorem mh_79 {G : Nat → Nat → Option Nat} (hG : gg G) (F : fl_N) (X : xi_H) (hiv : ivq F) (k : Int) (w : Int) (hk : -2147483648 ≤ k ∧ k ≤ 2147483647) (hw : -2147483648 ≤ w ∧ w ≤ 2147483647) : fl_M xi_ms 79 7 123 [.ref 0, .int (Int32.ofInt k), .int (Int32.ofInt w), .ref 386] (fl_H sh_T G F ++ X) (gqi (fun z A => ∃ (F' : fl_N) (X' : xi_H), fl_H sh_T G F' ++ X' = A ∧ (X' = X ∨ ∃ ci, X' = X ++ [gx ci]) ∧ gi F' ∧ rl_79 k w z F F') gqn) := by
  have hgi := hiv.1
  intro fr lo hfr hlo
  show fl_R xi_ms 79 fr lo 0 [(0, .ref 0), (1, .int (Int32.ofInt k)), (2, .int (Int32.ofInt w)), (3, .ref 386)] [] _ _
  refine ga_aload_n (v := .ref 386) hm_79 rfl rfl rfl ?_
  refine fl_iconst hm_79 rfl ?_
  refine ga_aload_n (v := .ref 0) hm_79 rfl rfl rfl ?_
  refine ga_iload_n (z := k) hm_79 rfl rfl ?_
  refine ga_iload_n (z := w) hm_79 rfl rfl ?_
  refine gHi (nY := 4) (F := 6) (L := 100) (As := [.int (Int32.ofInt k), .int (Int32.ofInt w)]) (b := 0) (rest := [.int (Int32.ofInt 0), .ref 386]) hm_79 rfl hm_8 rfl rfl (fl_ob sc_0) rfl rfl rfl rfl rfl (by omega) (by omega) (mc_8 hG F X hgi k w hk hw) ?_ ?_
  · rintro z A1 ⟨F1, hA_, g1, s1, c1, c2⟩
    subst hA_
    obtain ⟨v_, hv0, hv9⟩ : ∃ v_ : Int, Int32.ofInt z = Int32.ofInt v_ ∧ v_ = (Int32.ofInt z).toInt := ⟨_, (Int32.ofInt_toInt _).symm, rfl⟩
    have hvr : fl_i v_ := by
      rw [hv9]
      exact ⟨by have h := Int32.le_toInt (Int32.ofInt z); omega, by have h := Int32.toInt_lt (Int32.ofInt z); omega⟩
    obtain ⟨hv1, hv2⟩ := hvr
    rw [hv0]
    refine ga_i2l (z := v_) hm_79 rfl ⟨hv1, hv2⟩ ?_
    refine fl_last (z := 0) (v := v_) hm_79 rfl sc_386 (by omega) (by omega) (by omega) ?_
    refine fl_goto hm_79 rfl ?_
    refine fl_iconst hm_79 rfl ?_
    refine gr_i (z := 0) hm_79 rfl rfl rfl ?_
    exact ⟨_, X, rfl, Or.inl rfl, gi_u g1 rfl (by omega) (by omega), ⟨⟨stC_386 (show stC F F1 from ⟨g1, ⟨fnd_cg hiv.2.1.1 (s1 _ _ rfl) (s1 _ _ rfl), dmi_fs hiv.2.1.2 hgi s1 rfl rfl (fun r k hr => fs_rg (a := 39) (b := 103) rfl r k hr)⟩, ⟨_, s1, rfl, rfl⟩, s1 _ _ rfl, s1 _ _ rfl, fun j => s1 _ _ (fs_c rfl)⟩) (by omega) (by omega), ⟨⟨((u386 (F := F1) (w := v_) 0 8 rfl)).trans (s1 0 8 rfl), ((u386 (F := F1) (w := v_) 0 10 rfl)).trans (s1 0 10 rfl), fun j => ((u386 (F := F1) (w := v_) 342 j (fs_c rfl))).trans (s1 342 j (fs_c rfl))⟩, ((u386 (F := F1) (w := v_) 344 60 rfl)).trans (s1 344 60 rfl), fun j => ((u386 (F := F1) (w := v_) 382 j (fs_c rfl))).trans (s1 382 j (fs_c rfl)), ((u386 (F := F1) (w := v_) 120 3 rfl)).trans (s1 120 3 rfl), ⟨⟨((u386 (F := F1) (w := v_) 331 11 rfl)).trans (s1 331 11 rfl), ((u386 (F := F1) (w := v_) 335 200 rfl)).trans (s1 335 200 rfl), fun j => ((u386 (F := F1) (w := v_) 339 j (fs_c rfl))).trans (s1 339 j (fs_c rfl))⟩, ((u386 (F := F1) (w := v_) 344 13 rfl)).trans (s1 344 13 rfl), ((u386 (F := F1) (w := v_) 344 58 rfl)).trans (s1 344 58 rfl), fun j => ((u386 (F := F1) (w := v_) 381 j (fs_c rfl))).trans (s1 381 j (fs_c rfl))⟩, ⟨⟨fun r j hr => (by rcases hr with rfl | rfl | hr; exact ((u386 (F := F1) (w := v_) 16 j (fs_c rfl))).trans (s1 16 j (fs_c rfl)); exact ((u386 (F := F1) (w := v_) 106 j (fs_c rfl))).trans (s1 106 j (fs_c rfl)); exact ((u386 (F := F1) (w := v_) r j (fs_rg (a := 126) (b := 330) rfl r j hr))).trans (s1 r j (fs_rg (a := 126) (b := 330) rfl r j hr))), fun r j hr => (by rcases hr with rfl | rfl | rfl | rfl | rfl; exact ((u386 (F := F1) (w := v_) 353 j (fs_c rfl))).trans (s1 353 j (fs_c rfl)); exact ((u386 (F := F1) (w := v_) 354 j (fs_c rfl))).trans (s1 354 j (fs_c rfl)); exact ((u386 (F := F1) (w := v_) 364 j (fs_c rfl))).trans (s1 364 j (fs_c rfl)); exact ((u386 (F := F1) (w := v_) 367 j (fs_c rfl))).trans (s1 367 j (fs_c rfl)); exact ((u386 (F := F1) (w := v_) 368 j (fs_c rfl))).trans (s1 368 j (fs_c rfl))), ((u386 (F := F1) (w := v_) 0 7 rfl)).trans (s1 0 7 rfl), ((u386 (F := F1) (w := v_) 0 8 rfl)).trans (s1 0 8 rfl), ((u386 (F := F1) (w := v_) 15 2 rfl)).trans (s1 15 2 rfl), ((u386 (F := F1) (w := v_) 120 3 rfl)).trans (s1 120 3 rfl), ((u386 (F := F1) (w := v_) 344 21 rfl)).trans (s1 344 21 rfl)⟩, ((u386 (F := F1) (w := v_) 0 12 rfl)).trans (s1 0 12 rfl), fun j => ((u386 (F := F1) (w := v_) 343 j (fs_c rfl))).trans (s1 343 j (fs_c rfl)), ((u386 (F := F1) (w := v_) 331 11 rfl)).trans (s1 331 11 rfl), ((u386 (F := F1) (w := v_) 344 58 rfl)).trans (s1 344 58 rfl), fun j => ((u386 (F := F1) (w := v_) 381 j (fs_c rfl))).trans (s1 381 j (fs_c rfl))⟩⟩⟩, Or.inr (Or.inr ⟨rfl, c2.1, z, by rw [← hv9]; exact fl_u_eq, c2.2⟩)⟩⟩
  · rintro j A1 ⟨F1, ci, hci, ⟨hJ_, hA_⟩, g1, s1, c2⟩
    subst hA_
    subst hJ_
    rcases hci with rfl | rfl
    ·
      refine ⟨13, xi_ch_a rfl gx_at rfl, ?_⟩
      refine ga_astore (lv2 := [(4, .ref (387 + X.length)), (0, .ref 0), (1, .int (Int32.ofInt k)), (2, .int (Int32.ofInt w)), (3, .ref 386)]) hm_79 rfl (Nat.le_of_ble_eq_true rfl) rfl ?_
      refine fl_iconst hm_79 rfl ?_
      refine gr_i (z := 1) hm_79 rfl rfl rfl ?_
      exact ⟨F1, _, rfl, Or.inr ⟨_, rfl⟩, g1, ⟨⟨(show stC F F1 from ⟨g1, ⟨fnd_cg hiv.2.1.1 (s1 _ _ rfl) (s1 _ _ rfl), dmi_fs hiv.2.1.2 hgi s1 rfl rfl (fun r k hr => fs_rg (a := 39) (b := 103) rfl r k hr)⟩, ⟨_, s1, rfl, rfl⟩, s1 _ _ rfl, s1 _ _ rfl, fun j => s1 _ _ (fs_c rfl)⟩), ⟨⟨s1 0 8 rfl, s1 0 10 rfl, fun j => s1 342 j (fs_c rfl)⟩, s1 344 60 rfl, fun j => s1 382 j (fs_c rfl), s1 120 3 rfl, ⟨⟨s1 331 11 rfl, s1 335 200 rfl, fun j => s1 339 j (fs_c rfl)⟩, s1 344 13 rfl, s1 344 58 rfl, fun j => s1 381 j (fs_c rfl)⟩, ⟨⟨fun r j hr => (by rcases hr with rfl | rfl | hr; exact s1 16 j (fs_c rfl); exact s1 106 j (fs_c rfl); exact s1 r j (fs_rg (a := 126) (b := 330) rfl r j hr)), fun r j hr => (by rcases hr with rfl | rfl | rfl | rfl | rfl; exact s1 353 j (fs_c rfl); exact s1 354 j (fs_c rfl); exact s1 364 j (fs_c rfl); exact s1 367 j (fs_c rfl); exact s1 368 j (fs_c rfl)), s1 0 7 rfl, s1 0 8 rfl, s1 15 2 rfl, s1 120 3 rfl, s1 344 21 rfl⟩, s1 0 12 rfl, fun j => s1 343 j (fs_c rfl), s1 331 11 rfl, s1 344 58 rfl, fun j => s1 381 j (fs_c rfl)⟩⟩⟩, Or.inl ⟨rfl, by rcases c2 with c | c; exact c.2; exact absurd c.1 (by decide)⟩⟩⟩
    ·
      refine ⟨17, xi_ch_b rfl gx_at rfl rfl rfl, ?_⟩
      refine ga_astore (lv2 := [(4, .ref (387 + X.length)), (0, .ref 0), (1, .int (Int32.ofInt k)), (2, .int (Int32.ofInt w)), (3, .ref 386)]) hm_79 rfl (Nat.le_of_ble_eq_true rfl) rfl ?_
      refine fl_iconst hm_79 rfl ?_
      refine gr_i (z := 2) hm_79 rfl rfl rfl ?_
      exact ⟨F1, _, rfl, Or.inr ⟨_, rfl⟩, g1, ⟨⟨(show stC F F1 from ⟨g1, ⟨fnd_cg hiv.2.1.1 (s1 _ _ rfl) (s1 _ _ rfl), dmi_fs hiv.2.1.2 hgi s1 rfl rfl (fun r k hr => fs_rg (a := 39) (b := 103) rfl r k hr)⟩, ⟨_, s1, rfl, rfl⟩, s1 _ _ rfl, s1 _ _ rfl, fun j => s1 _ _ (fs_c rfl)⟩), ⟨⟨s1 0 8 rfl, s1 0 10 rfl, fun j => s1 342 j (fs_c rfl)⟩, s1 344 60 rfl, fun j => s1 382 j (fs_c rfl), s1 120 3 rfl, ⟨⟨s1 331 11 rfl, s1 335 200 rfl, fun j => s1 339 j (fs_c rfl)⟩, s1 344 13 rfl, s1 344 58 rfl, fun j => s1 381 j (fs_c rfl)⟩, ⟨⟨fun r j hr => (by rcases hr with rfl | rfl | hr; exact s1 16 j (fs_c rfl); exact s1 106 j (fs_c rfl); exact s1 r j (fs_rg (a := 126) (b := 330) rfl r j hr)), fun r j hr => (by rcases hr with rfl | rfl | rfl | rfl | rfl; exact s1 353 j (fs_c rfl); exact s1 354 j (fs_c rfl); exact s1 364 j (fs_c rfl); exact s1 367 j (fs_c rfl); exact s1 368 j (fs_c rfl)), s1 0 7 rfl, s1 0 8 rfl, s1 15 2 rfl, s1 120 3 rfl, s1 344 21 rfl⟩, s1 0 12 rfl, fun j => s1 343 j (fs_c rfl), s1 331 11 rfl, s1 344 58 rfl, fun j => s1 381 j (fs_c rfl)⟩⟩⟩, Or.inr (Or.inl ⟨rfl, by rcases c2 with c | c; exact absurd c.1 (by decide); exact c.2⟩)⟩⟩
def rl_80 (k z : Int) (F F' : fl_N) : Prop := ((z = 1 ∧ ¬ (0 ≤ k ∧ k < F 0 12)) ∨ (z = 0 ∧ (0 ≤ k ∧ k < F 0 12) ∧ F' 386 0 = (Int32.ofInt (F 343 k.toNat)).toInt)) ∧ stC F F' ∧ rP F F'
theorem mh_80 {G : Nat → Nat → Option Nat} (hG : gg G) (F : fl_N) (X : xi_H) (hiv : ivq F) (k : Int) (hk : -2147483648 ≤ k ∧ k ≤ 2147483647) : fl_M xi_ms 80 7 121 [.ref 0, .int (Int32.ofInt k), .ref 386] (fl_H sh_T G F ++ X) (gqi (fun z A => ∃ (F' : fl_N) (X' : xi_H), fl_H sh_T G F' ++ X' = A ∧ (X' = X ∨ ∃ ci, X' = X ++ [gx ci]) ∧ gi F' ∧ rl_80 k z F F') gqn) := by
  have hgi := hiv.1
  intro fr lo hfr hlo
  show fl_R xi_ms 80 fr lo 0 [(0, .ref 0), (1, .int (Int32.ofInt k)), (2, .ref 386)] [] _ _
  refine ga_aload_n (v := .ref 386) hm_80 rfl rfl rfl ?_
  refine fl_iconst hm_80 rfl ?_
  refine ga_aload_n (v := .ref 0) hm_80 rfl rfl rfl ?_
  refine ga_iload_n (z := k) hm_80 rfl rfl ?_
  refine gHi (nY := 2) (F := 6) (L := 100) (As := [.int (Int32.ofInt k)]) (b := 0) (rest := [.int (Int32.ofInt 0), .ref 386]) hm_80 rfl hm_9 rfl rfl (fl_ob sc_0) rfl rfl rfl rfl rfl (by omega) (by omega) (mc_9v hG F X hgi k hk) ?_ ?_
  · rintro z A1 ⟨F1, hA_, g1, s1, c1, c2⟩
    subst hA_
    obtain ⟨v_, hv0, hv9⟩ : ∃ v_ : Int, Int32.ofInt z = Int32.ofInt v_ ∧ v_ = (Int32.ofInt z).toInt := ⟨_, (Int32.ofInt_toInt _).symm, rfl⟩
    have hvr : fl_i v_ := by
      rw [hv9]
      exact ⟨by have h := Int32.le_toInt (Int32.ofInt z); omega, by have h := Int32.toInt_lt (Int32.ofInt z); omega⟩
    obtain ⟨hv1, hv2⟩ := hvr
    rw [hv0]
    refine ga_i2l (z := v_) hm_80 rfl ⟨hv1, hv2⟩ ?_
    refine fl_last (z := 0) (v := v_) hm_80 rfl sc_386 (by omega) (by omega) (by omega) ?_
    refine fl_goto hm_80 rfl ?_
    refine fl_iconst hm_80 rfl ?_
    refine gr_i (z := 0) hm_80 rfl rfl rfl ?_
    exact ⟨_, X, rfl, Or.inl rfl, gi_u g1 rfl (by omega) (by omega), ⟨Or.inr ⟨rfl, c2.1, by rw [← c2.2, ← hv9]; exact fl_u_eq⟩, stC_386 (show stC F F1 from ⟨g1, ⟨fnd_cg hiv.2.1.1 (s1 _ _ rfl) (s1 _ _ rfl), dmi_fs hiv.2.1.2 hgi s1 rfl rfl (fun r k hr => fs_rg (a := 39) (b := 103) rfl r k hr)⟩, ⟨_, s1, rfl, rfl⟩, s1 _ _ rfl, s1 _ _ rfl, fun j => s1 _ _ (fs_c rfl)⟩) (by omega) (by omega), ⟨⟨((u386 (F := F1) (w := v_) 0 8 rfl)).trans (s1 0 8 rfl), ((u386 (F := F1) (w := v_) 0 10 rfl)).trans (s1 0 10 rfl), fun j => ((u386 (F := F1) (w := v_) 342 j (fs_c rfl))).trans (s1 342 j (fs_c rfl))⟩, ((u386 (F := F1) (w := v_) 344 60 rfl)).trans (s1 344 60 rfl), fun j => ((u386 (F := F1) (w := v_) 382 j (fs_c rfl))).trans (s1 382 j (fs_c rfl)), ((u386 (F := F1) (w := v_) 120 3 rfl)).trans (s1 120 3 rfl), ⟨⟨((u386 (F := F1) (w := v_) 331 11 rfl)).trans (s1 331 11 rfl), ((u386 (F := F1) (w := v_) 335 200 rfl)).trans (s1 335 200 rfl), fun j => ((u386 (F := F1) (w := v_) 339 j (fs_c rfl))).trans (s1 339 j (fs_c rfl))⟩, ((u386 (F := F1) (w := v_) 344 13 rfl)).trans (s1 344 13 rfl), ((u386 (F := F1) (w := v_) 344 58 rfl)).trans (s1 344 58 rfl), fun j => ((u386 (F := F1) (w := v_) 381 j (fs_c rfl))).trans (s1 381 j (fs_c rfl))⟩, ⟨⟨fun r j hr => (by rcases hr with rfl | rfl | hr; exact ((u386 (F := F1) (w := v_) 16 j (fs_c rfl))).trans (s1 16 j (fs_c rfl)); exact ((u386 (F := F1) (w := v_) 106 j (fs_c rfl))).trans (s1 106 j (fs_c rfl)); exact ((u386 (F := F1) (w := v_) r j (fs_rg (a := 126) (b := 330) rfl r j hr))).trans (s1 r j (fs_rg (a := 126) (b := 330) rfl r j hr))), fun r j hr => (by rcases hr with rfl | rfl | rfl | rfl | rfl; exact ((u386 (F := F1) (w := v_) 353 j (fs_c rfl))).trans (s1 353 j (fs_c rfl)); exact ((u386 (F := F1) (w := v_) 354 j (fs_c rfl))).trans (s1 354 j (fs_c rfl)); exact ((u386 (F := F1) (w := v_) 364 j (fs_c rfl))).trans (s1 364 j (fs_c rfl)); exact ((u386 (F := F1) (w := v_) 367 j (fs_c rfl))).trans (s1 367 j (fs_c rfl)); exact ((u386 (F := F1) (w := v_) 368 j (fs_c rfl))).trans (s1 368 j (fs_c rfl))), ((u386 (F := F1) (w := v_) 0 7 rfl)).trans (s1 0 7 rfl), ((u386 (F := F1) (w := v_) 0 8 rfl)).trans (s1 0 8 rfl), ((u386 (F := F1) (w := v_) 15 2 rfl)).trans (s1 15 2 rfl), ((u386 (F := F1) (w := v_) 120 3 rfl)).trans (s1 120 3 rfl), ((u386 (F := F1) (w := v_) 344 21 rfl)).trans (s1 344 21 rfl)⟩, ((u386 (F := F1) (w := v_) 0 12 rfl)).trans (s1 0 12 rfl), fun j => ((u386 (F := F1) (w := v_) 343 j (fs_c rfl))).trans (s1 343 j (fs_c rfl)), ((u386 (F := F1) (w := v_) 331 11 rfl)).trans (s1 331 11 rfl), ((u386 (F := F1) (w := v_) 344 58 rfl)).trans (s1 344 58 rfl), fun j => ((u386 (F := F1) (w := v_) 381 j (fs_c rfl))).trans (s1 381 j (fs_c rfl))⟩⟩⟩⟩
  · rintro j A1 ⟨F1, ci, hci, ⟨hJ_, hA_⟩, g1, s1, c2⟩
    subst hA_
    subst hJ_
    subst hci
    refine ⟨12, xi_ch_a rfl gx_at rfl, ?_⟩
    refine ga_astore_n (lv2 := [(3, .ref (387 + X.length)), (0, .ref 0), (1, .int (Int32.ofInt k)), (2, .ref 386)]) hm_80 rfl (Nat.le_of_ble_eq_true rfl) rfl ?_
    refine fl_iconst hm_80 rfl ?_
    refine gr_i (z := 1) hm_80 rfl rfl rfl ?_
    exact ⟨F1, _, rfl, Or.inr ⟨_, rfl⟩, g1, ⟨Or.inl ⟨rfl, c2⟩, (show stC F F1 from ⟨g1, ⟨fnd_cg hiv.2.1.1 (s1 _ _ rfl) (s1 _ _ rfl), dmi_fs hiv.2.1.2 hgi s1 rfl rfl (fun r k hr => fs_rg (a := 39) (b := 103) rfl r k hr)⟩, ⟨_, s1, rfl, rfl⟩, s1 _ _ rfl, s1 _ _ rfl, fun j => s1 _ _ (fs_c rfl)⟩), ⟨⟨s1 0 8 rfl, s1 0 10 rfl, fun j => s1 342 j (fs_c rfl)⟩, s1 344 60 rfl, fun j => s1 382 j (fs_c rfl), s1 120 3 rfl, ⟨⟨s1 331 11 rfl, s1 335 200 rfl, fun j => s1 339 j (fs_c rfl)⟩, s1 344 13 rfl, s1 344 58 rfl, fun j => s1 381 j (fs_c rfl)⟩, ⟨⟨fun r j hr => (by rcases hr with rfl | rfl | hr; exact s1 16 j (fs_c rfl); exact s1 106 j (fs_c rfl); exact s1 r j (fs_rg (a := 126) (b := 330) rfl r j hr)), fun r j hr => (by rcases hr with rfl | rfl | rfl | rfl | rfl; exact s1 353 j (fs_c rfl); exact s1 354 j (fs_c rfl); exact s1 364 j (fs_c rfl); exact s1 367 j (fs_c rfl); exact s1 368 j (fs_c rfl)), s1 0 7 rfl, s1 0 8 rfl, s1 15 2 rfl, s1 120 3 rfl, s1 344 21 rfl⟩, s1 0 12 rfl, fun j => s1 343 j (fs_c rfl), s1 331 11 rfl, s1 344 58 rfl, fun j => s1 381 j (fs_c rfl)⟩⟩⟩⟩
def rl_81 (z : Int) (F F' : fl_N) : Prop := ((z = 1 ∧ F 0 8 = 0) ∨ (z = 0 ∧ F 0 8 = 1 ∧ ∃ v, F' 386 0 = (Int32.ofInt v).toInt ∧ ((∃ (j : Nat) (s c : Int), (j : Int) < F 0 10 ∧ ckC F j s c ∧ ¬ hC F (F 342 j) s ∧ v = -1 - (j : Int)) ∨ (∃ s c : Int, ckC F (F 0 10).toNat s c ∧ ((gC F s ∧ v = c) ∨ (¬ gC F s ∧ v = -100)))))) ∧ stC F F' ∧ F' 0 8 = F 0 8 ∧ (∀ j, F' 342 j = F 342 j) ∧ (F 0 8 = 1 → F' 0 10 = 0) ∧ F' 344 60 = F 344 60 ∧ (∀ j, F' 382 j = F 382 j) ∧ pK F F' ∧ kT F F'
theorem mh_81 {G : Nat → Nat → Option Nat} (hG : gg G) (F : fl_N) (X : xi_H) (hiv : ivq F)  : fl_M xi_ms 81 8 146 [.ref 0, .ref 386] (fl_H sh_T G F ++ X) (gqi (fun z A => ∃ (F' : fl_N) (X' : xi_H), fl_H sh_T G F' ++ X' = A ∧ (X' = X ∨ ∃ ci, X' = X ++ [gx ci]) ∧ gi F' ∧ rl_81 z F F') gqn) := by
  have hgi := hiv.1
  intro fr lo hfr hlo
  show fl_R xi_ms 81 fr lo 0 [(0, .ref 0), (1, .ref 386)] [] _ _
  refine ga_aload_n (v := .ref 386) hm_81 rfl rfl rfl ?_
  refine fl_iconst hm_81 rfl ?_
  refine ga_aload_n (v := .ref 0) hm_81 rfl rfl rfl ?_
  refine gHi (nY := 7) (F := 7) (L := 120) (As := []) (b := 0) (rest := [.int (Int32.ofInt 0), .ref 386]) hm_81 rfl hm_11 rfl rfl (fl_ob sc_0) rfl rfl rfl rfl rfl (by omega) (by omega) (mc_11 hG F X hgi ) ?_ ?_
  · rintro z A1 ⟨F1, hA_, g1, s1, c1, c2, c3⟩
    subst hA_
    obtain ⟨v_, hv0, hv9⟩ : ∃ v_ : Int, Int32.ofInt z = Int32.ofInt v_ ∧ v_ = (Int32.ofInt z).toInt := ⟨_, (Int32.ofInt_toInt _).symm, rfl⟩
    have hvr : fl_i v_ := by
      rw [hv9]
      exact ⟨by have h := Int32.le_toInt (Int32.ofInt z); omega, by have h := Int32.toInt_lt (Int32.ofInt z); omega⟩
    obtain ⟨hv1, hv2⟩ := hvr
    rw [hv0]
    refine ga_i2l (z := v_) hm_81 rfl ⟨hv1, hv2⟩ ?_
    refine fl_last (z := 0) (v := v_) hm_81 rfl sc_386 (by omega) (by omega) (by omega) ?_
    refine fl_goto hm_81 rfl ?_
    refine fl_iconst hm_81 rfl ?_
    refine gr_i (z := 0) hm_81 rfl rfl rfl ?_
    exact ⟨_, X, rfl, Or.inl rfl, gi_u g1 rfl (by omega) (by omega), ⟨Or.inr ⟨rfl, c2.1, z, by rw [← hv9]; exact fl_u_eq, c3⟩, stC_386 (show stC F F1 from ⟨g1, ⟨fnd_cg hiv.2.1.1 (s1 _ _ rfl) (s1 _ _ rfl), dmi_fs hiv.2.1.2 hgi s1 rfl rfl (fun r k hr => fs_rg (a := 39) (b := 103) rfl r k hr)⟩, ⟨_, s1, rfl, rfl⟩, s1 _ _ rfl, s1 _ _ rfl, fun j => s1 _ _ (fs_c rfl)⟩) (by omega) (by omega), ⟨((u386 (F := F1) (w := v_) 0 8 rfl)).trans (s1 0 8 rfl), fun j => ((u386 (F := F1) (w := v_) 342 j (fs_c rfl))).trans (s1 342 j (fs_c rfl)), fun _ => ((u386 (F := F1) (w := v_) 0 10 rfl)).trans c2.2, ((u386 (F := F1) (w := v_) 344 60 rfl)).trans (s1 344 60 rfl), fun j => ((u386 (F := F1) (w := v_) 382 j (fs_c rfl))).trans (s1 382 j (fs_c rfl)), ⟨⟨((u386 (F := F1) (w := v_) 331 11 rfl)).trans (s1 331 11 rfl), ((u386 (F := F1) (w := v_) 335 200 rfl)).trans (s1 335 200 rfl), fun j => ((u386 (F := F1) (w := v_) 339 j (fs_c rfl))).trans (s1 339 j (fs_c rfl))⟩, ((u386 (F := F1) (w := v_) 344 13 rfl)).trans (s1 344 13 rfl), ((u386 (F := F1) (w := v_) 344 58 rfl)).trans (s1 344 58 rfl), fun j => ((u386 (F := F1) (w := v_) 381 j (fs_c rfl))).trans (s1 381 j (fs_c rfl))⟩, ⟨⟨fun r j hr => (by rcases hr with rfl | rfl | hr; exact ((u386 (F := F1) (w := v_) 16 j (fs_c rfl))).trans (s1 16 j (fs_c rfl)); exact ((u386 (F := F1) (w := v_) 106 j (fs_c rfl))).trans (s1 106 j (fs_c rfl)); exact ((u386 (F := F1) (w := v_) r j (fs_rg (a := 126) (b := 330) rfl r j hr))).trans (s1 r j (fs_rg (a := 126) (b := 330) rfl r j hr))), fun r j hr => (by rcases hr with rfl | rfl | rfl | rfl | rfl; exact ((u386 (F := F1) (w := v_) 353 j (fs_c rfl))).trans (s1 353 j (fs_c rfl)); exact ((u386 (F := F1) (w := v_) 354 j (fs_c rfl))).trans (s1 354 j (fs_c rfl)); exact ((u386 (F := F1) (w := v_) 364 j (fs_c rfl))).trans (s1 364 j (fs_c rfl)); exact ((u386 (F := F1) (w := v_) 367 j (fs_c rfl))).trans (s1 367 j (fs_c rfl)); exact ((u386 (F := F1) (w := v_) 368 j (fs_c rfl))).trans (s1 368 j (fs_c rfl))), ((u386 (F := F1) (w := v_) 0 7 rfl)).trans (s1 0 7 rfl), ((u386 (F := F1) (w := v_) 0 8 rfl)).trans (s1 0 8 rfl), ((u386 (F := F1) (w := v_) 15 2 rfl)).trans (s1 15 2 rfl), ((u386 (F := F1) (w := v_) 120 3 rfl)).trans (s1 120 3 rfl), ((u386 (F := F1) (w := v_) 344 21 rfl)).trans (s1 344 21 rfl)⟩, ((u386 (F := F1) (w := v_) 0 12 rfl)).trans (s1 0 12 rfl), fun j => ((u386 (F := F1) (w := v_) 343 j (fs_c rfl))).trans (s1 343 j (fs_c rfl)), ((u386 (F := F1) (w := v_) 331 11 rfl)).trans (s1 331 11 rfl), ((u386 (F := F1) (w := v_) 344 58 rfl)).trans (s1 344 58 rfl), fun j => ((u386 (F := F1) (w := v_) 381 j (fs_c rfl))).trans (s1 381 j (fs_c rfl))⟩⟩⟩⟩
  · rintro j A1 ⟨F1, ci, hci, ⟨hJ_, hA_⟩, g1, s1, c2⟩
    subst hA_
    subst hJ_
    subst hci
    refine ⟨11, xi_ch_a rfl gx_at rfl, ?_⟩
    refine ga_astore_n (lv2 := [(2, .ref (387 + X.length)), (0, .ref 0), (1, .ref 386)]) hm_81 rfl (Nat.le_of_ble_eq_true rfl) rfl ?_
    refine fl_iconst hm_81 rfl ?_
    refine gr_i (z := 1) hm_81 rfl rfl rfl ?_
    exact ⟨F1, _, rfl, Or.inr ⟨_, rfl⟩, g1, ⟨Or.inl ⟨rfl, c2⟩, (show stC F F1 from ⟨g1, ⟨fnd_cg hiv.2.1.1 (s1 _ _ rfl) (s1 _ _ rfl), dmi_fs hiv.2.1.2 hgi s1 rfl rfl (fun r k hr => fs_rg (a := 39) (b := 103) rfl r k hr)⟩, ⟨_, s1, rfl, rfl⟩, s1 _ _ rfl, s1 _ _ rfl, fun j => s1 _ _ (fs_c rfl)⟩), ⟨s1 0 8 rfl, fun j => s1 342 j (fs_c rfl), fun h9 => absurd (c2.symm.trans h9) (by decide), s1 344 60 rfl, fun j => s1 382 j (fs_c rfl), ⟨⟨s1 331 11 rfl, s1 335 200 rfl, fun j => s1 339 j (fs_c rfl)⟩, s1 344 13 rfl, s1 344 58 rfl, fun j => s1 381 j (fs_c rfl)⟩, ⟨⟨fun r j hr => (by rcases hr with rfl | rfl | hr; exact s1 16 j (fs_c rfl); exact s1 106 j (fs_c rfl); exact s1 r j (fs_rg (a := 126) (b := 330) rfl r j hr)), fun r j hr => (by rcases hr with rfl | rfl | rfl | rfl | rfl; exact s1 353 j (fs_c rfl); exact s1 354 j (fs_c rfl); exact s1 364 j (fs_c rfl); exact s1 367 j (fs_c rfl); exact s1 368 j (fs_c rfl)), s1 0 7 rfl, s1 0 8 rfl, s1 15 2 rfl, s1 120 3 rfl, s1 344 21 rfl⟩, s1 0 12 rfl, fun j => s1 343 j (fs_c rfl), s1 331 11 rfl, s1 344 58 rfl, fun j => s1 381 j (fs_c rfl)⟩⟩⟩⟩
def rl_82 (F F' : fl_N) : Prop := stC F F' ∧ rP F F'
theorem mh_82 {G : Nat → Nat → Option Nat} (hG : gg G) (F : fl_N) (X : xi_H) (hiv : ivq F) (w : Int) (hw : -2147483648 ≤ w ∧ w ≤ 2147483647) : fl_M xi_ms 82 8 141 [.ref 0, .int (Int32.ofInt w), .ref 386] (fl_H sh_T G F ++ X) (gqi (fun z A => ∃ (F' : fl_N) (X' : xi_H), fl_H sh_T G F' ++ X' = A ∧ (X' = X ∨ ∃ ci, X' = X ++ [gx ci]) ∧ gi F' ∧ rl_82 F F') gqn) := by
  have hgi := hiv.1
  intro fr lo hfr hlo
  show fl_R xi_ms 82 fr lo 0 [(0, .ref 0), (1, .int (Int32.ofInt w)), (2, .ref 386)] [] _ _
  refine ga_aload_n (v := .ref 386) hm_82 rfl rfl rfl ?_
  refine fl_iconst hm_82 rfl ?_
  refine ga_aload_n (v := .ref 0) hm_82 rfl rfl rfl ?_
  refine ga_iload_n (z := w) hm_82 rfl rfl ?_
  refine gHi (nY := 2) (F := 7) (L := 120) (As := [.int (Int32.ofInt w)]) (b := 0) (rest := [.int (Int32.ofInt 0), .ref 386]) hm_82 rfl hm_12 rfl rfl (fl_ob sc_0) rfl rfl rfl rfl rfl (by omega) (by omega) (mc_12 hG F X hgi w hw) ?_ ?_
  · rintro z A1 ⟨F1, hA_, g1, s1, c1⟩
    subst hA_
    refine ga_lany hm_82 rfl rfl rfl (fun w ⟨hw1, hw2⟩ => ?_)
    refine fl_last (z := 0) (v := w) hm_82 rfl sc_386 (by omega) (by omega) (by omega) ?_
    refine fl_goto hm_82 rfl ?_
    refine fl_iconst hm_82 rfl ?_
    refine gr_i (z := 0) hm_82 rfl rfl rfl ?_
    exact ⟨_, X, rfl, Or.inl rfl, gi_u g1 rfl (by omega) (by omega), ⟨stC_386 (show stC F F1 from ⟨g1, ⟨fnd_cg hiv.2.1.1 (s1 _ _ rfl) (s1 _ _ rfl), dmi_fs hiv.2.1.2 hgi s1 rfl rfl (fun r k hr => fs_rg (a := 39) (b := 103) rfl r k hr)⟩, ⟨_, s1, rfl, rfl⟩, s1 _ _ rfl, s1 _ _ rfl, fun j => s1 _ _ (fs_c rfl)⟩) (by omega) (by omega), ⟨⟨((u386 (F := F1) (w := w) 0 8 rfl)).trans (s1 0 8 rfl), ((u386 (F := F1) (w := w) 0 10 rfl)).trans (s1 0 10 rfl), fun j => ((u386 (F := F1) (w := w) 342 j (fs_c rfl))).trans (s1 342 j (fs_c rfl))⟩, ((u386 (F := F1) (w := w) 344 60 rfl)).trans (s1 344 60 rfl), fun j => ((u386 (F := F1) (w := w) 382 j (fs_c rfl))).trans (s1 382 j (fs_c rfl)), ((u386 (F := F1) (w := w) 120 3 rfl)).trans (s1 120 3 rfl), ⟨⟨((u386 (F := F1) (w := w) 331 11 rfl)).trans (s1 331 11 rfl), ((u386 (F := F1) (w := w) 335 200 rfl)).trans (s1 335 200 rfl), fun j => ((u386 (F := F1) (w := w) 339 j (fs_c rfl))).trans (s1 339 j (fs_c rfl))⟩, ((u386 (F := F1) (w := w) 344 13 rfl)).trans (s1 344 13 rfl), ((u386 (F := F1) (w := w) 344 58 rfl)).trans (s1 344 58 rfl), fun j => ((u386 (F := F1) (w := w) 381 j (fs_c rfl))).trans (s1 381 j (fs_c rfl))⟩, ⟨⟨fun r j hr => (by rcases hr with rfl | rfl | hr; exact ((u386 (F := F1) (w := w) 16 j (fs_c rfl))).trans (s1 16 j (fs_c rfl)); exact ((u386 (F := F1) (w := w) 106 j (fs_c rfl))).trans (s1 106 j (fs_c rfl)); exact ((u386 (F := F1) (w := w) r j (fs_rg (a := 126) (b := 330) rfl r j hr))).trans (s1 r j (fs_rg (a := 126) (b := 330) rfl r j hr))), fun r j hr => (by rcases hr with rfl | rfl | rfl | rfl | rfl; exact ((u386 (F := F1) (w := w) 353 j (fs_c rfl))).trans (s1 353 j (fs_c rfl)); exact ((u386 (F := F1) (w := w) 354 j (fs_c rfl))).trans (s1 354 j (fs_c rfl)); exact ((u386 (F := F1) (w := w) 364 j (fs_c rfl))).trans (s1 364 j (fs_c rfl)); exact ((u386 (F := F1) (w := w) 367 j (fs_c rfl))).trans (s1 367 j (fs_c rfl)); exact ((u386 (F := F1) (w := w) 368 j (fs_c rfl))).trans (s1 368 j (fs_c rfl))), ((u386 (F := F1) (w := w) 0 7 rfl)).trans (s1 0 7 rfl), ((u386 (F := F1) (w := w) 0 8 rfl)).trans (s1 0 8 rfl), ((u386 (F := F1) (w := w) 15 2 rfl)).trans (s1 15 2 rfl), ((u386 (F := F1) (w := w) 120 3 rfl)).trans (s1 120 3 rfl), ((u386 (F := F1) (w := w) 344 21 rfl)).trans (s1 344 21 rfl)⟩, ((u386 (F := F1) (w := w) 0 12 rfl)).trans (s1 0 12 rfl), fun j => ((u386 (F := F1) (w := w) 343 j (fs_c rfl))).trans (s1 343 j (fs_c rfl)), ((u386 (F := F1) (w := w) 331 11 rfl)).trans (s1 331 11 rfl), ((u386 (F := F1) (w := w) 344 58 rfl)).trans (s1 344 58 rfl), fun j => ((u386 (F := F1) (w := w) 381 j (fs_c rfl))).trans (s1 381 j (fs_c rfl))⟩⟩⟩⟩
  · rintro j A1 ⟨F1, ci, hci, ⟨hJ_, hA_⟩, g1, s1⟩
    subst hA_
    subst hJ_
    rcases hci with rfl | rfl
    ·
      refine ⟨12, xi_ch_a rfl gx_at rfl, ?_⟩
      refine ga_astore_n (lv2 := [(3, .ref (387 + X.length)), (0, .ref 0), (1, .int (Int32.ofInt w)), (2, .ref 386)]) hm_82 rfl (Nat.le_of_ble_eq_true rfl) rfl ?_
      refine fl_iconst hm_82 rfl ?_
      refine gr_i (z := 1) hm_82 rfl rfl rfl ?_
      exact ⟨F1, _, rfl, Or.inr ⟨_, rfl⟩, g1, ⟨(show stC F F1 from ⟨g1, ⟨fnd_cg hiv.2.1.1 (s1 _ _ rfl) (s1 _ _ rfl), dmi_fs hiv.2.1.2 hgi s1 rfl rfl (fun r k hr => fs_rg (a := 39) (b := 103) rfl r k hr)⟩, ⟨_, s1, rfl, rfl⟩, s1 _ _ rfl, s1 _ _ rfl, fun j => s1 _ _ (fs_c rfl)⟩), ⟨⟨s1 0 8 rfl, s1 0 10 rfl, fun j => s1 342 j (fs_c rfl)⟩, s1 344 60 rfl, fun j => s1 382 j (fs_c rfl), s1 120 3 rfl, ⟨⟨s1 331 11 rfl, s1 335 200 rfl, fun j => s1 339 j (fs_c rfl)⟩, s1 344 13 rfl, s1 344 58 rfl, fun j => s1 381 j (fs_c rfl)⟩, ⟨⟨fun r j hr => (by rcases hr with rfl | rfl | hr; exact s1 16 j (fs_c rfl); exact s1 106 j (fs_c rfl); exact s1 r j (fs_rg (a := 126) (b := 330) rfl r j hr)), fun r j hr => (by rcases hr with rfl | rfl | rfl | rfl | rfl; exact s1 353 j (fs_c rfl); exact s1 354 j (fs_c rfl); exact s1 364 j (fs_c rfl); exact s1 367 j (fs_c rfl); exact s1 368 j (fs_c rfl)), s1 0 7 rfl, s1 0 8 rfl, s1 15 2 rfl, s1 120 3 rfl, s1 344 21 rfl⟩, s1 0 12 rfl, fun j => s1 343 j (fs_c rfl), s1 331 11 rfl, s1 344 58 rfl, fun j => s1 381 j (fs_c rfl)⟩⟩⟩⟩
    ·
      refine ⟨15, xi_ch_b rfl gx_at rfl rfl rfl, ?_⟩
      refine ga_astore_n (lv2 := [(3, .ref (387 + X.length)), (0, .ref 0), (1, .int (Int32.ofInt w)), (2, .ref 386)]) hm_82 rfl (Nat.le_of_ble_eq_true rfl) rfl ?_
      refine fl_iconst hm_82 rfl ?_
      refine gr_i (z := 2) hm_82 rfl rfl rfl ?_
      exact ⟨F1, _, rfl, Or.inr ⟨_, rfl⟩, g1, ⟨(show stC F F1 from ⟨g1, ⟨fnd_cg hiv.2.1.1 (s1 _ _ rfl) (s1 _ _ rfl), dmi_fs hiv.2.1.2 hgi s1 rfl rfl (fun r k hr => fs_rg (a := 39) (b := 103) rfl r k hr)⟩, ⟨_, s1, rfl, rfl⟩, s1 _ _ rfl, s1 _ _ rfl, fun j => s1 _ _ (fs_c rfl)⟩), ⟨⟨s1 0 8 rfl, s1 0 10 rfl, fun j => s1 342 j (fs_c rfl)⟩, s1 344 60 rfl, fun j => s1 382 j (fs_c rfl), s1 120 3 rfl, ⟨⟨s1 331 11 rfl, s1 335 200 rfl, fun j => s1 339 j (fs_c rfl)⟩, s1 344 13 rfl, s1 344 58 rfl, fun j => s1 381 j (fs_c rfl)⟩, ⟨⟨fun r j hr => (by rcases hr with rfl | rfl | hr; exact s1 16 j (fs_c rfl); exact s1 106 j (fs_c rfl); exact s1 r j (fs_rg (a := 126) (b := 330) rfl r j hr)), fun r j hr => (by rcases hr with rfl | rfl | rfl | rfl | rfl; exact s1 353 j (fs_c rfl); exact s1 354 j (fs_c rfl); exact s1 364 j (fs_c rfl); exact s1 367 j (fs_c rfl); exact s1 368 j (fs_c rfl)), s1 0 7 rfl, s1 0 8 rfl, s1 15 2 rfl, s1 120 3 rfl, s1 344 21 rfl⟩, s1 0 12 rfl, fun j => s1 343 j (fs_c rfl), s1 331 11 rfl, s1 344 58 rfl, fun j => s1 381 j (fs_c rfl)⟩⟩⟩⟩

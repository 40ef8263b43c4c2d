/-! LETTERS: the bytes of a name's number -/
theorem lus_8 {v s : Int} {u : UInt64} {n : Nat} (h0 : 0 ≤ v) (h1 : v < 9223372036854775808) (e1 : ((Int32.ofInt s).toInt64.toUInt64 &&& Int64.toUInt64 63) = u) (e2 : u.toNat % 64 = n) : lus v s = v / ((2 ^ n : Nat) : Int) := by
  have e : lus v s = (((Int64.ofInt v).toUInt64 >>> ((Int32.ofInt s).toInt64.toUInt64 &&& Int64.toUInt64 63)).toInt64).toInt := lop_e 4 v s
  have e3 : (Int64.ofInt v).toUInt64.toNat = v.toNat := by
    show (BitVec.ofInt 64 v).toNat = _
    rw [BitVec.toNat_ofInt]
    omega
  have e4 : ((Int64.ofInt v).toUInt64 >>> u).toNat = v.toNat / 2 ^ n := by
    rw [UInt64.toNat_shiftRight, e2, e3, Nat.shiftRight_eq_div_pow]
  have e5 : v.toNat / 2 ^ n ≤ v.toNat := Nat.div_le_self _ _
  rw [e, e1, u64_i, e4, fl_toIntL ⟨by omega, by omega⟩, Int.natCast_ediv, Int.toNat_of_nonneg h0]
theorem iam_255 {a : Int} (h0 : 0 ≤ a) : iam a 255 = a % 256 := by
  have e : iam a 255 = (Int32.ofInt a &&& Int32.ofInt 255).toInt := lop_e 6 a 255
  have e2 : (Int32.ofInt a &&& Int32.ofInt 255).toBitVec.toNat = (a % 4294967296).toNat % 256 := by
    show ((BitVec.ofInt 32 a) &&& (BitVec.ofInt 32 255)).toNat = _
    rw [BitVec.toNat_and, BitVec.toNat_ofInt, show (BitVec.ofInt 32 255).toNat = 2 ^ 8 - 1 from by decide, Nat.and_two_pow_sub_one_eq_mod]
    rfl
  rw [e]
  show (Int32.ofInt a &&& Int32.ofInt 255).toBitVec.toInt = _
  rw [BitVec.toInt_eq_toNat_cond, e2, if_pos (by omega)]
  omega
theorem by_8 {v : Int} {j : Nat} (h0 : 0 ≤ v) (h1 : v < 9223372036854775808) (hj : j ≤ 5) : iam (lus v (8 * (j : Int))) 255 = v / (256 : Int) ^ j % 256 := by
  rcases (show j = 0 ∨ j = 1 ∨ j = 2 ∨ j = 3 ∨ j = 4 ∨ j = 5 by omega) with rfl | rfl | rfl | rfl | rfl | rfl
  · rw [lus_8 (n := 0) (u := 0) h0 h1 (by decide +kernel) (by decide), iam_255 (Int.ediv_nonneg h0 (by decide))]
    rfl
  · rw [lus_8 (n := 8) (u := 8) h0 h1 (by decide +kernel) (by decide), iam_255 (Int.ediv_nonneg h0 (by decide))]
    rfl
  · rw [lus_8 (n := 16) (u := 16) h0 h1 (by decide +kernel) (by decide), iam_255 (Int.ediv_nonneg h0 (by decide))]
    rfl
  · rw [lus_8 (n := 24) (u := 24) h0 h1 (by decide +kernel) (by decide), iam_255 (Int.ediv_nonneg h0 (by decide))]
    rfl
  · rw [lus_8 (n := 32) (u := 32) h0 h1 (by decide +kernel) (by decide), iam_255 (Int.ediv_nonneg h0 (by decide))]
    rfl
  · rw [lus_8 (n := 40) (u := 40) h0 h1 (by decide +kernel) (by decide), iam_255 (Int.ediv_nonneg h0 (by decide))]
    rfl
theorem nc_b {c : Int} (h : isnc c) : 48 ≤ c ∧ c ≤ 122 := by
  unfold isnc at h
  omega
/-- the j-th byte of a name's number is its j-th letter, from behind -/
theorem h256_at : ∀ (w : List Int) (j : Nat), okw w → h256 w / (256 : Int) ^ j % 256 = w.getD j 0 := by
  intro w
  induction w with
  | nil =>
    intro j _
    show (0 : Int) / 256 ^ j % 256 = 0
    rw [Int.zero_ediv]
    rfl
  | cons c w ih =>
    intro j h
    have hc := nc_b (h c List.mem_cons_self)
    have hw : okw w := fun x hx => h x (List.mem_cons_of_mem _ hx)
    have hn := h256_nn hw
    cases j with
    | zero =>
      show (h256 w * 256 + c) / 256 ^ 0 % 256 = c
      rw [Int.pow_zero, Int.ediv_one]
      omega
    | succ j =>
      show (h256 w * 256 + c) / 256 ^ (j + 1) % 256 = w.getD j 0
      rw [Int.pow_succ', ← Int.ediv_ediv_of_nonneg (by decide), show (h256 w * 256 + c) / 256 = h256 w by omega]
      exact ih j hw
theorem h256_lt : ∀ (w : List Int), okw w → w.length ≤ 6 → h256 w < 281474976710656 := by
  intro w h hl
  have key : ∀ (w : List Int), okw w → h256 w < (256 : Int) ^ w.length := by
    intro w
    induction w with
    | nil => intro _; decide
    | cons c w ih =>
      intro h
      have hc := nc_b (h c List.mem_cons_self)
      have h1 := ih (fun x hx => h x (List.mem_cons_of_mem _ hx))
      show h256 w * 256 + c < 256 ^ (w.length + 1)
      rw [Int.pow_succ]
      omega
  have h1 := key w h
  rcases (show w.length = 0 ∨ w.length = 1 ∨ w.length = 2 ∨ w.length = 3 ∨ w.length = 4 ∨ w.length = 5 ∨ w.length = 6 by omega) with e | e | e | e | e | e | e <;> rw [e] at h1 <;> exact Int.lt_of_lt_of_le h1 (by decide)
theorem iam_b8 (a : Int) : 0 ≤ iam a 255 ∧ iam a 255 ≤ 255 := by
  obtain ⟨z, hz, h0, h1⟩ := fl_and (x := Int32.ofInt a) (m := 255) (by omega)
  have e : iam a 255 = (Int32.ofInt a &&& Int32.ofInt 255).toInt := lop_e 6 a 255
  have hz' : Int32.ofInt a &&& Int32.ofInt 255 = Int32.ofInt z := hz
  rw [e, hz', fl_toInt ⟨by omega, by omega⟩]
  omega
/-- a name of at most six letters, as the class keeps it -/
def nm6 (v : Int) (w : List Int) : Prop := v = h256 w ∧ okw w ∧ w.length ≤ 6
theorem tn_c {v : Int} {w : List Int} {sh : Int} (hw : nm6 v w) (h0 : 0 ≤ sh) (h1 : sh ≤ 40) (h8 : sh % 8 = 0) : iam (lus v sh) 255 = w.getD (sh / 8).toNat 0 := by
  obtain ⟨e, hk, hl⟩ := hw
  have hn := h256_nn hk
  have hlt := h256_lt w hk hl
  have e2 : sh = 8 * (((sh / 8).toNat : Nat) : Int) := by omega
  rw [e, ← h256_at w (sh / 8).toNat hk, ← by_8 (v := h256 w) (j := (sh / 8).toNat) hn (by omega) (by omega), ← e2]
theorem getD_nc {w : List Int} {j : Nat} (h : okw w) (hj : j < w.length) : 48 ≤ w.getD j 0 ∧ w.getD j 0 ≤ 122 := by
  rw [List.getD_eq_getElem?_getD, List.getElem?_eq_getElem hj]
  exact nc_b (h _ (List.getElem_mem hj))
theorem tn_n {v : Int} {w L : List Int} {sh : Int} (hw : nm6 v w) (h0 : 0 ≤ sh) (h1 : sh ≤ 40) (h8 : sh % 8 = 0) (hc : iam (lus v sh) 255 = 0) : L ++ (w.drop ((sh - 8 + 8) / 8).toNat).reverse = L ++ (w.drop ((sh + 8) / 8).toNat).reverse := by
  rw [tn_c hw h0 h1 h8] at hc
  have h2 : w.length ≤ (sh / 8).toNat := by
    by_cases c : (sh / 8).toNat < w.length
    · have h3 := getD_nc hw.2.1 c
      omega
    · omega
  rw [List.drop_eq_nil_of_le (by omega), List.drop_eq_nil_of_le (by omega)]
theorem tn_y {v : Int} {w L : List Int} {sh : Int} (hw : nm6 v w) (h0 : 0 ≤ sh) (h1 : sh ≤ 40) (h8 : sh % 8 = 0) (hc : ¬ iam (lus v sh) 255 = 0) : L ++ (w.drop ((sh - 8 + 8) / 8).toNat).reverse = (L ++ (w.drop ((sh + 8) / 8).toNat).reverse) ++ [iam (lus v sh) 255] := by
  rw [tn_c hw h0 h1 h8] at hc ⊢
  have h2 : (sh / 8).toNat < w.length := by
    by_cases c : (sh / 8).toNat < w.length
    · exact c
    · exfalso
      apply hc
      rw [List.getD_eq_getElem?_getD, List.getElem?_eq_none (by omega)]
      rfl
  rw [show ((sh - 8 + 8) / 8).toNat = (sh / 8).toNat by omega, show ((sh + 8) / 8).toNat = (sh / 8).toNat + 1 by omega, List.drop_eq_getElem_cons h2, List.reverse_cons, List.append_assoc, List.getD_eq_getElem?_getD, List.getElem?_eq_getElem h2]
  rfl
theorem rep_sn {g g' : Nat → Int} {n n' c : Int} {L : List Int} (h : rep g n L) (h1 : n' = n + 1) (h2 : g' n.toNat = c) (h3 : ∀ j : Nat, ¬ j = n.toNat → g' j = g j) : rep g' n' (L ++ [c]) := by
  have h4 := h.1
  refine ⟨by rw [h1, h4, List.length_append, List.length_singleton]; omega, fun j x hx => ?_⟩
  by_cases e : j < L.length
  · rw [List.getElem?_append_left e] at hx
    rw [h3 j (by omega)]
    exact h.2 j x hx
  · rw [List.getElem?_append_right (by omega)] at hx
    have e2 : j - L.length = 0 := by
      by_cases e3 : j - L.length = 0
      · exact e3
      · rw [List.getElem?_eq_none (by rw [List.length_singleton]; omega)] at hx
        cases hx
    rw [e2] at hx
    have e4 : c = x := Option.some.inj hx
    rw [show j = n.toNat by omega, h2, e4]
theorem drop_le {w : List Int} {j : Nat} : (w.drop j).reverse.length ≤ w.length := by
  rw [List.length_reverse, List.length_drop]
  omega
theorem tn_r {v : Int} {w L : List Int} {sh : Int} (hw : nm6 v w) (h0 : 0 ≤ sh) (h1 : sh ≤ 40) (h8 : sh % 8 = 0) (hc : ¬ iam (lus v sh) 255 = 0) (hr : (L.length : Int) + 6 ≤ 6000) : ((L ++ (w.drop ((sh + 8) / 8).toNat).reverse).length : Int) < 6000 := by
  rw [tn_c hw h0 h1 h8] at hc
  have h2 : (sh / 8).toNat < w.length := by
    by_cases c : (sh / 8).toNat < w.length
    · exact c
    · exfalso
      apply hc
      rw [List.getD_eq_getElem?_getD, List.getElem?_eq_none (by omega)]
      rfl
  have h3 := hw.2.2
  rw [List.length_append, List.length_reverse, List.length_drop]
  omega

/-! letters of the reference: how many are told, and the one that is wanted -/
def tdr (F : fl_N) (i : Int) (L : List Int) : Prop := F 344 67 = (L.length : Int) ∧ F 344 68 = i ∧ ∀ x, 0 ≤ i → L[i.toNat]? = some x → F 344 69 = x
theorem tdr_sn {F F' : fl_N} {i c : Int} {L : List Int} (h : tdr F i L) (h1 : F' 344 67 = F 344 67 + 1) (h2 : F' 344 68 = F 344 68) (h3 : (F 344 67 = i ∧ F' 344 69 = c) ∨ (¬ F 344 67 = i ∧ F' 344 69 = F 344 69)) : tdr F' i (L ++ [c]) := by
  obtain ⟨a1, a2, a3⟩ := h
  refine ⟨by rw [h1, a1, List.length_append, List.length_singleton]; omega, h2.trans a2, fun x h0 hx => ?_⟩
  by_cases e : i.toNat < L.length
  · rw [List.getElem?_append_left e] at hx
    rcases h3 with ⟨b1, -⟩ | ⟨-, b2⟩
    · omega
    · rw [b2]
      exact a3 x h0 hx
  · rw [List.getElem?_append_right (by omega)] at hx
    have e2 : i.toNat - L.length = 0 := by
      by_cases e3 : i.toNat - L.length = 0
      · exact e3
      · rw [List.getElem?_eq_none (by rw [List.length_singleton]; omega)] at hx
        cases hx
    rw [e2] at hx
    have e4 : c = x := Option.some.inj hx
    rcases h3 with ⟨-, b2⟩ | ⟨b1, -⟩
    · rw [b2, e4]
    · omega
def nm37 (v : Int) (w : List Int) : Prop := v = h37 w ∧ okw w ∧ w ≠ [] ∧ w.length ≤ 6
theorem h37_at : ∀ (w : List Int) (j : Nat), okw w → j < w.length → h37 w / (37 : Int) ^ j % 37 = dg37 (w.getD j 0) := by
  intro w
  induction w with
  | nil => intro j _ hj; simp at hj
  | cons c w ih =>
    intro j h hj
    have hc := dg37_bd (h c List.mem_cons_self)
    have hw : okw w := fun x hx => h x (List.mem_cons_of_mem _ hx)
    have hn := h37_nn hw
    cases j with
    | zero =>
      show (37 * h37 w + dg37 c) / 37 ^ 0 % 37 = dg37 c
      rw [Int.pow_zero, Int.ediv_one]
      omega
    | succ j =>
      show (37 * h37 w + dg37 c) / 37 ^ (j + 1) % 37 = dg37 (w.getD j 0)
      rw [Int.pow_succ', ← Int.ediv_ediv_of_nonneg (by decide), show (37 * h37 w + dg37 c) / 37 = h37 w by omega]
      exact ih j hw (by simpa using hj)
theorem h37_lt : ∀ (w : List Int), okw w → h37 w < (37 : Int) ^ w.length := by
  intro w
  induction w with
  | nil => intro _; decide
  | cons c w ih =>
    intro h
    have hc := dg37_bd (h c List.mem_cons_self)
    have h1 := ih (fun x hx => h x (List.mem_cons_of_mem _ hx))
    show 37 * h37 w + dg37 c < 37 ^ (w.length + 1)
    rw [Int.pow_succ]
    omega
theorem h37_ge : ∀ (w : List Int), okw w → ∀ m : Nat, m < w.length → (37 : Int) ^ m ≤ h37 w := by
  intro w
  induction w with
  | nil => intro _ m hm; simp at hm
  | cons c w ih =>
    intro h m hm
    have hc := dg37_bd (h c List.mem_cons_self)
    have hw : okw w := fun x hx => h x (List.mem_cons_of_mem _ hx)
    have hn := h37_nn hw
    cases m with
    | zero =>
      show 37 ^ 0 ≤ 37 * h37 w + dg37 c
      rw [Int.pow_zero]
      omega
    | succ m =>
      have h1 := ih hw m (by simpa using hm)
      show 37 ^ (m + 1) ≤ 37 * h37 w + dg37 c
      rw [Int.pow_succ]
      omega
theorem p37_pos (m : Nat) : (0 : Int) < 37 ^ m := Int.pow_pos (by decide)
theorem tu_s {v un : Int} {w : List Int} {m : Nat} (hw : nm37 v w) (h1 : m < w.length) (h2 : un = 37 ^ m) (h3 : 37 ≤ v / un) : m + 1 < w.length ∧ un * 37 = 37 ^ (m + 1) := by
  obtain ⟨e, hk, -, -⟩ := hw
  have hp := p37_pos m
  refine ⟨?_, by rw [h2, Int.pow_succ]⟩
  by_cases c : m + 1 < w.length
  · exact c
  · exfalso
    have h4 := h37_lt w hk
    rw [show w.length = m + 1 by omega, Int.pow_succ] at h4
    rw [h2, e] at h3
    have h5 := Int.mul_le_of_le_ediv hp h3
    omega
theorem tu_e {v un : Int} {w : List Int} {m : Nat} (hw : nm37 v w) (h1 : m < w.length) (h2 : un = 37 ^ m) (h3 : v / un < 37) : m + 1 = w.length := by
  obtain ⟨e, hk, -, -⟩ := hw
  have hp := p37_pos m
  by_cases c : m + 1 = w.length
  · exact c
  · exfalso
    have h4 := h37_ge w hk (m + 1) (by omega)
    rw [h2, e] at h3
    have h5 : 37 ≤ h37 w / 37 ^ m := Int.le_ediv_of_mul_le hp (by rw [Int.pow_succ] at h4; omega)
    omega
theorem dg_lt {c : Int} (h : isnc c) : (26 < dg37 c → dg37 c + 21 = c) ∧ (¬ 26 < dg37 c → dg37 c + 96 = c) := by
  unfold isnc at h
  unfold dg37
  split <;> omega
theorem tl_c {v u : Int} {w : List Int} {m : Nat} (hw : nm37 v w) (h1 : m < w.length) (h2 : u = 37 ^ m) : (26 < v / u % 37 → v / u % 37 + 21 = w.getD m 0) ∧ (¬ 26 < v / u % 37 → v / u % 37 + 96 = w.getD m 0) := by
  obtain ⟨e, hk, -, -⟩ := hw
  rw [h2, e, h37_at w m hk h1]
  refine dg_lt ?_
  rw [List.getD_eq_getElem?_getD, List.getElem?_eq_getElem h1]
  exact hk _ (List.getElem_mem h1)
theorem drop_s {w L : List Int} {m : Nat} (h : m < w.length) : (L ++ (w.drop (m + 1)).reverse) ++ [w.getD m 0] = L ++ (w.drop m).reverse := by
  rw [List.drop_eq_getElem_cons h, List.reverse_cons, List.append_assoc, List.getD_eq_getElem?_getD, List.getElem?_eq_getElem h]
  rfl
def tnr (F : fl_N) (i : Int) (L w : List Int) (u : Int) : Prop := (u = 0 ∧ tdr F i (L ++ w.reverse)) ∨ ∃ m : Nat, m < w.length ∧ u = 37 ^ m ∧ tdr F i (L ++ (w.drop (m + 1)).reverse)
theorem tnr_0 {F : fl_N} {i u : Int} {L w : List Int} {m : Nat} (h1 : m + 1 = w.length) (h2 : u = 37 ^ m) (h : tdr F i L) : tnr F i L w u := by
  refine Or.inr ⟨m, by omega, h2, ?_⟩
  rw [List.drop_eq_nil_of_le (by omega)]
  show tdr F i (L ++ [])
  rw [List.append_nil]
  exact h
theorem tnr_s {F : fl_N} {i u c : Int} {L w : List Int} {m : Nat} (h1 : m < w.length) (h2 : u = 37 ^ m) (h : tdr F i ((L ++ (w.drop (m + 1)).reverse) ++ [c])) (hc : c = w.getD m 0) : tnr F i L w (u / 37) := by
  rw [hc, drop_s h1] at h
  cases m with
  | zero =>
    refine Or.inl ⟨by rw [h2]; decide, ?_⟩
    exact h
  | succ m =>
    refine Or.inr ⟨m, by omega, ?_, h⟩
    have hp := p37_pos m
    rw [h2, Int.pow_succ]
    omega
theorem tnr_e {F : fl_N} {i u : Int} {L w : List Int} (h : tnr F i L w u) (hu : u ≤ 0) : tdr F i (L ++ w.reverse) := by
  rcases h with ⟨-, h⟩ | ⟨m, -, h2, -⟩
  · exact h
  · have hp := p37_pos m
    omega

/-! the line of a step -/
def nmk (x : Int) : Prop := ∃ w, nm6 x w ∧ w ≠ []
noncomputable def nmx (x : Int) : List Int := @dite _ (nmk x) (Classical.propDecidable _) (fun h => h.choose) (fun _ => [])
theorem nmx_e {x : Int} (h : nmk x) : nm6 x (nmx x) ∧ nmx x ≠ [] := by
  unfold nmx
  rw [dif_pos h]
  exact h.choose_spec
noncomputable def sTp (F : fl_N) (a k : Nat) : List Int := [40] ++ (nmx (F 16 (F a 0).toNat)).reverse ++ (List.range k).flatMap (fun k => if 0 ≤ F (a + 1) k then 32 :: (nmx (F 106 (F (a + 1) k).toNat)).reverse else [])
noncomputable def sTx (F : fl_N) (a : Nat) : List Int := sTp F a 3 ++ [41, 10]
def sNm (F : fl_N) (a : Nat) : Prop := nmk (F 16 (F a 0).toNat) ∧ ∀ k, k < 3 → 0 ≤ F (a + 1) k → nmk (F 106 (F (a + 1) k).toNat)
theorem sTp_s {F : fl_N} {a k : Nat} : sTp F a (k + 1) = sTp F a k ++ (if 0 ≤ F (a + 1) k then 32 :: (nmx (F 106 (F (a + 1) k).toNat)).reverse else []) := by
  unfold sTp
  rw [List.range_succ, List.flatMap_append, List.flatMap_cons, List.flatMap_nil, List.append_nil]
  exact (List.append_assoc _ _ _).symm
theorem sTp_le {F : fl_N} {a : Nat} (h : sNm F a) : ∀ k, k ≤ 3 → (sTp F a k).length ≤ 7 + 7 * k := by
  intro k
  induction k with
  | zero =>
    intro _
    have h1 := (nmx_e h.1).1.2.2
    show ([40] ++ (nmx (F 16 (F a 0).toNat)).reverse ++ []).length ≤ 7
    rw [List.append_nil, List.length_append, List.length_reverse, List.length_singleton]
    omega
  | succ k ih =>
    intro hk
    have h1 := ih (by omega)
    rw [sTp_s, List.length_append]
    by_cases c : 0 ≤ F (a + 1) k
    · have h2 := (nmx_e (h.2 k (by omega) c)).1.2.2
      rw [if_pos c, List.length_cons, List.length_reverse]
      omega
    · rw [if_neg c, List.length_nil]
      omega
theorem sTx_le {F : fl_N} {a : Nat} (h : sNm F a) : (sTx F a).length ≤ 30 := by
  have h1 := sTp_le h 3 (Nat.le_refl _)
  unfold sTx
  rw [List.length_append]
  show (sTp F a 3).length + 2 ≤ 30
  omega
theorem sTp_cg {F F' : fl_N} {a : Nat} (h0 : F' a 0 = F a 0) (h1 : ∀ k, F' (a + 1) k = F (a + 1) k) (h2 : ∀ k, F' 16 k = F 16 k) (h3 : ∀ k, F' 106 k = F 106 k) (k : Nat) : sTp F' a k = sTp F a k := by
  unfold sTp
  simp only [h0, h1, h2, h3]
theorem sNm_cg {F F' : fl_N} {a : Nat} (h : sNm F a) (h0 : F' a 0 = F a 0) (h1 : ∀ k, F' (a + 1) k = F (a + 1) k) (h2 : ∀ k, F' 16 k = F 16 k) (h3 : ∀ k, F' 106 k = F 106 k) : sNm F' a := by
  unfold sNm
  simp only [h0, h1, h2, h3]
  exact h
/-- the text of the first k steps of a plan -/
noncomputable def pTx (F : fl_N) (k : Nat) : List Int := (List.range k).flatMap (fun j => sTx F (126 + 5 * (F 339 j).toNat))
theorem pTx_s {F : fl_N} {k : Nat} : pTx F (k + 1) = pTx F k ++ sTx F (126 + 5 * (F 339 k).toNat) := by
  unfold pTx
  rw [List.range_succ, List.flatMap_append, List.flatMap_cons, List.flatMap_nil, List.append_nil]
theorem pTx_le {F : fl_N} : ∀ k, (∀ j, j < k → sNm F (126 + 5 * (F 339 j).toNat)) → (pTx F k).length ≤ 30 * k := by
  intro k
  induction k with
  | zero => intro _; exact Nat.le_refl _
  | succ k ih =>
    intro h
    have h1 := ih (fun j hj => h j (by omega))
    have h2 := sTx_le (h k (by omega))
    rw [pTx_s, List.length_append]
    omega

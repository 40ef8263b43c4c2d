/-! NAMES AND TOKENS, plainly -/
section GL
variable {Ms : List xi_M} {y fr lo pc : Nat} {M : xi_M} {lv lv2 : xi_L} {st r : List Value} {A : xi_H} {nx : Nat} {aux : List Nat} {Q : Outcome → xi_H → Prop}
theorem ga_shl8 (z : Int) : Int64.ofInt z <<< ((Int32.ofInt 8).toInt64 &&& 63) = Int64.ofInt (z * 256) := by
  have e : (Int32.ofInt 8).toInt64 &&& 63 = 8 := by decide
  have e2 : Int64.ofInt z <<< (8 : Int64) = Int64.ofInt z * 256 := by
    rw [← Int64.toBitVec_inj, Int64.toBitVec_shiftLeft, Int64.toBitVec_mul]
    have e3 : ((8 : Int64).toBitVec.smod 64).toNat = 8 := by decide
    have e5 : (256 : Int64).toBitVec = BitVec.twoPow 64 8 := by decide
    have e6 : (Int64.ofInt z).toBitVec <<< (8 : Int64).toBitVec.smod 64 = (Int64.ofInt z).toBitVec <<< ((8 : Int64).toBitVec.smod 64).toNat := rfl
    rw [e6, e3, e5, BitVec.shiftLeft_eq_mul_twoPow]
  have e4 : (256 : Int64) = Int64.ofInt 256 := by decide
  rw [e, e2, e4, fl_mulL]
theorem ga_or8 {z c : Int} (h0 : 0 ≤ z) (h1 : z < 1099511627776) (hc0 : 0 ≤ c) (hc1 : c < 256) : Int64.ofInt (z * 256) ||| Int64.ofInt c = Int64.ofInt (z * 256 + c) := by
  obtain ⟨n, rfl⟩ := Int.eq_ofNat_of_zero_le h0
  obtain ⟨k, rfl⟩ := Int.eq_ofNat_of_zero_le hc0
  have e1 : (n : Int) * 256 = ((2 ^ 8 * n : Nat) : Int) := by omega
  have e2 : (n : Int) * 256 + (k : Int) = ((2 ^ 8 * n + k : Nat) : Int) := by omega
  rw [e2, e1, Int64.ofInt_eq_ofNat, Int64.ofInt_eq_ofNat, Int64.ofInt_eq_ofNat, ← Int64.toBitVec_inj, Int64.toBitVec_or, Nat.two_pow_add_eq_or_of_lt (by omega)]
  simp only [Int64.toBitVec_ofNat']
  rw [BitVec.ofNat_or]
theorem ga_lshl8 {z : Int} (hM : Ms[y]? = some M) (hrow : xi_row M.2.2.2.2.1 pc = some (.lshl, nx, aux)) (hk : fl_R Ms y fr lo nx lv (.long (Int64.ofInt (z * 256)) :: r) A Q) : fl_R Ms y fr lo pc lv (.int (Int32.ofInt 8) :: .long (Int64.ofInt z) :: r) A Q := by
  rw [← ga_shl8] at hk
  exact fl_s hM hrow rfl rfl rfl hk
theorem ga_lor8 {z c : Int} (hM : Ms[y]? = some M) (hrow : xi_row M.2.2.2.2.1 pc = some (.lor, nx, aux)) (h0 : 0 ≤ z) (h1 : z < 1099511627776) (hc0 : 0 ≤ c) (hc1 : c < 256) (hk : fl_R Ms y fr lo nx lv (.long (Int64.ofInt (z * 256 + c)) :: r) A Q) : fl_R Ms y fr lo pc lv (.long (Int64.ofInt c) :: .long (Int64.ofInt (z * 256)) :: r) A Q := by
  rw [← ga_or8 h0 h1 hc0 hc1] at hk
  exact fl_s hM hrow rfl rfl rfl hk
theorem fx_icmp_ne {a b : Int} {off : Int} {tgt : Nat} (hM : Ms[y]? = some M) (hrow : xi_row M.2.2.2.2.1 pc = some (.if_icmp .ne off, nx, [tgt])) (ha : fl_i a) (hb : fl_i b) (h1 : ¬ a = b → fl_R Ms y fr lo tgt lv r A Q) (h2 : a = b → fl_R Ms y fr lo nx lv r A Q) : fl_R Ms y fr lo pc lv (.int (Int32.ofInt b) :: .int (Int32.ofInt a) :: r) A Q := fl_icmp_ne hM hrow ha hb h1 (fun h => h2 (by omega))
theorem fx_if_ne {a : Int} {off : Int} {tgt : Nat} (hM : Ms[y]? = some M) (hrow : xi_row M.2.2.2.2.1 pc = some (.ifCond .ne off, nx, [tgt])) (ha : fl_i a) (h1 : ¬ a = 0 → fl_R Ms y fr lo tgt lv r A Q) (h2 : a = 0 → fl_R Ms y fr lo nx lv r A Q) : fl_R Ms y fr lo pc lv (.int (Int32.ofInt a) :: r) A Q := fl_if_ne hM hrow ha h1 (fun h => h2 (by omega))
end GL
/-- letters of a name -/
abbrev isnc (c : Int) : Prop := 97 ≤ c ∧ c ≤ 122 ∨ 48 ≤ c ∧ c ≤ 57
def nco (f : Nat → Int) : Nat → Nat → Int → Int
  | _, 0, v => v
  | i, k + 1, v => if isnc (f i) then nco f (i + 1) k (v * 256 + f i) else 0
def nmc (f : Nat → Int) (s e : Nat) : Int := if 6 < e - s then 0 else nco f s (e - s) 0
theorem nco_bd (f : Nat → Int) : ∀ (k i m : Nat) (v : Int), 0 ≤ v → v < 256 ^ m → 0 ≤ nco f i k v ∧ nco f i k v < 256 ^ (m + k) := by
  intro k
  induction k with
  | zero => intro i m v h0 h1; exact ⟨h0, h1⟩
  | succ k ih =>
    intro i m v h0 h1
    unfold nco
    split
    · rename_i hc
      have hc2 : 0 ≤ f i ∧ f i < 256 := by unfold isnc at hc; omega
      have h2 := ih (i + 1) (m + 1) (v * 256 + f i) (by omega) (by rw [Int.pow_succ]; omega)
      rw [show m + (k + 1) = m + 1 + k by omega]
      exact h2
    · refine ⟨Int.le_refl _, Int.pow_pos (by omega)⟩
theorem pw_5 : ∀ k : Nat, k < 6 → (256 : Int) ^ k ≤ 1099511627776 := by decide
theorem pw_6 : ∀ k : Nat, k < 7 → (256 : Int) ^ k ≤ 281474976710656 := by decide
theorem pw_b {v : Int} {k : Nat} (hk : k ≤ 5) (h : v < 256 ^ k) : v < 1099511627776 := by
  have h1 := pw_5 k (by omega)
  omega
theorem pw_s {v c : Int} {k : Nat} (h : v < 256 ^ k) (hc : c < 256) : v * 256 + c < 256 ^ (k + 1) := by
  rw [Int.pow_succ]
  omega
theorem nco_step {f : Nat → Int} {i e v t : Int} (h : nco f i.toNat (e - i).toNat v = t) (hi : i < e) (h0 : 0 ≤ i) (hc : isnc (f i.toNat)) : nco f (i + 1).toNat (e - (i + 1)).toNat (v * 256 + f i.toNat) = t := by
  have e1 : (e - i).toNat = (e - (i + 1)).toNat + 1 := by omega
  have e2 : (i + 1).toNat = i.toNat + 1 := by omega
  rw [e1] at h
  unfold nco at h
  rw [if_pos hc] at h
  rw [e2]
  exact h
theorem nco_bad {f : Nat → Int} {i e v t : Int} (h : nco f i.toNat (e - i).toNat v = t) (hi : i < e) (hc : ¬ isnc (f i.toNat)) : 0 = t := by
  have e1 : (e - i).toNat = (e - (i + 1)).toNat + 1 := by omega
  rw [e1] at h
  unfold nco at h
  rw [if_neg hc] at h
  exact h
theorem nco_end {f : Nat → Int} {i e v t : Int} (h : nco f i.toNat (e - i).toNat v = t) (hi : e ≤ i) : v = t := by
  have e1 : (e - i).toNat = 0 := by omega
  rw [e1] at h
  exact h
theorem nmc_lo {f : Nat → Int} {s e : Int} (h0 : 0 ≤ s) (h : ¬ 6 < e - s) : nco f s.toNat (e - s).toNat 0 = nmc f s.toNat e.toNat := by
  unfold nmc
  rw [if_neg (by omega), show e.toNat - s.toNat = (e - s).toNat by omega]
theorem nmc_hi {f : Nat → Int} {s e : Int} (h0 : 0 ≤ s) (h : 6 < e - s) : 0 = nmc f s.toNat e.toNat := by
  unfold nmc
  rw [if_pos (by omega)]
theorem nmc_bd (f : Nat → Int) (s e : Nat) : 0 ≤ nmc f s e ∧ nmc f s e < 281474976710656 := by
  unfold nmc
  split
  · omega
  · rename_i h
    have h1 := nco_bd f (e - s) s 0 0 (by omega) (by decide)
    have h2 := pw_6 (0 + (e - s)) (by omega)
    omega
/-! TOKENS -/
def tkc (f : Nat → Int) (s e : Nat) : Int := if f s = 40 ∨ f s = 41 then 0 else if f s = 63 then nmc f (s + 1) e else nmc f s e
def tkk (f : Nat → Int) (s e : Nat) : Int := if f s = 40 then 0 else if f s = 41 then 1 else if tkc f s e = 0 then 4 else if f s = 63 then 3 else 2
def tkz (f : Nat → Int) : Nat → Nat → Int → List (Nat × Nat)
  | 0, i, s => if 0 ≤ s then [(s.toNat, i)] else []
  | k + 1, i, s => if f i = 32 ∨ f i = 40 ∨ f i = 41 then (if 0 ≤ s then [(s.toNat, i)] else []) ++ ((if f i = 32 then [] else [(i, i + 1)]) ++ tkz f k (i + 1) (-1)) else tkz f k (i + 1) (if s < 0 then (i : Int) else s)
theorem tkz_step {f : Nat → Int} {n i : Int} (s : Int) (h0 : 0 ≤ i) (h : i < n) : tkz f (n - i).toNat i.toNat s = if f i.toNat = 32 ∨ f i.toNat = 40 ∨ f i.toNat = 41 then (if 0 ≤ s then [(s.toNat, i.toNat)] else []) ++ ((if f i.toNat = 32 then [] else [(i.toNat, (i + 1).toNat)]) ++ tkz f (n - (i + 1)).toNat (i + 1).toNat (-1)) else tkz f (n - (i + 1)).toNat (i + 1).toNat (if s < 0 then i else s) := by
  have e1 : (n - i).toNat = (n - (i + 1)).toNat + 1 := by omega
  have e2 : (i + 1).toNat = i.toNat + 1 := by omega
  have e3 : ((i.toNat : Nat) : Int) = i := by omega
  rw [e1, e2]
  conv => lhs; unfold tkz
  rw [e3]
/-- tokens told so far -/
def tka (F : fl_N) (f : Nat → Int) (l : List (Nat × Nat)) : Prop := ∀ (j : Nat) (q : Nat × Nat), l[j]? = some q → (F 4 j = (q.1 : Int) ∧ F 5 j = (q.2 : Int)) ∧ F 3 j = tkk f q.1 q.2 ∧ F 6 j = tkc f q.1 q.2
/-- one token more -/
def tad (F F' : fl_N) (k s e c : Int) : Prop := F' 1 6 = F 1 6 + 1 ∧ ∀ j, (F' 3 j = if j = (F 1 6).toNat then k else F 3 j) ∧ (F' 4 j = if j = (F 1 6).toNat then s else F 4 j) ∧ (F' 5 j = if j = (F 1 6).toNat then e else F 5 j) ∧ (F' 6 j = if j = (F 1 6).toNat then c else F 6 j)
theorem tka_snoc {F F' : fl_N} {f : Nat → Int} {l : List (Nat × Nat)} {k s e c : Int} (h : tka F f l) (hc : F 1 6 = (l.length : Int)) (ha : tad F F' k s e c) (h0 : 0 ≤ s) (h1 : 0 ≤ e) (hk : k = tkk f s.toNat e.toNat) (hcc : c = tkc f s.toNat e.toNat) : tka F' f (l ++ [(s.toNat, e.toNat)]) ∧ F' 1 6 = ((l ++ [(s.toNat, e.toNat)]).length : Int) := by
  refine ⟨fun j q hq => ?_, by rw [ha.1, hc]; simp⟩
  have e1 : (F 1 6).toNat = l.length := by omega
  obtain ⟨a1, a2, a3, a4⟩ := ha.2 j
  rw [e1] at a1 a2 a3 a4
  by_cases hj : j = l.length
  · subst hj
    rw [List.getElem?_append_right (Nat.le_refl _)] at hq
    simp only [Nat.sub_self, List.getElem?_cons_zero, Option.some.injEq] at hq
    subst hq
    rw [if_pos rfl] at a1 a2 a3 a4
    rw [a1, a2, a3, a4]
    exact ⟨⟨by simp only; omega, by simp only; omega⟩, hk, hcc⟩
  · rw [if_neg hj] at a1 a2 a3 a4
    have hl : j < l.length := by
      have h9 := (List.getElem?_eq_some_iff.mp hq).1
      rw [List.length_append, List.length_singleton] at h9
      omega
    rw [List.getElem?_append_left hl] at hq
    rw [a1, a2, a3, a4]
    exact h j q hq
theorem tad_c {F : fl_N} {k s e c n : Int} (hn : F 1 6 = n) : tad F (fl_u (fl_u (fl_u (fl_u (fl_u F 3 n.toNat k) 4 n.toNat s) 5 n.toNat e) 6 n.toNat c) 1 6 (n + 1)) k s e c := by
  subst hn
  refine ⟨by simp [fl_u], fun j => ⟨?_, ?_, ?_, ?_⟩⟩ <;> simp [fl_u]
theorem aw_ok {F F' : fl_N} {f : Nat → Int} {k s e c : Int} (ha : tad F F' k s e c) (hw : f s.toNat ≠ 40 ∧ f s.toNat ≠ 41) (h0 : 0 ≤ s) (h1 : s < e) (hm : (f s.toNat = 63 ∧ c = nmc f (s + 1).toNat e.toNat) ∨ (f s.toNat ≠ 63 ∧ c = nmc f s.toNat e.toNat)) (hk : (c = 0 ∧ k = 4) ∨ (¬ c = 0 ∧ f s.toNat = 63 ∧ k = 3) ∨ (¬ c = 0 ∧ f s.toNat ≠ 63 ∧ k = 2)) : tad F F' (tkk f s.toNat e.toNat) s e (tkc f s.toNat e.toNat) := by
  have e1 : tkc f s.toNat e.toNat = c := by
    unfold tkc
    rw [if_neg (by omega)]
    rcases hm with ⟨h2, h3⟩ | ⟨h2, h3⟩
    · rw [if_pos h2, h3, show (s + 1).toNat = s.toNat + 1 by omega]
    · rw [if_neg h2, h3]
  have e2 : tkk f s.toNat e.toNat = k := by
    unfold tkk
    rw [if_neg hw.1, if_neg hw.2, e1]
    rcases hk with ⟨h2, h3⟩ | ⟨h2, h3, h4⟩ | ⟨h2, h3, h4⟩
    · rw [if_pos h2, h3]
    · rw [if_neg h2, if_pos h3, h4]
    · rw [if_neg h2, if_neg h3, h4]
  rw [e1, e2]
  exact ha
section TZ
variable {f : Nat → Int} {n i s : Int}
theorem tz1 (h0 : 0 ≤ i) (h : i < n) (hc : f i.toNat ≠ 32 ∧ f i.toNat ≠ 40 ∧ f i.toNat ≠ 41) (hs : s < 0) : tkz f (n - i).toNat i.toNat s = tkz f (n - (i + 1)).toNat (i + 1).toNat i := by
  rw [tkz_step s h0 h, if_neg (by omega), if_pos hs]
theorem tz2 (h0 : 0 ≤ i) (h : i < n) (hc : f i.toNat ≠ 32 ∧ f i.toNat ≠ 40 ∧ f i.toNat ≠ 41) (hs : 0 ≤ s) : tkz f (n - i).toNat i.toNat s = tkz f (n - (i + 1)).toNat (i + 1).toNat s := by
  rw [tkz_step s h0 h, if_neg (by omega), if_neg (by omega)]
theorem tz3 (h0 : 0 ≤ i) (h : i < n) (hc : f i.toNat = 32) (hs : s = -1) : tkz f (n - i).toNat i.toNat s = tkz f (n - (i + 1)).toNat (i + 1).toNat s := by
  rw [tkz_step s h0 h, if_pos (by omega), if_neg (by omega), if_pos hc, hs]
  rfl
theorem tz4 (h0 : 0 ≤ i) (h : i < n) (hc : f i.toNat = 32) (hs : 0 ≤ s) : tkz f (n - i).toNat i.toNat s = [(s.toNat, i.toNat)] ++ tkz f (n - (i + 1)).toNat (i + 1).toNat (-1) := by
  rw [tkz_step s h0 h, if_pos (by omega), if_pos hs, if_pos hc]
  rfl
theorem tz5 (h0 : 0 ≤ i) (h : i < n) (hc : f i.toNat = 40 ∨ f i.toNat = 41) (hs : s = -1) : tkz f (n - i).toNat i.toNat s = [(i.toNat, (i + 1).toNat)] ++ tkz f (n - (i + 1)).toNat (i + 1).toNat s := by
  rw [tkz_step s h0 h, if_pos (by omega), if_neg (by omega), if_neg (by omega), hs]
  rfl
theorem tz6 (h0 : 0 ≤ i) (h : i < n) (hc : f i.toNat = 40 ∨ f i.toNat = 41) (hs : 0 ≤ s) : tkz f (n - i).toNat i.toNat s = [(s.toNat, i.toNat)] ++ ([(i.toNat, (i + 1).toNat)] ++ tkz f (n - (i + 1)).toNat (i + 1).toNat (-1)) := by
  rw [tkz_step s h0 h, if_pos (by omega), if_pos hs, if_neg (by omega)]
theorem tz7 (h : i = n) (hs : s < 0) : tkz f (n - i).toNat i.toNat s = [] := by
  rw [show (n - i).toNat = 0 by omega]
  exact if_neg (by omega)
theorem tz8 (h : i = n) (hs : 0 ≤ s) : tkz f (n - i).toNat i.toNat s = [(s.toNat, n.toNat)] := by
  rw [show (n - i).toNat = 0 by omega, h]
  exact if_pos hs
end TZ
theorem tkk_o {f : Nat → Int} {s e : Nat} (h : f s = 40) : 0 = tkk f s e := by unfold tkk; rw [if_pos h]
theorem tkk_c {f : Nat → Int} {s e : Nat} (h : f s = 41) : 1 = tkk f s e := by unfold tkk; rw [if_neg (by omega), if_pos h]
theorem tkc_p {f : Nat → Int} {s e : Nat} (h : f s = 40 ∨ f s = 41) : 0 = tkc f s e := by unfold tkc; rw [if_pos h]
/-- what cut() leaves -/
def tkf (F' : fl_N) (f : Nat → Int) (n : Int) (l : List (Nat × Nat)) : Prop := tka F' f l ∧ F' 1 6 = (l.length : Int) + 1 ∧ F' 3 l.length = 5 ∧ F' 4 l.length = n ∧ F' 5 l.length = n ∧ F' 6 l.length = 0
theorem tkf_end {F F' : fl_N} {f : Nat → Int} {l : List (Nat × Nat)} {n : Int} (h : tka F f l ∧ F 1 6 = (l.length : Int)) (ha : tad F F' 5 n n 0) : tkf (fl_u F' 1 1 0) f n l := by
  have e1 : (F 1 6).toNat = l.length := by omega
  refine ⟨fun j q hq => ?_, ?_, ?_, ?_, ?_, ?_⟩
  · obtain ⟨a1, a2, a3, a4⟩ := ha.2 j
    have hl : j < l.length := (List.getElem?_eq_some_iff.mp hq).1
    rw [if_neg (by omega)] at a1 a2 a3 a4
    have h9 := h.1 j q hq
    simp only [fl_u]
    simp only [show ¬ (4 = 1 ∧ j = 1) by omega, show ¬ (5 = 1 ∧ j = 1) by omega, show ¬ (3 = 1 ∧ j = 1) by omega, show ¬ (6 = 1 ∧ j = 1) by omega, if_false]
    rw [a1, a2, a3, a4]
    exact h9
  · simp [fl_u, ha.1, h.2]
  all_goals
    obtain ⟨a1, a2, a3, a4⟩ := ha.2 l.length
    rw [if_pos e1.symm] at a1 a2 a3 a4
    simp [fl_u, a1, a2, a3, a4]
theorem tz9 {f : Nat → Int} {n i s : Int} (h0 : 0 ≤ i) (h : i ≤ n) (hs : 0 ≤ s) (hc : i = n ∨ f i.toNat = 32 ∨ f i.toNat = 40 ∨ f i.toNat = 41) : tkz f (n - i).toNat i.toNat s = [(s.toNat, i.toNat)] ++ tkz f (n - i).toNat i.toNat (-1) := by
  by_cases e : i = n
  · rw [tz8 e hs, tz7 e (by omega), e]
    rfl
  · by_cases c : f i.toNat = 32
    · rw [tz4 h0 (by omega) c hs, tz3 h0 (by omega) c rfl]
    · rw [tz6 h0 (by omega) (by omega) hs, tz5 h0 (by omega) (by omega) rfl]
/-- the reference's tokens -/
def trl (F : fl_N) (l : List (Nat × Nat)) : Prop := ∀ (j : Nat) (q : Nat × Nat), l[j]? = some q → F 347 j = (q.1 : Int) ∧ F 348 j = (q.2 : Int)
def trf (F : fl_N) (n : Int) (l : List (Nat × Nat)) : Prop := trl F l ∧ F 344 4 = (l.length : Int) ∧ F 347 l.length = n ∧ F 348 l.length = n
theorem trl_snoc {F : fl_N} {l : List (Nat × Nat)} {k e : Int} (h : trl F l ∧ F 344 4 = (l.length : Int)) (h0 : 0 ≤ k) (h1 : 0 ≤ e) : trl (fl_u (fl_u (fl_u F 347 (F 344 4).toNat k) 348 (F 344 4).toNat e) 344 4 (F 344 4 + 1)) (l ++ [(k.toNat, e.toNat)]) ∧ (fl_u (fl_u (fl_u F 347 (F 344 4).toNat k) 348 (F 344 4).toNat e) 344 4 (F 344 4 + 1)) 344 4 = ((l ++ [(k.toNat, e.toNat)]).length : Int) := by
  have e1 : (F 344 4).toNat = l.length := by omega
  refine ⟨fun j q hq => ?_, by simp [fl_u, h.2]⟩
  rw [e1]
  by_cases hj : j = l.length
  · subst hj
    rw [List.getElem?_append_right (Nat.le_refl _)] at hq
    simp only [Nat.sub_self, List.getElem?_cons_zero, Option.some.injEq] at hq
    subst hq
    simp [fl_u]
    omega
  · have hl : j < l.length := by
      have h9 := (List.getElem?_eq_some_iff.mp hq).1
      rw [List.length_append, List.length_singleton] at h9
      omega
    rw [List.getElem?_append_left hl] at hq
    have h9 := h.1 j q hq
    simp [fl_u, hj]
    exact h9
theorem trf_end {F : fl_N} {l : List (Nat × Nat)} {n : Int} (h : trl F l ∧ F 344 4 = (l.length : Int)) : trf (fl_u (fl_u F 347 (F 344 4).toNat n) 348 (F 344 4).toNat n) n l := by
  have e1 : (F 344 4).toNat = l.length := by omega
  refine ⟨fun j q hq => ?_, by simp [fl_u, h.2], by simp [fl_u, e1], by simp [fl_u, e1]⟩
  have hl : j < l.length := (List.getElem?_eq_some_iff.mp hq).1
  have h9 := h.1 j q hq
  rw [e1]
  simp [fl_u, show ¬ j = l.length by omega]
  exact h9

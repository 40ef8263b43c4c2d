/-! text() on both sides: bits (rows of the kit, as in p1) -/
def bt (x : Int32) (i : Nat) : Bool := x.toBitVec.getLsbD i
theorem b_ext {x y : Int32} (h : ∀ i, i < 32 → bt x i = bt y i) : x = y := Int32.toBitVec_inj.mp (BitVec.eq_of_getLsbD_eq (fun i hi => h i hi))
theorem b_or (x y : Int32) (i : Nat) : bt (x ||| y) i = (bt x i || bt y i) := by unfold bt; rw [Int32.toBitVec_or, BitVec.getLsbD_or]
theorem b_and (x y : Int32) (i : Nat) : bt (x &&& y) i = (bt x i && bt y i) := by unfold bt; rw [Int32.toBitVec_and, BitVec.getLsbD_and]
theorem b_xor (x y : Int32) (i : Nat) : bt (x ^^^ y) i = (bt x i ^^ bt y i) := by unfold bt; rw [Int32.toBitVec_xor, BitVec.getLsbD_xor]
theorem b_big {x : Int32} {i : Nat} (h : 32 ≤ i) : bt x i = false := BitVec.getLsbD_of_ge _ _ h
theorem b_255 (i : Nat) : bt 255 i = decide (i < 8) := by
  rcases Nat.lt_or_ge i 32 with h | h
  · exact (by decide +kernel : ∀ i, i < 32 → bt 255 i = decide (i < 8)) i h
  · rw [b_big h, decide_eq_false (by omega)]
theorem b_65535 (i : Nat) : bt 65535 i = decide (i < 16) := by
  rcases Nat.lt_or_ge i 32 with h | h
  · exact (by decide +kernel : ∀ i, i < 32 → bt 65535 i = decide (i < 16)) i h
  · rw [b_big h, decide_eq_false (by omega)]
theorem b_m1 : ∀ i, i < 32 → bt (-1) i = true := by decide +kernel
theorem b_0 (i : Nat) : bt 0 i = false := BitVec.getLsbD_zero
theorem s_l : ∀ n, n < 32 → ((nI n &&& 31).toBitVec.smod 32).toNat = n := by decide +kernel
theorem s_u : ∀ n, n < 32 → (((nI n).toUInt32 &&& Int32.toUInt32 31).toBitVec % 32).toNat = n := by decide +kernel
theorem b_shl (n : Nat) (hn : n < 32) (x : Int32) {i : Nat} (hi : i < 32) : bt (x <<< (nI n &&& 31)) i = (decide (n ≤ i) && bt x (i - n)) := by
  unfold bt
  rw [Int32.toBitVec_shiftLeft]
  show (x.toBitVec <<< ((nI n &&& 31).toBitVec.smod 32).toNat).getLsbD i = _
  rw [s_l n hn, BitVec.getLsbD_shiftLeft]
  rcases Nat.lt_or_ge i n with h | h
  · simp [h, Nat.not_le.mpr h]
  · simp [hi, h, Nat.not_lt.mpr h]
theorem b_ushr (n : Nat) (hn : n < 32) (x : Int32) (i : Nat) : bt ((x.toUInt32 >>> ((nI n).toUInt32 &&& Int32.toUInt32 31)).toInt32) i = bt x (n + i) := by
  show (x.toUInt32 >>> ((nI n).toUInt32 &&& Int32.toUInt32 31)).toBitVec.getLsbD i = x.toUInt32.toBitVec.getLsbD (n + i)
  rw [UInt32.toBitVec_shiftRight]
  show (x.toUInt32.toBitVec >>> (((nI n).toUInt32 &&& Int32.toUInt32 31).toBitVec % 32).toNat).getLsbD i = _
  rw [s_u n hn, BitVec.getLsbD_ushiftRight]
theorem b_sshr (n : Nat) (hn : n < 32) (x : Int32) {i : Nat} (hi : i < 32) : bt (x >>> (nI n &&& 31)) i = if n + i < 32 then bt x (n + i) else bt x 31 := by
  unfold bt
  rw [Int32.toBitVec_shiftRight]
  show (x.toBitVec.sshiftRight ((nI n &&& 31).toBitVec.smod 32).toNat).getLsbD i = _
  rw [s_l n hn, BitVec.getLsbD_sshiftRight, BitVec.msb_eq_getLsbD_last]
  simp [hi]
def tx_b (v : Int32) (j : Nat) : Int32 := (v >>> (nI j &&& 31)) &&& 255
theorem tx_u {n : Nat} (hn : n ≤ 24) (v : Int32) : ((v.toUInt32 >>> ((nI n).toUInt32 &&& Int32.toUInt32 31)).toInt32) &&& 255 = tx_b v n := by
  unfold tx_b
  refine b_ext (fun i hi => ?_)
  rw [b_and, b_and, b_ushr n (by omega), b_sshr n (by omega) v hi, b_255]
  by_cases h : i < 8
  · rw [if_pos (by omega)]
  · simp [h]
/-! bytes -/
theorem bu8_e {v s : Int} (hs : s = 0 ∨ s = 8 ∨ s = 16 ∨ s = 24) : (((Int32.ofInt v).toUInt32 >>> ((Int32.ofInt s).toUInt32 &&& Int32.toUInt32 31)).toInt32) &&& 255 = (Int32.ofInt v >>> (Int32.ofInt s &&& 31)) &&& 255 := by
  rcases hs with h | h | h | h
  · subst h
    exact tx_u (n := 0) (by omega) (Int32.ofInt v)
  · subst h
    exact tx_u (n := 8) (by omega) (Int32.ofInt v)
  · subst h
    exact tx_u (n := 16) (by omega) (Int32.ofInt v)
  · subst h
    exact tx_u (n := 24) (by omega) (Int32.ofInt v)
theorem ga_bu8 {Ms : List xi_M} {y fr lo pc nx nx2 nx3 : Nat} {M : xi_M} {lv : xi_L} {r : List Value} {A : xi_H} {aux aux2 aux3 : List Nat} {Q : Outcome → xi_H → Prop} {v s : Int} (hM : Ms[y]? = some M) (hrow : xi_row M.2.2.2.2.1 pc = some (.iushr, nx, aux)) (hrow2 : xi_row M.2.2.2.2.1 nx = some (.sipush 255, nx2, aux2)) (hrow3 : xi_row M.2.2.2.2.1 nx2 = some (.iand, nx3, aux3)) (hs : s = 0 ∨ s = 8 ∨ s = 16 ∨ s = 24) (hk : fl_R Ms y fr lo nx3 lv (.int (Int32.ofInt (bt8 v s)) :: r) A Q) : fl_R Ms y fr lo pc lv (.int (Int32.ofInt s) :: .int (Int32.ofInt v) :: r) A Q := by
  have e : Int32.ofInt (bt8 v s) = (((Int32.ofInt v).toUInt32 >>> ((Int32.ofInt s).toUInt32 &&& Int32.toUInt32 31)).toInt32) &&& Int32.ofInt 255 := by
    unfold bt8
    rw [Int32.ofInt_toInt]
    exact (bu8_e hs).symm
  rw [e] at hk
  refine fl_s hM hrow rfl rfl rfl ?_
  refine fl_sipush hM hrow2 rfl ?_
  exact fl_s hM hrow3 rfl rfl rfl hk
/-! what a text does -/
def tk1 (b : Int) (l : List Int) : Option (List Int) := if b = 0 then some l else if (32 ≤ b ∧ b ≤ 126) ∧ (l.length : Int) < 600 then some (l ++ [b]) else none
def txs : List Int → List Int → Option (List Int)
  | [], l => some l
  | b :: bs, l => (tk1 b l).bind (txs bs)
def b4 (p : Int) : Nat → List Int
  | 0 => []
  | k + 1 => bt8 p (8 * (k : Int)) :: b4 p k
def bys (p q r s t : Int) : List Int := b4 p 4 ++ (b4 q 4 ++ (b4 r 4 ++ (b4 s 4 ++ b4 t 4)))
theorem txs_app : ∀ (a b l : List Int), txs (a ++ b) l = (txs a l).bind (txs b)
  | [], b, l => rfl
  | x :: a, b, l => by
    show (tk1 x l).bind (txs (a ++ b)) = ((tk1 x l).bind (txs a)).bind (txs b)
    cases tk1 x l with
    | none => rfl
    | some l2 => exact txs_app a b l2
def okb (b : Int) : Prop := b = 0 ∨ (32 ≤ b ∧ b ≤ 126)
def okl (bs : List Int) : Prop := ∀ b ∈ bs, okb b
def nzl : List Int → List Int
  | [] => []
  | b :: bs => if b = 0 then nzl bs else b :: nzl bs
theorem okl_c {b : Int} {bs : List Int} : okl (b :: bs) ↔ okb b ∧ okl bs := by
  unfold okl
  constructor
  · intro h
    exact ⟨h b (by simp), fun x hx => h x (by simp [hx])⟩
  · intro h x hx
    rcases List.mem_cons.mp hx with e | e
    · subst e
      exact h.1
    · exact h.2 x e
theorem txs_sn : ∀ (bs l : List Int), (l.length : Int) ≤ 600 → (okl bs → (l.length : Int) + ((nzl bs).length : Int) ≤ 600 → txs bs l = some (l ++ nzl bs)) ∧ (¬ (okl bs ∧ (l.length : Int) + ((nzl bs).length : Int) ≤ 600) → txs bs l = none)
  | [], l, h => by
    refine ⟨fun _ _ => by simp [txs, nzl], fun h9 => absurd ⟨?_, ?_⟩ h9⟩
    · intro b hb
      cases hb
    · simp [nzl]
      exact h
  | b :: bs, l, h => by
    rw [okl_c]
    by_cases h0 : b = 0
    · have e1 : tk1 b l = some l := by rw [tk1, if_pos h0]
      have e2 : nzl (b :: bs) = nzl bs := by rw [nzl, if_pos h0]
      have ih := txs_sn bs l h
      have e3 : txs (b :: bs) l = txs bs l := by rw [txs, e1]; rfl
      rw [e2, e3]
      refine ⟨fun h1 h2 => ih.1 h1.2 h2, fun h1 => ih.2 (fun h2 => h1 ⟨⟨Or.inl h0, h2.1⟩, h2.2⟩)⟩
    · have e2 : nzl (b :: bs) = b :: nzl bs := by rw [nzl, if_neg h0]
      rw [e2, List.length_cons]
      by_cases h1 : (32 ≤ b ∧ b ≤ 126) ∧ (l.length : Int) < 600
      · have e1 : tk1 b l = some (l ++ [b]) := by rw [tk1, if_neg h0, if_pos h1]
        have e3 : txs (b :: bs) l = txs bs (l ++ [b]) := by rw [txs, e1]; rfl
        have e4 : ((l ++ [b]).length : Int) = (l.length : Int) + 1 := by simp
        have ih := txs_sn bs (l ++ [b]) (by omega)
        rw [e4] at ih
        rw [e3]
        refine ⟨fun h2 h3 => ?_, fun h2 => ih.2 (fun h3 => h2 ⟨⟨Or.inr h1.1, h3.1⟩, by omega⟩)⟩
        rw [ih.1 h2.2 (by omega)]
        simp
      · have e1 : tk1 b l = none := by rw [tk1, if_neg h0, if_neg h1]
        have e3 : txs (b :: bs) l = none := by rw [txs, e1]; rfl
        refine ⟨fun h2 h3 => ?_, fun _ => e3⟩
        rcases h2.1 with h4 | h4
        · exact absurd h4 h0
        · exact absurd ⟨h4, by omega⟩ h1
theorem tx_z {p i : Int} {k : Nat} {l : List Int} (hk : 0 < k) (hi : i = 8 * (k : Int) - 8) (h : bt8 p i = 0) : txs (b4 p k) l = txs (b4 p (k - 1)) l := by
  obtain ⟨m, rfl⟩ : ∃ m, k = m + 1 := ⟨k - 1, by omega⟩
  have e : i = 8 * (m : Int) := by omega
  rw [b4, txs, tk1, ← e, if_pos h]
  rfl
theorem tx_a {p i : Int} {k : Nat} {l : List Int} (hk : 0 < k) (hi : i = 8 * (k : Int) - 8) (h : ¬ bt8 p i = 0) (h1 : 32 ≤ bt8 p i ∧ bt8 p i ≤ 126) (h2 : (l.length : Int) < 600) : txs (b4 p k) l = txs (b4 p (k - 1)) (l ++ [bt8 p i]) := by
  obtain ⟨m, rfl⟩ : ∃ m, k = m + 1 := ⟨k - 1, by omega⟩
  have e : i = 8 * (m : Int) := by omega
  rw [b4, txs, tk1, ← e, if_neg h, if_pos ⟨h1, h2⟩]
  rfl
theorem tx_n {p i : Int} {k : Nat} {l : List Int} (hk : 0 < k) (hi : i = 8 * (k : Int) - 8) (h : ¬ bt8 p i = 0) (h1 : ¬ ((32 ≤ bt8 p i ∧ bt8 p i ≤ 126) ∧ (l.length : Int) < 600)) : txs (b4 p k) l = none := by
  obtain ⟨m, rfl⟩ : ∃ m, k = m + 1 := ⟨k - 1, by omega⟩
  have e : i = 8 * (m : Int) := by omega
  rw [b4, txs, tk1, ← e, if_neg h, if_neg h1]
  rfl
theorem tx_e {p : Int} {k : Nat} {l : List Int} (hk : k = 0) : txs (b4 p k) l = some l := by
  subst hk
  rfl
theorem rep_app {F : fl_N} {a b k : Nat} {l : List Int} {v : Int} (h : rep (F a) (F b k) l) (hab : ¬ a = b) : rep ((fl_u (fl_u F a (F b k).toNat v) b k (F b k + 1)) a) ((fl_u (fl_u F a (F b k).toNat v) b k (F b k + 1)) b k) (l ++ [v]) := by
  rw [fl_u_eq]
  refine rep_snoc h (fun j => ?_)
  rw [fl_u_ne (fun e => hab e.1)]
  by_cases e : j = (F b k).toNat
  · rw [if_pos e, e, fl_u_eq]
  · rw [if_neg e, fl_u_ne (fun h9 => e h9.2)]
theorem rep_cg {g g' : Nat → Int} {n : Int} {l : List Int} (h : rep g n l) (hg : ∀ j : Nat, (j : Int) < n → g' j = g j) : rep g' n l := by
  refine ⟨h.1, fun j x hx => ?_⟩
  have hj : j < l.length := (List.getElem?_eq_some_iff.mp hx).1
  have h1 := h.1
  rw [hg j (by omega)]
  exact h.2 j x hx
def byt (p q r s t k : Int) : Int := bt8 (if k < 4 then p else if k < 8 then q else if k < 12 then r else if k < 16 then s else t) (24 - 8 * (k % 4))
theorem bys_d (p q r s t : Int) : ∀ k : Nat, k < 20 → (bys p q r s t).drop k = byt p q r s t (k : Int) :: (bys p q r s t).drop (k + 1)
  | 0, _ => rfl
  | 1, _ => rfl
  | 2, _ => rfl
  | 3, _ => rfl
  | 4, _ => rfl
  | 5, _ => rfl
  | 6, _ => rfl
  | 7, _ => rfl
  | 8, _ => rfl
  | 9, _ => rfl
  | 10, _ => rfl
  | 11, _ => rfl
  | 12, _ => rfl
  | 13, _ => rfl
  | 14, _ => rfl
  | 15, _ => rfl
  | 16, _ => rfl
  | 17, _ => rfl
  | 18, _ => rfl
  | 19, _ => rfl
  | k + 20, h => absurd h (by omega)
theorem bys_20 (p q r s t : Int) : (bys p q r s t).drop 20 = [] := rfl

/- CheapPlanner$Tokens.take -/
abbrev pq_20x (G : Nat → Nat → Option Nat) (F : fl_N) (X : xi_H) (p : Int) (l : List Int) : Outcome → xi_H → Prop := gqi (fun z A => (∃ F' : fl_N, fl_H sh_T G F' ++ X = A ∧ gi F' ∧ fs [(1, 1, 1, 1), (2, 2, 0, 100000)] F F' ∧ (z = 0) ∧ (txs (b4 p 4) l = none) ∧ (∀ j : Nat, (j : Int) < F 1 1 → F' 2 j = F 2 j)) ∨ (∃ F' : fl_N, fl_H sh_T G F' ++ X = A ∧ gi F' ∧ fs [(1, 1, 1, 1), (2, 2, 0, 100000)] F F' ∧ (z = 1) ∧ (∃ l2, txs (b4 p 4) l = some l2 ∧ rep (F' 2) (F' 1 1) l2) ∧ (∀ j : Nat, (j : Int) < F 1 1 → F' 2 j = F 2 j) ∧ (F 1 1 ≤ F' 1 1))) gqn
theorem mc_20x {G : Nat → Nat → Option Nat} (hG : gg G) (F : fl_N) (X : xi_H) (hgi : gi F) (p : Int) (l : List Int) (hl : rep (F 2) (F 1 1) l) (hn : (l.length : Int) ≤ 600) : fl_M xi_ms 20 1 21 [.ref 1, .int (Int32.ofInt p)] (fl_H sh_T G F ++ X) (pq_20x G F X p l) := by
  intro fr lo hfr hlo
  show fl_R xi_ms 20 fr lo 0 [(0, .ref 1), (1, .int (Int32.ofInt p))] [] _ _
  have hl1 := hl.1
  refine fl_bipush hm_20 rfl rfl ?_
  refine ga_istore_n (lv2 := [(2, .int (Int32.ofInt 24)), (0, .ref 1), (1, .int (Int32.ofInt p))]) hm_20 rfl (Nat.le_of_ble_eq_true rfl) rfl ?_
  have b4_ : 0 ≤ F 1 1 ∧ F 1 1 ≤ 600 := gi_g hgi rfl
  have L2_ : ∀ (n1_ : Nat) (i : Int) (l2 : List Int) (k : Nat) (F1 : fl_N), (i + 8 : Int).toNat = n1_ → (gi F1) → (fs [(1, 1, 1, 1), (2, 2, 0, 100000)] F F1) → (i = 8 * (k : Int) - 8) → (k ≤ 4) → (rep (F1 2) (F1 1 1) l2) → (txs (b4 p 4) l = txs (b4 p k) l2) → (∀ j : Nat, (j : Int) < F 1 1 → F1 2 j = F 2 j) → (F 1 1 ≤ F1 1 1) → fl_R xi_ms 20 fr lo 3 [(2, .int (Int32.ofInt i)), (0, .ref 1), (1, .int (Int32.ofInt p))] [] (fl_H sh_T G F1 ++ X) (pq_20x G F X p l) := by
    intro n1_
    induction n1_ using Nat.strongRecOn with
    | ind n1_ ih3_ =>
    intro i l2 k F1 hn5_ hg_F1 hf_F1 hi hk hl2 hs ho hg
    have g6_ : fs [(1, 1, 1, 1), (2, 2, 0, 100000)] F F1 := fs_tr fs_refl hf_F1 rfl
    have hl21 := hl2.1
    have hb11 : 0 ≤ F1 1 1 ∧ F1 1 1 ≤ 600 := gi_g hg_F1 rfl
    refine ga_iload_n (z := i) hm_20 rfl rfl ?_
    refine fl_if_lt (a := i) hm_20 rfl ⟨by omega, by omega⟩ (fun h7_ => ?_) (fun h8_ => ?_)
    ·
      refine fl_iconst hm_20 rfl ?_
      refine gr_i (z := 1) hm_20 rfl rfl (ga_nb (by omega)) ?_
      have b9_ : 0 ≤ F1 1 1 ∧ F1 1 1 ≤ 600 := gi_g hg_F1 rfl
      exact Or.inr (⟨F1, rfl, hg_F1, g6_, rfl, (⟨l2, by rw [hs]; exact tx_e (by omega), hl2⟩), (ho), (by omega)⟩)
    refine ga_iload_n (z := p) hm_20 rfl rfl ?_
    refine ga_iload_n (z := i) hm_20 rfl rfl ?_
    have b10_ := bt8_bd p i
    refine ga_bu8 (v := p) (s := i) hm_20 rfl rfl rfl (by omega) ?_
    refine ga_istore_n (lv2 := [(3, .int (Int32.ofInt ((bt8 p i)))), (2, .int (Int32.ofInt i)), (0, .ref 1), (1, .int (Int32.ofInt p))]) hm_20 rfl (Nat.le_of_ble_eq_true rfl) rfl ?_
    refine ga_iload_n (z := (bt8 p i)) hm_20 rfl rfl ?_
    refine fl_if_eq (a := (bt8 p i)) hm_20 rfl ⟨by omega, by omega⟩ (fun h11_ => ?_) (fun h12_ => ?_)
    ·
      refine ga_inc (a := i) (c := i - 8) (lv2 := [(2, .int (Int32.ofInt (i - 8))), (3, .int (Int32.ofInt ((bt8 p i)))), (0, .ref 1), (1, .int (Int32.ofInt p))]) hm_20 rfl rfl (Nat.le_of_ble_eq_true rfl) (by omega) rfl ?_
      refine fl_goto hm_20 rfl ?_
      have b13_ : 0 ≤ F1 1 1 ∧ F1 1 1 ≤ 600 := gi_g hg_F1 rfl
      exact fl_R_sub (lv' := [(2, .int (Int32.ofInt (i - 8))), (0, .ref 1), (1, .int (Int32.ofInt p))]) rfl rfl (ih3_ _ (by omega) (i - 8) (_) (k - 1) F1 rfl hg_F1 hf_F1 (by omega) (by omega) (hl2) (by rw [hs]; exact tx_z (by omega) (by omega) (by omega)) (ho) (by omega))
    refine ga_aload_n (v := .ref 1) hm_20 rfl rfl rfl ?_
    refine ga_iload_n (z := (bt8 p i)) hm_20 rfl rfl ?_
    refine gIi (nY := 2) (F := 0) (L := 0) (As := [.int (Int32.ofInt ((bt8 p i)))]) (b := 1) (rest := []) hm_20 rfl hm_21 rfl rfl (fl_ob sc_1) rfl rfl rfl rfl rfl (by omega) (by omega) ?_
    intro f14_ l15_ h16_ h17_
    show fl_R xi_ms 21 f14_ l15_ 0 [(0, .ref 1), (1, .int (Int32.ofInt ((bt8 p i))))] [] _ _
    refine ga_iload_n (z := (bt8 p i)) hm_21 rfl rfl ?_
    refine fl_bipush hm_21 rfl rfl ?_
    refine fl_icmp_lt (a := (bt8 p i)) (b := 32) hm_21 rfl ⟨by omega, by omega⟩ ⟨by omega, by omega⟩ (fun h18_ => ?_) (fun h19_ => ?_)
    ·
      refine fl_iconst hm_21 rfl ?_
      refine gr_i hm_21 rfl rfl (ga_nb (by omega)) ?_
      clear h16_ h17_ f14_ l15_
      refine fl_if_ne hm_20 rfl ⟨by omega, by omega⟩ (fun h => absurd h (by omega)) (fun _ => ?_)
      refine fl_iconst hm_20 rfl ?_
      refine gr_i (z := 0) hm_20 rfl rfl (ga_nb (by omega)) ?_
      exact Or.inl ⟨F1, rfl, hg_F1, g6_, rfl, (by rw [hs]; exact tx_n (by omega) (by omega) (by omega) (by omega)), (ho)⟩
    refine ga_iload_n (z := (bt8 p i)) hm_21 rfl rfl ?_
    refine fl_bipush hm_21 rfl rfl ?_
    refine fl_icmp_gt (a := (bt8 p i)) (b := 126) hm_21 rfl ⟨by omega, by omega⟩ ⟨by omega, by omega⟩ (fun h20_ => ?_) (fun h21_ => ?_)
    ·
      refine fl_iconst hm_21 rfl ?_
      refine gr_i hm_21 rfl rfl (ga_nb (by omega)) ?_
      clear h16_ h17_ f14_ l15_
      refine fl_if_ne hm_20 rfl ⟨by omega, by omega⟩ (fun h => absurd h (by omega)) (fun _ => ?_)
      refine fl_iconst hm_20 rfl ?_
      refine gr_i (z := 0) hm_20 rfl rfl (ga_nb (by omega)) ?_
      exact Or.inl ⟨F1, rfl, hg_F1, g6_, rfl, (by rw [hs]; exact tx_n (by omega) (by omega) (by omega) (by omega)), (ho)⟩
    refine ga_aload_n (v := .ref 1) hm_21 rfl rfl rfl ?_
    have b22_ : 0 ≤ F1 1 1 ∧ F1 1 1 ≤ 600 := gi_g hg_F1 rfl
    refine ga_geti (z := F1 1 1) hm_21 rfl sc_1 rfl (rfl) ?_
    refine fl_sipush hm_21 rfl rfl ?_
    refine fl_icmp_lt (a := F1 1 1) (b := 600) hm_21 rfl ⟨by omega, by omega⟩ ⟨by omega, by omega⟩ (fun h23_ => ?_) (fun h24_ => ?_)
    ·
      refine ga_aload_n (v := .ref 1) hm_21 rfl rfl rfl ?_
      refine ga_getr (b := 2) hm_21 rfl sc_1 rfl ?_
      refine ga_aload_n (v := .ref 1) hm_21 rfl rfl rfl ?_
      refine ga_geti (z := F1 1 1) hm_21 rfl sc_1 rfl (rfl) ?_
      refine ga_iload_n (z := (bt8 p i)) hm_21 rfl rfl ?_
      refine ga_i2c hm_21 rfl (by omega) (by omega) ?_
      refine fl_cast (z := F1 1 1) (v := (bt8 p i)) hm_21 rfl sc_2 (by omega) (by omega) (by omega) (ga_vc (by omega) (by omega)) ?_
      refine ga_aload_n (v := .ref 1) hm_21 rfl rfl rfl ?_
      refine ga_dup hm_21 rfl rfl ?_
      refine ga_geti (z := F1 1 1) hm_21 rfl sc_1 rfl (fl_u_ne (by first | exact nc_ rfl | decide | omega)) ?_
      refine fl_iconst hm_21 rfl ?_
      refine ga_iadd (a := F1 1 1) (b := 1) (c := F1 1 1 + 1) hm_21 rfl (by omega) ?_
      refine ga_puti (z := F1 1 1 + 1) hm_21 rfl sc_1 rfl rfl ?_
      refine fl_iconst hm_21 rfl ?_
      refine gr_i hm_21 rfl rfl (ga_nb (by omega)) ?_
      clear h16_ h17_ f14_ l15_
      refine fl_if_ne hm_20 rfl ⟨by omega, by omega⟩ (fun _ => ?_) (fun h => absurd (by omega) h)
      refine ga_inc (a := i) (c := i - 8) (lv2 := [(2, .int (Int32.ofInt (i - 8))), (3, .int (Int32.ofInt ((bt8 p i)))), (0, .ref 1), (1, .int (Int32.ofInt p))]) hm_20 rfl rfl (Nat.le_of_ble_eq_true rfl) (by omega) rfl ?_
      refine fl_goto hm_20 rfl ?_
      obtain ⟨F25_, q26_⟩ : ∃ Fq_, Fq_ = (fl_u (fl_u F1 2 (F1 1 1).toNat ((bt8 p i))) 1 1 (F1 1 1 + 1)) := ⟨_, rfl⟩
      rw [← q26_]
      have g27_ : gi F25_ := by rw [q26_]; exact gi_u (gi_u (hg_F1) rfl (by omega) (by omega)) rfl (by omega) (by omega)
      have g28_ : fs [(1, 1, 1, 1), (2, 2, 0, 100000)] F F25_ := by rw [q26_]; exact fs_u (fs_u (g6_) (fs_z (fs_y (by omega)))) rfl
      have e29_ : F25_ 1 1 = F1 1 1 + 1 := by rw [q26_]; exact fl_u_eq
      exact fl_R_sub (lv' := [(2, .int (Int32.ofInt (i - 8))), (0, .ref 1), (1, .int (Int32.ofInt p))]) rfl rfl (ih3_ _ (by omega) (i - 8) (_) (k - 1) F25_ rfl g27_ (by rw [q26_]; exact fs_u (fs_u (hf_F1) (fs_z (fs_y (by omega)))) rfl) (by omega) (by omega) (by rw [q26_]; exact rep_app hl2 (by decide)) (by rw [hs]; exact tx_a (by omega) (by omega) (by omega) (by omega) (by omega)) (fun j hj => Eq.trans (show F25_ 2 j = F1 2 j from (by rw [q26_]; exact (fl_u_ne (by first | exact nc_ rfl | decide | omega)).trans ((fl_u_ne (by first | exact nc_ rfl | decide | omega))))) (ho j hj)) (by omega))
    refine fl_iconst hm_21 rfl ?_
    refine gr_i hm_21 rfl rfl (ga_nb (by omega)) ?_
    clear h16_ h17_ f14_ l15_
    refine fl_if_ne hm_20 rfl ⟨by omega, by omega⟩ (fun h => absurd h (by omega)) (fun _ => ?_)
    refine fl_iconst hm_20 rfl ?_
    refine gr_i (z := 0) hm_20 rfl rfl (ga_nb (by omega)) ?_
    exact Or.inl ⟨F1, rfl, hg_F1, g6_, rfl, (by rw [hs]; exact tx_n (by omega) (by omega) (by omega) (by omega)), (ho)⟩
  exact L2_ _ (24) (l) (4) F rfl hgi fs_refl (by omega) (by omega) (hl) (rfl) (fun _ _ => rfl) (by omega)
/- CheapPlanner.text -/
abbrev pq_1 (G : Nat → Nat → Option Nat) (F : fl_N) (X : xi_H) (p q r s t : Int) (l : List Int) : Outcome → xi_H → Prop := gqi (fun z A => (∃ F' : fl_N, fl_H sh_T G F' ++ X = A ∧ gi F' ∧ fs [(1, 1, 1, 1), (2, 2, 0, 100000)] F F' ∧ (z = 0) ∧ (txs (bys p q r s t) l = none) ∧ (rep (F' 2) (F' 1 1) l)) ∨ (∃ F' : fl_N, fl_H sh_T G F' ++ X = A ∧ gi F' ∧ fs [(1, 1, 1, 1), (2, 2, 0, 100000)] F F' ∧ (z = 1) ∧ (∃ l2, txs (bys p q r s t) l = some l2 ∧ rep (F' 2) (F' 1 1) l2))) gqn
theorem mc_1 {G : Nat → Nat → Option Nat} (hG : gg G) (F : fl_N) (X : xi_H) (hgi : gi F) (p q r s t : Int) (l : List Int) (hl : rep (F 2) (F 1 1) l) (hn : (l.length : Int) ≤ 600) : fl_M xi_ms 1 2 44 [.ref 0, .int (Int32.ofInt p), .int (Int32.ofInt q), .int (Int32.ofInt r), .int (Int32.ofInt s), .int (Int32.ofInt t)] (fl_H sh_T G F ++ X) (pq_1 G F X p q r s t l) := by
  intro fr lo hfr hlo
  show fl_R xi_ms 1 fr lo 0 [(0, .ref 0), (1, .int (Int32.ofInt p)), (2, .int (Int32.ofInt q)), (3, .int (Int32.ofInt r)), (4, .int (Int32.ofInt s)), (5, .int (Int32.ofInt t))] [] _ _
  refine ga_aload_n (v := .ref 0) hm_1 rfl rfl rfl ?_
  refine ga_getr (b := 1) hm_1 rfl sc_0 rfl ?_
  refine gIi (nY := 1) (F := 0) (L := 0) (As := []) (b := 1) (rest := []) hm_1 rfl hm_17 rfl rfl (fl_ob sc_1) rfl rfl rfl rfl rfl (by omega) (by omega) ?_
  intro f1_ l2_ h3_ h4_
  show fl_R xi_ms 17 f1_ l2_ 0 [(0, .ref 1)] [] _ _
  refine ga_aload_n (v := .ref 1) hm_17 rfl rfl rfl ?_
  have b5_ : 0 ≤ F 1 1 ∧ F 1 1 ≤ 600 := gi_g hgi rfl
  refine ga_geti (z := F 1 1) hm_17 rfl sc_1 rfl (rfl) ?_
  refine gr_i hm_17 rfl rfl rfl ?_
  clear h3_ h4_ f1_ l2_
  refine ga_istore (lv2 := [(6, .int (Int32.ofInt (F 1 1))), (0, .ref 0), (1, .int (Int32.ofInt p)), (2, .int (Int32.ofInt q)), (3, .int (Int32.ofInt r)), (4, .int (Int32.ofInt s)), (5, .int (Int32.ofInt t))]) hm_1 rfl (Nat.le_of_ble_eq_true rfl) rfl ?_
  refine ga_aload_n (v := .ref 0) hm_1 rfl rfl rfl ?_
  refine ga_getr (b := 1) hm_1 rfl sc_0 rfl ?_
  refine ga_iload_n (z := p) hm_1 rfl rfl ?_
  refine gVi (nY := 4) (F := 1) (L := 21) (As := [.int (Int32.ofInt p)]) (b := 1) (rest := []) hm_1 rfl hm_20 rfl rfl (fl_ob sc_1) rfl rfl rfl rfl rfl (by omega) (by omega) (mc_20x hG F X hgi (p) (l) (hl) (hn)) (fun _ _ h => False.elim h) ?_
  rintro z6_ A1_ (⟨F9_, hA_, g10_, s11_, hz_, c7_, c8_⟩ | ⟨F15_, hA_, g16_, s17_, hz_, c12_, c13_, c14_⟩)
  ·
    subst hA_
    subst hz_
    have g18_ : fs [(1, 1, 1, 1), (2, 2, 0, 100000)] F F9_ := fs_tr fs_refl s11_ rfl
    have ho1_ : ∀ j : Nat, (j : Int) < F 1 1 → F9_ 2 j = F 2 j := fun j hj => c8_ j (by omega)
    refine fl_if_eq hm_1 rfl ⟨by omega, by omega⟩ (fun _ => ?_) (fun h => absurd (by omega) h)
    refine fl_iconst hm_1 rfl ?_
    refine ga_istore (lv2 := [(7, .int (Int32.ofInt 0)), (6, .int (Int32.ofInt (F 1 1))), (0, .ref 0), (1, .int (Int32.ofInt p)), (2, .int (Int32.ofInt q)), (3, .int (Int32.ofInt r)), (4, .int (Int32.ofInt s)), (5, .int (Int32.ofInt t))]) hm_1 rfl (Nat.le_of_ble_eq_true rfl) rfl ?_
    refine ga_iload (z := 0) hm_1 rfl rfl ?_
    refine fl_if_ne hm_1 rfl ⟨by omega, by omega⟩ (fun h => absurd h (by omega)) (fun _ => ?_)
    refine ga_aload_n (v := .ref 0) hm_1 rfl rfl rfl ?_
    refine ga_getr (b := 1) hm_1 rfl sc_0 rfl ?_
    refine ga_iload (z := F 1 1) hm_1 rfl rfl ?_
    refine gIv (nY := 2) (F := 0) (L := 0) (As := [.int (Int32.ofInt (F 1 1))]) (b := 1) (rest := []) hm_1 rfl hm_18 rfl rfl (fl_ob sc_1) rfl rfl rfl rfl rfl (by omega) (by omega) ?_
    intro f19_ l20_ h21_ h22_
    show fl_R xi_ms 18 f19_ l20_ 0 [(0, .ref 1), (1, .int (Int32.ofInt (F 1 1)))] [] _ _
    refine ga_aload_n (v := .ref 1) hm_18 rfl rfl rfl ?_
    refine ga_iload_n (z := F 1 1) hm_18 rfl rfl ?_
    refine ga_puti (z := F 1 1) hm_18 rfl sc_1 rfl rfl ?_
    refine gr_v hm_18 rfl rfl ?_
    clear h21_ h22_ f19_ l20_
    refine ga_iload (z := 0) hm_1 rfl rfl ?_
    obtain ⟨F23_, q24_⟩ : ∃ Fq_, Fq_ = (fl_u F9_ 1 1 (F 1 1)) := ⟨_, rfl⟩
    rw [← q24_]
    have g25_ : gi F23_ := by rw [q24_]; exact gi_u (g10_) rfl (by omega) (by omega)
    have g26_ : fs [(1, 1, 1, 1), (2, 2, 0, 100000)] F F23_ := by rw [q24_]; exact fs_u (g18_) rfl
    refine gr_i (z := 0) hm_1 rfl rfl (ga_nb (by omega)) ?_
    have e27_ : F23_ 1 1 = F 1 1 := by rw [q24_]; exact fl_u_eq
    exact Or.inl ⟨F23_, rfl, g25_, g26_, rfl, (by unfold bys; rw [txs_app, c7_]; rw [Option.bind_none]), (by rw [e27_]; exact rep_cg hl (fun j hj => Eq.trans (show F23_ 2 j = F9_ 2 j from (by rw [q24_]; exact (fl_u_ne (by first | exact nc_ rfl | decide | omega)))) (ho1_ j hj)))⟩
  subst hA_
  subst hz_
  have g28_ : fs [(1, 1, 1, 1), (2, 2, 0, 100000)] F F15_ := fs_tr fs_refl s17_ rfl
  obtain ⟨l1_, cs1_, cr1_⟩ := c12_
  have hn1_ : (l1_.length : Int) ≤ 600 := by have h9_ := cr1_.1; have h8_ : 0 ≤ F15_ 1 1 ∧ F15_ 1 1 ≤ 600 := gi_g g16_ rfl; omega
  have ho1_ : ∀ j : Nat, (j : Int) < F 1 1 → F15_ 2 j = F 2 j := fun j hj => c13_ j (by omega)
  refine fl_if_eq hm_1 rfl ⟨by omega, by omega⟩ (fun h => absurd h (by omega)) (fun _ => ?_)
  refine ga_aload_n (v := .ref 0) hm_1 rfl rfl rfl ?_
  refine ga_getr (b := 1) hm_1 rfl sc_0 rfl ?_
  refine ga_iload_n (z := q) hm_1 rfl rfl ?_
  refine gVi (nY := 4) (F := 1) (L := 21) (As := [.int (Int32.ofInt q)]) (b := 1) (rest := []) hm_1 rfl hm_20 rfl rfl (fl_ob sc_1) rfl rfl rfl rfl rfl (by omega) (by omega) (mc_20x hG F15_ X g16_ (q) (l1_) (cr1_) (hn1_)) (fun _ _ h => False.elim h) ?_
  have b30_ : 0 ≤ F15_ 1 1 ∧ F15_ 1 1 ≤ 600 := gi_g g16_ rfl
  rintro z29_ A1_ (⟨F33_, hA_, g34_, s35_, hz_, c31_, c32_⟩ | ⟨F39_, hA_, g40_, s41_, hz_, c36_, c37_, c38_⟩)
  ·
    subst hA_
    subst hz_
    have g42_ : fs [(1, 1, 1, 1), (2, 2, 0, 100000)] F F33_ := fs_tr g28_ s35_ rfl
    have ho2_ : ∀ j : Nat, (j : Int) < F 1 1 → F33_ 2 j = F 2 j := fun j hj => Eq.trans (c32_ j (by omega)) (ho1_ j hj)
    refine fl_if_eq hm_1 rfl ⟨by omega, by omega⟩ (fun _ => ?_) (fun h => absurd (by omega) h)
    refine fl_iconst hm_1 rfl ?_
    refine ga_istore (lv2 := [(7, .int (Int32.ofInt 0)), (6, .int (Int32.ofInt (F 1 1))), (0, .ref 0), (1, .int (Int32.ofInt p)), (2, .int (Int32.ofInt q)), (3, .int (Int32.ofInt r)), (4, .int (Int32.ofInt s)), (5, .int (Int32.ofInt t))]) hm_1 rfl (Nat.le_of_ble_eq_true rfl) rfl ?_
    refine ga_iload (z := 0) hm_1 rfl rfl ?_
    refine fl_if_ne hm_1 rfl ⟨by omega, by omega⟩ (fun h => absurd h (by omega)) (fun _ => ?_)
    refine ga_aload_n (v := .ref 0) hm_1 rfl rfl rfl ?_
    refine ga_getr (b := 1) hm_1 rfl sc_0 rfl ?_
    refine ga_iload (z := F 1 1) hm_1 rfl rfl ?_
    refine gIv (nY := 2) (F := 0) (L := 0) (As := [.int (Int32.ofInt (F 1 1))]) (b := 1) (rest := []) hm_1 rfl hm_18 rfl rfl (fl_ob sc_1) rfl rfl rfl rfl rfl (by omega) (by omega) ?_
    intro f43_ l44_ h45_ h46_
    show fl_R xi_ms 18 f43_ l44_ 0 [(0, .ref 1), (1, .int (Int32.ofInt (F 1 1)))] [] _ _
    refine ga_aload_n (v := .ref 1) hm_18 rfl rfl rfl ?_
    refine ga_iload_n (z := F 1 1) hm_18 rfl rfl ?_
    refine ga_puti (z := F 1 1) hm_18 rfl sc_1 rfl rfl ?_
    refine gr_v hm_18 rfl rfl ?_
    clear h45_ h46_ f43_ l44_
    refine ga_iload (z := 0) hm_1 rfl rfl ?_
    obtain ⟨F47_, q48_⟩ : ∃ Fq_, Fq_ = (fl_u F33_ 1 1 (F 1 1)) := ⟨_, rfl⟩
    rw [← q48_]
    have g49_ : gi F47_ := by rw [q48_]; exact gi_u (g34_) rfl (by omega) (by omega)
    have g50_ : fs [(1, 1, 1, 1), (2, 2, 0, 100000)] F F47_ := by rw [q48_]; exact fs_u (g42_) rfl
    refine gr_i (z := 0) hm_1 rfl rfl (ga_nb (by omega)) ?_
    have e51_ : F47_ 1 1 = F 1 1 := by rw [q48_]; exact fl_u_eq
    exact Or.inl ⟨F47_, rfl, g49_, g50_, rfl, (by unfold bys; rw [txs_app, cs1_]; rw [Option.bind_some]; rw [txs_app, c31_]; rw [Option.bind_none]), (by rw [e51_]; exact rep_cg hl (fun j hj => Eq.trans (show F47_ 2 j = F33_ 2 j from (by rw [q48_]; exact (fl_u_ne (by first | exact nc_ rfl | decide | omega)))) (ho2_ j hj)))⟩
  subst hA_
  subst hz_
  have g52_ : fs [(1, 1, 1, 1), (2, 2, 0, 100000)] F F39_ := fs_tr g28_ s41_ rfl
  obtain ⟨l2_, cs2_, cr2_⟩ := c36_
  have hn2_ : (l2_.length : Int) ≤ 600 := by have h9_ := cr2_.1; have h8_ : 0 ≤ F39_ 1 1 ∧ F39_ 1 1 ≤ 600 := gi_g g40_ rfl; omega
  have ho2_ : ∀ j : Nat, (j : Int) < F 1 1 → F39_ 2 j = F 2 j := fun j hj => Eq.trans (c37_ j (by omega)) (ho1_ j hj)
  refine fl_if_eq hm_1 rfl ⟨by omega, by omega⟩ (fun h => absurd h (by omega)) (fun _ => ?_)
  refine ga_aload_n (v := .ref 0) hm_1 rfl rfl rfl ?_
  refine ga_getr (b := 1) hm_1 rfl sc_0 rfl ?_
  refine ga_iload_n (z := r) hm_1 rfl rfl ?_
  refine gVi (nY := 4) (F := 1) (L := 21) (As := [.int (Int32.ofInt r)]) (b := 1) (rest := []) hm_1 rfl hm_20 rfl rfl (fl_ob sc_1) rfl rfl rfl rfl rfl (by omega) (by omega) (mc_20x hG F39_ X g40_ (r) (l2_) (cr2_) (hn2_)) (fun _ _ h => False.elim h) ?_
  have b54_ : 0 ≤ F39_ 1 1 ∧ F39_ 1 1 ≤ 600 := gi_g g40_ rfl
  rintro z53_ A1_ (⟨F57_, hA_, g58_, s59_, hz_, c55_, c56_⟩ | ⟨F63_, hA_, g64_, s65_, hz_, c60_, c61_, c62_⟩)
  ·
    subst hA_
    subst hz_
    have g66_ : fs [(1, 1, 1, 1), (2, 2, 0, 100000)] F F57_ := fs_tr g52_ s59_ rfl
    have ho3_ : ∀ j : Nat, (j : Int) < F 1 1 → F57_ 2 j = F 2 j := fun j hj => Eq.trans (c56_ j (by omega)) (ho2_ j hj)
    refine fl_if_eq hm_1 rfl ⟨by omega, by omega⟩ (fun _ => ?_) (fun h => absurd (by omega) h)
    refine fl_iconst hm_1 rfl ?_
    refine ga_istore (lv2 := [(7, .int (Int32.ofInt 0)), (6, .int (Int32.ofInt (F 1 1))), (0, .ref 0), (1, .int (Int32.ofInt p)), (2, .int (Int32.ofInt q)), (3, .int (Int32.ofInt r)), (4, .int (Int32.ofInt s)), (5, .int (Int32.ofInt t))]) hm_1 rfl (Nat.le_of_ble_eq_true rfl) rfl ?_
    refine ga_iload (z := 0) hm_1 rfl rfl ?_
    refine fl_if_ne hm_1 rfl ⟨by omega, by omega⟩ (fun h => absurd h (by omega)) (fun _ => ?_)
    refine ga_aload_n (v := .ref 0) hm_1 rfl rfl rfl ?_
    refine ga_getr (b := 1) hm_1 rfl sc_0 rfl ?_
    refine ga_iload (z := F 1 1) hm_1 rfl rfl ?_
    refine gIv (nY := 2) (F := 0) (L := 0) (As := [.int (Int32.ofInt (F 1 1))]) (b := 1) (rest := []) hm_1 rfl hm_18 rfl rfl (fl_ob sc_1) rfl rfl rfl rfl rfl (by omega) (by omega) ?_
    intro f67_ l68_ h69_ h70_
    show fl_R xi_ms 18 f67_ l68_ 0 [(0, .ref 1), (1, .int (Int32.ofInt (F 1 1)))] [] _ _
    refine ga_aload_n (v := .ref 1) hm_18 rfl rfl rfl ?_
    refine ga_iload_n (z := F 1 1) hm_18 rfl rfl ?_
    refine ga_puti (z := F 1 1) hm_18 rfl sc_1 rfl rfl ?_
    refine gr_v hm_18 rfl rfl ?_
    clear h69_ h70_ f67_ l68_
    refine ga_iload (z := 0) hm_1 rfl rfl ?_
    obtain ⟨F71_, q72_⟩ : ∃ Fq_, Fq_ = (fl_u F57_ 1 1 (F 1 1)) := ⟨_, rfl⟩
    rw [← q72_]
    have g73_ : gi F71_ := by rw [q72_]; exact gi_u (g58_) rfl (by omega) (by omega)
    have g74_ : fs [(1, 1, 1, 1), (2, 2, 0, 100000)] F F71_ := by rw [q72_]; exact fs_u (g66_) rfl
    refine gr_i (z := 0) hm_1 rfl rfl (ga_nb (by omega)) ?_
    have e75_ : F71_ 1 1 = F 1 1 := by rw [q72_]; exact fl_u_eq
    exact Or.inl ⟨F71_, rfl, g73_, g74_, rfl, (by unfold bys; rw [txs_app, cs1_]; rw [Option.bind_some]; rw [txs_app, cs2_]; rw [Option.bind_some]; rw [txs_app, c55_]; rw [Option.bind_none]), (by rw [e75_]; exact rep_cg hl (fun j hj => Eq.trans (show F71_ 2 j = F57_ 2 j from (by rw [q72_]; exact (fl_u_ne (by first | exact nc_ rfl | decide | omega)))) (ho3_ j hj)))⟩
  subst hA_
  subst hz_
  have g76_ : fs [(1, 1, 1, 1), (2, 2, 0, 100000)] F F63_ := fs_tr g52_ s65_ rfl
  obtain ⟨l3_, cs3_, cr3_⟩ := c60_
  have hn3_ : (l3_.length : Int) ≤ 600 := by have h9_ := cr3_.1; have h8_ : 0 ≤ F63_ 1 1 ∧ F63_ 1 1 ≤ 600 := gi_g g64_ rfl; omega
  have ho3_ : ∀ j : Nat, (j : Int) < F 1 1 → F63_ 2 j = F 2 j := fun j hj => Eq.trans (c61_ j (by omega)) (ho2_ j hj)
  refine fl_if_eq hm_1 rfl ⟨by omega, by omega⟩ (fun h => absurd h (by omega)) (fun _ => ?_)
  refine ga_aload_n (v := .ref 0) hm_1 rfl rfl rfl ?_
  refine ga_getr (b := 1) hm_1 rfl sc_0 rfl ?_
  refine ga_iload (z := s) hm_1 rfl rfl ?_
  refine gVi (nY := 4) (F := 1) (L := 21) (As := [.int (Int32.ofInt s)]) (b := 1) (rest := []) hm_1 rfl hm_20 rfl rfl (fl_ob sc_1) rfl rfl rfl rfl rfl (by omega) (by omega) (mc_20x hG F63_ X g64_ (s) (l3_) (cr3_) (hn3_)) (fun _ _ h => False.elim h) ?_
  have b78_ : 0 ≤ F63_ 1 1 ∧ F63_ 1 1 ≤ 600 := gi_g g64_ rfl
  rintro z77_ A1_ (⟨F81_, hA_, g82_, s83_, hz_, c79_, c80_⟩ | ⟨F87_, hA_, g88_, s89_, hz_, c84_, c85_, c86_⟩)
  ·
    subst hA_
    subst hz_
    have g90_ : fs [(1, 1, 1, 1), (2, 2, 0, 100000)] F F81_ := fs_tr g76_ s83_ rfl
    have ho4_ : ∀ j : Nat, (j : Int) < F 1 1 → F81_ 2 j = F 2 j := fun j hj => Eq.trans (c80_ j (by omega)) (ho3_ j hj)
    refine fl_if_eq hm_1 rfl ⟨by omega, by omega⟩ (fun _ => ?_) (fun h => absurd (by omega) h)
    refine fl_iconst hm_1 rfl ?_
    refine ga_istore (lv2 := [(7, .int (Int32.ofInt 0)), (6, .int (Int32.ofInt (F 1 1))), (0, .ref 0), (1, .int (Int32.ofInt p)), (2, .int (Int32.ofInt q)), (3, .int (Int32.ofInt r)), (4, .int (Int32.ofInt s)), (5, .int (Int32.ofInt t))]) hm_1 rfl (Nat.le_of_ble_eq_true rfl) rfl ?_
    refine ga_iload (z := 0) hm_1 rfl rfl ?_
    refine fl_if_ne hm_1 rfl ⟨by omega, by omega⟩ (fun h => absurd h (by omega)) (fun _ => ?_)
    refine ga_aload_n (v := .ref 0) hm_1 rfl rfl rfl ?_
    refine ga_getr (b := 1) hm_1 rfl sc_0 rfl ?_
    refine ga_iload (z := F 1 1) hm_1 rfl rfl ?_
    refine gIv (nY := 2) (F := 0) (L := 0) (As := [.int (Int32.ofInt (F 1 1))]) (b := 1) (rest := []) hm_1 rfl hm_18 rfl rfl (fl_ob sc_1) rfl rfl rfl rfl rfl (by omega) (by omega) ?_
    intro f91_ l92_ h93_ h94_
    show fl_R xi_ms 18 f91_ l92_ 0 [(0, .ref 1), (1, .int (Int32.ofInt (F 1 1)))] [] _ _
    refine ga_aload_n (v := .ref 1) hm_18 rfl rfl rfl ?_
    refine ga_iload_n (z := F 1 1) hm_18 rfl rfl ?_
    refine ga_puti (z := F 1 1) hm_18 rfl sc_1 rfl rfl ?_
    refine gr_v hm_18 rfl rfl ?_
    clear h93_ h94_ f91_ l92_
    refine ga_iload (z := 0) hm_1 rfl rfl ?_
    obtain ⟨F95_, q96_⟩ : ∃ Fq_, Fq_ = (fl_u F81_ 1 1 (F 1 1)) := ⟨_, rfl⟩
    rw [← q96_]
    have g97_ : gi F95_ := by rw [q96_]; exact gi_u (g82_) rfl (by omega) (by omega)
    have g98_ : fs [(1, 1, 1, 1), (2, 2, 0, 100000)] F F95_ := by rw [q96_]; exact fs_u (g90_) rfl
    refine gr_i (z := 0) hm_1 rfl rfl (ga_nb (by omega)) ?_
    have e99_ : F95_ 1 1 = F 1 1 := by rw [q96_]; exact fl_u_eq
    exact Or.inl ⟨F95_, rfl, g97_, g98_, rfl, (by unfold bys; rw [txs_app, cs1_]; rw [Option.bind_some]; rw [txs_app, cs2_]; rw [Option.bind_some]; rw [txs_app, cs3_]; rw [Option.bind_some]; rw [txs_app, c79_]; rw [Option.bind_none]), (by rw [e99_]; exact rep_cg hl (fun j hj => Eq.trans (show F95_ 2 j = F81_ 2 j from (by rw [q96_]; exact (fl_u_ne (by first | exact nc_ rfl | decide | omega)))) (ho4_ j hj)))⟩
  subst hA_
  subst hz_
  have g100_ : fs [(1, 1, 1, 1), (2, 2, 0, 100000)] F F87_ := fs_tr g76_ s89_ rfl
  obtain ⟨l4_, cs4_, cr4_⟩ := c84_
  have hn4_ : (l4_.length : Int) ≤ 600 := by have h9_ := cr4_.1; have h8_ : 0 ≤ F87_ 1 1 ∧ F87_ 1 1 ≤ 600 := gi_g g88_ rfl; omega
  have ho4_ : ∀ j : Nat, (j : Int) < F 1 1 → F87_ 2 j = F 2 j := fun j hj => Eq.trans (c85_ j (by omega)) (ho3_ j hj)
  refine fl_if_eq hm_1 rfl ⟨by omega, by omega⟩ (fun h => absurd h (by omega)) (fun _ => ?_)
  refine ga_aload_n (v := .ref 0) hm_1 rfl rfl rfl ?_
  refine ga_getr (b := 1) hm_1 rfl sc_0 rfl ?_
  refine ga_iload (z := t) hm_1 rfl rfl ?_
  refine gVi (nY := 4) (F := 1) (L := 21) (As := [.int (Int32.ofInt t)]) (b := 1) (rest := []) hm_1 rfl hm_20 rfl rfl (fl_ob sc_1) rfl rfl rfl rfl rfl (by omega) (by omega) (mc_20x hG F87_ X g88_ (t) (l4_) (cr4_) (hn4_)) (fun _ _ h => False.elim h) ?_
  have b102_ : 0 ≤ F87_ 1 1 ∧ F87_ 1 1 ≤ 600 := gi_g g88_ rfl
  rintro z101_ A1_ (⟨F105_, hA_, g106_, s107_, hz_, c103_, c104_⟩ | ⟨F111_, hA_, g112_, s113_, hz_, c108_, c109_, c110_⟩)
  ·
    subst hA_
    subst hz_
    have g114_ : fs [(1, 1, 1, 1), (2, 2, 0, 100000)] F F105_ := fs_tr g100_ s107_ rfl
    have ho5_ : ∀ j : Nat, (j : Int) < F 1 1 → F105_ 2 j = F 2 j := fun j hj => Eq.trans (c104_ j (by omega)) (ho4_ j hj)
    refine fl_if_eq hm_1 rfl ⟨by omega, by omega⟩ (fun _ => ?_) (fun h => absurd (by omega) h)
    refine fl_iconst hm_1 rfl ?_
    refine ga_istore (lv2 := [(7, .int (Int32.ofInt 0)), (6, .int (Int32.ofInt (F 1 1))), (0, .ref 0), (1, .int (Int32.ofInt p)), (2, .int (Int32.ofInt q)), (3, .int (Int32.ofInt r)), (4, .int (Int32.ofInt s)), (5, .int (Int32.ofInt t))]) hm_1 rfl (Nat.le_of_ble_eq_true rfl) rfl ?_
    refine ga_iload (z := 0) hm_1 rfl rfl ?_
    refine fl_if_ne hm_1 rfl ⟨by omega, by omega⟩ (fun h => absurd h (by omega)) (fun _ => ?_)
    refine ga_aload_n (v := .ref 0) hm_1 rfl rfl rfl ?_
    refine ga_getr (b := 1) hm_1 rfl sc_0 rfl ?_
    refine ga_iload (z := F 1 1) hm_1 rfl rfl ?_
    refine gIv (nY := 2) (F := 0) (L := 0) (As := [.int (Int32.ofInt (F 1 1))]) (b := 1) (rest := []) hm_1 rfl hm_18 rfl rfl (fl_ob sc_1) rfl rfl rfl rfl rfl (by omega) (by omega) ?_
    intro f115_ l116_ h117_ h118_
    show fl_R xi_ms 18 f115_ l116_ 0 [(0, .ref 1), (1, .int (Int32.ofInt (F 1 1)))] [] _ _
    refine ga_aload_n (v := .ref 1) hm_18 rfl rfl rfl ?_
    refine ga_iload_n (z := F 1 1) hm_18 rfl rfl ?_
    refine ga_puti (z := F 1 1) hm_18 rfl sc_1 rfl rfl ?_
    refine gr_v hm_18 rfl rfl ?_
    clear h117_ h118_ f115_ l116_
    refine ga_iload (z := 0) hm_1 rfl rfl ?_
    obtain ⟨F119_, q120_⟩ : ∃ Fq_, Fq_ = (fl_u F105_ 1 1 (F 1 1)) := ⟨_, rfl⟩
    rw [← q120_]
    have g121_ : gi F119_ := by rw [q120_]; exact gi_u (g106_) rfl (by omega) (by omega)
    have g122_ : fs [(1, 1, 1, 1), (2, 2, 0, 100000)] F F119_ := by rw [q120_]; exact fs_u (g114_) rfl
    refine gr_i (z := 0) hm_1 rfl rfl (ga_nb (by omega)) ?_
    have e123_ : F119_ 1 1 = F 1 1 := by rw [q120_]; exact fl_u_eq
    exact Or.inl ⟨F119_, rfl, g121_, g122_, rfl, (by unfold bys; rw [txs_app, cs1_]; rw [Option.bind_some]; rw [txs_app, cs2_]; rw [Option.bind_some]; rw [txs_app, cs3_]; rw [Option.bind_some]; rw [txs_app, cs4_]; rw [Option.bind_some]; rw [c103_]), (by rw [e123_]; exact rep_cg hl (fun j hj => Eq.trans (show F119_ 2 j = F105_ 2 j from (by rw [q120_]; exact (fl_u_ne (by first | exact nc_ rfl | decide | omega)))) (ho5_ j hj)))⟩
  subst hA_
  subst hz_
  have g124_ : fs [(1, 1, 1, 1), (2, 2, 0, 100000)] F F111_ := fs_tr g100_ s113_ rfl
  obtain ⟨l5_, cs5_, cr5_⟩ := c108_
  have hn5_ : (l5_.length : Int) ≤ 600 := by have h9_ := cr5_.1; have h8_ : 0 ≤ F111_ 1 1 ∧ F111_ 1 1 ≤ 600 := gi_g g112_ rfl; omega
  have ho5_ : ∀ j : Nat, (j : Int) < F 1 1 → F111_ 2 j = F 2 j := fun j hj => Eq.trans (c109_ j (by omega)) (ho4_ j hj)
  refine fl_if_eq hm_1 rfl ⟨by omega, by omega⟩ (fun h => absurd h (by omega)) (fun _ => ?_)
  refine fl_iconst hm_1 rfl ?_
  refine fl_goto hm_1 rfl ?_
  refine ga_istore (lv2 := [(7, .int (Int32.ofInt 1)), (6, .int (Int32.ofInt (F 1 1))), (0, .ref 0), (1, .int (Int32.ofInt p)), (2, .int (Int32.ofInt q)), (3, .int (Int32.ofInt r)), (4, .int (Int32.ofInt s)), (5, .int (Int32.ofInt t))]) hm_1 rfl (Nat.le_of_ble_eq_true rfl) rfl ?_
  refine ga_iload (z := 1) hm_1 rfl rfl ?_
  refine fl_if_ne hm_1 rfl ⟨by omega, by omega⟩ (fun _ => ?_) (fun h => absurd (by omega) h)
  refine ga_iload (z := 1) hm_1 rfl rfl ?_
  refine gr_i (z := 1) hm_1 rfl rfl (ga_nb (by omega)) ?_
  have b125_ : 0 ≤ F111_ 1 1 ∧ F111_ 1 1 ≤ 600 := gi_g g112_ rfl
  exact Or.inr (⟨F111_, rfl, g112_, g124_, rfl, (⟨l5_, by unfold bys; rw [txs_app, cs1_]; rw [Option.bind_some]; rw [txs_app, cs2_]; rw [Option.bind_some]; rw [txs_app, cs3_]; rw [Option.bind_some]; rw [txs_app, cs4_]; rw [Option.bind_some]; rw [cs5_], cr5_⟩)⟩)

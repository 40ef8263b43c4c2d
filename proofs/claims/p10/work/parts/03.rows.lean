abbrev xi_Z : Type := Program × Launch × Env × Room × State × MethodId × Array Value × List Frame × Method × Code × (State → Prop) × Nat × Nat × (Nat → Nat) × (Nat → ClassId) × va_G × Nat × Nat
def xi_R (b0 : Nat) (aS : Nat → Nat) (dA : Nat → ClassId) (D : va_G) (n0 s0 : Nat) (Hs : Heap) (A : xi_H) (H : Heap) (locs : List Loc) : Prop :=
  va_P D xi_cl (xi_w b0 aS dA A) H ∧ va_S (fun q => b0 ≤ q) Hs H locs ∧ n0 ≤ A.length ∧ s0 ≤ xi_ns A ∧ Hs.size = b0 + n0
def xi_At (z : xi_Z) (pc : Nat) (lv : xi_L) (st : List Value) (A : xi_H) : Prop := match z with
  | (p, l, e, R, s, m, args, below, meth, c, Q, nL, b0, aS, dA, D, n0, s0) => ∀ (H : Heap) (locs : List Loc) (ls : Array Slot), xi_R b0 aS dA D n0 s0 s.heap A H locs → lv_has ls nL (xi_l b0 aS lv) →
    W p l e R s m args below meth c H locs (A.length - n0) (xi_ns A - s0) Q (F0 m pc ls (st.map (xi_v b0 aS)))
/-- the j-th text is a String of one byte a letter, its letters lie at aS (100 + j); what its own methods read besides -/
def xi_Sj (b0 : Nat) (aS : Nat → Nat) (U : State) (j : Nat) (t : List Int) : Prop := va_O "java/lang/String" (aS j) (fun x => b0 ≤ x) U U.heap ∧ va_OF "java/lang/String" "coder" "B" (.int 0) (aS j) (fun x => b0 ≤ x) U U.heap ∧ va_OF "java/lang/String" "value" "[B" (.ref (aS (100 + j))) (aS j) (fun x => b0 ≤ x) U U.heap ∧ va_T .byte (aS (100 + j)) t.length (fun k => .int (Int32.ofInt (t.getD k 0))) (fun x => b0 ≤ x) U U.heap
def xi_Sx (b0 : Nat) (aS : Nat → Nat) (U : State) : Prop := va_Z "java/lang/String" "COMPACT_STRINGS" "Z" (.int 1) (fun x => b0 ≤ x) U U.heap ∧ (va_Z "jdk/internal/util/Preconditions" "SIOOBE_FORMATTER" "Ljava/util/function/BiFunction;" .null (fun x => b0 ≤ x) U U.heap ∨ va_Z "jdk/internal/util/Preconditions" "SIOOBE_FORMATTER" "Ljava/util/function/BiFunction;" (.ref (aS 200)) (fun x => b0 ≤ x) U U.heap) ∧ ∀ (j : Nat) (t : List Int), xi_tx[j]? = some t → xi_Sj b0 aS U j t
/-- what lasts beside the words: the j-th text lies at aS j; links within the nest; array classes; two statics -/
def xi_St (b0 : Nat) (aS : Nat → Nat) (U : State) : Prop := (∀ (j : Nat) (q : String × Nat × String), xi_str[j]? = some q → vk_R q.1 q.2.1 q.2.2 (aS j) U) ∧ (∀ w ∈ xi_nest, va_Nw w U) ∧ (∀ C ∈ xi_ao, va_AO C U) ∧ (∀ q ∈ xi_stq, va_Zq q.1 q.2.1 q.2.2 (fun x => b0 ≤ x) U U.heap ∧ va_Nw (.laysStatic q.1 q.2.1 q.2.2) U) ∧ xi_Sx b0 aS U ∧ ∀ q ∈ xi_ncp, va_Nc q.1 q.2 U
def xi_X (z : xi_Z) (cc : ByteArray) (own : String) : Prop := match z with
  | (p, _, _, _, s, m, args, _, _, c, _, nL, b0, aS, dA, D, _, _) => p.tables.exec = Jvm.exec ∧ c.code = cc ∧ c.maxLocals = nL ∧ s.vm.findClass own = some m.cls ∧ (∀ w ∈ xi_G, w.before args s = true) ∧ va_K D xi_cl (xi_tys dA) s ∧ xi_St b0 aS s
section XS
variable {z : xi_Z} {cc : ByteArray} {own : String} {pc : Nat} {lv : xi_L} {r : List Value} {A : xi_H}
theorem xs_iconst {n : Int} (X : xi_X z cc own) (hd : decode cc pc = .ok (.iconst n, 1)) (kk : xi_At z (pc + 1) lv (.int (Int32.ofInt n) :: r) A) : xi_At z pc lv (r) A := by
  obtain ⟨p, l, e, R, s, m, args, below, meth, c, Q, nL, b0, aS, dA, D, n0, s0⟩ := z
  obtain ⟨hx, hb, hml, hown, hts, hK, hstr⟩ := X
  intro H locs ls hR hl
  exact lv_iconst hx hb hd rfl (kk H locs ls hR hl)
theorem xs_bipush {n : Int} (X : xi_X z cc own) (hd : decode cc pc = .ok (.bipush n, 2)) (kk : xi_At z (pc + 2) lv (.int (Int8.ofInt n).toInt32 :: r) A) : xi_At z pc lv (r) A := by
  obtain ⟨p, l, e, R, s, m, args, below, meth, c, Q, nL, b0, aS, dA, D, n0, s0⟩ := z
  obtain ⟨hx, hb, hml, hown, hts, hK, hstr⟩ := X
  intro H locs ls hR hl
  exact lv_bipush hx hb hd rfl (kk H locs ls hR hl)
theorem xs_sipush {n : Int} (X : xi_X z cc own) (hd : decode cc pc = .ok (.sipush n, 3)) (kk : xi_At z (pc + 3) lv (.int (Int16.ofInt n).toInt32 :: r) A) : xi_At z pc lv (r) A := by
  obtain ⟨p, l, e, R, s, m, args, below, meth, c, Q, nL, b0, aS, dA, D, n0, s0⟩ := z
  obtain ⟨hx, hb, hml, hown, hts, hK, hstr⟩ := X
  intro H locs ls hR hl
  exact lv_sipush hx hb hd rfl (kk H locs ls hR hl)
theorem xs_lconst {n : Fin 2} (X : xi_X z cc own) (hd : decode cc pc = .ok (.lconst n, 1)) (kk : xi_At z (pc + 1) lv (.long (Int64.ofNat (n : Nat)) :: r) A) : xi_At z pc lv (r) A := by
  obtain ⟨p, l, e, R, s, m, args, below, meth, c, Q, nL, b0, aS, dA, D, n0, s0⟩ := z
  obtain ⟨hx, hb, hml, hown, hts, hK, hstr⟩ := X
  intro H locs ls hR hl
  exact lv_lconst hx hb hd rfl (kk H locs ls hR hl)
theorem xs_null  (X : xi_X z cc own) (hd : decode cc pc = .ok (.aconst_null, 1)) (kk : xi_At z (pc + 1) lv (.null :: r) A) : xi_At z pc lv (r) A := by
  obtain ⟨p, l, e, R, s, m, args, below, meth, c, Q, nL, b0, aS, dA, D, n0, s0⟩ := z
  obtain ⟨hx, hb, hml, hown, hts, hK, hstr⟩ := X
  intro H locs ls hR hl
  exact lv_null hx hb hd (kk H locs ls hR hl)
theorem xs_iadd {x y : Int32} (X : xi_X z cc own) (hd : decode cc pc = .ok (.iadd, 1)) (kk : xi_At z (pc + 1) lv (.int (x + y) :: r) A) : xi_At z pc lv (.int y :: .int x :: r) A := by
  obtain ⟨p, l, e, R, s, m, args, below, meth, c, Q, nL, b0, aS, dA, D, n0, s0⟩ := z
  obtain ⟨hx, hb, hml, hown, hts, hK, hstr⟩ := X
  intro H locs ls hR hl
  exact lv_iadd hx hb hd (kk H locs ls hR hl)
theorem xs_isub {x y : Int32} (X : xi_X z cc own) (hd : decode cc pc = .ok (.isub, 1)) (kk : xi_At z (pc + 1) lv (.int (x - y) :: r) A) : xi_At z pc lv (.int y :: .int x :: r) A := by
  obtain ⟨p, l, e, R, s, m, args, below, meth, c, Q, nL, b0, aS, dA, D, n0, s0⟩ := z
  obtain ⟨hx, hb, hml, hown, hts, hK, hstr⟩ := X
  intro H locs ls hR hl
  exact lv_isub hx hb hd (kk H locs ls hR hl)
theorem xs_imul {x y : Int32} (X : xi_X z cc own) (hd : decode cc pc = .ok (.imul, 1)) (kk : xi_At z (pc + 1) lv (.int (x * y) :: r) A) : xi_At z pc lv (.int y :: .int x :: r) A := by
  obtain ⟨p, l, e, R, s, m, args, below, meth, c, Q, nL, b0, aS, dA, D, n0, s0⟩ := z
  obtain ⟨hx, hb, hml, hown, hts, hK, hstr⟩ := X
  intro H locs ls hR hl
  exact lv_imul hx hb hd (kk H locs ls hR hl)
theorem xs_iand {x y : Int32} (X : xi_X z cc own) (hd : decode cc pc = .ok (.iand, 1)) (kk : xi_At z (pc + 1) lv (.int (x &&& y) :: r) A) : xi_At z pc lv (.int y :: .int x :: r) A := by
  obtain ⟨p, l, e, R, s, m, args, below, meth, c, Q, nL, b0, aS, dA, D, n0, s0⟩ := z
  obtain ⟨hx, hb, hml, hown, hts, hK, hstr⟩ := X
  intro H locs ls hR hl
  exact lv_iand hx hb hd (kk H locs ls hR hl)
theorem xs_ior {x y : Int32} (X : xi_X z cc own) (hd : decode cc pc = .ok (.ior, 1)) (kk : xi_At z (pc + 1) lv (.int (x ||| y) :: r) A) : xi_At z pc lv (.int y :: .int x :: r) A := by
  obtain ⟨p, l, e, R, s, m, args, below, meth, c, Q, nL, b0, aS, dA, D, n0, s0⟩ := z
  obtain ⟨hx, hb, hml, hown, hts, hK, hstr⟩ := X
  intro H locs ls hR hl
  exact lv_ior hx hb hd (kk H locs ls hR hl)
theorem xs_ixor {x y : Int32} (X : xi_X z cc own) (hd : decode cc pc = .ok (.ixor, 1)) (kk : xi_At z (pc + 1) lv (.int (x ^^^ y) :: r) A) : xi_At z pc lv (.int y :: .int x :: r) A := by
  obtain ⟨p, l, e, R, s, m, args, below, meth, c, Q, nL, b0, aS, dA, D, n0, s0⟩ := z
  obtain ⟨hx, hb, hml, hown, hts, hK, hstr⟩ := X
  intro H locs ls hR hl
  exact lv_ixor hx hb hd (kk H locs ls hR hl)
theorem xs_ishl {x y : Int32} (X : xi_X z cc own) (hd : decode cc pc = .ok (.ishl, 1)) (kk : xi_At z (pc + 1) lv (.int (x <<< (y &&& 31)) :: r) A) : xi_At z pc lv (.int y :: .int x :: r) A := by
  obtain ⟨p, l, e, R, s, m, args, below, meth, c, Q, nL, b0, aS, dA, D, n0, s0⟩ := z
  obtain ⟨hx, hb, hml, hown, hts, hK, hstr⟩ := X
  intro H locs ls hR hl
  exact lv_ishl hx hb hd (kk H locs ls hR hl)
theorem xs_ishr {x y : Int32} (X : xi_X z cc own) (hd : decode cc pc = .ok (.ishr, 1)) (kk : xi_At z (pc + 1) lv (.int (x >>> (y &&& 31)) :: r) A) : xi_At z pc lv (.int y :: .int x :: r) A := by
  obtain ⟨p, l, e, R, s, m, args, below, meth, c, Q, nL, b0, aS, dA, D, n0, s0⟩ := z
  obtain ⟨hx, hb, hml, hown, hts, hK, hstr⟩ := X
  intro H locs ls hR hl
  exact lv_ishr hx hb hd (kk H locs ls hR hl)
theorem xs_iushr {x y : Int32} (X : xi_X z cc own) (hd : decode cc pc = .ok (.iushr, 1)) (kk : xi_At z (pc + 1) lv (.int ((x.toUInt32 >>> (y.toUInt32 &&& Int32.toUInt32 31)).toInt32) :: r) A) : xi_At z pc lv (.int y :: .int x :: r) A := by
  obtain ⟨p, l, e, R, s, m, args, below, meth, c, Q, nL, b0, aS, dA, D, n0, s0⟩ := z
  obtain ⟨hx, hb, hml, hown, hts, hK, hstr⟩ := X
  intro H locs ls hR hl
  exact lv_iushr hx hb hd rfl (kk H locs ls hR hl)
theorem xs_idiv {x y : Int32} (X : xi_X z cc own) (hd : decode cc pc = .ok (.idiv, 1)) (hc : ¬ y = 0) (kk : xi_At z (pc + 1) lv (.int (x / y) :: r) A) : xi_At z pc lv (.int y :: .int x :: r) A := by
  obtain ⟨p, l, e, R, s, m, args, below, meth, c, Q, nL, b0, aS, dA, D, n0, s0⟩ := z
  obtain ⟨hx, hb, hml, hown, hts, hK, hstr⟩ := X
  intro H locs ls hR hl
  exact lv_idiv hx hb hd hc (kk H locs ls hR hl)
theorem xs_irem {x y : Int32} (X : xi_X z cc own) (hd : decode cc pc = .ok (.irem, 1)) (hc : ¬ y = 0) (kk : xi_At z (pc + 1) lv (.int (x - x / y * y) :: r) A) : xi_At z pc lv (.int y :: .int x :: r) A := by
  obtain ⟨p, l, e, R, s, m, args, below, meth, c, Q, nL, b0, aS, dA, D, n0, s0⟩ := z
  obtain ⟨hx, hb, hml, hown, hts, hK, hstr⟩ := X
  intro H locs ls hR hl
  exact lv_irem hx hb hd hc (kk H locs ls hR hl)
theorem xs_ineg {x : Int32} (X : xi_X z cc own) (hd : decode cc pc = .ok (.ineg, 1)) (kk : xi_At z (pc + 1) lv (.int (-x) :: r) A) : xi_At z pc lv (.int x :: r) A := by
  obtain ⟨p, l, e, R, s, m, args, below, meth, c, Q, nL, b0, aS, dA, D, n0, s0⟩ := z
  obtain ⟨hx, hb, hml, hown, hts, hK, hstr⟩ := X
  intro H locs ls hR hl
  exact lv_ineg hx hb hd (kk H locs ls hR hl)
theorem xs_ladd {x y : Int64} (X : xi_X z cc own) (hd : decode cc pc = .ok (.ladd, 1)) (kk : xi_At z (pc + 1) lv (.long (x + y) :: r) A) : xi_At z pc lv (.long y :: .long x :: r) A := by
  obtain ⟨p, l, e, R, s, m, args, below, meth, c, Q, nL, b0, aS, dA, D, n0, s0⟩ := z
  obtain ⟨hx, hb, hml, hown, hts, hK, hstr⟩ := X
  intro H locs ls hR hl
  exact lv_ladd hx hb hd (kk H locs ls hR hl)
theorem xs_lsub {x y : Int64} (X : xi_X z cc own) (hd : decode cc pc = .ok (.lsub, 1)) (kk : xi_At z (pc + 1) lv (.long (x - y) :: r) A) : xi_At z pc lv (.long y :: .long x :: r) A := by
  obtain ⟨p, l, e, R, s, m, args, below, meth, c, Q, nL, b0, aS, dA, D, n0, s0⟩ := z
  obtain ⟨hx, hb, hml, hown, hts, hK, hstr⟩ := X
  intro H locs ls hR hl
  exact lv_lsub hx hb hd (kk H locs ls hR hl)
theorem xs_lmul {x y : Int64} (X : xi_X z cc own) (hd : decode cc pc = .ok (.lmul, 1)) (kk : xi_At z (pc + 1) lv (.long (x * y) :: r) A) : xi_At z pc lv (.long y :: .long x :: r) A := by
  obtain ⟨p, l, e, R, s, m, args, below, meth, c, Q, nL, b0, aS, dA, D, n0, s0⟩ := z
  obtain ⟨hx, hb, hml, hown, hts, hK, hstr⟩ := X
  intro H locs ls hR hl
  exact lv_lmul hx hb hd (kk H locs ls hR hl)
theorem xs_land {x y : Int64} (X : xi_X z cc own) (hd : decode cc pc = .ok (.land, 1)) (kk : xi_At z (pc + 1) lv (.long (x &&& y) :: r) A) : xi_At z pc lv (.long y :: .long x :: r) A := by
  obtain ⟨p, l, e, R, s, m, args, below, meth, c, Q, nL, b0, aS, dA, D, n0, s0⟩ := z
  obtain ⟨hx, hb, hml, hown, hts, hK, hstr⟩ := X
  intro H locs ls hR hl
  exact lv_land hx hb hd (kk H locs ls hR hl)
theorem xs_lor {x y : Int64} (X : xi_X z cc own) (hd : decode cc pc = .ok (.lor, 1)) (kk : xi_At z (pc + 1) lv (.long (x ||| y) :: r) A) : xi_At z pc lv (.long y :: .long x :: r) A := by
  obtain ⟨p, l, e, R, s, m, args, below, meth, c, Q, nL, b0, aS, dA, D, n0, s0⟩ := z
  obtain ⟨hx, hb, hml, hown, hts, hK, hstr⟩ := X
  intro H locs ls hR hl
  exact lv_lor hx hb hd (kk H locs ls hR hl)
theorem xs_lxor {x y : Int64} (X : xi_X z cc own) (hd : decode cc pc = .ok (.lxor, 1)) (kk : xi_At z (pc + 1) lv (.long (x ^^^ y) :: r) A) : xi_At z pc lv (.long y :: .long x :: r) A := by
  obtain ⟨p, l, e, R, s, m, args, below, meth, c, Q, nL, b0, aS, dA, D, n0, s0⟩ := z
  obtain ⟨hx, hb, hml, hown, hts, hK, hstr⟩ := X
  intro H locs ls hR hl
  exact lv_lxor hx hb hd (kk H locs ls hR hl)
theorem xs_ldiv {x y : Int64} (X : xi_X z cc own) (hd : decode cc pc = .ok (.ldiv, 1)) (hc : ¬ y = 0) (kk : xi_At z (pc + 1) lv (.long (x / y) :: r) A) : xi_At z pc lv (.long y :: .long x :: r) A := by
  obtain ⟨p, l, e, R, s, m, args, below, meth, c, Q, nL, b0, aS, dA, D, n0, s0⟩ := z
  obtain ⟨hx, hb, hml, hown, hts, hK, hstr⟩ := X
  intro H locs ls hR hl
  exact lv_ldiv hx hb hd hc (kk H locs ls hR hl)
theorem xs_lrem {x y : Int64} (X : xi_X z cc own) (hd : decode cc pc = .ok (.lrem, 1)) (hc : ¬ y = 0) (kk : xi_At z (pc + 1) lv (.long (x - x / y * y) :: r) A) : xi_At z pc lv (.long y :: .long x :: r) A := by
  obtain ⟨p, l, e, R, s, m, args, below, meth, c, Q, nL, b0, aS, dA, D, n0, s0⟩ := z
  obtain ⟨hx, hb, hml, hown, hts, hK, hstr⟩ := X
  intro H locs ls hR hl
  exact lv_lrem hx hb hd hc (kk H locs ls hR hl)
theorem xs_lshl {x : Int64} {y : Int32} (X : xi_X z cc own) (hd : decode cc pc = .ok (.lshl, 1)) (kk : xi_At z (pc + 1) lv (.long (x <<< (y.toInt64 &&& 63)) :: r) A) : xi_At z pc lv (.int y :: .long x :: r) A := by
  obtain ⟨p, l, e, R, s, m, args, below, meth, c, Q, nL, b0, aS, dA, D, n0, s0⟩ := z
  obtain ⟨hx, hb, hml, hown, hts, hK, hstr⟩ := X
  intro H locs ls hR hl
  exact lv_lshl hx hb hd rfl (kk H locs ls hR hl)
theorem xs_lshr {x : Int64} {y : Int32} (X : xi_X z cc own) (hd : decode cc pc = .ok (.lshr, 1)) (kk : xi_At z (pc + 1) lv (.long (x >>> (y.toInt64 &&& 63)) :: r) A) : xi_At z pc lv (.int y :: .long x :: r) A := by
  obtain ⟨p, l, e, R, s, m, args, below, meth, c, Q, nL, b0, aS, dA, D, n0, s0⟩ := z
  obtain ⟨hx, hb, hml, hown, hts, hK, hstr⟩ := X
  intro H locs ls hR hl
  exact lv_lshr hx hb hd rfl (kk H locs ls hR hl)
theorem xs_lushr {x : Int64} {y : Int32} (X : xi_X z cc own) (hd : decode cc pc = .ok (.lushr, 1)) (kk : xi_At z (pc + 1) lv (.long ((x.toUInt64 >>> (y.toInt64.toUInt64 &&& Int64.toUInt64 63)).toInt64) :: r) A) : xi_At z pc lv (.int y :: .long x :: r) A := by
  obtain ⟨p, l, e, R, s, m, args, below, meth, c, Q, nL, b0, aS, dA, D, n0, s0⟩ := z
  obtain ⟨hx, hb, hml, hown, hts, hK, hstr⟩ := X
  intro H locs ls hR hl
  exact lv_lushr hx hb hd rfl (kk H locs ls hR hl)
theorem xs_i2l {x : Int32} (X : xi_X z cc own) (hd : decode cc pc = .ok (.i2l, 1)) (kk : xi_At z (pc + 1) lv (.long x.toInt64 :: r) A) : xi_At z pc lv (.int x :: r) A := by
  obtain ⟨p, l, e, R, s, m, args, below, meth, c, Q, nL, b0, aS, dA, D, n0, s0⟩ := z
  obtain ⟨hx, hb, hml, hown, hts, hK, hstr⟩ := X
  intro H locs ls hR hl
  exact lv_i2l hx hb hd rfl (kk H locs ls hR hl)
theorem xs_l2i {x : Int64} (X : xi_X z cc own) (hd : decode cc pc = .ok (.l2i, 1)) (kk : xi_At z (pc + 1) lv (.int x.toInt32 :: r) A) : xi_At z pc lv (.long x :: r) A := by
  obtain ⟨p, l, e, R, s, m, args, below, meth, c, Q, nL, b0, aS, dA, D, n0, s0⟩ := z
  obtain ⟨hx, hb, hml, hown, hts, hK, hstr⟩ := X
  intro H locs ls hR hl
  exact lv_l2i hx hb hd rfl (kk H locs ls hR hl)
theorem xs_i2c {x : Int32} (X : xi_X z cc own) (hd : decode cc pc = .ok (.i2c, 1)) (kk : xi_At z (pc + 1) lv (.int ((x.toUInt32 % 65536).toInt32) :: r) A) : xi_At z pc lv (.int x :: r) A := by
  obtain ⟨p, l, e, R, s, m, args, below, meth, c, Q, nL, b0, aS, dA, D, n0, s0⟩ := z
  obtain ⟨hx, hb, hml, hown, hts, hK, hstr⟩ := X
  intro H locs ls hR hl
  exact lv_i2c hx hb hd rfl (kk H locs ls hR hl)
theorem xs_lcmp {x y : Int64} (X : xi_X z cc own) (hd : decode cc pc = .ok (.lcmp, 1)) (kk : xi_At z (pc + 1) lv (.int (lg_cmp x y) :: r) A) : xi_At z pc lv (.long y :: .long x :: r) A := by
  obtain ⟨p, l, e, R, s, m, args, below, meth, c, Q, nL, b0, aS, dA, D, n0, s0⟩ := z
  obtain ⟨hx, hb, hml, hown, hts, hK, hstr⟩ := X
  intro H locs ls hR hl
  exact W.lcmp hx hb hd (kk H locs ls hR hl)
theorem xs_dup {va : Value} (X : xi_X z cc own) (hd : decode cc pc = .ok (.dup, 1)) (hva : va.category = 1) (kk : xi_At z (pc + 1) lv (va :: va :: r) A) : xi_At z pc lv (va :: r) A := by
  obtain ⟨p, l, e, R, s, m, args, below, meth, c, Q, nL, b0, aS, dA, D, n0, s0⟩ := z
  obtain ⟨hx, hb, hml, hown, hts, hK, hstr⟩ := X
  intro H locs ls hR hl
  exact lv_dup hx hb hd ((xi_v_cat _ _ va).trans hva) (kk H locs ls hR hl)
theorem xs_pop {va : Value} (X : xi_X z cc own) (hd : decode cc pc = .ok (.pop, 1)) (hva : va.category = 1) (kk : xi_At z (pc + 1) lv (r) A) : xi_At z pc lv (va :: r) A := by
  obtain ⟨p, l, e, R, s, m, args, below, meth, c, Q, nL, b0, aS, dA, D, n0, s0⟩ := z
  obtain ⟨hx, hb, hml, hown, hts, hK, hstr⟩ := X
  intro H locs ls hR hl
  exact lv_pop hx hb hd ((xi_v_cat _ _ va).trans hva) (kk H locs ls hR hl)
theorem xs_dup_x1 {va vb : Value} (X : xi_X z cc own) (hd : decode cc pc = .ok (.dup_x1, 1)) (hva : va.category = 1) (hvb : vb.category = 1) (kk : xi_At z (pc + 1) lv (va :: vb :: va :: r) A) : xi_At z pc lv (va :: vb :: r) A := by
  obtain ⟨p, l, e, R, s, m, args, below, meth, c, Q, nL, b0, aS, dA, D, n0, s0⟩ := z
  obtain ⟨hx, hb, hml, hown, hts, hK, hstr⟩ := X
  intro H locs ls hR hl
  exact lv_dup_x1 hx hb hd ((xi_v_cat _ _ va).trans hva) ((xi_v_cat _ _ vb).trans hvb) (kk H locs ls hR hl)
theorem xs_dup_x2 {va vb vd : Value} (X : xi_X z cc own) (hd : decode cc pc = .ok (.dup_x2, 1)) (hva : va.category = 1) (hvb : vb.category = 1) (hvd : vd.category = 1) (kk : xi_At z (pc + 1) lv (va :: vb :: vd :: va :: r) A) : xi_At z pc lv (va :: vb :: vd :: r) A := by
  obtain ⟨p, l, e, R, s, m, args, below, meth, c, Q, nL, b0, aS, dA, D, n0, s0⟩ := z
  obtain ⟨hx, hb, hml, hown, hts, hK, hstr⟩ := X
  intro H locs ls hR hl
  exact lv_dup_x2 hx hb hd ((xi_v_cat _ _ va).trans hva) ((xi_v_cat _ _ vb).trans hvb) ((xi_v_cat _ _ vd).trans hvd) (kk H locs ls hR hl)
theorem xs_dup2_11 {va vb : Value} (X : xi_X z cc own) (hd : decode cc pc = .ok (.dup2, 1)) (hva : va.category = 1) (hvb : vb.category = 1) (kk : xi_At z (pc + 1) lv (va :: vb :: va :: vb :: r) A) : xi_At z pc lv (va :: vb :: r) A := by
  obtain ⟨p, l, e, R, s, m, args, below, meth, c, Q, nL, b0, aS, dA, D, n0, s0⟩ := z
  obtain ⟨hx, hb, hml, hown, hts, hK, hstr⟩ := X
  intro H locs ls hR hl
  exact lv_dup2_11 hx hb hd ((xi_v_cat _ _ va).trans hva) ((xi_v_cat _ _ vb).trans hvb) (kk H locs ls hR hl)
theorem xs_dup2_2 {va : Value} (X : xi_X z cc own) (hd : decode cc pc = .ok (.dup2, 1)) (hva : va.category = 2) (kk : xi_At z (pc + 1) lv (va :: va :: r) A) : xi_At z pc lv (va :: r) A := by
  obtain ⟨p, l, e, R, s, m, args, below, meth, c, Q, nL, b0, aS, dA, D, n0, s0⟩ := z
  obtain ⟨hx, hb, hml, hown, hts, hK, hstr⟩ := X
  intro H locs ls hR hl
  exact lv_dup2_2 hx hb hd ((xi_v_cat _ _ va).trans hva) (kk H locs ls hR hl)
theorem xs_pop2 {va : Value} (X : xi_X z cc own) (hd : decode cc pc = .ok (.pop2, 1)) (hva : va.category = 2) (kk : xi_At z (pc + 1) lv r A) : xi_At z pc lv (va :: r) A := by
  obtain ⟨p, l, e, R, s, m, args, below, meth, c, Q, nL, b0, aS, dA, D, n0, s0⟩ := z
  obtain ⟨hx, hb, hml, hown, hts, hK, hstr⟩ := X
  intro H locs ls hR hl
  exact lv_pop2_2 hx hb hd ((xi_v_cat _ _ va).trans hva) (kk H locs ls hR hl)
theorem xs_iload_n {k : Fin 4} {x : Int32} (X : xi_X z cc own) (hd : decode cc pc = .ok (.iload_n k, 1)) (hc : xi_get lv k = some (.int x)) (kk : xi_At z (pc + 1) lv (.int x :: r) A) : xi_At z pc lv r A := by
  obtain ⟨p, l, e, R, s, m, args, below, meth, c, Q, nL, b0, aS, dA, D, n0, s0⟩ := z
  obtain ⟨hx, hb, hml, hown, hts, hK, hstr⟩ := X
  intro H locs ls hR hl
  exact lv_iload_n hx hb hd rfl (xi_get_at hl hc) (kk H locs ls hR hl)
theorem xs_iload {i : Nat} {x : Int32} (X : xi_X z cc own) (hd : decode cc pc = .ok (.iload i, 2)) (hc : xi_get lv i = some (.int x)) (kk : xi_At z (pc + 2) lv (.int x :: r) A) : xi_At z pc lv r A := by
  obtain ⟨p, l, e, R, s, m, args, below, meth, c, Q, nL, b0, aS, dA, D, n0, s0⟩ := z
  obtain ⟨hx, hb, hml, hown, hts, hK, hstr⟩ := X
  intro H locs ls hR hl
  exact lv_iload hx hb hd (xi_get_at hl hc) (kk H locs ls hR hl)
theorem xs_lload_n {k : Fin 4} {x : Int64} (X : xi_X z cc own) (hd : decode cc pc = .ok (.lload_n k, 1)) (hc : xi_get lv k = some (.long x)) (kk : xi_At z (pc + 1) lv (.long x :: r) A) : xi_At z pc lv r A := by
  obtain ⟨p, l, e, R, s, m, args, below, meth, c, Q, nL, b0, aS, dA, D, n0, s0⟩ := z
  obtain ⟨hx, hb, hml, hown, hts, hK, hstr⟩ := X
  intro H locs ls hR hl
  exact lv_lload_n hx hb hd rfl (xi_get_at hl hc) (kk H locs ls hR hl)
theorem xs_lload {i : Nat} {x : Int64} (X : xi_X z cc own) (hd : decode cc pc = .ok (.lload i, 2)) (hc : xi_get lv i = some (.long x)) (kk : xi_At z (pc + 2) lv (.long x :: r) A) : xi_At z pc lv r A := by
  obtain ⟨p, l, e, R, s, m, args, below, meth, c, Q, nL, b0, aS, dA, D, n0, s0⟩ := z
  obtain ⟨hx, hb, hml, hown, hts, hK, hstr⟩ := X
  intro H locs ls hR hl
  exact lv_lload hx hb hd (xi_get_at hl hc) (kk H locs ls hR hl)
theorem xs_aload_n {k : Fin 4} {v : Value} (X : xi_X z cc own) (hd : decode cc pc = .ok (.aload_n k, 1)) (hc : xi_get lv k = some v) (hv : xi_isr v = true) (kk : xi_At z (pc + 1) lv (v :: r) A) : xi_At z pc lv r A := by
  obtain ⟨p, l, e, R, s, m, args, below, meth, c, Q, nL, b0, aS, dA, D, n0, s0⟩ := z
  obtain ⟨hx, hb, hml, hown, hts, hK, hstr⟩ := X
  intro H locs ls hR hl
  cases v with
  | ref a => exact lv_aload_n hx hb hd rfl (xi_get_at hl hc) (kk H locs ls hR hl)
  | retAddr a => exact lv_aload_n hx hb hd rfl (xi_get_at hl hc) (kk H locs ls hR hl)
  | null => exact lv_aload_nN hx hb hd rfl (xi_get_at hl hc) (kk H locs ls hR hl)
  | _ => simp [xi_isr] at hv
theorem xs_aload {i : Nat} {v : Value} (X : xi_X z cc own) (hd : decode cc pc = .ok (.aload i, 2)) (hc : xi_get lv i = some v) (hv : xi_isr v = true) (kk : xi_At z (pc + 2) lv (v :: r) A) : xi_At z pc lv r A := by
  obtain ⟨p, l, e, R, s, m, args, below, meth, c, Q, nL, b0, aS, dA, D, n0, s0⟩ := z
  obtain ⟨hx, hb, hml, hown, hts, hK, hstr⟩ := X
  intro H locs ls hR hl
  cases v with
  | ref a => exact lv_aload hx hb hd (xi_get_at hl hc) (kk H locs ls hR hl)
  | retAddr a => exact lv_aload hx hb hd (xi_get_at hl hc) (kk H locs ls hR hl)
  | null => exact lv_aloadN hx hb hd (xi_get_at hl hc) (kk H locs ls hR hl)
  | _ => simp [xi_isr] at hv
theorem xs_istore_n {k : Fin 4} {i : Nat} {x : Int32} (X : xi_X z cc own) (hd : decode cc pc = .ok (.istore_n k, 1)) (hi : (k : Nat) = i) (hn : i < z.2.2.2.2.2.2.2.2.2.2.2.1) (kk : xi_At z (pc + 1) (xi_put1 lv i (.int x)) r A) : xi_At z pc lv (.int x :: r) A := by
  obtain ⟨p, l, e, R, s, m, args, below, meth, c, Q, nL, b0, aS, dA, D, n0, s0⟩ := z
  obtain ⟨hx, hb, hml, hown, hts, hK, hstr⟩ := X
  intro H locs ls hR hl
  exact lv_istore_n hx hb hd hi hl hn (xi_put1_l b0 aS lv i (.int x)) (fun ls' hl' => kk H locs ls' hR hl')
theorem xs_istore {i : Nat} {x : Int32} (X : xi_X z cc own) (hd : decode cc pc = .ok (.istore i, 2)) (hn : i < z.2.2.2.2.2.2.2.2.2.2.2.1) (kk : xi_At z (pc + 2) (xi_put1 lv i (.int x)) r A) : xi_At z pc lv (.int x :: r) A := by
  obtain ⟨p, l, e, R, s, m, args, below, meth, c, Q, nL, b0, aS, dA, D, n0, s0⟩ := z
  obtain ⟨hx, hb, hml, hown, hts, hK, hstr⟩ := X
  intro H locs ls hR hl
  exact lv_istore hx hb hd hl hn (xi_put1_l b0 aS lv i (.int x)) (fun ls' hl' => kk H locs ls' hR hl')
theorem xs_lstore_n {k : Fin 4} {i : Nat} {x : Int64} (X : xi_X z cc own) (hd : decode cc pc = .ok (.lstore_n k, 1)) (hi : (k : Nat) = i) (hn : i + 1 < z.2.2.2.2.2.2.2.2.2.2.2.1) (kk : xi_At z (pc + 1) (xi_put2 lv i (.long x)) r A) : xi_At z pc lv (.long x :: r) A := by
  obtain ⟨p, l, e, R, s, m, args, below, meth, c, Q, nL, b0, aS, dA, D, n0, s0⟩ := z
  obtain ⟨hx, hb, hml, hown, hts, hK, hstr⟩ := X
  intro H locs ls hR hl
  exact lv_lstore_n hx hb hd hi hl hn (xi_put2_l b0 aS lv i (.long x)) (fun ls' hl' => kk H locs ls' hR hl')
theorem xs_lstore {i : Nat} {x : Int64} (X : xi_X z cc own) (hd : decode cc pc = .ok (.lstore i, 2)) (hn : i + 1 < z.2.2.2.2.2.2.2.2.2.2.2.1) (kk : xi_At z (pc + 2) (xi_put2 lv i (.long x)) r A) : xi_At z pc lv (.long x :: r) A := by
  obtain ⟨p, l, e, R, s, m, args, below, meth, c, Q, nL, b0, aS, dA, D, n0, s0⟩ := z
  obtain ⟨hx, hb, hml, hown, hts, hK, hstr⟩ := X
  intro H locs ls hR hl
  exact lv_lstore hx hb hd hl hn (xi_put2_l b0 aS lv i (.long x)) (fun ls' hl' => kk H locs ls' hR hl')
theorem xs_astore_n {k : Fin 4} {i : Nat} {x : Nat} (X : xi_X z cc own) (hd : decode cc pc = .ok (.astore_n k, 1)) (hi : (k : Nat) = i) (hn : i < z.2.2.2.2.2.2.2.2.2.2.2.1) (kk : xi_At z (pc + 1) (xi_put1 lv i (.ref x)) r A) : xi_At z pc lv (.ref x :: r) A := by
  obtain ⟨p, l, e, R, s, m, args, below, meth, c, Q, nL, b0, aS, dA, D, n0, s0⟩ := z
  obtain ⟨hx, hb, hml, hown, hts, hK, hstr⟩ := X
  intro H locs ls hR hl
  exact lv_astore_n hx hb hd hi hl hn (xi_put1_l b0 aS lv i (.ref x)) (fun ls' hl' => kk H locs ls' hR hl')
theorem xs_astore {i : Nat} {x : Nat} (X : xi_X z cc own) (hd : decode cc pc = .ok (.astore i, 2)) (hn : i < z.2.2.2.2.2.2.2.2.2.2.2.1) (kk : xi_At z (pc + 2) (xi_put1 lv i (.ref x)) r A) : xi_At z pc lv (.ref x :: r) A := by
  obtain ⟨p, l, e, R, s, m, args, below, meth, c, Q, nL, b0, aS, dA, D, n0, s0⟩ := z
  obtain ⟨hx, hb, hml, hown, hts, hK, hstr⟩ := X
  intro H locs ls hR hl
  exact lv_astore hx hb hd hl hn (xi_put1_l b0 aS lv i (.ref x)) (fun ls' hl' => kk H locs ls' hR hl')
theorem xs_iinc {i : Nat} {n : Int} {x : Int32} (X : xi_X z cc own) (hd : decode cc pc = .ok (.iinc i n, 3)) (hc : xi_get lv i = some (.int x)) (hn : i < z.2.2.2.2.2.2.2.2.2.2.2.1) (kk : xi_At z (pc + 3) (xi_put1 lv i (.int (x + Int32.ofInt n))) r A) : xi_At z pc lv r A := by
  obtain ⟨p, l, e, R, s, m, args, below, meth, c, Q, nL, b0, aS, dA, D, n0, s0⟩ := z
  obtain ⟨hx, hb, hml, hown, hts, hK, hstr⟩ := X
  intro H locs ls hR hl
  obtain ⟨k, hk⟩ := xi_get_ix (b0 := b0) (aS := aS) hc
  exact lv_iinc hx hb hd hl hk rfl hn (xi_put1_l b0 aS lv i (.int (x + Int32.ofInt n))) (fun ls' hl' => kk H locs ls' hR hl')
theorem xs_if_eq {x : Int32} {off : Int} {tgt : Nat} (X : xi_X z cc own) (hd : decode cc pc = .ok (.ifCond .eq off, 3)) (ht : (pc : Int) + off = (tgt : Int)) (kk : xi_At z (if x = 0 then tgt else pc + 3) lv r A) : xi_At z pc lv (.int x :: r) A := by
  obtain ⟨p, l, e, R, s, m, args, below, meth, c, Q, nL, b0, aS, dA, D, n0, s0⟩ := z
  obtain ⟨hx, hb, hml, hown, hts, hK, hstr⟩ := X
  intro H locs ls hR hl
  have k1 := kk H locs ls hR hl
  exact lv_if_eq hx hb hd ht (fun h => by rw [if_pos h] at k1; exact k1) (fun h => by rw [if_neg (h)] at k1; exact k1)
theorem xs_if_ne {x : Int32} {off : Int} {tgt : Nat} (X : xi_X z cc own) (hd : decode cc pc = .ok (.ifCond .ne off, 3)) (ht : (pc : Int) + off = (tgt : Int)) (kk : xi_At z (if ¬ x = 0 then tgt else pc + 3) lv r A) : xi_At z pc lv (.int x :: r) A := by
  obtain ⟨p, l, e, R, s, m, args, below, meth, c, Q, nL, b0, aS, dA, D, n0, s0⟩ := z
  obtain ⟨hx, hb, hml, hown, hts, hK, hstr⟩ := X
  intro H locs ls hR hl
  have k1 := kk H locs ls hR hl
  exact lv_if_ne hx hb hd ht (fun h => by rw [if_pos h] at k1; exact k1) (fun h => by rw [if_neg (fun q => q h)] at k1; exact k1)
theorem xs_if_lt {x : Int32} {off : Int} {tgt : Nat} (X : xi_X z cc own) (hd : decode cc pc = .ok (.ifCond .lt off, 3)) (ht : (pc : Int) + off = (tgt : Int)) (kk : xi_At z (if x < 0 then tgt else pc + 3) lv r A) : xi_At z pc lv (.int x :: r) A := by
  obtain ⟨p, l, e, R, s, m, args, below, meth, c, Q, nL, b0, aS, dA, D, n0, s0⟩ := z
  obtain ⟨hx, hb, hml, hown, hts, hK, hstr⟩ := X
  intro H locs ls hR hl
  have k1 := kk H locs ls hR hl
  exact lv_if_lt hx hb hd ht (fun h => by rw [if_pos h] at k1; exact k1) (fun h => by rw [if_neg (h)] at k1; exact k1)
theorem xs_if_ge {x : Int32} {off : Int} {tgt : Nat} (X : xi_X z cc own) (hd : decode cc pc = .ok (.ifCond .ge off, 3)) (ht : (pc : Int) + off = (tgt : Int)) (kk : xi_At z (if 0 ≤ x then tgt else pc + 3) lv r A) : xi_At z pc lv (.int x :: r) A := by
  obtain ⟨p, l, e, R, s, m, args, below, meth, c, Q, nL, b0, aS, dA, D, n0, s0⟩ := z
  obtain ⟨hx, hb, hml, hown, hts, hK, hstr⟩ := X
  intro H locs ls hR hl
  have k1 := kk H locs ls hR hl
  exact lv_if_ge hx hb hd ht (fun h => by rw [if_pos h] at k1; exact k1) (fun h => by rw [if_neg (h)] at k1; exact k1)
theorem xs_if_gt {x : Int32} {off : Int} {tgt : Nat} (X : xi_X z cc own) (hd : decode cc pc = .ok (.ifCond .gt off, 3)) (ht : (pc : Int) + off = (tgt : Int)) (kk : xi_At z (if 0 < x then tgt else pc + 3) lv r A) : xi_At z pc lv (.int x :: r) A := by
  obtain ⟨p, l, e, R, s, m, args, below, meth, c, Q, nL, b0, aS, dA, D, n0, s0⟩ := z
  obtain ⟨hx, hb, hml, hown, hts, hK, hstr⟩ := X
  intro H locs ls hR hl
  have k1 := kk H locs ls hR hl
  exact lv_if_gt hx hb hd ht (fun h => by rw [if_pos h] at k1; exact k1) (fun h => by rw [if_neg (h)] at k1; exact k1)
theorem xs_if_le {x : Int32} {off : Int} {tgt : Nat} (X : xi_X z cc own) (hd : decode cc pc = .ok (.ifCond .le off, 3)) (ht : (pc : Int) + off = (tgt : Int)) (kk : xi_At z (if x ≤ 0 then tgt else pc + 3) lv r A) : xi_At z pc lv (.int x :: r) A := by
  obtain ⟨p, l, e, R, s, m, args, below, meth, c, Q, nL, b0, aS, dA, D, n0, s0⟩ := z
  obtain ⟨hx, hb, hml, hown, hts, hK, hstr⟩ := X
  intro H locs ls hR hl
  have k1 := kk H locs ls hR hl
  exact lv_if_le hx hb hd ht (fun h => by rw [if_pos h] at k1; exact k1) (fun h => by rw [if_neg (h)] at k1; exact k1)
theorem xs_icmp_eq {x y : Int32} {off : Int} {tgt : Nat} (X : xi_X z cc own) (hd : decode cc pc = .ok (.if_icmp .eq off, 3)) (ht : (pc : Int) + off = (tgt : Int)) (kk : xi_At z (if x = y then tgt else pc + 3) lv r A) : xi_At z pc lv (.int y :: .int x :: r) A := by
  obtain ⟨p, l, e, R, s, m, args, below, meth, c, Q, nL, b0, aS, dA, D, n0, s0⟩ := z
  obtain ⟨hx, hb, hml, hown, hts, hK, hstr⟩ := X
  intro H locs ls hR hl
  have k1 := kk H locs ls hR hl
  exact lv_icmp_eq hx hb hd ht (fun h => by rw [if_pos h] at k1; exact k1) (fun h => by rw [if_neg (h)] at k1; exact k1)
theorem xs_icmp_ne {x y : Int32} {off : Int} {tgt : Nat} (X : xi_X z cc own) (hd : decode cc pc = .ok (.if_icmp .ne off, 3)) (ht : (pc : Int) + off = (tgt : Int)) (kk : xi_At z (if ¬ x = y then tgt else pc + 3) lv r A) : xi_At z pc lv (.int y :: .int x :: r) A := by
  obtain ⟨p, l, e, R, s, m, args, below, meth, c, Q, nL, b0, aS, dA, D, n0, s0⟩ := z
  obtain ⟨hx, hb, hml, hown, hts, hK, hstr⟩ := X
  intro H locs ls hR hl
  have k1 := kk H locs ls hR hl
  exact lv_icmp_ne hx hb hd ht (fun h => by rw [if_pos h] at k1; exact k1) (fun h => by rw [if_neg (fun q => q h)] at k1; exact k1)
theorem xs_icmp_lt {x y : Int32} {off : Int} {tgt : Nat} (X : xi_X z cc own) (hd : decode cc pc = .ok (.if_icmp .lt off, 3)) (ht : (pc : Int) + off = (tgt : Int)) (kk : xi_At z (if x < y then tgt else pc + 3) lv r A) : xi_At z pc lv (.int y :: .int x :: r) A := by
  obtain ⟨p, l, e, R, s, m, args, below, meth, c, Q, nL, b0, aS, dA, D, n0, s0⟩ := z
  obtain ⟨hx, hb, hml, hown, hts, hK, hstr⟩ := X
  intro H locs ls hR hl
  have k1 := kk H locs ls hR hl
  exact lv_icmp_lt hx hb hd ht (fun h => by rw [if_pos h] at k1; exact k1) (fun h => by rw [if_neg (h)] at k1; exact k1)
theorem xs_icmp_ge {x y : Int32} {off : Int} {tgt : Nat} (X : xi_X z cc own) (hd : decode cc pc = .ok (.if_icmp .ge off, 3)) (ht : (pc : Int) + off = (tgt : Int)) (kk : xi_At z (if y ≤ x then tgt else pc + 3) lv r A) : xi_At z pc lv (.int y :: .int x :: r) A := by
  obtain ⟨p, l, e, R, s, m, args, below, meth, c, Q, nL, b0, aS, dA, D, n0, s0⟩ := z
  obtain ⟨hx, hb, hml, hown, hts, hK, hstr⟩ := X
  intro H locs ls hR hl
  have k1 := kk H locs ls hR hl
  exact lv_icmp_ge hx hb hd ht (fun h => by rw [if_pos h] at k1; exact k1) (fun h => by rw [if_neg (h)] at k1; exact k1)
theorem xs_icmp_gt {x y : Int32} {off : Int} {tgt : Nat} (X : xi_X z cc own) (hd : decode cc pc = .ok (.if_icmp .gt off, 3)) (ht : (pc : Int) + off = (tgt : Int)) (kk : xi_At z (if y < x then tgt else pc + 3) lv r A) : xi_At z pc lv (.int y :: .int x :: r) A := by
  obtain ⟨p, l, e, R, s, m, args, below, meth, c, Q, nL, b0, aS, dA, D, n0, s0⟩ := z
  obtain ⟨hx, hb, hml, hown, hts, hK, hstr⟩ := X
  intro H locs ls hR hl
  have k1 := kk H locs ls hR hl
  exact lv_icmp_gt hx hb hd ht (fun h => by rw [if_pos h] at k1; exact k1) (fun h => by rw [if_neg (h)] at k1; exact k1)
theorem xs_icmp_le {x y : Int32} {off : Int} {tgt : Nat} (X : xi_X z cc own) (hd : decode cc pc = .ok (.if_icmp .le off, 3)) (ht : (pc : Int) + off = (tgt : Int)) (kk : xi_At z (if x ≤ y then tgt else pc + 3) lv r A) : xi_At z pc lv (.int y :: .int x :: r) A := by
  obtain ⟨p, l, e, R, s, m, args, below, meth, c, Q, nL, b0, aS, dA, D, n0, s0⟩ := z
  obtain ⟨hx, hb, hml, hown, hts, hK, hstr⟩ := X
  intro H locs ls hR hl
  have k1 := kk H locs ls hR hl
  exact lv_icmp_le hx hb hd ht (fun h => by rw [if_pos h] at k1; exact k1) (fun h => by rw [if_neg (h)] at k1; exact k1)
theorem xs_goto {off : Int} {tgt : Nat} (X : xi_X z cc own) (hd : decode cc pc = .ok (.goto off, 3)) (ht : (pc : Int) + off = (tgt : Int)) (kk : xi_At z tgt lv r A) : xi_At z pc lv r A := by
  obtain ⟨p, l, e, R, s, m, args, below, meth, c, Q, nL, b0, aS, dA, D, n0, s0⟩ := z
  obtain ⟨hx, hb, hml, hown, hts, hK, hstr⟩ := X
  intro H locs ls hR hl
  exact lv_goto hx hb hd ht (kk H locs ls hR hl)
theorem xs_ldc {i : Nat} {v : Int32} (X : xi_X z cc own) (hd : decode cc pc = .ok (.ldc i, 2)) (hw : Jvm.Cond.constant own i v ∈ xi_G) (kk : xi_At z (pc + 2) lv (.int v :: r) A) : xi_At z pc lv r A := by
  obtain ⟨p, l, e, R, s, m, args, below, meth, c, Q, nL, b0, aS, dA, D, n0, s0⟩ := z
  obtain ⟨hx, hb, hml, hown, hts, hK, hstr⟩ := X
  intro H locs ls hR hl
  exact lv_ldc hx hb hown (hts _ hw) hd (kk H locs ls hR hl)
theorem xs_ldcw {i : Nat} {v : Int32} (X : xi_X z cc own) (hd : decode cc pc = .ok (.ldc_w i, 3)) (hw : Jvm.Cond.constant own i v ∈ xi_G) (kk : xi_At z (pc + 3) lv (.int v :: r) A) : xi_At z pc lv r A := by
  obtain ⟨p, l, e, R, s, m, args, below, meth, c, Q, nL, b0, aS, dA, D, n0, s0⟩ := z
  obtain ⟨hx, hb, hml, hown, hts, hK, hstr⟩ := X
  intro H locs ls hR hl
  exact lv_ldcw hx hb hown (hts _ hw) hd (kk H locs ls hR hl)
theorem xs_ldc2 {i : Nat} {v : Int64} (X : xi_X z cc own) (hd : decode cc pc = .ok (.ldc2_w i, 3)) (hw : Jvm.Cond.constantLong own i v ∈ xi_G) (kk : xi_At z (pc + 3) lv (.long v :: r) A) : xi_At z pc lv r A := by
  obtain ⟨p, l, e, R, s, m, args, below, meth, c, Q, nL, b0, aS, dA, D, n0, s0⟩ := z
  obtain ⟨hx, hb, hml, hown, hts, hK, hstr⟩ := X
  intro H locs ls hR hl
  exact lv_ldc2 hx hb hown (hts _ hw) hd (kk H locs ls hR hl)
theorem xs_ldcS {i j : Nat} {tx : String} (X : xi_X z cc own) (hd : decode cc pc = .ok (.ldc i, 2)) (hw : xi_str[j]? = some (own, i, tx)) (kk : xi_At z (pc + 2) lv (.retAddr j :: r) A) : xi_At z pc lv r A := by
  obtain ⟨p, l, e, R, s, m, args, below, meth, c, Q, nL, b0, aS, dA, D, n0, s0⟩ := z
  obtain ⟨hx, hb, hml, hown, hts, hK, hstr⟩ := X
  intro H locs ls hR hl
  exact va_ldcS hx hb hown (hstr.1 j _ hw) hd (kk H locs ls hR hl)
theorem xs_iald {i : Int32} {a n : Nat} {f : Nat → Int32} (X : xi_X z cc own) (hd : decode cc pc = .ok (.iaload, 1)) (ha : A[a]? = some (.inl (0, n, .inl f))) (hin : vp_in i n) (kk : xi_At z (pc + 1) lv (.int (f i.toNatClampNeg) :: r) A) : xi_At z pc lv (.int i :: .ref a :: r) A := by
  obtain ⟨p, l, e, R, s, m, args, below, meth, c, Q, nL, b0, aS, dA, D, n0, s0⟩ := z
  obtain ⟨hx, hb, hml, hown, hts, hK, hstr⟩ := X
  intro H locs ls hR hl
  exact va_iald hx hb hK hR.1 a 0 (xi_w_get ha) rfl hin hd (kk H locs ls hR hl)
theorem xs_lald {i : Int32} {a n : Nat} {f : Nat → Int64} (X : xi_X z cc own) (hd : decode cc pc = .ok (.laload, 1)) (ha : A[a]? = some (.inl (1, n, .inr (.inl f)))) (hin : vp_in i n) (kk : xi_At z (pc + 1) lv (.long (f i.toNatClampNeg) :: r) A) : xi_At z pc lv (.int i :: .ref a :: r) A := by
  obtain ⟨p, l, e, R, s, m, args, below, meth, c, Q, nL, b0, aS, dA, D, n0, s0⟩ := z
  obtain ⟨hx, hb, hml, hown, hts, hK, hstr⟩ := X
  intro H locs ls hR hl
  exact va_lald hx hb hK hR.1 a 1 (xi_w_get ha) rfl hin hd (kk H locs ls hR hl)
theorem xs_cald {i : Int32} {a n : Nat} {f : Nat → Int32} (X : xi_X z cc own) (hd : decode cc pc = .ok (.caload, 1)) (ha : A[a]? = some (.inl (2, n, .inl f))) (hin : vp_in i n) (kk : xi_At z (pc + 1) lv (.int (f i.toNatClampNeg) :: r) A) : xi_At z pc lv (.int i :: .ref a :: r) A := by
  obtain ⟨p, l, e, R, s, m, args, below, meth, c, Q, nL, b0, aS, dA, D, n0, s0⟩ := z
  obtain ⟨hx, hb, hml, hown, hts, hK, hstr⟩ := X
  intro H locs ls hR hl
  exact va_cald hx hb hK hR.1 a 2 (xi_w_get ha) rfl hin hd (kk H locs ls hR hl)
theorem xs_zald {i : Int32} {a n : Nat} {f : Nat → Int32} (X : xi_X z cc own) (hd : decode cc pc = .ok (.baload, 1)) (ha : A[a]? = some (.inl (3, n, .inl f))) (hin : vp_in i n) (kk : xi_At z (pc + 1) lv (.int (f i.toNatClampNeg) :: r) A) : xi_At z pc lv (.int i :: .ref a :: r) A := by
  obtain ⟨p, l, e, R, s, m, args, below, meth, c, Q, nL, b0, aS, dA, D, n0, s0⟩ := z
  obtain ⟨hx, hb, hml, hown, hts, hK, hstr⟩ := X
  intro H locs ls hR hl
  exact va_zald hx hb hK hR.1 a 3 (xi_w_get ha) rfl hin hd (kk H locs ls hR hl)
theorem xi_R.set {b0 : Nat} {aS : Nat → Nat} {dA : Nat → ClassId} {D : va_G} {n0 s0 : Nat} {Hs H H1 : Heap} {locs locs1 : List Loc} {k : Nat} {x y : xi_E} (hR : xi_R b0 aS dA D n0 s0 Hs A H locs) (hA : A[k]? = some x) (hn : xi_n x = xi_n y) (hP : va_P D xi_cl ((xi_w b0 aS dA A).set k (b0 + k, xi_e b0 aS dA y)) H1) (hS : va_S (fun q => b0 ≤ q) Hs H1 locs1) :
    xi_R b0 aS dA D n0 s0 Hs (A.set k y) H1 locs1 ∧ xi_ns (A.set k y) = xi_ns A := by
  have hns : xi_ns (A.set k y) = xi_ns A := xi_ns_set hA hn
  exact ⟨⟨xi_w_set ▸ hP, hS, by rw [List.length_set]; exact hR.2.2.1, by rw [hns]; exact hR.2.2.2.1, hR.2.2.2.2⟩, hns⟩
theorem xi_fresh {b0 : Nat} {aS : Nat → Nat} {dA : Nat → ClassId} {D : va_G} {n0 q : Nat} {e : va_E} {H1 : Heap} {hsz : Nat} (hP : va_P D xi_cl (xi_w b0 aS dA A ++ [(q, e)]) H1) (hD : va_D (fun q => b0 ≤ q) (xi_w b0 aS dA A ++ [(q, e)])) (hn : n0 ≤ A.length) (hs : hsz = b0 + n0) (hz : H1.size ≤ hsz + (A.length - n0 + 1)) : q = b0 + A.length := by
  have hl := xi_w_len b0 aS dA A
  have hlast : (xi_w b0 aS dA A ++ [(q, e)])[A.length]? = some (q, e) := by rw [List.getElem?_append_right (by omega), hl]; simp
  have h1 : b0 ≤ q := hD.2 _ _ hlast
  have h2 : q < H1.size := (hP _ _ hlast).lt
  by_cases h3 : q < b0 + A.length
  · exfalso
    have hk : q - b0 < A.length := by omega
    have h4 : (xi_w b0 aS dA A ++ [(q, e)])[q - b0]? = some (b0 + (q - b0), xi_e b0 aS dA A[q - b0]) := by
      rw [List.getElem?_append_left (by omega)]
      exact xi_w_get (List.getElem?_eq_getElem hk)
    have := hD.1 _ _ _ _ h4 hlast (by show b0 + (q - b0) = q; omega)
    omega
  · omega
theorem xs_iast {i : Int32} {x : Int32} {a n : Nat} {f : Nat → Int32} (X : xi_X z cc own) (hd : decode cc pc = .ok (.iastore, 1)) (ha : A[a]? = some (.inl (0, n, .inl f))) (hin : vp_in i n) (kk : xi_At z (pc + 1) lv r (A.set a (.inl (0, n, .inl (upd f i.toNatClampNeg x))))) : xi_At z pc lv (.int x :: .int i :: .ref a :: r) A := by
  obtain ⟨p, l, e, R, s, m, args, below, meth, c, Q, nL, b0, aS, dA, D, n0, s0⟩ := z
  obtain ⟨hx, hb, hml, hown, hts, hK, hstr⟩ := X
  intro H locs ls hR hl
  refine va_iast hx hb hK hR.1 (xi_w_D A) hR.2.1 a 0 (xi_w_get ha) rfl hin hd (fun H1 locs1 hP1 _ hS1 => ?_)
  obtain ⟨hR1, hns⟩ := hR.set (y := .inl (0, n, .inl (upd f i.toNatClampNeg x))) ha rfl hP1 hS1
  have k1 := kk H1 locs1 ls hR1 hl
  rw [hns, List.length_set] at k1
  exact k1
theorem xs_last {i : Int32} {x : Int64} {a n : Nat} {f : Nat → Int64} (X : xi_X z cc own) (hd : decode cc pc = .ok (.lastore, 1)) (ha : A[a]? = some (.inl (1, n, .inr (.inl f)))) (hin : vp_in i n) (kk : xi_At z (pc + 1) lv r (A.set a (.inl (1, n, .inr (.inl (vp_updL f i.toNatClampNeg x)))))) : xi_At z pc lv (.long x :: .int i :: .ref a :: r) A := by
  obtain ⟨p, l, e, R, s, m, args, below, meth, c, Q, nL, b0, aS, dA, D, n0, s0⟩ := z
  obtain ⟨hx, hb, hml, hown, hts, hK, hstr⟩ := X
  intro H locs ls hR hl
  refine va_last hx hb hK hR.1 (xi_w_D A) hR.2.1 a 1 (xi_w_get ha) rfl hin hd (fun H1 locs1 hP1 _ hS1 => ?_)
  obtain ⟨hR1, hns⟩ := hR.set (y := .inl (1, n, .inr (.inl (vp_updL f i.toNatClampNeg x)))) ha rfl hP1 hS1
  have k1 := kk H1 locs1 ls hR1 hl
  rw [hns, List.length_set] at k1
  exact k1
theorem xs_cast {i : Int32} {x : Int32} {a n : Nat} {f : Nat → Int32} (X : xi_X z cc own) (hd : decode cc pc = .ok (.castore, 1)) (ha : A[a]? = some (.inl (2, n, .inl f))) (hin : vp_in i n) (kk : xi_At z (pc + 1) lv r (A.set a (.inl (2, n, .inl (upd f i.toNatClampNeg (vp_nar .char x)))))) : xi_At z pc lv (.int x :: .int i :: .ref a :: r) A := by
  obtain ⟨p, l, e, R, s, m, args, below, meth, c, Q, nL, b0, aS, dA, D, n0, s0⟩ := z
  obtain ⟨hx, hb, hml, hown, hts, hK, hstr⟩ := X
  intro H locs ls hR hl
  refine va_cast hx hb hK hR.1 (xi_w_D A) hR.2.1 a 2 (xi_w_get ha) rfl hin hd (fun H1 locs1 hP1 _ hS1 => ?_)
  obtain ⟨hR1, hns⟩ := hR.set (y := .inl (2, n, .inl (upd f i.toNatClampNeg (vp_nar .char x)))) ha rfl hP1 hS1
  have k1 := kk H1 locs1 ls hR1 hl
  rw [hns, List.length_set] at k1
  exact k1
theorem xs_zast {i : Int32} {x : Int32} {a n : Nat} {f : Nat → Int32} (X : xi_X z cc own) (hd : decode cc pc = .ok (.bastore, 1)) (ha : A[a]? = some (.inl (3, n, .inl f))) (hin : vp_in i n) (kk : xi_At z (pc + 1) lv r (A.set a (.inl (3, n, .inl (upd f i.toNatClampNeg (vp_nar .boolean x)))))) : xi_At z pc lv (.int x :: .int i :: .ref a :: r) A := by
  obtain ⟨p, l, e, R, s, m, args, below, meth, c, Q, nL, b0, aS, dA, D, n0, s0⟩ := z
  obtain ⟨hx, hb, hml, hown, hts, hK, hstr⟩ := X
  intro H locs ls hR hl
  refine va_zast hx hb hK hR.1 (xi_w_D A) hR.2.1 a 3 (xi_w_get ha) rfl hin hd (fun H1 locs1 hP1 _ hS1 => ?_)
  obtain ⟨hR1, hns⟩ := hR.set (y := .inl (3, n, .inl (upd f i.toNatClampNeg (vp_nar .boolean x)))) ha rfl hP1 hS1
  have k1 := kk H1 locs1 ls hR1 hl
  rw [hns, List.length_set] at k1
  exact k1
theorem xi_up {b0 : Nat} (f : Nat → Option Nat) (j : Nat) (v : Option Nat) : va_up (fun j => (f j).map (fun k => b0 + k)) j (v.map (fun k => b0 + k)) = fun i => ((va_up f j v) i).map (fun k => b0 + k) := by
  funext i
  by_cases h : i = j <;> simp [va_up, h]
theorem xi_rf (b0 : Nat) (aS : Nat → Nat) (o : Option Nat) : va_rf (o.map (fun k => b0 + k)) = xi_v b0 aS (va_rf o) := by cases o <;> rfl
theorem xs_aald {i : Int32} {a n t : Nat} {C : String} {f : Nat → Option Nat} (X : xi_X z cc own) (hd : decode cc pc = .ok (.aaload, 1)) (ha : A[a]? = some (.inl (t, n, .inr (.inr (.inr (.inr f)))))) (hin : vp_in i n) (ht : xi_tyl[t]? = some (.object C)) (kk : xi_At z (pc + 1) lv (va_rf (f i.toNatClampNeg) :: r) A) : xi_At z pc lv (.int i :: .ref a :: r) A := by
  obtain ⟨p, l, e, R, s, m, args, below, meth, c, Q, nL, b0, aS, dA, D, n0, s0⟩ := z
  obtain ⟨hx, hb, hml, hown, hts, hK, hstr⟩ := X
  intro H locs ls hR hl
  refine va_aldq hx hb hK hR.1 a t (xi_w_get ha) (xi_tys_at dA ht) hin hd ?_
  have k1 := kk H locs ls hR hl
  rw [xi_rf b0 aS]
  exact k1
theorem xs_aast {i : Int32} {a n t v ci : Nat} {rr : vw_C} {vs : List Value} {f : Nat → Option Nat} (X : xi_X z cc own) (hd : decode cc pc = .ok (.aastore, 1)) (ha : A[a]? = some (.inl (t, n, .inr (.inr (.inr (.inr f)))))) (hin : vp_in i n) (hv : A[v]? = some (.inr (ci, vs))) (hc : xi_cl[ci]? = some rr) (ht : xi_tyl[t]? = some (.object rr.1)) (kk : xi_At z (pc + 1) lv r (A.set a (.inl (t, n, .inr (.inr (.inr (.inr (va_up f i.toNatClampNeg (some v))))))))) : xi_At z pc lv (.ref v :: .int i :: .ref a :: r) A := by
  obtain ⟨p, l, e, R, s, m, args, below, meth, c, Q, nL, b0, aS, dA, D, n0, s0⟩ := z
  obtain ⟨hx, hb, hml, hown, hts, hK, hstr⟩ := X
  intro H locs ls hR hl
  refine va_astq hx hb hK hR.1 (xi_w_D A) hR.2.1 a t v ci (xi_w_get ha) (xi_tys_at dA ht) (xi_w_get hv) hc hin hd (fun H1 locs1 hP1 _ hS1 => ?_)
  have hP1' : va_P D xi_cl ((xi_w b0 aS dA A).set a (b0 + a, xi_e b0 aS dA (.inl (t, n, .inr (.inr (.inr (.inr (va_up f i.toNatClampNeg (some v)))))))) ) H1 := by
    have := xi_up (b0 := b0) f i.toNatClampNeg (some v)
    simp only [xi_e, xi_q]
    rw [← this]
    exact hP1
  obtain ⟨hR1, hns⟩ := hR.set (y := .inl (t, n, .inr (.inr (.inr (.inr (va_up f i.toNatClampNeg (some v))))))) ha rfl hP1' hS1
  have k1 := kk H1 locs1 ls hR1 hl
  rw [hns, List.length_set] at k1
  exact k1
theorem xs_alen {a t : Nat} {x : vp_A} {ty : FieldType} (X : xi_X z cc own) (hd : decode cc pc = .ok (.arraylength, 1)) (ha : A[a]? = some (.inl (t, x))) (ht : xi_tyl[t]? = some ty) (kk : xi_At z (pc + 1) lv (.int (Int32.ofNat x.1) :: r) A) : xi_At z pc lv (.ref a :: r) A := by
  obtain ⟨p, l, e, R, s, m, args, below, meth, c, Q, nL, b0, aS, dA, D, n0, s0⟩ := z
  obtain ⟨hx, hb, hml, hown, hts, hK, hstr⟩ := X
  intro H locs ls hR hl
  refine va_alen hx hb hK hR.1 a t (xi_w_get ha) (xi_tys_at dA ht) (v := Int32.ofNat x.1) ?_ hd (kk H locs ls hR hl)
  obtain ⟨n, f | f | f | f | f⟩ := x <;> rfl
theorem xs_get {a ci k i : Nat} {C : String} {T : u_T} {N : Nat} {fs : List Value} {v : Value} (X : xi_X z cc own) (hd : decode cc pc = .ok (.getfield i, 3)) (ha : A[a]? = some (.inr (ci, fs))) (hc : xi_cl[ci]? = some (C, T, N)) (hk : k < N) (hw : Cond.fieldLink own i (T k).1 (T k).2.1 (T k).2.2.1 ∈ xi_G) (hv : fs[k]? = some v) (kk : xi_At z (pc + 3) lv (v :: r) A) : xi_At z pc lv (.ref a :: r) A := by
  obtain ⟨p, l, e, R, s, m, args, below, meth, c, Q, nL, b0, aS, dA, D, n0, s0⟩ := z
  obtain ⟨hx, hb, hml, hown, hts, hK, hstr⟩ := X
  intro H locs ls hR hl
  exact va_get hx hb hts (xi_in hc) hown hK hR.1 a (xi_w_get ha) hc k hk (hts _ hw) (fun _ h => h) (v := xi_v b0 aS v) (by simp [hv]) hd (kk H locs ls hR hl)
theorem xi_nar {b0 : Nat} {aS : Nat → Nat} {ty : FieldType} {v : Value} (h : narrow ty v = v) : narrow ty (xi_v b0 aS v) = xi_v b0 aS v := by
  cases v <;> first | exact h | (cases ty <;> rfl)
theorem xi_fit {b0 : Nat} {aS : Nat → Nat} {ty : FieldType} {v : Value} (h : fits ty v = true) : fits ty (xi_v b0 aS v) = true := by
  cases v <;> first | exact h | (cases ty <;> first | rfl | cases h)
theorem xs_put {a ci k i : Nat} {C : String} {T : u_T} {N : Nat} {fs : List Value} {v : Value} (X : xi_X z cc own) (hd : decode cc pc = .ok (.putfield i, 3)) (ha : A[a]? = some (.inr (ci, fs))) (hc : xi_cl[ci]? = some (C, T, N)) (hk : k < N) (hw : Cond.fieldLink own i (T k).1 (T k).2.1 (T k).2.2.1 ∈ xi_G) (hfin : (T k).2.2.2 = false) (hn : narrow (xi_ty ci k) v = v) (hf : fits (xi_ty ci k) v = true) (hl0 : k < fs.length) (kk : xi_At z (pc + 3) lv r (A.set a (.inr (ci, fs.set k v)))) : xi_At z pc lv (v :: .ref a :: r) A := by
  obtain ⟨p, l, e, R, s, m, args, below, meth, c, Q, nL, b0, aS, dA, D, n0, s0⟩ := z
  obtain ⟨hx, hb, hml, hown, hts, hK, hstr⟩ := X
  intro H locs ls hR hl
  refine va_put hx hb hts (xi_in hc) (xi_ty ci) (fun j hj => xi_ty_ok hc hj) (xi_nm hc) hown hK hR.1 (xi_w_D A) hR.2.1 a (xi_w_get ha) hc k hk (hts _ hw) (fun _ h => h) hfin (xi_ty_ok hc hk) (xi_nar hn) (xi_fit hf) (by simp [hl0]) hd (fun H1 locs1 hP1 _ hS1 => ?_)
  rw [← List.map_set] at hP1
  obtain ⟨hR1, hns⟩ := hR.set (y := .inr (ci, fs.set k v)) ha (by simp [xi_n]) hP1 hS1
  have k1 := kk H1 locs1 ls hR1 hl
  rw [hns, List.length_set] at k1
  exact k1
theorem xs_putF {a ci k i : Nat} {C : String} {T : u_T} {N : Nat} {fs : List Value} {v : Value} (X : xi_X z cc own) (hin2 : z.2.2.2.2.2.2.2.2.1.name = "<init>") (hd : decode cc pc = .ok (.putfield i, 3)) (ha : A[a]? = some (.inr (ci, fs))) (hc : xi_cl[ci]? = some (C, T, N)) (hk : k < N) (hw : Cond.fieldLink own i (T k).1 (T k).2.1 (T k).2.2.1 ∈ xi_G) (hfin : (T k).2.2.2 = true) (hdecl : (T k).1 = own) (hn : narrow (xi_ty ci k) v = v) (hf : fits (xi_ty ci k) v = true) (hl0 : k < fs.length) (kk : xi_At z (pc + 3) lv r (A.set a (.inr (ci, fs.set k v)))) : xi_At z pc lv (v :: .ref a :: r) A := by
  obtain ⟨p, l, e, R, s, m, args, below, meth, c, Q, nL, b0, aS, dA, D, n0, s0⟩ := z
  obtain ⟨hx, hb, hml, hown, hts, hK, hstr⟩ := X
  intro H locs ls hR hl
  refine va_putF hx hb hts (xi_in hc) (xi_ty ci) (fun j hj => xi_ty_ok hc hj) (xi_nm hc) hown hK hR.1 (xi_w_D A) hR.2.1 a (xi_w_get ha) hc k hk (hts _ hw) (fun _ h => h) hfin hin2 hdecl (xi_ty_ok hc hk) (xi_nar hn) (xi_fit hf) (by simp [hl0]) hd (fun H1 locs1 hP1 _ hS1 => ?_)
  rw [← List.map_set] at hP1
  obtain ⟨hR1, hns⟩ := hR.set (y := .inr (ci, fs.set k v)) ha (by simp [xi_n]) hP1 hS1
  have k1 := kk H1 locs1 ls hR1 hl
  rw [hns, List.length_set] at k1
  exact k1
theorem xi_R.push {b0 : Nat} {aS : Nat → Nat} {dA : Nat → ClassId} {D : va_G} {n0 s0 : Nat} {Hs H H1 : Heap} {locs : List Loc} {x : xi_E} (hR : xi_R b0 aS dA D n0 s0 Hs A H locs) (hP : va_P D xi_cl (xi_w b0 aS dA A ++ [(b0 + A.length, xi_e b0 aS dA x)]) H1) (hS : va_S (fun q => b0 ≤ q) Hs H1 locs) :
    xi_R b0 aS dA D n0 s0 Hs (A ++ [x]) H1 locs ∧ (A ++ [x]).length - n0 = A.length - n0 + 1 ∧ xi_ns (A ++ [x]) - s0 = xi_ns A - s0 + xi_n x := by
  have h1 := hR.2.2.1
  have h2 := hR.2.2.2.1
  refine ⟨⟨xi_w_push ▸ hP, hS, by simp; omega, by rw [xi_ns_push]; omega, hR.2.2.2.2⟩, by simp; omega, by rw [xi_ns_push]; omega⟩
theorem xs_new {ci i : Nat} {C : String} {T : u_T} {N : Nat} (X : xi_X z cc own) (hd : decode cc pc = .ok (.new i, 3)) (hc : xi_cl[ci]? = some (C, T, N)) (hw1 : Cond.classLink own i C ∈ xi_G) (hw2 : Cond.instantiable C N ∈ xi_G) (hw3 : Cond.initialized C ∈ xi_G) (hdl : (xi_df ci).length = N)
    (hE1 : (A ++ [(.inr (ci, xi_df ci) : xi_E)]).length - z.2.2.2.2.2.2.2.2.2.2.2.2.2.2.2.2.1 ≤ z.2.2.2.1.cells) (hE2 : xi_ns (A ++ [(.inr (ci, xi_df ci) : xi_E)]) - z.2.2.2.2.2.2.2.2.2.2.2.2.2.2.2.2.2 ≤ z.2.2.2.1.slots) (kk : xi_At z (pc + 3) lv (.ref A.length :: r) (A ++ [.inr (ci, xi_df ci)])) : xi_At z pc lv r A := by
  obtain ⟨p, l, e, R, s, m, args, below, meth, c, Q, nL, b0, aS, dA, D, n0, s0⟩ := z
  obtain ⟨hx, hb, hml, hown, hts, hK, hstr⟩ := X
  intro H locs ls hR hl
  have hA : ∀ q : Nat, s.heap.size ≤ q → b0 ≤ q := fun q h => by have := hR.2.2.2.2; omega
  obtain ⟨h1, h2⟩ := And.intro hR.2.2.1 hR.2.2.2.1
  have hdn : xi_n (.inr (ci, xi_df ci)) = N := hdl
  simp only [List.length_append, List.length_singleton] at hE1
  rw [xi_ns_push, hdn] at hE2
  refine va_new (ci := ci) (fs := (xi_df ci).map (xi_v b0 aS)) hx hb hts (xi_in hc) (xi_ty ci) (fun j hj => xi_ty_ok hc hj) hown (hts _ hw1) (hts _ hw2) (hts _ hw3) hK hR.1 (xi_w_D A) hR.2.1 hA hc (fun j hj => xi_df_ok b0 aS hc hj) (by show A.length - n0 + 1 ≤ R.cells; have : A.length + 1 - n0 ≤ R.cells := hE1; omega) (by show xi_ns A - s0 + N ≤ R.slots; have : xi_ns A + N - s0 ≤ R.slots := hE2; omega) hd (fun q H1 hP1 hD1 hS1 => ?_)
  intro T0 hT0 X1
  have hq : q = b0 + A.length := xi_fresh hP1 hD1 h1 hR.2.2.2.2 (by rw [← hT0]; exact X1.heapSize)
  subst hq
  obtain ⟨hR1, e1, e2⟩ := hR.push (x := .inr (ci, xi_df ci)) hP1 hS1
  have k1 := kk H1 locs ls hR1 hl
  rw [e1, e2, hdn] at k1
  exact k1 T0 hT0 X1
theorem xs_newa_int {n : Int32} (X : xi_X z cc own) (hd : decode cc pc = .ok (.newarray .int, 2)) (hw : Cond.arrayClass .int ∈ xi_G) (hn : ¬ n < 0) (hby : n.toNatClampNeg * componentBytes .int ≤ 536870912)
    (hE1 : (A ++ [(.inl (0, (n.toNatClampNeg, .inl (fun _ => 0))) : xi_E)]).length - z.2.2.2.2.2.2.2.2.2.2.2.2.2.2.2.2.1 ≤ z.2.2.2.1.cells) (hE2 : xi_ns (A ++ [(.inl (0, (n.toNatClampNeg, .inl (fun _ => 0))) : xi_E)]) - z.2.2.2.2.2.2.2.2.2.2.2.2.2.2.2.2.2 ≤ z.2.2.2.1.slots) (kk : xi_At z (pc + 2) lv (.ref A.length :: r) (A ++ [.inl (0, (n.toNatClampNeg, .inl (fun _ => 0)))])) : xi_At z pc lv (.int n :: r) A := by
  obtain ⟨p, l, e, R, s, m, args, below, meth, c, Q, nL, b0, aS, dA, D, n0, s0⟩ := z
  obtain ⟨hx, hb, hml, hown, hts, hK, hstr⟩ := X
  intro H locs ls hR hl
  have hA : ∀ q : Nat, s.heap.size ≤ q → b0 ≤ q := fun q h => by have := hR.2.2.2.2; omega
  obtain ⟨h1, h2⟩ := And.intro hR.2.2.1 hR.2.2.2.1
  have hdn : xi_n (.inl (0, (n.toNatClampNeg, .inl (fun _ => 0)))) = n.toNatClampNeg := rfl
  simp only [List.length_append, List.length_singleton] at hE1
  rw [xi_ns_push, hdn] at hE2
  refine va_newa (atype := .int) (N' := n.toNatClampNeg) (a0 := (n.toNatClampNeg, .inl (fun _ => 0))) (ty := .int) hx hb (hts _ hw) rfl hK hR.1 (xi_w_D A) hR.2.1 hA (fun _ => rfl) hn rfl hby (by show A.length - n0 + 1 ≤ R.cells; have : A.length + 1 - n0 ≤ R.cells := hE1; omega) (by show xi_ns A - s0 + n.toNatClampNeg ≤ R.slots; have : xi_ns A + n.toNatClampNeg - s0 ≤ R.slots := hE2; omega) hd (fun q cA H1 hK1 hP1 hD1 hS1 => ?_)
  have hcA : cA = dA 0 := by
    have g1 := (hK1.2 (xi_tys dA).length (cA, .int) (by simp)).2
    have g2 := (hK.2 0 (dA 0, .int) rfl).2
    exact Option.some.inj (g1.symm.trans g2)
  subst hcA
  intro T0 hT0 X1
  have hq : q = b0 + A.length := xi_fresh hP1 hD1 h1 hR.2.2.2.2 (by rw [← hT0]; exact X1.heapSize)
  subst hq
  obtain ⟨hR1, e1, e2⟩ := hR.push (x := .inl (0, (n.toNatClampNeg, .inl (fun _ => 0)))) hP1 hS1
  have k1 := kk H1 locs ls hR1 hl
  rw [e1, e2, hdn] at k1
  exact k1 T0 hT0 X1
theorem xs_newa_long {n : Int32} (X : xi_X z cc own) (hd : decode cc pc = .ok (.newarray .long, 2)) (hw : Cond.arrayClass .long ∈ xi_G) (hn : ¬ n < 0) (hby : n.toNatClampNeg * componentBytes .long ≤ 536870912)
    (hE1 : (A ++ [(.inl (1, (n.toNatClampNeg, .inr (.inl (fun _ => 0)))) : xi_E)]).length - z.2.2.2.2.2.2.2.2.2.2.2.2.2.2.2.2.1 ≤ z.2.2.2.1.cells) (hE2 : xi_ns (A ++ [(.inl (1, (n.toNatClampNeg, .inr (.inl (fun _ => 0)))) : xi_E)]) - z.2.2.2.2.2.2.2.2.2.2.2.2.2.2.2.2.2 ≤ z.2.2.2.1.slots) (kk : xi_At z (pc + 2) lv (.ref A.length :: r) (A ++ [.inl (1, (n.toNatClampNeg, .inr (.inl (fun _ => 0))))])) : xi_At z pc lv (.int n :: r) A := by
  obtain ⟨p, l, e, R, s, m, args, below, meth, c, Q, nL, b0, aS, dA, D, n0, s0⟩ := z
  obtain ⟨hx, hb, hml, hown, hts, hK, hstr⟩ := X
  intro H locs ls hR hl
  have hA : ∀ q : Nat, s.heap.size ≤ q → b0 ≤ q := fun q h => by have := hR.2.2.2.2; omega
  obtain ⟨h1, h2⟩ := And.intro hR.2.2.1 hR.2.2.2.1
  have hdn : xi_n (.inl (1, (n.toNatClampNeg, .inr (.inl (fun _ => 0))))) = n.toNatClampNeg := rfl
  simp only [List.length_append, List.length_singleton] at hE1
  rw [xi_ns_push, hdn] at hE2
  refine va_newa (atype := .long) (N' := n.toNatClampNeg) (a0 := (n.toNatClampNeg, .inr (.inl (fun _ => 0)))) (ty := .long) hx hb (hts _ hw) rfl hK hR.1 (xi_w_D A) hR.2.1 hA (fun _ => rfl) hn rfl hby (by show A.length - n0 + 1 ≤ R.cells; have : A.length + 1 - n0 ≤ R.cells := hE1; omega) (by show xi_ns A - s0 + n.toNatClampNeg ≤ R.slots; have : xi_ns A + n.toNatClampNeg - s0 ≤ R.slots := hE2; omega) hd (fun q cA H1 hK1 hP1 hD1 hS1 => ?_)
  have hcA : cA = dA 1 := by
    have g1 := (hK1.2 (xi_tys dA).length (cA, .long) (by simp)).2
    have g2 := (hK.2 1 (dA 1, .long) rfl).2
    exact Option.some.inj (g1.symm.trans g2)
  subst hcA
  intro T0 hT0 X1
  have hq : q = b0 + A.length := xi_fresh hP1 hD1 h1 hR.2.2.2.2 (by rw [← hT0]; exact X1.heapSize)
  subst hq
  obtain ⟨hR1, e1, e2⟩ := hR.push (x := .inl (1, (n.toNatClampNeg, .inr (.inl (fun _ => 0))))) hP1 hS1
  have k1 := kk H1 locs ls hR1 hl
  rw [e1, e2, hdn] at k1
  exact k1 T0 hT0 X1
theorem xs_newa_char {n : Int32} (X : xi_X z cc own) (hd : decode cc pc = .ok (.newarray .char, 2)) (hw : Cond.arrayClass .char ∈ xi_G) (hn : ¬ n < 0) (hby : n.toNatClampNeg * componentBytes .char ≤ 536870912)
    (hE1 : (A ++ [(.inl (2, (n.toNatClampNeg, .inl (fun _ => 0))) : xi_E)]).length - z.2.2.2.2.2.2.2.2.2.2.2.2.2.2.2.2.1 ≤ z.2.2.2.1.cells) (hE2 : xi_ns (A ++ [(.inl (2, (n.toNatClampNeg, .inl (fun _ => 0))) : xi_E)]) - z.2.2.2.2.2.2.2.2.2.2.2.2.2.2.2.2.2 ≤ z.2.2.2.1.slots) (kk : xi_At z (pc + 2) lv (.ref A.length :: r) (A ++ [.inl (2, (n.toNatClampNeg, .inl (fun _ => 0)))])) : xi_At z pc lv (.int n :: r) A := by
  obtain ⟨p, l, e, R, s, m, args, below, meth, c, Q, nL, b0, aS, dA, D, n0, s0⟩ := z
  obtain ⟨hx, hb, hml, hown, hts, hK, hstr⟩ := X
  intro H locs ls hR hl
  have hA : ∀ q : Nat, s.heap.size ≤ q → b0 ≤ q := fun q h => by have := hR.2.2.2.2; omega
  obtain ⟨h1, h2⟩ := And.intro hR.2.2.1 hR.2.2.2.1
  have hdn : xi_n (.inl (2, (n.toNatClampNeg, .inl (fun _ => 0)))) = n.toNatClampNeg := rfl
  simp only [List.length_append, List.length_singleton] at hE1
  rw [xi_ns_push, hdn] at hE2
  refine va_newa (atype := .char) (N' := n.toNatClampNeg) (a0 := (n.toNatClampNeg, .inl (fun _ => 0))) (ty := .char) hx hb (hts _ hw) rfl hK hR.1 (xi_w_D A) hR.2.1 hA (fun _ => rfl) hn rfl hby (by show A.length - n0 + 1 ≤ R.cells; have : A.length + 1 - n0 ≤ R.cells := hE1; omega) (by show xi_ns A - s0 + n.toNatClampNeg ≤ R.slots; have : xi_ns A + n.toNatClampNeg - s0 ≤ R.slots := hE2; omega) hd (fun q cA H1 hK1 hP1 hD1 hS1 => ?_)
  have hcA : cA = dA 2 := by
    have g1 := (hK1.2 (xi_tys dA).length (cA, .char) (by simp)).2
    have g2 := (hK.2 2 (dA 2, .char) rfl).2
    exact Option.some.inj (g1.symm.trans g2)
  subst hcA
  intro T0 hT0 X1
  have hq : q = b0 + A.length := xi_fresh hP1 hD1 h1 hR.2.2.2.2 (by rw [← hT0]; exact X1.heapSize)
  subst hq
  obtain ⟨hR1, e1, e2⟩ := hR.push (x := .inl (2, (n.toNatClampNeg, .inl (fun _ => 0)))) hP1 hS1
  have k1 := kk H1 locs ls hR1 hl
  rw [e1, e2, hdn] at k1
  exact k1 T0 hT0 X1
theorem xs_newa_boolean {n : Int32} (X : xi_X z cc own) (hd : decode cc pc = .ok (.newarray .boolean, 2)) (hw : Cond.arrayClass .boolean ∈ xi_G) (hn : ¬ n < 0) (hby : n.toNatClampNeg * componentBytes .boolean ≤ 536870912)
    (hE1 : (A ++ [(.inl (3, (n.toNatClampNeg, .inl (fun _ => 0))) : xi_E)]).length - z.2.2.2.2.2.2.2.2.2.2.2.2.2.2.2.2.1 ≤ z.2.2.2.1.cells) (hE2 : xi_ns (A ++ [(.inl (3, (n.toNatClampNeg, .inl (fun _ => 0))) : xi_E)]) - z.2.2.2.2.2.2.2.2.2.2.2.2.2.2.2.2.2 ≤ z.2.2.2.1.slots) (kk : xi_At z (pc + 2) lv (.ref A.length :: r) (A ++ [.inl (3, (n.toNatClampNeg, .inl (fun _ => 0)))])) : xi_At z pc lv (.int n :: r) A := by
  obtain ⟨p, l, e, R, s, m, args, below, meth, c, Q, nL, b0, aS, dA, D, n0, s0⟩ := z
  obtain ⟨hx, hb, hml, hown, hts, hK, hstr⟩ := X
  intro H locs ls hR hl
  have hA : ∀ q : Nat, s.heap.size ≤ q → b0 ≤ q := fun q h => by have := hR.2.2.2.2; omega
  obtain ⟨h1, h2⟩ := And.intro hR.2.2.1 hR.2.2.2.1
  have hdn : xi_n (.inl (3, (n.toNatClampNeg, .inl (fun _ => 0)))) = n.toNatClampNeg := rfl
  simp only [List.length_append, List.length_singleton] at hE1
  rw [xi_ns_push, hdn] at hE2
  refine va_newa (atype := .boolean) (N' := n.toNatClampNeg) (a0 := (n.toNatClampNeg, .inl (fun _ => 0))) (ty := .boolean) hx hb (hts _ hw) rfl hK hR.1 (xi_w_D A) hR.2.1 hA (fun _ => rfl) hn rfl hby (by show A.length - n0 + 1 ≤ R.cells; have : A.length + 1 - n0 ≤ R.cells := hE1; omega) (by show xi_ns A - s0 + n.toNatClampNeg ≤ R.slots; have : xi_ns A + n.toNatClampNeg - s0 ≤ R.slots := hE2; omega) hd (fun q cA H1 hK1 hP1 hD1 hS1 => ?_)
  have hcA : cA = dA 3 := by
    have g1 := (hK1.2 (xi_tys dA).length (cA, .boolean) (by simp)).2
    have g2 := (hK.2 3 (dA 3, .boolean) rfl).2
    exact Option.some.inj (g1.symm.trans g2)
  subst hcA
  intro T0 hT0 X1
  have hq : q = b0 + A.length := xi_fresh hP1 hD1 h1 hR.2.2.2.2 (by rw [← hT0]; exact X1.heapSize)
  subst hq
  obtain ⟨hR1, e1, e2⟩ := hR.push (x := .inl (3, (n.toNatClampNeg, .inl (fun _ => 0)))) hP1 hS1
  have k1 := kk H1 locs ls hR1 hl
  rw [e1, e2, hdn] at k1
  exact k1 T0 hT0 X1
theorem xs_anew {n : Int32} {t i : Nat} {C : String} (X : xi_X z cc own) (hd : decode cc pc = .ok (.anewarray i, 3)) (ht : xi_tyl[t]? = some (.object C)) (hw : Cond.classLink own i C ∈ xi_G) (hw2 : C ∈ xi_ao) (hn : ¬ n < 0) (hby : n.toNatClampNeg * 4 ≤ 536870912)
    (hE1 : (A ++ [(.inl (t, n.toNatClampNeg, .inr (.inr (.inr (.inr (fun _ => none))))) : xi_E)]).length - z.2.2.2.2.2.2.2.2.2.2.2.2.2.2.2.2.1 ≤ z.2.2.2.1.cells) (hE2 : xi_ns (A ++ [(.inl (t, n.toNatClampNeg, .inr (.inr (.inr (.inr (fun _ => none))))) : xi_E)]) - z.2.2.2.2.2.2.2.2.2.2.2.2.2.2.2.2.2 ≤ z.2.2.2.1.slots) (kk : xi_At z (pc + 3) lv (.ref A.length :: r) (A ++ [.inl (t, n.toNatClampNeg, .inr (.inr (.inr (.inr (fun _ => none)))))])) : xi_At z pc lv (.int n :: r) A := by
  obtain ⟨p, l, e, R, s, m, args, below, meth, c, Q, nL, b0, aS, dA, D, n0, s0⟩ := z
  obtain ⟨hx, hb, hml, hown, hts, hK, hstr⟩ := X
  intro H locs ls hR hl
  have hA : ∀ q : Nat, s.heap.size ≤ q → b0 ≤ q := fun q h => by have := hR.2.2.2.2; omega
  obtain ⟨h1, h2⟩ := And.intro hR.2.2.1 hR.2.2.2.1
  have hdn : xi_n (.inl (t, n.toNatClampNeg, .inr (.inr (.inr (.inr (fun _ => none)))))) = n.toNatClampNeg := rfl
  simp only [List.length_append, List.length_singleton] at hE1
  rw [xi_ns_push, hdn] at hE2
  refine va_newq (N' := n.toNatClampNeg) hx hb hown (hts _ hw) (hstr.2.2.1 C hw2) hK hR.1 (xi_w_D A) hR.2.1 hA hn rfl hby (by show A.length - n0 + 1 ≤ R.cells; have : A.length + 1 - n0 ≤ R.cells := hE1; omega) (by show xi_ns A - s0 + n.toNatClampNeg ≤ R.slots; have : xi_ns A + n.toNatClampNeg - s0 ≤ R.slots := hE2; omega) hd (fun q cA H1 hK1 hP1 hD1 hS1 => ?_)
  have hcA : cA = dA t := by
    obtain ⟨_, _, -, -, -, g1⟩ := (hK1.2 (xi_tys dA).length (cA, .object C) (by simp)).2
    obtain ⟨_, _, -, -, -, g2⟩ := (hK.2 t (dA t, .object C) (xi_tys_at dA ht)).2
    exact Option.some.inj (g1.symm.trans g2)
  subst hcA
  intro T0 hT0 X1
  have hq : q = b0 + A.length := xi_fresh hP1 hD1 h1 hR.2.2.2.2 (by rw [← hT0]; exact X1.heapSize)
  subst hq
  obtain ⟨hR1, e1, e2⟩ := hR.push (x := .inl (t, n.toNatClampNeg, .inr (.inr (.inr (.inr (fun _ => none)))))) hP1 hS1
  have k1 := kk H1 locs ls hR1 hl
  rw [e1, e2, hdn] at k1
  exact k1 T0 hT0 X1
end XS

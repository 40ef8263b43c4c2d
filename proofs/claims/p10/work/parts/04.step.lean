/-- a step within a method: no call, no return -/
def xi_s (nL : Nat) (I : Instr) (nx : Nat) (aux : List Nat) (lv : xi_L) (st : List Value) (A : xi_H) : Option (Nat × xi_L × List Value × xi_H) := match I with
  | .iconst n => some (nx, lv, .int (Int32.ofInt n) :: st, A)
  | .bipush n => some (nx, lv, .int (Int8.ofInt n).toInt32 :: st, A)
  | .sipush n => some (nx, lv, .int (Int16.ofInt n).toInt32 :: st, A)
  | .lconst n => some (nx, lv, .long (Int64.ofNat (n : Nat)) :: st, A)
  | .aconst_null => some (nx, lv, .null :: st, A)
  | .iadd => match st with
    | .int y :: .int x :: r => some (nx, lv, .int (x + y) :: r, A)
    | _ => none
  | .isub => match st with
    | .int y :: .int x :: r => some (nx, lv, .int (x - y) :: r, A)
    | _ => none
  | .imul => match st with
    | .int y :: .int x :: r => some (nx, lv, .int (x * y) :: r, A)
    | _ => none
  | .iand => match st with
    | .int y :: .int x :: r => some (nx, lv, .int (x &&& y) :: r, A)
    | _ => none
  | .ior => match st with
    | .int y :: .int x :: r => some (nx, lv, .int (x ||| y) :: r, A)
    | _ => none
  | .ixor => match st with
    | .int y :: .int x :: r => some (nx, lv, .int (x ^^^ y) :: r, A)
    | _ => none
  | .ishl => match st with
    | .int y :: .int x :: r => some (nx, lv, .int (x <<< (y &&& 31)) :: r, A)
    | _ => none
  | .ishr => match st with
    | .int y :: .int x :: r => some (nx, lv, .int (x >>> (y &&& 31)) :: r, A)
    | _ => none
  | .iushr => match st with
    | .int y :: .int x :: r => some (nx, lv, .int ((x.toUInt32 >>> (y.toUInt32 &&& Int32.toUInt32 31)).toInt32) :: r, A)
    | _ => none
  | .idiv => match st with
    | .int y :: .int x :: r => if y = 0 then none else some (nx, lv, .int (x / y) :: r, A)
    | _ => none
  | .irem => match st with
    | .int y :: .int x :: r => if y = 0 then none else some (nx, lv, .int (x - x / y * y) :: r, A)
    | _ => none
  | .ineg => match st with
    | .int x :: r => some (nx, lv, .int (-x) :: r, A)
    | _ => none
  | .ladd => match st with
    | .long y :: .long x :: r => some (nx, lv, .long (x + y) :: r, A)
    | _ => none
  | .lsub => match st with
    | .long y :: .long x :: r => some (nx, lv, .long (x - y) :: r, A)
    | _ => none
  | .lmul => match st with
    | .long y :: .long x :: r => some (nx, lv, .long (x * y) :: r, A)
    | _ => none
  | .land => match st with
    | .long y :: .long x :: r => some (nx, lv, .long (x &&& y) :: r, A)
    | _ => none
  | .lor => match st with
    | .long y :: .long x :: r => some (nx, lv, .long (x ||| y) :: r, A)
    | _ => none
  | .lxor => match st with
    | .long y :: .long x :: r => some (nx, lv, .long (x ^^^ y) :: r, A)
    | _ => none
  | .ldiv => match st with
    | .long y :: .long x :: r => if y = 0 then none else some (nx, lv, .long (x / y) :: r, A)
    | _ => none
  | .lrem => match st with
    | .long y :: .long x :: r => if y = 0 then none else some (nx, lv, .long (x - x / y * y) :: r, A)
    | _ => none
  | .lshl => match st with
    | .int y :: .long x :: r => some (nx, lv, .long (x <<< (y.toInt64 &&& 63)) :: r, A)
    | _ => none
  | .lshr => match st with
    | .int y :: .long x :: r => some (nx, lv, .long (x >>> (y.toInt64 &&& 63)) :: r, A)
    | _ => none
  | .lushr => match st with
    | .int y :: .long x :: r => some (nx, lv, .long ((x.toUInt64 >>> (y.toInt64.toUInt64 &&& Int64.toUInt64 63)).toInt64) :: r, A)
    | _ => none
  | .i2l => match st with
    | .int x :: r => some (nx, lv, .long x.toInt64 :: r, A)
    | _ => none
  | .l2i => match st with
    | .long x :: r => some (nx, lv, .int x.toInt32 :: r, A)
    | _ => none
  | .i2c => match st with
    | .int x :: r => some (nx, lv, .int ((x.toUInt32 % 65536).toInt32) :: r, A)
    | _ => none
  | .lcmp => match st with
    | .long y :: .long x :: r => some (nx, lv, .int (lg_cmp x y) :: r, A)
    | _ => none
  | .dup => match st with
    | va :: r => if va.category = 1 then some (nx, lv, va :: va :: r, A) else none
    | _ => none
  | .pop => match st with
    | va :: r => if va.category = 1 then some (nx, lv, r, A) else none
    | _ => none
  | .dup_x1 => match st with
    | va :: vb :: r => if va.category = 1 ∧ vb.category = 1 then some (nx, lv, va :: vb :: va :: r, A) else none
    | _ => none
  | .dup_x2 => match st with
    | va :: vb :: vd :: r => if va.category = 1 ∧ vb.category = 1 ∧ vd.category = 1 then some (nx, lv, va :: vb :: vd :: va :: r, A) else none
    | _ => none
  | .pop2 => match st with
    | va :: r => if va.category = 2 then some (nx, lv, r, A) else none
    | _ => none
  | .dup2 => match st with
    | va :: vb :: r => if va.category = 1 ∧ vb.category = 1 then some (nx, lv, va :: vb :: va :: vb :: r, A) else if va.category = 2 then some (nx, lv, va :: va :: vb :: r, A) else none
    | [va] => if va.category = 2 then some (nx, lv, [va, va], A) else none
    | _ => none
  | .iload_n k => match xi_get lv k.val with
    | some (.int x) => some (nx, lv, .int x :: st, A)
    | _ => none
  | .iload i => match xi_get lv i with
    | some (.int x) => some (nx, lv, .int x :: st, A)
    | _ => none
  | .lload_n k => match xi_get lv k.val with
    | some (.long x) => some (nx, lv, .long x :: st, A)
    | _ => none
  | .lload i => match xi_get lv i with
    | some (.long x) => some (nx, lv, .long x :: st, A)
    | _ => none
  | .aload_n k => match xi_get lv k.val with
    | some v => if xi_isr v = true then some (nx, lv, v :: st, A) else none
    | _ => none
  | .aload i => match xi_get lv i with
    | some v => if xi_isr v = true then some (nx, lv, v :: st, A) else none
    | _ => none
  | .istore_n k => match st with
    | .int x :: r => if k.val < nL then some (nx, xi_put1 lv k.val (.int x), r, A) else none
    | _ => none
  | .istore i => match st with
    | .int x :: r => if i < nL then some (nx, xi_put1 lv i (.int x), r, A) else none
    | _ => none
  | .lstore_n k => match st with
    | .long x :: r => if k.val + 1 < nL then some (nx, xi_put2 lv k.val (.long x), r, A) else none
    | _ => none
  | .lstore i => match st with
    | .long x :: r => if i + 1 < nL then some (nx, xi_put2 lv i (.long x), r, A) else none
    | _ => none
  | .astore_n k => match st with
    | .ref x :: r => if k.val < nL then some (nx, xi_put1 lv k.val (.ref x), r, A) else none
    | _ => none
  | .astore i => match st with
    | .ref x :: r => if i < nL then some (nx, xi_put1 lv i (.ref x), r, A) else none
    | _ => none
  | .iinc i n => match xi_get lv i with
    | some (.int x) => if i < nL then some (nx, xi_put1 lv i (.int (x + Int32.ofInt n)), st, A) else none
    | _ => none
  | .ifCond .eq _ => match st, aux with
    | .int x :: r, [tgt] => some (if x = 0 then tgt else nx, lv, r, A)
    | _, _ => none
  | .ifCond .ne _ => match st, aux with
    | .int x :: r, [tgt] => some (if ¬ x = 0 then tgt else nx, lv, r, A)
    | _, _ => none
  | .ifCond .lt _ => match st, aux with
    | .int x :: r, [tgt] => some (if x < 0 then tgt else nx, lv, r, A)
    | _, _ => none
  | .ifCond .ge _ => match st, aux with
    | .int x :: r, [tgt] => some (if 0 ≤ x then tgt else nx, lv, r, A)
    | _, _ => none
  | .ifCond .gt _ => match st, aux with
    | .int x :: r, [tgt] => some (if 0 < x then tgt else nx, lv, r, A)
    | _, _ => none
  | .ifCond .le _ => match st, aux with
    | .int x :: r, [tgt] => some (if x ≤ 0 then tgt else nx, lv, r, A)
    | _, _ => none
  | .if_icmp .eq _ => match st, aux with
    | .int y :: .int x :: r, [tgt] => some (if x = y then tgt else nx, lv, r, A)
    | _, _ => none
  | .if_icmp .ne _ => match st, aux with
    | .int y :: .int x :: r, [tgt] => some (if ¬ x = y then tgt else nx, lv, r, A)
    | _, _ => none
  | .if_icmp .lt _ => match st, aux with
    | .int y :: .int x :: r, [tgt] => some (if x < y then tgt else nx, lv, r, A)
    | _, _ => none
  | .if_icmp .ge _ => match st, aux with
    | .int y :: .int x :: r, [tgt] => some (if y ≤ x then tgt else nx, lv, r, A)
    | _, _ => none
  | .if_icmp .gt _ => match st, aux with
    | .int y :: .int x :: r, [tgt] => some (if y < x then tgt else nx, lv, r, A)
    | _, _ => none
  | .if_icmp .le _ => match st, aux with
    | .int y :: .int x :: r, [tgt] => some (if x ≤ y then tgt else nx, lv, r, A)
    | _, _ => none
  | .goto _ => match aux with
    | [tgt] => some (tgt, lv, st, A)
    | _ => none
  | .ldc _ => match aux with
    | [0, v, _] => some (nx, lv, .int (Int32.ofNat v) :: st, A)
    | [1, j] => some (nx, lv, .retAddr j :: st, A)
    | _ => none
  | .ldc_w _ => match aux with
    | [0, v, _] => some (nx, lv, .int (Int32.ofNat v) :: st, A)
    | _ => none
  | .ldc2_w _ => match aux with
    | [v, _] => some (nx, lv, .long (Int64.ofNat v) :: st, A)
    | _ => none
  | .iaload => match st with
    | .int i :: .ref a :: r => match A[a]? with
      | some (.inl (0, n, .inl f)) => if i < 0 ∨ n ≤ i.toNatClampNeg then none else some (nx, lv, .int (f i.toNatClampNeg) :: r, A)
      | _ => none
    | _ => none
  | .laload => match st with
    | .int i :: .ref a :: r => match A[a]? with
      | some (.inl (1, n, .inr (.inl f))) => if i < 0 ∨ n ≤ i.toNatClampNeg then none else some (nx, lv, .long (f i.toNatClampNeg) :: r, A)
      | _ => none
    | _ => none
  | .caload => match st with
    | .int i :: .ref a :: r => match A[a]? with
      | some (.inl (2, n, .inl f)) => if i < 0 ∨ n ≤ i.toNatClampNeg then none else some (nx, lv, .int (f i.toNatClampNeg) :: r, A)
      | _ => none
    | _ => none
  | .baload => match st with
    | .int i :: .ref a :: r => match A[a]? with
      | some (.inl (3, n, .inl f)) => if i < 0 ∨ n ≤ i.toNatClampNeg then none else some (nx, lv, .int (f i.toNatClampNeg) :: r, A)
      | _ => none
    | _ => none
  | .aaload => match st with
    | .int i :: .ref a :: r => match A[a]? with
      | some (.inl (t, n, .inr (.inr (.inr (.inr f))))) => if i < 0 ∨ n ≤ i.toNatClampNeg then none else match xi_tyl[t]? with
        | some (.object _) => some (nx, lv, va_rf (f i.toNatClampNeg) :: r, A)
        | _ => none
      | _ => none
    | _ => none
  | .iastore => match st with
    | .int x :: .int i :: .ref a :: r => match A[a]? with
      | some (.inl (0, n, .inl f)) => if i < 0 ∨ n ≤ i.toNatClampNeg then none else some (nx, lv, r, A.set a (.inl (0, n, .inl (upd f i.toNatClampNeg x))))
      | _ => none
    | _ => none
  | .lastore => match st with
    | .long x :: .int i :: .ref a :: r => match A[a]? with
      | some (.inl (1, n, .inr (.inl f))) => if i < 0 ∨ n ≤ i.toNatClampNeg then none else some (nx, lv, r, A.set a (.inl (1, n, .inr (.inl (vp_updL f i.toNatClampNeg x)))))
      | _ => none
    | _ => none
  | .castore => match st with
    | .int x :: .int i :: .ref a :: r => match A[a]? with
      | some (.inl (2, n, .inl f)) => if i < 0 ∨ n ≤ i.toNatClampNeg then none else some (nx, lv, r, A.set a (.inl (2, n, .inl (upd f i.toNatClampNeg (vp_nar .char x)))))
      | _ => none
    | _ => none
  | .bastore => match st with
    | .int x :: .int i :: .ref a :: r => match A[a]? with
      | some (.inl (3, n, .inl f)) => if i < 0 ∨ n ≤ i.toNatClampNeg then none else some (nx, lv, r, A.set a (.inl (3, n, .inl (upd f i.toNatClampNeg (vp_nar .boolean x)))))
      | _ => none
    | _ => none
  | .aastore => match st with
    | .ref v :: .int i :: .ref a :: r => match A[a]?, A[v]? with
      | some (.inl (t, n, .inr (.inr (.inr (.inr f))))), some (.inr (ci, _)) => if i < 0 ∨ n ≤ i.toNatClampNeg then none else match xi_cl[ci]? with
        | some rr => if xi_tyl[t]? = some (.object rr.1) then some (nx, lv, r, A.set a (.inl (t, n, .inr (.inr (.inr (.inr (va_up f i.toNatClampNeg (some v)))))))) else none
        | _ => none
      | _, _ => none
    | _ => none
  | .arraylength => match st with
    | .ref a :: r => match A[a]? with
      | some (.inl (t, x)) => match xi_tyl[t]? with
        | some _ => some (nx, lv, .int (Int32.ofNat x.1) :: r, A)
        | _ => none
      | _ => none
    | _ => none
  | .getfield _ => match st, aux with
    | .ref a :: r, [ci, k, _] => match A[a]? with
      | some (.inr (cj, fs)) => if cj = ci then match fs[k]? with
        | some v => some (nx, lv, v :: r, A)
        | none => none
        else none
      | _ => none
    | _, _ => none
  | .putfield _ => match st, aux with
    | v :: .ref a :: r, [ci, k, _] => match A[a]? with
      | some (.inr (cj, fs)) => if cj = ci ∧ k < fs.length ∧ narrow (xi_ty ci k) v = v ∧ fits (xi_ty ci k) v = true then some (nx, lv, r, A.set a (.inr (ci, fs.set k v))) else none
      | _ => none
    | _, _ => none
  | .new _ => match aux with
    | [ci, _, _, _] => some (nx, lv, .ref A.length :: st, A ++ [.inr (ci, xi_df ci)])
    | _ => none
  | .newarray .int => match st with
    | .int n :: r => if n < 0 ∨ 536870912 < n.toNatClampNeg * componentBytes .int then none else some (nx, lv, .ref A.length :: r, A ++ [.inl (0, (n.toNatClampNeg, .inl (fun _ => 0)))])
    | _ => none
  | .newarray .long => match st with
    | .int n :: r => if n < 0 ∨ 536870912 < n.toNatClampNeg * componentBytes .long then none else some (nx, lv, .ref A.length :: r, A ++ [.inl (1, (n.toNatClampNeg, .inr (.inl (fun _ => 0))))])
    | _ => none
  | .newarray .char => match st with
    | .int n :: r => if n < 0 ∨ 536870912 < n.toNatClampNeg * componentBytes .char then none else some (nx, lv, .ref A.length :: r, A ++ [.inl (2, (n.toNatClampNeg, .inl (fun _ => 0)))])
    | _ => none
  | .newarray .boolean => match st with
    | .int n :: r => if n < 0 ∨ 536870912 < n.toNatClampNeg * componentBytes .boolean then none else some (nx, lv, .ref A.length :: r, A ++ [.inl (3, (n.toNatClampNeg, .inl (fun _ => 0)))])
    | _ => none
  | .anewarray _ => match st, aux with
    | .int n :: r, [t, _, _] => if n < 0 ∨ 536870912 < n.toNatClampNeg * 4 then none else some (nx, lv, .ref A.length :: r, A ++ [.inl (t, n.toNatClampNeg, .inr (.inr (.inr (.inr (fun _ => none)))))])
    | _, _ => none
  | _ => none
def xi_len : Instr → Nat
  | .iconst _ => 1
  | .bipush _ => 2
  | .sipush _ => 3
  | .lconst _ => 1
  | .aconst_null => 1
  | .iadd => 1
  | .isub => 1
  | .imul => 1
  | .iand => 1
  | .ior => 1
  | .ixor => 1
  | .ishl => 1
  | .ishr => 1
  | .iushr => 1
  | .idiv => 1
  | .irem => 1
  | .ineg => 1
  | .ladd => 1
  | .lsub => 1
  | .lmul => 1
  | .land => 1
  | .lor => 1
  | .lxor => 1
  | .ldiv => 1
  | .lrem => 1
  | .lshl => 1
  | .lshr => 1
  | .lushr => 1
  | .i2l => 1
  | .l2i => 1
  | .i2c => 1
  | .lcmp => 1
  | .dup => 1
  | .pop => 1
  | .dup_x1 => 1
  | .dup_x2 => 1
  | .pop2 => 1
  | .dup2 => 1
  | .iload_n _ => 1
  | .iload _ => 2
  | .lload_n _ => 1
  | .lload _ => 2
  | .aload_n _ => 1
  | .aload _ => 2
  | .istore_n _ => 1
  | .istore _ => 2
  | .lstore_n _ => 1
  | .lstore _ => 2
  | .astore_n _ => 1
  | .astore _ => 2
  | .iinc _ _ => 3
  | .ifCond _ _ => 3
  | .if_icmp _ _ => 3
  | .goto _ => 3
  | .ldc _ => 2
  | .ldc_w _ => 3
  | .ldc2_w _ => 3
  | .iaload => 1
  | .laload => 1
  | .caload => 1
  | .baload => 1
  | .aaload => 1
  | .iastore => 1
  | .lastore => 1
  | .castore => 1
  | .bastore => 1
  | .aastore => 1
  | .arraylength => 1
  | .getfield _ => 3
  | .putfield _ => 3
  | .new _ => 3
  | .newarray _ => 2
  | .anewarray _ => 3
  | .ireturn => 1
  | .lreturn => 1
  | .areturn => 1
  | .return_ => 1
  | .invokevirtual _ => 3
  | .invokespecial _ => 3
  | .invokestatic _ => 3
  | .athrow => 1
  | _ => 0
/-- what a row of a table says beside its instruction's bytes -/
def xi_ok (own nm : String) (pc : Nat) (I : Instr) (aux : List Nat) : Bool := match I, aux with
  | .ifCond _ off, [tgt] => decide ((pc : Int) + off = (tgt : Int))
  | .if_icmp _ off, [tgt] => decide ((pc : Int) + off = (tgt : Int))
  | .goto off, [tgt] => decide ((pc : Int) + off = (tgt : Int))
  | .ldc i, [0, v, ix] => xi_Gat ix (.constant own i (Int32.ofNat v))
  | .ldc_w i, [0, v, ix] => xi_Gat ix (.constant own i (Int32.ofNat v))
  | .ldc i, [1, j] => match xi_str[j]? with
    | some (o2, i2, _) => decide (o2 = own) && decide (i2 = i)
    | none => false
  | .ldc2_w i, [v, ix] => xi_Gat ix (.constantLong own i (Int64.ofNat v))
  | .getfield i, [ci, k, ix] => match xi_cl[ci]? with
    | some (_, T, N) => decide (k < N) && xi_Gat ix (.fieldLink own i (T k).1 (T k).2.1 (T k).2.2.1)
    | none => false
  | .putfield i, [ci, k, ix] => match xi_cl[ci]? with
    | some (_, T, N) => (decide (k < N) && xi_Gat ix (.fieldLink own i (T k).1 (T k).2.1 (T k).2.2.1)) && (decide ((T k).2.2.2 = false) || ((decide ((T k).2.2.2 = true) && decide ((T k).1 = own)) && decide (nm = "<init>")))
    | none => false
  | .new i, [ci, i1, i2, i3] => match xi_cl[ci]? with
    | some (C, _, N) => ((xi_Gat i1 (.classLink own i C) && xi_Gat i2 (.instantiable C N)) && xi_Gat i3 (.initialized C)) && decide ((xi_df ci).length = N)
    | none => false
  | .newarray aty, [ix] => xi_Gat ix (.arrayClass (newarray.typeOf aty))
  | .anewarray i, [t, i1, _] => match xi_tyl[t]? with
    | some (.object C) => xi_Gat i1 (.classLink own i C) && decide (C ∈ xi_ao)
    | _ => false
  | .newarray _, _ => false
  | _, _ => true
set_option maxHeartbeats 4000000 in
theorem xi_s_sound {z : xi_Z} {cc : ByteArray} {own nm : String} {pc : Nat} {I : Instr} {aux : List Nat} {lv lv' : xi_L} {st st' : List Value} {A A' : xi_H} {pc' : Nat} (X : xi_X z cc own) (hinit : nm = "<init>" → z.2.2.2.2.2.2.2.2.1.name = "<init>") (hd : decode cc pc = .ok (I, xi_len I)) (hok : xi_ok own nm pc I aux = true) (h : xi_s z.2.2.2.2.2.2.2.2.2.2.2.1 I (pc + xi_len I) aux lv st A = some (pc', lv', st', A'))
    (hE1 : A'.length - z.2.2.2.2.2.2.2.2.2.2.2.2.2.2.2.2.1 ≤ z.2.2.2.1.cells) (hE2 : xi_ns A' - z.2.2.2.2.2.2.2.2.2.2.2.2.2.2.2.2.2 ≤ z.2.2.2.1.slots) (kk : xi_At z pc' lv' st' A') : xi_At z pc lv st A := by
  cases I with
  | iconst n =>
    simp only [xi_s, Option.some.injEq, Prod.mk.injEq] at h
    obtain ⟨rfl, rfl, rfl, rfl⟩ := h
    exact xs_iconst X hd kk
  | bipush n =>
    simp only [xi_s, Option.some.injEq, Prod.mk.injEq] at h
    obtain ⟨rfl, rfl, rfl, rfl⟩ := h
    exact xs_bipush X hd kk
  | sipush n =>
    simp only [xi_s, Option.some.injEq, Prod.mk.injEq] at h
    obtain ⟨rfl, rfl, rfl, rfl⟩ := h
    exact xs_sipush X hd kk
  | lconst n =>
    simp only [xi_s, Option.some.injEq, Prod.mk.injEq] at h
    obtain ⟨rfl, rfl, rfl, rfl⟩ := h
    exact xs_lconst X hd kk
  | aconst_null =>
    simp only [xi_s, Option.some.injEq, Prod.mk.injEq] at h
    obtain ⟨rfl, rfl, rfl, rfl⟩ := h
    exact xs_null X hd kk
  | iadd =>
    simp only [xi_s] at h
    split at h
    · simp only [Option.some.injEq, Prod.mk.injEq] at h
      obtain ⟨rfl, rfl, rfl, rfl⟩ := h
      exact xs_iadd X hd kk
    · cases h
  | isub =>
    simp only [xi_s] at h
    split at h
    · simp only [Option.some.injEq, Prod.mk.injEq] at h
      obtain ⟨rfl, rfl, rfl, rfl⟩ := h
      exact xs_isub X hd kk
    · cases h
  | imul =>
    simp only [xi_s] at h
    split at h
    · simp only [Option.some.injEq, Prod.mk.injEq] at h
      obtain ⟨rfl, rfl, rfl, rfl⟩ := h
      exact xs_imul X hd kk
    · cases h
  | iand =>
    simp only [xi_s] at h
    split at h
    · simp only [Option.some.injEq, Prod.mk.injEq] at h
      obtain ⟨rfl, rfl, rfl, rfl⟩ := h
      exact xs_iand X hd kk
    · cases h
  | ior =>
    simp only [xi_s] at h
    split at h
    · simp only [Option.some.injEq, Prod.mk.injEq] at h
      obtain ⟨rfl, rfl, rfl, rfl⟩ := h
      exact xs_ior X hd kk
    · cases h
  | ixor =>
    simp only [xi_s] at h
    split at h
    · simp only [Option.some.injEq, Prod.mk.injEq] at h
      obtain ⟨rfl, rfl, rfl, rfl⟩ := h
      exact xs_ixor X hd kk
    · cases h
  | ishl =>
    simp only [xi_s] at h
    split at h
    · simp only [Option.some.injEq, Prod.mk.injEq] at h
      obtain ⟨rfl, rfl, rfl, rfl⟩ := h
      exact xs_ishl X hd kk
    · cases h
  | ishr =>
    simp only [xi_s] at h
    split at h
    · simp only [Option.some.injEq, Prod.mk.injEq] at h
      obtain ⟨rfl, rfl, rfl, rfl⟩ := h
      exact xs_ishr X hd kk
    · cases h
  | iushr =>
    simp only [xi_s] at h
    split at h
    · simp only [Option.some.injEq, Prod.mk.injEq] at h
      obtain ⟨rfl, rfl, rfl, rfl⟩ := h
      exact xs_iushr X hd kk
    · cases h
  | idiv =>
    simp only [xi_s] at h
    split at h
    · split at h
      · cases h
      · rename_i hc
        simp only [Option.some.injEq, Prod.mk.injEq] at h
        obtain ⟨rfl, rfl, rfl, rfl⟩ := h
        exact xs_idiv X hd hc kk
    · cases h
  | irem =>
    simp only [xi_s] at h
    split at h
    · split at h
      · cases h
      · rename_i hc
        simp only [Option.some.injEq, Prod.mk.injEq] at h
        obtain ⟨rfl, rfl, rfl, rfl⟩ := h
        exact xs_irem X hd hc kk
    · cases h
  | ineg =>
    simp only [xi_s] at h
    split at h
    · simp only [Option.some.injEq, Prod.mk.injEq] at h
      obtain ⟨rfl, rfl, rfl, rfl⟩ := h
      exact xs_ineg X hd kk
    · cases h
  | ladd =>
    simp only [xi_s] at h
    split at h
    · simp only [Option.some.injEq, Prod.mk.injEq] at h
      obtain ⟨rfl, rfl, rfl, rfl⟩ := h
      exact xs_ladd X hd kk
    · cases h
  | lsub =>
    simp only [xi_s] at h
    split at h
    · simp only [Option.some.injEq, Prod.mk.injEq] at h
      obtain ⟨rfl, rfl, rfl, rfl⟩ := h
      exact xs_lsub X hd kk
    · cases h
  | lmul =>
    simp only [xi_s] at h
    split at h
    · simp only [Option.some.injEq, Prod.mk.injEq] at h
      obtain ⟨rfl, rfl, rfl, rfl⟩ := h
      exact xs_lmul X hd kk
    · cases h
  | land =>
    simp only [xi_s] at h
    split at h
    · simp only [Option.some.injEq, Prod.mk.injEq] at h
      obtain ⟨rfl, rfl, rfl, rfl⟩ := h
      exact xs_land X hd kk
    · cases h
  | lor =>
    simp only [xi_s] at h
    split at h
    · simp only [Option.some.injEq, Prod.mk.injEq] at h
      obtain ⟨rfl, rfl, rfl, rfl⟩ := h
      exact xs_lor X hd kk
    · cases h
  | lxor =>
    simp only [xi_s] at h
    split at h
    · simp only [Option.some.injEq, Prod.mk.injEq] at h
      obtain ⟨rfl, rfl, rfl, rfl⟩ := h
      exact xs_lxor X hd kk
    · cases h
  | ldiv =>
    simp only [xi_s] at h
    split at h
    · split at h
      · cases h
      · rename_i hc
        simp only [Option.some.injEq, Prod.mk.injEq] at h
        obtain ⟨rfl, rfl, rfl, rfl⟩ := h
        exact xs_ldiv X hd hc kk
    · cases h
  | lrem =>
    simp only [xi_s] at h
    split at h
    · split at h
      · cases h
      · rename_i hc
        simp only [Option.some.injEq, Prod.mk.injEq] at h
        obtain ⟨rfl, rfl, rfl, rfl⟩ := h
        exact xs_lrem X hd hc kk
    · cases h
  | lshl =>
    simp only [xi_s] at h
    split at h
    · simp only [Option.some.injEq, Prod.mk.injEq] at h
      obtain ⟨rfl, rfl, rfl, rfl⟩ := h
      exact xs_lshl X hd kk
    · cases h
  | lshr =>
    simp only [xi_s] at h
    split at h
    · simp only [Option.some.injEq, Prod.mk.injEq] at h
      obtain ⟨rfl, rfl, rfl, rfl⟩ := h
      exact xs_lshr X hd kk
    · cases h
  | lushr =>
    simp only [xi_s] at h
    split at h
    · simp only [Option.some.injEq, Prod.mk.injEq] at h
      obtain ⟨rfl, rfl, rfl, rfl⟩ := h
      exact xs_lushr X hd kk
    · cases h
  | i2l =>
    simp only [xi_s] at h
    split at h
    · simp only [Option.some.injEq, Prod.mk.injEq] at h
      obtain ⟨rfl, rfl, rfl, rfl⟩ := h
      exact xs_i2l X hd kk
    · cases h
  | l2i =>
    simp only [xi_s] at h
    split at h
    · simp only [Option.some.injEq, Prod.mk.injEq] at h
      obtain ⟨rfl, rfl, rfl, rfl⟩ := h
      exact xs_l2i X hd kk
    · cases h
  | i2c =>
    simp only [xi_s] at h
    split at h
    · simp only [Option.some.injEq, Prod.mk.injEq] at h
      obtain ⟨rfl, rfl, rfl, rfl⟩ := h
      exact xs_i2c X hd kk
    · cases h
  | lcmp =>
    simp only [xi_s] at h
    split at h
    · simp only [Option.some.injEq, Prod.mk.injEq] at h
      obtain ⟨rfl, rfl, rfl, rfl⟩ := h
      exact xs_lcmp X hd kk
    · cases h
  | dup =>
    simp only [xi_s] at h
    split at h
    · split at h
      · rename_i hc
        simp only [Option.some.injEq, Prod.mk.injEq] at h
        obtain ⟨rfl, rfl, rfl, rfl⟩ := h
        exact xs_dup X hd hc kk
      · cases h
    · cases h
  | pop =>
    simp only [xi_s] at h
    split at h
    · split at h
      · rename_i hc
        simp only [Option.some.injEq, Prod.mk.injEq] at h
        obtain ⟨rfl, rfl, rfl, rfl⟩ := h
        exact xs_pop X hd hc kk
      · cases h
    · cases h
  | dup_x1 =>
    simp only [xi_s] at h
    split at h
    · split at h
      · rename_i hc
        simp only [Option.some.injEq, Prod.mk.injEq] at h
        obtain ⟨rfl, rfl, rfl, rfl⟩ := h
        exact xs_dup_x1 X hd hc.1 hc.2 kk
      · cases h
    · cases h
  | dup_x2 =>
    simp only [xi_s] at h
    split at h
    · split at h
      · rename_i hc
        simp only [Option.some.injEq, Prod.mk.injEq] at h
        obtain ⟨rfl, rfl, rfl, rfl⟩ := h
        exact xs_dup_x2 X hd hc.1 hc.2.1 hc.2.2 kk
      · cases h
    · cases h
  | dup2 =>
    simp only [xi_s] at h
    split at h
    · split at h
      · rename_i hc
        simp only [Option.some.injEq, Prod.mk.injEq] at h
        obtain ⟨rfl, rfl, rfl, rfl⟩ := h
        exact xs_dup2_11 X hd hc.1 hc.2 kk
      · split at h
        · rename_i hc
          simp only [Option.some.injEq, Prod.mk.injEq] at h
          obtain ⟨rfl, rfl, rfl, rfl⟩ := h
          exact xs_dup2_2 X hd hc kk
        · cases h
    · split at h
      · rename_i hc
        simp only [Option.some.injEq, Prod.mk.injEq] at h
        obtain ⟨rfl, rfl, rfl, rfl⟩ := h
        exact xs_dup2_2 X hd hc kk
      · cases h
    · cases h
  | pop2 =>
    simp only [xi_s] at h
    split at h
    · split at h
      · rename_i hc
        simp only [Option.some.injEq, Prod.mk.injEq] at h
        obtain ⟨rfl, rfl, rfl, rfl⟩ := h
        exact xs_pop2 X hd hc kk
      · cases h
    · cases h
  | iload_n k =>
    simp only [xi_s] at h
    split at h
    · rename_i hc
      simp only [Option.some.injEq, Prod.mk.injEq] at h
      obtain ⟨rfl, rfl, rfl, rfl⟩ := h
      exact xs_iload_n X hd hc kk
    · cases h
  | iload i =>
    simp only [xi_s] at h
    split at h
    · rename_i hc
      simp only [Option.some.injEq, Prod.mk.injEq] at h
      obtain ⟨rfl, rfl, rfl, rfl⟩ := h
      exact xs_iload X hd hc kk
    · cases h
  | lload_n k =>
    simp only [xi_s] at h
    split at h
    · rename_i hc
      simp only [Option.some.injEq, Prod.mk.injEq] at h
      obtain ⟨rfl, rfl, rfl, rfl⟩ := h
      exact xs_lload_n X hd hc kk
    · cases h
  | lload i =>
    simp only [xi_s] at h
    split at h
    · rename_i hc
      simp only [Option.some.injEq, Prod.mk.injEq] at h
      obtain ⟨rfl, rfl, rfl, rfl⟩ := h
      exact xs_lload X hd hc kk
    · cases h
  | aload_n k =>
    simp only [xi_s] at h
    split at h
    · rename_i hc
      split at h
      · rename_i hv
        simp only [Option.some.injEq, Prod.mk.injEq] at h
        obtain ⟨rfl, rfl, rfl, rfl⟩ := h
        exact xs_aload_n X hd hc hv kk
      · cases h
    · cases h
  | aload i =>
    simp only [xi_s] at h
    split at h
    · rename_i hc
      split at h
      · rename_i hv
        simp only [Option.some.injEq, Prod.mk.injEq] at h
        obtain ⟨rfl, rfl, rfl, rfl⟩ := h
        exact xs_aload X hd hc hv kk
      · cases h
    · cases h
  | istore_n k =>
    simp only [xi_s] at h
    split at h
    · split at h
      · rename_i hc
        simp only [Option.some.injEq, Prod.mk.injEq] at h
        obtain ⟨rfl, rfl, rfl, rfl⟩ := h
        exact xs_istore_n X hd rfl hc kk
      · cases h
    · cases h
  | istore i =>
    simp only [xi_s] at h
    split at h
    · split at h
      · rename_i hc
        simp only [Option.some.injEq, Prod.mk.injEq] at h
        obtain ⟨rfl, rfl, rfl, rfl⟩ := h
        exact xs_istore X hd hc kk
      · cases h
    · cases h
  | lstore_n k =>
    simp only [xi_s] at h
    split at h
    · split at h
      · rename_i hc
        simp only [Option.some.injEq, Prod.mk.injEq] at h
        obtain ⟨rfl, rfl, rfl, rfl⟩ := h
        exact xs_lstore_n X hd rfl hc kk
      · cases h
    · cases h
  | lstore i =>
    simp only [xi_s] at h
    split at h
    · split at h
      · rename_i hc
        simp only [Option.some.injEq, Prod.mk.injEq] at h
        obtain ⟨rfl, rfl, rfl, rfl⟩ := h
        exact xs_lstore X hd hc kk
      · cases h
    · cases h
  | astore_n k =>
    simp only [xi_s] at h
    split at h
    · split at h
      · rename_i hc
        simp only [Option.some.injEq, Prod.mk.injEq] at h
        obtain ⟨rfl, rfl, rfl, rfl⟩ := h
        exact xs_astore_n X hd rfl hc kk
      · cases h
    · cases h
  | astore i =>
    simp only [xi_s] at h
    split at h
    · split at h
      · rename_i hc
        simp only [Option.some.injEq, Prod.mk.injEq] at h
        obtain ⟨rfl, rfl, rfl, rfl⟩ := h
        exact xs_astore X hd hc kk
      · cases h
    · cases h
  | iinc i n =>
    simp only [xi_s] at h
    split at h
    · rename_i hc
      split at h
      · rename_i hn
        simp only [Option.some.injEq, Prod.mk.injEq] at h
        obtain ⟨rfl, rfl, rfl, rfl⟩ := h
        exact xs_iinc X hd hc hn kk
      · cases h
    · cases h
  | ifCond cn off =>
    cases cn with
    | eq =>
      simp only [xi_s] at h
      split at h
      · simp only [Option.some.injEq, Prod.mk.injEq] at h
        obtain ⟨rfl, rfl, rfl, rfl⟩ := h
        exact xs_if_eq X hd (by simpa [xi_ok] using hok) kk
      · cases h
    | ne =>
      simp only [xi_s] at h
      split at h
      · simp only [Option.some.injEq, Prod.mk.injEq] at h
        obtain ⟨rfl, rfl, rfl, rfl⟩ := h
        exact xs_if_ne X hd (by simpa [xi_ok] using hok) kk
      · cases h
    | lt =>
      simp only [xi_s] at h
      split at h
      · simp only [Option.some.injEq, Prod.mk.injEq] at h
        obtain ⟨rfl, rfl, rfl, rfl⟩ := h
        exact xs_if_lt X hd (by simpa [xi_ok] using hok) kk
      · cases h
    | ge =>
      simp only [xi_s] at h
      split at h
      · simp only [Option.some.injEq, Prod.mk.injEq] at h
        obtain ⟨rfl, rfl, rfl, rfl⟩ := h
        exact xs_if_ge X hd (by simpa [xi_ok] using hok) kk
      · cases h
    | gt =>
      simp only [xi_s] at h
      split at h
      · simp only [Option.some.injEq, Prod.mk.injEq] at h
        obtain ⟨rfl, rfl, rfl, rfl⟩ := h
        exact xs_if_gt X hd (by simpa [xi_ok] using hok) kk
      · cases h
    | le =>
      simp only [xi_s] at h
      split at h
      · simp only [Option.some.injEq, Prod.mk.injEq] at h
        obtain ⟨rfl, rfl, rfl, rfl⟩ := h
        exact xs_if_le X hd (by simpa [xi_ok] using hok) kk
      · cases h
  | if_icmp cn off =>
    cases cn with
    | eq =>
      simp only [xi_s] at h
      split at h
      · simp only [Option.some.injEq, Prod.mk.injEq] at h
        obtain ⟨rfl, rfl, rfl, rfl⟩ := h
        exact xs_icmp_eq X hd (by simpa [xi_ok] using hok) kk
      · cases h
    | ne =>
      simp only [xi_s] at h
      split at h
      · simp only [Option.some.injEq, Prod.mk.injEq] at h
        obtain ⟨rfl, rfl, rfl, rfl⟩ := h
        exact xs_icmp_ne X hd (by simpa [xi_ok] using hok) kk
      · cases h
    | lt =>
      simp only [xi_s] at h
      split at h
      · simp only [Option.some.injEq, Prod.mk.injEq] at h
        obtain ⟨rfl, rfl, rfl, rfl⟩ := h
        exact xs_icmp_lt X hd (by simpa [xi_ok] using hok) kk
      · cases h
    | ge =>
      simp only [xi_s] at h
      split at h
      · simp only [Option.some.injEq, Prod.mk.injEq] at h
        obtain ⟨rfl, rfl, rfl, rfl⟩ := h
        exact xs_icmp_ge X hd (by simpa [xi_ok] using hok) kk
      · cases h
    | gt =>
      simp only [xi_s] at h
      split at h
      · simp only [Option.some.injEq, Prod.mk.injEq] at h
        obtain ⟨rfl, rfl, rfl, rfl⟩ := h
        exact xs_icmp_gt X hd (by simpa [xi_ok] using hok) kk
      · cases h
    | le =>
      simp only [xi_s] at h
      split at h
      · simp only [Option.some.injEq, Prod.mk.injEq] at h
        obtain ⟨rfl, rfl, rfl, rfl⟩ := h
        exact xs_icmp_le X hd (by simpa [xi_ok] using hok) kk
      · cases h
  | goto off =>
    simp only [xi_s] at h
    split at h
    · simp only [Option.some.injEq, Prod.mk.injEq] at h
      obtain ⟨rfl, rfl, rfl, rfl⟩ := h
      exact xs_goto X hd (by simpa [xi_ok] using hok) kk
    · cases h
  | ldc i =>
    simp only [xi_s] at h
    split at h
    · simp only [Option.some.injEq, Prod.mk.injEq] at h
      obtain ⟨rfl, rfl, rfl, rfl⟩ := h
      exact xs_ldc X hd (xi_Gm (by simpa [xi_ok] using hok)) kk
    · simp only [Option.some.injEq, Prod.mk.injEq] at h
      obtain ⟨rfl, rfl, rfl, rfl⟩ := h
      simp only [xi_ok] at hok
      split at hok
      · rename_i o2 i2 tx hj
        simp only [Bool.and_eq_true, decide_eq_true_eq] at hok
        obtain ⟨rfl, rfl⟩ := hok
        exact xs_ldcS X hd hj kk
      · cases hok
    · cases h
  | ldc_w i =>
    simp only [xi_s] at h
    split at h
    · simp only [Option.some.injEq, Prod.mk.injEq] at h
      obtain ⟨rfl, rfl, rfl, rfl⟩ := h
      exact xs_ldcw X hd (xi_Gm (by simpa [xi_ok] using hok)) kk
    · cases h
  | ldc2_w i =>
    simp only [xi_s] at h
    split at h
    · simp only [Option.some.injEq, Prod.mk.injEq] at h
      obtain ⟨rfl, rfl, rfl, rfl⟩ := h
      exact xs_ldc2 X hd (xi_Gm (by simpa [xi_ok] using hok)) kk
    · cases h
  | iaload =>
    simp only [xi_s] at h
    split at h
    · split at h
      · rename_i ha
        split at h
        · cases h
        · rename_i hin
          simp only [Option.some.injEq, Prod.mk.injEq] at h
          obtain ⟨rfl, rfl, rfl, rfl⟩ := h
          exact xs_iald X hd ha hin kk
      · cases h
    · cases h
  | laload =>
    simp only [xi_s] at h
    split at h
    · split at h
      · rename_i ha
        split at h
        · cases h
        · rename_i hin
          simp only [Option.some.injEq, Prod.mk.injEq] at h
          obtain ⟨rfl, rfl, rfl, rfl⟩ := h
          exact xs_lald X hd ha hin kk
      · cases h
    · cases h
  | caload =>
    simp only [xi_s] at h
    split at h
    · split at h
      · rename_i ha
        split at h
        · cases h
        · rename_i hin
          simp only [Option.some.injEq, Prod.mk.injEq] at h
          obtain ⟨rfl, rfl, rfl, rfl⟩ := h
          exact xs_cald X hd ha hin kk
      · cases h
    · cases h
  | baload =>
    simp only [xi_s] at h
    split at h
    · split at h
      · rename_i ha
        split at h
        · cases h
        · rename_i hin
          simp only [Option.some.injEq, Prod.mk.injEq] at h
          obtain ⟨rfl, rfl, rfl, rfl⟩ := h
          exact xs_zald X hd ha hin kk
      · cases h
    · cases h
  | aaload =>
    simp only [xi_s] at h
    split at h
    · split at h
      · rename_i ha
        split at h
        · cases h
        · rename_i hin
          split at h
          · rename_i ht
            simp only [Option.some.injEq, Prod.mk.injEq] at h
            obtain ⟨rfl, rfl, rfl, rfl⟩ := h
            exact xs_aald X hd ha hin ht kk
          · cases h
      · cases h
    · cases h
  | iastore =>
    simp only [xi_s] at h
    split at h
    · split at h
      · rename_i ha
        split at h
        · cases h
        · rename_i hin
          simp only [Option.some.injEq, Prod.mk.injEq] at h
          obtain ⟨rfl, rfl, rfl, rfl⟩ := h
          exact xs_iast X hd ha hin kk
      · cases h
    · cases h
  | lastore =>
    simp only [xi_s] at h
    split at h
    · split at h
      · rename_i ha
        split at h
        · cases h
        · rename_i hin
          simp only [Option.some.injEq, Prod.mk.injEq] at h
          obtain ⟨rfl, rfl, rfl, rfl⟩ := h
          exact xs_last X hd ha hin kk
      · cases h
    · cases h
  | castore =>
    simp only [xi_s] at h
    split at h
    · split at h
      · rename_i ha
        split at h
        · cases h
        · rename_i hin
          simp only [Option.some.injEq, Prod.mk.injEq] at h
          obtain ⟨rfl, rfl, rfl, rfl⟩ := h
          exact xs_cast X hd ha hin kk
      · cases h
    · cases h
  | bastore =>
    simp only [xi_s] at h
    split at h
    · split at h
      · rename_i ha
        split at h
        · cases h
        · rename_i hin
          simp only [Option.some.injEq, Prod.mk.injEq] at h
          obtain ⟨rfl, rfl, rfl, rfl⟩ := h
          exact xs_zast X hd ha hin kk
      · cases h
    · cases h
  | aastore =>
    simp only [xi_s] at h
    split at h
    · split at h
      · rename_i ha hv
        split at h
        · cases h
        · rename_i hin
          split at h
          · rename_i hc
            split at h
            · rename_i ht
              simp only [Option.some.injEq, Prod.mk.injEq] at h
              obtain ⟨rfl, rfl, rfl, rfl⟩ := h
              exact xs_aast X hd ha hin hv hc ht kk
            · cases h
          · cases h
      · cases h
    · cases h
  | arraylength =>
    simp only [xi_s] at h
    split at h
    · split at h
      · rename_i ha
        split at h
        · rename_i ht
          simp only [Option.some.injEq, Prod.mk.injEq] at h
          obtain ⟨rfl, rfl, rfl, rfl⟩ := h
          exact xs_alen X hd ha ht kk
        · cases h
      · cases h
    · cases h
  | getfield i =>
    simp only [xi_s] at h
    split at h
    · split at h
      · rename_i ha
        split at h
        · rename_i hcj
          subst hcj
          split at h
          · rename_i hv
            simp only [Option.some.injEq, Prod.mk.injEq] at h
            obtain ⟨rfl, rfl, rfl, rfl⟩ := h
            simp only [xi_ok] at hok
            split at hok
            · rename_i C T N hc
              simp only [Bool.and_eq_true, decide_eq_true_eq] at hok
              exact xs_get X hd ha hc hok.1 (xi_Gm hok.2) hv kk
            · cases hok
          · cases h
        · cases h
      · cases h
    · cases h
  | putfield i =>
    simp only [xi_s] at h
    split at h
    · split at h
      · rename_i ha
        split at h
        · rename_i hcj
          obtain ⟨rfl, hl0, hn, hf⟩ := hcj
          simp only [Option.some.injEq, Prod.mk.injEq] at h
          obtain ⟨rfl, rfl, rfl, rfl⟩ := h
          simp only [xi_ok] at hok
          split at hok
          · rename_i C T N hc
            simp only [Bool.and_eq_true, decide_eq_true_eq, Bool.or_eq_true] at hok
            obtain ⟨⟨hk, hw⟩, hfin⟩ := hok
            rcases hfin with hfin | ⟨⟨hfin, hdecl⟩, hin2⟩
            · exact xs_put X hd ha hc hk (xi_Gm hw) hfin hn hf hl0 kk
            · exact xs_putF X (hinit hin2) hd ha hc hk (xi_Gm hw) hfin hdecl hn hf hl0 kk
          · cases hok
        · cases h
      · cases h
    · cases h
  | new i =>
    simp only [xi_s] at h
    split at h
    · simp only [Option.some.injEq, Prod.mk.injEq] at h
      obtain ⟨rfl, rfl, rfl, rfl⟩ := h
      simp only [xi_ok] at hok
      split at hok
      · rename_i C T N hc
        simp only [Bool.and_eq_true, decide_eq_true_eq] at hok
        exact xs_new X hd hc (xi_Gm hok.1.1.1) (xi_Gm hok.1.1.2) (xi_Gm hok.1.2) hok.2 hE1 hE2 kk
      · cases hok
    · cases h
  | newarray aty =>
    cases aty with
    | int =>
      simp only [xi_s] at h
      split at h
      · split at h
        · cases h
        · rename_i hn
          simp only [Option.some.injEq, Prod.mk.injEq] at h
          obtain ⟨rfl, rfl, rfl, rfl⟩ := h
          match aux, hok with
          | [ix], hok => exact xs_newa_int X hd (xi_Gm (ix := ix) hok) (fun q => hn (Or.inl q)) (Nat.not_lt.mp fun q => hn (Or.inr q)) hE1 hE2 kk
          | [], hok => simp [xi_ok] at hok
          | _ :: _ :: _, hok => simp [xi_ok] at hok
      · cases h
    | long =>
      simp only [xi_s] at h
      split at h
      · split at h
        · cases h
        · rename_i hn
          simp only [Option.some.injEq, Prod.mk.injEq] at h
          obtain ⟨rfl, rfl, rfl, rfl⟩ := h
          match aux, hok with
          | [ix], hok => exact xs_newa_long X hd (xi_Gm (ix := ix) hok) (fun q => hn (Or.inl q)) (Nat.not_lt.mp fun q => hn (Or.inr q)) hE1 hE2 kk
          | [], hok => simp [xi_ok] at hok
          | _ :: _ :: _, hok => simp [xi_ok] at hok
      · cases h
    | char =>
      simp only [xi_s] at h
      split at h
      · split at h
        · cases h
        · rename_i hn
          simp only [Option.some.injEq, Prod.mk.injEq] at h
          obtain ⟨rfl, rfl, rfl, rfl⟩ := h
          match aux, hok with
          | [ix], hok => exact xs_newa_char X hd (xi_Gm (ix := ix) hok) (fun q => hn (Or.inl q)) (Nat.not_lt.mp fun q => hn (Or.inr q)) hE1 hE2 kk
          | [], hok => simp [xi_ok] at hok
          | _ :: _ :: _, hok => simp [xi_ok] at hok
      · cases h
    | boolean =>
      simp only [xi_s] at h
      split at h
      · split at h
        · cases h
        · rename_i hn
          simp only [Option.some.injEq, Prod.mk.injEq] at h
          obtain ⟨rfl, rfl, rfl, rfl⟩ := h
          match aux, hok with
          | [ix], hok => exact xs_newa_boolean X hd (xi_Gm (ix := ix) hok) (fun q => hn (Or.inl q)) (Nat.not_lt.mp fun q => hn (Or.inr q)) hE1 hE2 kk
          | [], hok => simp [xi_ok] at hok
          | _ :: _ :: _, hok => simp [xi_ok] at hok
      · cases h
    | _ => simp [xi_s] at h
  | anewarray i =>
    simp only [xi_s] at h
    split at h
    · split at h
      · cases h
      · rename_i hn
        simp only [Option.some.injEq, Prod.mk.injEq] at h
        obtain ⟨rfl, rfl, rfl, rfl⟩ := h
        simp only [xi_ok] at hok
        split at hok
        · rename_i C ht
          simp only [Bool.and_eq_true, decide_eq_true_eq] at hok
          exact xs_anew X hd ht (xi_Gm hok.1) hok.2 (fun q => hn (Or.inl q)) (Nat.not_lt.mp fun q => hn (Or.inr q)) hE1 hE2 kk
        · cases hok
    · cases h
  | _ => simp [xi_s] at h

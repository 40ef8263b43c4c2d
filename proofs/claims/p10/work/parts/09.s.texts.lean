/-! TEXTS: String's own methods on a text constant -/
theorem xi_args_l (b0 : Nat) (aS : Nat → Nat) (vs : List Value) : ∀ i : Nat, lv_args i (vs.map (xi_v b0 aS)) = xi_l b0 aS (lv_args i vs) := by
  induction vs with
  | nil => intro i; rfl
  | cons v vs ih =>
    intro i
    simp only [List.map_cons, lv_args, xi_v_cat, xi_l]
    rw [ih]
    rfl
theorem xi_sl_len (vs : List Value) : (lg_sl vs).length = xi_wt vs := by
  induction vs with
  | nil => rfl
  | cons v vs ih =>
    have e1 : lg_sl (v :: vs) = (if v.category = 2 then [Slot.val v, .second] else [.val v]) ++ lg_sl vs := by simp [lg_sl]
    rw [e1, List.length_append, ih]
    rcases lv_cat v with h | h <;> simp [xi_wt, h]
theorem xi_wt_v (b0 : Nat) (aS : Nat → Nat) (vs : List Value) : xi_wt (vs.map (xi_v b0 aS)) = xi_wt vs := by
  simp [xi_wt, Function.comp_def, xi_v_cat]
section XT
variable {p : Program} {l : Launch} {e : Env} {R : Room} {s : State} {m : MethodId} {args : Array Value} {below : List Frame} {meth : Method} {c : Code} {Q : State → Prop} {nL b0 : Nat} {aS : Nat → Nat} {dA : Nat → ClassId} {D : va_G} {n0 s0 : Nat}
variable {A : xi_H} {cc : ByteArray} {own : String} {pc i : Nat} {lv : xi_L} {r rest As : List Value} {y : MethodName} {cy : ByteArray} {nY : Nat} {ret : Option FieldType} {fr' lo' : Nat} {v : Option Value} {j : Nat} {t : List Int}
theorem xs_gst (X : xi_X (p, l, e, R, s, m, args, below, meth, c, Q, nL, b0, aS, dA, D, n0, s0) cc own) (hd : decode cc pc = .ok (.getstatic i, 3)) (hw : Cond.fieldLink own i "java/lang/String" "COMPACT_STRINGS" "Z" ∈ xi_G) (kk : xi_At (p, l, e, R, s, m, args, below, meth, c, Q, nL, b0, aS, dA, D, n0, s0) (pc + 3) lv (.int 1 :: r) A) : xi_At (p, l, e, R, s, m, args, below, meth, c, Q, nL, b0, aS, dA, D, n0, s0) pc lv r A := by
  obtain ⟨hx, hb, hml, hown, hts, hK, hstr⟩ := X
  intro H locs ls hR hl
  exact va_gets hx hb hstr.2.2.2.2.1.1 hR.2.1 hown (hts _ hw) (fun _ h => h) hd (kk H locs ls hR hl)
theorem xs_gfm (X : xi_X (p, l, e, R, s, m, args, below, meth, c, Q, nL, b0, aS, dA, D, n0, s0) cc own) (hd : decode cc pc = .ok (.getstatic i, 3)) (hw : Cond.fieldLink own i "jdk/internal/util/Preconditions" "SIOOBE_FORMATTER" "Ljava/util/function/BiFunction;" ∈ xi_G) (kk : ∀ w : Value, (w = .null ∨ w = .retAddr 200) → xi_At (p, l, e, R, s, m, args, below, meth, c, Q, nL, b0, aS, dA, D, n0, s0) (pc + 3) lv (w :: r) A) : xi_At (p, l, e, R, s, m, args, below, meth, c, Q, nL, b0, aS, dA, D, n0, s0) pc lv r A := by
  obtain ⟨hx, hb, hml, hown, hts, hK, hstr⟩ := X
  intro H locs ls hR hl
  rcases hstr.2.2.2.2.1.2.1 with h | h
  · exact va_gets hx hb h hR.2.1 hown (hts _ hw) (fun _ h => h) hd (kk .null (Or.inl rfl) H locs ls hR hl)
  · exact va_gets hx hb h hR.2.1 hown (hts _ hw) (fun _ h => h) hd (kk (.retAddr 200) (Or.inr rfl) H locs ls hR hl)
theorem xs_gco (X : xi_X (p, l, e, R, s, m, args, below, meth, c, Q, nL, b0, aS, dA, D, n0, s0) cc own) (ht : xi_tx[j]? = some t) (hd : decode cc pc = .ok (.getfield i, 3)) (hw : Cond.fieldLink own i "java/lang/String" "coder" "B" ∈ xi_G) (kk : xi_At (p, l, e, R, s, m, args, below, meth, c, Q, nL, b0, aS, dA, D, n0, s0) (pc + 3) lv (.int 0 :: r) A) : xi_At (p, l, e, R, s, m, args, below, meth, c, Q, nL, b0, aS, dA, D, n0, s0) pc lv (.retAddr j :: r) A := by
  obtain ⟨hx, hb, hml, hown, hts, hK, hstr⟩ := X
  intro H locs ls hR hl
  exact vk_getf hx hb (hstr.2.2.2.2.1.2.2 j t ht).2.1 hR.2.1 hown (hts _ hw) (fun _ h => h) hd (kk H locs ls hR hl)
theorem xs_gva (X : xi_X (p, l, e, R, s, m, args, below, meth, c, Q, nL, b0, aS, dA, D, n0, s0) cc own) (ht : xi_tx[j]? = some t) (hd : decode cc pc = .ok (.getfield i, 3)) (hw : Cond.fieldLink own i "java/lang/String" "value" "[B" ∈ xi_G) (kk : xi_At (p, l, e, R, s, m, args, below, meth, c, Q, nL, b0, aS, dA, D, n0, s0) (pc + 3) lv (.retAddr (100 + j) :: r) A) : xi_At (p, l, e, R, s, m, args, below, meth, c, Q, nL, b0, aS, dA, D, n0, s0) pc lv (.retAddr j :: r) A := by
  obtain ⟨hx, hb, hml, hown, hts, hK, hstr⟩ := X
  intro H locs ls hR hl
  exact vk_getf hx hb (hstr.2.2.2.2.1.2.2 j t ht).2.2.1 hR.2.1 hown (hts _ hw) (fun _ h => h) hd (kk H locs ls hR hl)
theorem xs_oln (X : xi_X (p, l, e, R, s, m, args, below, meth, c, Q, nL, b0, aS, dA, D, n0, s0) cc own) (ht : xi_tx[j]? = some t) (hd : decode cc pc = .ok (.arraylength, 1)) (kk : xi_At (p, l, e, R, s, m, args, below, meth, c, Q, nL, b0, aS, dA, D, n0, s0) (pc + 1) lv (.int (Int32.ofNat t.length) :: r) A) : xi_At (p, l, e, R, s, m, args, below, meth, c, Q, nL, b0, aS, dA, D, n0, s0) pc lv (.retAddr (100 + j) :: r) A := by
  obtain ⟨hx, hb, hml, hown, hts, hK, hstr⟩ := X
  intro H locs ls hR hl
  exact va_tlen hx hb (hstr.2.2.2.2.1.2.2 j t ht).2.2.2 hR.2.1 rfl hd (kk H locs ls hR hl)
theorem xs_obl {k : Int32} (X : xi_X (p, l, e, R, s, m, args, below, meth, c, Q, nL, b0, aS, dA, D, n0, s0) cc own) (ht : xi_tx[j]? = some t) (hd : decode cc pc = .ok (.baload, 1)) (hin : vp_in k t.length) (kk : xi_At (p, l, e, R, s, m, args, below, meth, c, Q, nL, b0, aS, dA, D, n0, s0) (pc + 1) lv (.int (Int32.ofInt (t.getD k.toNatClampNeg 0)) :: r) A) : xi_At (p, l, e, R, s, m, args, below, meth, c, Q, nL, b0, aS, dA, D, n0, s0) pc lv (.int k :: .retAddr (100 + j) :: r) A := by
  obtain ⟨hx, hb, hml, hown, hts, hK, hstr⟩ := X
  intro H locs ls hR hl
  exact va_tb hx hb (hstr.2.2.2.2.1.2.2 j t ht).2.2.2 hR.2.1 hin rfl hd (kk H locs ls hR hl)
/-- a virtual call on a text, which leaves the heap as it is -/
theorem xs_callVr (X : xi_X (p, l, e, R, s, m, args, below, meth, c, Q, nL, b0, aS, dA, D, n0, s0) cc own) (ht : xi_tx[j]? = some t) (hd : decode cc pc = .ok (.invokevirtual i, 3)) (hM : xi_Met l y (.code y cy nY ret :: xi_G) { frames := fr', cells := 0, slots := 0, locals := lo' } (xi_Pc b0 aS dA D (.retAddr j :: As) A) (xi_Qc b0 aS dA D (.returned v) A) 0 0 (fun q => b0 ≤ q)) (h0 : 0 < A.length) (hE1 : A.length - n0 ≤ R.cells) (hE2 : xi_ns A - s0 ≤ R.slots) (hfr : fr' + 1 ≤ R.frames) (hlo : 8 + (nY + 11) + lo' ≤ R.locals)
    (hw1 : Cond.methodLink own i y ∈ xi_G) (hw2 : Cond.instanceMethod y ∈ xi_G) (hw3 : Cond.selects y.cls y y ∈ xi_G) (hw4 : Cond.initialized y.cls ∈ xi_G) (hw5 : Cond.code y cy nY ret ∈ xi_G)
    (hyc : y.cls = "java/lang/String") (hn : (parseMethodDescriptor y.desc).map (fun d => d.parameters.length) = some As.length) (h8 : (rest.map fun v => v.category).sum ≤ 8)
    (kk : xi_At (p, l, e, R, s, m, args, below, meth, c, Q, nL, b0, aS, dA, D, n0, s0) (pc + 3) lv (v.toList ++ rest) A) : xi_At (p, l, e, R, s, m, args, below, meth, c, Q, nL, b0, aS, dA, D, n0, s0) pc lv (As.reverse ++ .retAddr j :: rest) A := by
  obtain ⟨hx, hbb, hml, hown, hts, hK, hstr⟩ := X
  intro H locs ls hR hl T0 hT0 X0
  have hz := xi_hz h0 hR hT0 X0
  have h1 := hR.2.2.1
  have h2 := hR.2.2.2.1
  have hy : y.cls ≠ "java/lang/invoke/MethodHandle" ∧ y.cls ≠ "java/lang/invoke/VarHandle" := by rw [hyc]; decide
  have hgood : GoodIn xi_G (wsV own i y.cls y (.code y cy nY ret :: xi_G)) := by
    intro w hw
    rcases List.mem_append.mp hw with hw | hw
    · simp only [List.mem_cons, List.not_mem_nil, or_false] at hw
      rcases hw with rfl | rfl | rfl | rfl
      · exact ⟨hw1, xi_good hw1⟩
      · exact ⟨hw2, xi_good hw2⟩
      · exact ⟨hw3, xi_good hw3⟩
      · exact ⟨hw4, xi_good hw4⟩
    · exact xi_goodIn hw5 w hw
  obtain ⟨cell, g1, g2, g3, -⟩ := (hstr.2.2.2.2.1.2.2 j t ht).1.kept hR.2.1.2.1
  have hst : (As.reverse ++ Value.retAddr j :: rest).map (xi_v b0 aS) = (As.map (xi_v b0 aS)).reverse ++ .ref (aS j) :: rest.map (xi_v b0 aS) := by simp [xi_v]
  rw [hst]
  refine xi_callK (va_runV (C := y.cls) (b := aS j) (As := As.map (xi_v b0 aS)) (rest := rest.map (xi_v b0 aS)) ⟨hx, hbb, hml, hown, hts⟩ hM.ret (cwV As.length hts hgood rfl rfl rfl ⟨rfl, hy.1, hy.2, hn⟩ ⟨hfr, hlo⟩) ⟨xi_Pc_blind, ⟨cell, g1, g2, by rw [hyc]; exact g3⟩, xi_pre hR hz hK hstr (.retAddr j :: As)⟩ rfl (by simp) hl.1 rfl (lv_room (xi_room h8)) hd ⟨by show A.length - n0 + 0 ≤ R.cells; omega, by show xi_ns A - s0 + 0 ≤ R.slots; omega⟩) hR.2.1 (fun H1 locs1 hP1 hS1 => ?_) T0 hT0 X0
  have k1 := kk H1 locs1 ls ⟨hP1, hS1, h1, h2, hR.2.2.2.2⟩ hl
  have e1 : (v.map (xi_v b0 aS)).toList ++ rest.map (xi_v b0 aS) = (v.toList ++ rest).map (xi_v b0 aS) := by cases v <;> simp
  rw [e1]
  exact k1
/-- a static call that leaves the heap as it is -/
theorem xs_callSr (X : xi_X (p, l, e, R, s, m, args, below, meth, c, Q, nL, b0, aS, dA, D, n0, s0) cc own) (hd : decode cc pc = .ok (.invokestatic i, 3)) (hM : xi_Met l y (.code y cy nY ret :: xi_G) { frames := fr', cells := 0, slots := 0, locals := lo' } (xi_Pc b0 aS dA D (As) A) (xi_Qc b0 aS dA D (.returned v) A) 0 0 (fun q => b0 ≤ q)) (h0 : 0 < A.length) (hE1 : A.length - n0 ≤ R.cells) (hE2 : xi_ns A - s0 ≤ R.slots) (hfr : fr' + 1 ≤ R.frames) (hlo : 8 + (nY + 11) + lo' ≤ R.locals)
    (hw1 : Cond.methodLink own i y ∈ xi_G) (hw2 : Cond.static y ∈ xi_G) (hw4 : Cond.initialized y.cls ∈ xi_G) (hw5 : Cond.code y cy nY ret ∈ xi_G)
    (hy : y.cls ≠ "java/lang/invoke/MethodHandle" ∧ y.cls ≠ "java/lang/invoke/VarHandle") (hn : (parseMethodDescriptor y.desc).map (fun d => d.parameters.length) = some As.length) (h8 : (rest.map fun v => v.category).sum ≤ 8)
    (kk : xi_At (p, l, e, R, s, m, args, below, meth, c, Q, nL, b0, aS, dA, D, n0, s0) (pc + 3) lv (v.toList ++ rest) A) : xi_At (p, l, e, R, s, m, args, below, meth, c, Q, nL, b0, aS, dA, D, n0, s0) pc lv (As.reverse ++ rest) A := by
  obtain ⟨hx, hbb, hml, hown, hts, hK, hstr⟩ := X
  intro H locs ls hR hl T0 hT0 X0
  have hz := xi_hz h0 hR hT0 X0
  have h1 := hR.2.2.1
  have h2 := hR.2.2.2.1
  have hst : (As.reverse ++ rest).map (xi_v b0 aS) = (As.map (xi_v b0 aS)).reverse ++ rest.map (xi_v b0 aS) := by simp
  rw [hst]
  refine xi_callK (va_runS (As := As.map (xi_v b0 aS)) (rest := rest.map (xi_v b0 aS)) ⟨hx, hbb, hml, hown, hts⟩ hM.ret ⟨callB_of As.length hts (xi_goodIn hw5) rfl rfl rfl (hts _ hw4) (hts _ hw1) ⟨hy.1, hy.2, hn⟩ ⟨hfr, hlo⟩, hts _ hw2⟩ ⟨xi_Pc_blind, xi_pre hR hz hK hstr As⟩ rfl (by simp) hl.1 rfl (lv_room (xi_room h8)) hd ⟨by show A.length - n0 + 0 ≤ R.cells; omega, by show xi_ns A - s0 + 0 ≤ R.slots; omega⟩) hR.2.1 (fun H1 locs1 hP1 hS1 => ?_) T0 hT0 X0
  have k1 := kk H1 locs1 ls ⟨hP1, hS1, h1, h2, hR.2.2.2.2⟩ hl
  have e1 : (v.map (xi_v b0 aS)).toList ++ rest.map (xi_v b0 aS) = (v.toList ++ rest).map (xi_v b0 aS) := by cases v <;> simp
  rw [e1]
  exact k1
theorem xi_metA {vs : List Value} {o : Outcome} (hpn : plainFor y = true) (hw : xi_wt vs ≤ nY)
    (hAt : ∀ (p : Program) (e : Env) (s : State) (m : MethodId) (args : Array Value) (below : List Frame) (meth : Method) (c : Code), xi_X (p, l, e, { frames := fr', cells := 0, slots := 0, locals := lo' }, s, m, args, below, meth, c, xi_MQ below (xi_Qc b0 aS dA D o A) args s (A.length - A.length) (xi_ns A - xi_ns A) (fun q => b0 ≤ q), nY, b0, aS, dA, D, A.length, xi_ns A) cy y.cls → meth.sig.returnType = ret → meth.locks = false → xi_At (p, l, e, { frames := fr', cells := 0, slots := 0, locals := lo' }, s, m, args, below, meth, c, xi_MQ below (xi_Qc b0 aS dA D o A) args s (A.length - A.length) (xi_ns A - xi_ns A) (fun q => b0 ≤ q), nY, b0, aS, dA, D, A.length, xi_ns A) 0 (lv_args 0 vs) [] A) :
    xi_Met l y (.code y cy nY ret :: xi_G) { frames := fr', cells := 0, slots := 0, locals := lo' } (xi_Pc b0 aS dA D vs A) (xi_Qc b0 aS dA D o A) 0 0 (fun q => b0 ≤ q) := by
  refine xi_ofW (cc := cy) (maxL := nY) (ret := ret) hpn rfl ?_
  intro p e s m args below meth c s₁ B hml hv
  obtain ⟨rfl, hP, hz, hK, hSt⟩ := hv
  have hts0 := atoms_spec (ws := .code y cy nY ret :: xi_G) B.pre
  have hts : ∀ w ∈ xi_G, w.before _ s = true := fun w hw => hts0 w (List.mem_cons_of_mem _ hw)
  have hown : s.vm.findClass y.cls = some m.cls := findClass_of_methodNamed B.named
  have hl := lv_entry (vs.map (xi_v b0 aS)) (n := nY) (by rw [xi_sl_len, xi_wt_v]; exact hw)
  rw [xi_args_l] at hl
  rw [lg_entry_eq]
  have k1 := hAt p e s m _ below meth c ⟨B.exec, B.bytes, hml, hown, hts, hK, hSt⟩ B.returns B.notSynchronized s.heap [] _ ⟨hP, va_S.rf, Nat.le_refl _, Nat.le_refl _, hz⟩ hl
  rw [Nat.sub_self, Nat.sub_self] at k1
  exact k1
theorem xs_iretA {x : Int32} {ty : FieldType} (X : xi_X (p, l, e, R, s, m, args, below, meth, c, xi_MQ below (xi_Qc b0 aS dA D (.returned (some (.int x))) A) args s (A.length - n0) (xi_ns A - s0) (fun q => b0 ≤ q), nL, b0, aS, dA, D, n0, s0) cc own) (hret : meth.sig.returnType = some ty) (hn : narrow ty (.int x) = .int x) (hlk : meth.locks = false) (hd : decode cc pc = .ok (.ireturn, 1)) : xi_At (p, l, e, R, s, m, args, below, meth, c, xi_MQ below (xi_Qc b0 aS dA D (.returned (some (.int x))) A) args s (A.length - n0) (xi_ns A - s0) (fun q => b0 ≤ q), nL, b0, aS, dA, D, n0, s0) pc lv [.int x] A := by
  obtain ⟨hx0, hbb, -⟩ := X
  intro H locs ls hR hl
  exact xi_W_mono xi_MQ_of (W.zret hx0 hbb hret hn (fun t ht hW => ⟨rfl, by rw [ht]; exact hR.1, hR.2.1.F ht⟩) (fun q hq => hR.2.1.2.2 q hq) hd hlk)
theorem xs_vretA (X : xi_X (p, l, e, R, s, m, args, below, meth, c, xi_MQ below (xi_Qc b0 aS dA D (.returned none) A) args s (A.length - n0) (xi_ns A - s0) (fun q => b0 ≤ q), nL, b0, aS, dA, D, n0, s0) cc own) (hret : meth.sig.returnType = none) (hlk : meth.locks = false) (hd : decode cc pc = .ok (.return_, 1)) : xi_At (p, l, e, R, s, m, args, below, meth, c, xi_MQ below (xi_Qc b0 aS dA D (.returned none) A) args s (A.length - n0) (xi_ns A - s0) (fun q => b0 ≤ q), nL, b0, aS, dA, D, n0, s0) pc lv [] A := by
  obtain ⟨hx0, hbb, -⟩ := X
  intro H locs ls hR hl
  exact xi_W_mono xi_MQ_of (W.vret hx0 hbb hret (fun t ht hW => ⟨rfl, by rw [ht]; exact hR.1, hR.2.1.F ht⟩) (fun q hq => hR.2.1.2.2 q hq) hd hlk)
theorem xi_mCoder (ht : xi_tx[j]? = some t) : xi_Met l ⟨"java/lang/String", "coder", "()B"⟩ (.code ⟨"java/lang/String", "coder", "()B"⟩ prog_22_method_152_code 1 (some .byte) :: xi_G) { frames := 0, cells := 0, slots := 0, locals := 0 } (xi_Pc b0 aS dA D [.retAddr j] A) (xi_Qc b0 aS dA D (.returned (some (.int 0))) A) 0 0 (fun q => b0 ≤ q) := by
  refine xi_metA (by decide +kernel) (Nat.le_of_ble_eq_true rfl) (fun p e s m args below meth c X hret hlk => ?_)
  refine xs_gst (i := 38) X (by decide +kernel) (xi_Gm (ix := 3174) (by decide +kernel)) ?_
  refine xs_if_eq (off := 10) (tgt := 13) X (by decide +kernel) (by decide) ?_
  rw [if_neg (by decide)]
  refine xs_aload_n (k := 0) (v := .retAddr j) X (by decide +kernel) rfl rfl ?_
  refine xs_gco (i := 15) X ht (by decide +kernel) (xi_Gm (ix := 8015) (by decide +kernel)) ?_
  refine xs_goto (off := 4) (tgt := 14) X (by decide +kernel) (by decide) ?_
  exact xs_iretA X hret rfl hlk (by decide +kernel)
theorem xi_mIsL (ht : xi_tx[j]? = some t) : xi_Met l ⟨"java/lang/String", "isLatin1", "()Z"⟩ (.code ⟨"java/lang/String", "isLatin1", "()Z"⟩ prog_22_method_154_code 1 (some .boolean) :: xi_G) { frames := 0, cells := 0, slots := 0, locals := 0 } (xi_Pc b0 aS dA D [.retAddr j] A) (xi_Qc b0 aS dA D (.returned (some (.int (Int32.ofInt 1)))) A) 0 0 (fun q => b0 ≤ q) := by
  refine xi_metA (by decide +kernel) (Nat.le_of_ble_eq_true rfl) (fun p e s m args below meth c X hret hlk => ?_)
  refine xs_gst (i := 38) X (by decide +kernel) (xi_Gm (ix := 3174) (by decide +kernel)) ?_
  refine xs_if_eq (off := 14) (tgt := 17) X (by decide +kernel) (by decide) ?_
  rw [if_neg (by decide)]
  refine xs_aload_n (k := 0) (v := .retAddr j) X (by decide +kernel) rfl rfl ?_
  refine xs_gco (i := 15) X ht (by decide +kernel) (xi_Gm (ix := 8015) (by decide +kernel)) ?_
  refine xs_if_ne (off := 7) (tgt := 17) X (by decide +kernel) (by decide) ?_
  rw [if_neg (by decide)]
  refine xs_iconst (n := 1) X (by decide +kernel) ?_
  refine xs_goto (off := 4) (tgt := 18) X (by decide +kernel) (by decide) ?_
  exact xs_iretA X hret rfl hlk (by decide +kernel)
theorem xi_shr0 (x : Int32) : x >>> ((0 : Int32) &&& 31) = x := by
  apply Int32.toBitVec_inj.mp
  rw [Int32.toBitVec_shiftRight]
  show x.toBitVec.sshiftRight (((0 : Int32) &&& 31).toBitVec.smod 32).toNat = _
  rw [show (((0 : Int32) &&& 31).toBitVec.smod 32).toNat = 0 by decide +kernel, BitVec.sshiftRight_zero]
theorem xi_mLen (ht : xi_tx[j]? = some t) (h0 : 0 < A.length) : xi_Met l xi_sL (.code xi_sL prog_22_method_54_code 1 (some .int) :: xi_G) { frames := 1, cells := 0, slots := 0, locals := 20 } (xi_Pc b0 aS dA D [.retAddr j] A) (xi_Qc b0 aS dA D (.returned (some (.int (Int32.ofNat t.length)))) A) 0 0 (fun q => b0 ≤ q) := by
  refine xi_metA (by decide +kernel) (Nat.le_of_ble_eq_true rfl) (fun p e s m args below meth c X hret hlk => ?_)
  refine xs_aload_n (k := 0) (v := .retAddr j) X (by decide +kernel) rfl rfl ?_
  refine xs_gva (i := 9) X ht (by decide +kernel) (xi_Gm (ix := 8014) (by decide +kernel)) ?_
  refine xs_oln X ht (by decide +kernel) ?_
  refine xs_aload_n (k := 0) (v := .retAddr j) X (by decide +kernel) rfl rfl ?_
  refine xs_callVr (i := 335) (As := []) (rest := [.int (Int32.ofNat t.length)]) X ht (by decide +kernel) (xi_mCoder ht) h0 (by show A.length - A.length ≤ 0; omega) (by show xi_ns A - xi_ns A ≤ 0; omega) (show 0 + 1 ≤ 1 by decide) (show 8 + (1 + 11) + 0 ≤ 20 by decide) (xi_Gm (ix := 3170) (by decide +kernel)) (xi_Gm (ix := 3171) (by decide +kernel)) (xi_Gm (ix := 3172) (by decide +kernel)) (xi_Gm (ix := 1020) (by decide +kernel)) (xi_Gm (ix := 3173) (by decide +kernel)) rfl (by decide +kernel) (Nat.le_of_ble_eq_true rfl) ?_
  refine xs_ishr X (by decide +kernel) ?_
  rw [xi_shr0]
  exact xs_iretA X hret rfl hlk (by decide +kernel)
theorem xi_mPre {k n : Int32} {w : Value} (hw : w = .null ∨ w = .retAddr 200) (hk : ¬ k < 0) (hkn : k < n) : xi_Met l ⟨"jdk/internal/util/Preconditions", "checkIndex", "(IILjava/util/function/BiFunction;)I"⟩ (.code ⟨"jdk/internal/util/Preconditions", "checkIndex", "(IILjava/util/function/BiFunction;)I"⟩ prog_29_method_11_code 3 (some .int) :: xi_G) { frames := 0, cells := 0, slots := 0, locals := 0 } (xi_Pc b0 aS dA D [.int k, .int n, w] A) (xi_Qc b0 aS dA D (.returned (some (.int k))) A) 0 0 (fun q => b0 ≤ q) := by
  refine xi_metA (by decide +kernel) (by rcases hw with rfl | rfl <;> exact Nat.le_of_ble_eq_true rfl) (fun p e s m args below meth c X hret hlk => ?_)
  refine xs_iload_n (k := 0) (x := k) X (by decide +kernel) rfl ?_
  refine xs_if_lt (off := 8) (tgt := 9) X (by decide +kernel) (by decide) ?_
  rw [if_neg hk]
  refine xs_iload_n (k := 0) (x := k) X (by decide +kernel) rfl ?_
  refine xs_iload_n (k := 1) (x := n) X (by decide +kernel) rfl ?_
  refine xs_icmp_lt (off := 10) (tgt := 16) X (by decide +kernel) (by decide) ?_
  rw [if_pos hkn]
  refine xs_iload_n (k := 0) (x := k) X (by decide +kernel) rfl ?_
  exact xs_iretA X hret rfl hlk (by decide +kernel)
theorem xi_mChk {k n : Int32} (hk : ¬ k < 0) (hkn : k < n) (h0 : 0 < A.length) : xi_Met l ⟨"java/lang/String", "checkIndex", "(II)V"⟩ (.code ⟨"java/lang/String", "checkIndex", "(II)V"⟩ prog_22_method_155_code 2 none :: xi_G) { frames := 1, cells := 0, slots := 0, locals := 22 } (xi_Pc b0 aS dA D [.int k, .int n] A) (xi_Qc b0 aS dA D (.returned none) A) 0 0 (fun q => b0 ≤ q) := by
  refine xi_metA (by decide +kernel) (Nat.le_of_ble_eq_true rfl) (fun p e s m args below meth c X hret hlk => ?_)
  refine xs_iload_n (k := 0) (x := k) X (by decide +kernel) rfl ?_
  refine xs_iload_n (k := 1) (x := n) X (by decide +kernel) rfl ?_
  refine xs_gfm (i := 1053) X (by decide +kernel) (xi_Gm (ix := 3190) (by decide +kernel)) (fun w hw => ?_)
  refine xs_callSr (i := 1059) (As := [.int k, .int n, w]) (rest := []) X (by decide +kernel) (xi_mPre hw hk hkn) h0 (by show A.length - A.length ≤ 0; omega) (by show xi_ns A - xi_ns A ≤ 0; omega) (show 0 + 1 ≤ 1 by decide) (show 8 + (3 + 11) + 0 ≤ 22 by decide) (xi_Gm (ix := 3192) (by decide +kernel)) (xi_Gm (ix := 3193) (by decide +kernel)) (xi_Gm (ix := 1022) (by decide +kernel)) (xi_Gm (ix := 3194) (by decide +kernel)) (by decide) (show (parseMethodDescriptor "(IILjava/util/function/BiFunction;)I").map (fun d => d.parameters.length) = some 3 by decide +kernel) (Nat.le_of_ble_eq_true rfl) ?_
  refine xs_pop X (by decide +kernel) rfl ?_
  exact xs_vretA X hret hlk (by decide +kernel)
theorem xi_txc : ∀ u ∈ xi_tx, ∀ z ∈ u, ((Int32.ofInt z &&& (Int16.ofInt 255).toInt32).toUInt32 % 65536).toInt32 = Int32.ofInt z ∧ narrow .char (.int (Int32.ofInt z)) = .int (Int32.ofInt z) := by decide +kernel
theorem xi_txl : ∀ u ∈ xi_tx, u.length < 100 := by decide +kernel
theorem xi_mCh1 {k : Int32} {z : Int} (ht : xi_tx[j]? = some t) (hz : t[k.toNatClampNeg]? = some z) (hk : ¬ k < 0) (h0 : 0 < A.length) : xi_Met l ⟨"java/lang/StringLatin1", "charAt", "([BI)C"⟩ (.code ⟨"java/lang/StringLatin1", "charAt", "([BI)C"⟩ prog_23_method_2_code 2 (some .char) :: xi_G) { frames := 2, cells := 0, slots := 0, locals := 43 } (xi_Pc b0 aS dA D [.retAddr (100 + j), .int k] A) (xi_Qc b0 aS dA D (.returned (some (.int (Int32.ofInt z)))) A) 0 0 (fun q => b0 ≤ q) := by
  have hm := List.mem_of_getElem? ht
  obtain ⟨c1, c2⟩ := xi_txc t hm z (List.mem_of_getElem? hz)
  have hkl : k.toNatClampNeg < t.length := (List.getElem?_eq_some_iff.mp hz).1
  have hl := xi_txl t hm
  have hki : k.toInt = (k.toNatClampNeg : Int) := by
    have h1 : (0 : Int) ≤ k.toInt := by
      have h2 := Int32.not_lt.mp hk
      simpa using Int32.le_iff_toInt_le.mp h2
    show k.toInt = ((k.toInt.toNat : Nat) : Int)
    omega
  have hkn : k < Int32.ofNat t.length := by
    rw [Int32.lt_iff_toInt_lt, hki, Int32.toInt_ofNat_of_lt (by omega)]
    omega
  have hg : t.getD k.toNatClampNeg 0 = z := by rw [List.getD_eq_getElem?_getD, hz]; rfl
  refine xi_metA (by decide +kernel) (Nat.le_of_ble_eq_true rfl) (fun p e s m args below meth c X hret hlk => ?_)
  refine xs_iload_n (k := 1) (x := k) X (by decide +kernel) rfl ?_
  refine xs_aload_n (k := 0) (v := .retAddr (100 + j)) X (by decide +kernel) rfl rfl ?_
  refine xs_oln X ht (by decide +kernel) ?_
  refine xs_callSr (i := 9) (As := [.int k, .int (Int32.ofNat t.length)]) (rest := []) X (by decide +kernel) (xi_mChk hk hkn h0) h0 (by show A.length - A.length ≤ 0; omega) (by show xi_ns A - xi_ns A ≤ 0; omega) (show 1 + 1 ≤ 2 by decide) (show 8 + (2 + 11) + 22 ≤ 43 by decide) (xi_Gm (ix := 3187) (by decide +kernel)) (xi_Gm (ix := 3188) (by decide +kernel)) (xi_Gm (ix := 1020) (by decide +kernel)) (xi_Gm (ix := 3189) (by decide +kernel)) (by decide) (show (parseMethodDescriptor "(II)V").map (fun d => d.parameters.length) = some 2 by decide +kernel) (Nat.le_of_ble_eq_true rfl) ?_
  refine xs_aload_n (k := 0) (v := .retAddr (100 + j)) X (by decide +kernel) rfl rfl ?_
  refine xs_iload_n (k := 1) (x := k) X (by decide +kernel) rfl ?_
  refine xs_obl X ht (by decide +kernel) (fun h => h.elim hk (fun h => absurd hkl (Nat.not_lt.mpr h))) ?_
  rw [hg]
  refine xs_sipush (n := 255) X (by decide +kernel) ?_
  refine xs_iand X (by decide +kernel) ?_
  refine xs_i2c X (by decide +kernel) ?_
  rw [c1]
  exact xs_iretA X hret c2 hlk (by decide +kernel)
theorem xi_mChr {k : Int32} {z : Int} (ht : xi_tx[j]? = some t) (hz : t[k.toNatClampNeg]? = some z) (hk : ¬ k < 0) (h0 : 0 < A.length) : xi_Met l xi_sC (.code xi_sC prog_22_method_56_code 2 (some .char) :: xi_G) { frames := 3, cells := 0, slots := 0, locals := 64 } (xi_Pc b0 aS dA D [.retAddr j, .int k] A) (xi_Qc b0 aS dA D (.returned (some (.int (Int32.ofInt z)))) A) 0 0 (fun q => b0 ≤ q) := by
  obtain ⟨c1, c2⟩ := xi_txc t (List.mem_of_getElem? ht) z (List.mem_of_getElem? hz)
  refine xi_metA (by decide +kernel) (Nat.le_of_ble_eq_true rfl) (fun p e s m args below meth c X hret hlk => ?_)
  refine xs_aload_n (k := 0) (v := .retAddr j) X (by decide +kernel) rfl rfl ?_
  refine xs_callVr (i := 492) (As := []) (rest := []) X ht (by decide +kernel) (xi_mIsL ht) h0 (by show A.length - A.length ≤ 0; omega) (by show xi_ns A - xi_ns A ≤ 0; omega) (show 0 + 1 ≤ 3 by decide) (show 8 + (1 + 11) + 0 ≤ 64 by decide) (xi_Gm (ix := 3180) (by decide +kernel)) (xi_Gm (ix := 3181) (by decide +kernel)) (xi_Gm (ix := 3182) (by decide +kernel)) (xi_Gm (ix := 1020) (by decide +kernel)) (xi_Gm (ix := 3183) (by decide +kernel)) rfl (by decide +kernel) (Nat.le_of_ble_eq_true rfl) ?_
  refine xs_if_eq (off := 12) (tgt := 16) X (by decide +kernel) (by decide) ?_
  rw [if_neg (by decide)]
  refine xs_aload_n (k := 0) (v := .retAddr j) X (by decide +kernel) rfl rfl ?_
  refine xs_gva (i := 9) X ht (by decide +kernel) (xi_Gm (ix := 8014) (by decide +kernel)) ?_
  refine xs_iload_n (k := 1) (x := k) X (by decide +kernel) rfl ?_
  refine xs_callSr (i := 495) (As := [.retAddr (100 + j), .int k]) (rest := []) X (by decide +kernel) (xi_mCh1 ht hz hk h0) h0 (by show A.length - A.length ≤ 0; omega) (by show xi_ns A - xi_ns A ≤ 0; omega) (show 2 + 1 ≤ 3 by decide) (show 8 + (2 + 11) + 43 ≤ 64 by decide) (xi_Gm (ix := 3184) (by decide +kernel)) (xi_Gm (ix := 3185) (by decide +kernel)) (xi_Gm (ix := 1021) (by decide +kernel)) (xi_Gm (ix := 3186) (by decide +kernel)) (by decide) (show (parseMethodDescriptor "([BI)C").map (fun d => d.parameters.length) = some 2 by decide +kernel) (Nat.le_of_ble_eq_true rfl) ?_
  exact xs_iretA X hret c2 hlk (by decide +kernel)
theorem xi_ofN (n : Nat) : Int32.ofNat n = Int32.ofInt (n : Int) := (Int32.ofInt_eq_ofNat).symm
theorem xs_strlen (X : xi_X (p, l, e, R, s, m, args, below, meth, c, Q, nL, b0, aS, dA, D, n0, s0) cc own) (ht : xi_tx[j]? = some t) (hd : decode cc pc = .ok (.invokevirtual i, 3)) (hw : Cond.methodLink own i xi_sL ∈ xi_G) (h0 : 0 < A.length) (hE1 : A.length - n0 ≤ R.cells) (hE2 : xi_ns A - s0 ≤ R.slots) (hfr : 6 ≤ R.frames) (hlo : 100 ≤ R.locals) (h8 : xi_wt r ≤ 6) (kk : xi_At (p, l, e, R, s, m, args, below, meth, c, Q, nL, b0, aS, dA, D, n0, s0) (pc + 3) lv (.int (Int32.ofInt (t.length : Int)) :: r) A) : xi_At (p, l, e, R, s, m, args, below, meth, c, Q, nL, b0, aS, dA, D, n0, s0) pc lv (.retAddr j :: r) A := by
  rw [← xi_ofN] at kk
  exact xs_callVr (As := []) X ht hd (xi_mLen ht h0) h0 hE1 hE2 (show 1 + 1 ≤ R.frames by omega) (show 8 + (1 + 11) + 20 ≤ R.locals by omega) hw (xi_Gm (ix := 3167) (by decide +kernel)) (xi_Gm (ix := 3168) (by decide +kernel)) (xi_Gm (ix := 1020) (by decide +kernel)) (xi_Gm (ix := 3169) (by decide +kernel)) rfl (by decide +kernel) (show (r.map fun v => v.category).sum ≤ 8 from Nat.le_trans h8 (by decide)) kk
theorem xs_strchr {k : Int32} {z : Int} (X : xi_X (p, l, e, R, s, m, args, below, meth, c, Q, nL, b0, aS, dA, D, n0, s0) cc own) (ht : xi_tx[j]? = some t) (hz : t[k.toNatClampNeg]? = some z) (hk : 0 ≤ k) (hd : decode cc pc = .ok (.invokevirtual i, 3)) (hw : Cond.methodLink own i xi_sC ∈ xi_G) (h0 : 0 < A.length) (hE1 : A.length - n0 ≤ R.cells) (hE2 : xi_ns A - s0 ≤ R.slots) (hfr : 6 ≤ R.frames) (hlo : 100 ≤ R.locals) (h8 : xi_wt r ≤ 6) (kk : xi_At (p, l, e, R, s, m, args, below, meth, c, Q, nL, b0, aS, dA, D, n0, s0) (pc + 3) lv (.int (Int32.ofInt z) :: r) A) : xi_At (p, l, e, R, s, m, args, below, meth, c, Q, nL, b0, aS, dA, D, n0, s0) pc lv (.int k :: .retAddr j :: r) A :=
  xs_callVr (As := [.int k]) X ht hd (xi_mChr ht hz (Int32.not_lt.mpr hk) h0) h0 hE1 hE2 (show 3 + 1 ≤ R.frames by omega) (show 8 + (2 + 11) + 64 ≤ R.locals by omega) hw (xi_Gm (ix := 3177) (by decide +kernel)) (xi_Gm (ix := 3178) (by decide +kernel)) (xi_Gm (ix := 1020) (by decide +kernel)) (xi_Gm (ix := 3179) (by decide +kernel)) rfl (show (parseMethodDescriptor "(I)C").map (fun d => d.parameters.length) = some 1 by decide +kernel) (show (r.map fun v => v.category).sum ≤ 8 from Nat.le_trans h8 (by decide)) kk
end XT

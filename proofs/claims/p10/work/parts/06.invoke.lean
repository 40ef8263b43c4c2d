/-! CALLS THAT RETURN -/
theorem xi_good {w : Cond} (h : w ∈ xi_G) : (w.onTables && w.keeps) = true ∨ ∃ ty, w = .arrayClass ty := good_of_word (List.mem_filter.mp h).2
theorem xi_goodIn {y : MethodName} {cy : ByteArray} {nY : Nat} {ret : Option FieldType} (h : Cond.code y cy nY ret ∈ xi_G) : GoodIn xi_G (.code y cy nY ret :: xi_G) := by
  intro w hw
  rcases List.mem_cons.mp hw with rfl | hw
  · exact ⟨h, xi_good h⟩
  · exact ⟨hw, xi_good hw⟩
section XC
variable {p : Program} {l : Launch} {e : Env} {R : Room} {s : State} {m : MethodId} {args : Array Value} {below : List Frame} {meth : Method} {c : Code} {Q : State → Prop} {nL b0 : Nat} {aS : Nat → Nat} {dA : Nat → ClassId} {D : va_G} {n0 s0 : Nat}
variable {H : Heap} {locs : List Loc} {cells slots : Nat} {A A' : xi_H} {cc : ByteArray} {own : String} {pc i : Nat} {lv : xi_L} {y : MethodName} {cy : ByteArray} {nY : Nat} {ret : Option FieldType} {fr' lo' : Nat} {v : Option Value} {As rest : List Value} {b : Nat}
theorem xi_hz {T : State} (h0 : 0 < A.length) (hR : xi_R b0 aS dA D n0 s0 s.heap A H locs) (hT : T.heap = H) (X : Stand p l e R s m args below meth c T locs (A.length - n0) slots) : H.size = b0 + A.length := by
  obtain ⟨hP, -, hn, -, hs⟩ := hR
  have h1 := X.heapSize
  rw [hT] at h1
  have hlt : A.length - 1 < A.length := by omega
  have h2 := (hP _ _ (xi_w_get (List.getElem?_eq_getElem hlt))).lt
  simp only at h2
  omega
theorem xi_old (hR : xi_R b0 aS dA D n0 s0 s.heap A H locs) : ∀ q : Nat, q < b0 → H[q]? = s.heap[q]? := fun q hq => by
  have h := hR.2.2.2.2
  exact hR.2.1.2.1 q (by omega) (by omega)
theorem xi_pre (hR : xi_R b0 aS dA D n0 s0 s.heap A H locs) (hz : H.size = b0 + A.length) (hK : va_K D xi_cl (xi_tys dA) s) (hstr : xi_St b0 aS s) (vs : List Value) : ∀ U : State, U.heap = H → s.WarmedH U.vm → xi_Pc b0 aS dA D vs A (vs.map (xi_v b0 aS)).toArray U := by
  intro U hU hW
  exact ⟨rfl, by rw [hU]; exact hR.1, by rw [hU]; exact hz, va_K.moved hW.alike hK, hstr.warm hW (fun q hq => by rw [hU]; exact xi_old hR q hq)⟩
theorem xi_callK {ls : Array Slot} {st0 : List Value} {a : Array Value} {mc ms : Nat} (hr : va_Run p l e R s m args below meth c H locs cells slots mc ms (F0 m pc ls st0) rest (xi_Qc b0 aS dA D (.returned v) A' a) (fun q => b0 ≤ q)) (hS : va_S (fun q => b0 ≤ q) s.heap H locs)
    (kk : ∀ (H1 : Heap) (locs1 : List Loc), va_P D xi_cl (xi_w b0 aS dA A') H1 → va_S (fun q => b0 ≤ q) s.heap H1 locs1 → W p l e R s m args below meth c H1 locs1 (cells + mc) (slots + ms) Q (F0 m (pc + 3) ls ((v.map (xi_v b0 aS)).toList ++ rest))) : W p l e R s m args below meth c H locs cells slots Q (F0 m pc ls st0) := by
  intro T hT X
  obtain ⟨v', st₀, t, T', L, h0, X', hL, e1, e2, ⟨hv, hP, hz, hk⟩, st⟩ := hr T hT X
  have hv' : v' = v.map (xi_v b0 aS) := Outcome.returned.inj hv
  subst hv'
  rw [h0] at hz hk
  obtain ⟨t2, a1, b1⟩ := kk T'.heap (locs ++ L) (by rw [e1]; exact hP) ⟨Nat.le_trans hS.1 (by rw [e1]; exact hz), fun q h1 h2 => by rw [e1, hk q (Nat.lt_of_lt_of_le h1 hS.1) h2]; exact hS.2.1 q h1 h2, fun q hq => by
      rcases List.mem_append.mp hq with h | h
      · exact hS.2.2 q h
      · exact hL q h⟩ T' rfl X'
  exact ⟨t2, st t2 a1, b1⟩
/-- behind a call -/
theorem xi_back {ls : Array Slot} {st0 : List Value} {a : Array Value} (hR : xi_R b0 aS dA D n0 s0 s.heap A H locs) (hl : lv_has ls nL (xi_l b0 aS lv)) (hA1 : A.length ≤ A'.length) (hA2 : xi_ns A ≤ xi_ns A')
    (hr : va_Run p l e R s m args below meth c H locs (A.length - n0) (xi_ns A - s0) (A'.length - A.length) (xi_ns A' - xi_ns A) (F0 m pc ls st0) (rest.map (xi_v b0 aS)) (xi_Qc b0 aS dA D (.returned v) A' a) (fun q => b0 ≤ q))
    (kk : xi_At (p, l, e, R, s, m, args, below, meth, c, Q, nL, b0, aS, dA, D, n0, s0) (pc + 3) lv (v.toList ++ rest) A') : W p l e R s m args below meth c H locs (A.length - n0) (xi_ns A - s0) Q (F0 m pc ls st0) := by
  have h1 := hR.2.2.1
  have h2 := hR.2.2.2.1
  refine xi_callK hr hR.2.1 (fun H1 locs1 hP1 hS1 => ?_)
  have k1 := kk H1 locs1 ls ⟨hP1, hS1, by omega, by omega, hR.2.2.2.2⟩ hl
  rw [show A.length - n0 + (A'.length - A.length) = A'.length - n0 by omega, show xi_ns A - s0 + (xi_ns A' - xi_ns A) = xi_ns A' - s0 by omega]
  have e1 : (v.map (xi_v b0 aS)).toList ++ rest.map (xi_v b0 aS) = (v.toList ++ rest).map (xi_v b0 aS) := by cases v <;> simp
  rw [e1]
  exact k1
theorem xi_room (h : (rest.map fun v => v.category).sum ≤ 8) : ((rest.map (xi_v b0 aS)).map fun v => v.category).sum ≤ 8 := by
  rw [List.map_map]
  simpa [Function.comp_def, xi_v_cat] using h
theorem xs_callV {ci : Nat} {fs : List Value} {T : u_T} {N : Nat} (X : xi_X (p, l, e, R, s, m, args, below, meth, c, Q, nL, b0, aS, dA, D, n0, s0) cc own) (hd : decode cc pc = .ok (.invokevirtual i, 3))
    (hM : xi_Met l y (.code y cy nY ret :: xi_G) { frames := fr', cells := A'.length - A.length, slots := xi_ns A' - xi_ns A, locals := lo' } (xi_Pc b0 aS dA D (.ref b :: As) A) (xi_Qc b0 aS dA D (.returned v) A') (A'.length - A.length) (xi_ns A' - xi_ns A) (fun q => b0 ≤ q))
    (h0 : 0 < A.length) (hA1 : A.length ≤ A'.length) (hA2 : xi_ns A ≤ xi_ns A') (hE1 : A'.length - n0 ≤ R.cells) (hE2 : xi_ns A' - s0 ≤ R.slots) (hfr : fr' + 1 ≤ R.frames) (hlo : 8 + (nY + 11) + lo' ≤ R.locals)
    (hw1 : Cond.methodLink own i y ∈ xi_G) (hw2 : Cond.instanceMethod y ∈ xi_G) (hw3 : Cond.selects y.cls y y ∈ xi_G) (hw4 : Cond.initialized y.cls ∈ xi_G) (hw5 : Cond.code y cy nY ret ∈ xi_G)
    (hy : y.cls ≠ "java/lang/invoke/MethodHandle" ∧ y.cls ≠ "java/lang/invoke/VarHandle") (hn : (parseMethodDescriptor y.desc).map (fun d => d.parameters.length) = some As.length)
    (hb : A[b]? = some (.inr (ci, fs))) (hc : xi_cl[ci]? = some (y.cls, T, N)) (h8 : (rest.map fun v => v.category).sum ≤ 8)
    (kk : xi_At (p, l, e, R, s, m, args, below, meth, c, Q, nL, b0, aS, dA, D, n0, s0) (pc + 3) lv (v.toList ++ rest) A') :
    xi_At (p, l, e, R, s, m, args, below, meth, c, Q, nL, b0, aS, dA, D, n0, s0) pc lv (As.reverse ++ .ref b :: rest) A := by
  obtain ⟨hx, hbb, hml, hown, hts, hK, hstr⟩ := X
  intro H locs ls hR hl T0 hT0 X0
  have hz := xi_hz h0 hR hT0 X0
  have h1 := hR.2.2.1
  have h2 := hR.2.2.2.1
  have hgood : GoodIn xi_G (wsV own i y.cls y (.code y cy nY ret :: xi_G)) := by
    intro w hw
    rcases List.mem_append.mp hw with hw | hw
    · simp only [List.mem_cons, List.not_mem_nil, or_false] at hw
      rcases hw with rfl | rfl | rfl | rfl
      · exact ⟨hw1, xi_good hw1⟩
      · exact ⟨hw2, xi_good hw2⟩
      · exact ⟨hw3, xi_good hw3⟩
      · exact ⟨hw4, xi_good hw4⟩
    · exact xi_goodIn hw5 w hw
  have hst : (As.reverse ++ Value.ref b :: rest).map (xi_v b0 aS) = (As.map (xi_v b0 aS)).reverse ++ .ref (b0 + b) :: rest.map (xi_v b0 aS) := by simp [xi_v]
  rw [hst]
  refine xi_back hR hl hA1 hA2 (va_runV (C := y.cls) (b := b0 + b) (As := As.map (xi_v b0 aS)) (rest := rest.map (xi_v b0 aS)) ⟨hx, hbb, hml, hown, hts⟩ hM.ret (cwV As.length hts hgood rfl rfl rfl ⟨rfl, hy.1, hy.2, hn⟩ ⟨hfr, hlo⟩) ⟨xi_Pc_blind, va_recv hK hR.1 hc (xi_w_get hb), xi_pre hR hz hK hstr (.ref b :: As)⟩ rfl (by simp) hl.1 rfl (lv_room (xi_room h8)) hd ⟨by show A.length - n0 + (A'.length - A.length) ≤ R.cells; omega, by show xi_ns A - s0 + (xi_ns A' - xi_ns A) ≤ R.slots; omega⟩) kk T0 hT0 X0
theorem xs_callS (X : xi_X (p, l, e, R, s, m, args, below, meth, c, Q, nL, b0, aS, dA, D, n0, s0) cc own) (hd : decode cc pc = .ok (.invokestatic i, 3))
    (hM : xi_Met l y (.code y cy nY ret :: xi_G) { frames := fr', cells := A'.length - A.length, slots := xi_ns A' - xi_ns A, locals := lo' } (xi_Pc b0 aS dA D As A) (xi_Qc b0 aS dA D (.returned v) A') (A'.length - A.length) (xi_ns A' - xi_ns A) (fun q => b0 ≤ q))
    (h0 : 0 < A.length) (hA1 : A.length ≤ A'.length) (hA2 : xi_ns A ≤ xi_ns A') (hE1 : A'.length - n0 ≤ R.cells) (hE2 : xi_ns A' - s0 ≤ R.slots) (hfr : fr' + 1 ≤ R.frames) (hlo : 8 + (nY + 11) + lo' ≤ R.locals)
    (hw1 : Cond.methodLink own i y ∈ xi_G) (hw2 : Cond.static y ∈ xi_G) (hw4 : Cond.initialized y.cls ∈ xi_G) (hw5 : Cond.code y cy nY ret ∈ xi_G)
    (hy : y.cls ≠ "java/lang/invoke/MethodHandle" ∧ y.cls ≠ "java/lang/invoke/VarHandle") (hn : (parseMethodDescriptor y.desc).map (fun d => d.parameters.length) = some As.length) (h8 : (rest.map fun v => v.category).sum ≤ 8)
    (kk : xi_At (p, l, e, R, s, m, args, below, meth, c, Q, nL, b0, aS, dA, D, n0, s0) (pc + 3) lv (v.toList ++ rest) A') :
    xi_At (p, l, e, R, s, m, args, below, meth, c, Q, nL, b0, aS, dA, D, n0, s0) pc lv (As.reverse ++ rest) A := by
  obtain ⟨hx, hbb, hml, hown, hts, hK, hstr⟩ := X
  intro H locs ls hR hl T0 hT0 X0
  have hz := xi_hz h0 hR hT0 X0
  have h1 := hR.2.2.1
  have h2 := hR.2.2.2.1
  have hst : (As.reverse ++ rest).map (xi_v b0 aS) = (As.map (xi_v b0 aS)).reverse ++ rest.map (xi_v b0 aS) := by simp
  rw [hst]
  refine xi_back hR hl hA1 hA2 (va_runS (As := As.map (xi_v b0 aS)) (rest := rest.map (xi_v b0 aS)) ⟨hx, hbb, hml, hown, hts⟩ hM.ret ⟨callB_of As.length hts (xi_goodIn hw5) rfl rfl rfl (hts _ hw4) (hts _ hw1) ⟨hy.1, hy.2, hn⟩ ⟨hfr, hlo⟩, hts _ hw2⟩ ⟨xi_Pc_blind, xi_pre hR hz hK hstr As⟩ rfl (by simp) hl.1 rfl (lv_room (xi_room h8)) hd ⟨by show A.length - n0 + (A'.length - A.length) ≤ R.cells; omega, by show xi_ns A - s0 + (xi_ns A' - xi_ns A) ≤ R.slots; omega⟩) kk T0 hT0 X0
theorem xs_callI (X : xi_X (p, l, e, R, s, m, args, below, meth, c, Q, nL, b0, aS, dA, D, n0, s0) cc own) (hd : decode cc pc = .ok (.invokespecial i, 3))
    (hM : xi_Met l y (.code y cy nY none :: xi_G) { frames := fr', cells := A'.length - A.length, slots := xi_ns A' - xi_ns A, locals := lo' } (xi_Pc b0 aS dA D (.ref b :: As) A) (xi_Qc b0 aS dA D (.returned v) A') (A'.length - A.length) (xi_ns A' - xi_ns A) (fun q => b0 ≤ q))
    (h0 : 0 < A.length) (hA1 : A.length ≤ A'.length) (hA2 : xi_ns A ≤ xi_ns A') (hE1 : A'.length - n0 ≤ R.cells) (hE2 : xi_ns A' - s0 ≤ R.slots) (hfr : fr' + 1 ≤ R.frames) (hlo : 8 + (nY + 11) + lo' ≤ R.locals)
    (hw1 : Cond.methodLink own i y ∈ xi_G ∨ ∃ host, Cond.methodLinkNest own i y host ∈ xi_nest) (hw2 : Cond.instanceMethod y ∈ xi_G) (hw4 : Cond.initialized y.cls ∈ xi_G) (hw5 : Cond.code y cy nY none ∈ xi_G) (hnm : y.name = "<init>")
    (hy : y.cls ≠ "java/lang/invoke/MethodHandle" ∧ y.cls ≠ "java/lang/invoke/VarHandle") (hn : (parseMethodDescriptor y.desc).map (fun d => d.parameters.length) = some As.length) (h8 : (rest.map fun v => v.category).sum ≤ 8)
    (kk : xi_At (p, l, e, R, s, m, args, below, meth, c, Q, nL, b0, aS, dA, D, n0, s0) (pc + 3) lv (v.toList ++ rest) A') :
    xi_At (p, l, e, R, s, m, args, below, meth, c, Q, nL, b0, aS, dA, D, n0, s0) pc lv (As.reverse ++ .ref b :: rest) A := by
  obtain ⟨hx, hbb, hml, hown, hts, hK, hstr⟩ := X
  intro H locs ls hR hl T0 hT0 X0
  have hz := xi_hz h0 hR hT0 X0
  have h1 := hR.2.2.1
  have h2 := hR.2.2.2.1
  have hst : (As.reverse ++ Value.ref b :: rest).map (xi_v b0 aS) = (As.map (xi_v b0 aS)).reverse ++ .ref (b0 + b) :: rest.map (xi_v b0 aS) := by simp [xi_v]
  rw [hst]
  rcases hw1 with hw1 | ⟨host, hw1⟩
  · exact xi_back hR hl hA1 hA2 (va_runI (b := b0 + b) (As := As.map (xi_v b0 aS)) (rest := rest.map (xi_v b0 aS)) ⟨hx, hbb, hml, hown, hts⟩ hM.ret (cwI As.length hts (xi_goodIn hw5) rfl rfl rfl (hts _ hw4) (hts _ hw1) (hts _ hw2) hnm ⟨hy.1, hy.2, hn⟩ ⟨hfr, hlo⟩) ⟨xi_Pc_blind, xi_pre hR hz hK hstr (.ref b :: As)⟩ rfl (by simp) hl.1 rfl (lv_room (xi_room h8)) hd ⟨by show A.length - n0 + (A'.length - A.length) ≤ R.cells; omega, by show xi_ns A - s0 + (xi_ns A' - xi_ns A) ≤ R.slots; omega⟩) kk T0 hT0 X0
  · exact xi_back hR hl hA1 hA2 (va_runIN (b := b0 + b) (As := As.map (xi_v b0 aS)) (rest := rest.map (xi_v b0 aS)) ⟨hx, hbb, hml, hown, hts⟩ hM.ret ⟨va_cnB As.length hts (xi_goodIn hw5) rfl rfl rfl (hstr.2.1 _ hw1) (hts _ hw4) ⟨hy.1, hy.2, hn⟩ ⟨hfr, hlo⟩, hnm, hts _ hw2⟩ ⟨xi_Pc_blind, xi_pre hR hz hK hstr (.ref b :: As)⟩ rfl (by simp) hl.1 rfl (lv_room (xi_room h8)) hd ⟨by show A.length - n0 + (A'.length - A.length) ≤ R.cells; omega, by show xi_ns A - s0 + (xi_ns A' - xi_ns A) ≤ R.slots; omega⟩) kk T0 hT0 X0
theorem xs_obj (X : xi_X (p, l, e, R, s, m, args, below, meth, c, Q, nL, b0, aS, dA, D, n0, s0) cc own) (hd : decode cc pc = .ok (.invokespecial i, 3)) (hw1 : Cond.methodLink own i Lib.objectInit ∈ xi_G) (hw2 : Cond.instanceMethod Lib.objectInit ∈ xi_G) (hw5 : Cond.code Lib.objectInit ⟨#[0xb1]⟩ 1 none ∈ xi_G)
    (hfr : 1 ≤ R.frames) (hlo : 20 ≤ R.locals) (h8 : (rest.map fun v => v.category).sum ≤ 8) (kk : xi_At (p, l, e, R, s, m, args, below, meth, c, Q, nL, b0, aS, dA, D, n0, s0) (pc + 3) lv rest A) :
    xi_At (p, l, e, R, s, m, args, below, meth, c, Q, nL, b0, aS, dA, D, n0, s0) pc lv (.ref b :: rest) A := by
  obtain ⟨hx, hbb, hml, hown, hts, hK, hstr⟩ := X
  intro H locs ls hR hl
  have h9 := xi_room (b0 := b0) (aS := aS) h8
  exact W.objInit (a := b0 + b) (rest := rest.map (xi_v b0 aS)) hx hbb hown (hts _ hw1) (hts _ hw2) (hts _ hw5) rfl (hl.1.trans hml.symm) rfl hd hfr (by show 2 * 0 + _ + 12 ≤ R.locals; omega) (kk H locs ls hR hl)
end XC

/-! A CALLEE's THROW -/
section XU
variable {p : Program} {l : Launch} {e : Env} {R : Room} {s : State} {m : MethodId} {args : Array Value} {below : List Frame} {meth : Method} {c : Code} {T : State} {locs : List Loc} {cells slots : Nat}
theorem xi_callT (X : Stand p l e R s m args below meth c T locs cells slots) (hexec : p.tables.exec = Jvm.exec) {own : String} {i : Nat} {y : MethodName} {cy : ByteArray} {nY : Nat} {ret : Option FieldType} {ws : List Cond} {rm : Room} {Pc : Array Value → State → Prop} {Qc : Array Value → State → Outcome → State → Prop} {mc ms : Nat} {free : Addr → Prop}
    (hown : s.vm.findClass own = some m.cls) (hlink : (Cond.methodLink own i y).before args s = true) (hinst : (Cond.instanceMethod y).before args s = true) (hsel : (Cond.selects y.cls y y).before args s = true) (hini : (Cond.initialized y.cls).before args s = true) (hcode : (Cond.code y cy nY ret).before args s = true) (hy : y.cls ≠ "java/lang/invoke/MethodHandle" ∧ y.cls ≠ "java/lang/invoke/VarHandle")
    (hM : xi_Met l y ws rm Pc Qc mc ms free) (hthr : ∀ a st o t, Qc a st o t → ∃ x, o = .threw x) (hblind : FrameBlind Pc) (hws : ∀ w ∈ ws, ∀ (a' : Array Value) (U : State), s.WarmedH U.vm → w.before a' U = true)
    (hframes : rm.frames + 1 ≤ R.frames) (hlocals : 8 + (nY + 11) + rm.locals ≤ R.locals) (hcells : cells + rm.cells ≤ R.cells) (hslots : slots + rm.slots ≤ R.slots)
    {b : Addr} {cellB : Cell} (hcell : T.heap[b]? = some cellB) (hobj : cellB.vm.isStatics = false) (hcls : s.vm.findClass y.cls = some cellB.cls)
    {g : JFrame} (hg : g.method = m) (hsize : g.locals.size = c.maxLocals) {argsL rest : List Value} (hlen : ∀ sig, parseMethodDescriptor y.desc = some sig → argsL.length = sig.parameters.length)
    (hstack : g.stack = argsL.reverse ++ .ref b :: rest) (hW : 2 * g.monitorRoom + (rest.map fun v => v.category).sum ≤ 8) (hdg : decode c.code g.pc = .ok (.invokevirtual i, 3))
    (hpre : ∀ vm₁, s.WarmedH vm₁ → Pc (Value.ref b :: argsL).toArray (T.setVm vm₁)) :
    ∃ (x : Addr) (st₀ t T' : State) (L : List Loc), st₀.heap = T.heap ∧ Stand p l e R s m args below meth c T' (locs ++ L) (cells + mc) (slots + ms) ∧ (∀ q ∈ L, free q.base) ∧ T'.heap = t.heap ∧ Qc (Value.ref b :: argsL).toArray st₀ (.threw x) t ∧
      ∀ target, Steps p.tables e below ((T'.setTop { g with stack := rest }).pushFrame (.throwing x)) target → Steps p.tables e below (T.setTop g) target := by
  obtain ⟨mk, methM, hnamed, hmethM, hstM, habM⟩ := Cond.instanceMethod_spec hinst
  obtain ⟨methM', cM, hmethM', hcM, -, hlM, -, -, -, hsigM⟩ := Cond.code_spec hnamed hcode
  cases hmethM.symm.trans hmethM'
  obtain ⟨c2, r2, m2, q1, q2, q3, q4, kP, hkP, hkPi⟩ := Cond.selects_spec hsel
  cases hcls.symm.trans q1
  cases (State.methodFound?_of_named hnamed hy).symm.trans q2
  cases hnamed.symm.trans q3
  have hselP : selectMethod e.platform s.vm cellB.cls mk = .method mk := by rw [Launch.admits_selectMethod X.admits]; exact q4
  obtain ⟨vm₁, X₁, hstep₁⟩ := X.invokevirtual hexec hown hlink hnamed hmethM hstM hkP hkPi hy (a := b) (cell := cellB) hcell
    (fun z h => by rw [h] at hobj; cases hobj) hselP hmethM habM hkP hkPi (g := g) hg (argsL := argsL) (rest := rest) (hlen _ hsigM) hstack hdg
  have hn₁ : (T.setVm vm₁).methodNamed? y = some mk := X₁.named hnamed
  have hW₁ : s.WarmedH vm₁ := X₁.warmed
  obtain ⟨kY, hkY, -⟩ := className_of_methodNamed hn₁
  have hini₁ : (Cond.initialized y.cls).before (Value.ref b :: argsL).toArray (T.setVm vm₁) = true := word_at hW₁ (Or.inl rfl) hini
  have hinitY : kY.init = .initialized := Cond.initialized_spec (findClass_of_methodNamed hn₁) hkY hini₁
  have h : At (T.setVm vm₁) g.method c below := by rw [hg]; exact X₁.here
  have hmM : (T.setVm vm₁).vm.method? mk = some methM := by
    show vm₁.method? mk = _
    rw [hW₁.alike.method?]; exact hmethM
  have happ : (headSpec ws rm).appliesLoose y e.platform ((T.setVm vm₁).calling { g with stack := rest } mk (Value.ref b :: argsL).toArray) = true :=
    Spec.appliesLoose_calling (g := { g with stack := rest }) h hdg hn₁ hkY hinitY
      (X₁.room_calling (g := { g with stack := rest }) (R' := rm) hsize hmM hcM hframes (by rw [hlM]; show 2 * g.monitorRoom + (rest.map fun v => v.category).sum + (nY + 11) + rm.locals ≤ R.locals; omega) hcells hslots) (atoms_intro fun w hw => hws w hw _ _ hW₁)
  obtain ⟨mid, hmid⟩ := h.above
  have hfr : ((T.setVm vm₁).setTop { g with stack := rest }).frames = (.java { g with stack := rest } :: mid) ++ below := by rw [State.frames_setTop' { g with stack := rest } h.top, hmid]; rfl
  obtain ⟨o, s₂, hsteps, -, hend, hq⟩ := Steps.callFree hM p X.admits X.cas X.clock (acts := []) hfr happ (hblind _ _ _ _ (hpre vm₁ hW₁)) trivial
  rw [State.frames_setTop' { g with stack := rest } h.top, X₁.tail] at hend
  obtain ⟨hQ, L, ⟨hWL, hsame⟩, hL⟩ := hq
  obtain ⟨x, rfl⟩ := hthr _ _ _ _ hQ
  obtain ⟨T', X', -, -, ht⟩ := X₁.outOfThrown (g := { g with stack := rest }) hg hend hWL hsame
  refine ⟨x, (T.setVm vm₁).calling { g with stack := rest } mk (Value.ref b :: argsL).toArray, s₂, T', L, rfl, X', hL, ?_, hQ, fun target hrest => hstep₁ _ fun acts => ?_⟩
  · rw [ht, Stand.throwing_heap]
  · rw [doInvoke_state]
    refine Steps.trans hsteps ?_
    rw [ht]
    exact hrest
/-- what a search through a table that begins with a row for the thrown object's class gives, the row's class resolved or not -/
theorem xi_catch (X : Stand p l e R s m args below meth c T locs cells slots) (a : Addr) {g : JFrame} (hg : g.method = m) {own name : String} (hown : s.vm.findClass own = some m.cls) {x : ExceptionTableEntry} {rest : List ExceptionTableEntry} (hsplit : c.exceptionTable.toList = x :: rest) (hx : covers x g.pc = true) (h0 : x.catchType ≠ 0)
    (hlink : (Cond.classLink own x.catchType name).before args s = true) {cT : ClassId} {cell : Cell} (hcT : s.vm.findClass name = some cT) (hcell : T.heap[a]? = some cell) (hobj : ∀ k, cell.vm ≠ .statics k) (hfit : s.vm.assignable cell.cls cT = true) (hkc : ∃ k, s.vm.classes[cell.cls]? = some k) :
    ∃ vm', Stand p l e R s m args below meth c (T.setVm vm') locs cells slots ∧
      ∀ target, Steps p.tables e below ((T.setVm vm').setTop { g with pc := x.handlerPc, stack := [.ref a] }) target → Steps p.tables e below ((T.setTop g).pushFrame (.throwing a)) target := by
  subst hg
  have hpl : e.platform.magicAccessors = ({} : Platform).magicAccessors := by rw [X.admits.platform]
  obtain ⟨c', hc', hcl⟩ := Cond.classLink_spec hown hlink e.platform hpl
  cases hcT.symm.trans hc'
  obtain ⟨dk, _, _, kt, hd, _, _, _, _, hkt, _, hopen⟩ := hcl.here
  have hal := X.warmed.alike
  obtain ⟨k1, hk1⟩ := hkc
  obtain ⟨k1', hk1', -⟩ := hal.2.2 _ _ hk1
  obtain ⟨kt', hkt', -⟩ := hal.2.2 _ _ hkt
  have hal2 : T.vm.Alike (T.vm.noted g.method.cls x.catchType (.cls cT)) := (Vm.Alike.refl T.vm).noted _ _ _
  obtain ⟨k2, hk2, -⟩ := hal2.2.2 _ _ hk1'
  obtain ⟨kt2, hkt2, -⟩ := hal2.2.2 _ _ hkt'
  have hfit2 : (T.vm.noted g.method.cls x.catchType (.cls cT)).assignable cell.cls cT = true := by rw [hal2.assignable, hal.assignable]; exact hfit
  refine ⟨T.vm.noted g.method.cls x.catchType (.cls cT), X.noted (X.warmed.noted hd hopen (State.rightAt_cls hcl)), fun target hrest => ?_⟩
  obtain ⟨ha, ht⟩ := (resolveClass_links e.toSetting (X.warmed.classLinks hcl)).op (op := VmOp.resolveClass g.method.cls x.catchType) rfl
  simp only [covers] at hx
  have hfind : ∀ (Q : Handler → Pre) (E : CtlPost) (d : Bool) (acts : List Action), wp (findHandler g a) Q E e d acts ((T.setTop g).pushFrame (.throwing a)) ↔ Q (.found x.handlerPc) d acts (((T.setTop g).pushFrame (.throwing a)).setVm (T.vm.noted g.method.cls x.catchType (.cls cT))) := by
    intro Q E d acts
    rw [W.findHandler_eq (meth := meth) (code := c) (by rw [Stand.throwing_vm]; exact X.method') X.code, hsplit]
    simp [findHandler.go, hx, h0, Stand.throwing_vm, Stand.throwing_heap, ha, ht, hcell, hobj, hk2, hkt2, hfit2, VmOp.dirties, VmOp.acts]
  obtain ⟨hgo, hw⟩ := X.here.throwing a
  refine Steps.head hgo hw ?_
  have hstep : (stepThrowing e ((T.setTop g).pushFrame (.throwing a)) a (.java g :: T.frames.tail)).1 = (((T.setTop g).pushFrame (.throwing a)).setVm (T.vm.noted g.method.cls x.catchType (.cls cT))).setFrames (.java { g with pc := x.handlerPc, stack := [.ref a] } :: T.frames.tail) := by
    simp only [stepThrowing, searchFrame, vmDo]
    generalize hr : Sem.go _ e false [] _ = res
    obtain ⟨as, rfl, -⟩ := Sem.eq_ok_of hr (a := Handler.found x.handlerPc) (s' := ((T.setTop g).pushFrame (.throwing a)).setVm (T.vm.noted g.method.cls x.catchType (.cls cT))) (acts' := []) (by simp [hfind _ _ _ _])
    rfl
  rw [stepThread_throwing (frames_entered X.here.top _), hstep]
  obtain ⟨g₀, hr⟩ := X.frames_eq
  have hr' : (T.setVm (T.vm.noted g.method.cls x.catchType (.cls cT))).frames = .java g₀ :: below := hr
  rw [State.setTop_of_frames _ hr'] at hrest
  have e1 : ∀ F G : List Frame, ((T.setFrames F).setVm (T.vm.noted g.method.cls x.catchType (.cls cT))).setFrames G = (T.setVm (T.vm.noted g.method.cls x.catchType (.cls cT))).setFrames G := fun F G => by
    have h1 : (T.setFrames F).setVm (T.vm.noted g.method.cls x.catchType (.cls cT)) = (T.setVm (T.vm.noted g.method.cls x.catchType (.cls cT))).setFrames F := rfl
    rw [h1, State.setFrames_setFrames]
  rw [State.pushFrame, State.setTop_of_frames _ hr, State.setFrames_setFrames, e1, hr]
  exact hrest
end XU
section XV
variable {p : Program} {l : Launch} {e : Env} {R : Room} {s : State} {m : MethodId} {args : Array Value} {below : List Frame} {meth : Method} {c : Code} {Q : State → Prop} {nL b0 : Nat} {aS : Nat → Nat} {dA : Nat → ClassId} {D : va_G} {n0 s0 : Nat}
variable {A A' : xi_H} {cc : ByteArray} {own : String} {pc i : Nat} {lv : xi_L} {y : MethodName} {cy : ByteArray} {nY : Nat} {ret : Option FieldType} {fr' lo' : Nat} {As rest : List Value} {b k : Nat}
/-- the state in which a callee's throw arrives -/
theorem xi_thrown {ci : Nat} {fs : List Value} {T : u_T} {N : Nat} (X : xi_X (p, l, e, R, s, m, args, below, meth, c, Q, nL, b0, aS, dA, D, n0, s0) cc own) (hd : decode cc pc = .ok (.invokevirtual i, 3))
    (hM : xi_Met l y (.code y cy nY ret :: xi_G) { frames := fr', cells := A'.length - A.length, slots := xi_ns A' - xi_ns A, locals := lo' } (xi_Pc b0 aS dA D (.ref b :: As) A) (xi_Qc b0 aS dA D (.threw k) A') (A'.length - A.length) (xi_ns A' - xi_ns A) (fun q => b0 ≤ q))
    (h0 : 0 < A.length) (hA1 : A.length ≤ A'.length) (hA2 : xi_ns A ≤ xi_ns A') (hE1 : A'.length - n0 ≤ R.cells) (hE2 : xi_ns A' - s0 ≤ R.slots) (hfr : fr' + 1 ≤ R.frames) (hlo : 8 + (nY + 11) + lo' ≤ R.locals)
    (hw1 : Cond.methodLink own i y ∈ xi_G) (hw2 : Cond.instanceMethod y ∈ xi_G) (hw3 : Cond.selects y.cls y y ∈ xi_G) (hw4 : Cond.initialized y.cls ∈ xi_G) (hw5 : Cond.code y cy nY ret ∈ xi_G)
    (hy : y.cls ≠ "java/lang/invoke/MethodHandle" ∧ y.cls ≠ "java/lang/invoke/VarHandle") (hn : (parseMethodDescriptor y.desc).map (fun d => d.parameters.length) = some As.length)
    (hb : A[b]? = some (.inr (ci, fs))) (hc : xi_cl[ci]? = some (y.cls, T, N)) (h8 : (rest.map fun v => v.category).sum ≤ 8)
    {H : Heap} {locs : List Loc} {ls : Array Slot} (hR : xi_R b0 aS dA D n0 s0 s.heap A H locs) (hl : lv_has ls nL (xi_l b0 aS lv)) {T0 : State} (hT0 : T0.heap = H) (X0 : Stand p l e R s m args below meth c T0 locs (A.length - n0) (xi_ns A - s0)) :
    ∃ (T' : State) (L : List Loc), Stand p l e R s m args below meth c T' (locs ++ L) (A'.length - n0) (xi_ns A' - s0) ∧ xi_R b0 aS dA D n0 s0 s.heap A' T'.heap (locs ++ L) ∧
      ∀ target, Steps p.tables e below ((T'.setTop (F0 m pc ls (rest.map (xi_v b0 aS)))).pushFrame (.throwing (b0 + k))) target → Steps p.tables e below (T0.setTop (F0 m pc ls ((As.reverse ++ Value.ref b :: rest).map (xi_v b0 aS)))) target := by
  obtain ⟨hx, hbb, hml, hown, hts, hK, hstr⟩ := X
  have hz := xi_hz h0 hR hT0 X0
  have h1 := hR.2.2.1
  have h2 := hR.2.2.2.1
  have hst : (As.reverse ++ Value.ref b :: rest).map (xi_v b0 aS) = (As.map (xi_v b0 aS)).reverse ++ .ref (b0 + b) :: rest.map (xi_v b0 aS) := by simp [xi_v]
  rw [hst]
  obtain ⟨cellB, g1, g2, g3⟩ := va_recv hK hR.1 hc (xi_w_get hb)
  obtain ⟨x, st₀, t, T', L, e0, X', hL, e1, ⟨hv, hP, hzz, hk⟩, st⟩ := xi_callT X0 hx hown (hts _ hw1) (hts _ hw2) (hts _ hw3) (hts _ hw4) (hts _ hw5) hy hM (fun a st o t h => ⟨b0 + k, h.1⟩) xi_Pc_blind (pay_in hts (xi_goodIn hw5)) hfr hlo (by show A.length - n0 + (A'.length - A.length) ≤ R.cells; omega) (by show xi_ns A - s0 + (xi_ns A' - xi_ns A) ≤ R.slots; omega)
    (by rw [hT0]; exact g1) g2 g3 (g := F0 m pc ls ((As.map (xi_v b0 aS)).reverse ++ .ref (b0 + b) :: rest.map (xi_v b0 aS))) rfl (hl.1.trans hml.symm) (argsL := As.map (xi_v b0 aS)) (rest := rest.map (xi_v b0 aS))
    (fun sig h => by rw [h] at hn; rw [List.length_map]; exact (Option.some.inj hn).symm) rfl (lv_room (xi_room h8)) (by rw [hbb]; exact hd) (fun vm₁ hW₁ => xi_pre hR hz hK hstr (.ref b :: As) (T0.setVm vm₁) hT0 hW₁)
  have hxk : x = b0 + k := Outcome.threw.inj hv
  subst hxk
  rw [e0, hT0] at hzz hk
  refine ⟨T', L, ?_, ⟨by rw [e1]; exact hP, ⟨Nat.le_trans hR.2.1.1 (by rw [e1]; exact hzz), fun q q1 q2 => by rw [e1, hk q (Nat.lt_of_lt_of_le q1 hR.2.1.1) q2]; exact hR.2.1.2.1 q q1 q2, fun q hq => ?_⟩, by omega, by omega, hR.2.2.2.2⟩, st⟩
  · rw [show A'.length - n0 = A.length - n0 + (A'.length - A.length) by omega, show xi_ns A' - s0 = xi_ns A - s0 + (xi_ns A' - xi_ns A) by omega]
    exact X'
  · rcases List.mem_append.mp hq with h | h
    · exact hR.2.1.2.2 q h
    · exact hL q h
end XV

/-! A THROW THAT A HANDLER BEHIND THE FIRST CATCHES -/
section XD
variable {p : Program} {l : Launch} {e : Env} {R : Room} {s : State} {m : MethodId} {args : Array Value} {below : List Frame} {meth : Method} {c : Code} {locs : List Loc} {cells slots : Nat}
theorem xi_finds {a : Addr} {g : JFrame} (hg : g.method = m) {own : String} (hown : s.vm.findClass own = some m.cls) {cell : Cell} (hobj : ∀ k, cell.vm ≠ .statics k) (hkc : ∃ k, s.vm.classes[cell.cls]? = some k) {x : ExceptionTableEntry} {rest : List ExceptionTableEntry} (hx : covers x g.pc = true) (h0 : x.catchType ≠ 0) {name : String} {cT : ClassId} (hlink : (Cond.classLink own x.catchType name).before args s = true) (hcT : s.vm.findClass name = some cT) (hfit : s.vm.assignable cell.cls cT = true) :
    ∀ (pre : List ExceptionTableEntry) (T : State), Stand p l e R s m args below meth c T locs cells slots → T.heap[a]? = some cell → (∀ q ∈ pre, covers q g.pc = true ∧ q.catchType ≠ 0 ∧ ∃ (nq : String) (cq : ClassId), (Cond.classLink own q.catchType nq).before args s = true ∧ s.vm.findClass nq = some cq ∧ s.vm.assignable cell.cls cq = false) →
      ∃ vm', Stand p l e R s m args below meth c (T.setVm vm') locs cells slots ∧ ∀ (Q : Handler → Pre) (E : CtlPost) (d : Bool) (acts : List Action), wp (findHandler.go g a (pre ++ x :: rest)) Q E e d acts ((T.setTop g).pushFrame (.throwing a)) ↔ Q (.found x.handlerPc) d acts (((T.setTop g).pushFrame (.throwing a)).setVm vm') := by
  subst hg
  intro pre
  induction pre with
  | nil =>
    intro T X hcell _
    have hpl : e.platform.magicAccessors = ({} : Platform).magicAccessors := by rw [X.admits.platform]
    obtain ⟨c', hc', hcl⟩ := Cond.classLink_spec hown hlink e.platform hpl
    cases hcT.symm.trans hc'
    obtain ⟨dk, _, _, kt, hd, _, _, _, _, hkt, _, hopen⟩ := hcl.here
    have hal := X.warmed.alike
    obtain ⟨k1, hk1⟩ := hkc
    obtain ⟨k1', hk1', -⟩ := hal.2.2 _ _ hk1
    obtain ⟨kt', hkt', -⟩ := hal.2.2 _ _ hkt
    have hal2 : T.vm.Alike (T.vm.noted g.method.cls x.catchType (.cls cT)) := (Vm.Alike.refl T.vm).noted _ _ _
    obtain ⟨k2, hk2, -⟩ := hal2.2.2 _ _ hk1'
    obtain ⟨kt2, hkt2, -⟩ := hal2.2.2 _ _ hkt'
    have hfit2 : (T.vm.noted g.method.cls x.catchType (.cls cT)).assignable cell.cls cT = true := by rw [hal2.assignable, hal.assignable]; exact hfit
    refine ⟨T.vm.noted g.method.cls x.catchType (.cls cT), X.noted (X.warmed.noted hd hopen (State.rightAt_cls hcl)), fun Q E d acts => ?_⟩
    obtain ⟨ha, ht⟩ := (resolveClass_links e.toSetting (X.warmed.classLinks hcl)).op (op := VmOp.resolveClass g.method.cls x.catchType) rfl
    simp only [covers] at hx
    simp [findHandler.go, hx, h0, Stand.throwing_vm, Stand.throwing_heap, ha, ht, hcell, hobj, hk2, hkt2, hfit2, VmOp.dirties, VmOp.acts]
  | cons q pre ih =>
    intro T X hcell hpre
    obtain ⟨hx1, h01, nq, cq, hlink1, hcT1, hfit1⟩ := hpre q List.mem_cons_self
    have hpl : e.platform.magicAccessors = ({} : Platform).magicAccessors := by rw [X.admits.platform]
    obtain ⟨c', hc', hcl⟩ := Cond.classLink_spec hown hlink1 e.platform hpl
    cases hcT1.symm.trans hc'
    obtain ⟨dk, _, _, kt, hd, _, _, _, _, hkt, _, hopen⟩ := hcl.here
    have hal := X.warmed.alike
    obtain ⟨k1, hk1⟩ := hkc
    obtain ⟨k1', hk1', -⟩ := hal.2.2 _ _ hk1
    obtain ⟨kt', hkt', -⟩ := hal.2.2 _ _ hkt
    have hal2 : T.vm.Alike (T.vm.noted g.method.cls q.catchType (.cls cq)) := (Vm.Alike.refl T.vm).noted _ _ _
    obtain ⟨k2, hk2, -⟩ := hal2.2.2 _ _ hk1'
    obtain ⟨kt2, hkt2, -⟩ := hal2.2.2 _ _ hkt'
    have hfit2 : (T.vm.noted g.method.cls q.catchType (.cls cq)).assignable cell.cls cq = false := by rw [hal2.assignable, hal.assignable]; exact hfit1
    have X1 := X.noted (X.warmed.noted hd hopen (State.rightAt_cls hcl))
    obtain ⟨vm', X2, hgo⟩ := ih (T.setVm (T.vm.noted g.method.cls q.catchType (.cls cq))) X1 hcell (fun q' hq' => hpre q' (List.mem_cons_of_mem _ hq'))
    refine ⟨vm', X2, fun Q E d acts => ?_⟩
    obtain ⟨ha, ht⟩ := (resolveClass_links e.toSetting (X.warmed.classLinks hcl)).op (op := VmOp.resolveClass g.method.cls q.catchType) rfl
    simp only [covers] at hx1
    refine Iff.trans ?_ (hgo Q E d acts)
    show wp (findHandler.go g a (q :: (pre ++ x :: rest))) Q E e d acts _ ↔ _
    simp [findHandler.go, hx1, h01, Stand.throwing_vm, Stand.throwing_heap, ha, ht, hcell, hobj, hk2, hkt2, hfit2, VmOp.dirties, VmOp.acts]
    rfl
theorem xi_catchN {T : State} (X : Stand p l e R s m args below meth c T locs cells slots) (a : Addr) {g : JFrame} (hg : g.method = m) {own : String} (hown : s.vm.findClass own = some m.cls) {cell : Cell} (hcell : T.heap[a]? = some cell) (hobj : ∀ k, cell.vm ≠ .statics k) (hkc : ∃ k, s.vm.classes[cell.cls]? = some k) {pre : List ExceptionTableEntry} {x : ExceptionTableEntry} {rest : List ExceptionTableEntry} (hsplit : c.exceptionTable.toList = pre ++ x :: rest)
    (hpre : ∀ q ∈ pre, covers q g.pc = true ∧ q.catchType ≠ 0 ∧ ∃ (nq : String) (cq : ClassId), (Cond.classLink own q.catchType nq).before args s = true ∧ s.vm.findClass nq = some cq ∧ s.vm.assignable cell.cls cq = false) (hx : covers x g.pc = true) (h0 : x.catchType ≠ 0) {name : String} {cT : ClassId} (hlink : (Cond.classLink own x.catchType name).before args s = true) (hcT : s.vm.findClass name = some cT) (hfit : s.vm.assignable cell.cls cT = true) :
    ∃ vm', Stand p l e R s m args below meth c (T.setVm vm') locs cells slots ∧
      ∀ target, Steps p.tables e below ((T.setVm vm').setTop { g with pc := x.handlerPc, stack := [.ref a] }) target → Steps p.tables e below ((T.setTop g).pushFrame (.throwing a)) target := by
  obtain ⟨vm', X2, hgo0⟩ := xi_finds (rest := rest) hg hown hobj hkc hx h0 hlink hcT hfit pre T X hcell hpre
  subst hg
  refine ⟨vm', X2, fun target hrest => ?_⟩
  have hfind : ∀ (Q : Handler → Pre) (E : CtlPost) (d : Bool) (acts : List Action), wp (findHandler g a) Q E e d acts ((T.setTop g).pushFrame (.throwing a)) ↔ Q (.found x.handlerPc) d acts (((T.setTop g).pushFrame (.throwing a)).setVm vm') := by
    intro Q E d acts
    rw [W.findHandler_eq (meth := meth) (code := c) (by rw [Stand.throwing_vm]; exact X.method') X.code, hsplit]
    exact hgo0 Q E d acts
  obtain ⟨hgo, hw⟩ := X.here.throwing a
  refine Steps.head hgo hw ?_
  have hstep : (stepThrowing e ((T.setTop g).pushFrame (.throwing a)) a (.java g :: T.frames.tail)).1 = (((T.setTop g).pushFrame (.throwing a)).setVm vm').setFrames (.java { g with pc := x.handlerPc, stack := [.ref a] } :: T.frames.tail) := by
    simp only [stepThrowing, searchFrame, vmDo]
    generalize hr : Sem.go _ e false [] _ = res
    obtain ⟨as, rfl, -⟩ := Sem.eq_ok_of hr (a := Handler.found x.handlerPc) (s' := ((T.setTop g).pushFrame (.throwing a)).setVm vm') (acts' := []) (by simp [hfind _ _ _ _])
    rfl
  rw [stepThread_throwing (frames_entered X.here.top _), hstep]
  obtain ⟨g₀, hr⟩ := X.frames_eq
  have hr' : (T.setVm vm').frames = .java g₀ :: below := hr
  rw [State.setTop_of_frames _ hr'] at hrest
  have e1 : ∀ F G : List Frame, ((T.setFrames F).setVm vm').setFrames G = (T.setVm vm').setFrames G := fun F G => by
    have h1 : (T.setFrames F).setVm vm' = (T.setVm vm').setFrames F := rfl
    rw [h1, State.setFrames_setFrames]
  rw [State.pushFrame, State.setTop_of_frames _ hr, State.setFrames_setFrames, e1, hr]
  exact hrest
/-- the same, said of a table of handlers -/
theorem xi_catchL {T : State} (X : Stand p l e R s m args below meth c T locs cells slots) (a : Addr) {g : JFrame} (hg : g.method = m) {own : String} (hown : s.vm.findClass own = some m.cls) {cell : Cell} (hcell : T.heap[a]? = some cell) (hobj : ∀ k, cell.vm ≠ .statics k) (hkc : ∃ k, s.vm.classes[cell.cls]? = some k) {l1 l2 : List (Nat × Nat × Nat × Nat × Nat)} {q : Nat × Nat × Nat × Nat × Nat}
    (hhd : c.exceptionTable.toList.map (fun h => (h.startPc, h.endPc, h.handlerPc, h.catchType)) = (l1 ++ q :: l2).map (fun h => (h.1, h.2.1, h.2.2.1, h.2.2.2.1)))
    (hl1 : ∀ h ∈ l1, (h.1 ≤ g.pc ∧ g.pc < h.2.1) ∧ h.2.2.2.1 ≠ 0 ∧ ∃ (nq : String) (cq : ClassId), (Cond.classLink own h.2.2.2.1 nq).before args s = true ∧ s.vm.findClass nq = some cq ∧ s.vm.assignable cell.cls cq = false)
    (hq : (q.1 ≤ g.pc ∧ g.pc < q.2.1) ∧ q.2.2.2.1 ≠ 0) {name : String} {cT : ClassId} (hlink : (Cond.classLink own q.2.2.2.1 name).before args s = true) (hcT : s.vm.findClass name = some cT) (hfit : s.vm.assignable cell.cls cT = true) :
    ∃ vm', Stand p l e R s m args below meth c (T.setVm vm') locs cells slots ∧
      ∀ target, Steps p.tables e below ((T.setVm vm').setTop { g with pc := q.2.2.1, stack := [.ref a] }) target → Steps p.tables e below ((T.setTop g).pushFrame (.throwing a)) target := by
  rw [List.map_append, List.map_cons] at hhd
  obtain ⟨pre, tl, hs1, hp1, ht1⟩ := List.map_eq_append_iff.mp hhd
  obtain ⟨x, rest, hs2, hx1, -⟩ := List.map_eq_cons_iff.mp ht1
  simp only [Prod.mk.injEq] at hx1
  obtain ⟨e1, e2, e3, e4⟩ := hx1
  have hsplit : c.exceptionTable.toList = pre ++ x :: rest := by rw [hs1, hs2]
  have hpre : ∀ y ∈ pre, covers y g.pc = true ∧ y.catchType ≠ 0 ∧ ∃ (nq : String) (cq : ClassId), (Cond.classLink own y.catchType nq).before args s = true ∧ s.vm.findClass nq = some cq ∧ s.vm.assignable cell.cls cq = false := by
    intro y hy
    have h1 : (y.startPc, y.endPc, y.handlerPc, y.catchType) ∈ l1.map (fun h => (h.1, h.2.1, h.2.2.1, h.2.2.2.1)) := by
      rw [← hp1]
      exact List.mem_map.mpr ⟨y, hy, rfl⟩
    obtain ⟨h, hh, he⟩ := List.mem_map.mp h1
    simp only [Prod.mk.injEq] at he
    obtain ⟨f1, f2, f3, f4⟩ := he
    obtain ⟨g1, g2, g3⟩ := hl1 h hh
    rw [f4] at g2 g3
    refine ⟨?_, g2, g3⟩
    simp only [covers, Bool.and_eq_true, decide_eq_true_eq]
    rw [← f1, ← f2]
    exact g1
  rw [← e3]
  rw [← e4] at hlink
  refine xi_catchN X a hg hown hcell hobj hkc hsplit hpre ?_ (by rw [e4]; exact hq.2) hlink hcT hfit
  simp only [covers, Bool.and_eq_true, decide_eq_true_eq]
  rw [e1, e2]
  exact hq.1
end XD

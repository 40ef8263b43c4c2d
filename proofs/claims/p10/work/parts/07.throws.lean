/-! THROWS: 'new X(text)' thrown; a callee's throw that leaves, or is caught -/
section XT
variable {p : Program} {l : Launch} {e : Env} {R : Room} {s : State} {m : MethodId} {args : Array Value} {below : List Frame} {meth : Method} {c : Code} {T : State} {locs : List Loc} {cells slots : Nat}
theorem xi_hears {u U : State} (h : u.vm.Alike U.vm) (hh : u.hears m below = true) : U.hears m below = true := by
  have hc : ∀ x, U.code? x = u.code? x := fun x => by rw [State.code?_eq, State.code?_eq, h.method?]
  cases below with
  | nil => simpa only [State.hears, h.method?] using hh
  | cons f r => cases f <;> simpa only [State.hears, hc, h.method?] using hh
/-- the walk seen as one that begins here -/
theorem xi_rebase (X : Stand p l e R s m args below meth c T locs cells slots) {R' : Room} (hf : R'.frames ≤ R.frames) (hl : R'.locals ≤ R.locals) (hc : cells + R'.cells ≤ R.cells) (hs : slots + R'.slots ≤ R.slots) :
    Stand p l e R' (T.setFrames (.invoking m args :: below)) m args below meth c T [] 0 0 := by
  obtain ⟨g₀, hfr⟩ := X.frames_eq
  have hcur : T.cur < T.threads.size := State.cur_lt_of_frames hfr
  have hF : (T.setFrames (.invoking m args :: below)).frames = .invoking m args :: below := State.frames_setFrames _ hcur
  have h1 := X.room
  have hus := X.used
  have hhs := X.heapSize
  simp only [State.hasRoom, Bool.and_eq_true, decide_eq_true_eq] at h1
  rw [State.localsInUse_invoking X.frames X.method X.code, X.frames] at h1
  have hbook := X.book
  obtain ⟨th, hth, -⟩ := State.frames_cons hfr
  refine ⟨X.admits, X.cas, X.clock, hF, ?_, xi_hears X.warmed.alike X.hears, X.method', X.code, X.here, X.tail, State.WarmedH.refl T, by rw [State.stackLimits_setFrames], by rw [State.stackBytes_setFrames], ?_⟩
  · have e1 : (T.setFrames (.invoking m args :: below)).localsInUse = stackWeight below + vmFrameWords + (c.maxLocals + 11) := State.localsInUse_invoking hF X.method' X.code
    simp only [State.hasRoom, Bool.and_eq_true, decide_eq_true_eq]
    rw [e1, hF, State.stackLimits_setFrames, State.stackBytes_setFrames, X.limits, X.bytes]
    refine ⟨⟨⟨⟨by omega, by omega, by omega, by omega, by omega, h1.1.1.1.2.2.2.2.2⟩, ?_⟩, ?_⟩, hbook⟩
    · show T.heap.size + R'.cells ≤ _
      omega
    · show T.slotsUsed + R'.slots ≤ _
      omega
  · obtain ⟨th2, hth2, -⟩ := State.frames_cons hF
    have h2 := (State.sameButNew.refl (T.setFrames (.invoking m args :: below)) hth2).setFrames T.frames (State.cur_lt_of_frames hF)
    rw [State.setFrames_setFrames, State.setFrames_self hth] at h2
    exact h2
theorem xi_same_unframe {V : State} {L : List Loc} {k n : Nat} {F : List Frame} (h : (T.setFrames F).sameButNew V L k n) : T.sameButNew V L k n := by
  obtain ⟨h1, h2⟩ := h
  rw [State.setFrames_setFrames] at h1
  exact ⟨h1, h2⟩
theorem xi_same_cells {V : State} {k n : Nat} {F : List Frame} (h : (T.setFrames F).sameButNew V [] k n) : ∀ q : Nat, q < T.heap.size → V.heap[q]? = T.heap[q]? := by
  intro q hq
  obtain ⟨cl, hcl⟩ : ∃ cl, T.heap[q]? = some cl := ⟨_, Array.getElem?_eq_getElem hq⟩
  obtain ⟨c', h1, h2, h3, h4⟩ := h.2.2.2.2.2 q cl hcl
  rw [h1, hcl]
  have e1 : c'.slots = cl.slots := Array.ext_getElem? (fun i => h4 i (by simp))
  rw [h2, e1]
end XT
def xi_isr0 : Cond := .isRef (.static "java/lang/Throwable" "UNASSIGNED_STACK" "[Ljava/lang/StackTraceElement;")
def xi_isr1 : Cond := .isRef (.static "java/lang/Throwable" "SUPPRESSED_SENTINEL" "Ljava/util/List;")
def xi_ls0 : Cond := .laysStatic "java/lang/Throwable" "UNASSIGNED_STACK" "[Ljava/lang/StackTraceElement;"
def xi_ls1 : Cond := .laysStatic "java/lang/Throwable" "SUPPRESSED_SENTINEL" "Ljava/util/List;"
def xi_atom (a : Cond) : Bool := ((decide (a ∈ lw_tbl) && goodWord a) || decide (a ∈ xi_nest)) || ((decide (a = xi_isr0) || decide (a = xi_isr1)) || (decide (a = xi_ls0) || decide (a = xi_ls1)))
theorem xi_isRef_of {b0 : Nat} {C n d : String} {args : Array Value} {U : State} (h : va_Zq C n d (fun x => b0 ≤ x) U U.heap) : (Cond.isRef (.static C n d)).before args U = true := by
  rcases h with h | ⟨t, h⟩
  · obtain ⟨cf, kf, fi, f, a, cell, h1, h2, h3, h4, h5, h6, h7, -⟩ := h
    simp [Cond.before, Cond.holds, Cond.value, Term.eval, State.fieldNamed?, h1, h2, h4, h5, h6, h7]
  · obtain ⟨cf, kf, fi, f, a, cell, h1, h2, h3, h4, h5, h6, h7, -⟩ := h
    simp [Cond.before, Cond.holds, Cond.value, Term.eval, State.fieldNamed?, h1, h2, h4, h5, h6, h7]
theorem xi_nest_tab {w : Cond} (h : w ∈ xi_nest) : w.onTables = true := by
  simp only [xi_nest, List.mem_cons, List.not_mem_nil, or_false] at h
  rcases h with rfl | rfl | rfl | rfl | rfl | rfl | rfl | rfl | rfl | rfl | rfl | rfl | rfl | rfl | rfl | rfl <;> rfl
theorem xi_atom_at {b0 : Nat} {aS : Nat → Nat} {args : Array Value} {U : State} {a : Cond} (h : xi_atom a = true) (hts : ∀ w ∈ xi_G, w.before args U = true) (hst : xi_St b0 aS U) : a.before args U = true := by
  simp only [xi_atom, Bool.or_eq_true, Bool.and_eq_true, decide_eq_true_eq] at h
  rcases h with (⟨h1, h2⟩ | h) | (h | h) | h | h
  · exact hts a (List.mem_filter.mpr ⟨h1, h2⟩)
  · exact va_Nw.use (xi_nest_tab h) (hst.2.1 a h)
  · rw [h]
    exact xi_isRef_of (hst.2.2.2.1 ("java/lang/Throwable", "UNASSIGNED_STACK", "[Ljava/lang/StackTraceElement;") (by simp [xi_stq])).1
  · rw [h]
    exact xi_isRef_of (hst.2.2.2.1 ("java/lang/Throwable", "SUPPRESSED_SENTINEL", "Ljava/util/List;") (by simp [xi_stq])).1
  · rw [h]
    exact (hst.2.2.2.1 ("java/lang/Throwable", "UNASSIGNED_STACK", "[Ljava/lang/StackTraceElement;") (by simp [xi_stq])).2
  · rw [h]
    exact (hst.2.2.2.1 ("java/lang/Throwable", "SUPPRESSED_SENTINEL", "Ljava/util/List;") (by simp [xi_stq])).2
/-! java.util.NoSuchElementException: its own constructor passes the text on by the pool's entry 13 (the library's law for such throws asks entry 7) -/
def xi_NE : String := "java/util/NoSuchElementException"
def xi_nb : ByteArray := ⟨#[0x2a, 0x2b, 0xb7, 0x00, 0x0d, 0xb1]⟩
def xi_nl : List Cond := Bundle.passSAtoms xi_NE "java/lang/RuntimeException" 13 xi_nb ++ Bundle.chainSAtoms "java/lang/RuntimeException" ["java/lang/Exception"]
def xi_nx : List Cond := [.methodLink "CheapPlanner" 175 (Bundle.initS xi_NE), .instantiable xi_NE 6, .selects xi_NE Bundle.tFill0 Bundle.tFill0, .selects xi_NE Bundle.tFill Bundle.tFill, .lays xi_NE Bundle.tN "cause" "Ljava/lang/Throwable;", .lays xi_NE Bundle.tN "stackTrace" Bundle.steD, .lays xi_NE Bundle.tN "suppressedExceptions" Bundle.listD, .lays xi_NE Bundle.tN "detailMessage" "Ljava/lang/String;", .fieldLink Bundle.tN 198 Bundle.tN "backtrace" "Ljava/lang/Object;", .lays Bundle.tN Bundle.tN "backtrace" "Ljava/lang/Object;", .lays xi_NE Bundle.tN "backtrace" "Ljava/lang/Object;", xi_isr0, xi_isr1]
theorem xi_nx_ok : (xi_nx ++ xi_nl ++ Bundle.throwableAtoms ++ Bundle.throwableSAtoms).all xi_atom = true := by decide +kernel
section XNE
variable {p : Program} {l : Launch} {e : Env} {R : Room} {s : State} {m : MethodId} {args : Array Value} {below : List Frame} {meth : Method} {c : Code} {V : State} {cells slots : Nat}
set_option maxHeartbeats 1000000 in
theorem xi_nse (X : Stand p l e R s m args below meth c V [] cells slots) (hexec : p.tables.exec = Jvm.exec) (htr : e.platform.stackTraces = false) (hown : s.vm.findClass "CheapPlanner" = some m.cls) (ha : ∀ a, xi_atom a = true → a.before args s = true)
    {a : Addr} {cX : ClassId} {kX : Class} (hcX : s.vm.findClass xi_NE = some cX) (hkX : s.vm.classes[cX]? = some kX) (hcell : V.heap[a]? = some (freshCell cX kX)) (hnew : s.heap.size ≤ a) {msg : Value} (hmsg : msg.isRef = true)
    {g : JFrame} (hg : g.method = m) (hsize : g.locals.size = c.maxLocals) (hlocked : g.locked = none) (hentered : g.entered = []) {rest : List Value} (hstack : g.stack = msg :: .ref a :: .ref a :: rest)
    (hd6 : decode c.code g.pc = .ok (.invokespecial 175, 3)) (hd9 : decode c.code (g.pc + 3) = .ok (.athrow, 1)) (hout : ∀ x ∈ c.exceptionTable.toList, covers x (g.pc + 3) = false)
    (hRframes : 5 < R.frames) (hRlocals : 2 * g.monitorRoom + ((Value.ref a :: rest).map fun v => v.category).sum + 81 ≤ R.locals) (hlocks : meth.locks = false) :
    ∃ U : State, Steps p.tables e below (V.setTop g) U ∧ U.status = .running ∧ Ended U below (.threw a) ∧ s.WarmedH U.vm ∧ s.sameButNew ({ U with vm := s.vm } : State) [] cells slots ∧ ∃ ce, U.heap[a]? = some ce ∧ s.vm.findClass xi_NE = some ce.cls ∧ ce.vm = .none := by
  have pf := X.admits.platform
  have hpl : e.platform.magicAccessors = ({} : Platform).magicAccessors := by rw [pf]
  have all := List.all_eq_true.mp xi_nx_ok
  have aX : ∀ x ∈ xi_nx, x.before args s = true := fun x hx => ha x (all x (by simp [hx]))
  have aL : ∀ x ∈ xi_nl, x.before args s = true := fun x hx => ha x (all x (by simp [hx]))
  obtain ⟨T, Z0, L, -, Y⟩ := ThrowableC.of_atoms (args := args) (by rw [pf]) (by rw [pf]) hpl (fun x hx => ha x (all x (by simp [hx])))
  obtain ⟨Z, M, LZ, LM, hZ⟩ := Init0T.ofS_atoms (args := args) hpl L Y (fun x hx => ha x (all x (by simp [hx])))
  obtain ⟨P, LP, hPm, hPs⟩ := PassC.ofS_atoms (args := args) (s := s) hpl (X := xi_NE) (Y := "java/lang/RuntimeException") (index := 13) (bytes := xi_nb) (by decide) (by decide) (by decide +kernel) (by decide +kernel) (by decide +kernel) (by decide +kernel) (fun x hx => aL x (List.mem_append.mpr (Or.inl hx)))
  obtain ⟨P1, Ps, hlen, L1, hL, hP1m, hk1, hk2⟩ := Bundle.chainS (args := args) hpl hZ ["java/lang/Exception"] "java/lang/RuntimeException" (by decide) (by decide) (fun x hx => aL x (List.mem_append.mpr (Or.inr hx)))
  have hcl : s.vm.findClass xi_NE = some P.m.cls := findClass_of_methodNamed hPm
  cases hcX.symm.trans hcl
  obtain ⟨c1, k1, q1, hk, hord, -⟩ := Cond.instantiable_spec (aX (.instantiable xi_NE 6) (by simp [xi_nx]))
  cases q1.symm.trans hcl
  cases hkX.symm.trans hk
  have sel : ∀ (f : MethodName) (mf : MethodId), (Cond.selects xi_NE f f).before args s = true → s.methodNamed? f = some mf → (f.cls ≠ "java/lang/invoke/MethodHandle" ∧ f.cls ≠ "java/lang/invoke/VarHandle") → selectMethod e.platform s.vm P.m.cls mf = .method mf := by
    intro f mf h1 h2 h3
    obtain ⟨c2, r2, m2, g1, g2, g3, g4, -⟩ := Cond.selects_spec h1
    cases g1.symm.trans hcl
    cases g2.symm.trans (State.methodFound?_of_named h2 h3)
    cases g3.symm.trans h2
    rw [Launch.admits_selectMethod X.admits]
    exact g4
  obtain ⟨cS, hcS, hiS⟩ := Y.statics
  obtain ⟨u0, hu0⟩ := Cond.staticRefV Y.unassigned L.unassignedStatic L.statics hcS hiS (aX xi_isr0 (by simp [xi_nx]))
  obtain ⟨sen, hsen⟩ := Cond.staticRefV Y.sentinel L.sentinelStatic L.statics hcS hiS (aX xi_isr1 (by simp [xi_nx]))
  obtain ⟨cB, iB, fB, b1, b2, b3, b4, -, b5, b6, b7⟩ := Cond.ownField (t := .object "java/lang/Object") Y.found L.cls (by decide +kernel) (aX (.fieldLink Bundle.tN 198 Bundle.tN "backtrace" "Ljava/lang/Object;") (by simp [xi_nx])) (aX (.lays Bundle.tN Bundle.tN "backtrace" "Ljava/lang/Object;") (by simp [xi_nx])) e.platform hpl
  obtain ⟨cS', hcS', heS, -, hsame⟩ := X.same.2.2.2.2.2 T.aS cS hcS
  have hVS : V.heap[T.aS]? = some cS' := hcS'
  have hkn : cS'.vm ≠ .unknown := by
    rw [heS]
    intro h9
    have h8 : cS.vm = .unknown := h9
    rw [h8] at hiS
    cases hiS
  have hne : T.aS ≠ a := Nat.ne_of_lt (Nat.lt_of_lt_of_le (Array.getElem?_eq_some_iff.mp hcS).1 hnew)
  obtain ⟨iM, hfM⟩ := Y.msg
  obtain ⟨t1, d1, e1, f1⟩ := Cond.laysAt hcl hk Y.cause (aX (.lays xi_NE Bundle.tN "cause" "Ljava/lang/Throwable;") (by simp [xi_nx]))
  obtain ⟨t2, d2, e2, f2⟩ := Cond.laysAt hcl hk Y.stack (aX (.lays xi_NE Bundle.tN "stackTrace" Bundle.steD) (by simp [xi_nx]))
  obtain ⟨t3, d3, e3, f3⟩ := Cond.laysAt hcl hk Y.supp (aX (.lays xi_NE Bundle.tN "suppressedExceptions" Bundle.listD) (by simp [xi_nx]))
  obtain ⟨t4, d4, e4, f4⟩ := Cond.laysAt hcl hk hfM (aX (.lays xi_NE Bundle.tN "detailMessage" "Ljava/lang/String;") (by simp [xi_nx]))
  obtain ⟨t5, d5, e5, f5⟩ := Cond.laysAt hcl hk b7 (aX (.lays xi_NE Bundle.tN "backtrace" "Ljava/lang/Object;") (by simp [xi_nx]))
  have n1 := Cond.laysApart e5 e1 f5 f1 (by rw [b5, Y.causeName]; decide)
  have n2 := Cond.laysApart e5 e2 f5 f2 (by rw [b5, Y.stackName]; decide)
  have n3 := Cond.laysApart e5 e3 f5 f3 (by rw [b5, Y.suppName]; decide)
  have hskip : SkipFacts T e.platform s (fun u => u) u0 ((preparedCellV T.toThrowableT (freshCell P.m.cls kX) a u0 sen).withEntry V.cur) := by
    refine ⟨{ ci198 := cB, i198 := iB, fBack := fB }, ⟨b1, b2, b3, b4⟩, ?_, fun _ _ => rfl⟩
    have h9 := fresh_default (c := P.m.cls) t5
    rw [b6] at h9
    simpa [preparedCellV, Cell.setSlot, Cell.withEntry, Array.getElem?_setIfInBounds, n1, n2, n3, n1.symm, n2.symm, n3.symm, defaultValue] using h9
  obtain ⟨tm, mC, cC, kC, vm₁, hnC, -, -, -, -, -, -, -, hW₁, st1⟩ := Steps.initColdS (tb := p.tables) (e := e) (below := below) (s := s) (U := V) X.here hexec X.warmed hpl hown (t := Bundle.initS xi_NE) rfl rfl (by decide)
    (aX (.methodLink "CheapPlanner" 175 (Bundle.initS xi_NE)) (by simp [xi_nx])) (aL (.instanceMethod (Bundle.initS xi_NE)) (by simp [xi_nl, Bundle.passSAtoms])) (bytes := xi_nb) (maxL := 2) (aL (.code (Bundle.initS xi_NE) xi_nb 2 none) (by simp [xi_nl, Bundle.passSAtoms]))
    (f := g) hg (a := a) (msg := msg) (rest := .ref a :: rest) hstack hd6
  cases hnC.symm.trans hPm
  obtain ⟨vm₂, X₂, st2⟩ := (X.noted hW₁).ctorMessageOffV hexec (g := { g with stack := .ref a :: rest }) hg hsize T L Z LZ M LM (P :: P1 :: Ps)
    (fun Q hQ => by
      rcases List.mem_cons.mp hQ with rfl | hQ
      · exact LP
      · rcases List.mem_cons.mp hQ with rfl | hQ
        · exact L1
        · exact hL Q hQ)
    ⟨Option.some.inj (hPs.symm.trans hP1m), hk1, hk2⟩ (u0 := u0) (sen := sen) (self := a) hmsg (cell := freshCell P.m.cls kX) (cellS := cS') hcell (fun _ => by simp) (by simp) rfl rfl
    (sel Bundle.tFill0 T.fill0 (aX _ (by simp [xi_nx])) Y.fill0 (by decide)) (sel Bundle.tFill T.fill (aX _ (by simp [xi_nx])) Y.fill (by decide)) hVS hne hkn (by rw [hsame _ (by simp)]; exact hu0) (by rw [hsame _ (by simp)]; exact hsen)
    (Takes.of_laid hk hord t1 (by rw [Y.causeType]; rfl)) (Takes.of_laid hk hord t2 (by rw [Y.stackType]; exact fits_refV_array _ u0)) (Takes.of_laid hk hord t3 (by rw [Y.suppType]; exact fits_refV_object _ sen)) (Takes.of_laid hk hord t4 (by rw [Y.msgType]; exact fits_refV_object _ ⟨msg, hmsg⟩)) Y.objLocals hskip htr [] hd6
    (by simp only [List.length_cons, hlen, List.length_nil]; omega) (by simp only [List.length_cons, hlen, List.length_nil]; exact hRlocals)
  obtain ⟨hwalk, hrun, hended, hWU, hs2⟩ := X₂.athrowLeaves hexec (g := { g with stack := .ref a :: rest, pc := g.pc + 3 }) hg hlocked hentered hout (a := a) (rest := rest) rfl hd9
  have hlt : a < ((V.setVm vm₁).setVm vm₂).heap.size := (Array.getElem?_eq_some_iff.mp hcell).1
  have hU := heapAt_setCell_self (s := (V.setVm vm₁).setVm vm₂) (plainBareV T.toThrowableT (freshCell P.m.cls kX) a u0 sen msg) hlt
  refine ⟨_, st1 _ (fun acts => by rw [doInvoke_state]; exact st2 _ hwalk), hrun, hended, hWU, hs2.weaken (fun y hy hy2 => ?_) (Nat.le_refl _) (Nat.le_refl _), _, hU, hcl, rfl⟩
  exfalso
  have hb : y.base = a := by
    simp only [List.nil_append, List.mem_cons, List.not_mem_nil, or_false] at hy
    rcases hy with rfl | rfl | rfl | rfl | rfl <;> rfl
  rw [hb] at hy2
  exact Nat.not_lt.mpr hnew hy2
end XNE
section XT2
variable {p : Program} {l : Launch} {e : Env} {R : Room} {s : State} {m : MethodId} {args : Array Value} {below : List Frame} {meth : Method} {c : Code} {nL b0 : Nat} {aS : Nat → Nat} {dA : Nat → ClassId} {D : va_G} {n0 s0 : Nat}
variable {A : xi_H} {cc : ByteArray} {own : String} {pc : Nat} {lv : xi_L}
set_option maxHeartbeats 1000000 in
theorem xs_throw {Q : State → Prop} {ci j i i1 i2 : Nat} {Xn tx : String} {T : u_T} {st : List Value} {mc ms : Nat} (X : xi_X (p, l, e, R, s, m, args, below, meth, c, Q, nL, b0, aS, dA, D, n0, s0) cc own) (h0 : 0 < A.length) (htr : e.platform.stackTraces = false) (hlocks : meth.locks = false) (hout : ∀ x ∈ c.exceptionTable.toList, covers x (pc + 9) = false)
    (hd0 : decode cc pc = .ok (.new i, 3)) (hd3 : decode cc (pc + 3) = .ok (.dup, 1)) (hd4 : decode cc (pc + 4) = .ok (.ldc i1, 2)) (hd6 : decode cc (pc + 6) = .ok (.invokespecial i2, 3)) (hd9 : decode cc (pc + 9) = .ok (.athrow, 1))
    (hc : xi_cl[ci]? = some (Xn, T, 0)) (hw1 : Cond.classLink own i Xn ∈ xi_G) (hw2 : Cond.instantiable Xn 6 ∈ xi_G) (hw3 : Cond.initialized Xn ∈ xi_G) (hj : xi_str[j]? = some (own, i1, tx)) (hfit : Bundle.fit Xn = true)
    (hat : (∀ a ∈ Bundle.ownAtoms own i2 Xn ["java/lang/RuntimeException", "java/lang/Exception"], xi_atom a = true) ∨ (own = "CheapPlanner" ∧ Xn = xi_NE ∧ i2 = 175))
    (hE1 : (A ++ [(.inr (ci, List.replicate 6 .null) : xi_E)]).length - n0 ≤ R.cells) (hE2 : xi_ns (A ++ [(.inr (ci, List.replicate 6 .null) : xi_E)]) - s0 ≤ R.slots) (hfr : 6 ≤ R.frames) (hlo : 100 ≤ R.locals) (h8 : (st.map fun v => v.category).sum ≤ 8)
    (hQ : ∀ t, xi_MQ below (xi_Qc b0 aS dA D (.threw A.length) (A ++ [.inr (ci, List.replicate 6 .null)])) args s ((A ++ [(.inr (ci, List.replicate 6 .null) : xi_E)]).length - n0) (xi_ns (A ++ [(.inr (ci, List.replicate 6 .null) : xi_E)]) - s0) (fun q => b0 ≤ q) t → Q t) :
    xi_At (p, l, e, R, s, m, args, below, meth, c, Q, nL, b0, aS, dA, D, n0, s0) pc lv st A := by
  obtain ⟨hx, hbb, hml, hown, hts, hK, hstr⟩ := X
  intro H locs ls hR hl T0 hT0 X0
  have hz := xi_hz h0 hR hT0 X0
  have h1 := hR.2.2.1
  have h2 := hR.2.2.2.1
  have hn6 : xi_n (.inr (ci, List.replicate 6 .null)) = 6 := rfl
  rw [xi_ns_push, hn6] at hE2 hQ
  simp only [List.length_append, List.length_singleton] at hE1 hQ
  generalize hs' : T0.setFrames (.invoking m args :: below) = s' 
  have X1 : Stand p l e { frames := 6, cells := 1, slots := 6, locals := 100 } s' m args below meth c T0 [] 0 0 := by
    rw [← hs']
    exact xi_rebase X0 hfr hlo (by show A.length - n0 + 1 ≤ R.cells; omega) (by show xi_ns A - s0 + 6 ≤ R.slots; omega)
  have hvm' : s'.vm = T0.vm := by rw [← hs']; rfl
  have hhp' : s'.heap = T0.heap := by rw [← hs']; rfl
  have hW0 : s.WarmedH s'.vm := by rw [hvm']; exact X0.warmed
  have hts' : ∀ w ∈ xi_G, w.before args s' = true := fun w hw => word_at hW0 (xi_good hw) (hts w hw)
  have hst' : xi_St b0 aS s' := hstr.warm hW0 (fun q hq => by rw [hhp', hT0]; exact xi_old hR q hq)
  have hown' : s'.vm.findClass own = some m.cls := by rw [hW0.alike.findClass]; exact hown
  have hcls := (hK.1 ci _ hc).2.1
  have hcls' : s'.vm.findClass Xn = some (D.1 ci) := by rw [hW0.alike.findClass]; exact hcls
  have key : W p l e { frames := 6, cells := 1, slots := 6, locals := 100 } s' m args below meth c H [] 0 0 (fun U => U.status = .running ∧ Ended U below (.threw H.size) ∧ s'.WarmedH U.vm ∧ s'.sameButNew ({ U with vm := s'.vm } : State) [] 1 6 ∧ ∃ ce, U.heap[H.size]? = some ce ∧ s'.vm.findClass Xn = some ce.cls ∧ ce.vm = .none) (F0 m pc ls (st.map (xi_v b0 aS))) := by
    refine W.newcK (n := 6) hx hbb hown' (hts' _ hw1) (hts' _ hw2) (hts' _ hw3) rfl hd0 (Nat.le_refl 1) (Nat.le_refl 6) hcls' rfl (fun H1 kC hkC e1 z1 o1 => ?_)
    refine lv_dup hx hbb hd3 rfl ?_
    refine va_ldcS hx hbb hown' (hst'.1 j _ hj) hd4 ?_
    intro T1 hT1 X2
    rcases hat with hat | hat
    · obtain ⟨U, u1, u2, u3, u4, u5, ce, u6, u7⟩ := X2.ctorThrowS hx htr (own := own) (cls := Xn) (names := ["java/lang/RuntimeException", "java/lang/Exception"]) (ic := i2) hown' hfit (by decide) (fun a ha => xi_atom_at (hat a ha) hts' hst') (fun x hx => by cases hx) (a := H.size) hcls' hkC (by rw [hT1]; exact e1) (by rw [hhp', hT0]; exact Nat.le_refl _) (msg := .ref (aS j)) rfl (g := F0 m (pc + 6) ls (.ref (aS j) :: .ref H.size :: .ref H.size :: st.map (xi_v b0 aS))) rfl (hl.1.trans hml.symm) rfl rfl (rest := st.map (xi_v b0 aS)) rfl (by rw [hbb]; exact hd6) (by rw [hbb]; exact hd9) hout (by decide) (by
          have h9 := xi_room (b0 := b0) (aS := aS) h8
          show 2 * 0 + ((Value.ref H.size :: st.map (xi_v b0 aS)).map fun v => v.category).sum + _ ≤ 100
          simp only [List.map_cons, List.sum_cons, List.length_cons, List.length_nil, Value.category] at h9 ⊢
          omega) hlocks
      exact ⟨U, u1, u2, u3, u4, u5, ce, u6, u7.cls, u7.vm⟩
    · obtain ⟨rfl, rfl, rfl⟩ := hat
      exact xi_nse X2 hx htr hown' (fun a ha => xi_atom_at ha hts' hst') (a := H.size) hcls' hkC (by rw [hT1]; exact e1) (by rw [hhp', hT0]; exact Nat.le_refl _) (msg := .ref (aS j)) rfl (g := F0 m (pc + 6) ls (.ref (aS j) :: .ref H.size :: .ref H.size :: st.map (xi_v b0 aS))) rfl (hl.1.trans hml.symm) rfl rfl (rest := st.map (xi_v b0 aS)) rfl (by rw [hbb]; exact hd6) (by rw [hbb]; exact hd9) hout (show 5 < 6 by decide) (by
          have h9 := xi_room (b0 := b0) (aS := aS) h8
          show 2 * 0 + ((Value.ref H.size :: st.map (xi_v b0 aS)).map fun v => v.category).sum + 81 ≤ 100
          simp only [List.map_cons, List.sum_cons, Value.category] at h9 ⊢
          omega) hlocks
  obtain ⟨U, u1, u2, u3, u4, u5, ce, u6, u7, u8⟩ := key T0 hT0 X1
  refine ⟨U, u1, hQ U ⟨.threw H.size, u2, u3, ?_, ?_⟩⟩
  · have hold : ∀ q : Nat, q < H.size → U.heap[q]? = H[q]? := by
      intro q hq
      have h3 := xi_same_cells (T := T0) (F := .invoking m args :: below) (V := ({ U with vm := s'.vm } : State)) (k := 1) (n := 6) (by rw [hs']; exact u5) q (by rw [hT0]; exact hq)
      rw [hT0] at h3
      exact h3
    refine ⟨by rw [hz]; rfl, ?_, ?_, ?_⟩
    · intro k q hk
      rw [← xi_w_push] at hk
      by_cases hlt : k < A.length
      · rw [List.getElem?_append_left (by rw [xi_w_len]; exact hlt)] at hk
        have h3 := hR.1 k q hk
        exact h3.kept (hold q.1 h3.lt)
      · rw [List.getElem?_append_right (by rw [xi_w_len]; omega)] at hk
        have hz0 : k - (xi_w b0 aS dA A).length < 1 := (List.getElem?_eq_some_iff.mp hk).1
        rw [show k - (xi_w b0 aS dA A).length = 0 by omega] at hk
        cases hk
        refine ⟨_, hc, ce, by rw [← hz]; exact u6, ?_, u8, fun k hk => absurd hk (Nat.not_lt_zero k)⟩
        exact Option.some.inj (u7.symm.trans hcls')
    · have h3 : s'.heap.size ≤ U.heap.size := u5.2.1
      rw [hhp', hT0] at h3
      exact Nat.le_trans hR.2.1.1 h3
    · intro q hq1 hq2
      have hq3 : q < H.size := Nat.lt_of_lt_of_le hq1 hR.2.1.1
      rw [hold q hq3]
      exact hR.2.1.2.1 q hq1 hq2
  · have h3 := X0.same.trans ((xi_same_unframe (T := T0) (F := .invoking m args :: below) (V := ({ U with vm := s'.vm } : State)) (by rw [hs']; exact u5)).setVm s.vm)
    refine ⟨locs ++ [], ⟨State.WarmedH.trans hW0 u4, ?_⟩, fun q hq => hR.2.1.2.2 q (by simpa using hq)⟩
    rw [show A.length + 1 - n0 = A.length - n0 + 1 by omega, show xi_ns A + 6 - s0 = xi_ns A - s0 + 6 by omega]
    exact h3
end XT2

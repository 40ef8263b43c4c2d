/-! A STATIC CALL OF A METHOD WITH A TABLE OF HANDLERS -/
section CW
variable {l : Launch} {R : Room} {p : Program} {e : Env} {below : List Frame} {s : State} {args : Array Value} {y : MethodName} {len W : Nat} {m : MethodId} {meth : Method} {c : Code}
theorem xi_backW {ws : List Cond} {rm : Room} {Pc : Array Value → State → Prop} {Qc : Array Value → State → Outcome → State → Prop} {mc ms : Nat} {free : Addr → Prop} {bytes : ByteArray} {maxL : Nat} {ret : Option FieldType} {hs : List (Nat × Nat × Nat × Nat)}
    (hM : Met l y ws rm Pc Qc mc ms free) (hblind : FrameBlind Pc) (hrc : rm.cells = mc) (hrs : rm.slots = ms)
    (hframes : rm.frames + 1 ≤ R.frames) (hlocals : W + (maxL + 11) + rm.locals ≤ R.locals)
    (hws : ∀ w ∈ ws, ∀ a' U, s.WarmedH U.vm → w.before a' U = true) (hcode : Cond.codeWith y bytes maxL ret hs ∈ ws) (hinit : ∀ a' U, s.WarmedH U.vm → (Cond.initialized y.cls).before a' U = true) :
    Back l R p e below s args y len W (PreOf R mc ms Pc) (PostOf Qc mc ms free) := by
  refine Back.of_freeWith (handlers := hs) (S := headSpec ws rm) (P := Pc) (K := fun _ _ _ _ _ => True) (Q := fun a st o t => Qc a st o t ∧ ∃ L, FrameEnd st o t L mc ms ∧ ∀ q ∈ L, free q.base) (bytes := bytes) (maxL := maxL) (ret := ret)
    (E := fun a st o t L k n => k = mc ∧ n = ms ∧ ∀ q ∈ L, free q.base) hM hframes hlocals ?_ ?_ (fun _ _ _ _ _ _ _ _ _ => trivial) ?_ ?_
  · intro m meth c A a X hp
    exact ⟨atoms_intro fun w hw => hws w hw _ _ X.warmed, hws _ hcode _ _ X.warmed, hinit _ _ X.warmed, by rw [show (headSpec ws rm).room.cells = mc from hrc]; exact hp.1, by rw [show (headSpec ws rm).room.slots = ms from hrs]; exact hp.2.1⟩
  · intro m meth c A a g mk X hp
    exact hblind _ _ _ _ hp.2.2
  · intro a st o t ⟨hq, L, hF, hL⟩
    exact ⟨L, mc, ms, hF, rfl, rfl, hL⟩
  · intro m meth c A a g mk v t L k n X hp hq hF ⟨e1, e2, hL⟩
    subst e1; subst e2
    exact ⟨g, mk, t, L, rfl, rfl, hq.1, rfl, hL, rfl, rfl⟩
variable {T : State} {locs : List Loc} {cells slots : Nat}
theorem xi_callW (X : Stand p l e R s m args below meth c T locs cells slots) (hexec : p.tables.exec = Jvm.exec) {own : String} {index : Nat} {y : MethodName} {bytes : ByteArray} {maxL : Nat} {ret : Option FieldType} {hs : List (Nat × Nat × Nat × Nat)}
    (hown : s.vm.findClass own = some m.cls) (hlink : (Cond.methodLink own index y).before args s = true) (hstat : (Cond.static y).before args s = true) (hinit : (Cond.initialized y.cls).before args s = true)
    (hcode : (Cond.codeWith y bytes maxL ret hs).before args s = true) (hy : y.cls ≠ "java/lang/invoke/MethodHandle" ∧ y.cls ≠ "java/lang/invoke/VarHandle")
    {W : Nat} {Pre : Pt → Array Value → Prop} {Post : Pt → Array Value → Option Value → Pt → Prop} (hK : Back l R p e below s args y 3 W Pre Post)
    {g : JFrame} (hg : g.method = m) (hsize : g.locals.size = c.maxLocals) {argsL rest : List Value} (hlen : ∀ sig, parseMethodDescriptor y.desc = some sig → argsL.length = sig.parameters.length)
    (hstack : g.stack = argsL.reverse ++ rest) (hW : 2 * g.monitorRoom + (rest.map fun v => v.category).sum ≤ W) (hdg : decode c.code g.pc = .ok (.invokestatic index, 3))
    (hpre : ∀ vm₁, s.WarmedH vm₁ → Pre ⟨T.setVm vm₁, locs, cells, slots⟩ argsL.toArray) :
    ∃ (v : Option Value) (vm₁ : Vm) (B : Pt), s.WarmedH vm₁ ∧ Stand p l e R s m args below meth c B.U B.locs B.cells B.slots ∧ Post ⟨T.setVm vm₁, locs, cells, slots⟩ argsL.toArray v B ∧
      ∀ target, Steps p.tables e below (B.U.setTop { g with pc := g.pc + 3, stack := v.toList ++ rest }) target → Steps p.tables e below (T.setTop g) target := by
  obtain ⟨mk, methM, cM, hnamed, hmethM, -, -, -, -, -, -, hsigM⟩ := Cond.codeWith_spec hcode
  have hstatic : methM.isStatic = true := Cond.static_spec hnamed hmethM hstat
  obtain ⟨kP, hkP, -⟩ := className_of_methodNamed hnamed
  have hinitP : kP.init = .initialized := Cond.initialized_spec (findClass_of_methodNamed hnamed) hkP hinit
  obtain ⟨vm₁, X₁, hstep₁⟩ := X.invokestatic hexec hown hlink hnamed hmethM hstatic hkP hinitP hy (g := g) hg (argsL := argsL) (rest := rest) (hlen _ hsigM) hstack hdg
  obtain ⟨v, B, X', hpost, hsteps⟩ := hK m meth c ⟨T.setVm vm₁, locs, cells, slots⟩ { g with stack := rest } (.invokestatic index) mk argsL.toArray X₁ hg hsize hdg hW (X₁.named hnamed) (hpre vm₁ X₁.warmed)
  exact ⟨v, vm₁, B, X₁.warmed, X', hpost, fun target h => hstep₁ _ fun acts => by rw [doInvoke_state]; exact hsteps.trans h⟩
end CW
section CX
variable {p : Program} {l : Launch} {e : Env} {R : Room} {s : State} {m : MethodId} {args : Array Value} {below : List Frame} {meth : Method} {c : Code} {Q : State → Prop} {nL b0 : Nat} {aS : Nat → Nat} {dA : Nat → ClassId} {D : va_G} {n0 s0 : Nat}
variable {A A' : xi_H} {cc : ByteArray} {own : String} {pc i : Nat} {lv : xi_L} {y : MethodName} {cy : ByteArray} {nY : Nat} {ret : Option FieldType} {fr' lo' : Nat} {v : Option Value} {As rest : List Value} {hs : List (Nat × Nat × Nat × Nat)}
theorem xs_callW (X : xi_X (p, l, e, R, s, m, args, below, meth, c, Q, nL, b0, aS, dA, D, n0, s0) cc own) (hd : decode cc pc = .ok (.invokestatic i, 3))
    (hM : xi_Met l y (.codeWith y cy nY ret hs :: xi_G) { frames := fr', cells := A'.length - A.length, slots := xi_ns A' - xi_ns A, locals := lo' } (xi_Pc b0 aS dA D As A) (xi_Qc b0 aS dA D (.returned v) A') (A'.length - A.length) (xi_ns A' - xi_ns A) (fun q => b0 ≤ q))
    (h0 : 0 < A.length) (hA1 : A.length ≤ A'.length) (hA2 : xi_ns A ≤ xi_ns A') (hE1 : A'.length - n0 ≤ R.cells) (hE2 : xi_ns A' - s0 ≤ R.slots) (hfr : fr' + 1 ≤ R.frames) (hlo : 8 + (nY + 11) + lo' ≤ R.locals)
    (hw1 : Cond.methodLink own i y ∈ xi_G) (hw2 : Cond.static y ∈ xi_G) (hw4 : Cond.initialized y.cls ∈ xi_G) (hw5 : Cond.codeWith y cy nY ret hs ∈ xi_G)
    (hy : y.cls ≠ "java/lang/invoke/MethodHandle" ∧ y.cls ≠ "java/lang/invoke/VarHandle") (hn : (parseMethodDescriptor y.desc).map (fun d => d.parameters.length) = some As.length) (h8 : (rest.map fun v => v.category).sum ≤ 8)
    (kk : xi_At (p, l, e, R, s, m, args, below, meth, c, Q, nL, b0, aS, dA, D, n0, s0) (pc + 3) lv (v.toList ++ rest) A') :
    xi_At (p, l, e, R, s, m, args, below, meth, c, Q, nL, b0, aS, dA, D, n0, s0) pc lv (As.reverse ++ rest) A := by
  obtain ⟨hx, hbb, hml, hown, hts, hK, hstr⟩ := X
  intro H locs ls hR hl T0 hT0 X0
  have hz := xi_hz h0 hR hT0 X0
  have h1 := hR.2.2.1
  have h2 := hR.2.2.2.1
  have hst : (As.reverse ++ rest).map (xi_v b0 aS) = (As.map (xi_v b0 aS)).reverse ++ rest.map (xi_v b0 aS) := by simp
  rw [hst]
  have hws : ∀ w ∈ (Cond.codeWith y cy nY ret hs :: xi_G), ∀ (a' : Array Value) (U : State), s.WarmedH U.vm → w.before a' U = true := fun w hw a' U hW => by
    have hg : w ∈ xi_G := by rcases List.mem_cons.mp hw with rfl | h
                             · exact hw5
                             · exact h
    exact word_at hW (xi_good hg) (hts w hg)
  have hB : Back l R p e below s args y 3 8 (PreOf R (A'.length - A.length) (xi_ns A' - xi_ns A) (xi_Pc b0 aS dA D As A)) (PostOf (xi_Qc b0 aS dA D (.returned v) A') (A'.length - A.length) (xi_ns A' - xi_ns A) (fun q => b0 ≤ q)) :=
    xi_backW hM.ret xi_Pc_blind rfl rfl hfr hlo hws List.mem_cons_self (fun a' U hW => word_at hW (xi_good hw4) (hts _ hw4))
  have hrun : va_Run p l e R s m args below meth c H locs (A.length - n0) (xi_ns A - s0) (A'.length - A.length) (xi_ns A' - xi_ns A) (F0 m pc ls ((As.map (xi_v b0 aS)).reverse ++ rest.map (xi_v b0 aS))) (rest.map (xi_v b0 aS)) (xi_Qc b0 aS dA D (.returned v) A' (As.map (xi_v b0 aS)).toArray) (fun q => b0 ≤ q) := by
    intro T hT X
    obtain ⟨v', vm₁, ⟨U', l2, c2, s2⟩, hW₁, X', ⟨g', mk, t, L, e1, e2, hq, h1', hL, h2', h3'⟩, st⟩ := xi_callW X hx hown (hts _ hw1) (hts _ hw2) (hts _ hw4) (hts _ hw5) hy hB (g := F0 m pc ls ((As.map (xi_v b0 aS)).reverse ++ rest.map (xi_v b0 aS))) rfl (hl.1.trans hml.symm) (argsL := As.map (xi_v b0 aS)) (rest := rest.map (xi_v b0 aS)) (fun sig h => by
        rw [h] at hn
        have h9 := Option.some.inj hn
        simp only at h9
        rw [List.length_map]
        exact h9.symm) rfl (lv_room (xi_room h8)) (by rw [hbb]; exact hd)
      (fun vm₁ hW₁ => ⟨by show A.length - n0 + (A'.length - A.length) ≤ R.cells; omega, by show xi_ns A - s0 + (xi_ns A' - xi_ns A) ≤ R.slots; omega, xi_pre hR hz hK hstr As (T.setVm vm₁) hT hW₁⟩)
    dsimp only [Pt.U, Pt.locs, Pt.cells, Pt.slots] at X' e1 e2 h1' h2' h3' st
    subst h1'; subst h2'; subst h3'
    exact ⟨v', (T.setVm vm₁).calling g' mk (As.map (xi_v b0 aS)).toArray, t, U', L, hT, X', hL, e1, e2, hq, st⟩
  exact xi_back hR hl hA1 hA2 hrun kk T0 hT0 X0
/-- its contract out of its run -/
theorem xi_contractW {Ms : List xi_M} {l : Launch} {n : Nat} (htr : ∀ e, l.admits e → e.platform.stackTraces = false) (ih : xi_S Ms l n) {cM : Nat} {Mc : xi_M} (hc : Ms[cM]? = some Mc) (hpn : plainFor Mc.1 = true) {fr lo : Nat} {vs : List Value} {A A1 : xi_H} {o1 : Outcome} (hr : xi_go Ms n cM fr lo 0 (lv_args 0 vs) [] A = some (o1, A1)) (hw : xi_wt vs ≤ Mc.2.2.1) (b0 : Nat) (aS : Nat → Nat) (dA : Nat → ClassId) (D : va_G) :
    xi_Met l Mc.1 (.codeWith Mc.1 Mc.2.1 Mc.2.2.1 Mc.2.2.2.1 (Mc.2.2.2.2.2.map (fun (h : Nat × Nat × Nat × Nat × Nat) => (h.1, h.2.1, h.2.2.1, h.2.2.2.1))) :: xi_G) { frames := fr, cells := A1.length - A.length, slots := xi_ns A1 - xi_ns A, locals := lo } (xi_Pc b0 aS dA D vs A) (xi_Qc b0 aS dA D o1 A1) (A1.length - A.length) (xi_ns A1 - xi_ns A) (fun q => b0 ≤ q) := by
  refine xi_ofWH (cc := Mc.2.1) (maxL := Mc.2.2.1) (ret := Mc.2.2.2.1) (hs := Mc.2.2.2.2.2.map (fun (h : Nat × Nat × Nat × Nat × Nat) => (h.1, h.2.1, h.2.2.1, h.2.2.2.1))) hpn rfl ?_
  intro p e s m args below meth c s₁ B hml hv
  obtain ⟨rfl, hP, hz, hK, hSt⟩ := hv
  have hts0 := atoms_spec (ws := .codeWith Mc.1 Mc.2.1 Mc.2.2.1 Mc.2.2.2.1 (Mc.2.2.2.2.2.map (fun (h : Nat × Nat × Nat × Nat × Nat) => (h.1, h.2.1, h.2.2.1, h.2.2.2.1))) :: xi_G) B.pre
  have hts : ∀ w ∈ xi_G, w.before _ s = true := fun w hw => hts0 w (List.mem_cons_of_mem _ hw)
  have hown : s.vm.findClass Mc.1.cls = some m.cls := findClass_of_methodNamed B.named
  obtain ⟨m', meth', c', q0, q1, q2, -, -, q5, -⟩ := Cond.codeWith_spec (hts0 _ List.mem_cons_self)
  cases B.named.symm.trans q0
  cases B.method.symm.trans q1
  cases (Stand.of_body B).code.symm.trans q2
  have hl := lv_entry (vs.map (xi_v b0 aS)) (n := Mc.2.2.1) (by rw [xi_sl_len, xi_wt_v]; exact hw)
  rw [xi_args_l] at hl
  rw [lg_entry_eq]
  have k1 := ih cM Mc fr lo 0 (lv_args 0 vs) [] A o1 A1 hc hr p e s m _ below meth c b0 aS dA D A.length (xi_ns A) ⟨B.exec, B.bytes, hml, hown, hts, hK, hSt⟩ B.returns B.notSynchronized (name_of_methodNamed B.named B.method).1 q5 (htr e B.admits) s.heap [] _ ⟨hP, va_S.rf, Nat.le_refl _, Nat.le_refl _, hz⟩ hl
  rw [Nat.sub_self, Nat.sub_self] at k1
  exact k1
end CX

/-! WHAT LASTS, MOVED -/
theorem xi_nest_warm {s U : State} (hW : s.WarmedH U.vm) (h : ∀ w ∈ xi_nest, va_Nw w s) : ∀ w ∈ xi_nest, va_Nw w U := by
  intro w hw
  have h1 := h w hw
  simp only [xi_nest, List.mem_cons, List.not_mem_nil, or_false] at hw
  rcases hw with rfl | rfl | rfl | rfl | rfl | rfl | rfl | rfl | rfl | rfl | rfl | rfl | rfl | rfl | rfl | rfl <;>
    first | exact va_Nw.warmM hW h1 | exact va_Nw.warmD hW h1 | exact va_Nw.warmC hW h1
theorem xi_ls_move {b0 : Nat} {C n d : String} {s U : State} (hW : s.WarmedH U.vm) (hh : ∀ q : Nat, q < b0 → U.heap[q]? = s.heap[q]?) (hz : va_Zq C n d (fun x => b0 ≤ x) s s.heap) (h : va_Nw (.laysStatic C n d) s) : va_Nw (.laysStatic C n d) U := by
  have h1 : (Cond.laysStatic C n d).before #[] (s.setVm U.vm) = true := Cond.laysStatic_setVm hW.alike h
  obtain ⟨c, k, i, f, a, cell, hc, hi, hst, ha, hcell, hs, hcls, hlt, hty⟩ := Cond.laysStatic_spec h1
  have hi' : U.fieldFound? C n d = some (c, k, i, f) := hi
  have hz1 := hz.moved hW.alike
  have hlo : a < b0 := by
    rcases hz1 with hz1 | ⟨t, hz1⟩
    · obtain ⟨cf, kf, fi, f', a', cell', q1, -, -, q4, -, -, -, q8⟩ := hz1
      cases hi'.symm.trans q1
      cases ha.symm.trans q4
      exact Nat.not_le.mp q8
    · obtain ⟨cf, kf, fi, f', a', cell', q1, -, -, q4, -, -, -, q8⟩ := hz1
      cases hi'.symm.trans q1
      cases ha.symm.trans q4
      exact Nat.not_le.mp q8
  exact Cond.laysStatic_of (s := U) hc hi' hst ha (by rw [hh a hlo]; exact hcell) hs hcls hlt hty
theorem xi_Sx.warm {b0 : Nat} {aS : Nat → Nat} {s U : State} (hW : s.WarmedH U.vm) (hh : ∀ q : Nat, q < b0 → U.heap[q]? = s.heap[q]?) (h : xi_Sx b0 aS s) : xi_Sx b0 aS U := by
  obtain ⟨h1, h2, h3⟩ := h
  have hq : ∀ a : Nat, a < s.heap.size → ¬ b0 ≤ a → U.heap[a]? = s.heap[a]? := fun a _ ha => hh a (Nat.not_le.mp ha)
  refine ⟨(h1.moved hW.alike).kept hq, ?_, fun j t ht => ?_⟩
  · rcases h2 with h2 | h2
    · exact Or.inl ((h2.moved hW.alike).kept hq)
    · exact Or.inr ((h2.moved hW.alike).kept hq)
  · obtain ⟨k1, k2, k3, k4⟩ := h3 j t ht
    exact ⟨(k1.moved hW.alike).kept hq, (k2.moved hW.alike).kept hq, (k3.moved hW.alike).kept hq, (k4.moved hW.alike).kept hq⟩
theorem xi_St.warm {b0 : Nat} {aS : Nat → Nat} {s U : State} (hW : s.WarmedH U.vm) (hh : ∀ q : Nat, q < b0 → U.heap[q]? = s.heap[q]?) (h : xi_St b0 aS s) : xi_St b0 aS U := by
  obtain ⟨h1, h2, h3, h4, h5, h6⟩ := h
  refine ⟨fun j q hq => (h1 j q hq).warm hW, xi_nest_warm hW h2, fun C hC => (h3 C hC).moved hW.alike, fun q hq => ?_, h5.warm hW hh, fun q hq => (h6 q hq).moved hW.alike⟩
  have h7 := (h4 q hq).1.moved hW.alike
  exact ⟨h7.kept (fun a _ ha => hh a (Nat.not_le.mp ha)), xi_ls_move hW hh (h4 q hq).1 (h4 q hq).2⟩
/-! A METHOD's CONTRACT: from a heap A, with the values vs, it ends in o with the heap A' -/
def xi_o (b0 : Nat) (aS : Nat → Nat) : Outcome → Outcome
  | .returned v => .returned (v.map (xi_v b0 aS))
  | .threw k => .threw (b0 + k)
def xi_Pc (b0 : Nat) (aS : Nat → Nat) (dA : Nat → ClassId) (D : va_G) (vs : List Value) (A : xi_H) : Array Value → State → Prop := fun a U =>
  a = (vs.map (xi_v b0 aS)).toArray ∧ va_P D xi_cl (xi_w b0 aS dA A) U.heap ∧ U.heap.size = b0 + A.length ∧ va_K D xi_cl (xi_tys dA) U ∧ xi_St b0 aS U
def xi_Qc (b0 : Nat) (aS : Nat → Nat) (dA : Nat → ClassId) (D : va_G) (o : Outcome) (A' : xi_H) : Array Value → State → Outcome → State → Prop := fun _ st oc t =>
  oc = xi_o b0 aS o ∧ va_P D xi_cl (xi_w b0 aS dA A') t.heap ∧ va_F (fun q => b0 ≤ q) st t
def xi_MQ (below : List Frame) (Qc : Array Value → State → Outcome → State → Prop) (a : Array Value) (s : State) (mc ms : Nat) (free : Addr → Prop) : State → Prop := fun t =>
  ∃ o, t.status = .running ∧ Ended t below o ∧ Qc a s o t ∧ ∃ L, (s.WarmedH t.vm ∧ s.sameButNew ({ t with vm := s.vm } : State) L mc ms) ∧ ∀ q ∈ L, free q.base
def xi_Met (l : Launch) (y : MethodName) (ws : List Cond) (rm : Room) (Pc : Array Value → State → Prop) (Qc : Array Value → State → Outcome → State → Prop) (mc ms : Nat) (free : Addr → Prop) : Prop :=
  MetFree l y (headSpec ws rm) Pc (fun _ _ _ _ _ => True) (fun a st o t => Qc a st o t ∧ ∃ L, (st.WarmedH t.vm ∧ st.sameButNew ({ t with vm := st.vm } : State) L mc ms) ∧ ∀ q ∈ L, free q.base)
theorem xi_Pc_blind {b0 : Nat} {aS : Nat → Nat} {dA : Nat → ClassId} {D : va_G} {vs : List Value} {A : xi_H} : FrameBlind (xi_Pc b0 aS dA D vs A) := by
  intro a U g mk h
  obtain ⟨h1, h2, h3, h4, h5⟩ := h
  exact ⟨h1, h2, h3, va_K.moved (u := U) (U := U.calling g mk a) (Vm.Alike.refl U.vm) h4, h5.warm (s := U) (U := U.calling g mk a) (State.WarmedH.refl U) (fun _ _ => rfl)⟩
/-- a contract that returns is one of the kit's -/
theorem xi_Met.ret {l : Launch} {y : MethodName} {ws : List Cond} {rm : Room} {Pc : Array Value → State → Prop} {b0 : Nat} {aS : Nat → Nat} {dA : Nat → ClassId} {D : va_G} {v : Option Value} {A' : xi_H} {mc ms : Nat} {free : Addr → Prop} (h : xi_Met l y ws rm Pc (xi_Qc b0 aS dA D (.returned v) A') mc ms free) : Met l y ws rm Pc (xi_Qc b0 aS dA D (.returned v) A') mc ms free := by
  intro p e ha hc hk s m args below hf happ hP hK
  obtain ⟨n, o, h1, h2, h3, hq, L, hL, hfr⟩ := h p e ha hc hk s m args below hf happ hP hK
  exact ⟨n, o, h1, h2, h3, hq, L, ⟨⟨_, hq.1⟩, hL.1, hL.2⟩, hfr⟩
section XO
variable {p : Program} {l : Launch} {e : Env} {R : Room} {s : State} {m : MethodId} {args : Array Value} {below : List Frame} {meth : Method} {c : Code} {H : Heap} {locs : List Loc} {cells slots : Nat} {Q Q2 : State → Prop} {g : JFrame}
theorem xi_W_mono (h : ∀ t, Q t → Q2 t) (k : W p l e R s m args below meth c H locs cells slots Q g) : W p l e R s m args below meth c H locs cells slots Q2 g := by
  intro T hT X
  obtain ⟨t, a, b⟩ := k T hT X
  exact ⟨t, a, h t b⟩
theorem xi_MQ_of {Qc : Array Value → State → Outcome → State → Prop} {free : Addr → Prop} {a : Array Value} {mc ms : Nat} : ∀ t, MQ below Qc a s mc ms free t → xi_MQ below Qc a s mc ms free t := by
  intro t h
  obtain ⟨o, h1, h2, h3, L, hF, hL⟩ := h
  exact ⟨o, h1, h2, h3, L, hF.2, hL⟩
theorem xi_ofW {y : MethodName} {ws ws' : List Cond} {rm : Room} {Pc : Array Value → State → Prop} {Qc : Array Value → State → Outcome → State → Prop} {mc ms : Nat} {free : Addr → Prop} {cc : ByteArray} {maxL : Nat} {ret : Option FieldType}
    (hy : plainFor y = true) (hw : ws = Cond.code y cc maxL ret :: ws')
    (body : ∀ p e s m args below meth c s₁, BodyLoose p l y (headSpec ws rm) cc maxL ret e s m args below meth c s₁ → c.maxLocals = maxL → Pc args s →
      W p l e (headSpec ws rm).room s m args below meth c s.heap [] 0 0 (xi_MQ below Qc args s mc ms free) (entryFrame m args maxL)) : xi_Met l y ws rm Pc Qc mc ms free := by
  refine MetFree.of_bodySF (code := cc) (maxLocals := maxL) (ret := ret) hy ?_ ?_
  · intro args s m h hn
    obtain ⟨meth, c, h1, h2, h3, h4, h5, h6, -, -⟩ := Cond.code_spec hn (atoms_spec (ws := ws) h _ (by rw [hw]; exact List.mem_cons_self))
    exact ⟨meth, c, h1, h2, h3, h4, h5, h6⟩
  · intro p e s m args below meth c s₁ B hml hP _
    have hh0 : s₁.heap = s.heap := by rw [B.state]; rfl
    obtain ⟨t, a1, o, b1, b2, b3⟩ := body p e s m args below meth c s₁ B hml hP s₁ hh0 (Stand.of_body B)
    exact ⟨t, o, a1, b1, b2, ⟨b3.1, b3.2⟩⟩
/-- with a table of handlers -/
theorem xi_ofWH {y : MethodName} {ws ws' : List Cond} {rm : Room} {Pc : Array Value → State → Prop} {Qc : Array Value → State → Outcome → State → Prop} {mc ms : Nat} {free : Addr → Prop} {cc : ByteArray} {maxL : Nat} {ret : Option FieldType} {hs : List (Nat × Nat × Nat × Nat)}
    (hy : plainFor y = true) (hw : ws = Cond.codeWith y cc maxL ret hs :: ws')
    (body : ∀ p e s m args below meth c s₁, BodyLoose p l y (headSpec ws rm) cc maxL ret e s m args below meth c s₁ → c.maxLocals = maxL → Pc args s →
      W p l e (headSpec ws rm).room s m args below meth c s.heap [] 0 0 (xi_MQ below Qc args s mc ms free) (entryFrame m args maxL)) : xi_Met l y ws rm Pc Qc mc ms free := by
  refine MetFree.of_bodySF (code := cc) (maxLocals := maxL) (ret := ret) hy ?_ ?_
  · intro args s m h hn
    obtain ⟨m', meth, c, h0, h1, h2, h3, h4, -, h5, h6, -⟩ := Cond.codeWith_spec (atoms_spec (ws := ws) h _ (by rw [hw]; exact List.mem_cons_self))
    cases hn.symm.trans h0
    exact ⟨meth, c, h1, h2, h3, h4, h5, h6⟩
  · intro p e s m args below meth c s₁ B hml hP _
    have hh0 : s₁.heap = s.heap := by rw [B.state]; rfl
    obtain ⟨t, a1, o, b1, b2, b3⟩ := body p e s m args below meth c s₁ B hml hP s₁ hh0 (Stand.of_body B)
    exact ⟨t, o, a1, b1, b2, ⟨b3.1, b3.2⟩⟩
end XO

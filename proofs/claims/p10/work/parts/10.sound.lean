/-! THE RUN IS THE MACHINE's -/
theorem xi_row_mem {rows : List (Nat × Instr × Nat × List Nat)} {pc : Nat} {r : Instr × Nat × List Nat} (h : xi_row rows pc = some r) : (pc, r) ∈ rows := by
  simp only [xi_row, Option.map_eq_some_iff] at h
  obtain ⟨q, h1, rfl⟩ := h
  have h2 := List.find?_some h1
  have h3 := List.mem_of_find?_eq_some h1
  simp only [beq_iff_eq] at h2
  rw [← h2]
  exact h3
/-- the run from a place within a method, said of the machine -/
def xi_S (Ms : List xi_M) (l : Launch) (n : Nat) : Prop := ∀ (y : Nat) (M : xi_M) (fr lo pc : Nat) (lv : xi_L) (st : List Value) (A : xi_H) (o : Outcome) (A' : xi_H), Ms[y]? = some M → xi_go Ms n y fr lo pc lv st A = some (o, A') →
  ∀ (p : Program) (e : Env) (s : State) (m : MethodId) (args : Array Value) (below : List Frame) (meth : Method) (c : Code) (b0 : Nat) (aS : Nat → Nat) (dA : Nat → ClassId) (D : va_G) (n0 s0 : Nat),
    xi_X (p, l, e, { frames := fr, cells := A'.length - n0, slots := xi_ns A' - s0, locals := lo }, s, m, args, below, meth, c, xi_MQ below (xi_Qc b0 aS dA D o A') args s (A'.length - n0) (xi_ns A' - s0) (fun q => b0 ≤ q), M.2.2.1, b0, aS, dA, D, n0, s0) M.2.1 M.1.cls →
    meth.sig.returnType = M.2.2.2.1 → meth.locks = false → meth.name = M.1.name → c.exceptionTable.toList.map (fun h => (h.startPc, h.endPc, h.handlerPc, h.catchType)) = M.2.2.2.2.2.map (fun h => (h.1, h.2.1, h.2.2.1, h.2.2.2.1)) → e.platform.stackTraces = false →
    xi_At (p, l, e, { frames := fr, cells := A'.length - n0, slots := xi_ns A' - s0, locals := lo }, s, m, args, below, meth, c, xi_MQ below (xi_Qc b0 aS dA D o A') args s (A'.length - n0) (xi_ns A' - s0) (fun q => b0 ≤ q), M.2.2.1, b0, aS, dA, D, n0, s0) pc lv st A
/-- a method's contract out of its run -/
theorem xi_contract {Ms : List xi_M} {l : Launch} {n : Nat} (htr : ∀ e, l.admits e → e.platform.stackTraces = false) (ih : xi_S Ms l n) {cM : Nat} {Mc : xi_M} (hc : Ms[cM]? = some Mc) (hpn : plainFor Mc.1 = true) (hh : Mc.2.2.2.2.2 = []) {fr lo : Nat} {vs : List Value} {A A1 : xi_H} {o1 : Outcome} (hr : xi_go Ms n cM fr lo 0 (lv_args 0 vs) [] A = some (o1, A1)) (hw : xi_wt vs ≤ Mc.2.2.1) (h0 : 0 < A.length) (b0 : Nat) (aS : Nat → Nat) (dA : Nat → ClassId) (D : va_G) :
    xi_Met l Mc.1 (.code Mc.1 Mc.2.1 Mc.2.2.1 Mc.2.2.2.1 :: xi_G) { frames := fr, cells := A1.length - A.length, slots := xi_ns A1 - xi_ns A, locals := lo } (xi_Pc b0 aS dA D vs A) (xi_Qc b0 aS dA D o1 A1) (A1.length - A.length) (xi_ns A1 - xi_ns A) (fun q => b0 ≤ q) := by
  refine xi_ofW (cc := Mc.2.1) (maxL := Mc.2.2.1) (ret := Mc.2.2.2.1) hpn rfl ?_
  intro p e s m args below meth c s₁ B hml hv
  obtain ⟨rfl, hP, hz, hK, hSt⟩ := hv
  have hts0 := atoms_spec (ws := .code Mc.1 Mc.2.1 Mc.2.2.1 Mc.2.2.2.1 :: xi_G) B.pre
  have hts : ∀ w ∈ xi_G, w.before _ s = true := fun w hw => hts0 w (List.mem_cons_of_mem _ hw)
  have hown : s.vm.findClass Mc.1.cls = some m.cls := findClass_of_methodNamed B.named
  have hnoh : c.exceptionTable.toList = [] := by
    have h1 := B.noHandlers (hts0 _ List.mem_cons_self)
    have h2 : c.exceptionTable.size = 0 := by simpa [Array.isEmpty] using h1
    exact List.eq_nil_of_length_eq_zero (by simpa using h2)
  have hl := lv_entry (vs.map (xi_v b0 aS)) (n := Mc.2.2.1) (by rw [xi_sl_len, xi_wt_v]; exact hw)
  rw [xi_args_l] at hl
  rw [lg_entry_eq]
  have k1 := ih cM Mc fr lo 0 (lv_args 0 vs) [] A o1 A1 hc hr p e s m _ below meth c b0 aS dA D A.length (xi_ns A) ⟨B.exec, B.bytes, hml, hown, hts, hK, hSt⟩ B.returns B.notSynchronized (name_of_methodNamed B.named B.method).1 (by rw [hnoh, hh]; rfl) (htr e B.admits) s.heap [] _ ⟨hP, va_S.rf, Nat.le_refl _, Nat.le_refl _, hz⟩ hl
  rw [Nat.sub_self, Nat.sub_self] at k1
  exact k1
/-- what a checked row says of a call -/
theorem xi_okc_v {Ms : List xi_M} {own : String} {cc : ByteArray} {pc i x cM n : Nat} {tail : List Nat} (h : xi_okc Ms own cc pc (.invokevirtual i) (x :: cM :: n :: tail) = true) {Mc : xi_M} (hM : Ms[cM]? = some Mc) :
    (Cond.methodLink own i Mc.1 ∈ xi_G ∧ Cond.instanceMethod Mc.1 ∈ xi_G ∧ Cond.selects Mc.1.cls Mc.1 Mc.1 ∈ xi_G ∧ Cond.initialized Mc.1.cls ∈ xi_G ∧ Cond.code Mc.1 Mc.2.1 Mc.2.2.1 Mc.2.2.2.1 ∈ xi_G) ∧ (Mc.1.cls ≠ "java/lang/invoke/MethodHandle" ∧ Mc.1.cls ≠ "java/lang/invoke/VarHandle") ∧ (parseMethodDescriptor Mc.1.desc).map (fun d => d.parameters.length) = some n := by
  obtain ⟨y, cy, nY, ret, rows, hs⟩ := Mc
  unfold xi_okc at h
  split at h
  all_goals first
    | (rename_i heq; simp at heq; done)
    | skip
  · rename_i i' cM' n' i1 i2 i3 i4 i5 h1 h2
    cases h1
    cases h2
    rw [hM] at h
    simp only [Bool.and_eq_true, decide_eq_true_eq] at h
    obtain ⟨⟨⟨⟨q1, q2⟩, q3, q4⟩, q5⟩, ⟨q6, q7⟩, q8⟩ := h
    exact ⟨⟨xi_Gm q1, xi_Gm q2, xi_Gm q3, xi_Gm q4, xi_Gm q5⟩, ⟨q6, q7⟩, q8⟩
  all_goals first
    | (cases h; done)
    | (simp_all; done)
theorem xi_okc_s {Ms : List xi_M} {own : String} {cc : ByteArray} {pc i x cM n : Nat} {tail : List Nat} (h : xi_okc Ms own cc pc (.invokestatic i) (x :: cM :: n :: tail) = true) {Mc : xi_M} (hM : Ms[cM]? = some Mc) :
    (Cond.methodLink own i Mc.1 ∈ xi_G ∧ Cond.static Mc.1 ∈ xi_G ∧ Cond.initialized Mc.1.cls ∈ xi_G ∧ Cond.code Mc.1 Mc.2.1 Mc.2.2.1 Mc.2.2.2.1 ∈ xi_G) ∧ (Mc.1.cls ≠ "java/lang/invoke/MethodHandle" ∧ Mc.1.cls ≠ "java/lang/invoke/VarHandle") ∧ (parseMethodDescriptor Mc.1.desc).map (fun d => d.parameters.length) = some n := by
  obtain ⟨y, cy, nY, ret, rows, hs⟩ := Mc
  unfold xi_okc at h
  split at h
  case h_3 =>
    rename_i i' cM' n' i1 i2 i4 i5 h1 h2
    cases h1
    cases h2
    rw [hM] at h
    simp only [Bool.and_eq_true, decide_eq_true_eq] at h
    obtain ⟨⟨⟨q1, q2⟩, q4, q5⟩, ⟨q6, q7⟩, q8⟩ := h
    exact ⟨⟨xi_Gm q1, xi_Gm q2, xi_Gm q4, xi_Gm q5⟩, ⟨q6, q7⟩, q8⟩
  all_goals first
    | (cases h; done)
    | (simp_all; done)
theorem xi_okc_i {Ms : List xi_M} {own : String} {cc : ByteArray} {pc i x cM n : Nat} {tail : List Nat} (h : xi_okc Ms own cc pc (.invokespecial i) (x :: cM :: n :: tail) = true) (hx : ∀ a, x = 0 → tail ≠ [a]) {Mc : xi_M} (hM : Ms[cM]? = some Mc) :
    ((Cond.methodLink own i Mc.1 ∈ xi_G ∨ ∃ host, Cond.methodLinkNest own i Mc.1 host ∈ xi_nest) ∧ Cond.instanceMethod Mc.1 ∈ xi_G ∧ Cond.initialized Mc.1.cls ∈ xi_G ∧ Cond.code Mc.1 Mc.2.1 Mc.2.2.1 none ∈ xi_G) ∧ (Mc.1.cls ≠ "java/lang/invoke/MethodHandle" ∧ Mc.1.cls ≠ "java/lang/invoke/VarHandle") ∧ (parseMethodDescriptor Mc.1.desc).map (fun d => d.parameters.length) = some n ∧ Mc.1.name = "<init>" ∧ Mc.2.2.2.1 = none := by
  obtain ⟨y, cy, nY, ret, rows, hs⟩ := Mc
  unfold xi_okc at h
  split at h
  case h_2 =>
    rename_i i' cM' n' i1 i2 i4 i5 h1 h2
    cases h1
    cases h2
    rw [hM] at h
    simp only [Bool.and_eq_true, decide_eq_true_eq, Bool.or_eq_true, List.any_eq_true] at h
    obtain ⟨⟨⟨q1, q2⟩, q4, q5⟩, ⟨⟨q6, q7⟩, q8⟩, q9, q10⟩ := h
    subst q10
    refine ⟨⟨?_, xi_Gm q2, xi_Gm q4, xi_Gm q5⟩, ⟨q6, q7⟩, q8, q9, rfl⟩
    rcases q1 with q1 | ⟨w, hw, q1⟩
    · exact Or.inl (xi_Gm q1)
    · refine Or.inr ?_
      split at q1
      · simp only [decide_eq_true_eq] at q1
        obtain ⟨rfl, rfl, rfl⟩ := q1
        exact ⟨_, hw⟩
      · cases q1
  all_goals first
    | (cases h; done)
    | (simp_all; done)
set_option maxHeartbeats 4000000 in
theorem xi_sound {Ms : List xi_M} (hMs : ∀ (y : Nat) (M : xi_M), Ms[y]? = some M → xi_okM Ms M = true) {l : Launch} (htr : ∀ e, l.admits e → e.platform.stackTraces = false) : ∀ n : Nat, xi_S Ms l n := by
  intro n
  induction n with
  | zero => intro y M fr lo pc lv st A o A' hM h; cases h
  | succ n ih =>
    intro y M fr lo pc lv st A o A' hM h p e s m args below meth c b0 aS dA D n0 s0 X hret hlk hnm hhd hst
    have hmono := xi_mono Ms (n + 1) y fr lo pc lv st A A' o h
    have hok := hMs y M hM
    simp only [xi_okM, Bool.and_eq_true] at hok
    obtain ⟨hpn, hrows, hhok, hhpk⟩ := hok
    rw [xi_go_succ] at h
    unfold xi_body at h
    rw [hM] at h
    simp only at h
    split at h
    · cases h
    · rename_i I nx aux hrow
      have hr0 := List.all_eq_true.mp hrows _ (xi_row_mem hrow)
      simp only [xi_okr, Bool.and_eq_true, decide_eq_true_eq] at hr0
      obtain ⟨⟨hd, rfl⟩, hro, hrc⟩ := hr0
      split at h
      · cases h
      · -- an end
        rename_i r hx
        cases h
        unfold xi_x at hx
        split at hx
        · split at hx
          · rename_i v ty hty
            split at hx
            · rename_i hnr
              simp only [Option.some.injEq, Sum.inl.injEq, Prod.mk.injEq] at hx
              obtain ⟨rfl, rfl⟩ := hx
              obtain ⟨hx0, hbb, -⟩ := X
              intro H locs ls hR hl
              exact xi_W_mono xi_MQ_of (W.zret hx0 hbb (hret.trans hty) hnr (fun t ht hW => ⟨rfl, by rw [ht]; exact hR.1, hR.2.1.F ht⟩) (fun q hq => hR.2.1.2.2 q hq) hd hlk)
            · cases hx
          · cases hx
        · split at hx
          · rename_i v
            split at hx
            · rename_i hty
              simp only [Option.some.injEq, Sum.inl.injEq, Prod.mk.injEq] at hx
              obtain ⟨rfl, rfl⟩ := hx
              obtain ⟨hx0, hbb, -⟩ := X
              intro H locs ls hR hl
              exact xi_W_mono xi_MQ_of (W.lret hx0 hbb (hret.trans hty) (fun t ht hW => ⟨rfl, by rw [ht]; exact hR.1, hR.2.1.F ht⟩) (fun q hq => hR.2.1.2.2 q hq) hd hlk)
            · cases hx
          · cases hx
        · split at hx
          · split at hx
            · rename_i hty
              simp only [Option.some.injEq, Sum.inl.injEq, Prod.mk.injEq] at hx
              obtain ⟨rfl, rfl⟩ := hx
              obtain ⟨hx0, hbb, -⟩ := X
              intro H locs ls hR hl
              exact xi_W_mono xi_MQ_of (W.vret hx0 hbb (hret.trans hty) (fun t ht hW => ⟨rfl, by rw [ht]; exact hR.1, hR.2.1.F ht⟩) (fun q hq => hR.2.1.2.2 q hq) hd hlk)
            · cases hx
          · cases hx
        · split at hx
          · rename_i ci j a1 a2 w1 w2 w3
            split at hx
            · rename_i hq
              simp only [Option.some.injEq, Sum.inl.injEq, Prod.mk.injEq] at hx
              obtain ⟨rfl, rfl⟩ := hx
              obtain ⟨hh0, hfr, hlo, hwt, hpos⟩ := hq
              have hnoh : c.exceptionTable.toList = [] := by rw [hh0] at hhd; simpa using hhd
              simp only [xi_okc] at hrc
              split at hrc
              · rename_i Xn T N o2 b1 tx hc hj
                simp only [Bool.and_eq_true, Bool.or_eq_true, decide_eq_true_eq] at hrc
                obtain ⟨⟨⟨⟨rfl, rfl, rfl⟩, q1, q2, q3⟩, q4, q5⟩, ⟨q6, q7⟩, q8, q9⟩ := hrc
                exact xs_throw (mc := 0) (ms := 0) X hpos hst hlk (by rw [hnoh]; intro x hx; cases hx) hd q6 q7 q8 q9 hc (xi_Gm q1) (xi_Gm q2) (xi_Gm q3) hj q4 (q5.imp (fun h a ha => List.all_eq_true.mp h a ha) id) (Nat.le_refl _) (Nat.le_refl _) hfr hlo hwt (fun t ht => ht)
              · cases hrc
            · cases hx
          · cases hx
        · unfold xi_cv at hx
          repeat' split at hx
          all_goals (first | (cases hx; done) | (simp at hx; done))
        · split at hx
          · unfold xi_cs at hx
            repeat' split at hx
            all_goals (first | (cases hx; done) | (simp at hx; done))
          · cases hx
        · repeat' split at hx
          all_goals first
            | (cases hx; done)
            | (simp at hx; done)
            | (unfold xi_ci at hx; repeat' split at hx) 
          all_goals (first | (cases hx; done) | (simp at hx; done))
        · simp at hx
      · -- a call
        rename_i cM vs rest nY virt hx
        unfold xi_x at hx
        split at hx
        · repeat' split at hx
          all_goals (first | (cases hx; done) | (simp at hx; done))
        · repeat' split at hx
          all_goals (first | (cases hx; done) | (simp at hx; done))
        · repeat' split at hx
          all_goals (first | (cases hx; done) | (simp at hx; done))
        · repeat' split at hx
          all_goals (first | (cases hx; done) | (simp at hx; done))
        · -- invokevirtual
          split at hx
          · repeat' split at hx
            all_goals (first | (cases hx; done) | (simp at hx; done))
          · repeat' split at hx
            all_goals (first | (cases hx; done) | (simp at hx; done))
          · rename_i x0 cM0 n0' tl
            unfold xi_cv at hx
            split at hx
            · rename_i b rest0 Mc hdrop hMc
              split at hx
              · rename_i ci fs hb
                split at hx
                · rename_i hq
                  simp only [Option.some.injEq, Sum.inr.injEq, Sum.inl.injEq, Prod.mk.injEq] at hx
                  obtain ⟨rfl, rfl, rfl, rfl, rfl⟩ := hx
                  obtain ⟨⟨hcn, hnl, hwr, hfr1⟩, hlo1, hwv, hh0, hpos⟩ := hq
                  obtain ⟨⟨w1, w2, w3, w4, w5⟩, hy, hn⟩ := xi_okc_v hrc hMc
                  have hst0 : st = ((st.take n0').reverse).reverse ++ .ref b :: rest0 := by rw [List.reverse_reverse, ← hdrop, List.take_append_drop]
                  have hn' : (parseMethodDescriptor Mc.1.desc).map (fun d => d.parameters.length) = some ((st.take n0').reverse).length := by rw [hn, List.length_reverse, List.length_take, Nat.min_eq_left hnl]
                  obtain ⟨qc, hqc, hqn⟩ : ∃ q, xi_cl[ci]? = some q ∧ q.1 = Mc.1.cls := by
                    cases hq : xi_cl[ci]? with
                    | none => rw [hq] at hcn; simp at hcn
                    | some q => rw [hq] at hcn; exact ⟨q, rfl, by simpa using hcn⟩
                  obtain ⟨C, T, N⟩ := qc
                  simp only at hqn
                  subst hqn
                  have hpn' : plainFor Mc.1 = true := by
                    have h9 := hMs _ _ hMc
                    simp only [xi_okM, Bool.and_eq_true] at h9
                    exact h9.1
                  split at h
                  · cases h
                  · rename_i v A1 hr
                    have hK := xi_contract htr ih hMc hpn' hh0 hr hwv hpos b0 aS dA D
                    have hm1 := xi_mono Ms n _ _ _ _ _ _ _ _ _ hr
                    have hm2 := xi_mono Ms n _ _ _ _ _ _ _ _ _ h
                    rw [hst0]
                    exact xs_callV X hd hK hpos hm1.1 hm1.2 (by show A1.length - n0 ≤ A'.length - n0; omega) (by show xi_ns A1 - s0 ≤ xi_ns A' - s0; omega) (by show fr - 1 + 1 ≤ fr; omega) (by show 8 + (Mc.2.2.1 + 11) + (lo - (19 + Mc.2.2.1)) ≤ lo; omega) w1 w2 w3 w4 w5 hy hn' hb hqc hwr (ih y M fr lo _ lv _ A1 o A' hM h p e s m args below meth c b0 aS dA D n0 s0 X hret hlk hnm hhd hst)
                  · rename_i k A1 hr
                    have hK := xi_contract htr ih hMc hpn' hh0 hr hwv hpos b0 aS dA D
                    have hm1 := xi_mono Ms n _ _ _ _ _ _ _ _ _ hr
                    rw [if_pos rfl] at h
                    split at h
                    · -- it leaves
                      rename_i hnoh
                      cases h
                      have hnoh' : c.exceptionTable.toList = [] := by rw [hnoh] at hhd; simpa using hhd
                      rw [hst0]
                      intro H locs ls hR hl T0 hT0 X0
                      obtain ⟨T', L, X', hR', hgo⟩ := xi_thrown X hd hK hpos hm1.1 hm1.2 (Nat.le_refl _) (Nat.le_refl _) (by show fr - 1 + 1 ≤ fr; omega) (by show 8 + (Mc.2.2.1 + 11) + (lo - (19 + Mc.2.2.1)) ≤ lo; omega) w1 w2 w3 w4 w5 hy hn' hb hqc hwr hR hl hT0 X0
                      obtain ⟨k1, k2, k3, k4, k5⟩ := X'.leaveThrown (b0 + k) (g := F0 m pc ls (rest0.map (xi_v b0 aS))) rfl rfl rfl (by rw [hnoh']; intro x hx; cases hx) hlk
                      exact ⟨_, hgo _ k1, .threw (b0 + k), k2, k3, ⟨rfl, hR'.1, hR'.2.1.F rfl⟩, locs ++ L, ⟨k4, k5⟩, fun q hq => hR'.2.1.2.2 q hq⟩
                    · -- it is caught
                      rename_i a1 a2 hpc ct cx hs hhs
                      split at h
                      · rename_i cj fs1 hk1
                        split at h
                        · rename_i hq2
                          obtain ⟨rfl, hlo2, hhi2⟩ := hq2
                          have hm2 := xi_mono Ms n _ _ _ _ _ _ _ _ _ h
                          rw [hhs] at hhd hhok
                          simp only [List.map_cons, List.all_cons, Bool.and_eq_true] at hhd hhok
                          have hkk := ih y M fr lo hpc lv [.ref k] A1 o A' hM h p e s m args below meth c b0 aS dA D n0 s0 X hret hlk hnm (by rw [hhs]; simpa only [List.map_cons] using hhd) hst
                          obtain ⟨xe, xrest, hsplit, hxe, -⟩ : ∃ xe xrest, c.exceptionTable.toList = xe :: xrest ∧ (xe.startPc, xe.endPc, xe.handlerPc, xe.catchType) = (a1, a2, hpc, ct) ∧ True := by
                            cases hl : c.exceptionTable.toList with
                            | nil => rw [hl] at hhd; simp at hhd
                            | cons xe xrest => rw [hl] at hhd; simp only [List.map_cons, List.cons.injEq] at hhd; exact ⟨xe, xrest, rfl, hhd.1, trivial⟩
                          simp only [Prod.mk.injEq] at hxe
                          obtain ⟨rfl, rfl, rfl, rfl⟩ := hxe
                          obtain ⟨hok1, -⟩ := hhok
                          split at hok1
                          · rename_i Xn T2 N2 hcx
                            simp only [Bool.and_eq_true, decide_eq_true_eq] at hok1
                            obtain ⟨⟨hl1, hl2⟩, hl3⟩ := hok1
                            rw [hst0]
                            intro H locs ls hR hl T0 hT0 X0
                            obtain ⟨T', L, X', hR', hgo⟩ := xi_thrown X hd hK hpos hm1.1 hm1.2 (by show A1.length - n0 ≤ A'.length - n0; omega) (by show xi_ns A1 - s0 ≤ xi_ns A' - s0; omega) (by show fr - 1 + 1 ≤ fr; omega) (by show 8 + (Mc.2.2.1 + 11) + (lo - (19 + Mc.2.2.1)) ≤ lo; omega) w1 w2 w3 w4 w5 hy hn' hb hqc hwr hR hl hT0 X0
                            obtain ⟨hx0, hbb, hml, hown, hts, hKK, hstr⟩ := X
                            obtain ⟨rr, hrr, cell, g1, g2, g3, -⟩ := hR'.1 k _ (xi_w_get hk1)
                            have hcls := (hKK.1 _ _ hcx).2
                            obtain ⟨vm', X2, hgo2⟩ := xi_catch X' (b0 + k) (g := F0 m pc ls (rest0.map (xi_v b0 aS))) rfl hown hsplit (by simp only [covers, Bool.and_eq_true, decide_eq_true_eq]; exact ⟨hlo2, hhi2⟩) hl3 (hts _ (List.mem_filter.mpr ⟨hl1, hl2⟩)) hcls.1 g1 (fun q hq => by rw [g3] at hq; cases hq) (by rw [g2]; exact va_assign hcls) (by rw [g2]; obtain ⟨-, kC, hkC, -⟩ := hcls; exact ⟨kC, hkC⟩)
                            obtain ⟨t, t1, t2⟩ := hkk T'.heap (locs ++ L) ls hR' hl (T'.setVm vm') rfl X2
                            exact ⟨t, hgo _ (hgo2 _ t1), t2⟩
                          · cases hok1
                        · -- a handler behind the first
                          rename_i hno1
                          split at h
                          · rename_i b1 b2 h2 ct2 cx2 hfd
                            split at h
                            · rename_i hcov
                              obtain ⟨hq1, l1, l2, hl12, -⟩ := List.find?_eq_some_iff_append.mp hfd
                              have hcj : cx2 = cj := by simpa using hq1
                              subst hcj
                              have hm2 := xi_mono Ms n _ _ _ _ _ _ _ _ _ h
                              have hkk := ih y M fr lo h2 lv [.ref k] A1 o A' hM h p e s m args below meth c b0 aS dA D n0 s0 X hret hlk hnm hhd hst
                              have hall : M.2.2.2.2.2 = ((a1, a2, hpc, ct, cx) :: l1) ++ (b1, b2, h2, ct2, cx2) :: l2 := by rw [hhs, hl12]; rfl
                              simp only [xi_hs, Bool.and_eq_true, decide_eq_true_eq, List.all_eq_true] at hcov
                              obtain ⟨⟨-, hc1, hc2⟩, hcA⟩ := hcov
                              have hcv : ∀ q ∈ M.2.2.2.2.2, q.1 ≤ pc ∧ pc < q.2.1 := by
                                intro q hq
                                rw [hhs] at hq
                                rcases List.mem_cons.mp hq with e9 | e9
                                · rw [e9]; exact ⟨hc1, hc2⟩
                                · exact hcA q e9
                              have hokq : ∀ q ∈ M.2.2.2.2.2, ∃ Xn T2 N2, xi_cl[q.2.2.2.2]? = some (Xn, T2, N2) ∧ (Cond.classLink M.1.cls q.2.2.2.1 Xn ∈ lw_tbl ∧ goodWord (Cond.classLink M.1.cls q.2.2.2.1 Xn) = true) ∧ q.2.2.2.1 ≠ 0 := by
                                intro q hq
                                have h9 := List.all_eq_true.mp hhok q hq
                                split at h9
                                · rename_i Xn T2 N2 hcx
                                  simp only [Bool.and_eq_true, decide_eq_true_eq] at h9
                                  exact ⟨Xn, T2, N2, hcx, h9.1, h9.2⟩
                                · cases h9
                              have hqm : (b1, b2, h2, ct2, cx2) ∈ M.2.2.2.2.2 := by rw [hall]; exact List.mem_append.mpr (Or.inr List.mem_cons_self)
                              obtain ⟨Xq, Tq, Nq, hXq, hlq, hnq⟩ := hokq _ hqm
                              rw [hst0]
                              intro H locs ls hR hl T0 hT0 X0
                              obtain ⟨T', L, X', hR', hgo⟩ := xi_thrown X hd hK hpos hm1.1 hm1.2 (by show A1.length - n0 ≤ A'.length - n0; omega) (by show xi_ns A1 - s0 ≤ xi_ns A' - s0; omega) (by show fr - 1 + 1 ≤ fr; omega) (by show 8 + (Mc.2.2.1 + 11) + (lo - (19 + Mc.2.2.1)) ≤ lo; omega) w1 w2 w3 w4 w5 hy hn' hb hqc hwr hR hl hT0 X0
                              obtain ⟨hx0, hbb, hml, hown, hts, hKK, hstr⟩ := X
                              obtain ⟨rr, hrr, cell, g1, g2, g3, -⟩ := hR'.1 k _ (xi_w_get hk1)
                              have hcls := (hKK.1 _ _ hXq).2
                              have hl1 : ∀ q ∈ ((a1, a2, hpc, ct, cx) :: l1), (q.1 ≤ pc ∧ pc < q.2.1) ∧ q.2.2.2.1 ≠ 0 ∧ ∃ (nq : String) (cq : ClassId), (Cond.classLink M.1.cls q.2.2.2.1 nq).before args s = true ∧ s.vm.findClass nq = some cq ∧ s.vm.assignable cell.cls cq = false := by
                                intro q hq
                                have hqM : q ∈ M.2.2.2.2.2 := by rw [hall]; exact List.mem_append.mpr (Or.inl hq)
                                obtain ⟨Xn, T2, N2, hXn, hln, hnn⟩ := hokq q hqM
                                have hp2 := xi_hpk_at ((a1, a2, hpc, ct, cx) :: l1) (by rw [← hall]; exact hhpk) q hq
                                simp only [xi_hp2, hXq, hXn, decide_eq_true_eq] at hp2
                                obtain ⟨c1, c2, n1, n2, n3⟩ := hstr.2.2.2.2.2 _ hp2
                                have e9 : c1 = cell.cls := by
                                  rw [g2]
                                  exact Option.some.inj (n1.symm.trans hcls.1)
                                rw [e9] at n3
                                exact ⟨hcv q hqM, hnn, Xn, c2, hts _ (List.mem_filter.mpr hln), n2, n3⟩
                              obtain ⟨vm', X2, hgo2⟩ := xi_catchL X' (b0 + k) (g := F0 m pc ls (rest0.map (xi_v b0 aS))) rfl hown g1 (fun q hq => by rw [g3] at hq; cases hq) (by rw [g2]; obtain ⟨-, kC, hkC, -⟩ := hcls; exact ⟨kC, hkC⟩) (by rw [← hall]; exact hhd) hl1 ⟨hcv _ hqm, hnq⟩ (hts _ (List.mem_filter.mpr hlq)) hcls.1 (by rw [g2]; exact va_assign hcls)
                              obtain ⟨t, t1, t2⟩ := hkk T'.heap (locs ++ L) ls hR' hl (T'.setVm vm') rfl X2
                              exact ⟨t, hgo _ (hgo2 _ t1), t2⟩
                            · cases h
                          · cases h
                      · cases h
                · cases hx
              · cases hx
            · cases hx
          · cases hx
        · -- invokestatic
          split at hx
          · rename_i x0 cM0 n0' tl
            unfold xi_cs at hx
            split at hx
            · rename_i Mc hMc
              split at hx
              · rename_i hq
                simp only [Option.some.injEq, Sum.inr.injEq, Sum.inl.injEq, Prod.mk.injEq] at hx
                obtain ⟨rfl, rfl, rfl, rfl, rfl⟩ := hx
                obtain ⟨⟨hnl, hwr, hfr1⟩, hlo1, hwv, hh0, hpos⟩ := hq
                obtain ⟨⟨w1, w2, w4, w5⟩, hy, hn⟩ := xi_okc_s hrc hMc
                have hst0 : st = ((st.take n0').reverse).reverse ++ st.drop n0' := by rw [List.reverse_reverse, List.take_append_drop]
                have hn' : (parseMethodDescriptor Mc.1.desc).map (fun d => d.parameters.length) = some ((st.take n0').reverse).length := by rw [hn, List.length_reverse, List.length_take, Nat.min_eq_left hnl]
                have hpn' : plainFor Mc.1 = true := by
                  have h9 := hMs _ _ hMc
                  simp only [xi_okM, Bool.and_eq_true] at h9
                  exact h9.1
                split at h
                · cases h
                · rename_i v A1 hr
                  have hK := xi_contract htr ih hMc hpn' hh0 hr hwv hpos b0 aS dA D
                  have hm1 := xi_mono Ms n _ _ _ _ _ _ _ _ _ hr
                  have hm2 := xi_mono Ms n _ _ _ _ _ _ _ _ _ h
                  have hgoal := xs_callS X hd hK hpos hm1.1 hm1.2 (by show A1.length - n0 ≤ A'.length - n0; omega) (by show xi_ns A1 - s0 ≤ xi_ns A' - s0; omega) (by show fr - 1 + 1 ≤ fr; omega) (by show 8 + (Mc.2.2.1 + 11) + (lo - (19 + Mc.2.2.1)) ≤ lo; omega) w1 w2 w4 w5 hy hn' hwr (ih y M fr lo _ lv _ A1 o A' hM h p e s m args below meth c b0 aS dA D n0 s0 X hret hlk hnm hhd hst)
                  rw [← hst0] at hgoal
                  exact hgoal
                · rw [if_neg (by decide)] at h
                  cases h
              · cases hx
            · cases hx
          · cases hx
        · -- invokespecial
          split at hx
          · repeat' split at hx
            all_goals (first | (cases hx; done) | (simp at hx; done))
          · rename_i x0 cM0 n0' tl hne
            unfold xi_ci at hx
            split at hx
            · rename_i b rest0 Mc hdrop hMc
              split at hx
              · rename_i hq
                simp only [Option.some.injEq, Sum.inr.injEq, Sum.inl.injEq, Prod.mk.injEq] at hx
                obtain ⟨rfl, rfl, rfl, rfl, rfl⟩ := hx
                obtain ⟨⟨hnl, hwr, hfr1⟩, hlo1, hwv, hh0, hpos⟩ := hq
                obtain ⟨⟨w1, w2, w4, w5⟩, hy, hn, hnm', hrt⟩ := xi_okc_i hrc (fun a h1 h2 => hne a h1 h2) hMc
                have hst0 : st = ((st.take n0').reverse).reverse ++ .ref b :: rest0 := by rw [List.reverse_reverse, ← hdrop, List.take_append_drop]
                have hn' : (parseMethodDescriptor Mc.1.desc).map (fun d => d.parameters.length) = some ((st.take n0').reverse).length := by rw [hn, List.length_reverse, List.length_take, Nat.min_eq_left hnl]
                have hpn' : plainFor Mc.1 = true := by
                  have h9 := hMs _ _ hMc
                  simp only [xi_okM, Bool.and_eq_true] at h9
                  exact h9.1
                split at h
                · cases h
                · rename_i v A1 hr
                  have hK := xi_contract htr ih hMc hpn' hh0 hr hwv hpos b0 aS dA D
                  rw [hrt] at hK
                  have hm1 := xi_mono Ms n _ _ _ _ _ _ _ _ _ hr
                  have hm2 := xi_mono Ms n _ _ _ _ _ _ _ _ _ h
                  have hgoal := xs_callI X hd hK hpos hm1.1 hm1.2 (by show A1.length - n0 ≤ A'.length - n0; omega) (by show xi_ns A1 - s0 ≤ xi_ns A' - s0; omega) (by show fr - 1 + 1 ≤ fr; omega) (by show 8 + (Mc.2.2.1 + 11) + (lo - (19 + Mc.2.2.1)) ≤ lo; omega) w1 w2 w4 w5 hnm' hy hn' hwr (ih y M fr lo _ lv _ A1 o A' hM h p e s m args below meth c b0 aS dA D n0 s0 X hret hlk hnm hhd hst)
                  rw [← hst0] at hgoal
                  exact hgoal
                · rw [if_neg (by decide)] at h
                  cases h
              · cases hx
            · cases hx
          · cases hx
        · simp at hx
      · -- another stack
        rename_i rest hx
        unfold xi_x at hx
        split at hx
        · repeat' split at hx
          all_goals (first | (cases hx; done) | (simp at hx; done))
        · repeat' split at hx
          all_goals (first | (cases hx; done) | (simp at hx; done))
        · repeat' split at hx
          all_goals (first | (cases hx; done) | (simp at hx; done))
        · repeat' split at hx
          all_goals (first | (cases hx; done) | (simp at hx; done))
        · split at hx
          · split at hx
            · rename_i j0 r0
              split at hx
              · rename_i tt htt
                split at hx
                · rename_i hq
                  simp only [Option.some.injEq, Sum.inr.injEq] at hx
                  subst hx
                  simp only [xi_okc] at hrc
                  exact xs_strlen X htt hd (xi_okst_mem hrc) hq.2 (by show A.length - n0 ≤ A'.length - n0; have := hmono.1; omega) (by show xi_ns A - s0 ≤ xi_ns A' - s0; have := hmono.2; omega) hq.1.1 hq.1.2.1 hq.1.2.2 (ih y M fr lo _ lv _ A o A' hM h p e s m args below meth c b0 aS dA D n0 s0 X hret hlk hnm hhd hst)
                · cases hx
              · cases hx
            · cases hx
          · split at hx
            · rename_i k0 j0 r0
              split at hx
              · rename_i tt htt
                split at hx
                · rename_i zz hzz
                  split at hx
                  · rename_i hq
                    simp only [Option.some.injEq, Sum.inr.injEq] at hx
                    subst hx
                    simp only [xi_okc] at hrc
                    exact xs_strchr X htt hzz hq.2.2 hd (xi_okst_mem hrc) hq.2.1 (by show A.length - n0 ≤ A'.length - n0; have := hmono.1; omega) (by show xi_ns A - s0 ≤ xi_ns A' - s0; have := hmono.2; omega) hq.1.1 hq.1.2.1 hq.1.2.2 (ih y M fr lo _ lv _ A o A' hM h p e s m args below meth c b0 aS dA D n0 s0 X hret hlk hnm hhd hst)
                  · cases hx
                · cases hx
              · cases hx
            · cases hx
          · unfold xi_cv at hx
            repeat' split at hx
            all_goals (first | (cases hx; done) | (simp at hx; done))
          · cases hx
        · unfold xi_cs at hx
          repeat' split at hx
          all_goals (first | (cases hx; done) | (simp at hx; done))
        · split at hx
          · rename_i i1 i2 i5
            split at hx
            · split at hx
              · rename_i hq
                simp only [Option.some.injEq, Sum.inr.injEq] at hx
                subst hx
                simp only [xi_okc, Bool.and_eq_true] at hrc
                obtain ⟨⟨q1, q2⟩, q5⟩ := hrc
                exact xs_obj X hd (xi_Gm q1) (xi_Gm q2) (xi_Gm q5) hq.2.1 hq.2.2 hq.1 (ih y M fr lo _ lv _ A o A' hM h p e s m args below meth c b0 aS dA D n0 s0 X hret hlk hnm hhd hst)
              · cases hx
            · cases hx
          · unfold xi_ci at hx
            repeat' split at hx
            all_goals (first | (cases hx; done) | (simp at hx; done))
          · cases hx
        · simp at hx
      · -- a step
        rename_i hx
        split at h
        · cases h
        · rename_i pc' lv' st' A1 hs
          have hm1 := xi_s_mono hs
          have hm2 := xi_mono Ms n _ _ _ _ _ _ _ _ _ h
          exact xi_s_sound X (fun hq => hnm.trans hq) hd hro hs (by show A1.length - n0 ≤ A'.length - n0; omega) (by show xi_ns A1 - s0 ≤ xi_ns A' - s0; omega) (ih y M fr lo pc' lv' st' A1 o A' hM h p e s m args below meth c b0 aS dA D n0 s0 X hret hlk hnm hhd hst)

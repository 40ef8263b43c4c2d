theorem lw_oks {y : Nat} {Mc : xi_M} (h : xi_ms[y]? = some Mc) : plainFor Mc.1 = true := by
  have h9 := xi_oks _ _ h
  simp only [xi_okM, Bool.and_eq_true] at h9
  exact h9.1
section LW0
variable {z : xi_Z} {cc : ByteArray} {own : String} {pc : Nat} {lv : xi_L} {r : List Value} {A : xi_H}
theorem xs_tabIn {dflt lo hi : Int} {offs : Array Int} {len : Nat} {x : Int32} {off : Int} {tgt : Nat} (X : xi_X z cc own) (hd : decode cc pc = .ok (.tableswitch dflt lo hi offs, len)) (h1 : ¬ x.toInt < lo) (h2 : ¬ hi < x.toInt) (ho : offs[(x.toInt - lo).toNat]? = some off) (ht : (pc : Int) + off = (tgt : Int)) (kk : xi_At z tgt lv r A) : xi_At z pc lv (.int x :: r) A := by
  obtain ⟨p, l, e, R, s, m, args, below, meth, c, Q, nL, b0, aS, dA, D, n0, s0⟩ := z
  obtain ⟨hx, hb, -⟩ := X
  intro H locs ls hR hl
  exact lv_tableIn hx hb hd h1 h2 ho ht (kk H locs ls hR hl)
theorem xs_tabOut {dflt lo hi : Int} {offs : Array Int} {len : Nat} {x : Int32} {tgt : Nat} (X : xi_X z cc own) (hd : decode cc pc = .ok (.tableswitch dflt lo hi offs, len)) (h : x.toInt < lo ∨ hi < x.toInt) (ht : (pc : Int) + dflt = (tgt : Int)) (kk : xi_At z tgt lv r A) : xi_At z pc lv (.int x :: r) A := by
  obtain ⟨p, l, e, R, s, m, args, below, meth, c, Q, nL, b0, aS, dA, D, n0, s0⟩ := z
  obtain ⟨hx, hb, -⟩ := X
  intro H locs ls hR hl
  exact lv_tableOut hx hb hd h ht (kk H locs ls hR hl)
end LW0
section LW
variable {p : Program} {l : Launch} {e : Env} {R : Room} {s : State} {m : MethodId} {args : Array Value} {below : List Frame} {meth : Method} {c : Code} {Q : State → Prop} {nL b0 : Nat} {aS : Nat → Nat} {dA : Nat → ClassId} {D : va_G} {n0 s0 : Nat}
variable {A A' : xi_H} {cc : ByteArray} {own : String} {pc i : Nat} {lv : xi_L} {r : List Value} {xs : Nat → Int32} {L : Nat}
theorem xs_slen (X : xi_X (p, l, e, R, s, m, args, below, meth, c, Q, nL, s.heap.size, aS, dA, D, n0, s0) cc own) (hX : va_X (aS 30) L xs s s.heap) (hbl : aS 30 < s.heap.size) (hd : decode cc pc = .ok (.arraylength, 1)) (kk : xi_At (p, l, e, R, s, m, args, below, meth, c, Q, nL, s.heap.size, aS, dA, D, n0, s0) (pc + 1) lv (.int (Int32.ofNat L) :: r) A) : xi_At (p, l, e, R, s, m, args, below, meth, c, Q, nL, s.heap.size, aS, dA, D, n0, s0) pc lv (.retAddr 30 :: r) A := by
  obtain ⟨hx, hb, -⟩ := X
  intro H locs ls hR hl
  exact va_slen hx hb hX hbl (Nat.not_le.mpr hbl) hR.2.1 hd (kk H locs ls hR hl)
theorem xs_sld {i : Int32} (X : xi_X (p, l, e, R, s, m, args, below, meth, c, Q, nL, s.heap.size, aS, dA, D, n0, s0) cc own) (hX : va_X (aS 30) L xs s s.heap) (hbl : aS 30 < s.heap.size) (hd : decode cc pc = .ok (.iaload, 1)) (hin : vp_in i L) (kk : xi_At (p, l, e, R, s, m, args, below, meth, c, Q, nL, s.heap.size, aS, dA, D, n0, s0) (pc + 1) lv (.int (xs i.toNatClampNeg) :: r) A) : xi_At (p, l, e, R, s, m, args, below, meth, c, Q, nL, s.heap.size, aS, dA, D, n0, s0) pc lv (.int i :: .retAddr 30 :: r) A := by
  obtain ⟨hx, hb, -⟩ := X
  intro H locs ls hR hl
  exact va_sld hx hb hX hbl (Nat.not_le.mpr hbl) hR.2.1 hin hd (kk H locs ls hR hl)
/-- a call of a virtual method whose run is known -/
theorem lw_V (htr : ∀ e, l.admits e → e.platform.stackTraces = false) (X : xi_X (p, l, e, room_1, s, m, args, below, meth, c, Q, nL, b0, aS, dA, D, 0, 0) code R_law) {x cM n : Nat} {tail : List Nat} (hd : decode code pc = .ok (.invokevirtual i, 3)) (hk : xi_okc xi_ms R_law code pc (.invokevirtual i) (x :: cM :: n :: tail) = true) {Mc : xi_M} (hMc : xi_ms[cM]? = some Mc) (hh : Mc.2.2.2.2.2 = []) (hnY : Mc.2.2.1 ≤ 69)
    {f b : Nat} {As rest st : List Value} {v : Value} (hr : xi_go xi_ms f cM 15 560 0 (lv_args 0 (.ref b :: As)) [] A = some (.returned (some v), A')) (hn : As.length = n) (hwt : xi_wt (.ref b :: As) ≤ Mc.2.2.1) {ci : Nat} {fs : List Value} {q : vw_C} (hb : A[b]? = some (.inr (ci, fs))) (hq : xi_cl[ci]? = some q) (hqn : q.1 = Mc.1.cls)
    (hL : A'.length ≤ 601024) (hN : xi_ns A' ≤ 7293034) (h8 : (rest.map fun v => v.category).sum ≤ 8) (hst : st = As.reverse ++ .ref b :: rest)
    (kk : xi_At (p, l, e, room_1, s, m, args, below, meth, c, Q, nL, b0, aS, dA, D, 0, 0) (pc + 3) lv (v :: rest) A') : xi_At (p, l, e, room_1, s, m, args, below, meth, c, Q, nL, b0, aS, dA, D, 0, 0) pc lv st A := by
  subst hst
  obtain ⟨C, T, N⟩ := q
  obtain ⟨⟨w1, w2, w3, w4, w5⟩, hy, hn'⟩ := xi_okc_v hk hMc
  have h0 : 0 < A.length := Nat.lt_of_le_of_lt (Nat.zero_le b) (List.getElem?_eq_some_iff.mp hb).1
  have hm1 := xi_mono xi_ms f _ _ _ _ _ _ _ _ _ hr
  simp only at hqn
  subst hqn
  subst hn
  exact xs_callV X hd (xi_contract htr (xi_sound xi_oks htr f) hMc (lw_oks hMc) hh hr hwt h0 b0 aS dA D) h0 hm1.1 hm1.2 (show A'.length - 0 ≤ 601024 by omega) (show xi_ns A' - 0 ≤ 7293034 by omega) (show 15 + 1 ≤ 17 by omega) (show 8 + (Mc.2.2.1 + 11) + 560 ≤ 648 by omega) w1 w2 w3 w4 w5 hy hn' hb hq h8 kk
def lw_okW (i cM n i1 i2 i4 i5 : Nat) : Bool := match xi_ms[cM]? with
  | some (y, cy, nY, ret, _, hs) => ((xi_Gat i1 (.methodLink R_law i y) && xi_Gat i2 (.static y)) && (xi_Gat i4 (.initialized y.cls) && xi_Gat i5 (.codeWith y cy nY ret (hs.map (fun (h : Nat × Nat × Nat × Nat × Nat) => (h.1, h.2.1, h.2.2.1, h.2.2.2.1)))))) && ((decide (y.cls ≠ "java/lang/invoke/MethodHandle") && decide (y.cls ≠ "java/lang/invoke/VarHandle")) && decide ((parseMethodDescriptor y.desc).map (fun d => d.parameters.length) = some n))
  | none => false
/-- a call of a helper, which catches -/
theorem lw_W (htr : ∀ e, l.admits e → e.platform.stackTraces = false) (X : xi_X (p, l, e, room_1, s, m, args, below, meth, c, Q, nL, b0, aS, dA, D, 0, 0) code R_law) {cM n i1 i2 i4 i5 : Nat} (hd : decode code pc = .ok (.invokestatic i, 3)) (hk : lw_okW i cM n i1 i2 i4 i5 = true) {Mc : xi_M} (hMc : xi_ms[cM]? = some Mc) (hnY : Mc.2.2.1 ≤ 69)
    {f : Nat} {As rest st : List Value} {v : Value} (hr : xi_go xi_ms f cM 15 560 0 (lv_args 0 As) [] A = some (.returned (some v), A')) (hn : As.length = n) (hwt : xi_wt As ≤ Mc.2.2.1) (h0 : 0 < A.length)
    (hL : A'.length ≤ 601024) (hN : xi_ns A' ≤ 7293034) (h8 : (rest.map fun v => v.category).sum ≤ 8) (hst : st = As.reverse ++ rest)
    (kk : xi_At (p, l, e, room_1, s, m, args, below, meth, c, Q, nL, b0, aS, dA, D, 0, 0) (pc + 3) lv (v :: rest) A') : xi_At (p, l, e, room_1, s, m, args, below, meth, c, Q, nL, b0, aS, dA, D, 0, 0) pc lv st A := by
  subst hst
  have hp := lw_oks hMc
  have hm1 := xi_mono xi_ms f _ _ _ _ _ _ _ _ _ hr
  have hC := xi_contractW htr (xi_sound xi_oks htr f) hMc hp hr hwt b0 aS dA D
  obtain ⟨y, cy, nY, ret, rows, hs⟩ := Mc
  simp only [lw_okW, hMc, Bool.and_eq_true, decide_eq_true_eq] at hk
  obtain ⟨⟨⟨q1, q2⟩, q4, q5⟩, ⟨q6, q7⟩, q8⟩ := hk
  subst hn
  simp only at hnY
  exact xs_callW X hd hC h0 hm1.1 hm1.2 (show A'.length - 0 ≤ 601024 by omega) (show xi_ns A' - 0 ≤ 7293034 by omega) (show 15 + 1 ≤ 17 by omega) (show 8 + (nY + 11) + 560 ≤ 648 by omega) (xi_Gm q1) (xi_Gm q2) (xi_Gm q4) (xi_Gm q5) ⟨q6, q7⟩ q8 h8 kk
/-- a constructor -/
theorem lw_I (htr : ∀ e, l.admits e → e.platform.stackTraces = false) (X : xi_X (p, l, e, room_1, s, m, args, below, meth, c, Q, nL, b0, aS, dA, D, 0, 0) code R_law) {cM n i1 i2 i4 i5 : Nat} (hd : decode code pc = .ok (.invokespecial i, 3)) (hk : xi_okc xi_ms R_law code pc (.invokespecial i) [1, cM, n, i1, i2, i4, i5] = true) {Mc : xi_M} (hMc : xi_ms[cM]? = some Mc) (hh : Mc.2.2.2.2.2 = []) (hnY : Mc.2.2.1 ≤ 69)
    {f b : Nat} {rest st : List Value} (hr : xi_go xi_ms f cM 14 500 0 (lv_args 0 [.ref b]) [] A = some (.returned none, A')) (hn : 0 = n) (hwt : 1 ≤ Mc.2.2.1) (h0 : 0 < A.length)
    (hL : A'.length ≤ 601024) (hN : xi_ns A' ≤ 7293034) (h8 : (rest.map fun v => v.category).sum ≤ 8) (hst : st = .ref b :: rest)
    (kk : xi_At (p, l, e, room_1, s, m, args, below, meth, c, Q, nL, b0, aS, dA, D, 0, 0) (pc + 3) lv rest A') : xi_At (p, l, e, room_1, s, m, args, below, meth, c, Q, nL, b0, aS, dA, D, 0, 0) pc lv st A := by
  subst hst
  obtain ⟨⟨w1, w2, w4, w5⟩, hy, hn', hnm, hret⟩ := xi_okc_i hk (fun a h => by cases h) hMc
  have hm1 := xi_mono xi_ms f _ _ _ _ _ _ _ _ _ hr
  have hC := xi_contract htr (xi_sound xi_oks htr f) hMc (lw_oks hMc) hh hr (show xi_wt [.ref b] ≤ Mc.2.2.1 from hwt) h0 b0 aS dA D
  rw [hret] at hC
  subst hn
  exact xs_callI (As := []) X hd hC h0 hm1.1 hm1.2 (show A'.length - 0 ≤ 601024 by omega) (show xi_ns A' - 0 ≤ 7293034 by omega) (show 14 + 1 ≤ 17 by omega) (show 8 + (Mc.2.2.1 + 11) + 500 ≤ 648 by omega) w1 w2 w4 w5 hnm hy hn' h8 kk
end LW

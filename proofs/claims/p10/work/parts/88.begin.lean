section LW
variable {p : Program} {l : Launch} {e : Env} {R : Room} {s : State} {m : MethodId} {args : Array Value} {below : List Frame} {meth : Method} {c : Code} {Q : State → Prop} {nL b0 : Nat} {aS : Nat → Nat} {dA : Nat → ClassId} {D : va_G} {n0 s0 : Nat}
variable {A A' : xi_H} {cc : ByteArray} {own : String} {pc i : Nat} {lv : xi_L} {r : List Value} {xs : Nat → Int32} {L : Nat}
variable {G : Nat → Nat → Option Nat}
theorem lw_and (a : Int32) : ∃ k : Nat, k < 16 ∧ (a &&& (Int8.ofInt 15).toInt32).toInt = (k : Int) := by
  refine ⟨(a &&& (Int8.ofInt 15).toInt32).toBitVec.toNat, ?_, ?_⟩
  · have h : (a &&& (Int8.ofInt 15).toInt32).toBitVec = a.toBitVec &&& 15#32 := by rw [Int32.toBitVec_and]; rfl
    rw [h, BitVec.toNat_and]
    exact Nat.lt_of_le_of_lt Nat.and_le_right (by decide)
  · have h : (a &&& (Int8.ofInt 15).toInt32).toBitVec = a.toBitVec &&& 15#32 := by rw [Int32.toBitVec_and]; rfl
    show (a &&& (Int8.ofInt 15).toInt32).toBitVec.toInt = _
    rw [BitVec.toInt_eq_toNat_of_lt]
    rw [h, BitVec.toNat_and]
    exact Nat.lt_of_le_of_lt (Nat.mul_le_mul_left 2 Nat.and_le_right) (by decide)
set_option maxHeartbeats 1000000 in
theorem lw_sw (htr : ∀ e, l.admits e → e.platform.stackTraces = false) (X : xi_X (p, l, e, room_1, s, m, #[Value.ref (aS 30)], below, meth, c, lw_Z below #[Value.ref (aS 30)] s, 7, s.heap.size, aS, dA, D, 0, 0) code R_law) (hret : meth.sig.returnType = ret) (hlk : meth.locks = false) (hX : va_X (aS 30) L xs s s.heap) (hbl : aS 30 < s.heap.size) (hG : gg G) {i : Int} (hi : 0 ≤ i ∧ i + 6 ≤ (L : Int)) (hL : L ≤ 3072) (hn : lw_H (p, l, e, room_1, s, m, #[Value.ref (aS 30)], below, meth, c, lw_Z below #[Value.ref (aS 30)] s, 7, s.heap.size, aS, dA, D, 0, 0) G (i + 6)) {F : fl_N} {Y : xi_H} (h : iv F) (hY : lw_X i Y) {x : Int32} (hx : ∃ k : Nat, k < 16 ∧ x.toInt = (k : Int)) : xi_At (p, l, e, room_1, s, m, #[Value.ref (aS 30)], below, meth, c, lw_Z below #[Value.ref (aS 30)] s, 7, s.heap.size, aS, dA, D, 0, 0) 40 (lw_L i) [.int x] (fl_H sh_T G F ++ Y) := by
  obtain ⟨k, hk, hx⟩ := hx
  match k, hk, hx with
  | 0, _, hx => exact xs_tabIn (tgt := 104) (off := 64) X lw_d40 (by rw [hx]; decide) (by rw [hx]; decide) (by rw [hx]; rfl) (by decide) (lw_c0 htr X hret hlk hX hbl hG hi hL hn h hY)
  | 1, _, hx => exact xs_tabIn (tgt := 177) (off := 137) X lw_d40 (by rw [hx]; decide) (by rw [hx]; decide) (by rw [hx]; rfl) (by decide) (lw_c1 htr X hret hlk hX hbl hG hi hL hn h hY)
  | 2, _, hx => exact xs_tabIn (tgt := 193) (off := 153) X lw_d40 (by rw [hx]; decide) (by rw [hx]; decide) (by rw [hx]; rfl) (by decide) (lw_c2 htr X hret hlk hX hbl hG hi hL hn h hY)
  | 3, _, hx => exact xs_tabIn (tgt := 209) (off := 169) X lw_d40 (by rw [hx]; decide) (by rw [hx]; decide) (by rw [hx]; rfl) (by decide) (lw_c3 htr X hret hlk hX hbl hG hi hL hn h hY)
  | 4, _, hx => exact xs_tabIn (tgt := 222) (off := 182) X lw_d40 (by rw [hx]; decide) (by rw [hx]; decide) (by rw [hx]; rfl) (by decide) (lw_c4 htr X hret hlk hX hbl hG hi hL hn h hY)
  | 5, _, hx => exact xs_tabIn (tgt := 250) (off := 210) X lw_d40 (by rw [hx]; decide) (by rw [hx]; decide) (by rw [hx]; rfl) (by decide) (lw_c5 htr X hret hlk hX hbl hG hi hL hn h hY)
  | 6, _, hx => exact xs_tabIn (tgt := 266) (off := 226) X lw_d40 (by rw [hx]; decide) (by rw [hx]; decide) (by rw [hx]; rfl) (by decide) (lw_c6 htr X hret hlk hX hbl hG hi hL hn h hY)
  | 7, _, hx => exact xs_tabIn (tgt := 294) (off := 254) X lw_d40 (by rw [hx]; decide) (by rw [hx]; decide) (by rw [hx]; rfl) (by decide) (lw_c7 htr X hret hlk hX hbl hG hi hL hn h hY)
  | 8, _, hx => exact xs_tabIn (tgt := 334) (off := 294) X lw_d40 (by rw [hx]; decide) (by rw [hx]; decide) (by rw [hx]; rfl) (by decide) (lw_c8 htr X hret hlk hX hbl hG hi hL hn h hY)
  | 9, _, hx => exact xs_tabIn (tgt := 390) (off := 350) X lw_d40 (by rw [hx]; decide) (by rw [hx]; decide) (by rw [hx]; rfl) (by decide) (lw_c9 htr X hret hlk hX hbl hG hi hL hn h hY)
  | 10, _, hx => exact xs_tabIn (tgt := 415) (off := 375) X lw_d40 (by rw [hx]; decide) (by rw [hx]; decide) (by rw [hx]; rfl) (by decide) (lw_c10 htr X hret hlk hX hbl hG hi hL hn h hY)
  | 11, _, hx => exact xs_tabIn (tgt := 431) (off := 391) X lw_d40 (by rw [hx]; decide) (by rw [hx]; decide) (by rw [hx]; rfl) (by decide) (lw_c11 htr X hret hlk hX hbl hG hi hL hn h hY)
  | 12, _, hx => exact xs_tabOut (tgt := 459) X lw_d40 (Or.inr (by rw [hx]; decide)) (by decide) (lw_end X hn h hY (Or.inl rfl) rfl (fun q hq => hq))
  | 13, _, hx => exact xs_tabOut (tgt := 459) X lw_d40 (Or.inr (by rw [hx]; decide)) (by decide) (lw_end X hn h hY (Or.inl rfl) rfl (fun q hq => hq))
  | 14, _, hx => exact xs_tabOut (tgt := 459) X lw_d40 (Or.inr (by rw [hx]; decide)) (by decide) (lw_end X hn h hY (Or.inl rfl) rfl (fun q hq => hq))
  | 15, _, hx => exact xs_tabOut (tgt := 459) X lw_d40 (Or.inr (by rw [hx]; decide)) (by decide) (lw_end X hn h hY (Or.inl rfl) rfl (fun q hq => hq))
  | k + 16, hk, _ => exact absurd hk (by omega)
theorem lw_cmp {L : Nat} {i : Int} (hL : L ≤ 3072) (hi : 0 ≤ i ∧ i ≤ 3078) : (Int32.ofNat L - (Int8.ofInt 6).toInt32 < Int32.ofInt i) ↔ (L : Int) - 6 < i := by
  rw [xi_ofN, show (Int8.ofInt 6).toInt32 = Int32.ofInt 6 by decide, fl_sub]
  exact fl_lt ⟨by omega, by omega⟩ ⟨by omega, by omega⟩
theorem lw_loop (htr : ∀ e, l.admits e → e.platform.stackTraces = false) (X : xi_X (p, l, e, room_1, s, m, #[Value.ref (aS 30)], below, meth, c, lw_Z below #[Value.ref (aS 30)] s, 7, s.heap.size, aS, dA, D, 0, 0) code R_law) (hret : meth.sig.returnType = ret) (hlk : meth.locks = false) (hX : va_X (aS 30) L xs s s.heap) (hbl : aS 30 < s.heap.size) (hG : gg G) (hL : L ≤ 3072) : ∀ (n : Nat) (i : Int), 0 ≤ i → (L : Int) + 6 - i ≤ (n : Int) → i ≤ (L : Int) + 5 → lw_H (p, l, e, room_1, s, m, #[Value.ref (aS 30)], below, meth, c, lw_Z below #[Value.ref (aS 30)] s, 7, s.heap.size, aS, dA, D, 0, 0) G i := by
  intro n
  induction n with
  | zero => intro i h0 h1 h2; exact absurd h1 (by omega)
  | succ n ih =>
    intro i h0 h1 h2 F Y h hY
    refine xs_iload (x := Int32.ofInt i) X lw_d23 rfl ?_
    refine xs_aload_n (v := .retAddr 30) X lw_d25 rfl rfl ?_
    refine xs_slen X hX hbl lw_d26 ?_
    refine xs_bipush X lw_d27 ?_
    refine xs_isub X lw_d29 ?_
    refine xs_icmp_gt (tgt := 465) X lw_d30 (by decide) ?_
    by_cases hc : (L : Int) - 6 < i
    · rw [if_pos ((lw_cmp hL ⟨h0, by omega⟩).mpr hc)]
      exact lw_fin X hret hlk (lw_room hY (by omega))
    · rw [if_neg (fun h9 => hc ((lw_cmp hL ⟨h0, by omega⟩).mp h9))]
      refine xs_aload_n (v := .retAddr 30) X lw_d33 rfl rfl ?_
      refine xs_iload (x := Int32.ofInt i) X lw_d34 rfl ?_
      refine xs_sld X hX hbl lw_d36 (fl_in h0 (by omega) (by omega)) ?_
      refine xs_bipush X lw_d37 ?_
      refine xs_iand X lw_d39 ?_
      exact lw_sw htr X hret hlk hX hbl hG ⟨h0, by omega⟩ hL (ih (i + 6) (by omega) (by omega) (by omega)) h hY (lw_and _)
set_option maxHeartbeats 1000000 in
theorem lw_begin (htr : ∀ e, l.admits e → e.platform.stackTraces = false) (X : xi_X (p, l, e, room_1, s, m, #[Value.ref (aS 30)], below, meth, c, lw_Z below #[Value.ref (aS 30)] s, 7, s.heap.size, aS, dA, D, 0, 0) code R_law) (hret : meth.sig.returnType = ret) (hlk : meth.locks = false) (hX : va_X (aS 30) L xs s s.heap) (hbl : aS 30 < s.heap.size) (hL : L ≤ 3072) : xi_At (p, l, e, room_1, s, m, #[Value.ref (aS 30)], below, meth, c, lw_Z below #[Value.ref (aS 30)] s, 7, s.heap.size, aS, dA, D, 0, 0) 0 (lv_args 0 [.retAddr 30]) [] [] := by
  have h := e_chk_ok
  simp only [e_chk, Bool.and_eq_true, decide_eq_true_eq] at h
  obtain ⟨⟨q1, q2⟩, ⟨hl1, hl2⟩, hn1, hn2⟩ := h
  have r1 : xi_go xi_ms 2000 0 14 500 0 (lv_args 0 [.ref 0]) [] [.inr (0, xi_df 0)] = some (.returned none, e_A1) := xi_isv_eq q1
  have r2 : xi_go xi_ms 2000 44 14 500 0 (lv_args 0 [.ref 344]) [] (e_A1 ++ [.inr (13, xi_df 13)]) = some (.returned none, e_A2) := xi_isv_eq q2
  have hl3 : (e_A1 ++ [(.inr (13, xi_df 13) : xi_E)]).length = 345 := by rw [List.length_append, hl1]; rfl
  have hn3 : xi_ns (e_A1 ++ [(.inr (13, xi_df 13) : xi_E)]) = 12797 + (xi_df 13).length := by rw [xi_ns_push, hn1]; rfl
  have hdf : (xi_df 13).length = 71 := by decide
  refine xs_new (ci := 0) (C := "CheapPlanner") (T := xi_fT 0) (N := 13) X lw_d0 rfl (xi_Gm (ix := 1029) (by decide +kernel)) (xi_Gm (ix := 1030) (by decide +kernel)) (xi_Gm (ix := 1001) (by decide +kernel)) (by decide) (show 1 ≤ 601024 by decide) (show 13 ≤ 7293034 by decide) ?_
  show xi_At _ (0 + 3) _ [.ref 0] [.inr (0, xi_df 0)]
  refine xs_dup X lw_d3 rfl ?_
  refine lw_I (rest := [.ref 0]) (cM := 0) (n := 0) (i1 := 1031) (i2 := 1032) (i4 := 1001) (i5 := 1033) htr X lw_d4 (by decide +kernel) (Mc := xi_m0) rfl rfl (show 1 ≤ 69 by decide) r1 rfl (show 1 ≤ 1 by decide) (show 0 < 1 by decide) (by omega) (by omega) (show 1 ≤ 8 by decide) rfl ?_
  refine xs_astore_n (i := 1) X lw_d7 rfl (show 1 < 7 by decide) ?_
  refine xs_new (ci := 13) (C := "CheapPlannerModel") (T := xi_fT 13) (N := 71) X lw_d8 rfl (xi_Gm (ix := 5197) (by decide +kernel)) (xi_Gm (ix := 5198) (by decide +kernel)) (xi_Gm (ix := 1014) (by decide +kernel)) (by decide) (show (e_A1 ++ [(.inr (13, xi_df 13) : xi_E)]).length - 0 ≤ 601024 by omega) (show xi_ns (e_A1 ++ [(.inr (13, xi_df 13) : xi_E)]) - 0 ≤ 7293034 by omega) ?_
  rw [hl1]
  refine xs_dup X lw_d11 rfl ?_
  refine lw_I (rest := [.ref 344]) (cM := 44) (n := 0) (i1 := 5199) (i2 := 5200) (i4 := 1014) (i5 := 5201) htr X lw_d12 (by decide +kernel) (Mc := xi_m44) rfl rfl (show 1 ≤ 69 by decide) r2 rfl (show 1 ≤ 1 by decide) (by omega) (by omega) (by omega) (show 1 ≤ 8 by decide) rfl ?_
  refine xs_astore_n (i := 2) X lw_d15 rfl (show 2 < 7 by decide) ?_
  refine xs_iconst X lw_d16 ?_
  have hA3l : (e_A2 ++ [(.inl (1, ((Int32.ofInt 1).toNatClampNeg, .inr (.inl (fun _ => 0)))) : xi_E)]).length = 387 := by rw [List.length_append, hl2]; rfl
  have hA3n : xi_ns (e_A2 ++ [(.inl (1, ((Int32.ofInt 1).toNatClampNeg, .inr (.inl (fun _ => 0)))) : xi_E)]) = 17827 := by rw [xi_ns_push, hn2]; rfl
  refine xs_newa_long X lw_d17 (xi_Gm (ix := 1073) (by decide +kernel)) (by decide) (Nat.le_of_ble_eq_true rfl) (by show _ - 0 ≤ 601024; rw [hA3l]; omega) (by show _ - 0 ≤ 7293034; rw [hA3n]; omega) ?_
  rw [hl2]
  refine xs_astore_n (i := 3) X lw_d19 rfl (show 3 < 7 by decide) ?_
  refine xs_iconst X lw_d20 ?_
  refine xs_istore X lw_d21 (show 4 < 7 by decide) ?_
  exact e_cg (lw_loop htr X hret hlk hX hbl e_gg hL (L + 6) 0 (by omega) (by omega) (by omega) ra_at [] iv_0 ⟨by simp, by simp [xi_ns]⟩)
end LW

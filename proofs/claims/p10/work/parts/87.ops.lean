section LW
variable {p : Program} {l : Launch} {e : Env} {R : Room} {s : State} {m : MethodId} {args : Array Value} {below : List Frame} {meth : Method} {c : Code} {Q : State → Prop} {nL b0 : Nat} {aS : Nat → Nat} {dA : Nat → ClassId} {D : va_G} {n0 s0 : Nat}
variable {A A' : xi_H} {cc : ByteArray} {own : String} {pc i : Nat} {lv : xi_L} {r : List Value} {xs : Nat → Int32} {L : Nat}
variable {G : Nat → Nat → Option Nat}
theorem xi_At_sub {z : xi_Z} {lv lv' : xi_L} {st : List Value} {A : xi_H} {pc : Nat} (h : ∀ q ∈ lv', q ∈ lv) (kk : xi_At z pc lv' st A) : xi_At z pc lv st A := by
  obtain ⟨p, l, e, R, s, m, args, below, meth, c, Q, nL, b0, aS, dA, D, n0, s0⟩ := z
  intro H locs ls hR hl
  refine kk H locs ls hR ⟨hl.1, hl.2.1, fun q hq => ?_⟩
  obtain ⟨q0, hq0, rfl⟩ := List.mem_map.mp hq
  exact hl.2.2 _ (List.mem_map.mpr ⟨q0, h q0 hq0, rfl⟩)
def lw_L (i : Int) : xi_L := [(4, .int (Int32.ofInt i)), (3, .ref 386), (2, .ref 344), (1, .ref 0), (0, .retAddr 30)]
def lw_X (i : Int) (Y : xi_H) : Prop := 6 * (Y.length : Int) ≤ i ∧ xi_ns Y ≤ 6 * Y.length
theorem lw_X1 {i : Int} {Y Y1 : xi_H} (h : lw_X i Y) (h1 : Y1 = Y ∨ ∃ ci, Y1 = Y ++ [gx ci]) : lw_X (i + 6) Y1 := by
  rcases h1 with e | ⟨ci, e⟩
  · subst e
    exact ⟨by have := h.1; omega, h.2⟩
  · subst e
    refine ⟨?_, ?_⟩
    · rw [List.length_append]
      have := h.1
      simp
      omega
    · rw [xi_ns_push, List.length_append]
      have := h.2
      show xi_ns Y + 6 ≤ 6 * (Y.length + 1)
      omega
theorem lw_room {i : Int} {F : fl_N} {Y : xi_H} (h : lw_X i Y) (hi : i ≤ 3078) : (fl_H sh_T G F ++ Y).length ≤ 601024 ∧ xi_ns (fl_H sh_T G F ++ Y) ≤ 7293034 := by
  have h1 := h.1
  have h2 := h.2
  rw [ga_len, ns_app, ns_H]
  omega
theorem lw_fin (X : xi_X (p, l, e, room_1, s, m, #[Value.ref (aS 30)], below, meth, c, lw_Z below #[Value.ref (aS 30)] s, 7, s.heap.size, aS, dA, D, 0, 0) code R_law) (hret : meth.sig.returnType = ret) (hlk : meth.locks = false) (hA : A.length ≤ 601024 ∧ xi_ns A ≤ 7293034) : xi_At (p, l, e, room_1, s, m, #[Value.ref (aS 30)], below, meth, c, lw_Z below #[Value.ref (aS 30)] s, 7, s.heap.size, aS, dA, D, 0, 0) 465 lv [] A := by
  obtain ⟨hL, hN⟩ := hA
  refine xs_iconst X lw_d465 ?_
  obtain ⟨hx, hb, -⟩ := X
  intro H locs ls hR hl
  exact va_forget (fun q hq => hR.2.1.2.2 q hq) (W.widen (show A.length - 0 ≤ 601024 by omega) (show xi_ns A - 0 ≤ 7293034 by omega) (lw_ret hx hb hret hlk lw_d466))
def lw_H (z : xi_Z) (G : Nat → Nat → Option Nat) (i : Int) : Prop := ∀ (F : fl_N) (Y : xi_H), iv F → lw_X i Y → xi_At z 23 (lw_L i) [] (fl_H sh_T G F ++ Y)
theorem lw_end {i : Int} (X : xi_X (p, l, e, room_1, s, m, #[Value.ref (aS 30)], below, meth, c, lw_Z below #[Value.ref (aS 30)] s, 7, s.heap.size, aS, dA, D, 0, 0) code R_law) (hn : lw_H (p, l, e, room_1, s, m, #[Value.ref (aS 30)], below, meth, c, lw_Z below #[Value.ref (aS 30)] s, 7, s.heap.size, aS, dA, D, 0, 0) G (i + 6)) {F : fl_N} {Y Y1 : xi_H} {lv : xi_L} (h : iv F) (hY : lw_X i Y) (hY1 : Y1 = Y ∨ ∃ ci, Y1 = Y ++ [gx ci]) (h4 : xi_get lv 4 = some (.int (Int32.ofInt i))) (hs : ∀ q ∈ lw_L (i + 6), q ∈ xi_put1 lv 4 (.int (Int32.ofInt (i + 6)))) : xi_At (p, l, e, room_1, s, m, #[Value.ref (aS 30)], below, meth, c, lw_Z below #[Value.ref (aS 30)] s, 7, s.heap.size, aS, dA, D, 0, 0) 459 lv [] (fl_H sh_T G F ++ Y1) := by
  refine xs_iinc X lw_d459 h4 (show 4 < 7 by omega) ?_
  refine xs_goto (tgt := 23) X lw_d462 (by decide) ?_
  rw [fl_add]
  exact xi_At_sub hs (hn F Y1 h (lw_X1 hY hY1))
theorem lw_sub {i : Int} {a b : Value} : ∀ q ∈ lw_L (i + 6), q ∈ xi_put1 ((6, a) :: (5, b) :: lw_L i) 4 (.int (Int32.ofInt (i + 6))) := by
  intro q hq
  simp only [lw_L, List.mem_cons, List.not_mem_nil, or_false] at hq
  rcases hq with rfl | rfl | rfl | rfl | rfl
  · exact List.mem_cons_self
  · exact List.mem_cons_of_mem _ (List.mem_filter.mpr ⟨by simp [lw_L], rfl⟩)
  · exact List.mem_cons_of_mem _ (List.mem_filter.mpr ⟨by simp [lw_L], rfl⟩)
  · exact List.mem_cons_of_mem _ (List.mem_filter.mpr ⟨by simp [lw_L], rfl⟩)
  · exact List.mem_cons_of_mem _ (List.mem_filter.mpr ⟨by simp [lw_L], rfl⟩)
theorem lw_cm {a b : Int64} (h : a = b) : lg_cmp a b = 0 := by
  subst h
  unfold lg_cmp
  rw [if_neg (by simp), if_pos rfl]
theorem lw_rg (x : Int32) : -2147483648 ≤ x.toInt ∧ x.toInt ≤ 2147483647 := ⟨by have h := Int32.le_toInt x; omega, by have h := Int32.toInt_lt x; omega⟩
set_option maxHeartbeats 4000000 in
theorem lw_c0 (htr : ∀ e, l.admits e → e.platform.stackTraces = false) (X : xi_X (p, l, e, room_1, s, m, #[Value.ref (aS 30)], below, meth, c, lw_Z below #[Value.ref (aS 30)] s, 7, s.heap.size, aS, dA, D, 0, 0) code R_law) (hret : meth.sig.returnType = ret) (hlk : meth.locks = false) (hX : va_X (aS 30) L xs s s.heap) (hbl : aS 30 < s.heap.size) (hG : gg G) {i : Int} (hi : 0 ≤ i ∧ i + 6 ≤ (L : Int)) (hL : L ≤ 3072) (hn : lw_H (p, l, e, room_1, s, m, #[Value.ref (aS 30)], below, meth, c, lw_Z below #[Value.ref (aS 30)] s, 7, s.heap.size, aS, dA, D, 0, 0) G (i + 6)) {F : fl_N} {Y : xi_H} (h : iv F) (hY : lw_X i Y) : xi_At (p, l, e, room_1, s, m, #[Value.ref (aS 30)], below, meth, c, lw_Z below #[Value.ref (aS 30)] s, 7, s.heap.size, aS, dA, D, 0, 0) 104 (lw_L i) [] (fl_H sh_T G F ++ Y) := by
  have hop := op_0 (X := Y) hG h (xs (Int32.ofInt i + Int32.ofInt 1).toNatClampNeg).toInt (xs (Int32.ofInt i + Int32.ofInt 2).toNatClampNeg).toInt (xs (Int32.ofInt i + Int32.ofInt 3).toNatClampNeg).toInt (xs (Int32.ofInt i + Int32.ofInt 4).toNatClampNeg).toInt (xs (Int32.ofInt i + Int32.ofInt 5).toNatClampNeg).toInt 
  simp only [Int32.ofInt_toInt] at hop
  obtain ⟨f1, z1, F1, Y1, r1, hY1, f2, z2, F2, r2, h2, hz⟩ := hop
  have hR1 := lw_room (G := G) (F := F1) (lw_X1 hY hY1) (by omega)
  have hR2 := lw_room (G := G) (F := F2) (lw_X1 hY hY1) (by omega)
  refine xs_aload_n (v := .ref 0) X lw_d104 rfl rfl ?_
  refine xs_aload_n (v := .retAddr 30) X lw_d105 rfl rfl ?_
  refine xs_iload (x := Int32.ofInt i) X lw_d106 rfl ?_
  refine xs_iconst X lw_d108 ?_
  refine xs_iadd X lw_d109 ?_
  refine xs_sld X hX hbl lw_d110 (by rw [fl_add]; exact fl_in (by omega) (by omega) (by omega)) ?_
  refine xs_aload_n (v := .retAddr 30) X lw_d111 rfl rfl ?_
  refine xs_iload (x := Int32.ofInt i) X lw_d112 rfl ?_
  refine xs_iconst X lw_d114 ?_
  refine xs_iadd X lw_d115 ?_
  refine xs_sld X hX hbl lw_d116 (by rw [fl_add]; exact fl_in (by omega) (by omega) (by omega)) ?_
  refine xs_aload_n (v := .retAddr 30) X lw_d117 rfl rfl ?_
  refine xs_iload (x := Int32.ofInt i) X lw_d118 rfl ?_
  refine xs_iconst X lw_d120 ?_
  refine xs_iadd X lw_d121 ?_
  refine xs_sld X hX hbl lw_d122 (by rw [fl_add]; exact fl_in (by omega) (by omega) (by omega)) ?_
  refine xs_aload_n (v := .retAddr 30) X lw_d123 rfl rfl ?_
  refine xs_iload (x := Int32.ofInt i) X lw_d124 rfl ?_
  refine xs_iconst X lw_d126 ?_
  refine xs_iadd X lw_d127 ?_
  refine xs_sld X hX hbl lw_d128 (by rw [fl_add]; exact fl_in (by omega) (by omega) (by omega)) ?_
  refine xs_aload_n (v := .retAddr 30) X lw_d129 rfl rfl ?_
  refine xs_iload (x := Int32.ofInt i) X lw_d130 rfl ?_
  refine xs_iconst X lw_d132 ?_
  refine xs_iadd X lw_d133 ?_
  refine xs_sld X hX hbl lw_d134 (by rw [fl_add]; exact fl_in (by omega) (by omega) (by omega)) ?_
  refine lw_V (x := 0) (cM := 1) (n := 5) (tail := [2226, 2227, 2228, 1001, 2229]) (rest := []) htr X lw_d135 (by decide +kernel) (Mc := xi_m1) rfl rfl (show 8 ≤ 69 by decide) r1 rfl (Nat.le_of_ble_eq_true rfl) (fl_ob sc_0) (q := ("CheapPlanner", xi_fT 0, 13)) rfl rfl hR1.1 hR1.2 (Nat.le_of_ble_eq_true rfl) rfl ?_
  refine xs_pop X lw_d138 rfl ?_
  refine xs_aload_n (v := .ref 344) X lw_d139 rfl rfl ?_
  refine xs_aload_n (v := .retAddr 30) X lw_d140 rfl rfl ?_
  refine xs_iload (x := Int32.ofInt i) X lw_d141 rfl ?_
  refine xs_iconst X lw_d143 ?_
  refine xs_iadd X lw_d144 ?_
  refine xs_sld X hX hbl lw_d145 (by rw [fl_add]; exact fl_in (by omega) (by omega) (by omega)) ?_
  refine xs_aload_n (v := .retAddr 30) X lw_d146 rfl rfl ?_
  refine xs_iload (x := Int32.ofInt i) X lw_d147 rfl ?_
  refine xs_iconst X lw_d149 ?_
  refine xs_iadd X lw_d150 ?_
  refine xs_sld X hX hbl lw_d151 (by rw [fl_add]; exact fl_in (by omega) (by omega) (by omega)) ?_
  refine xs_aload_n (v := .retAddr 30) X lw_d152 rfl rfl ?_
  refine xs_iload (x := Int32.ofInt i) X lw_d153 rfl ?_
  refine xs_iconst X lw_d155 ?_
  refine xs_iadd X lw_d156 ?_
  refine xs_sld X hX hbl lw_d157 (by rw [fl_add]; exact fl_in (by omega) (by omega) (by omega)) ?_
  refine xs_aload_n (v := .retAddr 30) X lw_d158 rfl rfl ?_
  refine xs_iload (x := Int32.ofInt i) X lw_d159 rfl ?_
  refine xs_iconst X lw_d161 ?_
  refine xs_iadd X lw_d162 ?_
  refine xs_sld X hX hbl lw_d163 (by rw [fl_add]; exact fl_in (by omega) (by omega) (by omega)) ?_
  refine xs_aload_n (v := .retAddr 30) X lw_d164 rfl rfl ?_
  refine xs_iload (x := Int32.ofInt i) X lw_d165 rfl ?_
  refine xs_iconst X lw_d167 ?_
  refine xs_iadd X lw_d168 ?_
  refine xs_sld X hX hbl lw_d169 (by rw [fl_add]; exact fl_in (by omega) (by omega) (by omega)) ?_
  refine lw_V (x := 0) (cM := 46) (n := 5) (tail := [6223, 6224, 6225, 1014, 6226]) (rest := []) htr X lw_d170 (by decide +kernel) (Mc := xi_m46) rfl rfl (show 10 ≤ 69 by decide) r2 rfl (Nat.le_of_ble_eq_true rfl) (fl_ob sc_344) (q := ("CheapPlannerModel", xi_fT 13, 71)) rfl rfl hR2.1 hR2.2 (Nat.le_of_ble_eq_true rfl) rfl ?_
  refine xs_pop X lw_d173 rfl ?_
  refine xs_goto (tgt := 459) X lw_d174 (by decide) ?_
  exact lw_end X hn h2 hY hY1 rfl (fun q hq => hq)
set_option maxHeartbeats 4000000 in
theorem lw_c1 (htr : ∀ e, l.admits e → e.platform.stackTraces = false) (X : xi_X (p, l, e, room_1, s, m, #[Value.ref (aS 30)], below, meth, c, lw_Z below #[Value.ref (aS 30)] s, 7, s.heap.size, aS, dA, D, 0, 0) code R_law) (hret : meth.sig.returnType = ret) (hlk : meth.locks = false) (hX : va_X (aS 30) L xs s s.heap) (hbl : aS 30 < s.heap.size) (hG : gg G) {i : Int} (hi : 0 ≤ i ∧ i + 6 ≤ (L : Int)) (hL : L ≤ 3072) (hn : lw_H (p, l, e, room_1, s, m, #[Value.ref (aS 30)], below, meth, c, lw_Z below #[Value.ref (aS 30)] s, 7, s.heap.size, aS, dA, D, 0, 0) G (i + 6)) {F : fl_N} {Y : xi_H} (h : iv F) (hY : lw_X i Y) : xi_At (p, l, e, room_1, s, m, #[Value.ref (aS 30)], below, meth, c, lw_Z below #[Value.ref (aS 30)] s, 7, s.heap.size, aS, dA, D, 0, 0) 177 (lw_L i) [] (fl_H sh_T G F ++ Y) := by
  have hop := op_1 (X := Y) hG h  
  obtain ⟨f1, z1, F1, Y1, r1, hY1, f2, z2, F2, r2, h2, hz⟩ := hop
  have hR1 := lw_room (G := G) (F := F1) (lw_X1 hY hY1) (by omega)
  have hR2 := lw_room (G := G) (F := F2) (lw_X1 hY hY1) (by omega)
  refine xs_aload_n (v := .ref 0) X lw_d177 rfl rfl ?_
  refine xs_aload_n (v := .ref 386) X lw_d178 rfl rfl ?_
  refine lw_W (cM := 74) (n := 2) (i1 := 3022) (i2 := 3023) (i4 := 1000) (i5 := 3024) (rest := []) htr X lw_d179 (by decide +kernel) (Mc := xi_m74) rfl (show 3 ≤ 69 by decide) r1 rfl (Nat.le_of_ble_eq_true rfl) (fl_pos sc_0) hR1.1 hR1.2 (show 0 ≤ 8 by decide) rfl ?_
  refine xs_istore X lw_d182 (show 5 < 7 by omega) ?_
  refine xs_aload_n (v := .ref 344) X lw_d184 rfl rfl ?_
  refine lw_V (x := 0) (cM := 63) (n := 0) (tail := [6230, 6231, 6232, 1014, 6233]) (rest := []) htr X lw_d185 (by decide +kernel) (Mc := xi_m63) rfl rfl (show 1 ≤ 69 by decide) r2 rfl (Nat.le_of_ble_eq_true rfl) (fl_ob sc_344) (q := ("CheapPlannerModel", xi_fT 13, 71)) rfl rfl hR2.1 hR2.2 (Nat.le_of_ble_eq_true rfl) rfl ?_
  refine xs_istore X lw_d188 (show 6 < 7 by omega) ?_
  refine xs_goto (tgt := 459) X lw_d190 (by decide) ?_
  exact lw_end X hn h2 hY hY1 rfl (lw_sub)
set_option maxHeartbeats 4000000 in
theorem lw_c2 (htr : ∀ e, l.admits e → e.platform.stackTraces = false) (X : xi_X (p, l, e, room_1, s, m, #[Value.ref (aS 30)], below, meth, c, lw_Z below #[Value.ref (aS 30)] s, 7, s.heap.size, aS, dA, D, 0, 0) code R_law) (hret : meth.sig.returnType = ret) (hlk : meth.locks = false) (hX : va_X (aS 30) L xs s s.heap) (hbl : aS 30 < s.heap.size) (hG : gg G) {i : Int} (hi : 0 ≤ i ∧ i + 6 ≤ (L : Int)) (hL : L ≤ 3072) (hn : lw_H (p, l, e, room_1, s, m, #[Value.ref (aS 30)], below, meth, c, lw_Z below #[Value.ref (aS 30)] s, 7, s.heap.size, aS, dA, D, 0, 0) G (i + 6)) {F : fl_N} {Y : xi_H} (h : iv F) (hY : lw_X i Y) : xi_At (p, l, e, room_1, s, m, #[Value.ref (aS 30)], below, meth, c, lw_Z below #[Value.ref (aS 30)] s, 7, s.heap.size, aS, dA, D, 0, 0) 193 (lw_L i) [] (fl_H sh_T G F ++ Y) := by
  have hop := op_2 (X := Y) hG h  
  obtain ⟨f1, z1, F1, Y1, r1, hY1, f2, z2, F2, r2, h2, hz⟩ := hop
  have hR1 := lw_room (G := G) (F := F1) (lw_X1 hY hY1) (by omega)
  have hR2 := lw_room (G := G) (F := F2) (lw_X1 hY hY1) (by omega)
  refine xs_aload_n (v := .ref 0) X lw_d193 rfl rfl ?_
  refine xs_aload_n (v := .ref 386) X lw_d194 rfl rfl ?_
  refine lw_W (cM := 75) (n := 2) (i1 := 4095) (i2 := 4096) (i4 := 1000) (i5 := 4097) (rest := []) htr X lw_d195 (by decide +kernel) (Mc := xi_m75) rfl (show 3 ≤ 69 by decide) r1 rfl (Nat.le_of_ble_eq_true rfl) (fl_pos sc_0) hR1.1 hR1.2 (show 0 ≤ 8 by decide) rfl ?_
  refine xs_istore X lw_d198 (show 5 < 7 by omega) ?_
  refine xs_aload_n (v := .ref 344) X lw_d200 rfl rfl ?_
  refine lw_V (x := 0) (cM := 64) (n := 0) (tail := [7118, 7119, 7120, 1014, 7121]) (rest := []) htr X lw_d201 (by decide +kernel) (Mc := xi_m64) rfl rfl (show 3 ≤ 69 by decide) r2 rfl (Nat.le_of_ble_eq_true rfl) (fl_ob sc_344) (q := ("CheapPlannerModel", xi_fT 13, 71)) rfl rfl hR2.1 hR2.2 (Nat.le_of_ble_eq_true rfl) rfl ?_
  refine xs_istore X lw_d204 (show 6 < 7 by omega) ?_
  refine xs_goto (tgt := 459) X lw_d206 (by decide) ?_
  exact lw_end X hn h2 hY hY1 rfl (lw_sub)
set_option maxHeartbeats 4000000 in
theorem lw_c3 (htr : ∀ e, l.admits e → e.platform.stackTraces = false) (X : xi_X (p, l, e, room_1, s, m, #[Value.ref (aS 30)], below, meth, c, lw_Z below #[Value.ref (aS 30)] s, 7, s.heap.size, aS, dA, D, 0, 0) code R_law) (hret : meth.sig.returnType = ret) (hlk : meth.locks = false) (hX : va_X (aS 30) L xs s s.heap) (hbl : aS 30 < s.heap.size) (hG : gg G) {i : Int} (hi : 0 ≤ i ∧ i + 6 ≤ (L : Int)) (hL : L ≤ 3072) (hn : lw_H (p, l, e, room_1, s, m, #[Value.ref (aS 30)], below, meth, c, lw_Z below #[Value.ref (aS 30)] s, 7, s.heap.size, aS, dA, D, 0, 0) G (i + 6)) {F : fl_N} {Y : xi_H} (h : iv F) (hY : lw_X i Y) : xi_At (p, l, e, room_1, s, m, #[Value.ref (aS 30)], below, meth, c, lw_Z below #[Value.ref (aS 30)] s, 7, s.heap.size, aS, dA, D, 0, 0) 209 (lw_L i) [] (fl_H sh_T G F ++ Y) := by
  have hop := op_3 (X := Y) hG h  
  obtain ⟨f1, z1, F1, Y1, r1, hY1, f2, z2, F2, r2, h2, hz⟩ := hop
  have hR1 := lw_room (G := G) (F := F1) (lw_X1 hY hY1) (by omega)
  have hR2 := lw_room (G := G) (F := F2) (lw_X1 hY hY1) (by omega)
  refine xs_aload_n (v := .ref 0) X lw_d209 rfl rfl ?_
  refine lw_V (x := 0) (cM := 4) (n := 0) (tail := [3006, 3007, 3008, 1001, 3009]) (rest := []) htr X lw_d210 (by decide +kernel) (Mc := xi_m4) rfl rfl (show 1 ≤ 69 by decide) r1 rfl (Nat.le_of_ble_eq_true rfl) (fl_ob sc_0) (q := ("CheapPlanner", xi_fT 0, 13)) rfl rfl hR1.1 hR1.2 (Nat.le_of_ble_eq_true rfl) rfl ?_
  refine xs_pop X lw_d213 rfl ?_
  refine xs_aload_n (v := .ref 344) X lw_d214 rfl rfl ?_
  refine lw_V (x := 0) (cM := 65) (n := 0) (tail := [7114, 7115, 7116, 1014, 7117]) (rest := []) htr X lw_d215 (by decide +kernel) (Mc := xi_m65) rfl rfl (show 1 ≤ 69 by decide) r2 rfl (Nat.le_of_ble_eq_true rfl) (fl_ob sc_344) (q := ("CheapPlannerModel", xi_fT 13, 71)) rfl rfl hR2.1 hR2.2 (Nat.le_of_ble_eq_true rfl) rfl ?_
  refine xs_pop X lw_d218 rfl ?_
  refine xs_goto (tgt := 459) X lw_d219 (by decide) ?_
  exact lw_end X hn h2 hY hY1 rfl (fun q hq => hq)
set_option maxHeartbeats 4000000 in
theorem lw_c4 (htr : ∀ e, l.admits e → e.platform.stackTraces = false) (X : xi_X (p, l, e, room_1, s, m, #[Value.ref (aS 30)], below, meth, c, lw_Z below #[Value.ref (aS 30)] s, 7, s.heap.size, aS, dA, D, 0, 0) code R_law) (hret : meth.sig.returnType = ret) (hlk : meth.locks = false) (hX : va_X (aS 30) L xs s s.heap) (hbl : aS 30 < s.heap.size) (hG : gg G) {i : Int} (hi : 0 ≤ i ∧ i + 6 ≤ (L : Int)) (hL : L ≤ 3072) (hn : lw_H (p, l, e, room_1, s, m, #[Value.ref (aS 30)], below, meth, c, lw_Z below #[Value.ref (aS 30)] s, 7, s.heap.size, aS, dA, D, 0, 0) G (i + 6)) {F : fl_N} {Y : xi_H} (h : iv F) (hY : lw_X i Y) : xi_At (p, l, e, room_1, s, m, #[Value.ref (aS 30)], below, meth, c, lw_Z below #[Value.ref (aS 30)] s, 7, s.heap.size, aS, dA, D, 0, 0) 222 (lw_L i) [] (fl_H sh_T G F ++ Y) := by
  have hop := op_4 (X := Y) hG h (xs (Int32.ofInt i + Int32.ofInt 1).toNatClampNeg).toInt (lw_rg _)
  simp only [Int32.ofInt_toInt] at hop
  obtain ⟨f1, z1, F1, Y1, r1, hY1, f2, z2, F2, r2, h2, hz⟩ := hop
  have hR1 := lw_room (G := G) (F := F1) (lw_X1 hY hY1) (by omega)
  have hR2 := lw_room (G := G) (F := F2) (lw_X1 hY hY1) (by omega)
  refine xs_aload_n (v := .ref 0) X lw_d222 rfl rfl ?_
  refine xs_aload_n (v := .retAddr 30) X lw_d223 rfl rfl ?_
  refine xs_iload (x := Int32.ofInt i) X lw_d224 rfl ?_
  refine xs_iconst X lw_d226 ?_
  refine xs_iadd X lw_d227 ?_
  refine xs_sld X hX hbl lw_d228 (by rw [fl_add]; exact fl_in (by omega) (by omega) (by omega)) ?_
  refine xs_aload_n (v := .ref 386) X lw_d229 rfl rfl ?_
  refine lw_W (cM := 76) (n := 3) (i1 := 4230) (i2 := 4231) (i4 := 1000) (i5 := 4232) (rest := []) htr X lw_d230 (by decide +kernel) (Mc := xi_m76) rfl (show 4 ≤ 69 by decide) r1 rfl (Nat.le_of_ble_eq_true rfl) (fl_pos sc_0) hR1.1 hR1.2 (show 0 ≤ 8 by decide) rfl ?_
  refine xs_istore X lw_d233 (show 5 < 7 by omega) ?_
  refine xs_aload_n (v := .ref 344) X lw_d235 rfl rfl ?_
  refine xs_aload_n (v := .retAddr 30) X lw_d236 rfl rfl ?_
  refine xs_iload (x := Int32.ofInt i) X lw_d237 rfl ?_
  refine xs_iconst X lw_d239 ?_
  refine xs_iadd X lw_d240 ?_
  refine xs_sld X hX hbl lw_d241 (by rw [fl_add]; exact fl_in (by omega) (by omega) (by omega)) ?_
  refine lw_V (x := 0) (cM := 66) (n := 1) (tail := [7166, 7167, 7168, 1014, 7169]) (rest := []) htr X lw_d242 (by decide +kernel) (Mc := xi_m66) rfl rfl (show 3 ≤ 69 by decide) r2 rfl (Nat.le_of_ble_eq_true rfl) (fl_ob sc_344) (q := ("CheapPlannerModel", xi_fT 13, 71)) rfl rfl hR2.1 hR2.2 (Nat.le_of_ble_eq_true rfl) rfl ?_
  refine xs_istore X lw_d245 (show 6 < 7 by omega) ?_
  refine xs_goto (tgt := 459) X lw_d247 (by decide) ?_
  exact lw_end X hn h2 hY hY1 rfl (lw_sub)
set_option maxHeartbeats 4000000 in
theorem lw_c5 (htr : ∀ e, l.admits e → e.platform.stackTraces = false) (X : xi_X (p, l, e, room_1, s, m, #[Value.ref (aS 30)], below, meth, c, lw_Z below #[Value.ref (aS 30)] s, 7, s.heap.size, aS, dA, D, 0, 0) code R_law) (hret : meth.sig.returnType = ret) (hlk : meth.locks = false) (hX : va_X (aS 30) L xs s s.heap) (hbl : aS 30 < s.heap.size) (hG : gg G) {i : Int} (hi : 0 ≤ i ∧ i + 6 ≤ (L : Int)) (hL : L ≤ 3072) (hn : lw_H (p, l, e, room_1, s, m, #[Value.ref (aS 30)], below, meth, c, lw_Z below #[Value.ref (aS 30)] s, 7, s.heap.size, aS, dA, D, 0, 0) G (i + 6)) {F : fl_N} {Y : xi_H} (h : iv F) (hY : lw_X i Y) : xi_At (p, l, e, room_1, s, m, #[Value.ref (aS 30)], below, meth, c, lw_Z below #[Value.ref (aS 30)] s, 7, s.heap.size, aS, dA, D, 0, 0) 250 (lw_L i) [] (fl_H sh_T G F ++ Y) := by
  have hop := op_5 (X := Y) hG h  
  obtain ⟨f1, z1, F1, Y1, r1, hY1, f2, z2, F2, r2, h2, hz⟩ := hop
  have hR1 := lw_room (G := G) (F := F1) (lw_X1 hY hY1) (by omega)
  have hR2 := lw_room (G := G) (F := F2) (lw_X1 hY hY1) (by omega)
  refine xs_aload_n (v := .ref 0) X lw_d250 rfl rfl ?_
  refine xs_aload_n (v := .ref 386) X lw_d251 rfl rfl ?_
  refine lw_W (cM := 77) (n := 2) (i1 := 5096) (i2 := 5097) (i4 := 1000) (i5 := 5098) (rest := []) htr X lw_d252 (by decide +kernel) (Mc := xi_m77) rfl (show 3 ≤ 69 by decide) r1 rfl (Nat.le_of_ble_eq_true rfl) (fl_pos sc_0) hR1.1 hR1.2 (show 0 ≤ 8 by decide) rfl ?_
  refine xs_istore X lw_d255 (show 5 < 7 by omega) ?_
  refine xs_aload_n (v := .ref 344) X lw_d257 rfl rfl ?_
  refine lw_V (x := 0) (cM := 67) (n := 0) (tail := [7212, 7213, 7214, 1014, 7215]) (rest := []) htr X lw_d258 (by decide +kernel) (Mc := xi_m67) rfl rfl (show 1 ≤ 69 by decide) r2 rfl (Nat.le_of_ble_eq_true rfl) (fl_ob sc_344) (q := ("CheapPlannerModel", xi_fT 13, 71)) rfl rfl hR2.1 hR2.2 (Nat.le_of_ble_eq_true rfl) rfl ?_
  refine xs_istore X lw_d261 (show 6 < 7 by omega) ?_
  refine xs_goto (tgt := 459) X lw_d263 (by decide) ?_
  exact lw_end X hn h2 hY hY1 rfl (lw_sub)
set_option maxHeartbeats 4000000 in
theorem lw_c6 (htr : ∀ e, l.admits e → e.platform.stackTraces = false) (X : xi_X (p, l, e, room_1, s, m, #[Value.ref (aS 30)], below, meth, c, lw_Z below #[Value.ref (aS 30)] s, 7, s.heap.size, aS, dA, D, 0, 0) code R_law) (hret : meth.sig.returnType = ret) (hlk : meth.locks = false) (hX : va_X (aS 30) L xs s s.heap) (hbl : aS 30 < s.heap.size) (hG : gg G) {i : Int} (hi : 0 ≤ i ∧ i + 6 ≤ (L : Int)) (hL : L ≤ 3072) (hn : lw_H (p, l, e, room_1, s, m, #[Value.ref (aS 30)], below, meth, c, lw_Z below #[Value.ref (aS 30)] s, 7, s.heap.size, aS, dA, D, 0, 0) G (i + 6)) {F : fl_N} {Y : xi_H} (h : iv F) (hY : lw_X i Y) : xi_At (p, l, e, room_1, s, m, #[Value.ref (aS 30)], below, meth, c, lw_Z below #[Value.ref (aS 30)] s, 7, s.heap.size, aS, dA, D, 0, 0) 266 (lw_L i) [] (fl_H sh_T G F ++ Y) := by
  have hop := op_6 (X := Y) hG h (xs (Int32.ofInt i + Int32.ofInt 1).toNatClampNeg).toInt (lw_rg _)
  simp only [Int32.ofInt_toInt] at hop
  obtain ⟨f1, z1, F1, Y1, r1, hY1, f2, z2, F2, r2, h2, hz⟩ := hop
  have hR1 := lw_room (G := G) (F := F1) (lw_X1 hY hY1) (by omega)
  have hR2 := lw_room (G := G) (F := F2) (lw_X1 hY hY1) (by omega)
  refine xs_aload_n (v := .ref 0) X lw_d266 rfl rfl ?_
  refine xs_aload_n (v := .retAddr 30) X lw_d267 rfl rfl ?_
  refine xs_iload (x := Int32.ofInt i) X lw_d268 rfl ?_
  refine xs_iconst X lw_d270 ?_
  refine xs_iadd X lw_d271 ?_
  refine xs_sld X hX hbl lw_d272 (by rw [fl_add]; exact fl_in (by omega) (by omega) (by omega)) ?_
  refine xs_aload_n (v := .ref 386) X lw_d273 rfl rfl ?_
  refine lw_W (cM := 78) (n := 3) (i1 := 5120) (i2 := 5121) (i4 := 1000) (i5 := 5122) (rest := []) htr X lw_d274 (by decide +kernel) (Mc := xi_m78) rfl (show 4 ≤ 69 by decide) r1 rfl (Nat.le_of_ble_eq_true rfl) (fl_pos sc_0) hR1.1 hR1.2 (show 0 ≤ 8 by decide) rfl ?_
  refine xs_istore X lw_d277 (show 5 < 7 by omega) ?_
  refine xs_aload_n (v := .ref 344) X lw_d279 rfl rfl ?_
  refine xs_aload_n (v := .retAddr 30) X lw_d280 rfl rfl ?_
  refine xs_iload (x := Int32.ofInt i) X lw_d281 rfl ?_
  refine xs_iconst X lw_d283 ?_
  refine xs_iadd X lw_d284 ?_
  refine xs_sld X hX hbl lw_d285 (by rw [fl_add]; exact fl_in (by omega) (by omega) (by omega)) ?_
  refine lw_V (x := 0) (cM := 68) (n := 1) (tail := [7216, 7217, 7218, 1014, 7219]) (rest := []) htr X lw_d286 (by decide +kernel) (Mc := xi_m68) rfl rfl (show 2 ≤ 69 by decide) r2 rfl (Nat.le_of_ble_eq_true rfl) (fl_ob sc_344) (q := ("CheapPlannerModel", xi_fT 13, 71)) rfl rfl hR2.1 hR2.2 (Nat.le_of_ble_eq_true rfl) rfl ?_
  refine xs_istore X lw_d289 (show 6 < 7 by omega) ?_
  refine xs_goto (tgt := 459) X lw_d291 (by decide) ?_
  exact lw_end X hn h2 hY hY1 rfl (lw_sub)
set_option maxHeartbeats 4000000 in
theorem lw_c7 (htr : ∀ e, l.admits e → e.platform.stackTraces = false) (X : xi_X (p, l, e, room_1, s, m, #[Value.ref (aS 30)], below, meth, c, lw_Z below #[Value.ref (aS 30)] s, 7, s.heap.size, aS, dA, D, 0, 0) code R_law) (hret : meth.sig.returnType = ret) (hlk : meth.locks = false) (hX : va_X (aS 30) L xs s s.heap) (hbl : aS 30 < s.heap.size) (hG : gg G) {i : Int} (hi : 0 ≤ i ∧ i + 6 ≤ (L : Int)) (hL : L ≤ 3072) (hn : lw_H (p, l, e, room_1, s, m, #[Value.ref (aS 30)], below, meth, c, lw_Z below #[Value.ref (aS 30)] s, 7, s.heap.size, aS, dA, D, 0, 0) G (i + 6)) {F : fl_N} {Y : xi_H} (h : iv F) (hY : lw_X i Y) : xi_At (p, l, e, room_1, s, m, #[Value.ref (aS 30)], below, meth, c, lw_Z below #[Value.ref (aS 30)] s, 7, s.heap.size, aS, dA, D, 0, 0) 294 (lw_L i) [] (fl_H sh_T G F ++ Y) := by
  have hop := op_7 (X := Y) hG h (xs (Int32.ofInt i + Int32.ofInt 1).toNatClampNeg).toInt (xs (Int32.ofInt i + Int32.ofInt 2).toNatClampNeg).toInt (lw_rg _) (lw_rg _)
  simp only [Int32.ofInt_toInt] at hop
  obtain ⟨f1, z1, F1, Y1, r1, hY1, f2, z2, F2, r2, h2, hz⟩ := hop
  have hR1 := lw_room (G := G) (F := F1) (lw_X1 hY hY1) (by omega)
  have hR2 := lw_room (G := G) (F := F2) (lw_X1 hY hY1) (by omega)
  refine xs_aload_n (v := .ref 0) X lw_d294 rfl rfl ?_
  refine xs_aload_n (v := .retAddr 30) X lw_d295 rfl rfl ?_
  refine xs_iload (x := Int32.ofInt i) X lw_d296 rfl ?_
  refine xs_iconst X lw_d298 ?_
  refine xs_iadd X lw_d299 ?_
  refine xs_sld X hX hbl lw_d300 (by rw [fl_add]; exact fl_in (by omega) (by omega) (by omega)) ?_
  refine xs_aload_n (v := .retAddr 30) X lw_d301 rfl rfl ?_
  refine xs_iload (x := Int32.ofInt i) X lw_d302 rfl ?_
  refine xs_iconst X lw_d304 ?_
  refine xs_iadd X lw_d305 ?_
  refine xs_sld X hX hbl lw_d306 (by rw [fl_add]; exact fl_in (by omega) (by omega) (by omega)) ?_
  refine xs_aload_n (v := .ref 386) X lw_d307 rfl rfl ?_
  refine lw_W (cM := 79) (n := 4) (i1 := 5128) (i2 := 5129) (i4 := 1000) (i5 := 5130) (rest := []) htr X lw_d308 (by decide +kernel) (Mc := xi_m79) rfl (show 5 ≤ 69 by decide) r1 rfl (Nat.le_of_ble_eq_true rfl) (fl_pos sc_0) hR1.1 hR1.2 (show 0 ≤ 8 by decide) rfl ?_
  refine xs_istore X lw_d311 (show 5 < 7 by omega) ?_
  refine xs_aload_n (v := .ref 344) X lw_d313 rfl rfl ?_
  refine xs_aload_n (v := .retAddr 30) X lw_d314 rfl rfl ?_
  refine xs_iload (x := Int32.ofInt i) X lw_d315 rfl ?_
  refine xs_iconst X lw_d317 ?_
  refine xs_iadd X lw_d318 ?_
  refine xs_sld X hX hbl lw_d319 (by rw [fl_add]; exact fl_in (by omega) (by omega) (by omega)) ?_
  refine xs_aload_n (v := .retAddr 30) X lw_d320 rfl rfl ?_
  refine xs_iload (x := Int32.ofInt i) X lw_d321 rfl ?_
  refine xs_iconst X lw_d323 ?_
  refine xs_iadd X lw_d324 ?_
  refine xs_sld X hX hbl lw_d325 (by rw [fl_add]; exact fl_in (by omega) (by omega) (by omega)) ?_
  refine lw_V (x := 0) (cM := 69) (n := 2) (tail := [7220, 7221, 7222, 1014, 7223]) (rest := []) htr X lw_d326 (by decide +kernel) (Mc := xi_m69) rfl rfl (show 3 ≤ 69 by decide) r2 rfl (Nat.le_of_ble_eq_true rfl) (fl_ob sc_344) (q := ("CheapPlannerModel", xi_fT 13, 71)) rfl rfl hR2.1 hR2.2 (Nat.le_of_ble_eq_true rfl) rfl ?_
  refine xs_istore X lw_d329 (show 6 < 7 by omega) ?_
  refine xs_goto (tgt := 459) X lw_d331 (by decide) ?_
  exact lw_end X hn h2 hY hY1 rfl (lw_sub)
set_option maxHeartbeats 4000000 in
theorem lw_c8 (htr : ∀ e, l.admits e → e.platform.stackTraces = false) (X : xi_X (p, l, e, room_1, s, m, #[Value.ref (aS 30)], below, meth, c, lw_Z below #[Value.ref (aS 30)] s, 7, s.heap.size, aS, dA, D, 0, 0) code R_law) (hret : meth.sig.returnType = ret) (hlk : meth.locks = false) (hX : va_X (aS 30) L xs s s.heap) (hbl : aS 30 < s.heap.size) (hG : gg G) {i : Int} (hi : 0 ≤ i ∧ i + 6 ≤ (L : Int)) (hL : L ≤ 3072) (hn : lw_H (p, l, e, room_1, s, m, #[Value.ref (aS 30)], below, meth, c, lw_Z below #[Value.ref (aS 30)] s, 7, s.heap.size, aS, dA, D, 0, 0) G (i + 6)) {F : fl_N} {Y : xi_H} (h : iv F) (hY : lw_X i Y) : xi_At (p, l, e, room_1, s, m, #[Value.ref (aS 30)], below, meth, c, lw_Z below #[Value.ref (aS 30)] s, 7, s.heap.size, aS, dA, D, 0, 0) 334 (lw_L i) [] (fl_H sh_T G F ++ Y) := by
  have hop := op_8 (X := Y) hG h (xs (Int32.ofInt i + Int32.ofInt 1).toNatClampNeg).toInt (lw_rg _)
  simp only [Int32.ofInt_toInt] at hop
  obtain ⟨f1, z1, F1, Y1, r1, hY1, f2, z2, F2, r2, h2, hz⟩ := hop
  have hR1 := lw_room (G := G) (F := F1) (lw_X1 hY hY1) (by omega)
  have hR2 := lw_room (G := G) (F := F2) (lw_X1 hY hY1) (by omega)
  obtain ⟨f3, r3⟩ := op_thr (G := G) (F := F2) (X := Y1)
  refine xs_aload_n (v := .ref 0) X lw_d334 rfl rfl ?_
  refine xs_aload_n (v := .retAddr 30) X lw_d335 rfl rfl ?_
  refine xs_iload (x := Int32.ofInt i) X lw_d336 rfl ?_
  refine xs_iconst X lw_d338 ?_
  refine xs_iadd X lw_d339 ?_
  refine xs_sld X hX hbl lw_d340 (by rw [fl_add]; exact fl_in (by omega) (by omega) (by omega)) ?_
  refine xs_aload_n (v := .ref 386) X lw_d341 rfl rfl ?_
  refine lw_W (cM := 80) (n := 3) (i1 := 5137) (i2 := 5138) (i4 := 1000) (i5 := 5139) (rest := []) htr X lw_d342 (by decide +kernel) (Mc := xi_m80) rfl (show 4 ≤ 69 by decide) r1 rfl (Nat.le_of_ble_eq_true rfl) (fl_pos sc_0) hR1.1 hR1.2 (show 0 ≤ 8 by decide) rfl ?_
  refine xs_istore X lw_d345 (show 5 < 7 by omega) ?_
  refine xs_aload_n (v := .ref 344) X lw_d347 rfl rfl ?_
  refine xs_aload_n (v := .retAddr 30) X lw_d348 rfl rfl ?_
  refine xs_iload (x := Int32.ofInt i) X lw_d349 rfl ?_
  refine xs_iconst X lw_d351 ?_
  refine xs_iadd X lw_d352 ?_
  refine xs_sld X hX hbl lw_d353 (by rw [fl_add]; exact fl_in (by omega) (by omega) (by omega)) ?_
  refine lw_V (x := 0) (cM := 70) (n := 1) (tail := [7224, 7225, 7226, 1014, 7227]) (rest := []) htr X lw_d354 (by decide +kernel) (Mc := xi_m70) rfl rfl (show 5 ≤ 69 by decide) r2 rfl (Nat.le_of_ble_eq_true rfl) (fl_ob sc_344) (q := ("CheapPlannerModel", xi_fT 13, 71)) rfl rfl hR2.1 hR2.2 (Nat.le_of_ble_eq_true rfl) rfl ?_
  refine xs_istore X lw_d357 (show 6 < 7 by omega) ?_
  refine xs_aload_n (v := .ref 344) X lw_d359 rfl rfl ?_
  refine lw_V (x := 0) (cM := 197) (n := 0) (tail := [6219, 6220, 6221, 1014, 6222]) (rest := []) htr X lw_d360 (by decide +kernel) (Mc := xi_m197) rfl rfl (show 1 ≤ 69 by decide) r3 rfl (Nat.le_of_ble_eq_true rfl) (fl_ob sc_344) (q := ("CheapPlannerModel", xi_fT 13, 71)) rfl rfl hR2.1 hR2.2 (Nat.le_of_ble_eq_true rfl) rfl ?_
  refine xs_iload (x := Int32.ofInt z1) X lw_d363 rfl ?_
  refine xs_icmp_eq (tgt := 370) X lw_d365 (by decide) ?_
  rw [hz.1, if_pos rfl]
  refine xs_iload (x := Int32.ofInt z1) X lw_d370 rfl ?_
  refine xs_if_ne (tgt := 387) X lw_d372 (by decide) ?_
  by_cases hk : Int32.ofInt z1 = 0
  · rw [if_neg (fun h => h hk)]
    refine xs_aload_n (v := .ref 386) X lw_d375 rfl rfl ?_
    refine xs_iconst X lw_d376 ?_
    refine xs_lald (a := 386) (n := 1) (f := fun j => Int64.ofInt (F2 386 j)) X lw_d377 (fl_at sc_386) (fl_in (by decide) (by decide) (by decide)) ?_
    simp only [show (Int32.ofInt 0).toNatClampNeg = 0 by decide]
    refine xs_iload (x := Int32.ofInt z2) X lw_d378 rfl ?_
    refine xs_i2l X lw_d380 ?_
    refine xs_lcmp X lw_d381 ?_
    refine xs_if_eq (tgt := 387) X lw_d382 (by decide) ?_
    rw [if_pos (lw_cm (hz.2 hk))]
    refine xs_goto (tgt := 459) X lw_d387 (by decide) ?_
    exact lw_end X hn h2 hY hY1 rfl (lw_sub)
  · rw [if_pos hk]
    refine xs_goto (tgt := 459) X lw_d387 (by decide) ?_
    exact lw_end X hn h2 hY hY1 rfl (lw_sub)
set_option maxHeartbeats 4000000 in
theorem lw_c9 (htr : ∀ e, l.admits e → e.platform.stackTraces = false) (X : xi_X (p, l, e, room_1, s, m, #[Value.ref (aS 30)], below, meth, c, lw_Z below #[Value.ref (aS 30)] s, 7, s.heap.size, aS, dA, D, 0, 0) code R_law) (hret : meth.sig.returnType = ret) (hlk : meth.locks = false) (hX : va_X (aS 30) L xs s s.heap) (hbl : aS 30 < s.heap.size) (hG : gg G) {i : Int} (hi : 0 ≤ i ∧ i + 6 ≤ (L : Int)) (hL : L ≤ 3072) (hn : lw_H (p, l, e, room_1, s, m, #[Value.ref (aS 30)], below, meth, c, lw_Z below #[Value.ref (aS 30)] s, 7, s.heap.size, aS, dA, D, 0, 0) G (i + 6)) {F : fl_N} {Y : xi_H} (h : iv F) (hY : lw_X i Y) : xi_At (p, l, e, room_1, s, m, #[Value.ref (aS 30)], below, meth, c, lw_Z below #[Value.ref (aS 30)] s, 7, s.heap.size, aS, dA, D, 0, 0) 390 (lw_L i) [] (fl_H sh_T G F ++ Y) := by
  have hop := op_9 (X := Y) hG h (xs (Int32.ofInt i + Int32.ofInt 1).toNatClampNeg).toInt (lw_rg _)
  simp only [Int32.ofInt_toInt] at hop
  obtain ⟨f1, z1, F1, Y1, r1, hY1, f2, z2, F2, r2, h2, hz⟩ := hop
  have hR1 := lw_room (G := G) (F := F1) (lw_X1 hY hY1) (by omega)
  have hR2 := lw_room (G := G) (F := F2) (lw_X1 hY hY1) (by omega)
  refine xs_aload_n (v := .ref 0) X lw_d390 rfl rfl ?_
  refine xs_aload_n (v := .retAddr 30) X lw_d391 rfl rfl ?_
  refine xs_iload (x := Int32.ofInt i) X lw_d392 rfl ?_
  refine xs_iconst X lw_d394 ?_
  refine xs_iadd X lw_d395 ?_
  refine xs_sld X hX hbl lw_d396 (by rw [fl_add]; exact fl_in (by omega) (by omega) (by omega)) ?_
  refine lw_V (x := 0) (cM := 10) (n := 1) (tail := [3014, 3015, 3016, 1001, 3017]) (rest := []) htr X lw_d397 (by decide +kernel) (Mc := xi_m10) rfl rfl (show 2 ≤ 69 by decide) r1 rfl (Nat.le_of_ble_eq_true rfl) (fl_ob sc_0) (q := ("CheapPlanner", xi_fT 0, 13)) rfl rfl hR1.1 hR1.2 (Nat.le_of_ble_eq_true rfl) rfl ?_
  refine xs_pop X lw_d400 rfl ?_
  refine xs_aload_n (v := .ref 344) X lw_d401 rfl rfl ?_
  refine xs_aload_n (v := .retAddr 30) X lw_d402 rfl rfl ?_
  refine xs_iload (x := Int32.ofInt i) X lw_d403 rfl ?_
  refine xs_iconst X lw_d405 ?_
  refine xs_iadd X lw_d406 ?_
  refine xs_sld X hX hbl lw_d407 (by rw [fl_add]; exact fl_in (by omega) (by omega) (by omega)) ?_
  refine lw_V (x := 0) (cM := 71) (n := 1) (tail := [7236, 7237, 7238, 1014, 7239]) (rest := []) htr X lw_d408 (by decide +kernel) (Mc := xi_m71) rfl rfl (show 2 ≤ 69 by decide) r2 rfl (Nat.le_of_ble_eq_true rfl) (fl_ob sc_344) (q := ("CheapPlannerModel", xi_fT 13, 71)) rfl rfl hR2.1 hR2.2 (Nat.le_of_ble_eq_true rfl) rfl ?_
  refine xs_pop X lw_d411 rfl ?_
  refine xs_goto (tgt := 459) X lw_d412 (by decide) ?_
  exact lw_end X hn h2 hY hY1 rfl (fun q hq => hq)
set_option maxHeartbeats 4000000 in
theorem lw_c10 (htr : ∀ e, l.admits e → e.platform.stackTraces = false) (X : xi_X (p, l, e, room_1, s, m, #[Value.ref (aS 30)], below, meth, c, lw_Z below #[Value.ref (aS 30)] s, 7, s.heap.size, aS, dA, D, 0, 0) code R_law) (hret : meth.sig.returnType = ret) (hlk : meth.locks = false) (hX : va_X (aS 30) L xs s s.heap) (hbl : aS 30 < s.heap.size) (hG : gg G) {i : Int} (hi : 0 ≤ i ∧ i + 6 ≤ (L : Int)) (hL : L ≤ 3072) (hn : lw_H (p, l, e, room_1, s, m, #[Value.ref (aS 30)], below, meth, c, lw_Z below #[Value.ref (aS 30)] s, 7, s.heap.size, aS, dA, D, 0, 0) G (i + 6)) {F : fl_N} {Y : xi_H} (h : iv F) (hY : lw_X i Y) : xi_At (p, l, e, room_1, s, m, #[Value.ref (aS 30)], below, meth, c, lw_Z below #[Value.ref (aS 30)] s, 7, s.heap.size, aS, dA, D, 0, 0) 415 (lw_L i) [] (fl_H sh_T G F ++ Y) := by
  have hop := op_10 (X := Y) hG h  
  obtain ⟨f1, z1, F1, Y1, r1, hY1, f2, z2, F2, r2, h2, hz⟩ := hop
  have hR1 := lw_room (G := G) (F := F1) (lw_X1 hY hY1) (by omega)
  have hR2 := lw_room (G := G) (F := F2) (lw_X1 hY hY1) (by omega)
  refine xs_aload_n (v := .ref 0) X lw_d415 rfl rfl ?_
  refine xs_aload_n (v := .ref 386) X lw_d416 rfl rfl ?_
  refine lw_W (cM := 81) (n := 2) (i1 := 5161) (i2 := 5162) (i4 := 1000) (i5 := 5163) (rest := []) htr X lw_d417 (by decide +kernel) (Mc := xi_m81) rfl (show 3 ≤ 69 by decide) r1 rfl (Nat.le_of_ble_eq_true rfl) (fl_pos sc_0) hR1.1 hR1.2 (show 0 ≤ 8 by decide) rfl ?_
  refine xs_istore X lw_d420 (show 5 < 7 by omega) ?_
  refine xs_aload_n (v := .ref 344) X lw_d422 rfl rfl ?_
  refine lw_V (x := 0) (cM := 72) (n := 0) (tail := [8000, 8001, 8002, 1014, 8003]) (rest := []) htr X lw_d423 (by decide +kernel) (Mc := xi_m72) rfl rfl (show 7 ≤ 69 by decide) r2 rfl (Nat.le_of_ble_eq_true rfl) (fl_ob sc_344) (q := ("CheapPlannerModel", xi_fT 13, 71)) rfl rfl hR2.1 hR2.2 (Nat.le_of_ble_eq_true rfl) rfl ?_
  refine xs_istore X lw_d426 (show 6 < 7 by omega) ?_
  refine xs_goto (tgt := 459) X lw_d428 (by decide) ?_
  exact lw_end X hn h2 hY hY1 rfl (lw_sub)
set_option maxHeartbeats 4000000 in
theorem lw_c11 (htr : ∀ e, l.admits e → e.platform.stackTraces = false) (X : xi_X (p, l, e, room_1, s, m, #[Value.ref (aS 30)], below, meth, c, lw_Z below #[Value.ref (aS 30)] s, 7, s.heap.size, aS, dA, D, 0, 0) code R_law) (hret : meth.sig.returnType = ret) (hlk : meth.locks = false) (hX : va_X (aS 30) L xs s s.heap) (hbl : aS 30 < s.heap.size) (hG : gg G) {i : Int} (hi : 0 ≤ i ∧ i + 6 ≤ (L : Int)) (hL : L ≤ 3072) (hn : lw_H (p, l, e, room_1, s, m, #[Value.ref (aS 30)], below, meth, c, lw_Z below #[Value.ref (aS 30)] s, 7, s.heap.size, aS, dA, D, 0, 0) G (i + 6)) {F : fl_N} {Y : xi_H} (h : iv F) (hY : lw_X i Y) : xi_At (p, l, e, room_1, s, m, #[Value.ref (aS 30)], below, meth, c, lw_Z below #[Value.ref (aS 30)] s, 7, s.heap.size, aS, dA, D, 0, 0) 431 (lw_L i) [] (fl_H sh_T G F ++ Y) := by
  have hop := op_11 (X := Y) hG h (xs (Int32.ofInt i + Int32.ofInt 1).toNatClampNeg).toInt (lw_rg _)
  simp only [Int32.ofInt_toInt] at hop
  obtain ⟨f1, z1, F1, Y1, r1, hY1, f2, z2, F2, r2, h2, hz⟩ := hop
  have hR1 := lw_room (G := G) (F := F1) (lw_X1 hY hY1) (by omega)
  have hR2 := lw_room (G := G) (F := F2) (lw_X1 hY hY1) (by omega)
  refine xs_aload_n (v := .ref 0) X lw_d431 rfl rfl ?_
  refine xs_aload_n (v := .retAddr 30) X lw_d432 rfl rfl ?_
  refine xs_iload (x := Int32.ofInt i) X lw_d433 rfl ?_
  refine xs_iconst X lw_d435 ?_
  refine xs_iadd X lw_d436 ?_
  refine xs_sld X hX hbl lw_d437 (by rw [fl_add]; exact fl_in (by omega) (by omega) (by omega)) ?_
  refine xs_aload_n (v := .ref 386) X lw_d438 rfl rfl ?_
  refine lw_W (cM := 82) (n := 3) (i1 := 5170) (i2 := 5171) (i4 := 1000) (i5 := 5172) (rest := []) htr X lw_d439 (by decide +kernel) (Mc := xi_m82) rfl (show 4 ≤ 69 by decide) r1 rfl (Nat.le_of_ble_eq_true rfl) (fl_pos sc_0) hR1.1 hR1.2 (show 0 ≤ 8 by decide) rfl ?_
  refine xs_istore X lw_d442 (show 5 < 7 by omega) ?_
  refine xs_aload_n (v := .ref 344) X lw_d444 rfl rfl ?_
  refine xs_aload_n (v := .retAddr 30) X lw_d445 rfl rfl ?_
  refine xs_iload (x := Int32.ofInt i) X lw_d446 rfl ?_
  refine xs_iconst X lw_d448 ?_
  refine xs_iadd X lw_d449 ?_
  refine xs_sld X hX hbl lw_d450 (by rw [fl_add]; exact fl_in (by omega) (by omega) (by omega)) ?_
  refine lw_V (x := 0) (cM := 73) (n := 1) (tail := [8004, 8005, 8006, 1014, 8007]) (rest := []) htr X lw_d451 (by decide +kernel) (Mc := xi_m73) rfl rfl (show 6 ≤ 69 by decide) r2 rfl (Nat.le_of_ble_eq_true rfl) (fl_ob sc_344) (q := ("CheapPlannerModel", xi_fT 13, 71)) rfl rfl hR2.1 hR2.2 (Nat.le_of_ble_eq_true rfl) rfl ?_
  refine xs_istore X lw_d454 (show 6 < 7 by omega) ?_
  refine xs_goto (tgt := 459) X lw_d456 (by decide) ?_
  exact lw_end X hn h2 hY hY1 rfl (lw_sub)
end LW

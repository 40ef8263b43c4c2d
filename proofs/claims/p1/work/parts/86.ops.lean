section LW
variable {p : Program} {l : Launch} {e : Env} {R : Room} {s : State} {m : MethodId} {args : Array Value} {below : List Frame} {meth : Method} {c : Code} {Q : State → Prop} {nL b0 : Nat} {aS : Nat → Nat} {dA : Nat → ClassId} {D : va_G} {n0 s0 : Nat}
variable {A A' : xi_H} {cc : ByteArray} {own : String} {pc i : Nat} {lv : xi_L} {r : List Value} {xs : Nat → Int32} {L : Nat}
set_option maxHeartbeats 1000000 in
theorem lw_c0 (htr : ∀ e, l.admits e → e.platform.stackTraces = false) (X : xi_X (p, l, e, room_1, s, m, #[Value.ref (aS 30)], below, meth, c, lw_Z below #[Value.ref (aS 30)] s, 7, s.heap.size, aS, dA, D, 0, 0) code R_law) (hret : meth.sig.returnType = ret) (hlk : meth.locks = false) (hX : va_X (aS 30) 6 xs s s.heap) (hbl : aS 30 < s.heap.size) (F : lw_F A) : xi_At (p, l, e, room_1, s, m, #[Value.ref (aS 30)], below, meth, c, lw_Z below #[Value.ref (aS 30)] s, 7, s.heap.size, aS, dA, D, 0, 0) 104 lw_B [] A := by
  obtain ⟨⟨h0, h1, hS, hm⟩, ⟨hR118, h7, h8, h11, h15⟩, ⟨⟨f2, ha2⟩, ⟨f345, ha345⟩, ⟨f3, ha3⟩, ⟨f4, ha4⟩, ⟨f5, ha5⟩, ⟨f335, ha335⟩, ⟨f338, ha338⟩, ⟨f347, ha347⟩, ⟨f348, ha348⟩⟩, ⟨f6, ha6⟩, hlen, hns⟩ := F
  obtain ⟨A2, r1, hF⟩ := er_text h0 ⟨Nat.zero_le _, h1, f2, ha2⟩ (xs (0 + Int32.ofInt 1).toNatClampNeg) (xs (0 + Int32.ofInt 2).toNatClampNeg) (xs (0 + Int32.ofInt 3).toNatClampNeg) (xs (0 + Int32.ofInt 4).toNatClampNeg) (xs (0 + Int32.ofInt 5).toNatClampNeg)
  have hm1 := (hF.1 344 (by decide) (by decide)).trans hm
  have ha1 := (hF.1 345 (by decide) (by decide)).trans ha345
  have hl1 := hF.2.1
  have hn1 := hF.2.2
  obtain ⟨A3, r2, hl2, hn2⟩ := em_text hm1 ha1 (xs (0 + Int32.ofInt 1).toNatClampNeg) (xs (0 + Int32.ofInt 2).toNatClampNeg) (xs (0 + Int32.ofInt 3).toNatClampNeg) (xs (0 + Int32.ofInt 4).toNatClampNeg) (xs (0 + Int32.ofInt 5).toNatClampNeg)
  refine xs_aload_n (v := .ref 0) X lw_d104 rfl rfl ?_
  refine xs_aload_n (v := .retAddr 30) X lw_d105 rfl rfl ?_
  refine xs_iload (x := 0) X lw_d106 rfl ?_
  refine xs_iconst X lw_d108 ?_
  refine xs_iadd X lw_d109 ?_
  refine xs_sld X hX hbl lw_d110 (by unfold vp_in; decide) ?_
  refine xs_aload_n (v := .retAddr 30) X lw_d111 rfl rfl ?_
  refine xs_iload (x := 0) X lw_d112 rfl ?_
  refine xs_iconst X lw_d114 ?_
  refine xs_iadd X lw_d115 ?_
  refine xs_sld X hX hbl lw_d116 (by unfold vp_in; decide) ?_
  refine xs_aload_n (v := .retAddr 30) X lw_d117 rfl rfl ?_
  refine xs_iload (x := 0) X lw_d118 rfl ?_
  refine xs_iconst X lw_d120 ?_
  refine xs_iadd X lw_d121 ?_
  refine xs_sld X hX hbl lw_d122 (by unfold vp_in; decide) ?_
  refine xs_aload_n (v := .retAddr 30) X lw_d123 rfl rfl ?_
  refine xs_iload (x := 0) X lw_d124 rfl ?_
  refine xs_iconst X lw_d126 ?_
  refine xs_iadd X lw_d127 ?_
  refine xs_sld X hX hbl lw_d128 (by unfold vp_in; decide) ?_
  refine xs_aload_n (v := .retAddr 30) X lw_d129 rfl rfl ?_
  refine xs_iload (x := 0) X lw_d130 rfl ?_
  refine xs_iconst X lw_d132 ?_
  refine xs_iadd X lw_d133 ?_
  refine xs_sld X hX hbl lw_d134 (by unfold vp_in; decide) ?_
  refine lw_V (x := 0) (cM := 1) (n := 5) (tail := [2226, 2227, 2228, 1001, 2229]) (rest := []) htr X lw_d135 (by decide +kernel) (Mc := xi_m1) rfl rfl (show 8 ≤ 71 by decide) r1 rfl (show 6 ≤ 8 by decide) h0 (q := ("CheapPlanner", xi_fT 0, 13)) rfl rfl (by omega) (by omega) (show 0 ≤ 8 by decide) rfl ?_
  refine xs_aload_n (v := .ref 344) X lw_d138 rfl rfl ?_
  refine xs_aload_n (v := .retAddr 30) X lw_d139 rfl rfl ?_
  refine xs_iload (x := 0) X lw_d140 rfl ?_
  refine xs_iconst X lw_d142 ?_
  refine xs_iadd X lw_d143 ?_
  refine xs_sld X hX hbl lw_d144 (by unfold vp_in; decide) ?_
  refine xs_aload_n (v := .retAddr 30) X lw_d145 rfl rfl ?_
  refine xs_iload (x := 0) X lw_d146 rfl ?_
  refine xs_iconst X lw_d148 ?_
  refine xs_iadd X lw_d149 ?_
  refine xs_sld X hX hbl lw_d150 (by unfold vp_in; decide) ?_
  refine xs_aload_n (v := .retAddr 30) X lw_d151 rfl rfl ?_
  refine xs_iload (x := 0) X lw_d152 rfl ?_
  refine xs_iconst X lw_d154 ?_
  refine xs_iadd X lw_d155 ?_
  refine xs_sld X hX hbl lw_d156 (by unfold vp_in; decide) ?_
  refine xs_aload_n (v := .retAddr 30) X lw_d157 rfl rfl ?_
  refine xs_iload (x := 0) X lw_d158 rfl ?_
  refine xs_iconst X lw_d160 ?_
  refine xs_iadd X lw_d161 ?_
  refine xs_sld X hX hbl lw_d162 (by unfold vp_in; decide) ?_
  refine xs_aload_n (v := .retAddr 30) X lw_d163 rfl rfl ?_
  refine xs_iload (x := 0) X lw_d164 rfl ?_
  refine xs_iconst X lw_d166 ?_
  refine xs_iadd X lw_d167 ?_
  refine xs_sld X hX hbl lw_d168 (by unfold vp_in; decide) ?_
  refine lw_V (x := 0) (cM := 47) (n := 5) (tail := [6223, 6224, 6225, 1014, 6226]) (rest := [.int _]) htr X lw_d169 (by decide +kernel) (Mc := xi_m47) rfl rfl (show 10 ≤ 71 by decide) r2 rfl (show 6 ≤ 10 by decide) hm1 (q := ("CheapPlannerModel", xi_fT 13, 71)) rfl rfl (by omega) (by omega) (show 1 ≤ 8 by decide) rfl ?_
  refine xs_icmp_eq (tgt := 683) X lw_d172 (by decide) ?_
  rw [if_pos rfl]
  exact lw_end htr X hret hlk hX hbl (by omega) (by omega) rfl rfl
set_option maxHeartbeats 1000000 in
theorem lw_c1 (htr : ∀ e, l.admits e → e.platform.stackTraces = false) (X : xi_X (p, l, e, room_1, s, m, #[Value.ref (aS 30)], below, meth, c, lw_Z below #[Value.ref (aS 30)] s, 7, s.heap.size, aS, dA, D, 0, 0) code R_law) (hret : meth.sig.returnType = ret) (hlk : meth.locks = false) (hX : va_X (aS 30) 6 xs s s.heap) (hbl : aS 30 < s.heap.size) (F : lw_F A) : xi_At (p, l, e, room_1, s, m, #[Value.ref (aS 30)], below, meth, c, lw_Z below #[Value.ref (aS 30)] s, 7, s.heap.size, aS, dA, D, 0, 0) 177 lw_B [] A := by
  obtain ⟨⟨h0, h1, hS, hm⟩, ⟨hR118, h7, h8, h11, h15⟩, ⟨⟨f2, ha2⟩, ⟨f345, ha345⟩, ⟨f3, ha3⟩, ⟨f4, ha4⟩, ⟨f5, ha5⟩, ⟨f335, ha335⟩, ⟨f338, ha338⟩, ⟨f347, ha347⟩, ⟨f348, ha348⟩⟩, ⟨f6, ha6⟩, hlen, hns⟩ := F
  obtain ⟨A1, g1, g2, r1, hm1, hc1, hc2, hl1, hn1⟩ := er_domain h0 h1 hS hR118 h7 h8 h11 h15 hm ha3 ha4 ha5 ha6 ha335 ha338 ha347 ha348
  obtain ⟨A2, fs, r2, hm2, hf2, hl2, hn2⟩ := em_domain hm1 hc1 hc2
  have r3 := em_thrown hm2 hf2
  have hz1 : 0 < A1.length := Nat.lt_of_le_of_lt (Nat.zero_le 344) (List.getElem?_eq_some_iff.mp hm1).1
  refine xs_aload_n (v := .ref 0) X lw_d177 rfl rfl ?_
  refine xs_aload_n (v := .ref 386) X lw_d178 rfl rfl ?_
  refine lw_W (cM := 75) (n := 2) (i1 := 3022) (i2 := 3023) (i4 := 1000) (i5 := 3024) (rest := []) htr X lw_d179 (by decide +kernel) (Mc := xi_m75) rfl (show 3 ≤ 71 by decide) r1 rfl (show 2 ≤ 3 by decide) (by omega) (by omega) (by omega) (show 0 ≤ 8 by decide) rfl ?_
  refine xs_istore X lw_d182 (show 5 < 7 by omega) ?_
  refine xs_aload_n (v := .ref 344) X lw_d184 rfl rfl ?_
  refine lw_V (x := 0) (cM := 64) (n := 0) (tail := [6230, 6231, 6232, 1014, 6233]) (rest := []) htr X lw_d185 (by decide +kernel) (Mc := xi_m64) rfl rfl (show 1 ≤ 71 by decide) r2 rfl (show 1 ≤ 1 by decide) hm1 (q := ("CheapPlannerModel", xi_fT 13, 71)) rfl rfl (by omega) (by omega) (show 0 ≤ 8 by decide) rfl ?_
  refine xs_istore X lw_d188 (show 6 < 7 by omega) ?_
  refine xs_aload_n (v := .ref 344) X lw_d190 rfl rfl ?_
  refine lw_V (x := 0) (cM := 46) (n := 0) (tail := [6219, 6220, 6221, 1014, 6222]) (rest := []) htr X lw_d191 (by decide +kernel) (Mc := xi_m46) rfl rfl (show 1 ≤ 71 by decide) r3 rfl (show 1 ≤ 1 by decide) hm2 (q := ("CheapPlannerModel", xi_fT 13, 71)) rfl rfl (by omega) (by omega) (show 0 ≤ 8 by decide) rfl ?_
  refine xs_iload (x := 1) X lw_d194 rfl ?_
  refine xs_icmp_eq (tgt := 201) X lw_d196 (by decide) ?_
  rw [if_pos rfl]
  refine xs_iload (x := 1) X lw_d201 rfl ?_
  refine xs_if_ne (tgt := 218) X lw_d203 (by decide) ?_
  rw [if_pos (by decide)]
  refine xs_goto (tgt := 683) X lw_d218 (by decide) ?_
  exact lw_end htr X hret hlk hX hbl (by omega) (by omega) rfl rfl
set_option maxHeartbeats 1000000 in
theorem lw_c2 (htr : ∀ e, l.admits e → e.platform.stackTraces = false) (X : xi_X (p, l, e, room_1, s, m, #[Value.ref (aS 30)], below, meth, c, lw_Z below #[Value.ref (aS 30)] s, 7, s.heap.size, aS, dA, D, 0, 0) code R_law) (hret : meth.sig.returnType = ret) (hlk : meth.locks = false) (hX : va_X (aS 30) 6 xs s s.heap) (hbl : aS 30 < s.heap.size) (F : lw_F A) : xi_At (p, l, e, room_1, s, m, #[Value.ref (aS 30)], below, meth, c, lw_Z below #[Value.ref (aS 30)] s, 7, s.heap.size, aS, dA, D, 0, 0) 221 lw_B [] A := by
  obtain ⟨⟨h0, h1, hS, hm⟩, ⟨hR118, h7, h8, h11, h15⟩, ⟨⟨f2, ha2⟩, ⟨f345, ha345⟩, ⟨f3, ha3⟩, ⟨f4, ha4⟩, ⟨f5, ha5⟩, ⟨f335, ha335⟩, ⟨f338, ha338⟩, ⟨f347, ha347⟩, ⟨f348, ha348⟩⟩, ⟨f6, ha6⟩, hlen, hns⟩ := F
  have hl1 : (A ++ [(.inr (15, List.replicate 6 .null) : xi_E)]).length = 388 := by rw [List.length_append, hlen]; rfl
  have hn1 : xi_ns (A ++ [(.inr (15, List.replicate 6 .null) : xi_E)]) = 17833 := by rw [xi_ns_push, hns]; rfl
  have hm1 : (A ++ [(.inr (15, List.replicate 6 .null) : xi_E)])[344]? = some (.inr (13, e_lM)) := by rw [List.getElem?_append_left (by rw [hlen]; decide)]; exact hm
  have r1 := er_problem h0 h1 hS 
  obtain ⟨A2, fs, r2, hm2, hf2, hl2, hn2⟩ := em_problem hm1 
  have r3 := em_thrown hm2 hf2
  refine xs_aload_n (v := .ref 0) X lw_d221 rfl rfl ?_
  refine xs_aload_n (v := .ref 386) X lw_d222 rfl rfl ?_
  refine lw_W (cM := 76) (n := 2) (i1 := 4095) (i2 := 4096) (i4 := 1000) (i5 := 4097) (rest := []) htr X lw_d223 (by decide +kernel) (Mc := xi_m76) rfl (show 3 ≤ 71 by decide) r1 rfl (show 2 ≤ 3 by decide) (by omega) (by omega) (by omega) (show 0 ≤ 8 by decide) rfl ?_
  refine xs_istore X lw_d226 (show 5 < 7 by omega) ?_
  refine xs_aload_n (v := .ref 344) X lw_d228 rfl rfl ?_
  refine lw_V (x := 0) (cM := 65) (n := 0) (tail := [7118, 7119, 7120, 1014, 7121]) (rest := []) htr X lw_d229 (by decide +kernel) (Mc := xi_m65) rfl rfl (show 3 ≤ 71 by decide) r2 rfl (show 1 ≤ 3 by decide) hm1 (q := ("CheapPlannerModel", xi_fT 13, 71)) rfl rfl (by omega) (by omega) (show 0 ≤ 8 by decide) rfl ?_
  refine xs_istore X lw_d232 (show 6 < 7 by omega) ?_
  refine xs_aload_n (v := .ref 344) X lw_d234 rfl rfl ?_
  refine lw_V (x := 0) (cM := 46) (n := 0) (tail := [6219, 6220, 6221, 1014, 6222]) (rest := []) htr X lw_d235 (by decide +kernel) (Mc := xi_m46) rfl rfl (show 1 ≤ 71 by decide) r3 rfl (show 1 ≤ 1 by decide) hm2 (q := ("CheapPlannerModel", xi_fT 13, 71)) rfl rfl (by omega) (by omega) (show 0 ≤ 8 by decide) rfl ?_
  refine xs_iload (x := 1) X lw_d238 rfl ?_
  refine xs_icmp_eq (tgt := 245) X lw_d240 (by decide) ?_
  rw [if_pos rfl]
  refine xs_iload (x := 1) X lw_d245 rfl ?_
  refine xs_if_ne (tgt := 262) X lw_d247 (by decide) ?_
  rw [if_pos (by decide)]
  refine xs_goto (tgt := 683) X lw_d262 (by decide) ?_
  exact lw_end htr X hret hlk hX hbl (by omega) (by omega) rfl rfl
set_option maxHeartbeats 1000000 in
theorem lw_c3 (htr : ∀ e, l.admits e → e.platform.stackTraces = false) (X : xi_X (p, l, e, room_1, s, m, #[Value.ref (aS 30)], below, meth, c, lw_Z below #[Value.ref (aS 30)] s, 7, s.heap.size, aS, dA, D, 0, 0) code R_law) (hret : meth.sig.returnType = ret) (hlk : meth.locks = false) (hX : va_X (aS 30) 6 xs s s.heap) (hbl : aS 30 < s.heap.size) (F : lw_F A) : xi_At (p, l, e, room_1, s, m, #[Value.ref (aS 30)], below, meth, c, lw_Z below #[Value.ref (aS 30)] s, 7, s.heap.size, aS, dA, D, 0, 0) 265 lw_B [] A := by
  obtain ⟨⟨h0, h1, hS, hm⟩, ⟨hR118, h7, h8, h11, h15⟩, ⟨⟨f2, ha2⟩, ⟨f345, ha345⟩, ⟨f3, ha3⟩, ⟨f4, ha4⟩, ⟨f5, ha5⟩, ⟨f335, ha335⟩, ⟨f338, ha338⟩, ⟨f347, ha347⟩, ⟨f348, ha348⟩⟩, ⟨f6, ha6⟩, hlen, hns⟩ := F
  have r1 := ec_fault h0 h1 hS 
  obtain ⟨A2, fs, r2, hm2, -, hl2, hn2⟩ := em_fault hm 
  refine xs_aload_n (v := .ref 0) X lw_d265 rfl rfl ?_
  refine lw_V (x := 0) (cM := 4) (n := 0) (tail := [3006, 3007, 3008, 1001, 3009]) (rest := []) htr X lw_d266 (by decide +kernel) (Mc := xi_m4) rfl rfl (show 1 ≤ 71 by decide) r1 rfl (show 1 ≤ 1 by decide) h0 (q := ("CheapPlanner", xi_fT 0, 13)) rfl rfl (by omega) (by omega) (show 0 ≤ 8 by decide) rfl ?_
  refine xs_aload_n (v := .ref 344) X lw_d269 rfl rfl ?_
  refine lw_V (x := 0) (cM := 66) (n := 0) (tail := [7114, 7115, 7116, 1014, 7117]) (rest := [.int _]) htr X lw_d270 (by decide +kernel) (Mc := xi_m66) rfl rfl (show 1 ≤ 71 by decide) r2 rfl (show 1 ≤ 1 by decide) hm (q := ("CheapPlannerModel", xi_fT 13, 71)) rfl rfl (by omega) (by omega) (show 1 ≤ 8 by decide) rfl ?_
  refine xs_icmp_eq (tgt := 683) X lw_d273 (by decide) ?_
  rw [if_pos rfl]
  exact lw_end htr X hret hlk hX hbl (by omega) (by omega) rfl rfl
set_option maxHeartbeats 1000000 in
theorem lw_c4 (htr : ∀ e, l.admits e → e.platform.stackTraces = false) (X : xi_X (p, l, e, room_1, s, m, #[Value.ref (aS 30)], below, meth, c, lw_Z below #[Value.ref (aS 30)] s, 7, s.heap.size, aS, dA, D, 0, 0) code R_law) (hret : meth.sig.returnType = ret) (hlk : meth.locks = false) (hX : va_X (aS 30) 6 xs s s.heap) (hbl : aS 30 < s.heap.size) (F : lw_F A) : xi_At (p, l, e, room_1, s, m, #[Value.ref (aS 30)], below, meth, c, lw_Z below #[Value.ref (aS 30)] s, 7, s.heap.size, aS, dA, D, 0, 0) 278 lw_B [] A := by
  obtain ⟨⟨h0, h1, hS, hm⟩, ⟨hR118, h7, h8, h11, h15⟩, ⟨⟨f2, ha2⟩, ⟨f345, ha345⟩, ⟨f3, ha3⟩, ⟨f4, ha4⟩, ⟨f5, ha5⟩, ⟨f335, ha335⟩, ⟨f338, ha338⟩, ⟨f347, ha347⟩, ⟨f348, ha348⟩⟩, ⟨f6, ha6⟩, hlen, hns⟩ := F
  have hl1 : (A ++ [(.inr (15, List.replicate 6 .null) : xi_E)]).length = 388 := by rw [List.length_append, hlen]; rfl
  have hn1 : xi_ns (A ++ [(.inr (15, List.replicate 6 .null) : xi_E)]) = 17833 := by rw [xi_ns_push, hns]; rfl
  have hm1 : (A ++ [(.inr (15, List.replicate 6 .null) : xi_E)])[344]? = some (.inr (13, e_lM)) := by rw [List.getElem?_append_left (by rw [hlen]; decide)]; exact hm
  have r1 := er_plan h0 h1 hS (xs (0 + Int32.ofInt 1).toNatClampNeg)
  obtain ⟨A2, fs, r2, hm2, hf2, hl2, hn2⟩ := em_plan hm1 (xs (0 + Int32.ofInt 1).toNatClampNeg)
  have r3 := em_thrown hm2 hf2
  refine xs_aload_n (v := .ref 0) X lw_d278 rfl rfl ?_
  refine xs_aload_n (v := .retAddr 30) X lw_d279 rfl rfl ?_
  refine xs_iload (x := 0) X lw_d280 rfl ?_
  refine xs_iconst X lw_d282 ?_
  refine xs_iadd X lw_d283 ?_
  refine xs_sld X hX hbl lw_d284 (by unfold vp_in; decide) ?_
  refine xs_aload_n (v := .ref 386) X lw_d285 rfl rfl ?_
  refine lw_W (cM := 77) (n := 3) (i1 := 4230) (i2 := 4231) (i4 := 1000) (i5 := 4232) (rest := []) htr X lw_d286 (by decide +kernel) (Mc := xi_m77) rfl (show 4 ≤ 71 by decide) r1 rfl (show 3 ≤ 4 by decide) (by omega) (by omega) (by omega) (show 0 ≤ 8 by decide) rfl ?_
  refine xs_istore X lw_d289 (show 5 < 7 by omega) ?_
  refine xs_aload_n (v := .ref 344) X lw_d291 rfl rfl ?_
  refine xs_aload_n (v := .retAddr 30) X lw_d292 rfl rfl ?_
  refine xs_iload (x := 0) X lw_d293 rfl ?_
  refine xs_iconst X lw_d295 ?_
  refine xs_iadd X lw_d296 ?_
  refine xs_sld X hX hbl lw_d297 (by unfold vp_in; decide) ?_
  refine lw_V (x := 0) (cM := 67) (n := 1) (tail := [7166, 7167, 7168, 1014, 7169]) (rest := []) htr X lw_d298 (by decide +kernel) (Mc := xi_m67) rfl rfl (show 3 ≤ 71 by decide) r2 rfl (show 2 ≤ 3 by decide) hm1 (q := ("CheapPlannerModel", xi_fT 13, 71)) rfl rfl (by omega) (by omega) (show 0 ≤ 8 by decide) rfl ?_
  refine xs_istore X lw_d301 (show 6 < 7 by omega) ?_
  refine xs_aload_n (v := .ref 344) X lw_d303 rfl rfl ?_
  refine lw_V (x := 0) (cM := 46) (n := 0) (tail := [6219, 6220, 6221, 1014, 6222]) (rest := []) htr X lw_d304 (by decide +kernel) (Mc := xi_m46) rfl rfl (show 1 ≤ 71 by decide) r3 rfl (show 1 ≤ 1 by decide) hm2 (q := ("CheapPlannerModel", xi_fT 13, 71)) rfl rfl (by omega) (by omega) (show 0 ≤ 8 by decide) rfl ?_
  refine xs_iload (x := 1) X lw_d307 rfl ?_
  refine xs_icmp_eq (tgt := 314) X lw_d309 (by decide) ?_
  rw [if_pos rfl]
  refine xs_iload (x := 1) X lw_d314 rfl ?_
  refine xs_if_ne (tgt := 331) X lw_d316 (by decide) ?_
  rw [if_pos (by decide)]
  refine xs_goto (tgt := 683) X lw_d331 (by decide) ?_
  exact lw_end htr X hret hlk hX hbl (by omega) (by omega) rfl rfl
set_option maxHeartbeats 1000000 in
theorem lw_c5 (htr : ∀ e, l.admits e → e.platform.stackTraces = false) (X : xi_X (p, l, e, room_1, s, m, #[Value.ref (aS 30)], below, meth, c, lw_Z below #[Value.ref (aS 30)] s, 7, s.heap.size, aS, dA, D, 0, 0) code R_law) (hret : meth.sig.returnType = ret) (hlk : meth.locks = false) (hX : va_X (aS 30) 6 xs s s.heap) (hbl : aS 30 < s.heap.size) (F : lw_F A) : xi_At (p, l, e, room_1, s, m, #[Value.ref (aS 30)], below, meth, c, lw_Z below #[Value.ref (aS 30)] s, 7, s.heap.size, aS, dA, D, 0, 0) 334 lw_B [] A := by
  obtain ⟨⟨h0, h1, hS, hm⟩, ⟨hR118, h7, h8, h11, h15⟩, ⟨⟨f2, ha2⟩, ⟨f345, ha345⟩, ⟨f3, ha3⟩, ⟨f4, ha4⟩, ⟨f5, ha5⟩, ⟨f335, ha335⟩, ⟨f338, ha338⟩, ⟨f347, ha347⟩, ⟨f348, ha348⟩⟩, ⟨f6, ha6⟩, hlen, hns⟩ := F
  have hl1 : (A ++ [(.inr (17, List.replicate 6 .null) : xi_E)]).length = 388 := by rw [List.length_append, hlen]; rfl
  have hn1 : xi_ns (A ++ [(.inr (17, List.replicate 6 .null) : xi_E)]) = 17833 := by rw [xi_ns_push, hns]; rfl
  have hm1 : (A ++ [(.inr (17, List.replicate 6 .null) : xi_E)])[344]? = some (.inr (13, e_lM)) := by rw [List.getElem?_append_left (by rw [hlen]; decide)]; exact hm
  have r1 := er_steps h0 h1 hS 
  obtain ⟨A2, fs, r2, hm2, hf2, hl2, hn2⟩ := em_steps hm1 
  have r3 := em_thrown hm2 hf2
  refine xs_aload_n (v := .ref 0) X lw_d334 rfl rfl ?_
  refine xs_aload_n (v := .ref 386) X lw_d335 rfl rfl ?_
  refine lw_W (cM := 78) (n := 2) (i1 := 5096) (i2 := 5097) (i4 := 1000) (i5 := 5098) (rest := []) htr X lw_d336 (by decide +kernel) (Mc := xi_m78) rfl (show 3 ≤ 71 by decide) r1 rfl (show 2 ≤ 3 by decide) (by omega) (by omega) (by omega) (show 0 ≤ 8 by decide) rfl ?_
  refine xs_istore X lw_d339 (show 5 < 7 by omega) ?_
  refine xs_aload_n (v := .ref 344) X lw_d341 rfl rfl ?_
  refine lw_V (x := 0) (cM := 68) (n := 0) (tail := [7212, 7213, 7214, 1014, 7215]) (rest := []) htr X lw_d342 (by decide +kernel) (Mc := xi_m68) rfl rfl (show 1 ≤ 71 by decide) r2 rfl (show 1 ≤ 1 by decide) hm1 (q := ("CheapPlannerModel", xi_fT 13, 71)) rfl rfl (by omega) (by omega) (show 0 ≤ 8 by decide) rfl ?_
  refine xs_istore X lw_d345 (show 6 < 7 by omega) ?_
  refine xs_aload_n (v := .ref 344) X lw_d347 rfl rfl ?_
  refine lw_V (x := 0) (cM := 46) (n := 0) (tail := [6219, 6220, 6221, 1014, 6222]) (rest := []) htr X lw_d348 (by decide +kernel) (Mc := xi_m46) rfl rfl (show 1 ≤ 71 by decide) r3 rfl (show 1 ≤ 1 by decide) hm2 (q := ("CheapPlannerModel", xi_fT 13, 71)) rfl rfl (by omega) (by omega) (show 0 ≤ 8 by decide) rfl ?_
  refine xs_iload (x := 1) X lw_d351 rfl ?_
  refine xs_icmp_eq (tgt := 358) X lw_d353 (by decide) ?_
  rw [if_pos rfl]
  refine xs_iload (x := 1) X lw_d358 rfl ?_
  refine xs_if_ne (tgt := 375) X lw_d360 (by decide) ?_
  rw [if_pos (by decide)]
  refine xs_goto (tgt := 683) X lw_d375 (by decide) ?_
  exact lw_end htr X hret hlk hX hbl (by omega) (by omega) rfl rfl
set_option maxHeartbeats 1000000 in
theorem lw_c6 (htr : ∀ e, l.admits e → e.platform.stackTraces = false) (X : xi_X (p, l, e, room_1, s, m, #[Value.ref (aS 30)], below, meth, c, lw_Z below #[Value.ref (aS 30)] s, 7, s.heap.size, aS, dA, D, 0, 0) code R_law) (hret : meth.sig.returnType = ret) (hlk : meth.locks = false) (hX : va_X (aS 30) 6 xs s s.heap) (hbl : aS 30 < s.heap.size) (F : lw_F A) : xi_At (p, l, e, room_1, s, m, #[Value.ref (aS 30)], below, meth, c, lw_Z below #[Value.ref (aS 30)] s, 7, s.heap.size, aS, dA, D, 0, 0) 378 lw_B [] A := by
  obtain ⟨⟨h0, h1, hS, hm⟩, ⟨hR118, h7, h8, h11, h15⟩, ⟨⟨f2, ha2⟩, ⟨f345, ha345⟩, ⟨f3, ha3⟩, ⟨f4, ha4⟩, ⟨f5, ha5⟩, ⟨f335, ha335⟩, ⟨f338, ha338⟩, ⟨f347, ha347⟩, ⟨f348, ha348⟩⟩, ⟨f6, ha6⟩, hlen, hns⟩ := F
  have hl1 : (A ++ [(.inr (17, List.replicate 6 .null) : xi_E)]).length = 388 := by rw [List.length_append, hlen]; rfl
  have hn1 : xi_ns (A ++ [(.inr (17, List.replicate 6 .null) : xi_E)]) = 17833 := by rw [xi_ns_push, hns]; rfl
  have hm1 : (A ++ [(.inr (17, List.replicate 6 .null) : xi_E)])[344]? = some (.inr (13, e_lM)) := by rw [List.getElem?_append_left (by rw [hlen]; decide)]; exact hm
  have r1 := er_step h0 h1 hS (xs (0 + Int32.ofInt 1).toNatClampNeg)
  obtain ⟨A2, fs, r2, hm2, hf2, hl2, hn2⟩ := em_step hm1 (xs (0 + Int32.ofInt 1).toNatClampNeg)
  have r3 := em_thrown hm2 hf2
  refine xs_aload_n (v := .ref 0) X lw_d378 rfl rfl ?_
  refine xs_aload_n (v := .retAddr 30) X lw_d379 rfl rfl ?_
  refine xs_iload (x := 0) X lw_d380 rfl ?_
  refine xs_iconst X lw_d382 ?_
  refine xs_iadd X lw_d383 ?_
  refine xs_sld X hX hbl lw_d384 (by unfold vp_in; decide) ?_
  refine xs_aload_n (v := .ref 386) X lw_d385 rfl rfl ?_
  refine lw_W (cM := 79) (n := 3) (i1 := 5120) (i2 := 5121) (i4 := 1000) (i5 := 5122) (rest := []) htr X lw_d386 (by decide +kernel) (Mc := xi_m79) rfl (show 4 ≤ 71 by decide) r1 rfl (show 3 ≤ 4 by decide) (by omega) (by omega) (by omega) (show 0 ≤ 8 by decide) rfl ?_
  refine xs_istore X lw_d389 (show 5 < 7 by omega) ?_
  refine xs_aload_n (v := .ref 344) X lw_d391 rfl rfl ?_
  refine xs_aload_n (v := .retAddr 30) X lw_d392 rfl rfl ?_
  refine xs_iload (x := 0) X lw_d393 rfl ?_
  refine xs_iconst X lw_d395 ?_
  refine xs_iadd X lw_d396 ?_
  refine xs_sld X hX hbl lw_d397 (by unfold vp_in; decide) ?_
  refine lw_V (x := 0) (cM := 69) (n := 1) (tail := [7216, 7217, 7218, 1014, 7219]) (rest := []) htr X lw_d398 (by decide +kernel) (Mc := xi_m69) rfl rfl (show 2 ≤ 71 by decide) r2 rfl (show 2 ≤ 2 by decide) hm1 (q := ("CheapPlannerModel", xi_fT 13, 71)) rfl rfl (by omega) (by omega) (show 0 ≤ 8 by decide) rfl ?_
  refine xs_istore X lw_d401 (show 6 < 7 by omega) ?_
  refine xs_aload_n (v := .ref 344) X lw_d403 rfl rfl ?_
  refine lw_V (x := 0) (cM := 46) (n := 0) (tail := [6219, 6220, 6221, 1014, 6222]) (rest := []) htr X lw_d404 (by decide +kernel) (Mc := xi_m46) rfl rfl (show 1 ≤ 71 by decide) r3 rfl (show 1 ≤ 1 by decide) hm2 (q := ("CheapPlannerModel", xi_fT 13, 71)) rfl rfl (by omega) (by omega) (show 0 ≤ 8 by decide) rfl ?_
  refine xs_iload (x := 1) X lw_d407 rfl ?_
  refine xs_icmp_eq (tgt := 414) X lw_d409 (by decide) ?_
  rw [if_pos rfl]
  refine xs_iload (x := 1) X lw_d414 rfl ?_
  refine xs_if_ne (tgt := 431) X lw_d416 (by decide) ?_
  rw [if_pos (by decide)]
  refine xs_goto (tgt := 683) X lw_d431 (by decide) ?_
  exact lw_end htr X hret hlk hX hbl (by omega) (by omega) rfl rfl
set_option maxHeartbeats 1000000 in
theorem lw_c7 (htr : ∀ e, l.admits e → e.platform.stackTraces = false) (X : xi_X (p, l, e, room_1, s, m, #[Value.ref (aS 30)], below, meth, c, lw_Z below #[Value.ref (aS 30)] s, 7, s.heap.size, aS, dA, D, 0, 0) code R_law) (hret : meth.sig.returnType = ret) (hlk : meth.locks = false) (hX : va_X (aS 30) 6 xs s s.heap) (hbl : aS 30 < s.heap.size) (F : lw_F A) : xi_At (p, l, e, room_1, s, m, #[Value.ref (aS 30)], below, meth, c, lw_Z below #[Value.ref (aS 30)] s, 7, s.heap.size, aS, dA, D, 0, 0) 434 lw_B [] A := by
  obtain ⟨⟨h0, h1, hS, hm⟩, ⟨hR118, h7, h8, h11, h15⟩, ⟨⟨f2, ha2⟩, ⟨f345, ha345⟩, ⟨f3, ha3⟩, ⟨f4, ha4⟩, ⟨f5, ha5⟩, ⟨f335, ha335⟩, ⟨f338, ha338⟩, ⟨f347, ha347⟩, ⟨f348, ha348⟩⟩, ⟨f6, ha6⟩, hlen, hns⟩ := F
  have hl1 : (A ++ [(.inr (17, List.replicate 6 .null) : xi_E)]).length = 388 := by rw [List.length_append, hlen]; rfl
  have hn1 : xi_ns (A ++ [(.inr (17, List.replicate 6 .null) : xi_E)]) = 17833 := by rw [xi_ns_push, hns]; rfl
  have hm1 : (A ++ [(.inr (17, List.replicate 6 .null) : xi_E)])[344]? = some (.inr (13, e_lM)) := by rw [List.getElem?_append_left (by rw [hlen]; decide)]; exact hm
  have r1 := er_ground h0 h1 hS (xs (0 + Int32.ofInt 1).toNatClampNeg) (xs (0 + Int32.ofInt 2).toNatClampNeg)
  obtain ⟨A2, fs, r2, hm2, hf2, hl2, hn2⟩ := em_ground hm1 (xs (0 + Int32.ofInt 1).toNatClampNeg) (xs (0 + Int32.ofInt 2).toNatClampNeg)
  have r3 := em_thrown hm2 hf2
  refine xs_aload_n (v := .ref 0) X lw_d434 rfl rfl ?_
  refine xs_aload_n (v := .retAddr 30) X lw_d435 rfl rfl ?_
  refine xs_iload (x := 0) X lw_d436 rfl ?_
  refine xs_iconst X lw_d438 ?_
  refine xs_iadd X lw_d439 ?_
  refine xs_sld X hX hbl lw_d440 (by unfold vp_in; decide) ?_
  refine xs_aload_n (v := .retAddr 30) X lw_d441 rfl rfl ?_
  refine xs_iload (x := 0) X lw_d442 rfl ?_
  refine xs_iconst X lw_d444 ?_
  refine xs_iadd X lw_d445 ?_
  refine xs_sld X hX hbl lw_d446 (by unfold vp_in; decide) ?_
  refine xs_aload_n (v := .ref 386) X lw_d447 rfl rfl ?_
  refine lw_W (cM := 80) (n := 4) (i1 := 5128) (i2 := 5129) (i4 := 1000) (i5 := 5130) (rest := []) htr X lw_d448 (by decide +kernel) (Mc := xi_m80) rfl (show 5 ≤ 71 by decide) r1 rfl (show 4 ≤ 5 by decide) (by omega) (by omega) (by omega) (show 0 ≤ 8 by decide) rfl ?_
  refine xs_istore X lw_d451 (show 5 < 7 by omega) ?_
  refine xs_aload_n (v := .ref 344) X lw_d453 rfl rfl ?_
  refine xs_aload_n (v := .retAddr 30) X lw_d454 rfl rfl ?_
  refine xs_iload (x := 0) X lw_d455 rfl ?_
  refine xs_iconst X lw_d457 ?_
  refine xs_iadd X lw_d458 ?_
  refine xs_sld X hX hbl lw_d459 (by unfold vp_in; decide) ?_
  refine xs_aload_n (v := .retAddr 30) X lw_d460 rfl rfl ?_
  refine xs_iload (x := 0) X lw_d461 rfl ?_
  refine xs_iconst X lw_d463 ?_
  refine xs_iadd X lw_d464 ?_
  refine xs_sld X hX hbl lw_d465 (by unfold vp_in; decide) ?_
  refine lw_V (x := 0) (cM := 70) (n := 2) (tail := [7220, 7221, 7222, 1014, 7223]) (rest := []) htr X lw_d466 (by decide +kernel) (Mc := xi_m70) rfl rfl (show 3 ≤ 71 by decide) r2 rfl (show 3 ≤ 3 by decide) hm1 (q := ("CheapPlannerModel", xi_fT 13, 71)) rfl rfl (by omega) (by omega) (show 0 ≤ 8 by decide) rfl ?_
  refine xs_istore X lw_d469 (show 6 < 7 by omega) ?_
  refine xs_aload_n (v := .ref 344) X lw_d471 rfl rfl ?_
  refine lw_V (x := 0) (cM := 46) (n := 0) (tail := [6219, 6220, 6221, 1014, 6222]) (rest := []) htr X lw_d472 (by decide +kernel) (Mc := xi_m46) rfl rfl (show 1 ≤ 71 by decide) r3 rfl (show 1 ≤ 1 by decide) hm2 (q := ("CheapPlannerModel", xi_fT 13, 71)) rfl rfl (by omega) (by omega) (show 0 ≤ 8 by decide) rfl ?_
  refine xs_iload (x := 1) X lw_d475 rfl ?_
  refine xs_icmp_eq (tgt := 482) X lw_d477 (by decide) ?_
  rw [if_pos rfl]
  refine xs_iload (x := 1) X lw_d482 rfl ?_
  refine xs_if_ne (tgt := 499) X lw_d484 (by decide) ?_
  rw [if_pos (by decide)]
  refine xs_goto (tgt := 683) X lw_d499 (by decide) ?_
  exact lw_end htr X hret hlk hX hbl (by omega) (by omega) rfl rfl
set_option maxHeartbeats 1000000 in
theorem lw_c8 (htr : ∀ e, l.admits e → e.platform.stackTraces = false) (X : xi_X (p, l, e, room_1, s, m, #[Value.ref (aS 30)], below, meth, c, lw_Z below #[Value.ref (aS 30)] s, 7, s.heap.size, aS, dA, D, 0, 0) code R_law) (hret : meth.sig.returnType = ret) (hlk : meth.locks = false) (hX : va_X (aS 30) 6 xs s s.heap) (hbl : aS 30 < s.heap.size) (F : lw_F A) : xi_At (p, l, e, room_1, s, m, #[Value.ref (aS 30)], below, meth, c, lw_Z below #[Value.ref (aS 30)] s, 7, s.heap.size, aS, dA, D, 0, 0) 502 lw_B [] A := by
  obtain ⟨⟨h0, h1, hS, hm⟩, ⟨hR118, h7, h8, h11, h15⟩, ⟨⟨f2, ha2⟩, ⟨f345, ha345⟩, ⟨f3, ha3⟩, ⟨f4, ha4⟩, ⟨f5, ha5⟩, ⟨f335, ha335⟩, ⟨f338, ha338⟩, ⟨f347, ha347⟩, ⟨f348, ha348⟩⟩, ⟨f6, ha6⟩, hlen, hns⟩ := F
  by_cases hp : (xs (0 + Int32.ofInt 1).toNatClampNeg) < 0
  · have hl1 : (A ++ [(.inr (18, List.replicate 6 .null) : xi_E)]).length = 388 := by rw [List.length_append, hlen]; rfl
    have hn1 : xi_ns (A ++ [(.inr (18, List.replicate 6 .null) : xi_E)]) = 17833 := by rw [xi_ns_push, hns]; rfl
    have hm1 : (A ++ [(.inr (18, List.replicate 6 .null) : xi_E)])[344]? = some (.inr (13, e_lM)) := by rw [List.getElem?_append_left (by rw [hlen]; decide)]; exact hm
    have r1 := er_letter_t h0 h1 hS (xs (0 + Int32.ofInt 1).toNatClampNeg) hp
    obtain ⟨A2, fs, r2, hm2, hf2, hl2, hn2⟩ := em_letter_t hm1 (xs (0 + Int32.ofInt 1).toNatClampNeg) hp
    have r3 := em_thrown hm2 hf2
    refine xs_aload_n (v := .ref 0) X lw_d502 rfl rfl ?_
    refine xs_aload_n (v := .retAddr 30) X lw_d503 rfl rfl ?_
    refine xs_iload (x := 0) X lw_d504 rfl ?_
    refine xs_iconst X lw_d506 ?_
    refine xs_iadd X lw_d507 ?_
    refine xs_sld X hX hbl lw_d508 (by unfold vp_in; decide) ?_
    refine xs_aload_n (v := .ref 386) X lw_d509 rfl rfl ?_
    refine lw_W (cM := 81) (n := 3) (i1 := 5137) (i2 := 5138) (i4 := 1000) (i5 := 5139) (rest := []) htr X lw_d510 (by decide +kernel) (Mc := xi_m81) rfl (show 4 ≤ 71 by decide) r1 rfl (show 3 ≤ 4 by decide) (by omega) (by omega) (by omega) (show 0 ≤ 8 by decide) rfl ?_
    refine xs_istore X lw_d513 (show 5 < 7 by omega) ?_
    refine xs_aload_n (v := .ref 344) X lw_d515 rfl rfl ?_
    refine xs_aload_n (v := .retAddr 30) X lw_d516 rfl rfl ?_
    refine xs_iload (x := 0) X lw_d517 rfl ?_
    refine xs_iconst X lw_d519 ?_
    refine xs_iadd X lw_d520 ?_
    refine xs_sld X hX hbl lw_d521 (by unfold vp_in; decide) ?_
    refine lw_V (x := 0) (cM := 71) (n := 1) (tail := [7224, 7225, 7226, 1014, 7227]) (rest := []) htr X lw_d522 (by decide +kernel) (Mc := xi_m71) rfl rfl (show 5 ≤ 71 by decide) r2 rfl (show 2 ≤ 5 by decide) hm1 (q := ("CheapPlannerModel", xi_fT 13, 71)) rfl rfl (by omega) (by omega) (show 0 ≤ 8 by decide) rfl ?_
    refine xs_istore X lw_d525 (show 6 < 7 by omega) ?_
    refine xs_aload_n (v := .ref 344) X lw_d527 rfl rfl ?_
    refine lw_V (x := 0) (cM := 46) (n := 0) (tail := [6219, 6220, 6221, 1014, 6222]) (rest := []) htr X lw_d528 (by decide +kernel) (Mc := xi_m46) rfl rfl (show 1 ≤ 71 by decide) r3 rfl (show 1 ≤ 1 by decide) hm2 (q := ("CheapPlannerModel", xi_fT 13, 71)) rfl rfl (by omega) (by omega) (show 0 ≤ 8 by decide) rfl ?_
    refine xs_iload (x := 1) X lw_d531 rfl ?_
    refine xs_icmp_eq (tgt := 538) X lw_d533 (by decide) ?_
    rw [if_pos rfl]
    refine xs_iload (x := 1) X lw_d538 rfl ?_
    refine xs_if_ne (tgt := 555) X lw_d540 (by decide) ?_
    rw [if_pos (by decide)]
    refine xs_goto (tgt := 683) X lw_d555 (by decide) ?_
    exact lw_end htr X hret hlk hX hbl (by omega) (by omega) rfl rfl
  · have hl1 : (A ++ [(.inr (18, List.replicate 6 .null) : xi_E)]).length = 388 := by rw [List.length_append, hlen]; rfl
    have hn1 : xi_ns (A ++ [(.inr (18, List.replicate 6 .null) : xi_E)]) = 17833 := by rw [xi_ns_push, hns]; rfl
    have hm1 : (A ++ [(.inr (18, List.replicate 6 .null) : xi_E)])[344]? = some (.inr (13, e_lM)) := by rw [List.getElem?_append_left (by rw [hlen]; decide)]; exact hm
    have r1 := er_letter_f h0 h1 hS (xs (0 + Int32.ofInt 1).toNatClampNeg) hp
    obtain ⟨A2, fs, r2, hm2, hf2, hl2, hn2⟩ := em_letter_f hm1 (xs (0 + Int32.ofInt 1).toNatClampNeg) hp
    have r3 := em_thrown hm2 hf2
    refine xs_aload_n (v := .ref 0) X lw_d502 rfl rfl ?_
    refine xs_aload_n (v := .retAddr 30) X lw_d503 rfl rfl ?_
    refine xs_iload (x := 0) X lw_d504 rfl ?_
    refine xs_iconst X lw_d506 ?_
    refine xs_iadd X lw_d507 ?_
    refine xs_sld X hX hbl lw_d508 (by unfold vp_in; decide) ?_
    refine xs_aload_n (v := .ref 386) X lw_d509 rfl rfl ?_
    refine lw_W (cM := 81) (n := 3) (i1 := 5137) (i2 := 5138) (i4 := 1000) (i5 := 5139) (rest := []) htr X lw_d510 (by decide +kernel) (Mc := xi_m81) rfl (show 4 ≤ 71 by decide) r1 rfl (show 3 ≤ 4 by decide) (by omega) (by omega) (by omega) (show 0 ≤ 8 by decide) rfl ?_
    refine xs_istore X lw_d513 (show 5 < 7 by omega) ?_
    refine xs_aload_n (v := .ref 344) X lw_d515 rfl rfl ?_
    refine xs_aload_n (v := .retAddr 30) X lw_d516 rfl rfl ?_
    refine xs_iload (x := 0) X lw_d517 rfl ?_
    refine xs_iconst X lw_d519 ?_
    refine xs_iadd X lw_d520 ?_
    refine xs_sld X hX hbl lw_d521 (by unfold vp_in; decide) ?_
    refine lw_V (x := 0) (cM := 71) (n := 1) (tail := [7224, 7225, 7226, 1014, 7227]) (rest := []) htr X lw_d522 (by decide +kernel) (Mc := xi_m71) rfl rfl (show 5 ≤ 71 by decide) r2 rfl (show 2 ≤ 5 by decide) hm1 (q := ("CheapPlannerModel", xi_fT 13, 71)) rfl rfl (by omega) (by omega) (show 0 ≤ 8 by decide) rfl ?_
    refine xs_istore X lw_d525 (show 6 < 7 by omega) ?_
    refine xs_aload_n (v := .ref 344) X lw_d527 rfl rfl ?_
    refine lw_V (x := 0) (cM := 46) (n := 0) (tail := [6219, 6220, 6221, 1014, 6222]) (rest := []) htr X lw_d528 (by decide +kernel) (Mc := xi_m46) rfl rfl (show 1 ≤ 71 by decide) r3 rfl (show 1 ≤ 1 by decide) hm2 (q := ("CheapPlannerModel", xi_fT 13, 71)) rfl rfl (by omega) (by omega) (show 0 ≤ 8 by decide) rfl ?_
    refine xs_iload (x := 1) X lw_d531 rfl ?_
    refine xs_icmp_eq (tgt := 538) X lw_d533 (by decide) ?_
    rw [if_pos rfl]
    refine xs_iload (x := 1) X lw_d538 rfl ?_
    refine xs_if_ne (tgt := 555) X lw_d540 (by decide) ?_
    rw [if_pos (by decide)]
    refine xs_goto (tgt := 683) X lw_d555 (by decide) ?_
    exact lw_end htr X hret hlk hX hbl (by omega) (by omega) rfl rfl
set_option maxHeartbeats 1000000 in
theorem lw_c9 (htr : ∀ e, l.admits e → e.platform.stackTraces = false) (X : xi_X (p, l, e, room_1, s, m, #[Value.ref (aS 30)], below, meth, c, lw_Z below #[Value.ref (aS 30)] s, 7, s.heap.size, aS, dA, D, 0, 0) code R_law) (hret : meth.sig.returnType = ret) (hlk : meth.locks = false) (hX : va_X (aS 30) 6 xs s s.heap) (hbl : aS 30 < s.heap.size) (F : lw_F A) : xi_At (p, l, e, room_1, s, m, #[Value.ref (aS 30)], below, meth, c, lw_Z below #[Value.ref (aS 30)] s, 7, s.heap.size, aS, dA, D, 0, 0) 558 lw_B [] A := by
  obtain ⟨⟨h0, h1, hS, hm⟩, ⟨hR118, h7, h8, h11, h15⟩, ⟨⟨f2, ha2⟩, ⟨f345, ha345⟩, ⟨f3, ha3⟩, ⟨f4, ha4⟩, ⟨f5, ha5⟩, ⟨f335, ha335⟩, ⟨f338, ha338⟩, ⟨f347, ha347⟩, ⟨f348, ha348⟩⟩, ⟨f6, ha6⟩, hlen, hns⟩ := F
  have r1 := ec_put h0 h1 hS (xs (0 + Int32.ofInt 1).toNatClampNeg)
  obtain ⟨A2, fs, r2, hm2, -, hl2, hn2⟩ := em_put hm (xs (0 + Int32.ofInt 1).toNatClampNeg)
  refine xs_aload_n (v := .ref 0) X lw_d558 rfl rfl ?_
  refine xs_aload_n (v := .retAddr 30) X lw_d559 rfl rfl ?_
  refine xs_iload (x := 0) X lw_d560 rfl ?_
  refine xs_iconst X lw_d562 ?_
  refine xs_iadd X lw_d563 ?_
  refine xs_sld X hX hbl lw_d564 (by unfold vp_in; decide) ?_
  refine lw_V (x := 0) (cM := 10) (n := 1) (tail := [3014, 3015, 3016, 1001, 3017]) (rest := []) htr X lw_d565 (by decide +kernel) (Mc := xi_m10) rfl rfl (show 2 ≤ 71 by decide) r1 rfl (show 2 ≤ 2 by decide) h0 (q := ("CheapPlanner", xi_fT 0, 13)) rfl rfl (by omega) (by omega) (show 0 ≤ 8 by decide) rfl ?_
  refine xs_aload_n (v := .ref 344) X lw_d568 rfl rfl ?_
  refine xs_aload_n (v := .retAddr 30) X lw_d569 rfl rfl ?_
  refine xs_iload (x := 0) X lw_d570 rfl ?_
  refine xs_iconst X lw_d572 ?_
  refine xs_iadd X lw_d573 ?_
  refine xs_sld X hX hbl lw_d574 (by unfold vp_in; decide) ?_
  refine lw_V (x := 0) (cM := 72) (n := 1) (tail := [7236, 7237, 7238, 1014, 7239]) (rest := [.int _]) htr X lw_d575 (by decide +kernel) (Mc := xi_m72) rfl rfl (show 2 ≤ 71 by decide) r2 rfl (show 2 ≤ 2 by decide) hm (q := ("CheapPlannerModel", xi_fT 13, 71)) rfl rfl (by omega) (by omega) (show 1 ≤ 8 by decide) rfl ?_
  refine xs_icmp_eq (tgt := 683) X lw_d578 (by decide) ?_
  rw [if_pos rfl]
  exact lw_end htr X hret hlk hX hbl (by omega) (by omega) rfl rfl
set_option maxHeartbeats 1000000 in
theorem lw_c10 (htr : ∀ e, l.admits e → e.platform.stackTraces = false) (X : xi_X (p, l, e, room_1, s, m, #[Value.ref (aS 30)], below, meth, c, lw_Z below #[Value.ref (aS 30)] s, 7, s.heap.size, aS, dA, D, 0, 0) code R_law) (hret : meth.sig.returnType = ret) (hlk : meth.locks = false) (hX : va_X (aS 30) 6 xs s s.heap) (hbl : aS 30 < s.heap.size) (F : lw_F A) : xi_At (p, l, e, room_1, s, m, #[Value.ref (aS 30)], below, meth, c, lw_Z below #[Value.ref (aS 30)] s, 7, s.heap.size, aS, dA, D, 0, 0) 583 lw_B [] A := by
  obtain ⟨⟨h0, h1, hS, hm⟩, ⟨hR118, h7, h8, h11, h15⟩, ⟨⟨f2, ha2⟩, ⟨f345, ha345⟩, ⟨f3, ha3⟩, ⟨f4, ha4⟩, ⟨f5, ha5⟩, ⟨f335, ha335⟩, ⟨f338, ha338⟩, ⟨f347, ha347⟩, ⟨f348, ha348⟩⟩, ⟨f6, ha6⟩, hlen, hns⟩ := F
  have hl1 : (A ++ [(.inr (15, List.replicate 6 .null) : xi_E)]).length = 388 := by rw [List.length_append, hlen]; rfl
  have hn1 : xi_ns (A ++ [(.inr (15, List.replicate 6 .null) : xi_E)]) = 17833 := by rw [xi_ns_push, hns]; rfl
  have hm1 : (A ++ [(.inr (15, List.replicate 6 .null) : xi_E)])[344]? = some (.inr (13, e_lM)) := by rw [List.getElem?_append_left (by rw [hlen]; decide)]; exact hm
  have r1 := er_check h0 h1 hS 
  obtain ⟨A2, fs, r2, hm2, hf2, hl2, hn2⟩ := em_check hm1 
  have r3 := em_thrown hm2 hf2
  refine xs_aload_n (v := .ref 0) X lw_d583 rfl rfl ?_
  refine xs_aload_n (v := .ref 386) X lw_d584 rfl rfl ?_
  refine lw_W (cM := 82) (n := 2) (i1 := 5161) (i2 := 5162) (i4 := 1000) (i5 := 5163) (rest := []) htr X lw_d585 (by decide +kernel) (Mc := xi_m82) rfl (show 3 ≤ 71 by decide) r1 rfl (show 2 ≤ 3 by decide) (by omega) (by omega) (by omega) (show 0 ≤ 8 by decide) rfl ?_
  refine xs_istore X lw_d588 (show 5 < 7 by omega) ?_
  refine xs_aload_n (v := .ref 344) X lw_d590 rfl rfl ?_
  refine lw_V (x := 0) (cM := 73) (n := 0) (tail := [8000, 8001, 8002, 1014, 8003]) (rest := []) htr X lw_d591 (by decide +kernel) (Mc := xi_m73) rfl rfl (show 7 ≤ 71 by decide) r2 rfl (show 1 ≤ 7 by decide) hm1 (q := ("CheapPlannerModel", xi_fT 13, 71)) rfl rfl (by omega) (by omega) (show 0 ≤ 8 by decide) rfl ?_
  refine xs_istore X lw_d594 (show 6 < 7 by omega) ?_
  refine xs_aload_n (v := .ref 344) X lw_d596 rfl rfl ?_
  refine lw_V (x := 0) (cM := 46) (n := 0) (tail := [6219, 6220, 6221, 1014, 6222]) (rest := []) htr X lw_d597 (by decide +kernel) (Mc := xi_m46) rfl rfl (show 1 ≤ 71 by decide) r3 rfl (show 1 ≤ 1 by decide) hm2 (q := ("CheapPlannerModel", xi_fT 13, 71)) rfl rfl (by omega) (by omega) (show 0 ≤ 8 by decide) rfl ?_
  refine xs_iload (x := 1) X lw_d600 rfl ?_
  refine xs_icmp_eq (tgt := 607) X lw_d602 (by decide) ?_
  rw [if_pos rfl]
  refine xs_iload (x := 1) X lw_d607 rfl ?_
  refine xs_if_ne (tgt := 624) X lw_d609 (by decide) ?_
  rw [if_pos (by decide)]
  refine xs_goto (tgt := 683) X lw_d624 (by decide) ?_
  exact lw_end htr X hret hlk hX hbl (by omega) (by omega) rfl rfl
set_option maxHeartbeats 1000000 in
theorem lw_c11 (htr : ∀ e, l.admits e → e.platform.stackTraces = false) (X : xi_X (p, l, e, room_1, s, m, #[Value.ref (aS 30)], below, meth, c, lw_Z below #[Value.ref (aS 30)] s, 7, s.heap.size, aS, dA, D, 0, 0) code R_law) (hret : meth.sig.returnType = ret) (hlk : meth.locks = false) (hX : va_X (aS 30) 6 xs s s.heap) (hbl : aS 30 < s.heap.size) (F : lw_F A) : xi_At (p, l, e, room_1, s, m, #[Value.ref (aS 30)], below, meth, c, lw_Z below #[Value.ref (aS 30)] s, 7, s.heap.size, aS, dA, D, 0, 0) 627 lw_B [] A := by
  obtain ⟨⟨h0, h1, hS, hm⟩, ⟨hR118, h7, h8, h11, h15⟩, ⟨⟨f2, ha2⟩, ⟨f345, ha345⟩, ⟨f3, ha3⟩, ⟨f4, ha4⟩, ⟨f5, ha5⟩, ⟨f335, ha335⟩, ⟨f338, ha338⟩, ⟨f347, ha347⟩, ⟨f348, ha348⟩⟩, ⟨f6, ha6⟩, hlen, hns⟩ := F
  have hl1 : (A ++ [(.inr (15, List.replicate 6 .null) : xi_E)]).length = 388 := by rw [List.length_append, hlen]; rfl
  have hn1 : xi_ns (A ++ [(.inr (15, List.replicate 6 .null) : xi_E)]) = 17833 := by rw [xi_ns_push, hns]; rfl
  have hm1 : (A ++ [(.inr (15, List.replicate 6 .null) : xi_E)])[344]? = some (.inr (13, e_lM)) := by rw [List.getElem?_append_left (by rw [hlen]; decide)]; exact hm
  have r1 := er_estimate h0 h1 hS (xs (0 + Int32.ofInt 1).toNatClampNeg)
  obtain ⟨A2, fs, r2, hm2, hf2, hl2, hn2⟩ := em_estimate hm1 (xs (0 + Int32.ofInt 1).toNatClampNeg)
  have r3 := em_thrown hm2 hf2
  refine xs_aload_n (v := .ref 0) X lw_d627 rfl rfl ?_
  refine xs_aload_n (v := .retAddr 30) X lw_d628 rfl rfl ?_
  refine xs_iload (x := 0) X lw_d629 rfl ?_
  refine xs_iconst X lw_d631 ?_
  refine xs_iadd X lw_d632 ?_
  refine xs_sld X hX hbl lw_d633 (by unfold vp_in; decide) ?_
  refine xs_aload_n (v := .ref 386) X lw_d634 rfl rfl ?_
  refine lw_W (cM := 83) (n := 3) (i1 := 5170) (i2 := 5171) (i4 := 1000) (i5 := 5172) (rest := []) htr X lw_d635 (by decide +kernel) (Mc := xi_m83) rfl (show 4 ≤ 71 by decide) r1 rfl (show 3 ≤ 4 by decide) (by omega) (by omega) (by omega) (show 0 ≤ 8 by decide) rfl ?_
  refine xs_istore X lw_d638 (show 5 < 7 by omega) ?_
  refine xs_aload_n (v := .ref 344) X lw_d640 rfl rfl ?_
  refine xs_aload_n (v := .retAddr 30) X lw_d641 rfl rfl ?_
  refine xs_iload (x := 0) X lw_d642 rfl ?_
  refine xs_iconst X lw_d644 ?_
  refine xs_iadd X lw_d645 ?_
  refine xs_sld X hX hbl lw_d646 (by unfold vp_in; decide) ?_
  refine lw_V (x := 0) (cM := 74) (n := 1) (tail := [8004, 8005, 8006, 1014, 8007]) (rest := []) htr X lw_d647 (by decide +kernel) (Mc := xi_m74) rfl rfl (show 6 ≤ 71 by decide) r2 rfl (show 2 ≤ 6 by decide) hm1 (q := ("CheapPlannerModel", xi_fT 13, 71)) rfl rfl (by omega) (by omega) (show 0 ≤ 8 by decide) rfl ?_
  refine xs_istore X lw_d650 (show 6 < 7 by omega) ?_
  refine xs_aload_n (v := .ref 344) X lw_d652 rfl rfl ?_
  refine lw_V (x := 0) (cM := 46) (n := 0) (tail := [6219, 6220, 6221, 1014, 6222]) (rest := []) htr X lw_d653 (by decide +kernel) (Mc := xi_m46) rfl rfl (show 1 ≤ 71 by decide) r3 rfl (show 1 ≤ 1 by decide) hm2 (q := ("CheapPlannerModel", xi_fT 13, 71)) rfl rfl (by omega) (by omega) (show 0 ≤ 8 by decide) rfl ?_
  refine xs_iload (x := 1) X lw_d656 rfl ?_
  refine xs_icmp_eq (tgt := 663) X lw_d658 (by decide) ?_
  rw [if_pos rfl]
  refine xs_iload (x := 1) X lw_d663 rfl ?_
  refine xs_if_ne (tgt := 680) X lw_d665 (by decide) ?_
  rw [if_pos (by decide)]
  refine xs_goto (tgt := 683) X lw_d680 (by decide) ?_
  exact lw_end htr X hret hlk hX hbl (by omega) (by omega) rfl rfl
end LW

section LW
variable {p : Program} {l : Launch} {e : Env} {R : Room} {s : State} {m : MethodId} {args : Array Value} {below : List Frame} {meth : Method} {c : Code} {Q : State → Prop} {nL b0 : Nat} {aS : Nat → Nat} {dA : Nat → ClassId} {D : va_G} {n0 s0 : Nat}
variable {A A' : xi_H} {cc : ByteArray} {own : String} {pc i : Nat} {lv : xi_L} {r : List Value} {xs : Nat → Int32} {L : Nat}
theorem lw_fin (X : xi_X (p, l, e, room_1, s, m, #[Value.ref (aS 30)], below, meth, c, lw_Z below #[Value.ref (aS 30)] s, 7, s.heap.size, aS, dA, D, 0, 0) code R_law) (hret : meth.sig.returnType = ret) (hlk : meth.locks = false) (hL : A.length ≤ 600002) (hN : xi_ns A ≤ 7302232) : xi_At (p, l, e, room_1, s, m, #[Value.ref (aS 30)], below, meth, c, lw_Z below #[Value.ref (aS 30)] s, 7, s.heap.size, aS, dA, D, 0, 0) 689 lv [] A := by
  refine xs_iconst X lw_d689 ?_
  obtain ⟨hx, hb, -⟩ := X
  intro H locs ls hR hl
  exact va_forget (fun q hq => hR.2.1.2.2 q hq) (W.widen (show A.length - 0 ≤ 600002 by omega) (show xi_ns A - 0 ≤ 7302232 by omega) (lw_ret hx hb hret hlk lw_d690))
theorem lw_end (htr : ∀ e, l.admits e → e.platform.stackTraces = false) (X : xi_X (p, l, e, room_1, s, m, #[Value.ref (aS 30)], below, meth, c, lw_Z below #[Value.ref (aS 30)] s, 7, s.heap.size, aS, dA, D, 0, 0) code R_law) (hret : meth.sig.returnType = ret) (hlk : meth.locks = false) (hX : va_X (aS 30) 6 xs s s.heap) (hbl : aS 30 < s.heap.size) (hL : A.length ≤ 600002) (hN : xi_ns A ≤ 7302232) (h4 : xi_get lv 4 = some (.int 0)) (h40 : xi_get (xi_put1 lv 4 (.int (0 + Int32.ofInt 6))) 0 = some (.retAddr 30)) : xi_At (p, l, e, room_1, s, m, #[Value.ref (aS 30)], below, meth, c, lw_Z below #[Value.ref (aS 30)] s, 7, s.heap.size, aS, dA, D, 0, 0) 683 lv [] A := by
  refine xs_iinc X lw_d683 h4 (show 4 < 7 by omega) ?_
  refine xs_goto (tgt := 23) X lw_d686 (by decide) ?_
  refine xs_iload X lw_d23 (x := 0 + Int32.ofInt 6) rfl ?_
  refine xs_aload_n X lw_d25 h40 rfl ?_
  refine xs_slen X hX hbl lw_d26 ?_
  refine xs_bipush X lw_d27 ?_
  refine xs_isub X lw_d29 ?_
  refine xs_icmp_gt (tgt := 689) X lw_d30 (by decide) ?_
  rw [if_pos (by decide)]
  exact lw_fin X hret hlk hL hN
def lw_F (A : xi_H) : Prop := (A[0]? = some (.inr (0, e_l0)) ∧ A[1]? = some (.inr (1, e_l1)) ∧ A[331]? = some (.inr (11, e_lS)) ∧ A[344]? = some (.inr (13, e_lM))) ∧ (A[118]? = some (.inr (6, [.ref 1, .ref 7, .ref 104, .ref 119])) ∧ A[7]? = some (.inr (2, [.long 0, .ref 8, .ref 11, .ref 14, .ref 15, .ref 18, .ref 19, .ref 20])) ∧ A[8]? = some (.inr (3, [.ref 9, .ref 10, .int 0])) ∧ A[11]? = some (.inr (3, [.ref 12, .ref 13, .int 0])) ∧ A[15]? = some (.inr (3, [.ref 16, .ref 17, .int 0]))) ∧ ((∃ f, A[2]? = some (.inl (2, 600, .inl f))) ∧ (∃ f, A[345]? = some (.inl (0, 600, .inl f))) ∧ (∃ f, A[3]? = some (.inl (0, 601, .inl f))) ∧ (∃ f, A[4]? = some (.inl (0, 601, .inl f))) ∧ (∃ f, A[5]? = some (.inl (0, 601, .inl f))) ∧ (∃ f, A[335]? = some (.inl (0, 201, .inl f))) ∧ (∃ f, A[338]? = some (.inl (0, 512, .inl f))) ∧ (∃ f, A[347]? = some (.inl (0, 602, .inl f))) ∧ (∃ f, A[348]? = some (.inl (0, 602, .inl f)))) ∧ (∃ g, A[6]? = some (.inl (1, 601, .inr (.inl g)))) ∧ A.length = 387 ∧ xi_ns A = 17827
theorem lw_fresh {x : xi_E} (hx : xi_n x = 1) : lw_F (e_A2 ++ [x]) := by
  have h := e_chk_ok
  have h2 := e_chk2_ok
  simp only [e_chk, Bool.and_eq_true, decide_eq_true_eq] at h
  simp only [e_chk2, Bool.and_eq_true, decide_eq_true_eq] at h2
  obtain ⟨⟨-, ⟨-, hl⟩, -, hs⟩, ⟨⟨a0, a1⟩, a331, a344⟩, a2, a345⟩ := h
  obtain ⟨⟨⟨b118, b7⟩, b8, b11, b15⟩, ⟨⟨b3, b4⟩, b5, b335⟩, ⟨b338, b347⟩, b348, b6⟩ := h2
  have ap : ∀ {k : Nat} {q : xi_E}, k < 386 → e_A2[k]? = some q → (e_A2 ++ [x])[k]? = some q := fun hk hq => by rw [List.getElem?_append_left (by rw [hl]; exact hk)]; exact hq
  have ar : ∀ {k t n : Nat}, k < 386 → xi_arI e_A2 k t n = true → ∃ f, (e_A2 ++ [x])[k]? = some (.inl (t, n, .inl f)) := fun hk hq => by
    obtain ⟨f, hf⟩ := xi_arI_eq hq
    exact ⟨f, ap hk hf⟩
  refine ⟨⟨ap (by decide) (xi_obj_eq a0), ap (by decide) (xi_obj_eq a1), ap (by decide) (xi_obj_eq a331), ap (by decide) (xi_obj_eq a344)⟩, ⟨ap (by decide) (xi_obj_eq b118), ap (by decide) (xi_obj_eq b7), ap (by decide) (xi_obj_eq b8), ap (by decide) (xi_obj_eq b11), ap (by decide) (xi_obj_eq b15)⟩, ⟨ar (by decide) a2, ar (by decide) a345, ar (by decide) b3, ar (by decide) b4, ar (by decide) b5, ar (by decide) b335, ar (by decide) b338, ar (by decide) b347, ar (by decide) b348⟩, ?_, ?_, ?_⟩
  · obtain ⟨f, hf⟩ := xi_arL_eq b6
    exact ⟨f, ap (by decide) hf⟩
  · rw [List.length_append, hl]; rfl
  · rw [xi_ns_push, hs, hx]
end LW

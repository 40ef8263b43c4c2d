/-! THE ABSTRACT MACHINE's RUN -/
/-- a method: its name, bytes, locals, what it returns, its rows (place, instruction, next place, numbers), its handlers (from, to, place, entry, class) -/
abbrev xi_M : Type := MethodName × ByteArray × Nat × Option FieldType × List (Nat × Instr × Nat × List Nat) × List (Nat × Nat × Nat × Nat × Nat)
def xi_row (rows : List (Nat × Instr × Nat × List Nat)) (pc : Nat) : Option (Instr × Nat × List Nat) := (rows.find? (fun r => r.1 == pc)).map (·.2)
def xi_wt (st : List Value) : Nat := (st.map fun v => v.category).sum
/-- what a row asks for: an end; a call; another stack; a step -/
abbrev xi_A : Type := (Outcome × xi_H) ⊕ (Nat × List Value × List Value × Nat × Bool) ⊕ Option (List Value)
def xi_cv (Ms : List xi_M) (fr lo cM n : Nat) (st : List Value) (A : xi_H) : Option xi_A := match st.drop n, Ms[cM]? with
  | .ref b :: rest, some Mc => match A[b]? with
    | some (.inr (ci, _)) => if ((xi_cl[ci]?).map (·.1) = some Mc.1.cls ∧ n ≤ st.length ∧ xi_wt rest ≤ 8 ∧ 1 ≤ fr) ∧ 19 + Mc.2.2.1 ≤ lo ∧ xi_wt (.ref b :: (st.take n).reverse) ≤ Mc.2.2.1 ∧ Mc.2.2.2.2.2 = [] ∧ 0 < A.length then some (.inr (.inl (cM, .ref b :: (st.take n).reverse, rest, Mc.2.2.1, true))) else none
    | _ => none
  | _, _ => none
def xi_ci (Ms : List xi_M) (fr lo cM n : Nat) (st : List Value) (A : xi_H) : Option xi_A := match st.drop n, Ms[cM]? with
  | .ref b :: rest, some Mc => if (n ≤ st.length ∧ xi_wt rest ≤ 8 ∧ 1 ≤ fr) ∧ 19 + Mc.2.2.1 ≤ lo ∧ xi_wt (.ref b :: (st.take n).reverse) ≤ Mc.2.2.1 ∧ Mc.2.2.2.2.2 = [] ∧ 0 < A.length then some (.inr (.inl (cM, .ref b :: (st.take n).reverse, rest, Mc.2.2.1, false))) else none
  | _, _ => none
def xi_cs (Ms : List xi_M) (fr lo cM n : Nat) (st : List Value) (A : xi_H) : Option xi_A := match Ms[cM]? with
  | some Mc => if (n ≤ st.length ∧ xi_wt (st.drop n) ≤ 8 ∧ 1 ≤ fr) ∧ 19 + Mc.2.2.1 ≤ lo ∧ xi_wt ((st.take n).reverse) ≤ Mc.2.2.1 ∧ Mc.2.2.2.2.2 = [] ∧ 0 < A.length then some (.inr (.inl (cM, (st.take n).reverse, st.drop n, Mc.2.2.1, false))) else none
  | _ => none
def xi_x (Ms : List xi_M) (M : xi_M) (I : Instr) (aux : List Nat) (fr lo : Nat) (st : List Value) (A : xi_H) : Option xi_A := match I with
  | .ireturn => match st, M.2.2.2.1 with
    | [.int v], some ty => if narrow ty (.int v) = .int v then some (.inl (.returned (some (.int v)), A)) else none
    | _, _ => none
  | .lreturn => match st with
    | [.long v] => if M.2.2.2.1 = some .long then some (.inl (.returned (some (.long v)), A)) else none
    | _ => none
  | .return_ => match st with
    | [] => if M.2.2.2.1 = none then some (.inl (.returned none, A)) else none
    | _ => none
  | .new _ => match aux with
    | [ci, _, _, _, _, _, _] => if M.2.2.2.2.2 = [] ∧ 6 ≤ fr ∧ 100 ≤ lo ∧ xi_wt st ≤ 8 ∧ 0 < A.length then some (.inl (.threw A.length, A ++ [.inr (ci, List.replicate 6 .null)])) else none
    | _ => some (.inr (.inr none))
  | .invokevirtual _ => match aux with
    | [_] => match st with
      | .retAddr j :: r => match xi_tx[j]? with
        | some t => if (6 ≤ fr ∧ 100 ≤ lo ∧ xi_wt r ≤ 6) ∧ 0 < A.length then some (.inr (.inr (some (.int (Int32.ofInt (t.length : Int)) :: r)))) else none
        | none => none
      | _ => none
    | [_, _] => match st with
      | .int k :: .retAddr j :: r => match xi_tx[j]? with
        | some t => match t[k.toNatClampNeg]? with
          | some z => if (6 ≤ fr ∧ 100 ≤ lo ∧ xi_wt r ≤ 6) ∧ 0 < A.length ∧ 0 ≤ k then some (.inr (.inr (some (.int (Int32.ofInt z) :: r)))) else none
          | none => none
        | none => none
      | _ => none
    | _ :: cM :: n :: _ => xi_cv Ms fr lo cM n st A
    | _ => none
  | .invokestatic _ => match aux with
    | _ :: cM :: n :: _ => xi_cs Ms fr lo cM n st A
    | _ => none
  | .invokespecial _ => match aux with
    | [0, _, _, _] => match st with
      | .ref _ :: rest => if xi_wt rest ≤ 8 ∧ 1 ≤ fr ∧ 20 ≤ lo then some (.inr (.inr (some rest))) else none
      | _ => none
    | _ :: cM :: n :: _ => xi_ci Ms fr lo cM n st A
    | _ => none
  | _ => some (.inr (.inr none))
/-- handlers behind the first: all about the place -/
def xi_hs (cj ci a1 a2 : Nat) (hs : List (Nat × Nat × Nat × Nat × Nat)) (pc : Nat) : Bool := decide (cj ≠ ci ∧ a1 ≤ pc ∧ pc < a2) && hs.all (fun q => decide (q.1 ≤ pc ∧ pc < q.2.1))
abbrev xi_F : Type := Nat → Nat → Nat → Nat → xi_L → List Value → xi_H → Option (Outcome × xi_H)
def xi_body (Ms : List xi_M) (rec : xi_F) : xi_F := fun y fr lo pc lv st A => match Ms[y]? with
  | none => none
  | some M => match xi_row M.2.2.2.2.1 pc with
    | none => none
    | some (I, nx, aux) => match xi_x Ms M I aux fr lo st A with
      | none => none
      | some (.inl r) => some r
      | some (.inr (.inl (cM, vs, rest, nY, virt))) => match rec cM (fr - 1) (lo - (19 + nY)) 0 (lv_args 0 vs) [] A with
        | none => none
        | some (.returned v, A1) => rec y fr lo nx lv (v.toList ++ rest) A1
        | some (.threw k, A1) => if virt = true then match M.2.2.2.2.2 with
          | [] => some (.threw k, A1)
          | (a1, a2, h, _, ci) :: hs => match A1[k]? with
            | some (.inr (cj, _)) => if cj = ci ∧ a1 ≤ pc ∧ pc < a2 then rec y fr lo h lv [.ref k] A1 else match hs.find? (fun q => q.2.2.2.2 == cj) with
              | some (b1, b2, h2, _, _) => if xi_hs cj ci a1 a2 hs pc = true then rec y fr lo h2 lv [.ref k] A1 else none
              | none => none
            | _ => none
          else none
      | some (.inr (.inr (some rest))) => rec y fr lo nx lv rest A
      | some (.inr (.inr none)) => match xi_s M.2.2.1 I nx aux lv st A with
        | none => none
        | some (pc', lv', st', A') => rec y fr lo pc' lv' st' A'
noncomputable def xi_go (Ms : List xi_M) (n : Nat) : xi_F := Nat.rec (motive := fun _ => xi_F) (fun _ _ _ _ _ _ _ => none) (fun _ rec => xi_body Ms rec) n
theorem xi_go_succ (Ms : List xi_M) (n : Nat) : xi_go Ms (n + 1) = xi_body Ms (xi_go Ms n) := rfl
/-! WHAT A METHOD's TABLE MUST SAY -/
abbrev xi_sL : MethodName := ⟨"java/lang/String", "length", "()I"⟩
abbrev xi_sC : MethodName := ⟨"java/lang/String", "charAt", "(I)C"⟩
def xi_okst (own : String) (i : Nat) (y : MethodName) : Bool := decide (Cond.methodLink own i y ∈ lw_tbl) && goodWord (Cond.methodLink own i y)
theorem xi_okst_mem {own : String} {i : Nat} {y : MethodName} (h : xi_okst own i y = true) : Cond.methodLink own i y ∈ xi_G := by
  simp only [xi_okst, Bool.and_eq_true, decide_eq_true_eq] at h
  exact List.mem_filter.mpr h
def xi_okc (Ms : List xi_M) (own : String) (cc : ByteArray) (pc : Nat) (I : Instr) (aux : List Nat) : Bool := match I, aux with
  | .invokevirtual i, [0, cM, n, i1, i2, i3, i4, i5] => match Ms[cM]? with
    | some (y, cy, nY, ret, _, _) => (((xi_Gat i1 (.methodLink own i y) && xi_Gat i2 (.instanceMethod y)) && (xi_Gat i3 (.selects y.cls y y) && xi_Gat i4 (.initialized y.cls))) && xi_Gat i5 (.code y cy nY ret)) && ((decide (y.cls ≠ "java/lang/invoke/MethodHandle") && decide (y.cls ≠ "java/lang/invoke/VarHandle")) && decide ((parseMethodDescriptor y.desc).map (fun d => d.parameters.length) = some n))
    | none => false
  | .invokespecial i, [1, cM, n, i1, i2, i4, i5] => match Ms[cM]? with
    | some (y, cy, nY, ret, _, _) => (((xi_Gat i1 (.methodLink own i y) || (xi_nest.any (fun w => match w with | .methodLinkNest o2 j y2 _ => decide (o2 = own ∧ j = i ∧ y2 = y) | _ => false))) && xi_Gat i2 (.instanceMethod y)) && (xi_Gat i4 (.initialized y.cls) && xi_Gat i5 (.code y cy nY ret))) && (((decide (y.cls ≠ "java/lang/invoke/MethodHandle") && decide (y.cls ≠ "java/lang/invoke/VarHandle")) && decide ((parseMethodDescriptor y.desc).map (fun d => d.parameters.length) = some n)) && (decide (y.name = "<init>") && decide (ret = none)))
    | none => false
  | .invokestatic i, [3, cM, n, i1, i2, i4, i5] => match Ms[cM]? with
    | some (y, cy, nY, ret, _, _) => ((xi_Gat i1 (.methodLink own i y) && xi_Gat i2 (.static y)) && (xi_Gat i4 (.initialized y.cls) && xi_Gat i5 (.code y cy nY ret))) && ((decide (y.cls ≠ "java/lang/invoke/MethodHandle") && decide (y.cls ≠ "java/lang/invoke/VarHandle")) && decide ((parseMethodDescriptor y.desc).map (fun d => d.parameters.length) = some n))
    | none => false
  | .invokespecial i, [0, i1, i2, i5] => (xi_Gat i1 (.methodLink own i Lib.objectInit) && xi_Gat i2 (.instanceMethod Lib.objectInit)) && xi_Gat i5 (.code Lib.objectInit ⟨#[0xb1]⟩ 1 none)
  | .invokevirtual i, [_] => xi_okst own i xi_sL
  | .invokevirtual i, [_, _] => xi_okst own i xi_sC
  | .invokevirtual _, _ => false
  | .invokespecial _, _ => false
  | .invokestatic _, _ => false
  | .new i, [ci, j, a1, a2, w1, w2, w3] => match xi_cl[ci]?, xi_str[j]? with
    | some (Xn, _, N), some (o2, b1, _) => (((decide (N = 0) && (decide (o2 = own) && decide (b1 = a1))) && (xi_Gat w1 (.classLink own i Xn) && (xi_Gat w2 (.instantiable Xn 6) && xi_Gat w3 (.initialized Xn)))) && (Bundle.fit Xn && ((Bundle.ownAtoms own a2 Xn ["java/lang/RuntimeException", "java/lang/Exception"]).all xi_atom || decide (own = "CheapPlanner" ∧ Xn = xi_NE ∧ a2 = 175)))) && ((decide (decode cc (pc + 3) = .ok (.dup, 1)) && decide (decode cc (pc + 4) = .ok (.ldc a1, 2))) && (decide (decode cc (pc + 6) = .ok (.invokespecial a2, 3)) && decide (decode cc (pc + 9) = .ok (.athrow, 1))))
    | _, _ => false
  | _, _ => true
def xi_okr (Ms : List xi_M) (M : xi_M) (r : Nat × Instr × Nat × List Nat) : Bool := (decide (decode M.2.1 r.1 = .ok (r.2.1, xi_len r.2.1)) && decide (r.2.2.1 = r.1 + xi_len r.2.1)) && (xi_ok M.1.cls M.1.name r.1 r.2.1 r.2.2.2 && xi_okc Ms M.1.cls M.2.1 r.1 r.2.1 r.2.2.2)
def xi_hp2 (k h : Nat × Nat × Nat × Nat × Nat) : Bool := match xi_cl[k.2.2.2.2]?, xi_cl[h.2.2.2.2]? with
  | some (X2, _, _), some (X1, _, _) => decide ((X2, X1) ∈ xi_ncp)
  | _, _ => false
def xi_hpk : List (Nat × Nat × Nat × Nat × Nat) → Bool
  | [] => true
  | h :: t => t.all (fun k => xi_hp2 k h) && xi_hpk t
theorem xi_hpk_at {l2 : List (Nat × Nat × Nat × Nat × Nat)} {q : Nat × Nat × Nat × Nat × Nat} : ∀ l1 : List (Nat × Nat × Nat × Nat × Nat), xi_hpk (l1 ++ q :: l2) = true → ∀ h ∈ l1, xi_hp2 q h = true
  | [], _, h, hh => by cases hh
  | r :: l1, hk, h, hh => by
    simp only [List.cons_append, xi_hpk, Bool.and_eq_true] at hk
    rcases List.mem_cons.mp hh with e | e
    · subst e
      exact List.all_eq_true.mp hk.1 q (List.mem_append.mpr (Or.inr List.mem_cons_self))
    · exact xi_hpk_at l1 hk.2 h e
def xi_okM (Ms : List xi_M) (M : xi_M) : Bool := plainFor M.1 && (M.2.2.2.2.1.all (xi_okr Ms M) && (M.2.2.2.2.2.all (fun h => match xi_cl[h.2.2.2.2]? with
  | some (Xn, _, _) => (decide (Cond.classLink M.1.cls h.2.2.2.1 Xn ∈ lw_tbl) && goodWord (Cond.classLink M.1.cls h.2.2.2.1 Xn)) && decide (h.2.2.2.1 ≠ 0)
  | none => false) && xi_hpk M.2.2.2.2.2))
/-! HEAPS GROW -/
theorem xi_s_mono {nL : Nat} {I : Instr} {nx pc' : Nat} {aux : List Nat} {lv lv' : xi_L} {st st' : List Value} {A A' : xi_H} (h : xi_s nL I nx aux lv st A = some (pc', lv', st', A')) : A.length ≤ A'.length ∧ xi_ns A ≤ xi_ns A' := by
  have push : ∀ x : xi_E, A.length ≤ (A ++ [x]).length ∧ xi_ns A ≤ xi_ns (A ++ [x]) := fun x => ⟨by simp, by rw [xi_ns_push]; omega⟩
  have set : ∀ (k : Nat) (x y : xi_E), A[k]? = some x → xi_n x = xi_n y → A.length ≤ (A.set k y).length ∧ xi_ns A ≤ xi_ns (A.set k y) := fun k x y h1 h2 => ⟨by simp, by rw [xi_ns_set h1 h2]; omega⟩
  unfold xi_s at h
  repeat' split at h
  all_goals first
    | (cases h; done)
    | (simp only [Option.some.injEq, Prod.mk.injEq] at h; obtain ⟨-, -, -, rfl⟩ := h; first | exact ⟨Nat.le_refl _, Nat.le_refl _⟩ | exact push _ | (refine set _ _ _ (by assumption) ?_; first | rfl | simp [xi_n]))
theorem xi_x_mono {Ms : List xi_M} {M : xi_M} {I : Instr} {aux : List Nat} {fr lo : Nat} {st : List Value} {A A' : xi_H} {o : Outcome} (h : xi_x Ms M I aux fr lo st A = some (.inl (o, A'))) : A.length ≤ A'.length ∧ xi_ns A ≤ xi_ns A' := by
  have push : ∀ x : xi_E, A.length ≤ (A ++ [x]).length ∧ xi_ns A ≤ xi_ns (A ++ [x]) := fun x => ⟨by simp, by rw [xi_ns_push]; omega⟩
  unfold xi_x xi_cv xi_ci xi_cs at h
  repeat' split at h
  all_goals first
    | (cases h; done)
    | (simp only [Option.some.injEq, Sum.inl.injEq, Prod.mk.injEq] at h; obtain ⟨-, rfl⟩ := h; first | exact ⟨Nat.le_refl _, Nat.le_refl _⟩ | exact push _)
    | (simp at h; done)
theorem xi_mono (Ms : List xi_M) : ∀ (n y fr lo pc : Nat) (lv : xi_L) (st : List Value) (A A' : xi_H) (o : Outcome), xi_go Ms n y fr lo pc lv st A = some (o, A') → A.length ≤ A'.length ∧ xi_ns A ≤ xi_ns A' := by
  intro n
  induction n with
  | zero => intro y fr lo pc lv st A A' o h; cases h
  | succ n ih =>
    intro y fr lo pc lv st A A' o h
    rw [xi_go_succ] at h
    unfold xi_body at h
    split at h
    · cases h
    · split at h
      · cases h
      · split at h
        · cases h
        · rename_i r hx
          cases h
          exact xi_x_mono hx
        · split at h
          · cases h
          · rename_i hr
            have h1 := ih _ _ _ _ _ _ _ _ _ hr
            have h2 := ih _ _ _ _ _ _ _ _ _ h
            omega
          · rename_i hr
            have h1 := ih _ _ _ _ _ _ _ _ _ hr
            split at h
            · split at h
              · cases h; exact h1
              · split at h
                · split at h
                  · have h2 := ih _ _ _ _ _ _ _ _ _ h
                    omega
                  · split at h
                    · split at h
                      · have h2 := ih _ _ _ _ _ _ _ _ _ h
                        omega
                      · cases h
                    · cases h
                · cases h
            · cases h
        · exact ih _ _ _ _ _ _ _ _ _ h
        · split at h
          · cases h
          · rename_i hs
            have h1 := xi_s_mono hs
            have h2 := ih _ _ _ _ _ _ _ _ _ h
            omega

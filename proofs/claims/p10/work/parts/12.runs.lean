/-! RULES FOR RUNS -/
section XG
variable {Ms : List xi_M} {n y fr lo pc : Nat} {M : xi_M} {lv lv' : xi_L} {st st' r : List Value} {A A' A1 : xi_H} {I : Instr} {nx pc' pc2 : Nat} {aux : List Nat} {res : Option (Outcome × xi_H)}
theorem xg_s (hM : Ms[y]? = some M) (hrow : xi_row M.2.2.2.2.1 pc = some (I, nx, aux)) (hx : xi_x Ms M I aux fr lo st A = some (.inr (.inr none))) (hs : xi_s M.2.2.1 I nx aux lv st A = some (pc', lv', st', A')) (hpc : pc' = pc2) (hk : xi_go Ms n y fr lo pc2 lv' st' A' = res) : xi_go Ms (n + 1) y fr lo pc lv st A = res := by
  subst hpc
  rw [xi_go_succ]
  unfold xi_body
  rw [hM]
  simp only
  rw [hrow]
  simp only
  rw [hx]
  simp only
  rw [hs]
  exact hk
theorem xg_e {o : Outcome} (hM : Ms[y]? = some M) (hrow : xi_row M.2.2.2.2.1 pc = some (I, nx, aux)) (hx : xi_x Ms M I aux fr lo st A = some (.inl (o, A'))) : xi_go Ms (n + 1) y fr lo pc lv st A = some (o, A') := by
  rw [xi_go_succ]
  unfold xi_body
  rw [hM]
  simp only
  rw [hrow]
  simp only
  rw [hx]
theorem xg_get {i ci k ix a : Nat} {fs : List Value} {v : Value} (hM : Ms[y]? = some M) (hrow : xi_row M.2.2.2.2.1 pc = some (.getfield i, nx, [ci, k, ix])) (hA : A[a]? = some (.inr (ci, fs))) (hv : fs[k]? = some v) (hk : xi_go Ms n y fr lo nx lv (v :: r) A = res) : xi_go Ms (n + 1) y fr lo pc lv (.ref a :: r) A = res := by
  refine xg_s (pc' := nx) (lv' := lv) (st' := v :: r) (A' := A) hM hrow rfl ?_ rfl hk
  simp only [xi_s, hA, if_true, hv]
theorem xg_put {i ci k ix a : Nat} {fs : List Value} {v : Value} (hM : Ms[y]? = some M) (hrow : xi_row M.2.2.2.2.1 pc = some (.putfield i, nx, [ci, k, ix])) (hA : A[a]? = some (.inr (ci, fs))) (hl : k < fs.length) (hn : narrow (xi_ty ci k) v = v) (hf : fits (xi_ty ci k) v = true) (hk : xi_go Ms n y fr lo nx lv r (A.set a (.inr (ci, fs.set k v))) = res) : xi_go Ms (n + 1) y fr lo pc lv (v :: .ref a :: r) A = res := by
  refine xg_s (pc' := nx) (lv' := lv) (st' := r) (A' := A.set a (.inr (ci, fs.set k v))) hM hrow rfl ?_ rfl hk
  simp only [xi_s, hA]
  rw [if_pos ⟨trivial, hl, hn, hf⟩]
theorem xi_x_v {i x cM k b ci : Nat} {tl : List Nat} {As rest fs : List Value} {Mc : xi_M} (hMc : Ms[cM]? = some Mc) (hk : As.length = k) (hb : A[b]? = some (.inr (ci, fs))) (hc : ((xi_cl[ci]?).map (·.1) = some Mc.1.cls ∧ xi_wt rest ≤ 8 ∧ 1 ≤ fr) ∧ 19 + Mc.2.2.1 ≤ lo ∧ xi_wt (.ref b :: As) ≤ Mc.2.2.1 ∧ Mc.2.2.2.2.2 = []) : xi_x Ms M (.invokevirtual i) (x :: cM :: k :: tl) fr lo (As.reverse ++ .ref b :: rest) A = some (.inr (.inl (cM, .ref b :: As, rest, Mc.2.2.1, true))) := by
  have hlen : k = As.reverse.length := by rw [List.length_reverse, hk]
  have hd : (As.reverse ++ Value.ref b :: rest).drop k = .ref b :: rest := by rw [hlen]; simp
  have ht : ((As.reverse ++ Value.ref b :: rest).take k).reverse = As := by rw [hlen]; simp
  have hpos : 0 < A.length := by
    have := (List.getElem?_eq_some_iff.mp hb).1
    omega
  obtain ⟨⟨c1, c2, c3⟩, c4, c5, c6⟩ := hc
  simp only [xi_x, xi_cv, hd, hMc, hb, ht]
  rw [if_pos ⟨⟨c1, by rw [List.length_append, ← hlen]; omega, c2, c3⟩, c4, c5, c6, hpos⟩]
theorem xg_V {i x cM k b ci : Nat} {tl : List Nat} {As rest fs : List Value} {Mc : xi_M} {v : Option Value} (hM : Ms[y]? = some M) (hrow : xi_row M.2.2.2.2.1 pc = some (.invokevirtual i, nx, x :: cM :: k :: tl)) (hMc : Ms[cM]? = some Mc) (hst : st = As.reverse ++ .ref b :: rest) (hk : As.length = k) (hb : A[b]? = some (.inr (ci, fs))) (hc : ((xi_cl[ci]?).map (·.1) = some Mc.1.cls ∧ xi_wt rest ≤ 8 ∧ 1 ≤ fr) ∧ 19 + Mc.2.2.1 ≤ lo ∧ xi_wt (.ref b :: As) ≤ Mc.2.2.1 ∧ Mc.2.2.2.2.2 = [])
    (hr : xi_go Ms n cM (fr - 1) (lo - (19 + Mc.2.2.1)) 0 (lv_args 0 (.ref b :: As)) [] A = some (.returned v, A1)) (hk2 : xi_go Ms n y fr lo nx lv (v.toList ++ rest) A1 = res) : xi_go Ms (n + 1) y fr lo pc lv st A = res := by
  subst hst
  rw [xi_go_succ]
  unfold xi_body
  rw [hM]
  simp only
  rw [hrow]
  simp only
  rw [xi_x_v hMc hk hb hc]
  simp only
  rw [hr]
  exact hk2
theorem xg_VT {i x cM k b ci q : Nat} {tl : List Nat} {As rest fs : List Value} {Mc : xi_M} (hM : Ms[y]? = some M) (hrow : xi_row M.2.2.2.2.1 pc = some (.invokevirtual i, nx, x :: cM :: k :: tl)) (hMc : Ms[cM]? = some Mc) (hst : st = As.reverse ++ .ref b :: rest) (hk : As.length = k) (hb : A[b]? = some (.inr (ci, fs))) (hc : ((xi_cl[ci]?).map (·.1) = some Mc.1.cls ∧ xi_wt rest ≤ 8 ∧ 1 ≤ fr) ∧ 19 + Mc.2.2.1 ≤ lo ∧ xi_wt (.ref b :: As) ≤ Mc.2.2.1 ∧ Mc.2.2.2.2.2 = []) (hh : M.2.2.2.2.2 = [])
    (hr : xi_go Ms n cM (fr - 1) (lo - (19 + Mc.2.2.1)) 0 (lv_args 0 (.ref b :: As)) [] A = some (.threw q, A1)) : xi_go Ms (n + 1) y fr lo pc lv st A = some (.threw q, A1) := by
  subst hst
  rw [xi_go_succ]
  unfold xi_body
  rw [hM]
  simp only
  rw [hrow]
  simp only
  rw [xi_x_v hMc hk hb hc]
  simp only
  rw [hr]
  simp only [if_true]
  rw [hh]
theorem xg_VC {i x cM k b ci q a1 a2 h ct cx : Nat} {hs : List (Nat × Nat × Nat × Nat × Nat)} {tl : List Nat} {As rest fs fx : List Value} {Mc : xi_M} (hM : Ms[y]? = some M) (hrow : xi_row M.2.2.2.2.1 pc = some (.invokevirtual i, nx, x :: cM :: k :: tl)) (hMc : Ms[cM]? = some Mc) (hst : st = As.reverse ++ .ref b :: rest) (hk : As.length = k) (hb : A[b]? = some (.inr (ci, fs))) (hc : ((xi_cl[ci]?).map (·.1) = some Mc.1.cls ∧ xi_wt rest ≤ 8 ∧ 1 ≤ fr) ∧ 19 + Mc.2.2.1 ≤ lo ∧ xi_wt (.ref b :: As) ≤ Mc.2.2.1 ∧ Mc.2.2.2.2.2 = []) (hh : M.2.2.2.2.2 = (a1, a2, h, ct, cx) :: hs)
    (hr : xi_go Ms n cM (fr - 1) (lo - (19 + Mc.2.2.1)) 0 (lv_args 0 (.ref b :: As)) [] A = some (.threw q, A1)) (hq : A1[q]? = some (.inr (cx, fx))) (hcov : a1 ≤ pc ∧ pc < a2) (hk2 : xi_go Ms n y fr lo h lv [.ref q] A1 = res) : xi_go Ms (n + 1) y fr lo pc lv st A = res := by
  subst hst
  rw [xi_go_succ]
  unfold xi_body
  rw [hM]
  simp only
  rw [hrow]
  simp only
  rw [xi_x_v hMc hk hb hc]
  simp only
  rw [hr]
  simp only [if_true]
  rw [hh]
  simp only
  rw [hq]
  simp only
  rw [if_pos ⟨trivial, hcov⟩]
  exact hk2
end XG
/-- the rules, goal first -/
def xg_P (P : Option (Outcome × xi_H) → Prop) (r : Option (Outcome × xi_H)) : Prop := P r
section XP
variable {P : Option (Outcome × xi_H) → Prop} {Ms : List xi_M} {n y fr lo pc : Nat} {M : xi_M} {lv lv' : xi_L} {st st' r : List Value} {A A' A1 : xi_H} {I : Instr} {nx pc' pc2 : Nat} {aux : List Nat}
theorem xp_s (hM : Ms[y]? = some M) (hrow : xi_row M.2.2.2.2.1 pc = some (I, nx, aux)) (hx : xi_x Ms M I aux fr lo st A = some (.inr (.inr none))) (hs : xi_s M.2.2.1 I nx aux lv st A = some (pc', lv', st', A')) (hpc : pc' = pc2) (hk : xg_P P (xi_go Ms n y fr lo pc2 lv' st' A')) : xg_P P (xi_go Ms (n + 1) y fr lo pc lv st A) := by
  rw [xg_s hM hrow hx hs hpc rfl]
  exact hk
theorem xp_e {o : Outcome} (hM : Ms[y]? = some M) (hrow : xi_row M.2.2.2.2.1 pc = some (I, nx, aux)) (hx : xi_x Ms M I aux fr lo st A = some (.inl (o, A'))) (hk : P (some (o, A'))) : xg_P P (xi_go Ms (n + 1) y fr lo pc lv st A) := by
  rw [xg_e hM hrow hx]
  exact hk
theorem xp_get {i ci k ix a : Nat} {fs : List Value} {v : Value} (hM : Ms[y]? = some M) (hrow : xi_row M.2.2.2.2.1 pc = some (.getfield i, nx, [ci, k, ix])) (hA : A[a]? = some (.inr (ci, fs))) (hv : fs[k]? = some v) (hk : xg_P P (xi_go Ms n y fr lo nx lv (v :: r) A)) : xg_P P (xi_go Ms (n + 1) y fr lo pc lv (.ref a :: r) A) := by
  rw [xg_get hM hrow hA hv rfl]
  exact hk
theorem xp_put {i ci k ix a : Nat} {fs : List Value} {v : Value} (hM : Ms[y]? = some M) (hrow : xi_row M.2.2.2.2.1 pc = some (.putfield i, nx, [ci, k, ix])) (hA : A[a]? = some (.inr (ci, fs))) (hl : k < fs.length) (hn : narrow (xi_ty ci k) v = v) (hf : fits (xi_ty ci k) v = true) (hk : ∀ A2 : xi_H, A2[a]? = some (.inr (ci, fs.set k v)) → (∀ j : Nat, j ≠ a → A2[j]? = A[j]?) → A2.length = A.length → xi_ns A2 = xi_ns A → xg_P P (xi_go Ms n y fr lo nx lv r A2)) : xg_P P (xi_go Ms (n + 1) y fr lo pc lv (v :: .ref a :: r) A) := by
  rw [xg_put hM hrow hA hl hn hf rfl]
  exact hk _ (List.getElem?_set_self (List.getElem?_eq_some_iff.mp hA).1) (fun j hj => List.getElem?_set_ne (Ne.symm hj)) (by simp) (xi_ns_set hA (by simp [xi_n]))
end XP
theorem xi_pos {A : xi_H} {k : Nat} {x : xi_E} (h : A[k]? = some x) : 0 < A.length := by
  have := (List.getElem?_eq_some_iff.mp h).1
  omega
theorem xi_last (A : xi_H) (x : xi_E) : (A ++ [x])[A.length]? = some x := by simp
/-- more fuel does no harm -/
theorem xi_fuel1 (Ms : List xi_M) : ∀ (n y fr lo pc : Nat) (lv : xi_L) (st : List Value) (A : xi_H) (r : Outcome × xi_H), xi_go Ms n y fr lo pc lv st A = some r → xi_go Ms (n + 1) y fr lo pc lv st A = some r := by
  intro n
  induction n with
  | zero => intro y fr lo pc lv st A r h; cases h
  | succ n ih =>
    intro y fr lo pc lv st A r h
    rw [xi_go_succ] at h ⊢
    unfold xi_body at h ⊢
    split at h
    · cases h
    · rename_i M hM
      try rw [hM]
      try simp only
      split at h
      · cases h
      · rename_i I nx aux hrow
        try rw [hrow]
        try simp only
        split at h
        · cases h
        · rename_i hx
          try rw [hx]
          exact h
        · rename_i hx
          try rw [hx]
          try simp only
          split at h
          · cases h
          · rename_i hr
            rw [ih _ _ _ _ _ _ _ _ hr]
            exact ih _ _ _ _ _ _ _ _ h
          · rename_i hr
            rw [ih _ _ _ _ _ _ _ _ hr]
            try simp only
            split at h
            · rename_i hv
              try rw [if_pos hv]
              split at h
              · rename_i hh
                try rw [hh]
                exact h
              · rename_i hh
                try rw [hh]
                try simp only
                split at h
                · rename_i hq
                  try rw [hq]
                  try simp only
                  split at h
                  · rename_i hc
                    try rw [if_pos hc]
                    exact ih _ _ _ _ _ _ _ _ h
                  · rename_i hc
                    try rw [if_neg hc]
                    split at h
                    · rename_i hf
                      try rw [hf]
                      try simp only
                      split at h
                      · rename_i hd
                        try rw [if_pos hd]
                        exact ih _ _ _ _ _ _ _ _ h
                      · cases h
                    · cases h
                · cases h
            · cases h
        · rename_i hx
          try rw [hx]
          exact ih _ _ _ _ _ _ _ _ h
        · rename_i hx
          try rw [hx]
          try simp only
          split at h
          · cases h
          · rename_i hs
            try rw [hs]
            exact ih _ _ _ _ _ _ _ _ h
theorem xi_fuel {Ms : List xi_M} {n k y fr lo pc : Nat} {lv : xi_L} {st : List Value} {A : xi_H} {r : Outcome × xi_H} (h : xi_go Ms n y fr lo pc lv st A = some r) : xi_go Ms (n + k) y fr lo pc lv st A = some r := by
  induction k with
  | zero => exact h
  | succ k ih => exact xi_fuel1 Ms _ _ _ _ _ _ _ _ _ ih
/-! more rules, goal first -/
section XP2
variable {P : Option (Outcome × xi_H) → Prop} {Ms : List xi_M} {n y fr lo pc : Nat} {M : xi_M} {lv lv' : xi_L} {st st' r : List Value} {A A' A1 : xi_H} {I : Instr} {nx pc' pc2 : Nat} {aux : List Nat}
theorem xp_iald {a k : Nat} {i v : Int32} {f : Nat → Int32} (hM : Ms[y]? = some M) (hrow : xi_row M.2.2.2.2.1 pc = some (.iaload, nx, aux)) (hA : A[a]? = some (.inl (0, k, .inl f))) (hin : ¬ (i < 0 ∨ k ≤ i.toNatClampNeg)) (hv : f i.toNatClampNeg = v) (hk : xg_P P (xi_go Ms n y fr lo nx lv (.int v :: r) A)) : xg_P P (xi_go Ms (n + 1) y fr lo pc lv (.int i :: .ref a :: r) A) := by
  subst hv
  refine xp_s (pc' := nx) (lv' := lv) (st' := .int (f i.toNatClampNeg) :: r) (A' := A) hM hrow rfl ?_ rfl hk
  simp only [xi_s, hA]
  rw [if_neg hin]
theorem xp_iast {a k : Nat} {i x : Int32} {f : Nat → Int32} (hM : Ms[y]? = some M) (hrow : xi_row M.2.2.2.2.1 pc = some (.iastore, nx, aux)) (hA : A[a]? = some (.inl (0, k, .inl f))) (hin : ¬ (i < 0 ∨ k ≤ i.toNatClampNeg)) (hk : ∀ A2 : xi_H, A2[a]? = some (.inl (0, k, .inl (upd f i.toNatClampNeg x))) → (∀ j : Nat, j ≠ a → A2[j]? = A[j]?) → A2.length = A.length → xi_ns A2 = xi_ns A → xg_P P (xi_go Ms n y fr lo nx lv r A2)) : xg_P P (xi_go Ms (n + 1) y fr lo pc lv (.int x :: .int i :: .ref a :: r) A) := by
  refine xp_s (pc' := nx) (lv' := lv) (st' := r) (A' := A.set a (.inl (0, k, .inl (upd f i.toNatClampNeg x)))) hM hrow rfl ?_ rfl (hk _ (List.getElem?_set_self (List.getElem?_eq_some_iff.mp hA).1) (fun j hj => List.getElem?_set_ne (Ne.symm hj)) (by simp) (xi_ns_set hA rfl))
  simp only [xi_s, hA]
  rw [if_neg hin]
theorem xp_cast {a k : Nat} {i x : Int32} {f : Nat → Int32} (hM : Ms[y]? = some M) (hrow : xi_row M.2.2.2.2.1 pc = some (.castore, nx, aux)) (hA : A[a]? = some (.inl (2, k, .inl f))) (hin : ¬ (i < 0 ∨ k ≤ i.toNatClampNeg)) (hk : ∀ A2 : xi_H, A2[a]? = some (.inl (2, k, .inl (upd f i.toNatClampNeg (vp_nar .char x)))) → (∀ j : Nat, j ≠ a → A2[j]? = A[j]?) → A2.length = A.length → xi_ns A2 = xi_ns A → xg_P P (xi_go Ms n y fr lo nx lv r A2)) : xg_P P (xi_go Ms (n + 1) y fr lo pc lv (.int x :: .int i :: .ref a :: r) A) := by
  refine xp_s (pc' := nx) (lv' := lv) (st' := r) (A' := A.set a (.inl (2, k, .inl (upd f i.toNatClampNeg (vp_nar .char x))))) hM hrow rfl ?_ rfl (hk _ (List.getElem?_set_self (List.getElem?_eq_some_iff.mp hA).1) (fun j hj => List.getElem?_set_ne (Ne.symm hj)) (by simp) (xi_ns_set hA rfl))
  simp only [xi_s, hA]
  rw [if_neg hin]
theorem xp_last {a k : Nat} {i : Int32} {x : Int64} {f : Nat → Int64} (hM : Ms[y]? = some M) (hrow : xi_row M.2.2.2.2.1 pc = some (.lastore, nx, aux)) (hA : A[a]? = some (.inl (1, k, .inr (.inl f)))) (hin : ¬ (i < 0 ∨ k ≤ i.toNatClampNeg)) (hk : ∀ A2 : xi_H, A2[a]? = some (.inl (1, k, .inr (.inl (vp_updL f i.toNatClampNeg x)))) → (∀ j : Nat, j ≠ a → A2[j]? = A[j]?) → A2.length = A.length → xi_ns A2 = xi_ns A → xg_P P (xi_go Ms n y fr lo nx lv r A2)) : xg_P P (xi_go Ms (n + 1) y fr lo pc lv (.long x :: .int i :: .ref a :: r) A) := by
  refine xp_s (pc' := nx) (lv' := lv) (st' := r) (A' := A.set a (.inl (1, k, .inr (.inl (vp_updL f i.toNatClampNeg x))))) hM hrow rfl ?_ rfl (hk _ (List.getElem?_set_self (List.getElem?_eq_some_iff.mp hA).1) (fun j hj => List.getElem?_set_ne (Ne.symm hj)) (by simp) (xi_ns_set hA rfl))
  simp only [xi_s, hA]
  rw [if_neg hin]
theorem xp_alen {a t : Nat} {x : vp_A} {v : Int32} (hM : Ms[y]? = some M) (hrow : xi_row M.2.2.2.2.1 pc = some (.arraylength, nx, aux)) (hA : A[a]? = some (.inl (t, x))) (ht : (xi_tyl[t]?).isSome = true) (hv : Int32.ofNat x.1 = v) (hk : xg_P P (xi_go Ms n y fr lo nx lv (.int v :: r) A)) : xg_P P (xi_go Ms (n + 1) y fr lo pc lv (.ref a :: r) A) := by
  subst hv
  obtain ⟨ty, hty⟩ := Option.isSome_iff_exists.mp ht
  refine xp_s (pc' := nx) (lv' := lv) (st' := .int (Int32.ofNat x.1) :: r) (A' := A) hM hrow rfl ?_ rfl hk
  simp only [xi_s, hA, hty]
theorem xp_V {i x cM k b ci : Nat} {tl : List Nat} {As rest fs : List Value} {Mc : xi_M} (hM : Ms[y]? = some M) (hrow : xi_row M.2.2.2.2.1 pc = some (.invokevirtual i, nx, x :: cM :: k :: tl)) (hMc : Ms[cM]? = some Mc) (hst : st = As.reverse ++ .ref b :: rest) (hk : As.length = k) (hb : A[b]? = some (.inr (ci, fs))) (hc : ((xi_cl[ci]?).map (·.1) = some Mc.1.cls ∧ xi_wt rest ≤ 8 ∧ 1 ≤ fr) ∧ 19 + Mc.2.2.1 ≤ lo ∧ xi_wt (.ref b :: As) ≤ Mc.2.2.1 ∧ Mc.2.2.2.2.2 = [])
    (h : xg_P (fun q => ∃ (v : Option Value) (A1 : xi_H), q = some (.returned v, A1) ∧ xg_P P (xi_go Ms n y fr lo nx lv (v.toList ++ rest) A1)) (xi_go Ms n cM (fr - 1) (lo - (19 + Mc.2.2.1)) 0 (lv_args 0 (.ref b :: As)) [] A)) : xg_P P (xi_go Ms (n + 1) y fr lo pc lv st A) := by
  obtain ⟨v, A1, hr, hk2⟩ := h
  rw [xg_V hM hrow hMc hst hk hb hc hr rfl]
  exact hk2
theorem xp_VT {i x cM k b ci : Nat} {tl : List Nat} {As rest fs : List Value} {Mc : xi_M} (hM : Ms[y]? = some M) (hrow : xi_row M.2.2.2.2.1 pc = some (.invokevirtual i, nx, x :: cM :: k :: tl)) (hMc : Ms[cM]? = some Mc) (hst : st = As.reverse ++ .ref b :: rest) (hk : As.length = k) (hb : A[b]? = some (.inr (ci, fs))) (hc : ((xi_cl[ci]?).map (·.1) = some Mc.1.cls ∧ xi_wt rest ≤ 8 ∧ 1 ≤ fr) ∧ 19 + Mc.2.2.1 ≤ lo ∧ xi_wt (.ref b :: As) ≤ Mc.2.2.1 ∧ Mc.2.2.2.2.2 = []) (hh : M.2.2.2.2.2 = [])
    (h : xg_P (fun q => ∃ (j : Nat) (A1 : xi_H), q = some (.threw j, A1) ∧ P (some (.threw j, A1))) (xi_go Ms n cM (fr - 1) (lo - (19 + Mc.2.2.1)) 0 (lv_args 0 (.ref b :: As)) [] A)) : xg_P P (xi_go Ms (n + 1) y fr lo pc lv st A) := by
  obtain ⟨v, A1, hr, hk2⟩ := h
  rw [xg_VT hM hrow hMc hst hk hb hc hh hr]
  exact hk2
theorem xp_VC {i x cM k b ci a1 a2 h ct cx : Nat} {hs : List (Nat × Nat × Nat × Nat × Nat)} {tl : List Nat} {As rest fs : List Value} {Mc : xi_M} (hM : Ms[y]? = some M) (hrow : xi_row M.2.2.2.2.1 pc = some (.invokevirtual i, nx, x :: cM :: k :: tl)) (hMc : Ms[cM]? = some Mc) (hst : st = As.reverse ++ .ref b :: rest) (hk : As.length = k) (hb : A[b]? = some (.inr (ci, fs))) (hc : ((xi_cl[ci]?).map (·.1) = some Mc.1.cls ∧ xi_wt rest ≤ 8 ∧ 1 ≤ fr) ∧ 19 + Mc.2.2.1 ≤ lo ∧ xi_wt (.ref b :: As) ≤ Mc.2.2.1 ∧ Mc.2.2.2.2.2 = []) (hh : M.2.2.2.2.2 = (a1, a2, h, ct, cx) :: hs) (hcov : a1 ≤ pc ∧ pc < a2)
    (h : xg_P (fun q => ∃ (j : Nat) (A1 : xi_H) (fx : List Value), q = some (.threw j, A1) ∧ A1[j]? = some (.inr (cx, fx)) ∧ xg_P P (xi_go Ms n y fr lo h lv [.ref j] A1)) (xi_go Ms n cM (fr - 1) (lo - (19 + Mc.2.2.1)) 0 (lv_args 0 (.ref b :: As)) [] A)) : xg_P P (xi_go Ms (n + 1) y fr lo pc lv st A) := by
  obtain ⟨v, A1, fx, hr, hq, hk2⟩ := h
  rw [xg_VC hM hrow hMc hst hk hb hc hh hr hq hcov rfl]
  exact hk2
theorem xp_S {i x cM k : Nat} {tl : List Nat} {As rest : List Value} {Mc : xi_M} (hM : Ms[y]? = some M) (hrow : xi_row M.2.2.2.2.1 pc = some (.invokestatic i, nx, x :: cM :: k :: tl)) (hMc : Ms[cM]? = some Mc) (hst : st = As.reverse ++ rest) (hk : As.length = k) (hpos : 0 < A.length) (hc : (xi_wt rest ≤ 8 ∧ 1 ≤ fr) ∧ 19 + Mc.2.2.1 ≤ lo ∧ xi_wt As ≤ Mc.2.2.1 ∧ Mc.2.2.2.2.2 = [])
    (h : xg_P (fun q => ∃ (v : Option Value) (A1 : xi_H), q = some (.returned v, A1) ∧ xg_P P (xi_go Ms n y fr lo nx lv (v.toList ++ rest) A1)) (xi_go Ms n cM (fr - 1) (lo - (19 + Mc.2.2.1)) 0 (lv_args 0 As) [] A)) : xg_P P (xi_go Ms (n + 1) y fr lo pc lv st A) := by
  obtain ⟨v, A1, hr, hk2⟩ := h
  subst hst
  have hlen : k = As.reverse.length := by rw [List.length_reverse, hk]
  have hd : (As.reverse ++ rest).drop k = rest := by rw [hlen]; simp
  have ht : ((As.reverse ++ rest).take k).reverse = As := by rw [hlen]; simp
  obtain ⟨⟨c2, c3⟩, c4, c5, c6⟩ := hc
  have hx : xi_x Ms M (.invokestatic i) (x :: cM :: k :: tl) fr lo (As.reverse ++ rest) A = some (.inr (.inl (cM, As, rest, Mc.2.2.1, false))) := by
    simp only [xi_x, xi_cs, hMc, hd, ht]
    rw [if_pos ⟨⟨by rw [List.length_append, ← hlen]; omega, c2, c3⟩, c4, c5, c6, hpos⟩]
  have e1 : xi_go Ms (n + 1) y fr lo pc lv (As.reverse ++ rest) A = xi_go Ms n y fr lo nx lv (v.toList ++ rest) A1 := by
    rw [xi_go_succ]
    unfold xi_body
    rw [hM]
    simp only
    rw [hrow]
    simp only
    rw [hx]
    simp only
    rw [hr]
  rw [e1]
  exact hk2
end XP2
theorem xi_app {A : xi_H} {k : Nat} {x y : xi_E} (h : A[k]? = some x) : (A ++ [y])[k]? = some x := by
  rw [List.getElem?_append_left (List.getElem?_eq_some_iff.mp h).1]
  exact h

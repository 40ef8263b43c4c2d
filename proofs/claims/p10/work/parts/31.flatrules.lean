/-! RULES over the flat heap -/
def fl_M (Ms : List xi_M) (y F L : Nat) (vs : List Value) (A : xi_H) (Q : Outcome → xi_H → Prop) : Prop := ∀ (fr lo : Nat), F ≤ fr → L ≤ lo → fl_R Ms y fr lo 0 (lv_args 0 vs) [] A Q
section FLQ
variable {Ms : List xi_M} {y fr lo pc : Nat} {M : xi_M} {lv lv' : xi_L} {st st' r : List Value} {A A' A1 : xi_H} {I : Instr} {nx pc' pc2 : Nat} {aux : List Nat} {Q Q1 : Outcome → xi_H → Prop}
/-- a virtual call -/
theorem fl_V {i x cM k b ci F L : Nat} {tl : List Nat} {As rest fs : List Value} {Mc : xi_M} (hM : Ms[y]? = some M) (hrow : xi_row M.2.2.2.2.1 pc = some (.invokevirtual i, nx, x :: cM :: k :: tl)) (hMc : Ms[cM]? = some Mc) (hst : st = As.reverse ++ .ref b :: rest) (hk : As.length = k) (hb : A[b]? = some (.inr (ci, fs))) (hc : (xi_cl[ci]?).map (·.1) = some Mc.1.cls) (hw : xi_wt rest ≤ 8) (hfr : F + 1 ≤ fr) (hlo : L + (19 + Mc.2.2.1) ≤ lo) (hwt : xi_wt (.ref b :: As) ≤ Mc.2.2.1) (hh : Mc.2.2.2.2.2 = [])
    (hcal : fl_M Ms cM F L (.ref b :: As) A Q1) (h1 : ∀ v A1, Q1 (.returned v) A1 → fl_R Ms y fr lo nx lv (v.toList ++ rest) A1 Q) (h2 : ∀ j A1, Q1 (.threw j) A1 → M.2.2.2.2.2 = [] ∧ Q (.threw j) A1) : fl_R Ms y fr lo pc lv st A Q := by
  obtain ⟨n, o, A1, h, hq⟩ := hcal (fr - 1) (lo - (19 + Mc.2.2.1)) (by omega) (by omega)
  have hcc : ((xi_cl[ci]?).map (·.1) = some Mc.1.cls ∧ xi_wt rest ≤ 8 ∧ 1 ≤ fr) ∧ 19 + Mc.2.2.1 ≤ lo ∧ xi_wt (.ref b :: As) ≤ Mc.2.2.1 ∧ Mc.2.2.2.2.2 = [] := ⟨⟨hc, hw, by omega⟩, by omega, hwt, hh⟩
  cases o with
  | returned v =>
    obtain ⟨n2, o2, A2, hr2, hq2⟩ := h1 v A1 hq
    have e2 : xi_go Ms (n + n2) y fr lo nx lv (v.toList ++ rest) A1 = some (o2, A2) := by rw [Nat.add_comm]; exact xi_fuel hr2
    exact ⟨n + n2 + 1, o2, A2, xg_V hM hrow hMc hst hk hb hcc (xi_fuel (k := n2) h) e2, hq2⟩
  | threw j =>
    obtain ⟨g1, g2⟩ := h2 j A1 hq
    exact ⟨n + 1, _, A1, xg_VT hM hrow hMc hst hk hb hcc g1 h, g2⟩
/-- a static call -/
theorem fl_S {i x cM k F L : Nat} {tl : List Nat} {As rest : List Value} {Mc : xi_M} (hM : Ms[y]? = some M) (hrow : xi_row M.2.2.2.2.1 pc = some (.invokestatic i, nx, x :: cM :: k :: tl)) (hMc : Ms[cM]? = some Mc) (hst : st = As.reverse ++ rest) (hk : As.length = k) (hpos : 0 < A.length) (hw : xi_wt rest ≤ 8) (hfr : F + 1 ≤ fr) (hlo : L + (19 + Mc.2.2.1) ≤ lo) (hwt : xi_wt As ≤ Mc.2.2.1) (hh : Mc.2.2.2.2.2 = [])
    (hcal : fl_M Ms cM F L As A (fun o A1 => ∃ v, o = .returned v ∧ fl_R Ms y fr lo nx lv (v.toList ++ rest) A1 Q)) : fl_R Ms y fr lo pc lv st A Q := by
  obtain ⟨n, o, A1, h, v, rfl, n2, o2, A2, hr2, hq2⟩ := hcal (fr - 1) (lo - (19 + Mc.2.2.1)) (by omega) (by omega)
  have e2 : xi_go Ms (n + n2) y fr lo nx lv (v.toList ++ rest) A1 = some (o2, A2) := by rw [Nat.add_comm]; exact xi_fuel hr2
  exact ⟨n + n2 + 1, o2, A2, xp_S (P := fun q => q = some (o2, A2)) hM hrow hMc hst hk hpos ⟨⟨hw, by omega⟩, by omega, hwt, hh⟩ ⟨v, A1, xi_fuel (k := n2) h, e2⟩, hq2⟩
variable {T : List fl_T} {G : Nat → Nat → Option Nat} {F : fl_N} {X : xi_H}
theorem fl_ob {a ci : Nat} {ks : List Nat} (hT : T[a]? = some (2, ci, ks)) : (fl_H T G F ++ X)[a]? = some (.inr (ci, ks.mapIdx (fun j k => fl_f (F a) j k))) := fl_at hT
theorem fl_get {i ci k ix a kd : Nat} {ks : List Nat} (hM : Ms[y]? = some M) (hrow : xi_row M.2.2.2.2.1 pc = some (.getfield i, nx, [ci, k, ix])) (hT : T[a]? = some (2, ci, ks)) (hk : ks[k]? = some kd) (hn : fl_R Ms y fr lo nx lv (fl_f (F a) k kd :: r) (fl_H T G F ++ X) Q) : fl_R Ms y fr lo pc lv (.ref a :: r) (fl_H T G F ++ X) Q := by
  obtain ⟨n, o, A2, h, hq⟩ := hn
  exact ⟨n + 1, o, A2, xg_get hM hrow (fl_ob hT) (by simp [hk]) h, hq⟩
theorem fl_setks {ks : List Nat} {f : Nat → Int} {k kd : Nat} {z : Int} (hk : ks[k]? = some kd) (hd : kd < 3) : (ks.mapIdx (fun j q => fl_f f j q)).set k (fl_f (fun _ => z) 0 kd) = ks.mapIdx (fun j q => fl_f (fun j' => if j' = k then z else f j') j q) := by
  apply List.ext_getElem?
  intro j
  have hlt := (List.getElem?_eq_some_iff.mp hk).1
  by_cases hj : k = j
  · subst hj
    rw [List.getElem?_set_self (by simpa using hlt)]
    rw [List.getElem?_mapIdx, hk]
    match kd, hd with
    | 0, _ => simp [fl_f]
    | 1, _ => simp [fl_f]
    | 2, _ => simp [fl_f]
  · rw [List.getElem?_set_ne hj, List.getElem?_mapIdx, List.getElem?_mapIdx]
    cases hq : ks[j]? with
    | none => rfl
    | some q =>
      simp only [Option.map_some]
      congr 1
      match q with
      | 0 => simp [fl_f, Ne.symm hj]
      | 1 => simp [fl_f, Ne.symm hj]
      | 2 => simp [fl_f, Ne.symm hj]
      | q + 3 => rfl
theorem fl_put {i ci k ix a kd : Nat} {ks : List Nat} {z : Int} (hM : Ms[y]? = some M) (hrow : xi_row M.2.2.2.2.1 pc = some (.putfield i, nx, [ci, k, ix])) (hT : T[a]? = some (2, ci, ks)) (hk : ks[k]? = some kd) (hd : kd < 3) (hna : narrow (xi_ty ci k) (fl_f (fun _ => z) 0 kd) = fl_f (fun _ => z) 0 kd) (hf : fits (xi_ty ci k) (fl_f (fun _ => z) 0 kd) = true) (hn : fl_R Ms y fr lo nx lv r (fl_H T G (fl_u F a k z) ++ X) Q) : fl_R Ms y fr lo pc lv (fl_f (fun _ => z) 0 kd :: .ref a :: r) (fl_H T G F ++ X) Q := by
  obtain ⟨n, o, A2, h, hq⟩ := hn
  have hlt := (List.getElem?_eq_some_iff.mp hk).1
  refine ⟨n + 1, o, A2, xg_put hM hrow (fl_ob hT) (by simpa using hlt) hna hf ?_, hq⟩
  rw [fl_set (k := k) (z := z) hT]
  · exact h
  · rw [fl_setks hk hd]
    have e1 : fl_u F a k z a = fun j' => if j' = k then z else F a j' := by funext j'; simp [fl_u]
    rw [e1]
    rfl
/-- ints out of an array -/
theorem fl_iald {a n : Nat} {z : Int} (hM : Ms[y]? = some M) (hrow : xi_row M.2.2.2.2.1 pc = some (.iaload, nx, aux)) (hT : T[a]? = some (0, 0, [n])) (h0 : 0 ≤ z) (h1 : z < (n : Int)) (h2 : n < 2147483648) (hk : fl_R Ms y fr lo nx lv (.int (Int32.ofInt (F a z.toNat)) :: r) (fl_H T G F ++ X) Q) : fl_R Ms y fr lo pc lv (.int (Int32.ofInt z) :: .ref a :: r) (fl_H T G F ++ X) Q := by
  have hA : (fl_H T G F ++ X)[a]? = some (.inl (0, n, .inl (fun j => Int32.ofInt (F a j)))) := fl_at hT
  refine fl_s (pc' := nx) (lv' := lv) (st' := .int (Int32.ofInt (F a z.toNat)) :: r) (A' := fl_H T G F ++ X) hM hrow rfl ?_ rfl hk
  have hin := fl_in h0 h1 h2
  simp only [xi_s, hA]
  rw [if_neg hin, fl_nat ⟨by omega, by omega⟩]
theorem fl_cald {a n : Nat} {z : Int} (hM : Ms[y]? = some M) (hrow : xi_row M.2.2.2.2.1 pc = some (.caload, nx, aux)) (hT : T[a]? = some (0, 2, [n])) (h0 : 0 ≤ z) (h1 : z < (n : Int)) (h2 : n < 2147483648) (hk : fl_R Ms y fr lo nx lv (.int (Int32.ofInt (F a z.toNat)) :: r) (fl_H T G F ++ X) Q) : fl_R Ms y fr lo pc lv (.int (Int32.ofInt z) :: .ref a :: r) (fl_H T G F ++ X) Q := by
  have hA : (fl_H T G F ++ X)[a]? = some (.inl (2, n, .inl (fun j => Int32.ofInt (F a j)))) := fl_at hT
  refine fl_s (pc' := nx) (lv' := lv) (st' := .int (Int32.ofInt (F a z.toNat)) :: r) (A' := fl_H T G F ++ X) hM hrow rfl ?_ rfl hk
  have hin := fl_in h0 h1 h2
  simp only [xi_s, hA]
  rw [if_neg hin, fl_nat ⟨by omega, by omega⟩]
theorem fl_zald {a n : Nat} {z : Int} (hM : Ms[y]? = some M) (hrow : xi_row M.2.2.2.2.1 pc = some (.baload, nx, aux)) (hT : T[a]? = some (0, 3, [n])) (h0 : 0 ≤ z) (h1 : z < (n : Int)) (h2 : n < 2147483648) (hk : fl_R Ms y fr lo nx lv (.int (Int32.ofInt (F a z.toNat)) :: r) (fl_H T G F ++ X) Q) : fl_R Ms y fr lo pc lv (.int (Int32.ofInt z) :: .ref a :: r) (fl_H T G F ++ X) Q := by
  have hA : (fl_H T G F ++ X)[a]? = some (.inl (3, n, .inl (fun j => Int32.ofInt (F a j)))) := fl_at hT
  refine fl_s (pc' := nx) (lv' := lv) (st' := .int (Int32.ofInt (F a z.toNat)) :: r) (A' := fl_H T G F ++ X) hM hrow rfl ?_ rfl hk
  have hin := fl_in h0 h1 h2
  simp only [xi_s, hA]
  rw [if_neg hin, fl_nat ⟨by omega, by omega⟩]
theorem fl_lald {a n : Nat} {z : Int} (hM : Ms[y]? = some M) (hrow : xi_row M.2.2.2.2.1 pc = some (.laload, nx, aux)) (hT : T[a]? = some (0, 1, [n])) (h0 : 0 ≤ z) (h1 : z < (n : Int)) (h2 : n < 2147483648) (hk : fl_R Ms y fr lo nx lv (.long (Int64.ofInt (F a z.toNat)) :: r) (fl_H T G F ++ X) Q) : fl_R Ms y fr lo pc lv (.int (Int32.ofInt z) :: .ref a :: r) (fl_H T G F ++ X) Q := by
  have hA : (fl_H T G F ++ X)[a]? = some (.inl (1, n, .inr (.inl (fun j => Int64.ofInt (F a j))))) := fl_at hT
  refine fl_s (pc' := nx) (lv' := lv) (st' := .long (Int64.ofInt (F a z.toNat)) :: r) (A' := fl_H T G F ++ X) hM hrow rfl ?_ rfl hk
  have hin := fl_in h0 h1 h2
  simp only [xi_s, hA]
  rw [if_neg hin, fl_nat ⟨by omega, by omega⟩]
/-- .. and into one -/
theorem fl_iast {a n : Nat} {z v : Int} (hM : Ms[y]? = some M) (hrow : xi_row M.2.2.2.2.1 pc = some (.iastore, nx, aux)) (hT : T[a]? = some (0, 0, [n])) (h0 : 0 ≤ z) (h1 : z < (n : Int)) (h2 : n < 2147483648) (hk : fl_R Ms y fr lo nx lv r (fl_H T G (fl_u F a z.toNat v) ++ X) Q) : fl_R Ms y fr lo pc lv (.int (Int32.ofInt v) :: .int (Int32.ofInt z) :: .ref a :: r) (fl_H T G F ++ X) Q := by
  have hA : (fl_H T G F ++ X)[a]? = some (.inl (0, n, .inl (fun j => Int32.ofInt (F a j)))) := fl_at hT
  have hin := fl_in h0 h1 h2
  refine fl_s (pc' := nx) (lv' := lv) (st' := r) (A' := (fl_H T G F ++ X).set a (.inl (0, n, .inl (upd (fun j => Int32.ofInt (F a j)) (Int32.ofInt z).toNatClampNeg (Int32.ofInt v))))) hM hrow rfl ?_ rfl ?_
  · simp only [xi_s, hA]
    rw [if_neg hin]
  · rw [fl_set (k := z.toNat) (z := v) hT]
    · exact hk
    · rw [fl_nat ⟨by omega, by omega⟩]
      have e1 : upd (fun j => Int32.ofInt (F a j)) z.toNat (Int32.ofInt v) = fun j => Int32.ofInt (fl_u F a z.toNat v a j) := by
        funext j
        by_cases hj : j = z.toNat
        · simp [upd, fl_u, hj]
        · simp [upd, fl_u, hj]
      rw [e1]
      rfl
theorem fl_last {a n : Nat} {z v : Int} (hM : Ms[y]? = some M) (hrow : xi_row M.2.2.2.2.1 pc = some (.lastore, nx, aux)) (hT : T[a]? = some (0, 1, [n])) (h0 : 0 ≤ z) (h1 : z < (n : Int)) (h2 : n < 2147483648) (hk : fl_R Ms y fr lo nx lv r (fl_H T G (fl_u F a z.toNat v) ++ X) Q) : fl_R Ms y fr lo pc lv (.long (Int64.ofInt v) :: .int (Int32.ofInt z) :: .ref a :: r) (fl_H T G F ++ X) Q := by
  have hA : (fl_H T G F ++ X)[a]? = some (.inl (1, n, .inr (.inl (fun j => Int64.ofInt (F a j))))) := fl_at hT
  have hin := fl_in h0 h1 h2
  refine fl_s (pc' := nx) (lv' := lv) (st' := r) (A' := (fl_H T G F ++ X).set a (.inl (1, n, .inr (.inl (vp_updL (fun j => Int64.ofInt (F a j)) (Int32.ofInt z).toNatClampNeg (Int64.ofInt v)))))) hM hrow rfl ?_ rfl ?_
  · simp only [xi_s, hA]
    rw [if_neg hin]
  · rw [fl_set (k := z.toNat) (z := v) hT]
    · exact hk
    · rw [fl_nat ⟨by omega, by omega⟩]
      have e1 : vp_updL (fun j => Int64.ofInt (F a j)) z.toNat (Int64.ofInt v) = fun j => Int64.ofInt (fl_u F a z.toNat v a j) := by
        funext j
        by_cases hj : j = z.toNat
        · simp [vp_updL, fl_u, hj]
        · simp [vp_updL, fl_u, hj]
      rw [e1]
      rfl
theorem fl_cast {a n : Nat} {z v : Int} (hM : Ms[y]? = some M) (hrow : xi_row M.2.2.2.2.1 pc = some (.castore, nx, aux)) (hT : T[a]? = some (0, 2, [n])) (h0 : 0 ≤ z) (h1 : z < (n : Int)) (h2 : n < 2147483648) (hv : vp_nar .char (Int32.ofInt v) = Int32.ofInt v) (hk : fl_R Ms y fr lo nx lv r (fl_H T G (fl_u F a z.toNat v) ++ X) Q) : fl_R Ms y fr lo pc lv (.int (Int32.ofInt v) :: .int (Int32.ofInt z) :: .ref a :: r) (fl_H T G F ++ X) Q := by
  have hA : (fl_H T G F ++ X)[a]? = some (.inl (2, n, .inl (fun j => Int32.ofInt (F a j)))) := fl_at hT
  have hin := fl_in h0 h1 h2
  refine fl_s (pc' := nx) (lv' := lv) (st' := r) (A' := (fl_H T G F ++ X).set a (.inl (2, n, .inl (upd (fun j => Int32.ofInt (F a j)) (Int32.ofInt z).toNatClampNeg (vp_nar .char (Int32.ofInt v)))))) hM hrow rfl ?_ rfl ?_
  · simp only [xi_s, hA]
    rw [if_neg hin]
  · rw [fl_set (k := z.toNat) (z := v) hT]
    · exact hk
    · rw [fl_nat ⟨by omega, by omega⟩, hv]
      have e1 : upd (fun j => Int32.ofInt (F a j)) z.toNat (Int32.ofInt v) = fun j => Int32.ofInt (fl_u F a z.toNat v a j) := by
        funext j
        by_cases hj : j = z.toNat
        · simp [upd, fl_u, hj]
        · simp [upd, fl_u, hj]
      rw [e1]
      rfl
theorem fl_zast {a n : Nat} {z v : Int} (hM : Ms[y]? = some M) (hrow : xi_row M.2.2.2.2.1 pc = some (.bastore, nx, aux)) (hT : T[a]? = some (0, 3, [n])) (h0 : 0 ≤ z) (h1 : z < (n : Int)) (h2 : n < 2147483648) (hv : vp_nar .boolean (Int32.ofInt v) = Int32.ofInt v) (hk : fl_R Ms y fr lo nx lv r (fl_H T G (fl_u F a z.toNat v) ++ X) Q) : fl_R Ms y fr lo pc lv (.int (Int32.ofInt v) :: .int (Int32.ofInt z) :: .ref a :: r) (fl_H T G F ++ X) Q := by
  have hA : (fl_H T G F ++ X)[a]? = some (.inl (3, n, .inl (fun j => Int32.ofInt (F a j)))) := fl_at hT
  have hin := fl_in h0 h1 h2
  refine fl_s (pc' := nx) (lv' := lv) (st' := r) (A' := (fl_H T G F ++ X).set a (.inl (3, n, .inl (upd (fun j => Int32.ofInt (F a j)) (Int32.ofInt z).toNatClampNeg (vp_nar .boolean (Int32.ofInt v)))))) hM hrow rfl ?_ rfl ?_
  · simp only [xi_s, hA]
    rw [if_neg hin]
  · rw [fl_set (k := z.toNat) (z := v) hT]
    · exact hk
    · rw [fl_nat ⟨by omega, by omega⟩, hv]
      have e1 : upd (fun j => Int32.ofInt (F a j)) z.toNat (Int32.ofInt v) = fun j => Int32.ofInt (fl_u F a z.toNat v a j) := by
        funext j
        by_cases hj : j = z.toNat
        · simp [upd, fl_u, hj]
        · simp [upd, fl_u, hj]
      rw [e1]
      rfl
theorem fl_aald {a t q : Nat} {rs : List Nat} {C : String} {z : Int} (hM : Ms[y]? = some M) (hrow : xi_row M.2.2.2.2.1 pc = some (.aaload, nx, aux)) (hT : T[a]? = some (1, t, rs)) (hG : ∀ j, j < rs.length → G a j = rs[j]?) (ht : xi_tyl[t]? = some (.object C)) (h0 : 0 ≤ z) (h1 : z < (rs.length : Int)) (h2 : rs.length < 2147483648) (hq : rs[z.toNat]? = some q) (hk : fl_R Ms y fr lo nx lv (.ref q :: r) (fl_H T G F ++ X) Q) : fl_R Ms y fr lo pc lv (.int (Int32.ofInt z) :: .ref a :: r) (fl_H T G F ++ X) Q := by
  have hA : (fl_H T G F ++ X)[a]? = some (.inl (t, rs.length, .inr (.inr (.inr (.inr (G a)))))) := fl_at hT
  have hin := fl_in h0 h1 h2
  refine fl_s (pc' := nx) (lv' := lv) (st' := .ref q :: r) (A' := fl_H T G F ++ X) hM hrow rfl ?_ rfl hk
  simp only [xi_s, hA]
  rw [if_neg hin, fl_nat ⟨by omega, by omega⟩, hG _ (by omega), hq, ht]
  rfl
theorem fl_alen {a t n : Nat} (hM : Ms[y]? = some M) (hrow : xi_row M.2.2.2.2.1 pc = some (.arraylength, nx, aux)) (hA : ∃ x, (fl_H T G F ++ X)[a]? = some (.inl (t, n, x))) (ht : (xi_tyl[t]?).isSome = true) (hk : fl_R Ms y fr lo nx lv (.int (Int32.ofInt (n : Int)) :: r) (fl_H T G F ++ X) Q) : fl_R Ms y fr lo pc lv (.ref a :: r) (fl_H T G F ++ X) Q := by
  obtain ⟨x, hA⟩ := hA
  obtain ⟨ty, hty⟩ := Option.isSome_iff_exists.mp ht
  refine fl_s (pc' := nx) (lv' := lv) (st' := .int (Int32.ofNat n) :: r) (A' := fl_H T G F ++ X) hM hrow rfl ?_ rfl ?_
  · simp only [xi_s, hA, hty]
  · have e1 : Int32.ofNat n = Int32.ofInt (n : Int) := (Int32.ofInt_eq_ofNat (n := n)).symm
    rw [e1]
    exact hk
/-- an exception made and thrown -/
theorem fl_thr {ci i j a1 a2 w1 w2 w3 : Nat} {Q : Outcome → xi_H → Prop} (hM : Ms[y]? = some M) (hrow : xi_row M.2.2.2.2.1 pc = some (.new i, nx, [ci, j, a1, a2, w1, w2, w3])) (hh : M.2.2.2.2.2 = []) (hfr : 6 ≤ fr) (hlo : 100 ≤ lo) (hw : xi_wt st ≤ 8) (hp : 0 < A.length) (hk : Q (.threw A.length) (A ++ [.inr (ci, List.replicate 6 .null)])) : fl_R Ms y fr lo pc lv st A Q :=
  fl_e hM hrow (if_pos ⟨hh, hfr, hlo, hw, hp⟩) hk
end FLQ

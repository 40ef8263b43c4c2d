/-! BOTH CONSTRUCTORS, by the kernel: the heap behind them is a flat one, and it holds what ra_at says -/
def xi_hp (r : Option (Outcome × xi_H)) : xi_H := match r with
  | some (_, A) => A
  | none => []
def xi_isv (r : Option (Outcome × xi_H)) : Bool := match r with
  | some (.returned none, _) => true
  | _ => false
theorem xi_isv_eq {r : Option (Outcome × xi_H)} (h : xi_isv r = true) : r = some (.returned none, xi_hp r) := by
  match r, h with
  | some (.returned none, A), _ => rfl
noncomputable def e_1 : Option (Outcome × xi_H) := xi_go xi_ms 2000 0 14 500 0 (lv_args 0 [.ref 0]) [] [.inr (0, xi_df 0)]
noncomputable def e_A1 : xi_H := xi_hp e_1
noncomputable def e_2 : Option (Outcome × xi_H) := xi_go xi_ms 2000 44 14 500 0 (lv_args 0 [.ref 344]) [] (e_A1 ++ [.inr (13, xi_df 13)])
noncomputable def e_A2 : xi_H := xi_hp e_2
noncomputable def e_chk : Bool := (xi_isv e_1 && xi_isv e_2) && ((decide (e_A1.length = 344) && decide (e_A2.length = 386)) && (decide (xi_ns e_A1 = 12797) && decide (xi_ns e_A2 = 17826)))
theorem e_chk_ok : e_chk = true := by decide +kernel
theorem ra_cases (r k : Nat) : ra_at r k = 0 ∨ ∃ q ∈ sh_Z, q.1 = r ∧ q.2.1 = k ∧ ra_at r k = q.2.2 := by
  unfold ra_at
  cases h : sh_Z.find? (fun q => q.1 == r && q.2.1 == k) with
  | none => exact Or.inl rfl
  | some q =>
    have h1 := List.find?_some h
    simp only [Bool.and_eq_true, beq_iff_eq] at h1
    exact Or.inr ⟨q, List.mem_of_find?_eq_some h, h1.1, h1.2, rfl⟩
/-- is it 0? The value is opened at once, so that the kernel meets the same text again and again -/
def zc32 (x : Int32) : Bool := match x with
  | ⟨⟨⟨⟨n, _⟩⟩⟩⟩ => Nat.beq n 0
def zc64 (x : Int64) : Bool := match x with
  | ⟨⟨⟨⟨n, _⟩⟩⟩⟩ => Nat.beq n 0
theorem zc32_eq {x : Int32} (h : zc32 x = true) : x = Int32.ofInt 0 := by
  obtain ⟨⟨⟨⟨n, hn⟩⟩⟩⟩ := x
  have e : n = 0 := Nat.eq_of_beq_eq_true h
  subst e
  rfl
theorem zc64_eq {x : Int64} (h : zc64 x = true) : x = Int64.ofInt 0 := by
  obtain ⟨⟨⟨⟨n, hn⟩⟩⟩⟩ := x
  have e : n = 0 := Nat.eq_of_beq_eq_true h
  subst e
  rfl
/-- how many halvings -/
def dz (n : Nat) : Nat := bif Nat.ble n 8 then 3 else bif Nat.ble n 64 then 6 else bif Nat.ble n 256 then 8 else bif Nat.ble n 1024 then 10 else 13
noncomputable def azb32 (f : Nat → Int32) (d : Nat) : Nat → Bool := @Nat.rec (fun _ => Nat → Bool) (fun o => zc32 (f o)) (fun d ih o => @Bool.rec (fun _ => Bool) false (ih (Nat.add o (Nat.pow 2 d))) (ih o)) d
theorem azb32_eq {f : Nat → Int32} : ∀ (d o : Nat), azb32 f d o = true → ∀ j, j < 2 ^ d → f (o + j) = Int32.ofInt 0 := by
  intro d
  induction d with
  | zero =>
    intro o h j hj
    have e : j = 0 := by simpa using hj
    subst e
    exact zc32_eq h
  | succ d ih =>
    intro o h j hj
    have h1 : @Bool.rec (fun _ => Bool) false (azb32 f d (o + 2 ^ d)) (azb32 f d o) = true := h
    cases h2 : azb32 f d o with
    | false => rw [h2] at h1; cases h1
    | true =>
      rw [h2] at h1
      have hp : 2 ^ (d + 1) = 2 ^ d + 2 ^ d := by rw [Nat.pow_succ]; omega
      by_cases e : j < 2 ^ d
      · exact ih o h2 j e
      · have h3 := ih (o + 2 ^ d) h1 (j - 2 ^ d) (by omega)
        rw [show o + 2 ^ d + (j - 2 ^ d) = o + j by omega] at h3
        exact h3
noncomputable def az32 (f : Nat → Int32) (n : Nat) : Bool := Nat.ble n (2 ^ dz n) && azb32 f (dz n) 0
theorem az32_eq {f : Nat → Int32} (n : Nat) (h : az32 f n = true) : ∀ j, j < n → f j = Int32.ofInt 0 := by
  intro j hj
  unfold az32 at h
  rw [Bool.and_eq_true] at h
  have h1 := Nat.le_of_ble_eq_true h.1
  have h2 := azb32_eq _ _ h.2 j (by omega)
  rw [Nat.zero_add] at h2
  exact h2
noncomputable def azb64 (f : Nat → Int64) (d : Nat) : Nat → Bool := @Nat.rec (fun _ => Nat → Bool) (fun o => zc64 (f o)) (fun d ih o => @Bool.rec (fun _ => Bool) false (ih (Nat.add o (Nat.pow 2 d))) (ih o)) d
theorem azb64_eq {f : Nat → Int64} : ∀ (d o : Nat), azb64 f d o = true → ∀ j, j < 2 ^ d → f (o + j) = Int64.ofInt 0 := by
  intro d
  induction d with
  | zero =>
    intro o h j hj
    have e : j = 0 := by simpa using hj
    subst e
    exact zc64_eq h
  | succ d ih =>
    intro o h j hj
    have h1 : @Bool.rec (fun _ => Bool) false (azb64 f d (o + 2 ^ d)) (azb64 f d o) = true := h
    cases h2 : azb64 f d o with
    | false => rw [h2] at h1; cases h1
    | true =>
      rw [h2] at h1
      have hp : 2 ^ (d + 1) = 2 ^ d + 2 ^ d := by rw [Nat.pow_succ]; omega
      by_cases e : j < 2 ^ d
      · exact ih o h2 j e
      · have h3 := ih (o + 2 ^ d) h1 (j - 2 ^ d) (by omega)
        rw [show o + 2 ^ d + (j - 2 ^ d) = o + j by omega] at h3
        exact h3
noncomputable def az64 (f : Nat → Int64) (n : Nat) : Bool := Nat.ble n (2 ^ dz n) && azb64 f (dz n) 0
theorem az64_eq {f : Nat → Int64} (n : Nat) (h : az64 f n = true) : ∀ j, j < n → f j = Int64.ofInt 0 := by
  intro j hj
  unfold az64 at h
  rw [Bool.and_eq_true] at h
  have h1 := Nat.le_of_ble_eq_true h.1
  have h2 := azb64_eq _ _ h.2 j (by omega)
  rw [Nat.zero_add] at h2
  exact h2
def zsp (r : Nat) : Bool := Nat.beq r 119 || (Nat.beq r 125 || Nat.beq r 346)
theorem zsp_eq {r : Nat} (h : zsp r = false) (j : Nat) : ra_at r j = 0 := by
  rcases ra_cases r j with h1 | ⟨q, hq, h1, -⟩
  · exact h1
  · have h2 := (by decide +kernel : ∀ q ∈ sh_Z, zsp q.1 = true) q hq
    rw [h1, h] at h2
    cases h2
def kvf (r j k : Nat) (v : Value) : Bool := match k, v with
  | 0, .int x => bif zsp r then decide (x = Int32.ofInt (ra_at r j)) else zc32 x
  | 1, .long x => bif zsp r then decide (x = Int64.ofInt (ra_at r j)) else zc64 x
  | 2, .ref x => Nat.beq x (ra_at r j).toNat
  | k + 3, .ref x => Nat.beq x k
  | _, _ => false
def kfs (r : Nat) : Nat → List Nat → List Value → Bool
  | _, [], [] => true
  | j, k :: ks, v :: fs => kvf r j k v && kfs r (j + 1) ks fs
  | _, _, _ => false
theorem kvf_eq {r j k : Nat} {v : Value} (h : kvf r j k v = true) : v = fl_f (ra_at r) j k := by
  unfold kvf at h
  split at h
  · cases h9 : zsp r with
    | true => rw [h9] at h; rw [of_decide_eq_true h]; rfl
    | false => rw [h9] at h; rw [zc32_eq h]; show _ = Value.int (Int32.ofInt (ra_at r j)); rw [zsp_eq h9]
  · cases h9 : zsp r with
    | true => rw [h9] at h; rw [of_decide_eq_true h]; rfl
    | false => rw [h9] at h; rw [zc64_eq h]; show _ = Value.long (Int64.ofInt (ra_at r j)); rw [zsp_eq h9]
  · rw [Nat.eq_of_beq_eq_true h]; rfl
  · rw [Nat.eq_of_beq_eq_true h]; rfl
  · cases h
theorem kfs_eq {r : Nat} : ∀ (ks : List Nat) (fs : List Value) (j : Nat), kfs r j ks fs = true → fs = ks.mapIdx (fun i k => fl_f (ra_at r) (j + i) k) := by
  intro ks
  induction ks with
  | nil =>
    intro fs j h
    cases fs with
    | nil => rfl
    | cons v fs => cases h
  | cons k ks ih =>
    intro fs j h
    cases fs with
    | nil => cases h
    | cons v fs =>
      simp only [kfs, Bool.and_eq_true] at h
      rw [List.mapIdx_cons, kvf_eq h.1, ih fs (j + 1) h.2]
      refine congrArg (fun l => fl_f (ra_at r) j k :: l) ?_
      refine congrArg (fun g => ks.mapIdx g) (funext fun i => funext fun k => ?_)
      rw [show j + 1 + i = j + (i + 1) by omega]
noncomputable def kv (r : Nat) (s : fl_T) (c : xi_E) : Bool := match s, c with
  | (0, 1, ns), .inl (t, n, .inr (.inl f)) => (Nat.beq t 1 && Nat.beq n (ns.headD 0)) && bif zsp r then (List.range (ns.headD 0)).all (fun j => decide (f j = Int64.ofInt (ra_at r j))) else az64 f (ns.headD 0)
  | (0, t0, ns), .inl (t, n, .inl f) => ((!Nat.beq t0 1) && (Nat.beq t t0 && Nat.beq n (ns.headD 0))) && bif zsp r then (List.range (ns.headD 0)).all (fun j => decide (f j = Int32.ofInt (ra_at r j))) else az32 f (ns.headD 0)
  | (1, t0, rs), .inl (t, n, .inr (.inr (.inr (.inr f)))) => (Nat.beq t t0 && Nat.beq n rs.length) && (List.range rs.length).all (fun j => decide (f j = rs[j]?))
  | (2, ci, ks), .inr (cj, fs) => Nat.beq cj ci && kfs r 0 ks fs
  | _, _ => false
/-- no heap can tell them apart: an array's places behind its length do not count -/
def ceq (c c' : xi_E) : Prop := xi_n c = xi_n c' ∧ ∀ (b0 : Nat) (aS : Nat → Nat) (dA : Nat → ClassId) (D : va_G) (a : Nat) (H : Heap), va_at D xi_cl (a, xi_e b0 aS dA c) H → va_at D xi_cl (a, xi_e b0 aS dA c') H
theorem arrV_cg {c : ClassId} {n : Nat} {f g : Nat → Value} (h : ∀ j, j < n → f j = g j) : arrV c n f = arrV c n g := by
  unfold arrV
  have e : (fun j : Fin n => f j.val) = fun j : Fin n => g j.val := funext fun j => h j.val j.isLt
  rw [e]
theorem ceq_refl (c : xi_E) : ceq c c := ⟨rfl, fun _ _ _ _ _ _ h => h⟩
theorem ceq_i {t n : Nat} {f g : Nat → Int32} (h : ∀ j, j < n → f j = g j) : ceq (.inl (t, n, .inl f)) (.inl (t, n, .inl g)) := by
  refine ⟨rfl, fun b0 aS dA D a H h1 => ?_⟩
  show H[a]? = some (arrV (dA t) n (fun j => .int (g j)))
  rw [← arrV_cg (f := fun j => .int (f j)) (fun j hj => by show Value.int (f j) = _; rw [h j hj])]
  exact h1
theorem ceq_l {t n : Nat} {f g : Nat → Int64} (h : ∀ j, j < n → f j = g j) : ceq (.inl (t, n, .inr (.inl f))) (.inl (t, n, .inr (.inl g))) := by
  refine ⟨rfl, fun b0 aS dA D a H h1 => ?_⟩
  show H[a]? = some (arrV (dA t) n (fun j => .long (g j)))
  rw [← arrV_cg (f := fun j => .long (f j)) (fun j hj => by show Value.long (f j) = _; rw [h j hj])]
  exact h1
theorem ceq_q {t n : Nat} {f g : Nat → Option Nat} (h : ∀ j, j < n → f j = g j) : ceq (.inl (t, n, .inr (.inr (.inr (.inr f))))) (.inl (t, n, .inr (.inr (.inr (.inr g))))) := by
  refine ⟨rfl, fun b0 aS dA D a H h1 => ?_⟩
  show H[a]? = some (arrV (dA t) n (fun j => va_rf ((g j).map (fun k => b0 + k))))
  rw [← arrV_cg (f := fun j => va_rf ((f j).map (fun k => b0 + k))) (fun j hj => by show va_rf ((f j).map _) = _; rw [h j hj])]
  exact h1
def G0 (r j : Nat) : Option Nat := match sh_T[r]? with
  | some (1, _, rs) => rs[j]?
  | _ => none
theorem e_gg : gg G0 := by
  intro r t rs h j hj
  simp only [G0, h]
theorem kv_eq {r : Nat} {s : fl_T} {c : xi_E} (hs : sh_T[r]? = some s) (h : kv r s c = true) : ceq c (fl_c s (G0 r) (ra_at r)) := by
  unfold kv at h
  split at h
  · rename_i ns t n f
    simp only [Bool.and_eq_true] at h
    obtain ⟨⟨h1, h2⟩, h3⟩ := h
    have e1 : t = 1 := Nat.eq_of_beq_eq_true h1
    have e2 : n = ns.headD 0 := Nat.eq_of_beq_eq_true h2
    subst e1
    subst e2
    refine ceq_l (fun j hj => ?_)
    cases h9 : zsp r with
    | true =>
      rw [h9] at h3
      exact of_decide_eq_true (List.all_eq_true.mp h3 j (List.mem_range.mpr hj))
    | false =>
      rw [h9] at h3
      rw [zsp_eq h9]
      exact az64_eq _ h3 j hj
  · rename_i t0 ns t n f
    simp only [Bool.and_eq_true] at h
    obtain ⟨⟨h0, h1, h2⟩, h3⟩ := h
    have e1 : t = t0 := Nat.eq_of_beq_eq_true h1
    have e2 : n = ns.headD 0 := Nat.eq_of_beq_eq_true h2
    subst e1
    subst e2
    have key : ∀ j, j < ns.headD 0 → f j = Int32.ofInt (ra_at r j) := by
      intro j hj
      cases h9 : zsp r with
      | true =>
        rw [h9] at h3
        exact of_decide_eq_true (List.all_eq_true.mp h3 j (List.mem_range.mpr hj))
      | false =>
        rw [h9] at h3
        rw [zsp_eq h9]
        exact az32_eq _ h3 j hj
    match t, h0 with
    | 0, _ => exact ceq_i key
    | 1, h0 => cases h0
    | k + 2, _ => exact ceq_i key
  · rename_i t0 rs t n f
    simp only [Bool.and_eq_true] at h
    obtain ⟨⟨h1, h2⟩, h3⟩ := h
    have e1 : t = t0 := Nat.eq_of_beq_eq_true h1
    have e2 : n = rs.length := Nat.eq_of_beq_eq_true h2
    subst e1
    subst e2
    refine ceq_q (fun j hj => ?_)
    rw [of_decide_eq_true (List.all_eq_true.mp h3 j (List.mem_range.mpr hj)), e_gg r _ _ hs j hj]
  · rename_i ci ks cj fs
    simp only [Bool.and_eq_true] at h
    have e1 : cj = ci := Nat.eq_of_beq_eq_true h.1
    subst e1
    have e2 := kfs_eq _ _ _ h.2
    have e : (.inr (cj, fs) : xi_E) = fl_c (2, cj, ks) (G0 r) (ra_at r) := by
      rw [e2]
      show (.inr (cj, ks.mapIdx (fun i k => fl_f (ra_at r) (0 + i) k)) : xi_E) = .inr (cj, ks.mapIdx (fun j k => fl_f (ra_at r) j k))
      refine congrArg (fun g => (.inr (cj, ks.mapIdx g) : xi_E)) (funext fun i => funext fun k => ?_)
      rw [Nat.zero_add]
    rw [← e]
    exact ceq_refl _
  · cases h
noncomputable def kvs : Nat → List fl_T → xi_H → Bool
  | _, [], [] => true
  | r, s :: T, c :: A => kv r s c && kvs (r + 1) T A
  | _, _, _ => false
theorem kvs_at : ∀ (T : List fl_T) (A : xi_H) (r : Nat), kvs r T A = true → A.length = T.length ∧ ∀ (k : Nat) (s : fl_T), T[k]? = some s → ∃ c, A[k]? = some c ∧ kv (r + k) s c = true := by
  intro T
  induction T with
  | nil =>
    intro A r h
    cases A with
    | nil => exact ⟨rfl, fun k s h1 => by simp at h1⟩
    | cons c A => cases h
  | cons s T ih =>
    intro A r h
    cases A with
    | nil => cases h
    | cons c A =>
      simp only [kvs, Bool.and_eq_true] at h
      obtain ⟨i1, i2⟩ := ih A (r + 1) h.2
      refine ⟨by simp [i1], fun k s' h1 => ?_⟩
      cases k with
      | zero =>
        simp only [List.getElem?_cons_zero, Option.some.injEq] at h1
        subst h1
        exact ⟨c, rfl, h.1⟩
      | succ k =>
        simp only [List.getElem?_cons_succ] at h1
        obtain ⟨c', j1, j2⟩ := i2 k s' h1
        refine ⟨c', by rw [List.getElem?_cons_succ]; exact j1, ?_⟩
        rw [show r + (k + 1) = r + 1 + k by omega]
        exact j2
theorem xi_At_cg {z : xi_Z} {pc : Nat} {lv : xi_L} {st : List Value} {A A' : xi_H} (hl : A'.length = A.length) (hc : ∀ (k : Nat) (c' : xi_E), A'[k]? = some c' → ∃ c, A[k]? = some c ∧ ceq c c') (kk : xi_At z pc lv st A') : xi_At z pc lv st A := by
  have hn : xi_ns A' = xi_ns A := by
    unfold xi_ns
    have e : A'.map xi_n = A.map xi_n := by
      apply List.ext_getElem?
      intro k
      rw [List.getElem?_map, List.getElem?_map]
      cases h9 : A'[k]? with
      | none => rw [List.getElem?_eq_none (by rw [← hl]; exact List.getElem?_eq_none_iff.mp h9)]
      | some c' =>
        obtain ⟨c, h1, h2⟩ := hc k c' h9
        rw [h1]
        show some (xi_n c') = some (xi_n c)
        rw [h2.1]
    rw [e]
  obtain ⟨p, l, e, R, s, m, args, below, meth, c, Q, nL, b0, aS, dA, D, n0, s0⟩ := z
  intro H locs ls hR hlv
  have hR' : xi_R b0 aS dA D n0 s0 s.heap A' H locs := by
    refine ⟨fun k q hq => ?_, hR.2.1, by rw [hl]; exact hR.2.2.1, by rw [hn]; exact hR.2.2.2.1, hR.2.2.2.2⟩
    rw [xi_w, List.getElem?_mapIdx] at hq
    cases h9 : A'[k]? with
    | none => rw [h9] at hq; cases hq
    | some c' =>
      rw [h9] at hq
      obtain ⟨c, h1, h2⟩ := hc k c' h9
      have e : q = (b0 + k, xi_e b0 aS dA c') := by
        have := Option.some.inj hq
        exact this.symm
      subst e
      exact h2.2 b0 aS dA D (b0 + k) H (hR.1 k _ (xi_w_get h1))
  have h := kk H locs ls hR' hlv
  rw [hl, hn] at h
  exact h
theorem e_kv : kvs 0 sh_T (e_A2 ++ [.inl (1, ((Int32.ofInt 1).toNatClampNeg, .inr (.inl (fun _ => 0))))]) = true := by decide +kernel
theorem e_cg {z : xi_Z} {pc : Nat} {lv : xi_L} {st : List Value} (kk : xi_At z pc lv st (fl_H sh_T G0 ra_at ++ [])) : xi_At z pc lv st (e_A2 ++ [.inl (1, ((Int32.ofInt 1).toNatClampNeg, .inr (.inl (fun _ => 0))))]) := by
  obtain ⟨h1, h2⟩ := kvs_at _ _ _ e_kv
  refine xi_At_cg ?_ (fun k c' hk => ?_) kk
  · rw [h1, List.append_nil, fl_len]
  · rw [List.append_nil] at hk
    unfold fl_H at hk
    rw [List.getElem?_mapIdx] at hk
    cases h9 : sh_T[k]? with
    | none => rw [h9] at hk; cases hk
    | some s =>
      rw [h9] at hk
      obtain ⟨c, h3, h4⟩ := h2 k s h9
      rw [Nat.zero_add] at h4
      refine ⟨c, h3, ?_⟩
      rw [← Option.some.inj hk]
      exact kv_eq h9 h4
theorem ns_app (A B : xi_H) : xi_ns (A ++ B) = xi_ns A + xi_ns B := by
  simp only [xi_ns, List.map_append, List.sum_append]
def fl_sz (s : fl_T) : Nat := match s with
  | (0, _, ns) => ns.headD 0
  | (_, _, rs) => rs.length
theorem fl_sz_eq (s : fl_T) (g : Nat → Option Nat) (f : Nat → Int) : xi_n (fl_c s g f) = fl_sz s := by
  obtain ⟨a, t, ns⟩ := s
  match a, t with
  | 0, 0 => rfl
  | 0, 1 => rfl
  | 0, t + 2 => rfl
  | 1, t => rfl
  | a + 2, t => exact List.length_mapIdx
theorem ns_H (G : Nat → Nat → Option Nat) (F : fl_N) : xi_ns (fl_H sh_T G F) = 17827 := by
  have e : (fl_H sh_T G F).map xi_n = sh_T.map fl_sz := by
    apply List.ext_getElem?
    intro k
    unfold fl_H
    rw [List.getElem?_map, List.getElem?_map, List.getElem?_mapIdx]
    cases sh_T[k]? with
    | none => rfl
    | some s => exact congrArg some (fl_sz_eq s _ _)
  unfold xi_ns
  rw [e]
  decide +kernel
/-! THE FRESH HEAP keeps the bounds, and what lasts -/
def gb_0 (b : Int × Int) : Bool := decide (b.1 ≤ 0) && decide (0 ≤ b.2)
theorem gb_0_all : (List.range 387).all (fun r => match gb_T[r]? with
  | some q => r == 119 || q.2.all gb_0
  | none => true) = true := by decide +kernel
theorem gb_0_len : gb_T.length = 387 := by decide +kernel
theorem gb_0_at {bs : List (Int × Int)} (h : bs.all gb_0 = true) (k : Nat) : (bs.getD k (0, 0)).1 ≤ 0 ∧ 0 ≤ (bs.getD k (0, 0)).2 := by
  rw [List.getD_eq_getElem?_getD]
  cases h9 : bs[k]? with
  | none => exact ⟨Int.le_refl _, Int.le_refl _⟩
  | some b =>
    have h1 := List.all_eq_true.mp h b (List.mem_of_getElem? h9)
    simp only [gb_0, Bool.and_eq_true, decide_eq_true_eq] at h1
    exact h1
theorem gb_0_gb {r k : Nat} (hr : r ≠ 119) : (gb r k).1 ≤ 0 ∧ 0 ≤ (gb r k).2 := by
  unfold gb
  cases h9 : gb_T[r]? with
  | none => exact ⟨Int.le_refl _, Int.le_refl _⟩
  | some q =>
    have hlt : r < 387 := by
      have := (List.getElem?_eq_some_iff.mp h9).1
      rw [gb_0_len] at this
      exact this
    have h1 := List.all_eq_true.mp gb_0_all r (List.mem_range.mpr hlt)
    simp only [h9, Bool.or_eq_true, beq_iff_eq] at h1
    have h2 := h1.resolve_left hr
    obtain ⟨a, bs⟩ := q
    match a, bs, h2 with
    | 0, b :: bs, h2 =>
      simp only [List.all_cons, gb_0, Bool.and_eq_true, decide_eq_true_eq] at h2
      exact h2.1
    | 0, [], h2 => exact gb_0_at h2 k
    | a + 1, bs, h2 => exact gb_0_at h2 k
theorem gi_0 : gi ra_at := by
  intro r k
  rcases ra_cases r k with h | ⟨q, hq, h1, h2, h3⟩
  · by_cases hr : r = 119
    · subst hr
      by_cases hk : k < 4
      · exact (by decide +kernel : ∀ k : Nat, k < 4 → (gb 119 k).1 ≤ ra_at 119 k ∧ ra_at 119 k ≤ (gb 119 k).2) k hk
      · rw [h]
        have e : gb_T[119]? = some (1, [(0, 0), (0, 0), (8, 105), (2, 3)]) := by decide +kernel
        unfold gb
        rw [e]
        have e2 : ([(0, 0), (0, 0), (8, 105), (2, 3)] : List (Int × Int)).getD k (0, 0) = (0, 0) := by
          rw [List.getD_eq_getElem?_getD, List.getElem?_eq_none (by show 4 ≤ k; omega)]
          rfl
        show (([(0, 0), (0, 0), (8, 105), (2, 3)] : List (Int × Int)).getD k (0, 0)).1 ≤ 0 ∧ 0 ≤ (([(0, 0), (0, 0), (8, 105), (2, 3)] : List (Int × Int)).getD k (0, 0)).2
        rw [e2]
        exact ⟨Int.le_refl _, Int.le_refl _⟩
    · rw [h]
      exact gb_0_gb hr
  · rw [h3, ← h1, ← h2]
    exact (by decide +kernel : ∀ q ∈ sh_Z, (gb q.1 q.2.1).1 ≤ q.2.2 ∧ q.2.2 ≤ (gb q.1 q.2.1).2) q hq
theorem iv_0 : iv ra_at := by
  refine ⟨⟨⟨⟨gi_0, ⟨fun h => absurd h (by decide +kernel), fun h => absurd h (by decide +kernel)⟩, ⟨fun j _ => rfl, fun h => absurd h (by decide +kernel), fun h => absurd h (by decide +kernel), fun h => absurd h (by decide +kernel), fun h => absurd h (by decide +kernel), by decide +kernel⟩, by decide +kernel, ⟨by decide +kernel, fun h => absurd h (by decide +kernel), by decide +kernel, fun h => absurd h (by decide +kernel), by decide +kernel⟩, [], ⟨by decide +kernel, fun j x h => by simp at h⟩, ⟨by decide +kernel, fun j x h => by simp at h⟩, by simp, fun x hx => by simp at hx⟩, fun h => absurd h (by decide +kernel)⟩, by decide +kernel, fun h => absurd h (by decide +kernel)⟩, ⟨⟨fun h => absurd h (by decide +kernel), fun h => absurd h (by decide +kernel)⟩, ⟨fun _ => by decide +kernel, fun h => absurd h (by decide +kernel)⟩⟩⟩

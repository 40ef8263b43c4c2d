/-! the reference's calls -/
def pli (F : fl_N) : Prop := F 344 13 = 1 → ∀ k : Nat, (k : Int) < F 344 58 → ∀ p : Nat, (p : Int) < F 354 (F 367 (F 381 k).toNat).toNat → 0 ≤ F 368 (3 * (F 381 k).toNat + p)
theorem pli_cg {F F2 : fl_N} (h : pli F) (c : F2 344 13 = F 344 13) (c2 : F2 344 58 = F 344 58) (e1 : ∀ j, F2 354 j = F 354 j) (e2 : ∀ j, F2 367 j = F 367 j) (e3 : ∀ j, F2 368 j = F 368 j) (e4 : ∀ j, F2 381 j = F 381 j) : pli F2 := by
  intro h1 k hk p hp
  rw [c] at h1
  rw [c2] at hk
  rw [e1, e2, e4] at hp
  rw [e3, e4]
  exact h h1 k hk p hp
theorem pli_0 {F : fl_N} (h : F 344 13 = 0) : pli F := fun h1 => absurd h1 (by omega)
theorem pli_n {F : fl_N} (h : F 344 58 = 0) : pli F := fun _ k hk => absurd hk (by omega)
theorem pli_w {F : fl_N} (h : sob F) (hg : gi F) (hw : ∀ j : Nat, (j : Int) < F 344 58 → F 381 j < F 344 39) : pli F := by
  intro _ k hk p hp
  have h0 : 0 ≤ F 381 k ∧ F 381 k ≤ 39 := gi_g hg rfl
  have h1 := hw k hk
  exact (h (F 381 k).toNat (by omega)).2 p hp
/-! estimates -/
def wsm (g : Nat → Int) : Nat → Int
  | 0 => 0
  | n + 1 => wsm g n + (if g n = -1 then 100001 else g n)
theorem wsm_nn {g : Nat → Int} : ∀ {n : Nat}, (∀ j : Nat, j < n → -1 ≤ g j) → 0 ≤ wsm g n
  | 0, _ => Int.le_refl _
  | n + 1, h => by
    have h1 := wsm_nn (g := g) (n := n) (fun j hj => h j (by omega))
    have h2 := h n (by omega)
    rw [wsm]
    split <;> omega
theorem wsm_cg {g g' : Nat → Int} : ∀ {n : Nat}, (∀ j, j < n → g' j = g j) → wsm g' n = wsm g n
  | 0, _ => rfl
  | n + 1, h => by rw [wsm, wsm, h n (by omega), wsm_cg (fun j hj => h j (by omega))]
theorem wsm_lt {g g' : Nat → Int} {f : Nat} (ho : ∀ j, j ≠ f → g' j = g j) (h0 : 0 ≤ g' f) (h1 : g' f ≤ 100000) (h2 : g f = -1 ∨ g' f < g f) : ∀ {n : Nat}, f < n → wsm g' n < wsm g n
  | 0, h => absurd h (by omega)
  | n + 1, h => by
    rw [wsm, wsm]
    by_cases e : n = f
    · subst e
      rw [wsm_cg (g := g) (g' := g') (fun j hj => ho j (by omega)), if_neg (show ¬ g' n = -1 by omega)]
      split <;> omega
    · rw [ho n e]
      have := wsm_lt ho h0 h1 h2 (n := n) (by omega)
      omega
def wbd (F : fl_N) (n : Int) : Prop := ∀ j : Nat, (j : Int) < n → -1 ≤ F 385 j ∧ F 385 j ≤ 100000
theorem wbd_u {F : fl_N} {n v : Int} {i : Nat} (h : wbd F n) (h0 : -1 ≤ v) (h1 : v ≤ 100000) : wbd (fl_u F 385 i v) n := by
  intro j hj
  by_cases e : j = i
  · rw [e, fl_u_eq]
    exact ⟨h0, h1⟩
  · rw [fl_u_ne (by omega)]
    exact h j hj
theorem wbd_s {F : fl_N} {k v : Int} (h : wbd F k) (hk : 0 ≤ k) (h0 : -1 ≤ v) (h1 : v ≤ 100000) : wbd (fl_u F 385 k.toNat v) (k + 1) := by
  intro j hj
  by_cases e : j = k.toNat
  · rw [e, fl_u_eq]
    exact ⟨h0, h1⟩
  · rw [fl_u_ne (by omega)]
    exact h j (by omega)
theorem wbd_nn {F : fl_N} {n : Int} (h : wbd F n) : 0 ≤ wsm (F 385) n.toNat := wsm_nn (fun j hj => (h j (by omega)).1)
theorem wbd_lt {F : fl_N} {n f v : Int} (hf : 0 ≤ f ∧ f < n) (h0 : 0 ≤ v) (h1 : v ≤ 100000) (h2 : F 385 f.toNat = -1 ∨ v < F 385 f.toNat) : wsm ((fl_u F 385 f.toNat v) 385) n.toNat < wsm (F 385) n.toNat := by
  refine wsm_lt (f := f.toNat) (fun j hj => fl_u_ne (by omega)) ?_ ?_ ?_ (by omega)
  · rw [fl_u_eq]
    exact h0
  · rw [fl_u_eq]
    exact h1
  · rw [fl_u_eq]
    exact h2
theorem z0_w {F : fl_N} {k : Int} (h : ∀ j : Nat, (j : Int) < k → F 378 j = 0) (hk : 0 ≤ k) : ∀ j : Nat, (j : Int) < k + 1 → fl_u F 378 k.toNat 0 378 j = 0 := by
  intro j hj
  by_cases e : j = k.toNat
  · rw [e, fl_u_eq]
  · rw [fl_u_ne (by omega)]
    exact h j (by omega)
theorem gs_0 {F F1 : fl_N} {k : Int} (h : ∀ j : Nat, j < 512 → F1 378 j = 0) (c : F 344 49 = 1) (d : F 375 0 = 0) (o : ∀ j : Nat, j ≠ k.toNat → F 378 j = F1 378 j) (hk : F 378 k.toNat = 1) : gs F (F 344 49) := by
  refine ⟨⟨d, fun m h1 h2 => absurd h2 (by omega)⟩, ?_, ?_, by omega⟩
  · have h1 := cnz_u o 512
    rw [cnz_0 h] at h1
    omega
  · intro j hj
    by_cases e : j = k.toNat
    · rw [e, hk, c]
      exact Int.le_refl _
    · rw [o j e, h j hj, c]
      omega
theorem gs_fg {F F2 : fl_N} (h : gs F (F 344 49)) (hr : rs F2 (F2 344 49)) (c : F2 344 49 = F 344 49) (e8 : ∀ j, F2 378 j = F 378 j) : gs F2 (F2 344 49) := by
  have e9 : F2 378 = F 378 := funext e8
  refine ⟨hr, ?_, ?_, ?_⟩
  · rw [e9, c]
    exact h.2.1
  · intro k hk
    rw [e8, c]
    exact h.2.2.1 k hk
  · rw [c]
    exact h.2.2.2
theorem wkc_g {F1 F : fl_N} (hr : rs F1 (F1 344 49)) (hg : gn F1) (h1 : F1 344 66 = 1) (c : F 344 49 = F1 344 49) (c1 : F 344 39 = F1 344 39) (e5 : ∀ j, F 375 j = F1 375 j) (e6 : ∀ j, F 376 j = F1 376 j) (e7 : ∀ j, F 377 j = F1 377 j) : wkc F 200 := by
  have h2 := hg h1
  refine ⟨?_, by omega, Or.inl ⟨rfl, ?_, ?_, ?_, ?_⟩⟩
  · unfold rs
    simp only [e5, e6, e7, c, c1]
    exact hr
  · rw [e6, e5, e5]
    exact h2.2.1
  · rw [e6]
    exact h2.1.1
  · rw [e6, c]
    exact h2.1.2
  · rw [e7, c1]
    exact h2.2.2
theorem gn_d {F : fl_N} (hr : rs F (F 344 49)) (hg : gn F) (h1 : F 344 66 = 1) (h2 : F 344 49 ≤ 200) : F 375 200 ≤ 200 := by
  have h3 := hg h1
  have h4 := rs_d hr (F 376 200).toNat (by omega)
  omega
theorem dv_37 {v u : Int} (hu : 1 ≤ u) (hv : 0 ≤ v) (h : 37 ≤ v / u) : 37 * u ≤ v := (Int.le_ediv_iff_mul_le (by omega)).mp h

/-- what ground() answers: class, reference -/
def gV (F : fl_N) (k w v : Int) : Prop := (w = 0 ∧ v = F (126 + 5 * k.toNat) 0) ∨ (w = 4 ∧ v = F (126 + 5 * k.toNat) 2) ∨ ((1 ≤ w ∧ w ≤ 3) ∧ v = F (126 + 5 * k.toNat + 1) (w - 1).toNat)
def rV (F : fl_N) (k w v : Int) : Prop := (w = 0 ∧ v = F 367 k.toNat) ∨ (w = 4 ∧ v = F 357 (F 367 k.toNat).toNat) ∨ ((1 ≤ w ∧ w ≤ 3) ∧ v = F 368 (3 * k + w - 1).toNat)

/- CheapPlannerModel.plan -/
abbrev pq_66 (G : Nat → Nat → Option Nat) (F : fl_N) (X : xi_H) (mo : Int) : Outcome → xi_H → Prop := gqi (fun z A => ∃ F' : fl_N, fl_H sh_T G F' ++ X = A ∧ gi F' ∧ fs [(344, 344, 0, 0), (344, 344, 13, 13), (344, 344, 49, 49), (344, 344, 58, 58), (344, 344, 66, 66), (373, 381, 0, 100000)] F F' ∧ (-2147483648 ≤ z ∧ z ≤ 2147483647) ∧ (pli F')) gqn
theorem mc_66 {G : Nat → Nat → Option Nat} (hG : gg G) (F : fl_N) (X : xi_H) (hgi : gi F) (mo : Int) (hmo : -2147483648 ≤ mo ∧ mo ≤ 2147483647) (hpl : pli F) (hpb : F 344 12 = 1 → sob F) : fl_M xi_ms 66 3 78 [.ref 344, .int (Int32.ofInt mo)] (fl_H sh_T G F ++ X) (pq_66 G F X mo) := by
  intro fr lo hfr hlo
  show fl_R xi_ms 66 fr lo 0 [(0, .ref 344), (1, .int (Int32.ofInt mo))] [] _ _
  refine ga_aload_n (v := .ref 344) hm_66 rfl rfl rfl ?_
  refine ga_aload_n (v := .ref 344) hm_66 rfl rfl rfl ?_
  have b1_ : 0 ≤ F 344 12 ∧ F 344 12 ≤ 1 := gi_g hgi rfl
  refine ga_geti (z := F 344 12) hm_66 rfl sc_344 rfl (rfl) ?_
  refine fx_if_ne (a := F 344 12) hm_66 rfl ⟨by omega, by omega⟩ (fun h2_ => ?_) (fun h3_ => ?_)
  ·
    refine ga_iload_n (z := mo) hm_66 rfl rfl ?_
    refine fl_iconst hm_66 rfl ?_
    refine fl_icmp_lt (a := mo) (b := 1) hm_66 rfl ⟨by omega, by omega⟩ ⟨by omega, by omega⟩ (fun h4_ => ?_) (fun h5_ => ?_)
    ·
      refine fl_iconst hm_66 rfl ?_
      refine fl_goto hm_66 rfl ?_
      refine ga_puti (z := 2) hm_66 rfl sc_344 rfl rfl ?_
      refine ga_aload_n (v := .ref 344) hm_66 rfl rfl rfl ?_
      refine ga_geti (z := 2) hm_66 rfl sc_344 rfl (fl_u_eq) ?_
      refine fl_if_le hm_66 rfl ⟨by omega, by omega⟩ (fun h => absurd h (by omega)) (fun _ => ?_)
      refine fl_iconst hm_66 rfl ?_
      obtain ⟨F6_, q7_⟩ : ∃ Fq_, Fq_ = (fl_u F 344 0 2) := ⟨_, rfl⟩
      rw [← q7_]
      have g8_ : gi F6_ := by rw [q7_]; exact gi_u (hgi) rfl (by omega) (by omega)
      have g9_ : fs [(344, 344, 0, 0), (344, 344, 13, 13), (344, 344, 49, 49), (344, 344, 58, 58), (344, 344, 66, 66), (373, 381, 0, 100000)] F F6_ := by rw [q7_]; exact fs_u (fs_refl) rfl
      refine gr_i (z := 0) hm_66 rfl rfl rfl ?_
      have e10_ : F6_ 344 13 = F 344 13 := by rw [q7_]; exact fl_u_ne (by first | exact nc_ rfl | decide | omega)
      have e11_ : F6_ 344 58 = F 344 58 := by rw [q7_]; exact fl_u_ne (by first | exact nc_ rfl | decide | omega)
      exact ⟨F6_, rfl, g8_, g9_, (⟨by omega, by omega⟩), (pli_cg hpl (show F6_ 344 13 = F 344 13 from (by rw [q7_]; exact (fl_u_ne (by first | exact nc_ rfl | decide | omega)))) (show F6_ 344 58 = F 344 58 from (by rw [q7_]; exact (fl_u_ne (by first | exact nc_ rfl | decide | omega)))) (fun j => (show F6_ 354 j = F 354 j from (by rw [q7_]; exact (fl_u_ne (by first | exact nc_ rfl | decide | omega))))) (fun j => (show F6_ 367 j = F 367 j from (by rw [q7_]; exact (fl_u_ne (by first | exact nc_ rfl | decide | omega))))) (fun j => (show F6_ 368 j = F 368 j from (by rw [q7_]; exact (fl_u_ne (by first | exact nc_ rfl | decide | omega))))) (fun j => (show F6_ 381 j = F 381 j from (by rw [q7_]; exact (fl_u_ne (by first | exact nc_ rfl | decide | omega))))))⟩
    refine ga_iload_n (z := mo) hm_66 rfl rfl ?_
    refine fl_sipush hm_66 rfl rfl ?_
    refine fl_icmp_le (a := mo) (b := 200) hm_66 rfl ⟨by omega, by omega⟩ ⟨by omega, by omega⟩ (fun h12_ => ?_) (fun h13_ => ?_)
    ·
      refine fl_iconst hm_66 rfl ?_
      refine ga_puti (z := 0) hm_66 rfl sc_344 rfl rfl ?_
      refine ga_aload_n (v := .ref 344) hm_66 rfl rfl rfl ?_
      refine ga_geti (z := 0) hm_66 rfl sc_344 rfl (fl_u_eq) ?_
      refine fl_if_le hm_66 rfl ⟨by omega, by omega⟩ (fun _ => ?_) (fun h => absurd (by omega) h)
      refine ga_aload_n (v := .ref 344) hm_66 rfl rfl rfl ?_
      refine fl_iconst hm_66 rfl ?_
      refine ga_putz (z := 0) hm_66 rfl sc_344 rfl rfl (by omega) ?_
      refine ga_aload_n (v := .ref 344) hm_66 rfl rfl rfl ?_
      refine fl_iconst hm_66 rfl ?_
      refine ga_puti (z := 0) hm_66 rfl sc_344 rfl rfl ?_
      refine ga_aload_n (v := .ref 344) hm_66 rfl rfl rfl ?_
      refine ga_aload_n (v := .ref 344) hm_66 rfl rfl rfl ?_
      have b14_ : -9223372036854775808 ≤ F 344 38 ∧ F 344 38 ≤ 9223372036854775807 := gi_g hgi rfl
      refine ga_getl (z := F 344 38) hm_66 rfl sc_344 rfl ((fl_u_ne (by first | exact nc_ rfl | decide | omega)).trans ((fl_u_ne (by first | exact nc_ rfl | decide | omega)).trans (fl_u_ne (by first | exact nc_ rfl | decide | omega)))) ?_
      obtain ⟨F15_, q16_⟩ : ∃ Fq_, Fq_ = (fl_u (fl_u (fl_u F 344 0 0) 344 13 0) 344 58 0) := ⟨_, rfl⟩
      rw [← q16_]
      have g17_ : gi F15_ := by rw [q16_]; exact gi_u (gi_u (gi_u (hgi) rfl (by omega) (by omega)) rfl (by omega) (by omega)) rfl (by omega) (by omega)
      have g18_ : fs [(344, 344, 0, 0), (344, 344, 13, 13), (344, 344, 49, 49), (344, 344, 58, 58), (344, 344, 66, 66), (373, 381, 0, 100000)] F F15_ := by rw [q16_]; exact fs_u (fs_u (fs_u (fs_refl) rfl) rfl) rfl
      refine gVi (nY := 3) (F := 0) (L := 0) (As := [.long (Int64.ofInt (F 344 38))]) (b := 344) (rest := []) hm_66 rfl hm_168 rfl rfl (fl_ob sc_344) rfl rfl rfl rfl rfl (by omega) (by omega) (mc_168 hG F15_ X g17_ (F 344 38) (⟨by omega, by omega⟩)) (fun _ _ h => False.elim h) ?_
      rintro z19_ A1_ ⟨hA_, c20_, c21_⟩
      subst hA_
      refine fl_if_eq (a := z19_) hm_66 rfl ⟨by omega, by omega⟩ (fun h22_ => ?_) (fun h23_ => ?_)
      ·
        refine fl_iconst hm_66 rfl ?_
        refine ga_istore_n (lv2 := [(2, .int (Int32.ofInt 0)), (0, .ref 344), (1, .int (Int32.ofInt mo))]) hm_66 rfl (Nat.le_of_ble_eq_true rfl) rfl ?_
        have L25_ : ∀ (n24_ : Nat) (k : Int) (F1 : fl_N), (512 - k : Int).toNat = n24_ → (gi F1) → (fs [(378, 378, 0, 100000)] F15_ F1) → (0 ≤ k ∧ k ≤ 512) → (∀ j : Nat, (j : Int) < k → F1 378 j = 0) → fl_R xi_ms 66 fr lo 71 [(2, .int (Int32.ofInt k)), (0, .ref 344), (1, .int (Int32.ofInt mo))] [] (fl_H sh_T G F1 ++ X) (pq_66 G F X mo) := by
          intro n24_
          induction n24_ using Nat.strongRecOn with
          | ind n24_ ih26_ =>
          intro k F1 hn27_ hg_F1 hf_F1 hk hz1
          have g28_ : fs [(344, 344, 0, 0), (344, 344, 13, 13), (344, 344, 49, 49), (344, 344, 58, 58), (344, 344, 66, 66), (373, 381, 0, 100000)] F F1 := fs_tr g18_ hf_F1 rfl
          refine ga_iload_n (z := k) hm_66 rfl rfl ?_
          refine fl_sipush hm_66 rfl rfl ?_
          refine fl_icmp_ge (a := k) (b := 512) hm_66 rfl ⟨by omega, by omega⟩ ⟨by omega, by omega⟩ (fun h29_ => ?_) (fun h30_ => ?_)
          ·
            refine ga_aload_n (v := .ref 344) hm_66 rfl rfl rfl ?_
            refine fl_iconst hm_66 rfl ?_
            refine ga_puti (z := 1) hm_66 rfl sc_344 rfl rfl ?_
            refine ga_aload_n (v := .ref 344) hm_66 rfl rfl rfl ?_
            refine ga_getr (b := 373) hm_66 rfl sc_344 rfl ?_
            refine fl_iconst hm_66 rfl ?_
            refine ga_aload_n (v := .ref 344) hm_66 rfl rfl rfl ?_
            have e31_ : F15_ 344 38 = F 344 38 := by rw [q16_]; exact (fl_u_ne (by first | exact nc_ rfl | decide | omega)).trans ((fl_u_ne (by first | exact nc_ rfl | decide | omega)).trans (fl_u_ne (by first | exact nc_ rfl | decide | omega)))
            have e32_ : F1 344 38 = F 344 38 := (hf_F1 344 38 rfl).trans (e31_)
            refine ga_getl (z := F 344 38) hm_66 rfl sc_344 rfl ((fl_u_ne (by first | exact nc_ rfl | decide | omega)).trans (e32_)) ?_
            refine fl_last (z := 0) (v := F 344 38) hm_66 rfl sc_373 (by omega) (by omega) (by omega) ?_
            refine ga_aload_n (v := .ref 344) hm_66 rfl rfl rfl ?_
            refine ga_getr (b := 374) hm_66 rfl sc_344 rfl ?_
            refine fl_iconst hm_66 rfl ?_
            refine fl_iconst hm_66 rfl ?_
            refine fl_iast (z := 0) (v := 0) hm_66 rfl sc_374 (by omega) (by omega) (by omega) ?_
            refine ga_aload_n (v := .ref 344) hm_66 rfl rfl rfl ?_
            refine ga_getr (b := 375) hm_66 rfl sc_344 rfl ?_
            refine fl_iconst hm_66 rfl ?_
            refine fl_iconst hm_66 rfl ?_
            refine fl_iast (z := 0) (v := 0) hm_66 rfl sc_375 (by omega) (by omega) (by omega) ?_
            refine ga_aload_n (v := .ref 344) hm_66 rfl rfl rfl ?_
            refine ga_getr (b := 378) hm_66 rfl sc_344 rfl ?_
            refine ga_aload_n (v := .ref 344) hm_66 rfl rfl rfl ?_
            refine ga_aload_n (v := .ref 344) hm_66 rfl rfl rfl ?_
            refine ga_getl (z := F 344 38) hm_66 rfl sc_344 rfl ((fl_u_ne (by first | exact nc_ rfl | decide | omega)).trans ((fl_u_ne (by first | exact nc_ rfl | decide | omega)).trans ((fl_u_ne (by first | exact nc_ rfl | decide | omega)).trans ((fl_u_ne (by first | exact nc_ rfl | decide | omega)).trans (e32_))))) ?_
            obtain ⟨F33_, q34_⟩ : ∃ Fq_, Fq_ = (fl_u (fl_u (fl_u (fl_u F1 344 49 1) 373 (0 : Int).toNat (F 344 38)) 374 (0 : Int).toNat 0) 375 (0 : Int).toNat 0) := ⟨_, rfl⟩
            rw [← q34_]
            have g35_ : gi F33_ := by rw [q34_]; exact gi_u (gi_u (gi_u (gi_u (hg_F1) rfl (by omega) (by omega)) rfl (by omega) (by omega)) rfl (by omega) (by omega)) rfl (by omega) (by omega)
            have g36_ : fs [(344, 344, 0, 0), (344, 344, 13, 13), (344, 344, 49, 49), (344, 344, 58, 58), (344, 344, 66, 66), (373, 381, 0, 100000)] F F33_ := by rw [q34_]; exact fs_u (fs_u (fs_u (fs_u (g28_) rfl) rfl) rfl) rfl
            refine gVi (nY := 6) (F := 0) (L := 0) (As := [.long (Int64.ofInt (F 344 38))]) (b := 344) (rest := [.ref 378]) hm_66 rfl hm_189 rfl rfl (fl_ob sc_344) rfl rfl rfl rfl rfl (by omega) (by omega) (mc_189 hG F33_ X g35_ (F 344 38) (⟨by omega, by omega⟩) (⟨0, by omega, by omega, by rw [show F33_ 378 (0 : Int).toNat = F1 378 0 from (show F33_ 378 0 = F1 378 0 from (by rw [q34_]; exact (fl_u_ne (by first | exact nc_ rfl | decide | omega)).trans ((fl_u_ne (by first | exact nc_ rfl | decide | omega)).trans ((fl_u_ne (by first | exact nc_ rfl | decide | omega)).trans ((fl_u_ne (by first | exact nc_ rfl | decide | omega)))))))]; exact hz1 0 (by omega)⟩)) (fun _ _ h => False.elim h) ?_
            rintro z37_ A1_ ⟨hA_, c38_, c39_⟩
            subst hA_
            refine fl_iconst hm_66 rfl ?_
            refine fl_iast (z := z37_) (v := 1) hm_66 rfl sc_378 (by omega) (by omega) (by omega) ?_
            obtain ⟨F40_, q41_⟩ : ∃ Fq_, Fq_ = (fl_u F33_ 378 z37_.toNat 1) := ⟨_, rfl⟩
            rw [← q41_]
            have g42_ : gi F40_ := by rw [q41_]; exact gi_u (g35_) rfl (by omega) (by omega)
            have g43_ : fs [(344, 344, 0, 0), (344, 344, 13, 13), (344, 344, 49, 49), (344, 344, 58, 58), (344, 344, 66, 66), (373, 381, 0, 100000)] F F40_ := by rw [q41_]; exact fs_u (g36_) (fs_z (fs_z (fs_z (fs_z (fs_z (fs_y (by omega)))))))
            have L45_ : ∀ (n44_ : Nat)  (F2 : fl_N), (201 - F2 344 49 : Int).toNat = n44_ → (gi F2) → (fs [(344, 344, 49, 49), (344, 344, 66, 66), (373, 380, 0, 100000)] F40_ F2) → (gs F2 (F2 344 49)) → (F2 344 49 ≤ mo) → fl_R xi_ms 66 fr lo 134 [(0, .ref 344), (1, .int (Int32.ofInt mo))] [] (fl_H sh_T G F2 ++ X) (pq_66 G F X mo) := by
              intro n44_
              induction n44_ using Nat.strongRecOn with
              | ind n44_ ih46_ =>
              intro F2 hn47_ hg_F2 hf_F2 hg2 hsm2
              have g48_ : fs [(344, 344, 0, 0), (344, 344, 13, 13), (344, 344, 49, 49), (344, 344, 58, 58), (344, 344, 66, 66), (373, 381, 0, 100000)] F F2 := fs_tr g43_ hf_F2 rfl
              have hb49 : 0 ≤ F2 344 49 ∧ F2 344 49 ≤ 200 := gi_g hg_F2 rfl
              refine ga_aload_n (v := .ref 344) hm_66 rfl rfl rfl ?_
              refine gVi (nY := 5) (F := 1) (L := 25) (As := []) (b := 344) (rest := []) hm_66 rfl hm_172 rfl rfl (fl_ob sc_344) rfl rfl rfl rfl rfl (by omega) (by omega) (mc_172 hG F2 X hg_F2 (hg2)) (fun _ _ h => False.elim h) ?_
              rintro z49_ A1_ ⟨hA_, c50_, c51_⟩
              subst hA_
              have hnw_ := fun h9_ => Or.resolve_left c50_ h9_
              refine ga_istore_n (lv2 := [(2, .int (Int32.ofInt z49_)), (0, .ref 344), (1, .int (Int32.ofInt mo))]) hm_66 rfl (Nat.le_of_ble_eq_true rfl) rfl ?_
              refine ga_iload_n (z := z49_) hm_66 rfl rfl ?_
              refine fl_iconst hm_66 rfl ?_
              refine fx_icmp_ne (a := z49_) (b := -1) hm_66 rfl ⟨by omega, by omega⟩ ⟨by omega, by omega⟩ (fun h52_ => ?_) (fun h53_ => ?_)
              ·
                refine ga_aload_n (v := .ref 344) hm_66 rfl rfl rfl ?_
                refine ga_iload_n (z := z49_) hm_66 rfl rfl ?_
                refine gVv (nY := 4) (F := 2) (L := 49) (As := [.int (Int32.ofInt z49_)]) (b := 344) (rest := []) hm_66 rfl hm_163 rfl rfl (fl_ob sc_344) rfl rfl rfl rfl rfl (by omega) (by omega) (mc_163 hG F2 X hg_F2 (z49_) (⟨by omega, by omega⟩) (hg2.1) (hg2.2.2.2)) (fun _ _ h => False.elim h) ?_
                rintro A1_ ⟨F58_, hA_, g59_, s60_, c55_, c56_, c57_⟩
                subst hA_
                have g61_ : fs [(344, 344, 0, 0), (344, 344, 13, 13), (344, 344, 49, 49), (344, 344, 58, 58), (344, 344, 66, 66), (373, 381, 0, 100000)] F F58_ := fs_tr g48_ s60_ rfl
                refine ga_aload_n (v := .ref 344) hm_66 rfl rfl rfl ?_
                have b62_ : 0 ≤ F58_ 344 66 ∧ F58_ 344 66 ≤ 1 := gi_g g59_ rfl
                refine ga_geti (z := F58_ 344 66) hm_66 rfl sc_344 rfl (rfl) ?_
                refine fl_if_eq (a := F58_ 344 66) hm_66 rfl ⟨by omega, by omega⟩ (fun h63_ => ?_) (fun h64_ => ?_)
                ·
                  refine ga_aload_n (v := .ref 344) hm_66 rfl rfl rfl ?_
                  refine ga_iload_n (z := z49_) hm_66 rfl rfl ?_
                  refine ga_iload_n (z := mo) hm_66 rfl rfl ?_
                  have e65_ : F58_ 344 49 = F2 344 49 := (s60_ 344 49 rfl).trans (rfl)
                  have b66_ : 0 ≤ F2 344 49 ∧ F2 344 49 ≤ 200 := gi_g hg_F2 rfl
                  refine gVi (nY := 10) (F := 2) (L := 49) (As := [.int (Int32.ofInt z49_), .int (Int32.ofInt mo)]) (b := 344) (rest := []) hm_66 rfl hm_166 rfl rfl (fl_ob sc_344) rfl rfl rfl rfl rfl (by omega) (by omega) (mc_166 hG F58_ X g59_ (z49_) (mo) (⟨by omega, by omega⟩) (⟨by omega, by omega⟩) (by omega) (gs_fg (F := F2) hg2 c55_ ((show F58_ 344 49 = F2 344 49 from (s60_ 344 49 (by first | exact fs_c rfl | exact (fs_n (by omega) (fs_n (by omega) (fs_n (by omega) rfl))))))) (fun j => (show F58_ 378 j = F2 378 j from (s60_ 378 j (by first | exact fs_c rfl | exact (fs_n (by omega) (fs_n (by omega) (fs_n (by omega) rfl)))))))) (nxw_cg (F := F2) (hnw_ (by omega)) (show F58_ 344 49 = F2 344 49 from (s60_ 344 49 (by first | exact fs_c rfl | exact (fs_n (by omega) (fs_n (by omega) (fs_n (by omega) rfl)))))) (show F58_ 344 39 = F2 344 39 from (s60_ 344 39 (by first | exact fs_c rfl | exact (fs_n (by omega) (fs_n (by omega) (fs_n (by omega) rfl)))))) (by omega) c57_ (fun j => (show F58_ 357 j = F2 357 j from (s60_ 357 j (by first | exact fs_c rfl | exact (fs_n (by omega) (fs_n (by omega) (fs_n (by omega) rfl))))))) (fun j => (show F58_ 367 j = F2 367 j from (s60_ 367 j (by first | exact fs_c rfl | exact (fs_n (by omega) (fs_n (by omega) (fs_n (by omega) rfl))))))) (fun j => (show F58_ 369 j = F2 369 j from (s60_ 369 j (by first | exact fs_c rfl | exact (fs_n (by omega) (fs_n (by omega) (fs_n (by omega) rfl))))))) (fun j => (show F58_ 370 j = F2 370 j from (s60_ 370 j (by first | exact fs_c rfl | exact (fs_n (by omega) (fs_n (by omega) (fs_n (by omega) rfl))))))) (fun j => (show F58_ 371 j = F2 371 j from (s60_ 371 j (by first | exact fs_c rfl | exact (fs_n (by omega) (fs_n (by omega) (fs_n (by omega) rfl))))))) (fun j => (show F58_ 372 j = F2 372 j from (s60_ 372 j (by first | exact fs_c rfl | exact (fs_n (by omega) (fs_n (by omega) (fs_n (by omega) rfl))))))) (fun j => (show F58_ 373 j = F2 373 j from (s60_ 373 j (by first | exact fs_c rfl | exact (fs_n (by omega) (fs_n (by omega) (fs_n (by omega) rfl))))))) (fun j => (show F58_ 378 j = F2 378 j from (s60_ 378 j (by first | exact fs_c rfl | exact (fs_n (by omega) (fs_n (by omega) (fs_n (by omega) rfl))))))))) (fun _ _ h => False.elim h) ?_
                  rintro z67_ A1_ (⟨F68_, hA_, g69_, s70_, hz_⟩ | ⟨F74_, hA_, g75_, s76_, hz_, c71_, c72_, c73_⟩)
                  ·
                    subst hA_
                    subst hz_
                    have g77_ : fs [(344, 344, 0, 0), (344, 344, 13, 13), (344, 344, 49, 49), (344, 344, 58, 58), (344, 344, 66, 66), (373, 381, 0, 100000)] F F68_ := fs_tr g61_ s70_ rfl
                    refine fl_if_ne hm_66 rfl ⟨by omega, by omega⟩ (fun h => absurd h (by omega)) (fun _ => ?_)
                    refine ga_aload_n (v := .ref 344) hm_66 rfl rfl rfl ?_
                    refine fl_iconst hm_66 rfl ?_
                    refine ga_puti (z := 3) hm_66 rfl sc_344 rfl rfl ?_
                    refine fl_iconst hm_66 rfl ?_
                    obtain ⟨F78_, q79_⟩ : ∃ Fq_, Fq_ = (fl_u F68_ 344 0 3) := ⟨_, rfl⟩
                    rw [← q79_]
                    have g80_ : gi F78_ := by rw [q79_]; exact gi_u (g69_) rfl (by omega) (by omega)
                    have g81_ : fs [(344, 344, 0, 0), (344, 344, 13, 13), (344, 344, 49, 49), (344, 344, 58, 58), (344, 344, 66, 66), (373, 381, 0, 100000)] F F78_ := by rw [q79_]; exact fs_u (g77_) rfl
                    refine gr_i (z := 0) hm_66 rfl rfl rfl ?_
                    have e82_ : F15_ 344 13 = 0 := by rw [q16_]; exact (fl_u_ne (by first | exact nc_ rfl | decide | omega)).trans (fl_u_eq)
                    have e83_ : F1 344 13 = 0 := (hf_F1 344 13 rfl).trans (e82_)
                    have e84_ : F33_ 344 13 = 0 := by rw [q34_]; exact (fl_u_ne (by first | exact nc_ rfl | decide | omega)).trans ((fl_u_ne (by first | exact nc_ rfl | decide | omega)).trans ((fl_u_ne (by first | exact nc_ rfl | decide | omega)).trans ((fl_u_ne (by first | exact nc_ rfl | decide | omega)).trans (e83_))))
                    have e85_ : F40_ 344 13 = 0 := by rw [q41_]; exact (fl_u_ne (by first | exact nc_ rfl | decide | omega)).trans (e84_)
                    have e86_ : F2 344 13 = 0 := (hf_F2 344 13 rfl).trans (e85_)
                    have e87_ : F58_ 344 13 = 0 := (s60_ 344 13 rfl).trans (e86_)
                    have e88_ : F68_ 344 13 = 0 := (s70_ 344 13 rfl).trans (e87_)
                    have e89_ : F78_ 344 13 = 0 := by rw [q79_]; exact (fl_u_ne (by first | exact nc_ rfl | decide | omega)).trans (e88_)
                    have e90_ : F15_ 344 58 = 0 := by rw [q16_]; exact fl_u_eq
                    have e91_ : F1 344 58 = 0 := (hf_F1 344 58 rfl).trans (e90_)
                    have e92_ : F33_ 344 58 = 0 := by rw [q34_]; exact (fl_u_ne (by first | exact nc_ rfl | decide | omega)).trans ((fl_u_ne (by first | exact nc_ rfl | decide | omega)).trans ((fl_u_ne (by first | exact nc_ rfl | decide | omega)).trans ((fl_u_ne (by first | exact nc_ rfl | decide | omega)).trans (e91_))))
                    have e93_ : F40_ 344 58 = 0 := by rw [q41_]; exact (fl_u_ne (by first | exact nc_ rfl | decide | omega)).trans (e92_)
                    have e94_ : F2 344 58 = 0 := (hf_F2 344 58 rfl).trans (e93_)
                    have e95_ : F58_ 344 58 = 0 := (s60_ 344 58 rfl).trans (e94_)
                    have e96_ : F68_ 344 58 = 0 := (s70_ 344 58 rfl).trans (e95_)
                    have e97_ : F78_ 344 58 = 0 := by rw [q79_]; exact (fl_u_ne (by first | exact nc_ rfl | decide | omega)).trans (e96_)
                    exact ⟨F78_, rfl, g80_, g81_, (⟨by omega, by omega⟩), (pli_0 (by omega))⟩
                  subst hA_
                  subst hz_
                  have g98_ : fs [(344, 344, 0, 0), (344, 344, 13, 13), (344, 344, 49, 49), (344, 344, 58, 58), (344, 344, 66, 66), (373, 381, 0, 100000)] F F74_ := fs_tr g61_ s76_ rfl
                  try simp only [e65_] at c72_
                  refine fl_if_ne hm_66 rfl ⟨by omega, by omega⟩ (fun _ => ?_) (fun h => absurd (by omega) h)
                  refine fl_goto hm_66 rfl ?_
                  have b99_ : 0 ≤ F74_ 344 49 ∧ F74_ 344 49 ≤ 200 := gi_g g75_ rfl
                  exact fl_R_sub (lv' := [(0, .ref 344), (1, .int (Int32.ofInt mo))]) rfl rfl (ih46_ _ (by omega) F74_ rfl g75_ (fs_tr (fs_tr hf_F2 s60_ rfl) s76_ rfl) (c71_) (by omega))
                refine ga_aload_n (v := .ref 344) hm_66 rfl rfl rfl ?_
                refine fl_iconst hm_66 rfl ?_
                refine ga_putz (z := 1) hm_66 rfl sc_344 rfl rfl (by omega) ?_
                refine ga_aload_n (v := .ref 344) hm_66 rfl rfl rfl ?_
                refine ga_aload_n (v := .ref 344) hm_66 rfl rfl rfl ?_
                refine ga_getr (b := 375) hm_66 rfl sc_344 rfl ?_
                have e100_ : F58_ 344 49 = F2 344 49 := (s60_ 344 49 rfl).trans (rfl)
                have hd200 := gn_d c55_ c56_ (by omega) (by omega)
                refine fl_sipush hm_66 rfl rfl ?_
                have b101_ : 0 ≤ F58_ 375 200 ∧ F58_ 375 200 ≤ 201 := gi_g g59_ rfl
                refine ga_iald (z := 200) (w := F58_ 375 200) hm_66 rfl sc_375 (by omega) (by omega) (by omega) (fl_u_ne (by first | exact nc_ rfl | decide | omega)) ?_
                refine ga_puti (z := F58_ 375 200) hm_66 rfl sc_344 rfl rfl ?_
                refine ga_aload_n (v := .ref 344) hm_66 rfl rfl rfl ?_
                refine fl_sipush hm_66 rfl rfl ?_
                refine ga_aload_n (v := .ref 344) hm_66 rfl rfl rfl ?_
                refine ga_getr (b := 381) hm_66 rfl sc_344 rfl ?_
                obtain ⟨F102_, q103_⟩ : ∃ Fq_, Fq_ = (fl_u (fl_u F58_ 344 13 1) 344 58 (F58_ 375 200)) := ⟨_, rfl⟩
                rw [← q103_]
                have g104_ : gi F102_ := by rw [q103_]; exact gi_u (gi_u (g59_) rfl (by omega) (by omega)) rfl (by omega) (by omega)
                have g105_ : fs [(344, 344, 0, 0), (344, 344, 13, 13), (344, 344, 49, 49), (344, 344, 58, 58), (344, 344, 66, 66), (373, 381, 0, 100000)] F F102_ := by rw [q103_]; exact fs_u (fs_u (g61_) rfl) rfl
                refine gVv (nY := 5) (F := 0) (L := 0) (As := [.int (Int32.ofInt 200), .ref 381]) (b := 344) (rest := []) hm_66 rfl hm_194 rfl rfl (fl_ob sc_344) rfl rfl rfl rfl rfl (by omega) (by omega) (mc_194 hG F102_ X g104_ (381) (201) (200) (0) (39) sc_381 (fun _ => rfl) (⟨by omega, by omega⟩) (by omega) (⟨by omega, by omega⟩) (⟨by omega, by omega⟩)) (fun _ _ h => False.elim h) ?_
                have e107_ : F15_ 344 39 = F 344 39 := by rw [q16_]; exact (fl_u_ne (by first | exact nc_ rfl | decide | omega)).trans ((fl_u_ne (by first | exact nc_ rfl | decide | omega)).trans (fl_u_ne (by first | exact nc_ rfl | decide | omega)))
                have e108_ : F1 344 39 = F 344 39 := (hf_F1 344 39 rfl).trans (e107_)
                have e109_ : F33_ 344 39 = F 344 39 := by rw [q34_]; exact (fl_u_ne (by first | exact nc_ rfl | decide | omega)).trans ((fl_u_ne (by first | exact nc_ rfl | decide | omega)).trans ((fl_u_ne (by first | exact nc_ rfl | decide | omega)).trans ((fl_u_ne (by first | exact nc_ rfl | decide | omega)).trans (e108_))))
                have e110_ : F40_ 344 39 = F 344 39 := by rw [q41_]; exact (fl_u_ne (by first | exact nc_ rfl | decide | omega)).trans (e109_)
                have e111_ : F2 344 39 = F 344 39 := (hf_F2 344 39 rfl).trans (e110_)
                have e112_ : F58_ 344 39 = F 344 39 := (s60_ 344 39 rfl).trans (e111_)
                have e113_ : F102_ 344 39 = F 344 39 := by rw [q103_]; exact (fl_u_ne (by first | exact nc_ rfl | decide | omega)).trans ((fl_u_ne (by first | exact nc_ rfl | decide | omega)).trans (e112_))
                have b114_ : 0 ≤ F 344 39 ∧ F 344 39 ≤ 40 := gi_g hgi rfl
                rintro A1_ ⟨F116_, hA_, g117_, s118_, c115_⟩
                subst hA_
                have g119_ : fs [(344, 344, 0, 0), (344, 344, 13, 13), (344, 344, 49, 49), (344, 344, 58, 58), (344, 344, 66, 66), (373, 381, 0, 100000)] F F116_ := fs_tr g105_ s118_ rfl
                try simp only [e113_] at c115_
                refine ga_iload_n (z := z49_) hm_66 rfl rfl ?_
                refine gr_i (z := z49_) hm_66 rfl rfl rfl ?_
                have e120_ : F102_ 344 13 = 1 := by rw [q103_]; exact (fl_u_ne (by first | exact nc_ rfl | decide | omega)).trans (fl_u_eq)
                have e121_ : F116_ 344 13 = 1 := (s118_ 344 13 rfl).trans (e120_)
                have e122_ : F102_ 344 58 = F58_ 375 200 := by rw [q103_]; exact fl_u_eq
                have e123_ : F116_ 344 58 = F58_ 375 200 := (s118_ 344 58 rfl).trans (e122_)
                have e124_ : F116_ 344 39 = F 344 39 := (s118_ 344 39 rfl).trans (e113_)
                have e125_ : F102_ 375 200 = F58_ 375 200 := by rw [q103_]; exact (fl_u_ne (by first | exact nc_ rfl | decide | omega)).trans (fl_u_ne (by first | exact nc_ rfl | decide | omega))
                have e126_ : F116_ 375 200 = F58_ 375 200 := (s118_ 375 200 rfl).trans (e125_)
                exact ⟨F116_, rfl, g117_, g119_, (⟨by omega, by omega⟩), (pli_w (sob_cg (hpb (by omega)) (Eq.trans (a := F116_ 344 39) (b := F102_ 344 39) (s118_ 344 39 (by first | exact fs_c rfl | exact (fs_n (by omega) rfl))) (Eq.trans (a := F102_ 344 39) (b := F58_ 344 39) (by rw [q103_]; exact (fl_u_ne (by first | exact nc_ rfl | decide | omega)).trans ((fl_u_ne (by first | exact nc_ rfl | decide | omega)))) (Eq.trans (a := F58_ 344 39) (b := F2 344 39) (s60_ 344 39 (by first | exact fs_c rfl | exact (fs_n (by omega) (fs_n (by omega) (fs_n (by omega) rfl))))) (Eq.trans (a := F2 344 39) (b := F40_ 344 39) (hf_F2 344 39 (by first | exact fs_c rfl | exact (fs_n (by omega) (fs_n (by omega) (fs_n (by omega) rfl))))) (Eq.trans (a := F40_ 344 39) (b := F33_ 344 39) (by rw [q41_]; exact (fl_u_ne (by first | exact nc_ rfl | decide | omega))) (Eq.trans (a := F33_ 344 39) (b := F1 344 39) (by rw [q34_]; exact (fl_u_ne (by first | exact nc_ rfl | decide | omega)).trans ((fl_u_ne (by first | exact nc_ rfl | decide | omega)).trans ((fl_u_ne (by first | exact nc_ rfl | decide | omega)).trans ((fl_u_ne (by first | exact nc_ rfl | decide | omega)))))) (Eq.trans (a := F1 344 39) (b := F15_ 344 39) (hf_F1 344 39 (by first | exact fs_c rfl | exact (fs_n (by omega) rfl))) (show F15_ 344 39 = F 344 39 from (by rw [q16_]; exact (fl_u_ne (by first | exact nc_ rfl | decide | omega)).trans ((fl_u_ne (by first | exact nc_ rfl | decide | omega)).trans ((fl_u_ne (by first | exact nc_ rfl | decide | omega))))))))))))) (fun j => (Eq.trans (a := F116_ 357 j) (b := F102_ 357 j) (s118_ 357 j (by first | exact fs_c rfl | exact (fs_n (by omega) rfl))) (Eq.trans (a := F102_ 357 j) (b := F58_ 357 j) (by rw [q103_]; exact (fl_u_ne (by first | exact nc_ rfl | decide | omega)).trans ((fl_u_ne (by first | exact nc_ rfl | decide | omega)))) (Eq.trans (a := F58_ 357 j) (b := F2 357 j) (s60_ 357 j (by first | exact fs_c rfl | exact (fs_n (by omega) (fs_n (by omega) (fs_n (by omega) rfl))))) (Eq.trans (a := F2 357 j) (b := F40_ 357 j) (hf_F2 357 j (by first | exact fs_c rfl | exact (fs_n (by omega) (fs_n (by omega) (fs_n (by omega) rfl))))) (Eq.trans (a := F40_ 357 j) (b := F33_ 357 j) (by rw [q41_]; exact (fl_u_ne (by first | exact nc_ rfl | decide | omega))) (Eq.trans (a := F33_ 357 j) (b := F1 357 j) (by rw [q34_]; exact (fl_u_ne (by first | exact nc_ rfl | decide | omega)).trans ((fl_u_ne (by first | exact nc_ rfl | decide | omega)).trans ((fl_u_ne (by first | exact nc_ rfl | decide | omega)).trans ((fl_u_ne (by first | exact nc_ rfl | decide | omega)))))) (Eq.trans (a := F1 357 j) (b := F15_ 357 j) (hf_F1 357 j (by first | exact fs_c rfl | exact (fs_n (by omega) rfl))) (show F15_ 357 j = F 357 j from (by rw [q16_]; exact (fl_u_ne (by first | exact nc_ rfl | decide | omega)).trans ((fl_u_ne (by first | exact nc_ rfl | decide | omega)).trans ((fl_u_ne (by first | exact nc_ rfl | decide | omega)))))))))))))) (fun j => (Eq.trans (a := F116_ 367 j) (b := F102_ 367 j) (s118_ 367 j (by first | exact fs_c rfl | exact (fs_n (by omega) rfl))) (Eq.trans (a := F102_ 367 j) (b := F58_ 367 j) (by rw [q103_]; exact (fl_u_ne (by first | exact nc_ rfl | decide | omega)).trans ((fl_u_ne (by first | exact nc_ rfl | decide | omega)))) (Eq.trans (a := F58_ 367 j) (b := F2 367 j) (s60_ 367 j (by first | exact fs_c rfl | exact (fs_n (by omega) (fs_n (by omega) (fs_n (by omega) rfl))))) (Eq.trans (a := F2 367 j) (b := F40_ 367 j) (hf_F2 367 j (by first | exact fs_c rfl | exact (fs_n (by omega) (fs_n (by omega) (fs_n (by omega) rfl))))) (Eq.trans (a := F40_ 367 j) (b := F33_ 367 j) (by rw [q41_]; exact (fl_u_ne (by first | exact nc_ rfl | decide | omega))) (Eq.trans (a := F33_ 367 j) (b := F1 367 j) (by rw [q34_]; exact (fl_u_ne (by first | exact nc_ rfl | decide | omega)).trans ((fl_u_ne (by first | exact nc_ rfl | decide | omega)).trans ((fl_u_ne (by first | exact nc_ rfl | decide | omega)).trans ((fl_u_ne (by first | exact nc_ rfl | decide | omega)))))) (Eq.trans (a := F1 367 j) (b := F15_ 367 j) (hf_F1 367 j (by first | exact fs_c rfl | exact (fs_n (by omega) rfl))) (show F15_ 367 j = F 367 j from (by rw [q16_]; exact (fl_u_ne (by first | exact nc_ rfl | decide | omega)).trans ((fl_u_ne (by first | exact nc_ rfl | decide | omega)).trans ((fl_u_ne (by first | exact nc_ rfl | decide | omega)))))))))))))) (fun j => (Eq.trans (a := F116_ 354 j) (b := F102_ 354 j) (s118_ 354 j (by first | exact fs_c rfl | exact (fs_n (by omega) rfl))) (Eq.trans (a := F102_ 354 j) (b := F58_ 354 j) (by rw [q103_]; exact (fl_u_ne (by first | exact nc_ rfl | decide | omega)).trans ((fl_u_ne (by first | exact nc_ rfl | decide | omega)))) (Eq.trans (a := F58_ 354 j) (b := F2 354 j) (s60_ 354 j (by first | exact fs_c rfl | exact (fs_n (by omega) (fs_n (by omega) (fs_n (by omega) rfl))))) (Eq.trans (a := F2 354 j) (b := F40_ 354 j) (hf_F2 354 j (by first | exact fs_c rfl | exact (fs_n (by omega) (fs_n (by omega) (fs_n (by omega) rfl))))) (Eq.trans (a := F40_ 354 j) (b := F33_ 354 j) (by rw [q41_]; exact (fl_u_ne (by first | exact nc_ rfl | decide | omega))) (Eq.trans (a := F33_ 354 j) (b := F1 354 j) (by rw [q34_]; exact (fl_u_ne (by first | exact nc_ rfl | decide | omega)).trans ((fl_u_ne (by first | exact nc_ rfl | decide | omega)).trans ((fl_u_ne (by first | exact nc_ rfl | decide | omega)).trans ((fl_u_ne (by first | exact nc_ rfl | decide | omega)))))) (Eq.trans (a := F1 354 j) (b := F15_ 354 j) (hf_F1 354 j (by first | exact fs_c rfl | exact (fs_n (by omega) rfl))) (show F15_ 354 j = F 354 j from (by rw [q16_]; exact (fl_u_ne (by first | exact nc_ rfl | decide | omega)).trans ((fl_u_ne (by first | exact nc_ rfl | decide | omega)).trans ((fl_u_ne (by first | exact nc_ rfl | decide | omega)))))))))))))) (fun j => (Eq.trans (a := F116_ 368 j) (b := F102_ 368 j) (s118_ 368 j (by first | exact fs_c rfl | exact (fs_n (by omega) rfl))) (Eq.trans (a := F102_ 368 j) (b := F58_ 368 j) (by rw [q103_]; exact (fl_u_ne (by first | exact nc_ rfl | decide | omega)).trans ((fl_u_ne (by first | exact nc_ rfl | decide | omega)))) (Eq.trans (a := F58_ 368 j) (b := F2 368 j) (s60_ 368 j (by first | exact fs_c rfl | exact (fs_n (by omega) (fs_n (by omega) (fs_n (by omega) rfl))))) (Eq.trans (a := F2 368 j) (b := F40_ 368 j) (hf_F2 368 j (by first | exact fs_c rfl | exact (fs_n (by omega) (fs_n (by omega) (fs_n (by omega) rfl))))) (Eq.trans (a := F40_ 368 j) (b := F33_ 368 j) (by rw [q41_]; exact (fl_u_ne (by first | exact nc_ rfl | decide | omega))) (Eq.trans (a := F33_ 368 j) (b := F1 368 j) (by rw [q34_]; exact (fl_u_ne (by first | exact nc_ rfl | decide | omega)).trans ((fl_u_ne (by first | exact nc_ rfl | decide | omega)).trans ((fl_u_ne (by first | exact nc_ rfl | decide | omega)).trans ((fl_u_ne (by first | exact nc_ rfl | decide | omega)))))) (Eq.trans (a := F1 368 j) (b := F15_ 368 j) (hf_F1 368 j (by first | exact fs_c rfl | exact (fs_n (by omega) rfl))) (show F15_ 368 j = F 368 j from (by rw [q16_]; exact (fl_u_ne (by first | exact nc_ rfl | decide | omega)).trans ((fl_u_ne (by first | exact nc_ rfl | decide | omega)).trans ((fl_u_ne (by first | exact nc_ rfl | decide | omega))))))))))))))) g117_ (fun j hj => by have h9_ := c115_ (wkc_g (F1 := F58_) c55_ c56_ (by omega) (show F102_ 344 49 = F58_ 344 49 from (by rw [q103_]; exact (fl_u_ne (by first | exact nc_ rfl | decide | omega)).trans ((fl_u_ne (by first | exact nc_ rfl | decide | omega))))) (show F102_ 344 39 = F58_ 344 39 from (by rw [q103_]; exact (fl_u_ne (by first | exact nc_ rfl | decide | omega)).trans ((fl_u_ne (by first | exact nc_ rfl | decide | omega))))) (fun j => (show F102_ 375 j = F58_ 375 j from (by rw [q103_]; exact (fl_u_ne (by first | exact nc_ rfl | decide | omega)).trans ((fl_u_ne (by first | exact nc_ rfl | decide | omega)))))) (fun j => (show F102_ 376 j = F58_ 376 j from (by rw [q103_]; exact (fl_u_ne (by first | exact nc_ rfl | decide | omega)).trans ((fl_u_ne (by first | exact nc_ rfl | decide | omega)))))) (fun j => (show F102_ 377 j = F58_ 377 j from (by rw [q103_]; exact (fl_u_ne (by first | exact nc_ rfl | decide | omega)).trans ((fl_u_ne (by first | exact nc_ rfl | decide | omega))))))) j (by rw [show (200 : Int).toNat = 200 from rfl]; omega); omega))⟩
              refine fl_iconst hm_66 rfl ?_
              refine gr_i (z := -1) hm_66 rfl rfl rfl ?_
              have e127_ : F15_ 344 13 = 0 := by rw [q16_]; exact (fl_u_ne (by first | exact nc_ rfl | decide | omega)).trans (fl_u_eq)
              have e128_ : F1 344 13 = 0 := (hf_F1 344 13 rfl).trans (e127_)
              have e129_ : F33_ 344 13 = 0 := by rw [q34_]; exact (fl_u_ne (by first | exact nc_ rfl | decide | omega)).trans ((fl_u_ne (by first | exact nc_ rfl | decide | omega)).trans ((fl_u_ne (by first | exact nc_ rfl | decide | omega)).trans ((fl_u_ne (by first | exact nc_ rfl | decide | omega)).trans (e128_))))
              have e130_ : F40_ 344 13 = 0 := by rw [q41_]; exact (fl_u_ne (by first | exact nc_ rfl | decide | omega)).trans (e129_)
              have e131_ : F2 344 13 = 0 := (hf_F2 344 13 rfl).trans (e130_)
              have e132_ : F15_ 344 58 = 0 := by rw [q16_]; exact fl_u_eq
              have e133_ : F1 344 58 = 0 := (hf_F1 344 58 rfl).trans (e132_)
              have e134_ : F33_ 344 58 = 0 := by rw [q34_]; exact (fl_u_ne (by first | exact nc_ rfl | decide | omega)).trans ((fl_u_ne (by first | exact nc_ rfl | decide | omega)).trans ((fl_u_ne (by first | exact nc_ rfl | decide | omega)).trans ((fl_u_ne (by first | exact nc_ rfl | decide | omega)).trans (e133_))))
              have e135_ : F40_ 344 58 = 0 := by rw [q41_]; exact (fl_u_ne (by first | exact nc_ rfl | decide | omega)).trans (e134_)
              have e136_ : F2 344 58 = 0 := (hf_F2 344 58 rfl).trans (e135_)
              exact ⟨F2, rfl, hg_F2, g48_, (⟨by omega, by omega⟩), (pli_0 (by omega))⟩
            have e137_ : F33_ 344 49 = 1 := by rw [q34_]; exact (fl_u_ne (by first | exact nc_ rfl | decide | omega)).trans ((fl_u_ne (by first | exact nc_ rfl | decide | omega)).trans ((fl_u_ne (by first | exact nc_ rfl | decide | omega)).trans (fl_u_eq)))
            have e138_ : F40_ 344 49 = 1 := by rw [q41_]; exact (fl_u_ne (by first | exact nc_ rfl | decide | omega)).trans (e137_)
            have e139_ : F33_ 375 0 = 0 := by rw [q34_]; exact fl_u_eq
            have e140_ : F40_ 375 0 = 0 := by rw [q41_]; exact (fl_u_ne (by first | exact nc_ rfl | decide | omega)).trans (e139_)
            have e141_ : F40_ 378 z37_.toNat = 1 := by rw [q41_]; exact fl_u_eq
            exact fl_R_sub (lv' := [(0, .ref 344), (1, .int (Int32.ofInt mo))]) rfl rfl (L45_ _ F40_ rfl g42_ fs_refl (gs_0 (k := z37_) (F1 := F1) (fun j hj => hz1 j (by omega)) (e138_) (e140_) (fun j hj => (Eq.trans (a := F40_ 378 j) (b := F33_ 378 j) (by rw [q41_]; exact (fl_u_ne (by first | exact nc_ rfl | decide | omega))) (show F33_ 378 j = F1 378 j from (by rw [q34_]; exact (fl_u_ne (by first | exact nc_ rfl | decide | omega)).trans ((fl_u_ne (by first | exact nc_ rfl | decide | omega)).trans ((fl_u_ne (by first | exact nc_ rfl | decide | omega)).trans ((fl_u_ne (by first | exact nc_ rfl | decide | omega))))))))) (e141_)) (by omega))
          refine ga_aload_n (v := .ref 344) hm_66 rfl rfl rfl ?_
          refine ga_getr (b := 378) hm_66 rfl sc_344 rfl ?_
          refine ga_iload_n (z := k) hm_66 rfl rfl ?_
          refine fl_iconst hm_66 rfl ?_
          refine fl_iast (z := k) (v := 0) hm_66 rfl sc_378 (by omega) (by omega) (by omega) ?_
          refine ga_inc (a := k) (c := k + 1) (lv2 := [(2, .int (Int32.ofInt (k + 1))), (0, .ref 344), (1, .int (Int32.ofInt mo))]) hm_66 rfl rfl (Nat.le_of_ble_eq_true rfl) rfl rfl ?_
          refine fl_goto hm_66 rfl ?_
          obtain ⟨F142_, q143_⟩ : ∃ Fq_, Fq_ = (fl_u F1 378 k.toNat 0) := ⟨_, rfl⟩
          rw [← q143_]
          have g144_ : gi F142_ := by rw [q143_]; exact gi_u (hg_F1) rfl (by omega) (by omega)
          have g145_ : fs [(344, 344, 0, 0), (344, 344, 13, 13), (344, 344, 49, 49), (344, 344, 58, 58), (344, 344, 66, 66), (373, 381, 0, 100000)] F F142_ := by rw [q143_]; exact fs_u (g28_) (fs_z (fs_z (fs_z (fs_z (fs_z (fs_y (by omega)))))))
          exact ih26_ _ (by omega) (k + 1) F142_ rfl g144_ (by rw [q143_]; exact fs_u (hf_F1) (fs_y (by omega))) (⟨by omega, by omega⟩) (by rw [q143_]; exact z0_w hz1 (by omega))
        exact L25_ _ (0) F15_ rfl g17_ fs_refl (⟨by omega, by omega⟩) (fun j hj => absurd hj (by omega))
      refine ga_aload_n (v := .ref 344) hm_66 rfl rfl rfl ?_
      refine fl_iconst hm_66 rfl ?_
      refine ga_putz (z := 1) hm_66 rfl sc_344 rfl rfl (by omega) ?_
      refine fl_iconst hm_66 rfl ?_
      obtain ⟨F146_, q147_⟩ : ∃ Fq_, Fq_ = (fl_u F15_ 344 13 1) := ⟨_, rfl⟩
      rw [← q147_]
      have g148_ : gi F146_ := by rw [q147_]; exact gi_u (g17_) rfl (by omega) (by omega)
      have g149_ : fs [(344, 344, 0, 0), (344, 344, 13, 13), (344, 344, 49, 49), (344, 344, 58, 58), (344, 344, 66, 66), (373, 381, 0, 100000)] F F146_ := by rw [q147_]; exact fs_u (g18_) rfl
      refine gr_i (z := 0) hm_66 rfl rfl rfl ?_
      have e150_ : F146_ 344 13 = 1 := by rw [q147_]; exact fl_u_eq
      have e151_ : F15_ 344 58 = 0 := by rw [q16_]; exact fl_u_eq
      have e152_ : F146_ 344 58 = 0 := by rw [q147_]; exact (fl_u_ne (by first | exact nc_ rfl | decide | omega)).trans (e151_)
      exact ⟨F146_, rfl, g148_, g149_, (⟨by omega, by omega⟩), (pli_n (by omega))⟩
    refine fl_iconst hm_66 rfl ?_
    refine fl_goto hm_66 rfl ?_
    refine ga_puti (z := 2) hm_66 rfl sc_344 rfl rfl ?_
    refine ga_aload_n (v := .ref 344) hm_66 rfl rfl rfl ?_
    refine ga_geti (z := 2) hm_66 rfl sc_344 rfl (fl_u_eq) ?_
    refine fl_if_le hm_66 rfl ⟨by omega, by omega⟩ (fun h => absurd h (by omega)) (fun _ => ?_)
    refine fl_iconst hm_66 rfl ?_
    obtain ⟨F153_, q154_⟩ : ∃ Fq_, Fq_ = (fl_u F 344 0 2) := ⟨_, rfl⟩
    rw [← q154_]
    have g155_ : gi F153_ := by rw [q154_]; exact gi_u (hgi) rfl (by omega) (by omega)
    have g156_ : fs [(344, 344, 0, 0), (344, 344, 13, 13), (344, 344, 49, 49), (344, 344, 58, 58), (344, 344, 66, 66), (373, 381, 0, 100000)] F F153_ := by rw [q154_]; exact fs_u (fs_refl) rfl
    refine gr_i (z := 0) hm_66 rfl rfl rfl ?_
    have e157_ : F153_ 344 13 = F 344 13 := by rw [q154_]; exact fl_u_ne (by first | exact nc_ rfl | decide | omega)
    have e158_ : F153_ 344 58 = F 344 58 := by rw [q154_]; exact fl_u_ne (by first | exact nc_ rfl | decide | omega)
    exact ⟨F153_, rfl, g155_, g156_, (⟨by omega, by omega⟩), (pli_cg hpl (show F153_ 344 13 = F 344 13 from (by rw [q154_]; exact (fl_u_ne (by first | exact nc_ rfl | decide | omega)))) (show F153_ 344 58 = F 344 58 from (by rw [q154_]; exact (fl_u_ne (by first | exact nc_ rfl | decide | omega)))) (fun j => (show F153_ 354 j = F 354 j from (by rw [q154_]; exact (fl_u_ne (by first | exact nc_ rfl | decide | omega))))) (fun j => (show F153_ 367 j = F 367 j from (by rw [q154_]; exact (fl_u_ne (by first | exact nc_ rfl | decide | omega))))) (fun j => (show F153_ 368 j = F 368 j from (by rw [q154_]; exact (fl_u_ne (by first | exact nc_ rfl | decide | omega))))) (fun j => (show F153_ 381 j = F 381 j from (by rw [q154_]; exact (fl_u_ne (by first | exact nc_ rfl | decide | omega))))))⟩
  refine fl_iconst hm_66 rfl ?_
  refine fl_goto hm_66 rfl ?_
  refine ga_puti (z := 1) hm_66 rfl sc_344 rfl rfl ?_
  refine ga_aload_n (v := .ref 344) hm_66 rfl rfl rfl ?_
  refine ga_geti (z := 1) hm_66 rfl sc_344 rfl (fl_u_eq) ?_
  refine fl_if_le hm_66 rfl ⟨by omega, by omega⟩ (fun h => absurd h (by omega)) (fun _ => ?_)
  refine fl_iconst hm_66 rfl ?_
  obtain ⟨F159_, q160_⟩ : ∃ Fq_, Fq_ = (fl_u F 344 0 1) := ⟨_, rfl⟩
  rw [← q160_]
  have g161_ : gi F159_ := by rw [q160_]; exact gi_u (hgi) rfl (by omega) (by omega)
  have g162_ : fs [(344, 344, 0, 0), (344, 344, 13, 13), (344, 344, 49, 49), (344, 344, 58, 58), (344, 344, 66, 66), (373, 381, 0, 100000)] F F159_ := by rw [q160_]; exact fs_u (fs_refl) rfl
  refine gr_i (z := 0) hm_66 rfl rfl rfl ?_
  have e163_ : F159_ 344 13 = F 344 13 := by rw [q160_]; exact fl_u_ne (by first | exact nc_ rfl | decide | omega)
  have e164_ : F159_ 344 58 = F 344 58 := by rw [q160_]; exact fl_u_ne (by first | exact nc_ rfl | decide | omega)
  exact ⟨F159_, rfl, g161_, g162_, (⟨by omega, by omega⟩), (pli_cg hpl (show F159_ 344 13 = F 344 13 from (by rw [q160_]; exact (fl_u_ne (by first | exact nc_ rfl | decide | omega)))) (show F159_ 344 58 = F 344 58 from (by rw [q160_]; exact (fl_u_ne (by first | exact nc_ rfl | decide | omega)))) (fun j => (show F159_ 354 j = F 354 j from (by rw [q160_]; exact (fl_u_ne (by first | exact nc_ rfl | decide | omega))))) (fun j => (show F159_ 367 j = F 367 j from (by rw [q160_]; exact (fl_u_ne (by first | exact nc_ rfl | decide | omega))))) (fun j => (show F159_ 368 j = F 368 j from (by rw [q160_]; exact (fl_u_ne (by first | exact nc_ rfl | decide | omega))))) (fun j => (show F159_ 381 j = F 381 j from (by rw [q160_]; exact (fl_u_ne (by first | exact nc_ rfl | decide | omega))))))⟩
/- CheapPlannerModel.steps -/
abbrev pq_67 (G : Nat → Nat → Option Nat) (F : fl_N) (X : xi_H)  : Outcome → xi_H → Prop := gqi (fun z A => ∃ F' : fl_N, fl_H sh_T G F' ++ X = A ∧ gi F' ∧ fs [(344, 344, 0, 0)] F F' ∧ (-2147483648 ≤ z ∧ z ≤ 2147483647)) gqn
theorem mc_67 {G : Nat → Nat → Option Nat} (hG : gg G) (F : fl_N) (X : xi_H) (hgi : gi F)  : fl_M xi_ms 67 0 0 [.ref 344] (fl_H sh_T G F ++ X) (pq_67 G F X) := by
  intro fr lo hfr hlo
  show fl_R xi_ms 67 fr lo 0 [(0, .ref 344)] [] _ _
  refine ga_aload_n (v := .ref 344) hm_67 rfl rfl rfl ?_
  refine ga_aload_n (v := .ref 344) hm_67 rfl rfl rfl ?_
  have b1_ : 0 ≤ F 344 13 ∧ F 344 13 ≤ 1 := gi_g hgi rfl
  refine ga_geti (z := F 344 13) hm_67 rfl sc_344 rfl (rfl) ?_
  refine fl_if_eq (a := F 344 13) hm_67 rfl ⟨by omega, by omega⟩ (fun h2_ => ?_) (fun h3_ => ?_)
  ·
    refine fl_iconst hm_67 rfl ?_
    refine ga_puti (z := 1) hm_67 rfl sc_344 rfl rfl ?_
    refine ga_aload_n (v := .ref 344) hm_67 rfl rfl rfl ?_
    refine ga_geti (z := F 344 13) hm_67 rfl sc_344 rfl (fl_u_ne (by first | exact nc_ rfl | decide | omega)) ?_
    refine fl_if_eq (a := F 344 13) hm_67 rfl ⟨by omega, by omega⟩ (fun h4_ => ?_) (fun h5_ => ?_)
    ·
      refine fl_iconst hm_67 rfl ?_
      obtain ⟨F6_, q7_⟩ : ∃ Fq_, Fq_ = (fl_u F 344 0 1) := ⟨_, rfl⟩
      rw [← q7_]
      have g8_ : gi F6_ := by rw [q7_]; exact gi_u (hgi) rfl (by omega) (by omega)
      have g9_ : fs [(344, 344, 0, 0)] F F6_ := by rw [q7_]; exact fs_u (fs_refl) rfl
      refine gr_i (z := 0) hm_67 rfl rfl rfl ?_
      exact ⟨F6_, rfl, g8_, g9_, (⟨by omega, by omega⟩)⟩
    exfalso; omega
  refine fl_iconst hm_67 rfl ?_
  refine fl_goto hm_67 rfl ?_
  refine ga_puti (z := 0) hm_67 rfl sc_344 rfl rfl ?_
  refine ga_aload_n (v := .ref 344) hm_67 rfl rfl rfl ?_
  refine ga_geti (z := F 344 13) hm_67 rfl sc_344 rfl (fl_u_ne (by first | exact nc_ rfl | decide | omega)) ?_
  refine fl_if_eq (a := F 344 13) hm_67 rfl ⟨by omega, by omega⟩ (fun h10_ => ?_) (fun h11_ => ?_)
  · exfalso; omega
  refine ga_aload_n (v := .ref 344) hm_67 rfl rfl rfl ?_
  have b12_ : 0 ≤ F 344 58 ∧ F 344 58 ≤ 200 := gi_g hgi rfl
  refine ga_geti (z := F 344 58) hm_67 rfl sc_344 rfl (fl_u_ne (by first | exact nc_ rfl | decide | omega)) ?_
  refine fl_goto hm_67 rfl ?_
  obtain ⟨F13_, q14_⟩ : ∃ Fq_, Fq_ = (fl_u F 344 0 0) := ⟨_, rfl⟩
  rw [← q14_]
  have g15_ : gi F13_ := by rw [q14_]; exact gi_u (hgi) rfl (by omega) (by omega)
  have g16_ : fs [(344, 344, 0, 0)] F F13_ := by rw [q14_]; exact fs_u (fs_refl) rfl
  refine gr_i (z := F 344 58) hm_67 rfl rfl rfl ?_
  exact ⟨F13_, rfl, g15_, g16_, (⟨by omega, by omega⟩)⟩
/- CheapPlannerModel.step -/
abbrev pq_68 (G : Nat → Nat → Option Nat) (F : fl_N) (X : xi_H) (k : Int) : Outcome → xi_H → Prop := gqi (fun z A => ∃ F' : fl_N, fl_H sh_T G F' ++ X = A ∧ gi F' ∧ fs [(344, 344, 0, 0)] F F' ∧ (-2147483648 ≤ z ∧ z ≤ 2147483647)) gqn
theorem mc_68 {G : Nat → Nat → Option Nat} (hG : gg G) (F : fl_N) (X : xi_H) (hgi : gi F) (k : Int) (hk : -2147483648 ≤ k ∧ k ≤ 2147483647) : fl_M xi_ms 68 0 0 [.ref 344, .int (Int32.ofInt k)] (fl_H sh_T G F ++ X) (pq_68 G F X k) := by
  intro fr lo hfr hlo
  show fl_R xi_ms 68 fr lo 0 [(0, .ref 344), (1, .int (Int32.ofInt k))] [] _ _
  refine ga_aload_n (v := .ref 344) hm_68 rfl rfl rfl ?_
  refine ga_aload_n (v := .ref 344) hm_68 rfl rfl rfl ?_
  have b1_ : 0 ≤ F 344 13 ∧ F 344 13 ≤ 1 := gi_g hgi rfl
  refine ga_geti (z := F 344 13) hm_68 rfl sc_344 rfl (rfl) ?_
  refine fl_if_eq (a := F 344 13) hm_68 rfl ⟨by omega, by omega⟩ (fun h2_ => ?_) (fun h3_ => ?_)
  ·
    refine fl_iconst hm_68 rfl ?_
    refine fl_goto hm_68 rfl ?_
    refine ga_puti (z := 1) hm_68 rfl sc_344 rfl rfl ?_
    refine ga_aload_n (v := .ref 344) hm_68 rfl rfl rfl ?_
    refine ga_geti (z := 1) hm_68 rfl sc_344 rfl (fl_u_eq) ?_
    refine fl_if_le hm_68 rfl ⟨by omega, by omega⟩ (fun h => absurd h (by omega)) (fun _ => ?_)
    refine fl_iconst hm_68 rfl ?_
    refine fl_goto hm_68 rfl ?_
    obtain ⟨F4_, q5_⟩ : ∃ Fq_, Fq_ = (fl_u F 344 0 1) := ⟨_, rfl⟩
    rw [← q5_]
    have g6_ : gi F4_ := by rw [q5_]; exact gi_u (hgi) rfl (by omega) (by omega)
    have g7_ : fs [(344, 344, 0, 0)] F F4_ := by rw [q5_]; exact fs_u (fs_refl) rfl
    refine gr_i (z := 0) hm_68 rfl rfl rfl ?_
    exact ⟨F4_, rfl, g6_, g7_, (⟨by omega, by omega⟩)⟩
  refine ga_iload_n (z := k) hm_68 rfl rfl ?_
  refine fl_if_lt (a := k) hm_68 rfl ⟨by omega, by omega⟩ (fun h8_ => ?_) (fun h9_ => ?_)
  ·
    refine fl_iconst hm_68 rfl ?_
    refine fl_goto hm_68 rfl ?_
    refine ga_puti (z := 1) hm_68 rfl sc_344 rfl rfl ?_
    refine ga_aload_n (v := .ref 344) hm_68 rfl rfl rfl ?_
    refine ga_geti (z := 1) hm_68 rfl sc_344 rfl (fl_u_eq) ?_
    refine fl_if_le hm_68 rfl ⟨by omega, by omega⟩ (fun h => absurd h (by omega)) (fun _ => ?_)
    refine fl_iconst hm_68 rfl ?_
    refine fl_goto hm_68 rfl ?_
    obtain ⟨F10_, q11_⟩ : ∃ Fq_, Fq_ = (fl_u F 344 0 1) := ⟨_, rfl⟩
    rw [← q11_]
    have g12_ : gi F10_ := by rw [q11_]; exact gi_u (hgi) rfl (by omega) (by omega)
    have g13_ : fs [(344, 344, 0, 0)] F F10_ := by rw [q11_]; exact fs_u (fs_refl) rfl
    refine gr_i (z := 0) hm_68 rfl rfl rfl ?_
    exact ⟨F10_, rfl, g12_, g13_, (⟨by omega, by omega⟩)⟩
  refine ga_iload_n (z := k) hm_68 rfl rfl ?_
  refine ga_aload_n (v := .ref 344) hm_68 rfl rfl rfl ?_
  have b14_ : 0 ≤ F 344 58 ∧ F 344 58 ≤ 200 := gi_g hgi rfl
  refine ga_geti (z := F 344 58) hm_68 rfl sc_344 rfl (rfl) ?_
  refine fl_icmp_lt (a := k) (b := F 344 58) hm_68 rfl ⟨by omega, by omega⟩ ⟨by omega, by omega⟩ (fun h15_ => ?_) (fun h16_ => ?_)
  ·
    refine fl_iconst hm_68 rfl ?_
    refine ga_puti (z := 0) hm_68 rfl sc_344 rfl rfl ?_
    refine ga_aload_n (v := .ref 344) hm_68 rfl rfl rfl ?_
    refine ga_geti (z := 0) hm_68 rfl sc_344 rfl (fl_u_eq) ?_
    refine fl_if_le hm_68 rfl ⟨by omega, by omega⟩ (fun _ => ?_) (fun h => absurd (by omega) h)
    refine ga_aload_n (v := .ref 344) hm_68 rfl rfl rfl ?_
    refine ga_getr (b := 381) hm_68 rfl sc_344 rfl ?_
    refine ga_iload_n (z := k) hm_68 rfl rfl ?_
    have b17_ : 0 ≤ F 381 k.toNat ∧ F 381 k.toNat ≤ 39 := gi_g hgi rfl
    refine ga_iald (z := k) (w := F 381 k.toNat) hm_68 rfl sc_381 (by omega) (by omega) (by omega) (fl_u_ne (by first | exact nc_ rfl | decide | omega)) ?_
    obtain ⟨F18_, q19_⟩ : ∃ Fq_, Fq_ = (fl_u F 344 0 0) := ⟨_, rfl⟩
    rw [← q19_]
    have g20_ : gi F18_ := by rw [q19_]; exact gi_u (hgi) rfl (by omega) (by omega)
    have g21_ : fs [(344, 344, 0, 0)] F F18_ := by rw [q19_]; exact fs_u (fs_refl) rfl
    refine gr_i (z := F 381 k.toNat) hm_68 rfl rfl rfl ?_
    exact ⟨F18_, rfl, g20_, g21_, (⟨by omega, by omega⟩)⟩
  refine fl_iconst hm_68 rfl ?_
  refine fl_goto hm_68 rfl ?_
  refine ga_puti (z := 1) hm_68 rfl sc_344 rfl rfl ?_
  refine ga_aload_n (v := .ref 344) hm_68 rfl rfl rfl ?_
  refine ga_geti (z := 1) hm_68 rfl sc_344 rfl (fl_u_eq) ?_
  refine fl_if_le hm_68 rfl ⟨by omega, by omega⟩ (fun h => absurd h (by omega)) (fun _ => ?_)
  refine fl_iconst hm_68 rfl ?_
  refine fl_goto hm_68 rfl ?_
  obtain ⟨F22_, q23_⟩ : ∃ Fq_, Fq_ = (fl_u F 344 0 1) := ⟨_, rfl⟩
  rw [← q23_]
  have g24_ : gi F22_ := by rw [q23_]; exact gi_u (hgi) rfl (by omega) (by omega)
  have g25_ : fs [(344, 344, 0, 0)] F F22_ := by rw [q23_]; exact fs_u (fs_refl) rfl
  refine gr_i (z := 0) hm_68 rfl rfl rfl ?_
  exact ⟨F22_, rfl, g24_, g25_, (⟨by omega, by omega⟩)⟩
/- CheapPlannerModel.ground -/
abbrev pq_69 (G : Nat → Nat → Option Nat) (F : fl_N) (X : xi_H) (k w : Int) : Outcome → xi_H → Prop := gqi (fun z A => ∃ F' : fl_N, fl_H sh_T G F' ++ X = A ∧ gi F' ∧ fs [(344, 344, 0, 0)] F F' ∧ (-2147483648 ≤ z ∧ z ≤ 2147483647) ∧ ((F' 344 0 = 1 ∧ ¬ (F 344 12 = 1 ∧ 0 ≤ k ∧ k < F 344 39)) ∨ (F' 344 0 = 2 ∧ (F 344 12 = 1 ∧ 0 ≤ k ∧ k < F 344 39) ∧ ¬ (0 ≤ w ∧ w ≤ 4)) ∨ (F' 344 0 = 0 ∧ (F 344 12 = 1 ∧ 0 ≤ k ∧ k < F 344 39) ∧ rV F k w z))) gqn
theorem mc_69 {G : Nat → Nat → Option Nat} (hG : gg G) (F : fl_N) (X : xi_H) (hgi : gi F) (k w : Int) (hk : -2147483648 ≤ k ∧ k ≤ 2147483647) (hw : -2147483648 ≤ w ∧ w ≤ 2147483647) : fl_M xi_ms 69 0 0 [.ref 344, .int (Int32.ofInt k), .int (Int32.ofInt w)] (fl_H sh_T G F ++ X) (pq_69 G F X k w) := by
  intro fr lo hfr hlo
  show fl_R xi_ms 69 fr lo 0 [(0, .ref 344), (1, .int (Int32.ofInt k)), (2, .int (Int32.ofInt w))] [] _ _
  refine ga_aload_n (v := .ref 344) hm_69 rfl rfl rfl ?_
  refine ga_aload_n (v := .ref 344) hm_69 rfl rfl rfl ?_
  have b1_ : 0 ≤ F 344 12 ∧ F 344 12 ≤ 1 := gi_g hgi rfl
  refine ga_geti (z := F 344 12) hm_69 rfl sc_344 rfl (rfl) ?_
  refine fl_if_eq (a := F 344 12) hm_69 rfl ⟨by omega, by omega⟩ (fun h2_ => ?_) (fun h3_ => ?_)
  ·
    refine fl_iconst hm_69 rfl ?_
    refine fl_goto hm_69 rfl ?_
    refine ga_puti (z := 1) hm_69 rfl sc_344 rfl rfl ?_
    refine ga_aload_n (v := .ref 344) hm_69 rfl rfl rfl ?_
    refine ga_geti (z := 1) hm_69 rfl sc_344 rfl (fl_u_eq) ?_
    refine fl_if_le hm_69 rfl ⟨by omega, by omega⟩ (fun h => absurd h (by omega)) (fun _ => ?_)
    refine fl_iconst hm_69 rfl ?_
    obtain ⟨F4_, q5_⟩ : ∃ Fq_, Fq_ = (fl_u F 344 0 1) := ⟨_, rfl⟩
    rw [← q5_]
    have g6_ : gi F4_ := by rw [q5_]; exact gi_u (hgi) rfl (by omega) (by omega)
    have g7_ : fs [(344, 344, 0, 0)] F F4_ := by rw [q5_]; exact fs_u (fs_refl) rfl
    refine gr_i (z := 0) hm_69 rfl rfl rfl ?_
    have e8_ : F4_ 344 0 = 1 := by rw [q5_]; exact fl_u_eq
    have b9_ : 0 ≤ F 344 39 ∧ F 344 39 ≤ 40 := gi_g hgi rfl
    exact ⟨F4_, rfl, g6_, g7_, (⟨by omega, by omega⟩), (Or.inl ⟨by omega, by omega⟩)⟩
  refine ga_iload_n (z := k) hm_69 rfl rfl ?_
  refine fl_if_lt (a := k) hm_69 rfl ⟨by omega, by omega⟩ (fun h10_ => ?_) (fun h11_ => ?_)
  ·
    refine fl_iconst hm_69 rfl ?_
    refine fl_goto hm_69 rfl ?_
    refine ga_puti (z := 1) hm_69 rfl sc_344 rfl rfl ?_
    refine ga_aload_n (v := .ref 344) hm_69 rfl rfl rfl ?_
    refine ga_geti (z := 1) hm_69 rfl sc_344 rfl (fl_u_eq) ?_
    refine fl_if_le hm_69 rfl ⟨by omega, by omega⟩ (fun h => absurd h (by omega)) (fun _ => ?_)
    refine fl_iconst hm_69 rfl ?_
    obtain ⟨F12_, q13_⟩ : ∃ Fq_, Fq_ = (fl_u F 344 0 1) := ⟨_, rfl⟩
    rw [← q13_]
    have g14_ : gi F12_ := by rw [q13_]; exact gi_u (hgi) rfl (by omega) (by omega)
    have g15_ : fs [(344, 344, 0, 0)] F F12_ := by rw [q13_]; exact fs_u (fs_refl) rfl
    refine gr_i (z := 0) hm_69 rfl rfl rfl ?_
    have e16_ : F12_ 344 0 = 1 := by rw [q13_]; exact fl_u_eq
    have b17_ : 0 ≤ F 344 39 ∧ F 344 39 ≤ 40 := gi_g hgi rfl
    exact ⟨F12_, rfl, g14_, g15_, (⟨by omega, by omega⟩), (Or.inl ⟨by omega, by omega⟩)⟩
  refine ga_iload_n (z := k) hm_69 rfl rfl ?_
  refine ga_aload_n (v := .ref 344) hm_69 rfl rfl rfl ?_
  have b18_ : 0 ≤ F 344 39 ∧ F 344 39 ≤ 40 := gi_g hgi rfl
  refine ga_geti (z := F 344 39) hm_69 rfl sc_344 rfl (rfl) ?_
  refine fl_icmp_lt (a := k) (b := F 344 39) hm_69 rfl ⟨by omega, by omega⟩ ⟨by omega, by omega⟩ (fun h19_ => ?_) (fun h20_ => ?_)
  ·
    refine ga_iload_n (z := w) hm_69 rfl rfl ?_
    refine fl_if_lt (a := w) hm_69 rfl ⟨by omega, by omega⟩ (fun h21_ => ?_) (fun h22_ => ?_)
    ·
      refine fl_iconst hm_69 rfl ?_
      refine fl_goto hm_69 rfl ?_
      refine ga_puti (z := 2) hm_69 rfl sc_344 rfl rfl ?_
      refine ga_aload_n (v := .ref 344) hm_69 rfl rfl rfl ?_
      refine ga_geti (z := 2) hm_69 rfl sc_344 rfl (fl_u_eq) ?_
      refine fl_if_le hm_69 rfl ⟨by omega, by omega⟩ (fun h => absurd h (by omega)) (fun _ => ?_)
      refine fl_iconst hm_69 rfl ?_
      obtain ⟨F23_, q24_⟩ : ∃ Fq_, Fq_ = (fl_u F 344 0 2) := ⟨_, rfl⟩
      rw [← q24_]
      have g25_ : gi F23_ := by rw [q24_]; exact gi_u (hgi) rfl (by omega) (by omega)
      have g26_ : fs [(344, 344, 0, 0)] F F23_ := by rw [q24_]; exact fs_u (fs_refl) rfl
      refine gr_i (z := 0) hm_69 rfl rfl rfl ?_
      have e27_ : F23_ 344 0 = 2 := by rw [q24_]; exact fl_u_eq
      exact ⟨F23_, rfl, g25_, g26_, (⟨by omega, by omega⟩), (Or.inr (Or.inl ⟨by omega, ⟨by omega, by omega, by omega⟩, by omega⟩))⟩
    refine ga_iload_n (z := w) hm_69 rfl rfl ?_
    refine fl_iconst hm_69 rfl ?_
    refine fl_icmp_le (a := w) (b := 4) hm_69 rfl ⟨by omega, by omega⟩ ⟨by omega, by omega⟩ (fun h28_ => ?_) (fun h29_ => ?_)
    ·
      refine fl_iconst hm_69 rfl ?_
      refine ga_puti (z := 0) hm_69 rfl sc_344 rfl rfl ?_
      refine ga_aload_n (v := .ref 344) hm_69 rfl rfl rfl ?_
      refine ga_geti (z := 0) hm_69 rfl sc_344 rfl (fl_u_eq) ?_
      refine fl_if_le hm_69 rfl ⟨by omega, by omega⟩ (fun _ => ?_) (fun h => absurd (by omega) h)
      refine ga_iload_n (z := w) hm_69 rfl rfl ?_
      refine fx_if_ne (a := w) hm_69 rfl ⟨by omega, by omega⟩ (fun h30_ => ?_) (fun h31_ => ?_)
      ·
        refine ga_iload_n (z := w) hm_69 rfl rfl ?_
        refine fl_iconst hm_69 rfl ?_
        refine fx_icmp_ne (a := w) (b := 4) hm_69 rfl ⟨by omega, by omega⟩ ⟨by omega, by omega⟩ (fun h32_ => ?_) (fun h33_ => ?_)
        ·
          refine ga_aload_n (v := .ref 344) hm_69 rfl rfl rfl ?_
          refine ga_getr (b := 368) hm_69 rfl sc_344 rfl ?_
          refine fl_iconst hm_69 rfl ?_
          refine ga_iload_n (z := k) hm_69 rfl rfl ?_
          refine ga_imul (a := 3) (b := k) (c := 3 * k) hm_69 rfl (by omega) ?_
          refine ga_iload_n (z := w) hm_69 rfl rfl ?_
          refine ga_iadd (a := 3 * k) (b := w) (c := 3 * k + w) hm_69 rfl (by omega) ?_
          refine fl_iconst hm_69 rfl ?_
          refine ga_isub (a := 3 * k + w) (b := 1) (c := 3 * k + w - 1) hm_69 rfl (by omega) ?_
          have b34_ : -1 ≤ F 368 (3 * k + w - 1).toNat ∧ F 368 (3 * k + w - 1).toNat ≤ 5 := gi_g hgi rfl
          refine ga_iald (z := 3 * k + w - 1) (w := F 368 (3 * k + w - 1).toNat) hm_69 rfl sc_368 (by omega) (by omega) (by omega) (fl_u_ne (by first | exact nc_ rfl | decide | omega)) ?_
          obtain ⟨F35_, q36_⟩ : ∃ Fq_, Fq_ = (fl_u F 344 0 0) := ⟨_, rfl⟩
          rw [← q36_]
          have g37_ : gi F35_ := by rw [q36_]; exact gi_u (hgi) rfl (by omega) (by omega)
          have g38_ : fs [(344, 344, 0, 0)] F F35_ := by rw [q36_]; exact fs_u (fs_refl) rfl
          refine gr_i (z := F 368 (3 * k + w - 1).toNat) hm_69 rfl rfl rfl ?_
          have e39_ : F35_ 344 0 = 0 := by rw [q36_]; exact fl_u_eq
          exact ⟨F35_, rfl, g37_, g38_, (⟨by omega, by omega⟩), (Or.inr (Or.inr ⟨by omega, ⟨by omega, by omega, by omega⟩, by unfold rV; first | exact Or.inl ⟨by omega, rfl⟩ | exact Or.inr (Or.inl ⟨by omega, rfl⟩) | exact Or.inr (Or.inr ⟨⟨by omega, by omega⟩, by first | rfl | (congr 1; omega) | (congr 1 <;> omega)⟩)⟩))⟩
        refine ga_aload_n (v := .ref 344) hm_69 rfl rfl rfl ?_
        refine ga_getr (b := 357) hm_69 rfl sc_344 rfl ?_
        refine ga_aload_n (v := .ref 344) hm_69 rfl rfl rfl ?_
        refine ga_getr (b := 367) hm_69 rfl sc_344 rfl ?_
        refine ga_iload_n (z := k) hm_69 rfl rfl ?_
        have b40_ : 0 ≤ F 367 k.toNat ∧ F 367 k.toNat ≤ 4 := gi_g hgi rfl
        refine ga_iald (z := k) (w := F 367 k.toNat) hm_69 rfl sc_367 (by omega) (by omega) (by omega) (fl_u_ne (by first | exact nc_ rfl | decide | omega)) ?_
        have b41_ : -1000 ≤ F 357 (F 367 k.toNat).toNat ∧ F 357 (F 367 k.toNat).toNat ≤ 2000 := gi_g hgi rfl
        refine ga_iald (z := F 367 k.toNat) (w := F 357 (F 367 k.toNat).toNat) hm_69 rfl sc_357 (by omega) (by omega) (by omega) (fl_u_ne (by first | exact nc_ rfl | decide | omega)) ?_
        refine fl_goto hm_69 rfl ?_
        obtain ⟨F42_, q43_⟩ : ∃ Fq_, Fq_ = (fl_u F 344 0 0) := ⟨_, rfl⟩
        rw [← q43_]
        have g44_ : gi F42_ := by rw [q43_]; exact gi_u (hgi) rfl (by omega) (by omega)
        have g45_ : fs [(344, 344, 0, 0)] F F42_ := by rw [q43_]; exact fs_u (fs_refl) rfl
        refine gr_i (z := F 357 (F 367 k.toNat).toNat) hm_69 rfl rfl rfl ?_
        have e46_ : F42_ 344 0 = 0 := by rw [q43_]; exact fl_u_eq
        exact ⟨F42_, rfl, g44_, g45_, (⟨by omega, by omega⟩), (Or.inr (Or.inr ⟨by omega, ⟨by omega, by omega, by omega⟩, by unfold rV; first | exact Or.inl ⟨by omega, rfl⟩ | exact Or.inr (Or.inl ⟨by omega, rfl⟩) | exact Or.inr (Or.inr ⟨⟨by omega, by omega⟩, by first | rfl | (congr 1; omega) | (congr 1 <;> omega)⟩)⟩))⟩
      refine ga_aload_n (v := .ref 344) hm_69 rfl rfl rfl ?_
      refine ga_getr (b := 367) hm_69 rfl sc_344 rfl ?_
      refine ga_iload_n (z := k) hm_69 rfl rfl ?_
      have b47_ : 0 ≤ F 367 k.toNat ∧ F 367 k.toNat ≤ 4 := gi_g hgi rfl
      refine ga_iald (z := k) (w := F 367 k.toNat) hm_69 rfl sc_367 (by omega) (by omega) (by omega) (fl_u_ne (by first | exact nc_ rfl | decide | omega)) ?_
      refine fl_goto hm_69 rfl ?_
      obtain ⟨F48_, q49_⟩ : ∃ Fq_, Fq_ = (fl_u F 344 0 0) := ⟨_, rfl⟩
      rw [← q49_]
      have g50_ : gi F48_ := by rw [q49_]; exact gi_u (hgi) rfl (by omega) (by omega)
      have g51_ : fs [(344, 344, 0, 0)] F F48_ := by rw [q49_]; exact fs_u (fs_refl) rfl
      refine gr_i (z := F 367 k.toNat) hm_69 rfl rfl rfl ?_
      have e52_ : F48_ 344 0 = 0 := by rw [q49_]; exact fl_u_eq
      exact ⟨F48_, rfl, g50_, g51_, (⟨by omega, by omega⟩), (Or.inr (Or.inr ⟨by omega, ⟨by omega, by omega, by omega⟩, by unfold rV; first | exact Or.inl ⟨by omega, rfl⟩ | exact Or.inr (Or.inl ⟨by omega, rfl⟩) | exact Or.inr (Or.inr ⟨⟨by omega, by omega⟩, by first | rfl | (congr 1; omega) | (congr 1 <;> omega)⟩)⟩))⟩
    refine fl_iconst hm_69 rfl ?_
    refine fl_goto hm_69 rfl ?_
    refine ga_puti (z := 2) hm_69 rfl sc_344 rfl rfl ?_
    refine ga_aload_n (v := .ref 344) hm_69 rfl rfl rfl ?_
    refine ga_geti (z := 2) hm_69 rfl sc_344 rfl (fl_u_eq) ?_
    refine fl_if_le hm_69 rfl ⟨by omega, by omega⟩ (fun h => absurd h (by omega)) (fun _ => ?_)
    refine fl_iconst hm_69 rfl ?_
    obtain ⟨F53_, q54_⟩ : ∃ Fq_, Fq_ = (fl_u F 344 0 2) := ⟨_, rfl⟩
    rw [← q54_]
    have g55_ : gi F53_ := by rw [q54_]; exact gi_u (hgi) rfl (by omega) (by omega)
    have g56_ : fs [(344, 344, 0, 0)] F F53_ := by rw [q54_]; exact fs_u (fs_refl) rfl
    refine gr_i (z := 0) hm_69 rfl rfl rfl ?_
    have e57_ : F53_ 344 0 = 2 := by rw [q54_]; exact fl_u_eq
    exact ⟨F53_, rfl, g55_, g56_, (⟨by omega, by omega⟩), (Or.inr (Or.inl ⟨by omega, ⟨by omega, by omega, by omega⟩, by omega⟩))⟩
  refine fl_iconst hm_69 rfl ?_
  refine fl_goto hm_69 rfl ?_
  refine ga_puti (z := 1) hm_69 rfl sc_344 rfl rfl ?_
  refine ga_aload_n (v := .ref 344) hm_69 rfl rfl rfl ?_
  refine ga_geti (z := 1) hm_69 rfl sc_344 rfl (fl_u_eq) ?_
  refine fl_if_le hm_69 rfl ⟨by omega, by omega⟩ (fun h => absurd h (by omega)) (fun _ => ?_)
  refine fl_iconst hm_69 rfl ?_
  obtain ⟨F58_, q59_⟩ : ∃ Fq_, Fq_ = (fl_u F 344 0 1) := ⟨_, rfl⟩
  rw [← q59_]
  have g60_ : gi F58_ := by rw [q59_]; exact gi_u (hgi) rfl (by omega) (by omega)
  have g61_ : fs [(344, 344, 0, 0)] F F58_ := by rw [q59_]; exact fs_u (fs_refl) rfl
  refine gr_i (z := 0) hm_69 rfl rfl rfl ?_
  have e62_ : F58_ 344 0 = 1 := by rw [q59_]; exact fl_u_eq
  exact ⟨F58_, rfl, g60_, g61_, (⟨by omega, by omega⟩), (Or.inl ⟨by omega, by omega⟩)⟩
/- CheapPlannerModel.tell -/
abbrev pq_190 (G : Nat → Nat → Option Nat) (F : fl_N) (X : xi_H) (c : Int) : Outcome → xi_H → Prop := gqv (fun A => ∃ F' : fl_N, fl_H sh_T G F' ++ X = A ∧ gi F' ∧ fs [(344, 344, 67, 67), (344, 344, 69, 69)] F F' ∧ (0 ≤ F' 344 69 ∧ F' 344 69 ≤ 65535)) gqn
theorem mc_190 {G : Nat → Nat → Option Nat} (hG : gg G) (F : fl_N) (X : xi_H) (hgi : gi F) (c : Int) (hc : 0 ≤ c ∧ c ≤ 65535) (hfo : 0 ≤ F 344 69 ∧ F 344 69 ≤ 65535) : fl_M xi_ms 190 0 0 [.ref 344, .int (Int32.ofInt c)] (fl_H sh_T G F ++ X) (pq_190 G F X c) := by
  intro fr lo hfr hlo
  show fl_R xi_ms 190 fr lo 0 [(0, .ref 344), (1, .int (Int32.ofInt c))] [] _ _
  refine ga_aload_n (v := .ref 344) hm_190 rfl rfl rfl ?_
  have b1_ : -2147483648 ≤ F 344 67 ∧ F 344 67 ≤ 2147483647 := gi_g hgi rfl
  refine ga_geti (z := F 344 67) hm_190 rfl sc_344 rfl (rfl) ?_
  refine ga_aload_n (v := .ref 344) hm_190 rfl rfl rfl ?_
  have b2_ : -2147483648 ≤ F 344 68 ∧ F 344 68 ≤ 2147483647 := gi_g hgi rfl
  refine ga_geti (z := F 344 68) hm_190 rfl sc_344 rfl (rfl) ?_
  refine fx_icmp_ne (a := F 344 67) (b := F 344 68) hm_190 rfl ⟨by omega, by omega⟩ ⟨by omega, by omega⟩ (fun h3_ => ?_) (fun h4_ => ?_)
  ·
    refine ga_aload_n (v := .ref 344) hm_190 rfl rfl rfl ?_
    refine ga_dup hm_190 rfl rfl ?_
    refine ga_geti (z := F 344 67) hm_190 rfl sc_344 rfl (rfl) ?_
    refine fl_iconst hm_190 rfl ?_
    refine ga_iany hm_190 rfl rfl rfl (fun z5_ ⟨h6_, h7_⟩ => ?_)
    refine ga_puti (z := z5_) hm_190 rfl sc_344 rfl rfl ?_
    obtain ⟨F8_, q9_⟩ : ∃ Fq_, Fq_ = (fl_u F 344 67 z5_) := ⟨_, rfl⟩
    rw [← q9_]
    have g10_ : gi F8_ := by rw [q9_]; exact gi_u (hgi) rfl (by omega) (by omega)
    have g11_ : fs [(344, 344, 67, 67), (344, 344, 69, 69)] F F8_ := by rw [q9_]; exact fs_u (fs_refl) rfl
    refine gr_v hm_190 rfl rfl ?_
    have e12_ : F8_ 344 69 = F 344 69 := by rw [q9_]; exact fl_u_ne (by first | exact nc_ rfl | decide | omega)
    have b13_ : -2147483648 ≤ F 344 69 ∧ F 344 69 ≤ 2147483647 := gi_g hgi rfl
    exact ⟨F8_, rfl, g10_, g11_, (⟨by omega, by omega⟩)⟩
  refine ga_aload_n (v := .ref 344) hm_190 rfl rfl rfl ?_
  refine ga_iload_n (z := c) hm_190 rfl rfl ?_
  refine ga_puti (z := c) hm_190 rfl sc_344 rfl rfl ?_
  refine ga_aload_n (v := .ref 344) hm_190 rfl rfl rfl ?_
  refine ga_dup hm_190 rfl rfl ?_
  refine ga_geti (z := F 344 67) hm_190 rfl sc_344 rfl (fl_u_ne (by first | exact nc_ rfl | decide | omega)) ?_
  refine fl_iconst hm_190 rfl ?_
  refine ga_iany hm_190 rfl rfl rfl (fun z14_ ⟨h15_, h16_⟩ => ?_)
  refine ga_puti (z := z14_) hm_190 rfl sc_344 rfl rfl ?_
  obtain ⟨F17_, q18_⟩ : ∃ Fq_, Fq_ = (fl_u (fl_u F 344 69 c) 344 67 z14_) := ⟨_, rfl⟩
  rw [← q18_]
  have g19_ : gi F17_ := by rw [q18_]; exact gi_u (gi_u (hgi) rfl (by omega) (by omega)) rfl (by omega) (by omega)
  have g20_ : fs [(344, 344, 67, 67), (344, 344, 69, 69)] F F17_ := by rw [q18_]; exact fs_u (fs_u (fs_refl) rfl) rfl
  refine gr_v hm_190 rfl rfl ?_
  have e21_ : F17_ 344 69 = c := by rw [q18_]; exact (fl_u_ne (by first | exact nc_ rfl | decide | omega)).trans (fl_u_eq)
  exact ⟨F17_, rfl, g19_, g20_, (⟨by omega, by omega⟩)⟩
/- CheapPlannerModel.tellName -/
abbrev pq_191 (G : Nat → Nat → Option Nat) (F : fl_N) (X : xi_H) (v : Int) : Outcome → xi_H → Prop := gqv (fun A => ∃ F' : fl_N, fl_H sh_T G F' ++ X = A ∧ gi F' ∧ fs [(344, 344, 67, 67), (344, 344, 69, 69)] F F' ∧ (0 ≤ F' 344 69 ∧ F' 344 69 ≤ 65535)) gqn
theorem mc_191 {G : Nat → Nat → Option Nat} (hG : gg G) (F : fl_N) (X : xi_H) (hgi : gi F) (v : Int) (hv : 0 ≤ v ∧ v ≤ 2565726408) (hfo : 0 ≤ F 344 69 ∧ F 344 69 ≤ 65535) : fl_M xi_ms 191 1 21 [.ref 344, .long (Int64.ofInt v)] (fl_H sh_T G F ++ X) (pq_191 G F X v) := by
  intro fr lo hfr hlo
  show fl_R xi_ms 191 fr lo 0 [(0, .ref 344), (1, .long (Int64.ofInt v))] [] _ _
  refine ga_lconst (z := 1) hm_191 rfl rfl ?_
  refine ga_lstore_n (lv2 := [(3, .long (Int64.ofInt 1)), (0, .ref 344), (1, .long (Int64.ofInt v))]) hm_191 rfl (Nat.le_of_ble_eq_true rfl) rfl ?_
  have L2_ : ∀ (n1_ : Nat) (un : Int), (v - un : Int).toNat = n1_ → (1 ≤ un ∧ un ≤ 2565726408) → fl_R xi_ms 191 fr lo 2 [(3, .long (Int64.ofInt un)), (0, .ref 344), (1, .long (Int64.ofInt v))] [] (fl_H sh_T G F ++ X) (pq_191 G F X v) := by
    intro n1_
    induction n1_ using Nat.strongRecOn with
    | ind n1_ ih3_ =>
    intro un hn4_ hu
    refine ga_lload_n (z := v) hm_191 rfl rfl ?_
    refine ga_lload_n (z := un) hm_191 rfl rfl ?_
    refine ga_ldiv (a := v) (b := un) hm_191 rfl (by omega) (by omega) (by omega) (by omega) ?_
    have b5_ : 0 ≤ v / un ∧ v / un ≤ v := ⟨Int.ediv_nonneg (by omega) (by omega), Int.ediv_le_self _ (by omega)⟩
    refine ga_ldcl (z := 37) hm_191 rfl (by decide) ?_
    refine ga_lcmp (a := (v / un)) (b := 37) hm_191 rfl ⟨by omega, by omega⟩ ⟨by omega, by omega⟩ (fun h6_ => ?_) (fun h7_ => ?_) (fun h8_ => ?_)
    ·
      refine fl_if_lt hm_191 rfl ⟨by omega, by omega⟩ (fun _ => ?_) (fun h => absurd (by omega) h)
      refine ga_lload_n (z := un) hm_191 rfl rfl ?_
      refine ga_lstore (lv2 := [(5, .long (Int64.ofInt un)), (3, .long (Int64.ofInt un)), (0, .ref 344), (1, .long (Int64.ofInt v))]) hm_191 rfl (Nat.le_of_ble_eq_true rfl) rfl ?_
      have L10_ : ∀ (n9_ : Nat) (u : Int) (F1 : fl_N), (u : Int).toNat = n9_ → (gi F1) → (fs [(344, 344, 67, 67), (344, 344, 69, 69)] F F1) → (0 ≤ u ∧ u ≤ 2565726408) → (0 ≤ F1 344 69 ∧ F1 344 69 ≤ 65535) → fl_R xi_ms 191 fr lo 24 [(5, .long (Int64.ofInt u)), (3, .long (Int64.ofInt un)), (0, .ref 344), (1, .long (Int64.ofInt v))] [] (fl_H sh_T G F1 ++ X) (pq_191 G F X v) := by
        intro n9_
        induction n9_ using Nat.strongRecOn with
        | ind n9_ ih11_ =>
        intro u F1 hn12_ hg_F1 hf_F1 hu2 ho1
        have g13_ : fs [(344, 344, 67, 67), (344, 344, 69, 69)] F F1 := fs_tr fs_refl hf_F1 rfl
        refine ga_lload (z := u) hm_191 rfl rfl ?_
        refine ga_lconst (z := 0) hm_191 rfl rfl ?_
        refine ga_lcmp (a := u) (b := 0) hm_191 rfl ⟨by omega, by omega⟩ ⟨by omega, by omega⟩ (fun h14_ => ?_) (fun h15_ => ?_) (fun h16_ => ?_)
        ·
          refine fl_if_le hm_191 rfl ⟨by omega, by omega⟩ (fun _ => ?_) (fun h => absurd (by omega) h)
          refine gr_v hm_191 rfl rfl ?_
          have b17_ : -2147483648 ≤ F1 344 69 ∧ F1 344 69 ≤ 2147483647 := gi_g hg_F1 rfl
          exact ⟨F1, rfl, hg_F1, g13_, (⟨by omega, by omega⟩)⟩
        ·
          refine fl_if_le hm_191 rfl ⟨by omega, by omega⟩ (fun _ => ?_) (fun h => absurd (by omega) h)
          refine gr_v hm_191 rfl rfl ?_
          have b18_ : -2147483648 ≤ F1 344 69 ∧ F1 344 69 ≤ 2147483647 := gi_g hg_F1 rfl
          exact ⟨F1, rfl, hg_F1, g13_, (⟨by omega, by omega⟩)⟩
        ·
          refine fl_if_le hm_191 rfl ⟨by omega, by omega⟩ (fun h => absurd h (by omega)) (fun _ => ?_)
          refine ga_lload_n (z := v) hm_191 rfl rfl ?_
          refine ga_lload (z := u) hm_191 rfl rfl ?_
          refine ga_ldiv (a := v) (b := u) hm_191 rfl (by omega) (by omega) (by omega) (by omega) ?_
          have b19_ : 0 ≤ v / u ∧ v / u ≤ v := ⟨Int.ediv_nonneg (by omega) (by omega), Int.ediv_le_self _ (by omega)⟩
          refine ga_ldcl (z := 37) hm_191 rfl (by decide) ?_
          refine ga_lrem (a := (v / u)) (b := 37) hm_191 rfl (by omega) (by omega) (by omega) (by omega) ?_
          refine ga_l2i hm_191 rfl ?_
          refine ga_istore (lv2 := [(7, .int (Int32.ofInt ((((v / u)) % 37)))), (5, .long (Int64.ofInt u)), (3, .long (Int64.ofInt un)), (0, .ref 344), (1, .long (Int64.ofInt v))]) hm_191 rfl (Nat.le_of_ble_eq_true rfl) rfl ?_
          refine ga_aload_n (v := .ref 344) hm_191 rfl rfl rfl ?_
          refine ga_iload (z := (((v / u)) % 37)) hm_191 rfl rfl ?_
          refine fl_bipush hm_191 rfl rfl ?_
          refine fl_icmp_le (a := (((v / u)) % 37)) (b := 26) hm_191 rfl ⟨by omega, by omega⟩ ⟨by omega, by omega⟩ (fun h20_ => ?_) (fun h21_ => ?_)
          ·
            refine ga_iload (z := (((v / u)) % 37)) hm_191 rfl rfl ?_
            refine fl_bipush hm_191 rfl rfl ?_
            refine ga_iadd (a := (((v / u)) % 37)) (b := 96) (c := (((v / u)) % 37) + 96) hm_191 rfl (by omega) ?_
            have b22_ : -2147483648 ≤ F1 344 69 ∧ F1 344 69 ≤ 2147483647 := gi_g hg_F1 rfl
            refine gVv (nY := 2) (F := 0) (L := 0) (As := [.int (Int32.ofInt ((((v / u)) % 37) + 96))]) (b := 344) (rest := []) hm_191 rfl hm_190 rfl rfl (fl_ob sc_344) rfl rfl rfl rfl rfl (by omega) (by omega) (mc_190 hG F1 X hg_F1 ((((v / u)) % 37) + 96) (⟨by omega, by omega⟩) (⟨by omega, by omega⟩)) (fun _ _ h => False.elim h) ?_
            rintro A1_ ⟨F25_, hA_, g26_, s27_, c24_⟩
            subst hA_
            have g28_ : fs [(344, 344, 67, 67), (344, 344, 69, 69)] F F25_ := fs_tr g13_ s27_ rfl
            refine ga_lload (z := u) hm_191 rfl rfl ?_
            refine ga_ldcl (z := 37) hm_191 rfl (by decide) ?_
            refine ga_ldiv (a := u) (b := 37) hm_191 rfl (by omega) (by omega) (by omega) (by omega) ?_
            refine ga_lstore (lv2 := [(5, .long (Int64.ofInt ((u / 37)))), (7, .int (Int32.ofInt ((((v / u)) % 37)))), (3, .long (Int64.ofInt un)), (0, .ref 344), (1, .long (Int64.ofInt v))]) hm_191 rfl (Nat.le_of_ble_eq_true rfl) rfl ?_
            refine fl_goto hm_191 rfl ?_
            have b29_ : -2147483648 ≤ F25_ 344 69 ∧ F25_ 344 69 ≤ 2147483647 := gi_g g26_ rfl
            exact fl_R_sub (lv' := [(5, .long (Int64.ofInt ((u / 37)))), (3, .long (Int64.ofInt un)), (0, .ref 344), (1, .long (Int64.ofInt v))]) rfl rfl (ih11_ _ (by omega) ((u / 37)) F25_ rfl g26_ (fs_tr hf_F1 s27_ rfl) (⟨by omega, by omega⟩) (⟨by omega, by omega⟩))
          refine ga_iload (z := (((v / u)) % 37)) hm_191 rfl rfl ?_
          refine fl_bipush hm_191 rfl rfl ?_
          refine ga_iadd (a := (((v / u)) % 37)) (b := 21) (c := (((v / u)) % 37) + 21) hm_191 rfl (by omega) ?_
          refine fl_goto hm_191 rfl ?_
          have b30_ : -2147483648 ≤ F1 344 69 ∧ F1 344 69 ≤ 2147483647 := gi_g hg_F1 rfl
          refine gVv (nY := 2) (F := 0) (L := 0) (As := [.int (Int32.ofInt ((((v / u)) % 37) + 21))]) (b := 344) (rest := []) hm_191 rfl hm_190 rfl rfl (fl_ob sc_344) rfl rfl rfl rfl rfl (by omega) (by omega) (mc_190 hG F1 X hg_F1 ((((v / u)) % 37) + 21) (⟨by omega, by omega⟩) (⟨by omega, by omega⟩)) (fun _ _ h => False.elim h) ?_
          rintro A1_ ⟨F33_, hA_, g34_, s35_, c32_⟩
          subst hA_
          have g36_ : fs [(344, 344, 67, 67), (344, 344, 69, 69)] F F33_ := fs_tr g13_ s35_ rfl
          refine ga_lload (z := u) hm_191 rfl rfl ?_
          refine ga_ldcl (z := 37) hm_191 rfl (by decide) ?_
          refine ga_ldiv (a := u) (b := 37) hm_191 rfl (by omega) (by omega) (by omega) (by omega) ?_
          refine ga_lstore (lv2 := [(5, .long (Int64.ofInt ((u / 37)))), (7, .int (Int32.ofInt ((((v / u)) % 37)))), (3, .long (Int64.ofInt un)), (0, .ref 344), (1, .long (Int64.ofInt v))]) hm_191 rfl (Nat.le_of_ble_eq_true rfl) rfl ?_
          refine fl_goto hm_191 rfl ?_
          have b37_ : -2147483648 ≤ F33_ 344 69 ∧ F33_ 344 69 ≤ 2147483647 := gi_g g34_ rfl
          exact fl_R_sub (lv' := [(5, .long (Int64.ofInt ((u / 37)))), (3, .long (Int64.ofInt un)), (0, .ref 344), (1, .long (Int64.ofInt v))]) rfl rfl (ih11_ _ (by omega) ((u / 37)) F33_ rfl g34_ (fs_tr hf_F1 s35_ rfl) (⟨by omega, by omega⟩) (⟨by omega, by omega⟩))
      have b38_ : -2147483648 ≤ F 344 69 ∧ F 344 69 ≤ 2147483647 := gi_g hgi rfl
      exact L10_ _ (un) F rfl hgi fs_refl (⟨by omega, by omega⟩) (⟨by omega, by omega⟩)
    ·
      refine fl_if_lt hm_191 rfl ⟨by omega, by omega⟩ (fun h => absurd h (by omega)) (fun _ => ?_)
      have hun : 37 * un ≤ v := dv_37 (by omega) (by omega) (by omega)
      refine ga_lload_n (z := un) hm_191 rfl rfl ?_
      refine ga_ldcl (z := 37) hm_191 rfl (by decide) ?_
      refine ga_lmul (a := un) (b := 37) hm_191 rfl ?_
      refine ga_lstore_n (lv2 := [(3, .long (Int64.ofInt ((un * 37)))), (0, .ref 344), (1, .long (Int64.ofInt v))]) hm_191 rfl (Nat.le_of_ble_eq_true rfl) rfl ?_
      refine fl_goto hm_191 rfl ?_
      exact ih3_ _ (by omega) ((un * 37)) rfl (⟨by omega, by omega⟩)
    ·
      refine fl_if_lt hm_191 rfl ⟨by omega, by omega⟩ (fun h => absurd h (by omega)) (fun _ => ?_)
      have hun : 37 * un ≤ v := dv_37 (by omega) (by omega) (by omega)
      refine ga_lload_n (z := un) hm_191 rfl rfl ?_
      refine ga_ldcl (z := 37) hm_191 rfl (by decide) ?_
      refine ga_lmul (a := un) (b := 37) hm_191 rfl ?_
      refine ga_lstore_n (lv2 := [(3, .long (Int64.ofInt ((un * 37)))), (0, .ref 344), (1, .long (Int64.ofInt v))]) hm_191 rfl (Nat.le_of_ble_eq_true rfl) rfl ?_
      refine fl_goto hm_191 rfl ?_
      exact ih3_ _ (by omega) ((un * 37)) rfl (⟨by omega, by omega⟩)
  exact L2_ _ (1) rfl (⟨by omega, by omega⟩)
/- CheapPlannerModel.letter -/
abbrev pq_70 (G : Nat → Nat → Option Nat) (F : fl_N) (X : xi_H) (i : Int) : Outcome → xi_H → Prop := gqi (fun z A => ∃ F' : fl_N, fl_H sh_T G F' ++ X = A ∧ gi F' ∧ fs [(344, 344, 0, 0), (344, 344, 67, 69)] F F' ∧ (0 ≤ z ∧ z ≤ 65535) ∧ (0 ≤ F' 344 69 ∧ F' 344 69 ≤ 65535)) gqn
theorem mc_70 {G : Nat → Nat → Option Nat} (hG : gg G) (F : fl_N) (X : xi_H) (hgi : gi F) (i : Int) (hi : -2147483648 ≤ i ∧ i ≤ 2147483647) (hpl : pli F) (hfo : 0 ≤ F 344 69 ∧ F 344 69 ≤ 65535) : fl_M xi_ms 70 2 48 [.ref 344, .int (Int32.ofInt i)] (fl_H sh_T G F ++ X) (pq_70 G F X i) := by
  intro fr lo hfr hlo
  show fl_R xi_ms 70 fr lo 0 [(0, .ref 344), (1, .int (Int32.ofInt i))] [] _ _
  refine ga_aload_n (v := .ref 344) hm_70 rfl rfl rfl ?_
  refine fl_iconst hm_70 rfl ?_
  refine ga_puti (z := 0) hm_70 rfl sc_344 rfl rfl ?_
  refine ga_aload_n (v := .ref 344) hm_70 rfl rfl rfl ?_
  refine ga_iload_n (z := i) hm_70 rfl rfl ?_
  refine ga_puti (z := i) hm_70 rfl sc_344 rfl rfl ?_
  refine fl_iconst hm_70 rfl ?_
  refine ga_istore_n (lv2 := [(2, .int (Int32.ofInt 0)), (0, .ref 344), (1, .int (Int32.ofInt i))]) hm_70 rfl (Nat.le_of_ble_eq_true rfl) rfl ?_
  obtain ⟨F1_, q2_⟩ : ∃ Fq_, Fq_ = (fl_u (fl_u F 344 67 0) 344 68 i) := ⟨_, rfl⟩
  rw [← q2_]
  have g3_ : gi F1_ := by rw [q2_]; exact gi_u (gi_u (hgi) rfl (by omega) (by omega)) rfl (by omega) (by omega)
  have g4_ : fs [(344, 344, 0, 0), (344, 344, 67, 69)] F F1_ := by rw [q2_]; exact fs_u (fs_u (fs_refl) rfl) rfl
  have L6_ : ∀ (n5_ : Nat) (k : Int) (F1 : fl_N), (200 - k : Int).toNat = n5_ → (gi F1) → (fs [(344, 344, 67, 67), (344, 344, 69, 69)] F1_ F1) → (0 ≤ k ∧ k ≤ 200) → (0 ≤ F1 344 69 ∧ F1 344 69 ≤ 65535) → fl_R xi_ms 70 fr lo 12 [(2, .int (Int32.ofInt k)), (0, .ref 344), (1, .int (Int32.ofInt i))] [] (fl_H sh_T G F1 ++ X) (pq_70 G F X i) := by
    intro n5_
    induction n5_ using Nat.strongRecOn with
    | ind n5_ ih7_ =>
    intro k F1 hn8_ hg_F1 hf_F1 hk ho1
    have g9_ : fs [(344, 344, 0, 0), (344, 344, 67, 69)] F F1 := fs_tr g4_ hf_F1 rfl
    refine ga_iload_n (z := k) hm_70 rfl rfl ?_
    refine ga_aload_n (v := .ref 344) hm_70 rfl rfl rfl ?_
    have e10_ : F1_ 344 58 = F 344 58 := by rw [q2_]; exact (fl_u_ne (by first | exact nc_ rfl | decide | omega)).trans (fl_u_ne (by first | exact nc_ rfl | decide | omega))
    have e11_ : F1 344 58 = F 344 58 := (hf_F1 344 58 rfl).trans (e10_)
    have b12_ : 0 ≤ F 344 58 ∧ F 344 58 ≤ 200 := gi_g hgi rfl
    refine ga_geti (z := F 344 58) hm_70 rfl sc_344 rfl (e11_) ?_
    refine fl_icmp_ge (a := k) (b := F 344 58) hm_70 rfl ⟨by omega, by omega⟩ ⟨by omega, by omega⟩ (fun h13_ => ?_) (fun h14_ => ?_)
    ·
      refine ga_aload_n (v := .ref 344) hm_70 rfl rfl rfl ?_
      refine ga_iload_n (z := i) hm_70 rfl rfl ?_
      refine fl_if_lt (a := i) hm_70 rfl ⟨by omega, by omega⟩ (fun h15_ => ?_) (fun h16_ => ?_)
      ·
        refine fl_iconst hm_70 rfl ?_
        refine fl_goto hm_70 rfl ?_
        refine ga_puti (z := 1) hm_70 rfl sc_344 rfl rfl ?_
        refine ga_aload_n (v := .ref 344) hm_70 rfl rfl rfl ?_
        refine ga_geti (z := 1) hm_70 rfl sc_344 rfl (fl_u_eq) ?_
        refine fl_if_le hm_70 rfl ⟨by omega, by omega⟩ (fun h => absurd h (by omega)) (fun _ => ?_)
        refine fl_iconst hm_70 rfl ?_
        refine fl_goto hm_70 rfl ?_
        obtain ⟨F17_, q18_⟩ : ∃ Fq_, Fq_ = (fl_u F1 344 0 1) := ⟨_, rfl⟩
        rw [← q18_]
        have g19_ : gi F17_ := by rw [q18_]; exact gi_u (hg_F1) rfl (by omega) (by omega)
        have g20_ : fs [(344, 344, 0, 0), (344, 344, 67, 69)] F F17_ := by rw [q18_]; exact fs_u (g9_) rfl
        refine gr_i (z := 0) hm_70 rfl rfl (ga_nc (by omega) (by omega)) ?_
        have e21_ : F17_ 344 69 = F1 344 69 := by rw [q18_]; exact fl_u_ne (by first | exact nc_ rfl | decide | omega)
        have b22_ : -2147483648 ≤ F1 344 69 ∧ F1 344 69 ≤ 2147483647 := gi_g hg_F1 rfl
        exact ⟨F17_, rfl, g19_, g20_, (⟨by omega, by omega⟩), (⟨by omega, by omega⟩)⟩
      refine ga_iload_n (z := i) hm_70 rfl rfl ?_
      refine ga_aload_n (v := .ref 344) hm_70 rfl rfl rfl ?_
      have b23_ : -2147483648 ≤ F1 344 67 ∧ F1 344 67 ≤ 2147483647 := gi_g hg_F1 rfl
      refine ga_geti (z := F1 344 67) hm_70 rfl sc_344 rfl (rfl) ?_
      refine fl_icmp_ge (a := i) (b := F1 344 67) hm_70 rfl ⟨by omega, by omega⟩ ⟨by omega, by omega⟩ (fun h24_ => ?_) (fun h25_ => ?_)
      ·
        refine fl_iconst hm_70 rfl ?_
        refine fl_goto hm_70 rfl ?_
        refine ga_puti (z := 1) hm_70 rfl sc_344 rfl rfl ?_
        refine ga_aload_n (v := .ref 344) hm_70 rfl rfl rfl ?_
        refine ga_geti (z := 1) hm_70 rfl sc_344 rfl (fl_u_eq) ?_
        refine fl_if_le hm_70 rfl ⟨by omega, by omega⟩ (fun h => absurd h (by omega)) (fun _ => ?_)
        refine fl_iconst hm_70 rfl ?_
        refine fl_goto hm_70 rfl ?_
        obtain ⟨F26_, q27_⟩ : ∃ Fq_, Fq_ = (fl_u F1 344 0 1) := ⟨_, rfl⟩
        rw [← q27_]
        have g28_ : gi F26_ := by rw [q27_]; exact gi_u (hg_F1) rfl (by omega) (by omega)
        have g29_ : fs [(344, 344, 0, 0), (344, 344, 67, 69)] F F26_ := by rw [q27_]; exact fs_u (g9_) rfl
        refine gr_i (z := 0) hm_70 rfl rfl (ga_nc (by omega) (by omega)) ?_
        have e30_ : F26_ 344 69 = F1 344 69 := by rw [q27_]; exact fl_u_ne (by first | exact nc_ rfl | decide | omega)
        have b31_ : -2147483648 ≤ F1 344 69 ∧ F1 344 69 ≤ 2147483647 := gi_g hg_F1 rfl
        exact ⟨F26_, rfl, g28_, g29_, (⟨by omega, by omega⟩), (⟨by omega, by omega⟩)⟩
      refine ga_aload_n (v := .ref 344) hm_70 rfl rfl rfl ?_
      have e32_ : F1_ 344 13 = F 344 13 := by rw [q2_]; exact (fl_u_ne (by first | exact nc_ rfl | decide | omega)).trans (fl_u_ne (by first | exact nc_ rfl | decide | omega))
      have e33_ : F1 344 13 = F 344 13 := (hf_F1 344 13 rfl).trans (e32_)
      have b34_ : 0 ≤ F 344 13 ∧ F 344 13 ≤ 1 := gi_g hgi rfl
      refine ga_geti (z := F 344 13) hm_70 rfl sc_344 rfl (e33_) ?_
      refine fx_if_ne (a := F 344 13) hm_70 rfl ⟨by omega, by omega⟩ (fun h35_ => ?_) (fun h36_ => ?_)
      ·
        refine fl_iconst hm_70 rfl ?_
        refine ga_puti (z := 0) hm_70 rfl sc_344 rfl rfl ?_
        refine ga_aload_n (v := .ref 344) hm_70 rfl rfl rfl ?_
        refine ga_geti (z := 0) hm_70 rfl sc_344 rfl (fl_u_eq) ?_
        refine fl_if_le hm_70 rfl ⟨by omega, by omega⟩ (fun _ => ?_) (fun h => absurd (by omega) h)
        refine ga_aload_n (v := .ref 344) hm_70 rfl rfl rfl ?_
        have b37_ : -2147483648 ≤ F1 344 69 ∧ F1 344 69 ≤ 2147483647 := gi_g hg_F1 rfl
        refine ga_geti (z := F1 344 69) hm_70 rfl sc_344 rfl (fl_u_ne (by first | exact nc_ rfl | decide | omega)) ?_
        refine ga_i2c hm_70 rfl (by omega) (by omega) ?_
        obtain ⟨F38_, q39_⟩ : ∃ Fq_, Fq_ = (fl_u F1 344 0 0) := ⟨_, rfl⟩
        rw [← q39_]
        have g40_ : gi F38_ := by rw [q39_]; exact gi_u (hg_F1) rfl (by omega) (by omega)
        have g41_ : fs [(344, 344, 0, 0), (344, 344, 67, 69)] F F38_ := by rw [q39_]; exact fs_u (g9_) rfl
        refine gr_i (z := F1 344 69) hm_70 rfl rfl (ga_nc (by omega) (by omega)) ?_
        have e42_ : F38_ 344 69 = F1 344 69 := by rw [q39_]; exact fl_u_ne (by first | exact nc_ rfl | decide | omega)
        exact ⟨F38_, rfl, g40_, g41_, (⟨by omega, by omega⟩), (⟨by omega, by omega⟩)⟩
      refine fl_iconst hm_70 rfl ?_
      refine fl_goto hm_70 rfl ?_
      refine ga_puti (z := 1) hm_70 rfl sc_344 rfl rfl ?_
      refine ga_aload_n (v := .ref 344) hm_70 rfl rfl rfl ?_
      refine ga_geti (z := 1) hm_70 rfl sc_344 rfl (fl_u_eq) ?_
      refine fl_if_le hm_70 rfl ⟨by omega, by omega⟩ (fun h => absurd h (by omega)) (fun _ => ?_)
      refine fl_iconst hm_70 rfl ?_
      refine fl_goto hm_70 rfl ?_
      obtain ⟨F43_, q44_⟩ : ∃ Fq_, Fq_ = (fl_u F1 344 0 1) := ⟨_, rfl⟩
      rw [← q44_]
      have g45_ : gi F43_ := by rw [q44_]; exact gi_u (hg_F1) rfl (by omega) (by omega)
      have g46_ : fs [(344, 344, 0, 0), (344, 344, 67, 69)] F F43_ := by rw [q44_]; exact fs_u (g9_) rfl
      refine gr_i (z := 0) hm_70 rfl rfl (ga_nc (by omega) (by omega)) ?_
      have e47_ : F43_ 344 69 = F1 344 69 := by rw [q44_]; exact fl_u_ne (by first | exact nc_ rfl | decide | omega)
      have b48_ : -2147483648 ≤ F1 344 69 ∧ F1 344 69 ≤ 2147483647 := gi_g hg_F1 rfl
      exact ⟨F43_, rfl, g45_, g46_, (⟨by omega, by omega⟩), (⟨by omega, by omega⟩)⟩
    refine ga_aload_n (v := .ref 344) hm_70 rfl rfl rfl ?_
    have e49_ : F1_ 344 13 = F 344 13 := by rw [q2_]; exact (fl_u_ne (by first | exact nc_ rfl | decide | omega)).trans (fl_u_ne (by first | exact nc_ rfl | decide | omega))
    have e50_ : F1 344 13 = F 344 13 := (hf_F1 344 13 rfl).trans (e49_)
    have b51_ : 0 ≤ F 344 13 ∧ F 344 13 ≤ 1 := gi_g hgi rfl
    refine ga_geti (z := F 344 13) hm_70 rfl sc_344 rfl (e50_) ?_
    refine fl_if_eq (a := F 344 13) hm_70 rfl ⟨by omega, by omega⟩ (fun h52_ => ?_) (fun h53_ => ?_)
    ·
      refine ga_aload_n (v := .ref 344) hm_70 rfl rfl rfl ?_
      refine ga_iload_n (z := i) hm_70 rfl rfl ?_
      refine fl_if_lt (a := i) hm_70 rfl ⟨by omega, by omega⟩ (fun h54_ => ?_) (fun h55_ => ?_)
      ·
        refine fl_iconst hm_70 rfl ?_
        refine fl_goto hm_70 rfl ?_
        refine ga_puti (z := 1) hm_70 rfl sc_344 rfl rfl ?_
        refine ga_aload_n (v := .ref 344) hm_70 rfl rfl rfl ?_
        refine ga_geti (z := 1) hm_70 rfl sc_344 rfl (fl_u_eq) ?_
        refine fl_if_le hm_70 rfl ⟨by omega, by omega⟩ (fun h => absurd h (by omega)) (fun _ => ?_)
        refine fl_iconst hm_70 rfl ?_
        refine fl_goto hm_70 rfl ?_
        obtain ⟨F56_, q57_⟩ : ∃ Fq_, Fq_ = (fl_u F1 344 0 1) := ⟨_, rfl⟩
        rw [← q57_]
        have g58_ : gi F56_ := by rw [q57_]; exact gi_u (hg_F1) rfl (by omega) (by omega)
        have g59_ : fs [(344, 344, 0, 0), (344, 344, 67, 69)] F F56_ := by rw [q57_]; exact fs_u (g9_) rfl
        refine gr_i (z := 0) hm_70 rfl rfl (ga_nc (by omega) (by omega)) ?_
        have e60_ : F56_ 344 69 = F1 344 69 := by rw [q57_]; exact fl_u_ne (by first | exact nc_ rfl | decide | omega)
        have b61_ : -2147483648 ≤ F1 344 69 ∧ F1 344 69 ≤ 2147483647 := gi_g hg_F1 rfl
        exact ⟨F56_, rfl, g58_, g59_, (⟨by omega, by omega⟩), (⟨by omega, by omega⟩)⟩
      refine ga_iload_n (z := i) hm_70 rfl rfl ?_
      refine ga_aload_n (v := .ref 344) hm_70 rfl rfl rfl ?_
      have b62_ : -2147483648 ≤ F1 344 67 ∧ F1 344 67 ≤ 2147483647 := gi_g hg_F1 rfl
      refine ga_geti (z := F1 344 67) hm_70 rfl sc_344 rfl (rfl) ?_
      refine fl_icmp_ge (a := i) (b := F1 344 67) hm_70 rfl ⟨by omega, by omega⟩ ⟨by omega, by omega⟩ (fun h63_ => ?_) (fun h64_ => ?_)
      ·
        refine fl_iconst hm_70 rfl ?_
        refine fl_goto hm_70 rfl ?_
        refine ga_puti (z := 1) hm_70 rfl sc_344 rfl rfl ?_
        refine ga_aload_n (v := .ref 344) hm_70 rfl rfl rfl ?_
        refine ga_geti (z := 1) hm_70 rfl sc_344 rfl (fl_u_eq) ?_
        refine fl_if_le hm_70 rfl ⟨by omega, by omega⟩ (fun h => absurd h (by omega)) (fun _ => ?_)
        refine fl_iconst hm_70 rfl ?_
        refine fl_goto hm_70 rfl ?_
        obtain ⟨F65_, q66_⟩ : ∃ Fq_, Fq_ = (fl_u F1 344 0 1) := ⟨_, rfl⟩
        rw [← q66_]
        have g67_ : gi F65_ := by rw [q66_]; exact gi_u (hg_F1) rfl (by omega) (by omega)
        have g68_ : fs [(344, 344, 0, 0), (344, 344, 67, 69)] F F65_ := by rw [q66_]; exact fs_u (g9_) rfl
        refine gr_i (z := 0) hm_70 rfl rfl (ga_nc (by omega) (by omega)) ?_
        have e69_ : F65_ 344 69 = F1 344 69 := by rw [q66_]; exact fl_u_ne (by first | exact nc_ rfl | decide | omega)
        have b70_ : -2147483648 ≤ F1 344 69 ∧ F1 344 69 ≤ 2147483647 := gi_g hg_F1 rfl
        exact ⟨F65_, rfl, g67_, g68_, (⟨by omega, by omega⟩), (⟨by omega, by omega⟩)⟩
      refine ga_aload_n (v := .ref 344) hm_70 rfl rfl rfl ?_
      refine ga_geti (z := F 344 13) hm_70 rfl sc_344 rfl (e50_) ?_
      refine fx_if_ne (a := F 344 13) hm_70 rfl ⟨by omega, by omega⟩ (fun h71_ => ?_) (fun h72_ => ?_)
      · exfalso; omega
      refine fl_iconst hm_70 rfl ?_
      refine fl_goto hm_70 rfl ?_
      refine ga_puti (z := 1) hm_70 rfl sc_344 rfl rfl ?_
      refine ga_aload_n (v := .ref 344) hm_70 rfl rfl rfl ?_
      refine ga_geti (z := 1) hm_70 rfl sc_344 rfl (fl_u_eq) ?_
      refine fl_if_le hm_70 rfl ⟨by omega, by omega⟩ (fun h => absurd h (by omega)) (fun _ => ?_)
      refine fl_iconst hm_70 rfl ?_
      refine fl_goto hm_70 rfl ?_
      obtain ⟨F73_, q74_⟩ : ∃ Fq_, Fq_ = (fl_u F1 344 0 1) := ⟨_, rfl⟩
      rw [← q74_]
      have g75_ : gi F73_ := by rw [q74_]; exact gi_u (hg_F1) rfl (by omega) (by omega)
      have g76_ : fs [(344, 344, 0, 0), (344, 344, 67, 69)] F F73_ := by rw [q74_]; exact fs_u (g9_) rfl
      refine gr_i (z := 0) hm_70 rfl rfl (ga_nc (by omega) (by omega)) ?_
      have e77_ : F73_ 344 69 = F1 344 69 := by rw [q74_]; exact fl_u_ne (by first | exact nc_ rfl | decide | omega)
      have b78_ : -2147483648 ≤ F1 344 69 ∧ F1 344 69 ≤ 2147483647 := gi_g hg_F1 rfl
      exact ⟨F73_, rfl, g75_, g76_, (⟨by omega, by omega⟩), (⟨by omega, by omega⟩)⟩
    refine ga_aload_n (v := .ref 344) hm_70 rfl rfl rfl ?_
    refine ga_getr (b := 381) hm_70 rfl sc_344 rfl ?_
    refine ga_iload_n (z := k) hm_70 rfl rfl ?_
    have e79_ : F1_ 381 k.toNat = F 381 k.toNat := by rw [q2_]; exact (fl_u_ne (by first | exact nc_ rfl | decide | omega)).trans (fl_u_ne (by first | exact nc_ rfl | decide | omega))
    have e80_ : F1 381 k.toNat = F 381 k.toNat := (hf_F1 381 k.toNat (by first | exact fs_c rfl | exact (fs_n (by omega) (fs_n (by omega) rfl)))).trans (e79_)
    have b81_ : 0 ≤ F 381 k.toNat ∧ F 381 k.toNat ≤ 39 := gi_g hgi rfl
    refine ga_iald (z := k) (w := F 381 k.toNat) hm_70 rfl sc_381 (by omega) (by omega) (by omega) (e80_) ?_
    refine ga_istore_n (lv2 := [(3, .int (Int32.ofInt (F 381 k.toNat))), (2, .int (Int32.ofInt k)), (0, .ref 344), (1, .int (Int32.ofInt i))]) hm_70 rfl (Nat.le_of_ble_eq_true rfl) rfl ?_
    refine ga_aload_n (v := .ref 344) hm_70 rfl rfl rfl ?_
    refine fl_bipush hm_70 rfl rfl ?_
    have b82_ : -2147483648 ≤ F1 344 69 ∧ F1 344 69 ≤ 2147483647 := gi_g hg_F1 rfl
    refine gVv (nY := 2) (F := 0) (L := 0) (As := [.int (Int32.ofInt 40)]) (b := 344) (rest := []) hm_70 rfl hm_190 rfl rfl (fl_ob sc_344) rfl rfl rfl rfl rfl (by omega) (by omega) (mc_190 hG F1 X hg_F1 (40) (⟨by omega, by omega⟩) (⟨by omega, by omega⟩)) (fun _ _ h => False.elim h) ?_
    rintro A1_ ⟨F85_, hA_, g86_, s87_, c84_⟩
    subst hA_
    have g88_ : fs [(344, 344, 0, 0), (344, 344, 67, 69)] F F85_ := fs_tr g9_ s87_ rfl
    refine ga_aload_n (v := .ref 344) hm_70 rfl rfl rfl ?_
    refine ga_aload_n (v := .ref 344) hm_70 rfl rfl rfl ?_
    refine ga_getr (b := 353) hm_70 rfl sc_344 rfl ?_
    refine ga_aload_n (v := .ref 344) hm_70 rfl rfl rfl ?_
    refine ga_getr (b := 367) hm_70 rfl sc_344 rfl ?_
    refine ga_iload_n (z := F 381 k.toNat) hm_70 rfl rfl ?_
    have e89_ : F1_ 367 (F 381 k.toNat).toNat = F 367 (F 381 k.toNat).toNat := by rw [q2_]; exact (fl_u_ne (by first | exact nc_ rfl | decide | omega)).trans (fl_u_ne (by first | exact nc_ rfl | decide | omega))
    have e90_ : F1 367 (F 381 k.toNat).toNat = F 367 (F 381 k.toNat).toNat := (hf_F1 367 (F 381 k.toNat).toNat (by first | exact fs_c rfl | exact (fs_n (by omega) (fs_n (by omega) rfl)))).trans (e89_)
    have e91_ : F85_ 367 (F 381 k.toNat).toNat = F 367 (F 381 k.toNat).toNat := (s87_ 367 (F 381 k.toNat).toNat (by first | exact fs_c rfl | exact (fs_n (by omega) (fs_n (by omega) rfl)))).trans (e90_)
    have b92_ : 0 ≤ F 367 (F 381 k.toNat).toNat ∧ F 367 (F 381 k.toNat).toNat ≤ 4 := gi_g hgi rfl
    refine ga_iald (z := F 381 k.toNat) (w := F 367 (F 381 k.toNat).toNat) hm_70 rfl sc_367 (by omega) (by omega) (by omega) (e91_) ?_
    have e93_ : F1_ 353 (F 367 (F 381 k.toNat).toNat).toNat = F 353 (F 367 (F 381 k.toNat).toNat).toNat := by rw [q2_]; exact (fl_u_ne (by first | exact nc_ rfl | decide | omega)).trans (fl_u_ne (by first | exact nc_ rfl | decide | omega))
    have e94_ : F1 353 (F 367 (F 381 k.toNat).toNat).toNat = F 353 (F 367 (F 381 k.toNat).toNat).toNat := (hf_F1 353 (F 367 (F 381 k.toNat).toNat).toNat (by first | exact fs_c rfl | exact (fs_n (by omega) (fs_n (by omega) rfl)))).trans (e93_)
    have e95_ : F85_ 353 (F 367 (F 381 k.toNat).toNat).toNat = F 353 (F 367 (F 381 k.toNat).toNat).toNat := (s87_ 353 (F 367 (F 381 k.toNat).toNat).toNat (by first | exact fs_c rfl | exact (fs_n (by omega) (fs_n (by omega) rfl)))).trans (e94_)
    have b96_ : 0 ≤ F 353 (F 367 (F 381 k.toNat).toNat).toNat ∧ F 353 (F 367 (F 381 k.toNat).toNat).toNat ≤ 2565726408 := gi_g hgi rfl
    refine ga_lald (z := F 367 (F 381 k.toNat).toNat) (w := F 353 (F 367 (F 381 k.toNat).toNat).toNat) hm_70 rfl sc_353 (by omega) (by omega) (by omega) (e95_) ?_
    have b97_ : -2147483648 ≤ F85_ 344 69 ∧ F85_ 344 69 ≤ 2147483647 := gi_g g86_ rfl
    refine gVv (nY := 8) (F := 1) (L := 21) (As := [.long (Int64.ofInt (F 353 (F 367 (F 381 k.toNat).toNat).toNat))]) (b := 344) (rest := []) hm_70 rfl hm_191 rfl rfl (fl_ob sc_344) rfl rfl rfl rfl rfl (by omega) (by omega) (mc_191 hG F85_ X g86_ (F 353 (F 367 (F 381 k.toNat).toNat).toNat) (⟨by omega, by omega⟩) (⟨by omega, by omega⟩)) (fun _ _ h => False.elim h) ?_
    rintro A1_ ⟨F100_, hA_, g101_, s102_, c99_⟩
    subst hA_
    have g103_ : fs [(344, 344, 0, 0), (344, 344, 67, 69)] F F100_ := fs_tr g88_ s102_ rfl
    refine fl_iconst hm_70 rfl ?_
    refine ga_istore (lv2 := [(4, .int (Int32.ofInt 0)), (3, .int (Int32.ofInt (F 381 k.toNat))), (2, .int (Int32.ofInt k)), (0, .ref 344), (1, .int (Int32.ofInt i))]) hm_70 rfl (Nat.le_of_ble_eq_true rfl) rfl ?_
    have L105_ : ∀ (n104_ : Nat) (p : Int) (F2 : fl_N), (3 - p : Int).toNat = n104_ → (gi F2) → (fs [(344, 344, 67, 67), (344, 344, 69, 69)] F100_ F2) → (0 ≤ p ∧ p ≤ 3) → (0 ≤ F2 344 69 ∧ F2 344 69 ≤ 65535) → fl_R xi_ms 70 fr lo 58 [(4, .int (Int32.ofInt p)), (3, .int (Int32.ofInt (F 381 k.toNat))), (2, .int (Int32.ofInt k)), (0, .ref 344), (1, .int (Int32.ofInt i))] [] (fl_H sh_T G F2 ++ X) (pq_70 G F X i) := by
      intro n104_
      induction n104_ using Nat.strongRecOn with
      | ind n104_ ih106_ =>
      intro p F2 hn107_ hg_F2 hf_F2 hp ho2
      have g108_ : fs [(344, 344, 0, 0), (344, 344, 67, 69)] F F2 := fs_tr g103_ hf_F2 rfl
      refine ga_iload (z := p) hm_70 rfl rfl ?_
      refine ga_aload_n (v := .ref 344) hm_70 rfl rfl rfl ?_
      refine ga_getr (b := 354) hm_70 rfl sc_344 rfl ?_
      refine ga_aload_n (v := .ref 344) hm_70 rfl rfl rfl ?_
      refine ga_getr (b := 367) hm_70 rfl sc_344 rfl ?_
      refine ga_iload_n (z := F 381 k.toNat) hm_70 rfl rfl ?_
      have e109_ : F100_ 367 (F 381 k.toNat).toNat = F 367 (F 381 k.toNat).toNat := (s102_ 367 (F 381 k.toNat).toNat (by first | exact fs_c rfl | exact (fs_n (by omega) (fs_n (by omega) rfl)))).trans (e91_)
      have e110_ : F2 367 (F 381 k.toNat).toNat = F 367 (F 381 k.toNat).toNat := (hf_F2 367 (F 381 k.toNat).toNat (by first | exact fs_c rfl | exact (fs_n (by omega) (fs_n (by omega) rfl)))).trans (e109_)
      refine ga_iald (z := F 381 k.toNat) (w := F 367 (F 381 k.toNat).toNat) hm_70 rfl sc_367 (by omega) (by omega) (by omega) (e110_) ?_
      have e111_ : F1_ 354 (F 367 (F 381 k.toNat).toNat).toNat = F 354 (F 367 (F 381 k.toNat).toNat).toNat := by rw [q2_]; exact (fl_u_ne (by first | exact nc_ rfl | decide | omega)).trans (fl_u_ne (by first | exact nc_ rfl | decide | omega))
      have e112_ : F1 354 (F 367 (F 381 k.toNat).toNat).toNat = F 354 (F 367 (F 381 k.toNat).toNat).toNat := (hf_F1 354 (F 367 (F 381 k.toNat).toNat).toNat (by first | exact fs_c rfl | exact (fs_n (by omega) (fs_n (by omega) rfl)))).trans (e111_)
      have e113_ : F85_ 354 (F 367 (F 381 k.toNat).toNat).toNat = F 354 (F 367 (F 381 k.toNat).toNat).toNat := (s87_ 354 (F 367 (F 381 k.toNat).toNat).toNat (by first | exact fs_c rfl | exact (fs_n (by omega) (fs_n (by omega) rfl)))).trans (e112_)
      have e114_ : F100_ 354 (F 367 (F 381 k.toNat).toNat).toNat = F 354 (F 367 (F 381 k.toNat).toNat).toNat := (s102_ 354 (F 367 (F 381 k.toNat).toNat).toNat (by first | exact fs_c rfl | exact (fs_n (by omega) (fs_n (by omega) rfl)))).trans (e113_)
      have e115_ : F2 354 (F 367 (F 381 k.toNat).toNat).toNat = F 354 (F 367 (F 381 k.toNat).toNat).toNat := (hf_F2 354 (F 367 (F 381 k.toNat).toNat).toNat (by first | exact fs_c rfl | exact (fs_n (by omega) (fs_n (by omega) rfl)))).trans (e114_)
      have b116_ : 0 ≤ F 354 (F 367 (F 381 k.toNat).toNat).toNat ∧ F 354 (F 367 (F 381 k.toNat).toNat).toNat ≤ 3 := gi_g hgi rfl
      refine ga_iald (z := F 367 (F 381 k.toNat).toNat) (w := F 354 (F 367 (F 381 k.toNat).toNat).toNat) hm_70 rfl sc_354 (by omega) (by omega) (by omega) (e115_) ?_
      refine fl_icmp_ge (a := p) (b := F 354 (F 367 (F 381 k.toNat).toNat).toNat) hm_70 rfl ⟨by omega, by omega⟩ ⟨by omega, by omega⟩ (fun h117_ => ?_) (fun h118_ => ?_)
      ·
        refine ga_aload_n (v := .ref 344) hm_70 rfl rfl rfl ?_
        refine fl_bipush hm_70 rfl rfl ?_
        have b119_ : -2147483648 ≤ F2 344 69 ∧ F2 344 69 ≤ 2147483647 := gi_g hg_F2 rfl
        refine gVv (nY := 2) (F := 0) (L := 0) (As := [.int (Int32.ofInt 41)]) (b := 344) (rest := []) hm_70 rfl hm_190 rfl rfl (fl_ob sc_344) rfl rfl rfl rfl rfl (by omega) (by omega) (mc_190 hG F2 X hg_F2 (41) (⟨by omega, by omega⟩) (⟨by omega, by omega⟩)) (fun _ _ h => False.elim h) ?_
        rintro A1_ ⟨F122_, hA_, g123_, s124_, c121_⟩
        subst hA_
        have g125_ : fs [(344, 344, 0, 0), (344, 344, 67, 69)] F F122_ := fs_tr g108_ s124_ rfl
        refine ga_aload_n (v := .ref 344) hm_70 rfl rfl rfl ?_
        refine fl_bipush hm_70 rfl rfl ?_
        have b126_ : -2147483648 ≤ F122_ 344 69 ∧ F122_ 344 69 ≤ 2147483647 := gi_g g123_ rfl
        refine gVv (nY := 2) (F := 0) (L := 0) (As := [.int (Int32.ofInt 10)]) (b := 344) (rest := []) hm_70 rfl hm_190 rfl rfl (fl_ob sc_344) rfl rfl rfl rfl rfl (by omega) (by omega) (mc_190 hG F122_ X g123_ (10) (⟨by omega, by omega⟩) (⟨by omega, by omega⟩)) (fun _ _ h => False.elim h) ?_
        rintro A1_ ⟨F129_, hA_, g130_, s131_, c128_⟩
        subst hA_
        have g132_ : fs [(344, 344, 0, 0), (344, 344, 67, 69)] F F129_ := fs_tr g125_ s131_ rfl
        refine ga_inc (a := k) (c := k + 1) (lv2 := [(2, .int (Int32.ofInt (k + 1))), (4, .int (Int32.ofInt p)), (3, .int (Int32.ofInt (F 381 k.toNat))), (0, .ref 344), (1, .int (Int32.ofInt i))]) hm_70 rfl rfl (Nat.le_of_ble_eq_true rfl) rfl rfl ?_
        refine fl_goto hm_70 rfl ?_
        have b133_ : -2147483648 ≤ F129_ 344 69 ∧ F129_ 344 69 ≤ 2147483647 := gi_g g130_ rfl
        exact fl_R_sub (lv' := [(2, .int (Int32.ofInt (k + 1))), (0, .ref 344), (1, .int (Int32.ofInt i))]) rfl rfl (ih7_ _ (by omega) (k + 1) F129_ rfl g130_ (fs_tr (fs_tr (fs_tr (fs_tr (fs_tr hf_F1 s87_ rfl) s102_ rfl) hf_F2 rfl) s124_ rfl) s131_ rfl) (⟨by omega, by omega⟩) (⟨by omega, by omega⟩))
      refine ga_aload_n (v := .ref 344) hm_70 rfl rfl rfl ?_
      refine fl_bipush hm_70 rfl rfl ?_
      have b134_ : -2147483648 ≤ F2 344 69 ∧ F2 344 69 ≤ 2147483647 := gi_g hg_F2 rfl
      refine gVv (nY := 2) (F := 0) (L := 0) (As := [.int (Int32.ofInt 32)]) (b := 344) (rest := []) hm_70 rfl hm_190 rfl rfl (fl_ob sc_344) rfl rfl rfl rfl rfl (by omega) (by omega) (mc_190 hG F2 X hg_F2 (32) (⟨by omega, by omega⟩) (⟨by omega, by omega⟩)) (fun _ _ h => False.elim h) ?_
      rintro A1_ ⟨F137_, hA_, g138_, s139_, c136_⟩
      subst hA_
      have g140_ : fs [(344, 344, 0, 0), (344, 344, 67, 69)] F F137_ := fs_tr g108_ s139_ rfl
      refine ga_aload_n (v := .ref 344) hm_70 rfl rfl rfl ?_
      refine ga_aload_n (v := .ref 344) hm_70 rfl rfl rfl ?_
      refine ga_getr (b := 364) hm_70 rfl sc_344 rfl ?_
      refine ga_aload_n (v := .ref 344) hm_70 rfl rfl rfl ?_
      refine ga_getr (b := 368) hm_70 rfl sc_344 rfl ?_
      refine fl_iconst hm_70 rfl ?_
      refine ga_iload_n (z := F 381 k.toNat) hm_70 rfl rfl ?_
      refine ga_imul (a := 3) (b := F 381 k.toNat) (c := 3 * (F 381 k.toNat)) hm_70 rfl (by omega) ?_
      refine ga_iload (z := p) hm_70 rfl rfl ?_
      refine ga_iadd (a := 3 * (F 381 k.toNat)) (b := p) (c := 3 * (F 381 k.toNat) + p) hm_70 rfl (by omega) ?_
      have hq9 : 0 ≤ F 368 (3 * F 381 k.toNat + p).toNat := by have h9_ := hpl (by omega) k.toNat (by omega) p.toNat (by omega); rwa [show 3 * (F 381 k.toNat).toNat + p.toNat = (3 * F 381 k.toNat + p).toNat by omega] at h9_
      have e141_ : F1_ 368 (3 * (F 381 k.toNat) + p).toNat = F 368 (3 * (F 381 k.toNat) + p).toNat := by rw [q2_]; exact (fl_u_ne (by first | exact nc_ rfl | decide | omega)).trans (fl_u_ne (by first | exact nc_ rfl | decide | omega))
      have e142_ : F1 368 (3 * (F 381 k.toNat) + p).toNat = F 368 (3 * (F 381 k.toNat) + p).toNat := (hf_F1 368 (3 * (F 381 k.toNat) + p).toNat (by first | exact fs_c rfl | exact (fs_n (by omega) (fs_n (by omega) rfl)))).trans (e141_)
      have e143_ : F85_ 368 (3 * (F 381 k.toNat) + p).toNat = F 368 (3 * (F 381 k.toNat) + p).toNat := (s87_ 368 (3 * (F 381 k.toNat) + p).toNat (by first | exact fs_c rfl | exact (fs_n (by omega) (fs_n (by omega) rfl)))).trans (e142_)
      have e144_ : F100_ 368 (3 * (F 381 k.toNat) + p).toNat = F 368 (3 * (F 381 k.toNat) + p).toNat := (s102_ 368 (3 * (F 381 k.toNat) + p).toNat (by first | exact fs_c rfl | exact (fs_n (by omega) (fs_n (by omega) rfl)))).trans (e143_)
      have e145_ : F2 368 (3 * (F 381 k.toNat) + p).toNat = F 368 (3 * (F 381 k.toNat) + p).toNat := (hf_F2 368 (3 * (F 381 k.toNat) + p).toNat (by first | exact fs_c rfl | exact (fs_n (by omega) (fs_n (by omega) rfl)))).trans (e144_)
      have e146_ : F137_ 368 (3 * (F 381 k.toNat) + p).toNat = F 368 (3 * (F 381 k.toNat) + p).toNat := (s139_ 368 (3 * (F 381 k.toNat) + p).toNat (by first | exact fs_c rfl | exact (fs_n (by omega) (fs_n (by omega) rfl)))).trans (e145_)
      have b147_ : -1 ≤ F 368 (3 * (F 381 k.toNat) + p).toNat ∧ F 368 (3 * (F 381 k.toNat) + p).toNat ≤ 5 := gi_g hgi rfl
      refine ga_iald (z := 3 * (F 381 k.toNat) + p) (w := F 368 (3 * (F 381 k.toNat) + p).toNat) hm_70 rfl sc_368 (by omega) (by omega) (by omega) (e146_) ?_
      have e148_ : F1_ 364 (F 368 (3 * (F 381 k.toNat) + p).toNat).toNat = F 364 (F 368 (3 * (F 381 k.toNat) + p).toNat).toNat := by rw [q2_]; exact (fl_u_ne (by first | exact nc_ rfl | decide | omega)).trans (fl_u_ne (by first | exact nc_ rfl | decide | omega))
      have e149_ : F1 364 (F 368 (3 * (F 381 k.toNat) + p).toNat).toNat = F 364 (F 368 (3 * (F 381 k.toNat) + p).toNat).toNat := (hf_F1 364 (F 368 (3 * (F 381 k.toNat) + p).toNat).toNat (by first | exact fs_c rfl | exact (fs_n (by omega) (fs_n (by omega) rfl)))).trans (e148_)
      have e150_ : F85_ 364 (F 368 (3 * (F 381 k.toNat) + p).toNat).toNat = F 364 (F 368 (3 * (F 381 k.toNat) + p).toNat).toNat := (s87_ 364 (F 368 (3 * (F 381 k.toNat) + p).toNat).toNat (by first | exact fs_c rfl | exact (fs_n (by omega) (fs_n (by omega) rfl)))).trans (e149_)
      have e151_ : F100_ 364 (F 368 (3 * (F 381 k.toNat) + p).toNat).toNat = F 364 (F 368 (3 * (F 381 k.toNat) + p).toNat).toNat := (s102_ 364 (F 368 (3 * (F 381 k.toNat) + p).toNat).toNat (by first | exact fs_c rfl | exact (fs_n (by omega) (fs_n (by omega) rfl)))).trans (e150_)
      have e152_ : F2 364 (F 368 (3 * (F 381 k.toNat) + p).toNat).toNat = F 364 (F 368 (3 * (F 381 k.toNat) + p).toNat).toNat := (hf_F2 364 (F 368 (3 * (F 381 k.toNat) + p).toNat).toNat (by first | exact fs_c rfl | exact (fs_n (by omega) (fs_n (by omega) rfl)))).trans (e151_)
      have e153_ : F137_ 364 (F 368 (3 * (F 381 k.toNat) + p).toNat).toNat = F 364 (F 368 (3 * (F 381 k.toNat) + p).toNat).toNat := (s139_ 364 (F 368 (3 * (F 381 k.toNat) + p).toNat).toNat (by first | exact fs_c rfl | exact (fs_n (by omega) (fs_n (by omega) rfl)))).trans (e152_)
      have b154_ : 0 ≤ F 364 (F 368 (3 * (F 381 k.toNat) + p).toNat).toNat ∧ F 364 (F 368 (3 * (F 381 k.toNat) + p).toNat).toNat ≤ 2565726408 := gi_g hgi rfl
      refine ga_lald (z := F 368 (3 * (F 381 k.toNat) + p).toNat) (w := F 364 (F 368 (3 * (F 381 k.toNat) + p).toNat).toNat) hm_70 rfl sc_364 (by omega) (by omega) (by omega) (e153_) ?_
      have b155_ : -2147483648 ≤ F137_ 344 69 ∧ F137_ 344 69 ≤ 2147483647 := gi_g g138_ rfl
      refine gVv (nY := 8) (F := 1) (L := 21) (As := [.long (Int64.ofInt (F 364 (F 368 (3 * (F 381 k.toNat) + p).toNat).toNat))]) (b := 344) (rest := []) hm_70 rfl hm_191 rfl rfl (fl_ob sc_344) rfl rfl rfl rfl rfl (by omega) (by omega) (mc_191 hG F137_ X g138_ (F 364 (F 368 (3 * (F 381 k.toNat) + p).toNat).toNat) (⟨by omega, by omega⟩) (⟨by omega, by omega⟩)) (fun _ _ h => False.elim h) ?_
      rintro A1_ ⟨F158_, hA_, g159_, s160_, c157_⟩
      subst hA_
      have g161_ : fs [(344, 344, 0, 0), (344, 344, 67, 69)] F F158_ := fs_tr g140_ s160_ rfl
      refine ga_inc (a := p) (c := p + 1) (lv2 := [(4, .int (Int32.ofInt (p + 1))), (3, .int (Int32.ofInt (F 381 k.toNat))), (2, .int (Int32.ofInt k)), (0, .ref 344), (1, .int (Int32.ofInt i))]) hm_70 rfl rfl (Nat.le_of_ble_eq_true rfl) rfl rfl ?_
      refine fl_goto hm_70 rfl ?_
      have b162_ : -2147483648 ≤ F158_ 344 69 ∧ F158_ 344 69 ≤ 2147483647 := gi_g g159_ rfl
      exact ih106_ _ (by omega) (p + 1) F158_ rfl g159_ (fs_tr (fs_tr hf_F2 s139_ rfl) s160_ rfl) (⟨by omega, by omega⟩) (⟨by omega, by omega⟩)
    have b163_ : -2147483648 ≤ F100_ 344 69 ∧ F100_ 344 69 ≤ 2147483647 := gi_g g101_ rfl
    exact L105_ _ (0) F100_ rfl g101_ fs_refl (⟨by omega, by omega⟩) (⟨by omega, by omega⟩)
  have e164_ : F1_ 344 69 = F 344 69 := by rw [q2_]; exact (fl_u_ne (by first | exact nc_ rfl | decide | omega)).trans (fl_u_ne (by first | exact nc_ rfl | decide | omega))
  have b165_ : -2147483648 ≤ F 344 69 ∧ F 344 69 ≤ 2147483647 := gi_g hgi rfl
  exact L6_ _ (0) F1_ rfl g3_ fs_refl (⟨by omega, by omega⟩) (⟨by omega, by omega⟩)
/- CheapPlannerModel.put -/
abbrev pq_71 (G : Nat → Nat → Option Nat) (F : fl_N) (X : xi_H) (k : Int) : Outcome → xi_H → Prop := gqi (fun z A => ∃ F' : fl_N, fl_H sh_T G F' ++ X = A ∧ gi F' ∧ fs [(344, 344, 0, 0), (344, 344, 60, 60), (382, 382, 0, 100000)] F F' ∧ (0 ≤ z ∧ z ≤ 1) ∧ ((z = 1 ∧ (F 344 12 = 1 ∧ 0 ≤ k ∧ k < F 344 39 ∧ F 344 60 < 60) ∧ F' 344 60 = F 344 60 + 1 ∧ F' 382 (F 344 60).toNat = k ∧ ∀ j : Nat, (j : Int) < F 344 60 → F' 382 j = F 382 j) ∨ (z = 0 ∧ ¬ (F 344 12 = 1 ∧ 0 ≤ k ∧ k < F 344 39 ∧ F 344 60 < 60) ∧ F' 344 60 = F 344 60 ∧ ∀ j, F' 382 j = F 382 j))) gqn
theorem mc_71 {G : Nat → Nat → Option Nat} (hG : gg G) (F : fl_N) (X : xi_H) (hgi : gi F) (k : Int) (hk : -2147483648 ≤ k ∧ k ≤ 2147483647) : fl_M xi_ms 71 0 0 [.ref 344, .int (Int32.ofInt k)] (fl_H sh_T G F ++ X) (pq_71 G F X k) := by
  intro fr lo hfr hlo
  show fl_R xi_ms 71 fr lo 0 [(0, .ref 344), (1, .int (Int32.ofInt k))] [] _ _
  refine ga_aload_n (v := .ref 344) hm_71 rfl rfl rfl ?_
  refine fl_iconst hm_71 rfl ?_
  refine ga_puti (z := 0) hm_71 rfl sc_344 rfl rfl ?_
  refine ga_aload_n (v := .ref 344) hm_71 rfl rfl rfl ?_
  have b1_ : 0 ≤ F 344 12 ∧ F 344 12 ≤ 1 := gi_g hgi rfl
  refine ga_geti (z := F 344 12) hm_71 rfl sc_344 rfl (fl_u_ne (by first | exact nc_ rfl | decide | omega)) ?_
  refine fl_if_eq (a := F 344 12) hm_71 rfl ⟨by omega, by omega⟩ (fun h2_ => ?_) (fun h3_ => ?_)
  ·
    refine fl_iconst hm_71 rfl ?_
    obtain ⟨F4_, q5_⟩ : ∃ Fq_, Fq_ = (fl_u F 344 0 0) := ⟨_, rfl⟩
    rw [← q5_]
    have g6_ : gi F4_ := by rw [q5_]; exact gi_u (hgi) rfl (by omega) (by omega)
    have g7_ : fs [(344, 344, 0, 0), (344, 344, 60, 60), (382, 382, 0, 100000)] F F4_ := by rw [q5_]; exact fs_u (fs_refl) rfl
    refine gr_i (z := 0) hm_71 rfl rfl (ga_nb (by omega)) ?_
    have e8_ : F4_ 344 60 = F 344 60 := by rw [q5_]; exact fl_u_ne (by first | exact nc_ rfl | decide | omega)
    have b9_ : 0 ≤ F 344 60 ∧ F 344 60 ≤ 60 := gi_g hgi rfl
    have b10_ : 0 ≤ F 344 39 ∧ F 344 39 ≤ 40 := gi_g hgi rfl
    have e11_ : F4_ 344 12 = F 344 12 := by rw [q5_]; exact fl_u_ne (by first | exact nc_ rfl | decide | omega)
    exact ⟨F4_, rfl, g6_, g7_, (⟨by omega, by omega⟩), (Or.inr ⟨rfl, by omega, by omega, fun j => (show F4_ 382 j = F 382 j from (by rw [q5_]; exact (fl_u_ne (by first | exact nc_ rfl | decide | omega))))⟩)⟩
  refine ga_iload_n (z := k) hm_71 rfl rfl ?_
  refine fl_if_lt (a := k) hm_71 rfl ⟨by omega, by omega⟩ (fun h12_ => ?_) (fun h13_ => ?_)
  ·
    refine fl_iconst hm_71 rfl ?_
    obtain ⟨F14_, q15_⟩ : ∃ Fq_, Fq_ = (fl_u F 344 0 0) := ⟨_, rfl⟩
    rw [← q15_]
    have g16_ : gi F14_ := by rw [q15_]; exact gi_u (hgi) rfl (by omega) (by omega)
    have g17_ : fs [(344, 344, 0, 0), (344, 344, 60, 60), (382, 382, 0, 100000)] F F14_ := by rw [q15_]; exact fs_u (fs_refl) rfl
    refine gr_i (z := 0) hm_71 rfl rfl (ga_nb (by omega)) ?_
    have e18_ : F14_ 344 60 = F 344 60 := by rw [q15_]; exact fl_u_ne (by first | exact nc_ rfl | decide | omega)
    have b19_ : 0 ≤ F 344 60 ∧ F 344 60 ≤ 60 := gi_g hgi rfl
    have b20_ : 0 ≤ F 344 39 ∧ F 344 39 ≤ 40 := gi_g hgi rfl
    have e21_ : F14_ 344 12 = F 344 12 := by rw [q15_]; exact fl_u_ne (by first | exact nc_ rfl | decide | omega)
    exact ⟨F14_, rfl, g16_, g17_, (⟨by omega, by omega⟩), (Or.inr ⟨rfl, by omega, by omega, fun j => (show F14_ 382 j = F 382 j from (by rw [q15_]; exact (fl_u_ne (by first | exact nc_ rfl | decide | omega))))⟩)⟩
  refine ga_iload_n (z := k) hm_71 rfl rfl ?_
  refine ga_aload_n (v := .ref 344) hm_71 rfl rfl rfl ?_
  have b22_ : 0 ≤ F 344 39 ∧ F 344 39 ≤ 40 := gi_g hgi rfl
  refine ga_geti (z := F 344 39) hm_71 rfl sc_344 rfl (fl_u_ne (by first | exact nc_ rfl | decide | omega)) ?_
  refine fl_icmp_ge (a := k) (b := F 344 39) hm_71 rfl ⟨by omega, by omega⟩ ⟨by omega, by omega⟩ (fun h23_ => ?_) (fun h24_ => ?_)
  ·
    refine fl_iconst hm_71 rfl ?_
    obtain ⟨F25_, q26_⟩ : ∃ Fq_, Fq_ = (fl_u F 344 0 0) := ⟨_, rfl⟩
    rw [← q26_]
    have g27_ : gi F25_ := by rw [q26_]; exact gi_u (hgi) rfl (by omega) (by omega)
    have g28_ : fs [(344, 344, 0, 0), (344, 344, 60, 60), (382, 382, 0, 100000)] F F25_ := by rw [q26_]; exact fs_u (fs_refl) rfl
    refine gr_i (z := 0) hm_71 rfl rfl (ga_nb (by omega)) ?_
    have e29_ : F25_ 344 60 = F 344 60 := by rw [q26_]; exact fl_u_ne (by first | exact nc_ rfl | decide | omega)
    have b30_ : 0 ≤ F 344 60 ∧ F 344 60 ≤ 60 := gi_g hgi rfl
    have e31_ : F25_ 344 12 = F 344 12 := by rw [q26_]; exact fl_u_ne (by first | exact nc_ rfl | decide | omega)
    exact ⟨F25_, rfl, g27_, g28_, (⟨by omega, by omega⟩), (Or.inr ⟨rfl, by omega, by omega, fun j => (show F25_ 382 j = F 382 j from (by rw [q26_]; exact (fl_u_ne (by first | exact nc_ rfl | decide | omega))))⟩)⟩
  refine ga_aload_n (v := .ref 344) hm_71 rfl rfl rfl ?_
  have b32_ : 0 ≤ F 344 60 ∧ F 344 60 ≤ 60 := gi_g hgi rfl
  refine ga_geti (z := F 344 60) hm_71 rfl sc_344 rfl (fl_u_ne (by first | exact nc_ rfl | decide | omega)) ?_
  refine fl_bipush hm_71 rfl rfl ?_
  refine fx_icmp_ne (a := F 344 60) (b := 60) hm_71 rfl ⟨by omega, by omega⟩ ⟨by omega, by omega⟩ (fun h33_ => ?_) (fun h34_ => ?_)
  ·
    refine ga_aload_n (v := .ref 344) hm_71 rfl rfl rfl ?_
    refine ga_getr (b := 382) hm_71 rfl sc_344 rfl ?_
    refine ga_aload_n (v := .ref 344) hm_71 rfl rfl rfl ?_
    refine ga_geti (z := F 344 60) hm_71 rfl sc_344 rfl (fl_u_ne (by first | exact nc_ rfl | decide | omega)) ?_
    refine ga_iload_n (z := k) hm_71 rfl rfl ?_
    refine fl_iast (z := F 344 60) (v := k) hm_71 rfl sc_382 (by omega) (by omega) (by omega) ?_
    refine ga_aload_n (v := .ref 344) hm_71 rfl rfl rfl ?_
    refine ga_dup hm_71 rfl rfl ?_
    refine ga_geti (z := F 344 60) hm_71 rfl sc_344 rfl ((fl_u_ne (by first | exact nc_ rfl | decide | omega)).trans (fl_u_ne (by first | exact nc_ rfl | decide | omega))) ?_
    refine fl_iconst hm_71 rfl ?_
    refine ga_iadd (a := F 344 60) (b := 1) (c := F 344 60 + 1) hm_71 rfl (by omega) ?_
    refine ga_puti (z := F 344 60 + 1) hm_71 rfl sc_344 rfl rfl ?_
    refine fl_iconst hm_71 rfl ?_
    obtain ⟨F35_, q36_⟩ : ∃ Fq_, Fq_ = (fl_u (fl_u (fl_u F 344 0 0) 382 (F 344 60).toNat k) 344 60 (F 344 60 + 1)) := ⟨_, rfl⟩
    rw [← q36_]
    have g37_ : gi F35_ := by rw [q36_]; exact gi_u (gi_u (gi_u (hgi) rfl (by omega) (by omega)) rfl (by omega) (by omega)) rfl (by omega) (by omega)
    have g38_ : fs [(344, 344, 0, 0), (344, 344, 60, 60), (382, 382, 0, 100000)] F F35_ := by rw [q36_]; exact fs_u (fs_u (fs_u (fs_refl) rfl) (fs_z (fs_z (fs_y (by omega))))) rfl
    refine gr_i (z := 1) hm_71 rfl rfl (ga_nb (by omega)) ?_
    have e39_ : F35_ 344 60 = F 344 60 + 1 := by rw [q36_]; exact fl_u_eq
    have e40_ : F35_ 344 12 = F 344 12 := by rw [q36_]; exact (fl_u_ne (by first | exact nc_ rfl | decide | omega)).trans ((fl_u_ne (by first | exact nc_ rfl | decide | omega)).trans (fl_u_ne (by first | exact nc_ rfl | decide | omega)))
    have e41_ : F35_ 382 (F 344 60).toNat = k := by rw [q36_]; exact (fl_u_ne (by first | exact nc_ rfl | decide | omega)).trans (fl_u_eq)
    exact ⟨F35_, rfl, g37_, g38_, (⟨by omega, by omega⟩), (Or.inl ⟨rfl, by omega, by omega, e41_, fun j hj => (show F35_ 382 j = F 382 j from (by rw [q36_]; exact (fl_u_ne (by first | exact nc_ rfl | decide | omega)).trans ((fl_u_ne (by first | exact nc_ rfl | decide | omega)).trans ((fl_u_ne (by first | exact nc_ rfl | decide | omega))))))⟩)⟩
  refine fl_iconst hm_71 rfl ?_
  obtain ⟨F42_, q43_⟩ : ∃ Fq_, Fq_ = (fl_u F 344 0 0) := ⟨_, rfl⟩
  rw [← q43_]
  have g44_ : gi F42_ := by rw [q43_]; exact gi_u (hgi) rfl (by omega) (by omega)
  have g45_ : fs [(344, 344, 0, 0), (344, 344, 60, 60), (382, 382, 0, 100000)] F F42_ := by rw [q43_]; exact fs_u (fs_refl) rfl
  refine gr_i (z := 0) hm_71 rfl rfl (ga_nb (by omega)) ?_
  have e46_ : F42_ 344 60 = F 344 60 := by rw [q43_]; exact fl_u_ne (by first | exact nc_ rfl | decide | omega)
  have e47_ : F42_ 344 12 = F 344 12 := by rw [q43_]; exact fl_u_ne (by first | exact nc_ rfl | decide | omega)
  exact ⟨F42_, rfl, g44_, g45_, (⟨by omega, by omega⟩), (Or.inr ⟨rfl, by omega, by omega, fun j => (show F42_ 382 j = F 382 j from (by rw [q43_]; exact (fl_u_ne (by first | exact nc_ rfl | decide | omega))))⟩)⟩
/- CheapPlannerModel.check -/
abbrev pq_72 (G : Nat → Nat → Option Nat) (F : fl_N) (X : xi_H)  : Outcome → xi_H → Prop := gqi (fun z A => ∃ F' : fl_N, fl_H sh_T G F' ++ X = A ∧ gi F' ∧ fs [(344, 344, 0, 0), (344, 344, 60, 60)] F F' ∧ (-2147483648 ≤ z ∧ z ≤ 2147483647) ∧ ((F 344 12 = 1 → F' 344 60 = 0) ∧ (F 344 12 = 0 → F' 344 60 = F 344 60)) ∧ ((F' 344 0 = 1 ∧ F 344 12 = 0) ∨ (F' 344 0 = 0 ∧ F 344 12 = 1 ∧ ((∃ (j : Nat) (s c : Int), (j : Int) < F 344 60 ∧ ckR F j s c ∧ ¬ cbe F (F 382 j) s ∧ z = -1 - (j : Int)) ∨ (∃ s c : Int, ckR F (F 344 60).toNat s c ∧ ((gR F s ∧ z = c) ∨ (¬ gR F s ∧ z = -100))))))) gqn
theorem mc_72 {G : Nat → Nat → Option Nat} (hG : gg G) (F : fl_N) (X : xi_H) (hgi : gi F)  : fl_M xi_ms 72 1 23 [.ref 344] (fl_H sh_T G F ++ X) (pq_72 G F X) := by
  intro fr lo hfr hlo
  show fl_R xi_ms 72 fr lo 0 [(0, .ref 344)] [] _ _
  refine ga_aload_n (v := .ref 344) hm_72 rfl rfl rfl ?_
  refine ga_aload_n (v := .ref 344) hm_72 rfl rfl rfl ?_
  have b1_ : 0 ≤ F 344 12 ∧ F 344 12 ≤ 1 := gi_g hgi rfl
  refine ga_geti (z := F 344 12) hm_72 rfl sc_344 rfl (rfl) ?_
  refine fl_if_eq (a := F 344 12) hm_72 rfl ⟨by omega, by omega⟩ (fun h2_ => ?_) (fun h3_ => ?_)
  ·
    refine fl_iconst hm_72 rfl ?_
    refine ga_puti (z := 1) hm_72 rfl sc_344 rfl rfl ?_
    refine ga_aload_n (v := .ref 344) hm_72 rfl rfl rfl ?_
    refine ga_geti (z := 1) hm_72 rfl sc_344 rfl (fl_u_eq) ?_
    refine fl_if_le hm_72 rfl ⟨by omega, by omega⟩ (fun h => absurd h (by omega)) (fun _ => ?_)
    refine fl_iconst hm_72 rfl ?_
    obtain ⟨F4_, q5_⟩ : ∃ Fq_, Fq_ = (fl_u F 344 0 1) := ⟨_, rfl⟩
    rw [← q5_]
    have g6_ : gi F4_ := by rw [q5_]; exact gi_u (hgi) rfl (by omega) (by omega)
    have g7_ : fs [(344, 344, 0, 0), (344, 344, 60, 60)] F F4_ := by rw [q5_]; exact fs_u (fs_refl) rfl
    refine gr_i (z := 0) hm_72 rfl rfl rfl ?_
    have e8_ : F4_ 344 60 = F 344 60 := by rw [q5_]; exact fl_u_ne (by first | exact nc_ rfl | decide | omega)
    have b9_ : 0 ≤ F 344 60 ∧ F 344 60 ≤ 60 := gi_g hgi rfl
    have e10_ : F4_ 344 0 = 1 := by rw [q5_]; exact fl_u_eq
    exact ⟨F4_, rfl, g6_, g7_, (⟨by omega, by omega⟩), (⟨fun h9_ => by omega, fun h9_ => by omega⟩), (Or.inl ⟨by omega, by omega⟩)⟩
  refine fl_iconst hm_72 rfl ?_
  refine fl_goto hm_72 rfl ?_
  refine ga_puti (z := 0) hm_72 rfl sc_344 rfl rfl ?_
  refine ga_aload_n (v := .ref 344) hm_72 rfl rfl rfl ?_
  refine ga_geti (z := 0) hm_72 rfl sc_344 rfl (fl_u_eq) ?_
  refine fl_if_le hm_72 rfl ⟨by omega, by omega⟩ (fun _ => ?_) (fun h => absurd (by omega) h)
  refine ga_aload_n (v := .ref 344) hm_72 rfl rfl rfl ?_
  have b11_ : -9223372036854775808 ≤ F 344 38 ∧ F 344 38 ≤ 9223372036854775807 := gi_g hgi rfl
  refine ga_getl (z := F 344 38) hm_72 rfl sc_344 rfl (fl_u_ne (by first | exact nc_ rfl | decide | omega)) ?_
  refine ga_lstore_n (lv2 := [(1, .long (Int64.ofInt (F 344 38))), (0, .ref 344)]) hm_72 rfl (Nat.le_of_ble_eq_true rfl) rfl ?_
  refine fl_iconst hm_72 rfl ?_
  refine ga_istore_n (lv2 := [(3, .int (Int32.ofInt 0)), (1, .long (Int64.ofInt (F 344 38))), (0, .ref 344)]) hm_72 rfl (Nat.le_of_ble_eq_true rfl) rfl ?_
  refine ga_aload_n (v := .ref 344) hm_72 rfl rfl rfl ?_
  have b12_ : 0 ≤ F 344 60 ∧ F 344 60 ≤ 60 := gi_g hgi rfl
  refine ga_geti (z := F 344 60) hm_72 rfl sc_344 rfl (fl_u_ne (by first | exact nc_ rfl | decide | omega)) ?_
  refine ga_istore (lv2 := [(4, .int (Int32.ofInt (F 344 60))), (3, .int (Int32.ofInt 0)), (1, .long (Int64.ofInt (F 344 38))), (0, .ref 344)]) hm_72 rfl (Nat.le_of_ble_eq_true rfl) rfl ?_
  refine ga_aload_n (v := .ref 344) hm_72 rfl rfl rfl ?_
  refine fl_iconst hm_72 rfl ?_
  refine ga_puti (z := 0) hm_72 rfl sc_344 rfl rfl ?_
  refine fl_iconst hm_72 rfl ?_
  refine ga_istore (lv2 := [(5, .int (Int32.ofInt 0)), (4, .int (Int32.ofInt (F 344 60))), (3, .int (Int32.ofInt 0)), (1, .long (Int64.ofInt (F 344 38))), (0, .ref 344)]) hm_72 rfl (Nat.le_of_ble_eq_true rfl) rfl ?_
  obtain ⟨F13_, q14_⟩ : ∃ Fq_, Fq_ = (fl_u (fl_u F 344 0 0) 344 60 0) := ⟨_, rfl⟩
  rw [← q14_]
  have g15_ : gi F13_ := by rw [q14_]; exact gi_u (gi_u (hgi) rfl (by omega) (by omega)) rfl (by omega) (by omega)
  have g16_ : fs [(344, 344, 0, 0), (344, 344, 60, 60)] F F13_ := by rw [q14_]; exact fs_u (fs_u (fs_refl) rfl) rfl
  have L18_ : ∀ (n17_ : Nat) (now : Int) (sm : Int) (k : Int), (60 - k : Int).toNat = n17_ → (0 ≤ k ∧ k ≤ 60 ∧ k ≤ F 344 60) → (-1000 * k ≤ sm ∧ sm ≤ 2000 * k) → (-9223372036854775808 ≤ now ∧ now ≤ 9223372036854775807) → (ckR F k.toNat now sm) → fl_R xi_ms 72 fr lo 46 [(5, .int (Int32.ofInt k)), (4, .int (Int32.ofInt (F 344 60))), (3, .int (Int32.ofInt sm)), (1, .long (Int64.ofInt now)), (0, .ref 344)] [] (fl_H sh_T G F13_ ++ X) (pq_72 G F X) := by
    intro n17_
    induction n17_ using Nat.strongRecOn with
    | ind n17_ ih19_ =>
    intro now sm k hn20_ hk hsm hnow hck
    refine ga_iload (z := k) hm_72 rfl rfl ?_
    refine ga_iload (z := F 344 60) hm_72 rfl rfl ?_
    refine fl_icmp_ge (a := k) (b := F 344 60) hm_72 rfl ⟨by omega, by omega⟩ ⟨by omega, by omega⟩ (fun h21_ => ?_) (fun h22_ => ?_)
    ·
      refine ga_aload_n (v := .ref 344) hm_72 rfl rfl rfl ?_
      refine ga_lload_n (z := now) hm_72 rfl rfl ?_
      refine gVi (nY := 3) (F := 0) (L := 0) (As := [.long (Int64.ofInt now)]) (b := 344) (rest := []) hm_72 rfl hm_168 rfl rfl (fl_ob sc_344) rfl rfl rfl rfl rfl (by omega) (by omega) (mc_168 hG F13_ X g15_ (now) (⟨by omega, by omega⟩)) (fun _ _ h => False.elim h) ?_
      rintro z23_ A1_ ⟨hA_, c24_, c25_⟩
      subst hA_
      refine fl_if_eq (a := z23_) hm_72 rfl ⟨by omega, by omega⟩ (fun h26_ => ?_) (fun h27_ => ?_)
      ·
        refine fl_bipush hm_72 rfl rfl ?_
        refine gr_i (z := -100) hm_72 rfl rfl rfl ?_
        have e28_ : F13_ 344 60 = 0 := by rw [q14_]; exact fl_u_eq
        have e29_ : F13_ 344 0 = 0 := by rw [q14_]; exact (fl_u_ne (by first | exact nc_ rfl | decide | omega)).trans (fl_u_eq)
        exact ⟨F13_, rfl, g15_, g16_, (⟨by omega, by omega⟩), (⟨fun h9_ => by omega, fun h9_ => by omega⟩), (Or.inr ⟨by omega, by omega, Or.inr ⟨now, sm, (by rw [show (F 344 60).toNat = k.toNat by omega]; exact hck), by rcases c25_ with ⟨h7_, h8_⟩ | ⟨h7_, h8_⟩ <;> unfold gR at h8_ ⊢ <;> rw [(show F13_ 344 48 = F 344 48 from (show F13_ 344 48 = F 344 48 from (by rw [q14_]; exact (fl_u_ne (by first | exact nc_ rfl | decide | omega)).trans ((fl_u_ne (by first | exact nc_ rfl | decide | omega)))))), (show F13_ 344 46 = F 344 46 from (show F13_ 344 46 = F 344 46 from (by rw [q14_]; exact (fl_u_ne (by first | exact nc_ rfl | decide | omega)).trans ((fl_u_ne (by first | exact nc_ rfl | decide | omega)))))), (show F13_ 344 47 = F 344 47 from (show F13_ 344 47 = F 344 47 from (by rw [q14_]; exact (fl_u_ne (by first | exact nc_ rfl | decide | omega)).trans ((fl_u_ne (by first | exact nc_ rfl | decide | omega))))))] at h8_ <;> first | exact Or.inl ⟨h8_, by omega⟩ | exact Or.inr ⟨h8_, by omega⟩ | (exfalso; omega)⟩⟩)⟩
      refine ga_iload_n (z := sm) hm_72 rfl rfl ?_
      refine fl_goto hm_72 rfl ?_
      refine gr_i (z := sm) hm_72 rfl rfl rfl ?_
      have e30_ : F13_ 344 60 = 0 := by rw [q14_]; exact fl_u_eq
      have e31_ : F13_ 344 0 = 0 := by rw [q14_]; exact (fl_u_ne (by first | exact nc_ rfl | decide | omega)).trans (fl_u_eq)
      exact ⟨F13_, rfl, g15_, g16_, (⟨by omega, by omega⟩), (⟨fun h9_ => by omega, fun h9_ => by omega⟩), (Or.inr ⟨by omega, by omega, Or.inr ⟨now, sm, (by rw [show (F 344 60).toNat = k.toNat by omega]; exact hck), by rcases c25_ with ⟨h7_, h8_⟩ | ⟨h7_, h8_⟩ <;> unfold gR at h8_ ⊢ <;> rw [(show F13_ 344 48 = F 344 48 from (show F13_ 344 48 = F 344 48 from (by rw [q14_]; exact (fl_u_ne (by first | exact nc_ rfl | decide | omega)).trans ((fl_u_ne (by first | exact nc_ rfl | decide | omega)))))), (show F13_ 344 46 = F 344 46 from (show F13_ 344 46 = F 344 46 from (by rw [q14_]; exact (fl_u_ne (by first | exact nc_ rfl | decide | omega)).trans ((fl_u_ne (by first | exact nc_ rfl | decide | omega)))))), (show F13_ 344 47 = F 344 47 from (show F13_ 344 47 = F 344 47 from (by rw [q14_]; exact (fl_u_ne (by first | exact nc_ rfl | decide | omega)).trans ((fl_u_ne (by first | exact nc_ rfl | decide | omega))))))] at h8_ <;> first | exact Or.inl ⟨h8_, by omega⟩ | exact Or.inr ⟨h8_, by omega⟩ | (exfalso; omega)⟩⟩)⟩
    refine ga_aload_n (v := .ref 344) hm_72 rfl rfl rfl ?_
    refine ga_getr (b := 382) hm_72 rfl sc_344 rfl ?_
    refine ga_iload (z := k) hm_72 rfl rfl ?_
    have e32_ : F13_ 382 k.toNat = F 382 k.toNat := by rw [q14_]; exact (fl_u_ne (by first | exact nc_ rfl | decide | omega)).trans (fl_u_ne (by first | exact nc_ rfl | decide | omega))
    have b33_ : 0 ≤ F 382 k.toNat ∧ F 382 k.toNat ≤ 39 := gi_g hgi rfl
    refine ga_iald (z := k) (w := F 382 k.toNat) hm_72 rfl sc_382 (by omega) (by omega) (by omega) (e32_) ?_
    refine ga_istore (lv2 := [(6, .int (Int32.ofInt (F 382 k.toNat))), (5, .int (Int32.ofInt k)), (4, .int (Int32.ofInt (F 344 60))), (3, .int (Int32.ofInt sm)), (1, .long (Int64.ofInt now)), (0, .ref 344)]) hm_72 rfl (Nat.le_of_ble_eq_true rfl) rfl ?_
    refine ga_aload_n (v := .ref 344) hm_72 rfl rfl rfl ?_
    refine ga_iload (z := F 382 k.toNat) hm_72 rfl rfl ?_
    refine ga_lload_n (z := now) hm_72 rfl rfl ?_
    refine gVi (nY := 4) (F := 0) (L := 0) (As := [.int (Int32.ofInt (F 382 k.toNat)), .long (Int64.ofInt now)]) (b := 344) (rest := []) hm_72 rfl hm_157 rfl rfl (fl_ob sc_344) rfl rfl rfl rfl rfl (by omega) (by omega) (mc_157 hG F13_ X g15_ (F 382 k.toNat) (now) (⟨by omega, by omega⟩) (⟨by omega, by omega⟩)) (fun _ _ h => False.elim h) ?_
    rintro z34_ A1_ (⟨hA_, hz_, c35_⟩ | ⟨hA_, hz_, c36_⟩)
    ·
      subst hA_
      subst hz_
      refine fl_if_ne hm_72 rfl ⟨by omega, by omega⟩ (fun h => absurd h (by omega)) (fun _ => ?_)
      refine fl_iconst hm_72 rfl ?_
      refine ga_iload (z := k) hm_72 rfl rfl ?_
      refine ga_isub (a := -1) (b := k) (c := -k - 1) hm_72 rfl (by omega) ?_
      refine gr_i (z := -k - 1) hm_72 rfl rfl rfl ?_
      have e37_ : F13_ 344 60 = 0 := by rw [q14_]; exact fl_u_eq
      have e38_ : F13_ 344 0 = 0 := by rw [q14_]; exact (fl_u_ne (by first | exact nc_ rfl | decide | omega)).trans (fl_u_eq)
      exact ⟨F13_, rfl, g15_, g16_, (⟨by omega, by omega⟩), (⟨fun h9_ => by omega, fun h9_ => by omega⟩), (Or.inr ⟨by omega, by omega, Or.inl ⟨k.toNat, now, sm, by omega, hck, fun h8_ => c35_ (by unfold cbe at h8_ ⊢; rw [(show F13_ 369 (F 382 k.toNat).toNat = F 369 (F 382 k.toNat).toNat from (show F13_ 369 (F 382 k.toNat).toNat = F 369 (F 382 k.toNat).toNat from (by rw [q14_]; exact (fl_u_ne (by first | exact nc_ rfl | decide | omega)).trans ((fl_u_ne (by first | exact nc_ rfl | decide | omega)))))), (show F13_ 370 (F 382 k.toNat).toNat = F 370 (F 382 k.toNat).toNat from (show F13_ 370 (F 382 k.toNat).toNat = F 370 (F 382 k.toNat).toNat from (by rw [q14_]; exact (fl_u_ne (by first | exact nc_ rfl | decide | omega)).trans ((fl_u_ne (by first | exact nc_ rfl | decide | omega))))))]; exact h8_), by omega⟩⟩)⟩
    subst hA_
    subst hz_
    refine fl_if_ne hm_72 rfl ⟨by omega, by omega⟩ (fun _ => ?_) (fun h => absurd (by omega) h)
    refine ga_aload_n (v := .ref 344) hm_72 rfl rfl rfl ?_
    refine ga_iload (z := F 382 k.toNat) hm_72 rfl rfl ?_
    refine ga_lload_n (z := now) hm_72 rfl rfl ?_
    refine gVl (nY := 4) (F := 0) (L := 0) (As := [.int (Int32.ofInt (F 382 k.toNat)), .long (Int64.ofInt now)]) (b := 344) (rest := []) hm_72 rfl hm_158 rfl rfl (fl_ob sc_344) rfl rfl rfl rfl rfl (by omega) (by omega) (mc_158 hG F13_ X g15_ (F 382 k.toNat) (now) (⟨by omega, by omega⟩) (⟨by omega, by omega⟩)) (fun _ _ h => False.elim h) ?_
    rintro z39_ A1_ ⟨hA_, c40_, c41_⟩
    subst hA_
    refine ga_lstore_n (lv2 := [(1, .long (Int64.ofInt z39_)), (6, .int (Int32.ofInt (F 382 k.toNat))), (5, .int (Int32.ofInt k)), (4, .int (Int32.ofInt (F 344 60))), (3, .int (Int32.ofInt sm)), (0, .ref 344)]) hm_72 rfl (Nat.le_of_ble_eq_true rfl) rfl ?_
    refine ga_iload_n (z := sm) hm_72 rfl rfl ?_
    refine ga_aload_n (v := .ref 344) hm_72 rfl rfl rfl ?_
    refine ga_getr (b := 357) hm_72 rfl sc_344 rfl ?_
    refine ga_aload_n (v := .ref 344) hm_72 rfl rfl rfl ?_
    refine ga_getr (b := 367) hm_72 rfl sc_344 rfl ?_
    refine ga_iload (z := F 382 k.toNat) hm_72 rfl rfl ?_
    have e42_ : F13_ 367 (F 382 k.toNat).toNat = F 367 (F 382 k.toNat).toNat := by rw [q14_]; exact (fl_u_ne (by first | exact nc_ rfl | decide | omega)).trans (fl_u_ne (by first | exact nc_ rfl | decide | omega))
    have b43_ : 0 ≤ F 367 (F 382 k.toNat).toNat ∧ F 367 (F 382 k.toNat).toNat ≤ 4 := gi_g hgi rfl
    refine ga_iald (z := F 382 k.toNat) (w := F 367 (F 382 k.toNat).toNat) hm_72 rfl sc_367 (by omega) (by omega) (by omega) (e42_) ?_
    have e44_ : F13_ 357 (F 367 (F 382 k.toNat).toNat).toNat = F 357 (F 367 (F 382 k.toNat).toNat).toNat := by rw [q14_]; exact (fl_u_ne (by first | exact nc_ rfl | decide | omega)).trans (fl_u_ne (by first | exact nc_ rfl | decide | omega))
    have b45_ : -1000 ≤ F 357 (F 367 (F 382 k.toNat).toNat).toNat ∧ F 357 (F 367 (F 382 k.toNat).toNat).toNat ≤ 2000 := gi_g hgi rfl
    refine ga_iald (z := F 367 (F 382 k.toNat).toNat) (w := F 357 (F 367 (F 382 k.toNat).toNat).toNat) hm_72 rfl sc_357 (by omega) (by omega) (by omega) (e44_) ?_
    refine ga_iadd (a := sm) (b := F 357 (F 367 (F 382 k.toNat).toNat).toNat) (c := sm + F 357 (F 367 (F 382 k.toNat).toNat).toNat) hm_72 rfl (by omega) ?_
    refine ga_istore_n (lv2 := [(3, .int (Int32.ofInt (sm + F 357 (F 367 (F 382 k.toNat).toNat).toNat))), (1, .long (Int64.ofInt z39_)), (6, .int (Int32.ofInt (F 382 k.toNat))), (5, .int (Int32.ofInt k)), (4, .int (Int32.ofInt (F 344 60))), (0, .ref 344)]) hm_72 rfl (Nat.le_of_ble_eq_true rfl) rfl ?_
    refine ga_inc (a := k) (c := k + 1) (lv2 := [(5, .int (Int32.ofInt (k + 1))), (3, .int (Int32.ofInt (sm + F 357 (F 367 (F 382 k.toNat).toNat).toNat))), (1, .long (Int64.ofInt z39_)), (6, .int (Int32.ofInt (F 382 k.toNat))), (4, .int (Int32.ofInt (F 344 60))), (0, .ref 344)]) hm_72 rfl rfl (Nat.le_of_ble_eq_true rfl) rfl rfl ?_
    refine fl_goto hm_72 rfl ?_
    exact fl_R_sub (lv' := [(5, .int (Int32.ofInt (k + 1))), (4, .int (Int32.ofInt (F 344 60))), (3, .int (Int32.ofInt (sm + F 357 (F 367 (F 382 k.toNat).toNat).toNat))), (1, .long (Int64.ofInt z39_)), (0, .ref 344)]) rfl rfl (ih19_ _ (by omega) (z39_) (sm + F 357 (F 367 (F 382 k.toNat).toNat).toNat) (k + 1) rfl (⟨by omega, by omega, by omega⟩) (⟨by omega, by omega⟩) (⟨by omega, by omega⟩) (by rw [show (k + 1).toNat = k.toNat + 1 by omega]; exact ⟨now, sm, hck, (by have h8_ := c36_; unfold cbe at h8_ ⊢; rw [(show F13_ 369 (F 382 k.toNat).toNat = F 369 (F 382 k.toNat).toNat from (show F13_ 369 (F 382 k.toNat).toNat = F 369 (F 382 k.toNat).toNat from (by rw [q14_]; exact (fl_u_ne (by first | exact nc_ rfl | decide | omega)).trans ((fl_u_ne (by first | exact nc_ rfl | decide | omega)))))), (show F13_ 370 (F 382 k.toNat).toNat = F 370 (F 382 k.toNat).toNat from (show F13_ 370 (F 382 k.toNat).toNat = F 370 (F 382 k.toNat).toNat from (by rw [q14_]; exact (fl_u_ne (by first | exact nc_ rfl | decide | omega)).trans ((fl_u_ne (by first | exact nc_ rfl | decide | omega))))))] at h8_; exact h8_), Eq.trans c40_ (by unfold dne; rw [(show F13_ 372 (F 382 k.toNat).toNat = F 372 (F 382 k.toNat).toNat from (show F13_ 372 (F 382 k.toNat).toNat = F 372 (F 382 k.toNat).toNat from (by rw [q14_]; exact (fl_u_ne (by first | exact nc_ rfl | decide | omega)).trans ((fl_u_ne (by first | exact nc_ rfl | decide | omega)))))), (show F13_ 371 (F 382 k.toNat).toNat = F 371 (F 382 k.toNat).toNat from (show F13_ 371 (F 382 k.toNat).toNat = F 371 (F 382 k.toNat).toNat from (by rw [q14_]; exact (fl_u_ne (by first | exact nc_ rfl | decide | omega)).trans ((fl_u_ne (by first | exact nc_ rfl | decide | omega))))))]), rfl⟩))
  exact L18_ _ (F 344 38) (0) (0) rfl (⟨by omega, by omega, by omega⟩) (⟨by omega, by omega⟩) (⟨by omega, by omega⟩) (⟨rfl, rfl⟩)
/- CheapPlannerModel.together -/
abbrev pq_192 (G : Nat → Nat → Option Nat) (F : fl_N) (X : xi_H) (bi w : Int) : Outcome → xi_H → Prop := gqi (fun z A => fl_H sh_T G F ++ X = A ∧ (-1 ≤ z ∧ z ≤ 100000)) gqn
theorem mc_192 {G : Nat → Nat → Option Nat} (hG : gg G) (F : fl_N) (X : xi_H) (hgi : gi F) (bi w : Int) (hbi : -9223372036854775808 ≤ bi ∧ bi ≤ 9223372036854775807) (hw : 0 ≤ w ∧ w ≤ 1) (h36 : F 344 36 ≤ 40) (hwb : wbd F (F 344 36)) : fl_M xi_ms 192 0 0 [.ref 344, .long (Int64.ofInt bi), .int (Int32.ofInt w)] (fl_H sh_T G F ++ X) (pq_192 G F X bi w) := by
  intro fr lo hfr hlo
  show fl_R xi_ms 192 fr lo 0 [(0, .ref 344), (1, .long (Int64.ofInt bi)), (3, .int (Int32.ofInt w))] [] _ _
  refine fl_iconst hm_192 rfl ?_
  refine ga_istore (lv2 := [(4, .int (Int32.ofInt 0)), (0, .ref 344), (1, .long (Int64.ofInt bi)), (3, .int (Int32.ofInt w))]) hm_192 rfl (Nat.le_of_ble_eq_true rfl) rfl ?_
  refine fl_iconst hm_192 rfl ?_
  refine ga_istore (lv2 := [(5, .int (Int32.ofInt 0)), (4, .int (Int32.ofInt 0)), (0, .ref 344), (1, .long (Int64.ofInt bi)), (3, .int (Int32.ofInt w))]) hm_192 rfl (Nat.le_of_ble_eq_true rfl) rfl ?_
  have L2_ : ∀ (n1_ : Nat) (f : Int) (v : Int), (40 - f : Int).toNat = n1_ → (0 ≤ f ∧ f ≤ 40) → (0 ≤ v ∧ v ≤ 100000 * f) → fl_R xi_ms 192 fr lo 6 [(5, .int (Int32.ofInt f)), (4, .int (Int32.ofInt v)), (0, .ref 344), (1, .long (Int64.ofInt bi)), (3, .int (Int32.ofInt w))] [] (fl_H sh_T G F ++ X) (pq_192 G F X bi w) := by
    intro n1_
    induction n1_ using Nat.strongRecOn with
    | ind n1_ ih3_ =>
    intro f v hn4_ hf hv
    refine ga_iload (z := f) hm_192 rfl rfl ?_
    refine ga_aload_n (v := .ref 344) hm_192 rfl rfl rfl ?_
    have b5_ : 0 ≤ F 344 36 ∧ F 344 36 ≤ 216 := gi_g hgi rfl
    refine ga_geti (z := F 344 36) hm_192 rfl sc_344 rfl (rfl) ?_
    refine fl_icmp_ge (a := f) (b := F 344 36) hm_192 rfl ⟨by omega, by omega⟩ ⟨by omega, by omega⟩ (fun h6_ => ?_) (fun h7_ => ?_)
    ·
      refine ga_iload (z := v) hm_192 rfl rfl ?_
      refine ga_ldcwi (z := 100000) hm_192 rfl (by decide) ?_
      refine fl_icmp_le (a := v) (b := 100000) hm_192 rfl ⟨by omega, by omega⟩ ⟨by omega, by omega⟩ (fun h8_ => ?_) (fun h9_ => ?_)
      ·
        refine ga_iload (z := v) hm_192 rfl rfl ?_
        refine gr_i (z := v) hm_192 rfl rfl rfl ?_
        exact ⟨rfl, (⟨by omega, by omega⟩)⟩
      refine ga_ldcwi (z := 100000) hm_192 rfl (by decide) ?_
      refine fl_goto hm_192 rfl ?_
      refine gr_i (z := 100000) hm_192 rfl rfl rfl ?_
      exact ⟨rfl, (⟨by omega, by omega⟩)⟩
    refine ga_lload_n (z := bi) hm_192 rfl rfl ?_
    refine ga_iload (z := f) hm_192 rfl rfl ?_
    refine ga_lany hm_192 rfl rfl rfl (fun z10_ ⟨h11_, h12_⟩ => ?_)
    refine ga_lconst (z := 1) hm_192 rfl rfl ?_
    refine ga_lany hm_192 rfl rfl rfl (fun z13_ ⟨h14_, h15_⟩ => ?_)
    refine ga_lconst (z := 0) hm_192 rfl rfl ?_
    refine ga_lcmpn (a := z13_) (b := 0) hm_192 rfl rfl ⟨by omega, by omega⟩ ⟨by omega, by omega⟩ (fun h16_ => ?_) (fun h17_ => ?_)
    ·
      have hwf := hwb f.toNat (by omega)
      refine ga_aload_n (v := .ref 344) hm_192 rfl rfl rfl ?_
      refine ga_getr (b := 385) hm_192 rfl sc_344 rfl ?_
      refine ga_iload (z := f) hm_192 rfl rfl ?_
      have b18_ : -2147483648 ≤ F 385 f.toNat ∧ F 385 f.toNat ≤ 2147483647 := gi_g hgi rfl
      refine ga_iald (z := f) (w := F 385 f.toNat) hm_192 rfl sc_385 (by omega) (by omega) (by omega) (rfl) ?_
      refine fl_iconst hm_192 rfl ?_
      refine fx_icmp_ne (a := F 385 f.toNat) (b := -1) hm_192 rfl ⟨by omega, by omega⟩ ⟨by omega, by omega⟩ (fun h19_ => ?_) (fun h20_ => ?_)
      ·
        refine ga_iload_n (z := w) hm_192 rfl rfl ?_
        refine fl_iconst hm_192 rfl ?_
        refine fx_icmp_ne (a := w) (b := 1) hm_192 rfl ⟨by omega, by omega⟩ ⟨by omega, by omega⟩ (fun h21_ => ?_) (fun h22_ => ?_)
        ·
          refine ga_aload_n (v := .ref 344) hm_192 rfl rfl rfl ?_
          refine ga_getr (b := 385) hm_192 rfl sc_344 rfl ?_
          refine ga_iload (z := f) hm_192 rfl rfl ?_
          refine ga_iald (z := f) (w := F 385 f.toNat) hm_192 rfl sc_385 (by omega) (by omega) (by omega) (rfl) ?_
          refine ga_iload (z := v) hm_192 rfl rfl ?_
          refine fl_icmp_le (a := F 385 f.toNat) (b := v) hm_192 rfl ⟨by omega, by omega⟩ ⟨by omega, by omega⟩ (fun h23_ => ?_) (fun h24_ => ?_)
          ·
            refine ga_iload (z := v) hm_192 rfl rfl ?_
            refine ga_istore (lv2 := [(4, .int (Int32.ofInt v)), (5, .int (Int32.ofInt f)), (0, .ref 344), (1, .long (Int64.ofInt bi)), (3, .int (Int32.ofInt w))]) hm_192 rfl (Nat.le_of_ble_eq_true rfl) rfl ?_
            refine ga_inc (a := f) (c := f + 1) (lv2 := [(5, .int (Int32.ofInt (f + 1))), (4, .int (Int32.ofInt v)), (0, .ref 344), (1, .long (Int64.ofInt bi)), (3, .int (Int32.ofInt w))]) hm_192 rfl rfl (Nat.le_of_ble_eq_true rfl) rfl rfl ?_
            refine fl_goto hm_192 rfl ?_
            exact ih3_ _ (by omega) (f + 1) (v) rfl (⟨by omega, by omega⟩) (⟨by omega, by omega⟩)
          refine ga_aload_n (v := .ref 344) hm_192 rfl rfl rfl ?_
          refine ga_getr (b := 385) hm_192 rfl sc_344 rfl ?_
          refine ga_iload (z := f) hm_192 rfl rfl ?_
          refine ga_iald (z := f) (w := F 385 f.toNat) hm_192 rfl sc_385 (by omega) (by omega) (by omega) (rfl) ?_
          refine fl_goto hm_192 rfl ?_
          refine ga_istore (lv2 := [(4, .int (Int32.ofInt (F 385 f.toNat))), (5, .int (Int32.ofInt f)), (0, .ref 344), (1, .long (Int64.ofInt bi)), (3, .int (Int32.ofInt w))]) hm_192 rfl (Nat.le_of_ble_eq_true rfl) rfl ?_
          refine ga_inc (a := f) (c := f + 1) (lv2 := [(5, .int (Int32.ofInt (f + 1))), (4, .int (Int32.ofInt (F 385 f.toNat))), (0, .ref 344), (1, .long (Int64.ofInt bi)), (3, .int (Int32.ofInt w))]) hm_192 rfl rfl (Nat.le_of_ble_eq_true rfl) rfl rfl ?_
          refine fl_goto hm_192 rfl ?_
          exact ih3_ _ (by omega) (f + 1) (F 385 f.toNat) rfl (⟨by omega, by omega⟩) (⟨by omega, by omega⟩)
        refine ga_iload (z := v) hm_192 rfl rfl ?_
        refine ga_aload_n (v := .ref 344) hm_192 rfl rfl rfl ?_
        refine ga_getr (b := 385) hm_192 rfl sc_344 rfl ?_
        refine ga_iload (z := f) hm_192 rfl rfl ?_
        refine ga_iald (z := f) (w := F 385 f.toNat) hm_192 rfl sc_385 (by omega) (by omega) (by omega) (rfl) ?_
        refine ga_iadd (a := v) (b := F 385 f.toNat) (c := v + F 385 f.toNat) hm_192 rfl (by omega) ?_
        refine fl_goto hm_192 rfl ?_
        refine ga_istore (lv2 := [(4, .int (Int32.ofInt (v + F 385 f.toNat))), (5, .int (Int32.ofInt f)), (0, .ref 344), (1, .long (Int64.ofInt bi)), (3, .int (Int32.ofInt w))]) hm_192 rfl (Nat.le_of_ble_eq_true rfl) rfl ?_
        refine ga_inc (a := f) (c := f + 1) (lv2 := [(5, .int (Int32.ofInt (f + 1))), (4, .int (Int32.ofInt (v + F 385 f.toNat))), (0, .ref 344), (1, .long (Int64.ofInt bi)), (3, .int (Int32.ofInt w))]) hm_192 rfl rfl (Nat.le_of_ble_eq_true rfl) rfl rfl ?_
        refine fl_goto hm_192 rfl ?_
        exact ih3_ _ (by omega) (f + 1) (v + F 385 f.toNat) rfl (⟨by omega, by omega⟩) (⟨by omega, by omega⟩)
      refine fl_iconst hm_192 rfl ?_
      refine gr_i (z := -1) hm_192 rfl rfl rfl ?_
      exact ⟨rfl, (⟨by omega, by omega⟩)⟩
    refine fl_goto hm_192 rfl ?_
    refine ga_inc (a := f) (c := f + 1) (lv2 := [(5, .int (Int32.ofInt (f + 1))), (4, .int (Int32.ofInt v)), (0, .ref 344), (1, .long (Int64.ofInt bi)), (3, .int (Int32.ofInt w))]) hm_192 rfl rfl (Nat.le_of_ble_eq_true rfl) rfl rfl ?_
    refine fl_goto hm_192 rfl ?_
    exact ih3_ _ (by omega) (f + 1) (v) rfl (⟨by omega, by omega⟩) (⟨by omega, by omega⟩)
  exact L2_ _ (0) (0) rfl (⟨by omega, by omega⟩) (⟨by omega, by omega⟩)
/- CheapPlannerModel.estimate -/
abbrev pq_73 (G : Nat → Nat → Option Nat) (F : fl_N) (X : xi_H) (w : Int) : Outcome → xi_H → Prop := gqi (fun z A => ∃ F' : fl_N, fl_H sh_T G F' ++ X = A ∧ gi F' ∧ fs [(344, 344, 0, 0), (385, 385, 0, 100000)] F F' ∧ (-2147483648 ≤ z ∧ z ≤ 2147483647)) gqn
theorem mc_73 {G : Nat → Nat → Option Nat} (hG : gg G) (F : fl_N) (X : xi_H) (hgi : gi F) (w : Int) (hw : -2147483648 ≤ w ∧ w ≤ 2147483647) (h40 : F 344 12 = 1 → F 344 36 ≤ 40) (hpb : F 344 12 = 1 → sob F) : fl_M xi_ms 73 1 25 [.ref 344, .int (Int32.ofInt w)] (fl_H sh_T G F ++ X) (pq_73 G F X w) := by
  intro fr lo hfr hlo
  show fl_R xi_ms 73 fr lo 0 [(0, .ref 344), (1, .int (Int32.ofInt w))] [] _ _
  refine ga_aload_n (v := .ref 344) hm_73 rfl rfl rfl ?_
  refine ga_aload_n (v := .ref 344) hm_73 rfl rfl rfl ?_
  have b1_ : 0 ≤ F 344 12 ∧ F 344 12 ≤ 1 := gi_g hgi rfl
  refine ga_geti (z := F 344 12) hm_73 rfl sc_344 rfl (rfl) ?_
  refine fx_if_ne (a := F 344 12) hm_73 rfl ⟨by omega, by omega⟩ (fun h2_ => ?_) (fun h3_ => ?_)
  ·
    refine ga_iload_n (z := w) hm_73 rfl rfl ?_
    refine fl_if_lt (a := w) hm_73 rfl ⟨by omega, by omega⟩ (fun h4_ => ?_) (fun h5_ => ?_)
    ·
      refine fl_iconst hm_73 rfl ?_
      refine fl_goto hm_73 rfl ?_
      refine ga_puti (z := 2) hm_73 rfl sc_344 rfl rfl ?_
      refine ga_aload_n (v := .ref 344) hm_73 rfl rfl rfl ?_
      refine ga_geti (z := 2) hm_73 rfl sc_344 rfl (fl_u_eq) ?_
      refine fl_if_le hm_73 rfl ⟨by omega, by omega⟩ (fun h => absurd h (by omega)) (fun _ => ?_)
      refine fl_iconst hm_73 rfl ?_
      obtain ⟨F6_, q7_⟩ : ∃ Fq_, Fq_ = (fl_u F 344 0 2) := ⟨_, rfl⟩
      rw [← q7_]
      have g8_ : gi F6_ := by rw [q7_]; exact gi_u (hgi) rfl (by omega) (by omega)
      have g9_ : fs [(344, 344, 0, 0), (385, 385, 0, 100000)] F F6_ := by rw [q7_]; exact fs_u (fs_refl) rfl
      refine gr_i (z := 0) hm_73 rfl rfl rfl ?_
      exact ⟨F6_, rfl, g8_, g9_, (⟨by omega, by omega⟩)⟩
    refine ga_iload_n (z := w) hm_73 rfl rfl ?_
    refine fl_iconst hm_73 rfl ?_
    refine fl_icmp_le (a := w) (b := 1) hm_73 rfl ⟨by omega, by omega⟩ ⟨by omega, by omega⟩ (fun h10_ => ?_) (fun h11_ => ?_)
    ·
      refine fl_iconst hm_73 rfl ?_
      refine ga_puti (z := 0) hm_73 rfl sc_344 rfl rfl ?_
      refine ga_aload_n (v := .ref 344) hm_73 rfl rfl rfl ?_
      refine ga_geti (z := 0) hm_73 rfl sc_344 rfl (fl_u_eq) ?_
      refine fl_if_le hm_73 rfl ⟨by omega, by omega⟩ (fun _ => ?_) (fun h => absurd (by omega) h)
      refine fl_iconst hm_73 rfl ?_
      refine ga_istore_n (lv2 := [(2, .int (Int32.ofInt 0)), (0, .ref 344), (1, .int (Int32.ofInt w))]) hm_73 rfl (Nat.le_of_ble_eq_true rfl) rfl ?_
      obtain ⟨F12_, q13_⟩ : ∃ Fq_, Fq_ = (fl_u F 344 0 0) := ⟨_, rfl⟩
      rw [← q13_]
      have g14_ : gi F12_ := by rw [q13_]; exact gi_u (hgi) rfl (by omega) (by omega)
      have g15_ : fs [(344, 344, 0, 0), (385, 385, 0, 100000)] F F12_ := by rw [q13_]; exact fs_u (fs_refl) rfl
      have L17_ : ∀ (n16_ : Nat) (f : Int) (F1 : fl_N), (40 - f : Int).toNat = n16_ → (gi F1) → (fs [(385, 385, 0, 100000)] F12_ F1) → (0 ≤ f ∧ f ≤ 40) → (wbd F1 f) → fl_R xi_ms 73 fr lo 40 [(2, .int (Int32.ofInt f)), (0, .ref 344), (1, .int (Int32.ofInt w))] [] (fl_H sh_T G F1 ++ X) (pq_73 G F X w) := by
        intro n16_
        induction n16_ using Nat.strongRecOn with
        | ind n16_ ih18_ =>
        intro f F1 hn19_ hg_F1 hf_F1 hf hb1
        have g20_ : fs [(344, 344, 0, 0), (385, 385, 0, 100000)] F F1 := fs_tr g15_ hf_F1 rfl
        refine ga_iload_n (z := f) hm_73 rfl rfl ?_
        refine ga_aload_n (v := .ref 344) hm_73 rfl rfl rfl ?_
        have e21_ : F12_ 344 36 = F 344 36 := by rw [q13_]; exact fl_u_ne (by first | exact nc_ rfl | decide | omega)
        have e22_ : F1 344 36 = F 344 36 := (hf_F1 344 36 rfl).trans (e21_)
        have b23_ : 0 ≤ F 344 36 ∧ F 344 36 ≤ 216 := gi_g hgi rfl
        refine ga_geti (z := F 344 36) hm_73 rfl sc_344 rfl (e22_) ?_
        refine fl_icmp_ge (a := f) (b := F 344 36) hm_73 rfl ⟨by omega, by omega⟩ ⟨by omega, by omega⟩ (fun h24_ => ?_) (fun h25_ => ?_)
        ·
          refine fl_iconst hm_73 rfl ?_
          refine ga_istore_n (lv2 := [(2, .int (Int32.ofInt 1)), (0, .ref 344), (1, .int (Int32.ofInt w))]) hm_73 rfl (Nat.le_of_ble_eq_true rfl) rfl ?_
          have L27_ : ∀ (n26_ : Nat) (mo : Int) (F2 : fl_N), (2 * wsm (F2 385) (F 344 36).toNat + mo : Int).toNat = n26_ → (gi F2) → (fs [(385, 385, 0, 100000)] F1 F2) → (0 ≤ mo ∧ mo ≤ 1) → (wbd F2 (F 344 36)) → fl_R xi_ms 73 fr lo 80 [(2, .int (Int32.ofInt mo)), (0, .ref 344), (1, .int (Int32.ofInt w))] [] (fl_H sh_T G F2 ++ X) (pq_73 G F X w) := by
            intro n26_
            induction n26_ using Nat.strongRecOn with
            | ind n26_ ih28_ =>
            intro mo F2 hn29_ hg_F2 hf_F2 hmo hb2
            have g30_ : fs [(344, 344, 0, 0), (385, 385, 0, 100000)] F F2 := fs_tr g20_ hf_F2 rfl
            have hnn2 := wbd_nn hb2
            refine ga_iload_n (z := mo) hm_73 rfl rfl ?_
            refine fl_if_eq (a := mo) hm_73 rfl ⟨by omega, by omega⟩ (fun h31_ => ?_) (fun h32_ => ?_)
            ·
              refine ga_aload_n (v := .ref 344) hm_73 rfl rfl rfl ?_
              refine ga_aload_n (v := .ref 344) hm_73 rfl rfl rfl ?_
              have e33_ : F12_ 344 46 = F 344 46 := by rw [q13_]; exact fl_u_ne (by first | exact nc_ rfl | decide | omega)
              have e34_ : F1 344 46 = F 344 46 := (hf_F1 344 46 rfl).trans (e33_)
              have e35_ : F2 344 46 = F 344 46 := (hf_F2 344 46 rfl).trans (e34_)
              have b36_ : -9223372036854775808 ≤ F 344 46 ∧ F 344 46 ≤ 9223372036854775807 := gi_g hgi rfl
              refine ga_getl (z := F 344 46) hm_73 rfl sc_344 rfl (e35_) ?_
              refine ga_iload_n (z := w) hm_73 rfl rfl ?_
              have e37_ : F2 344 36 = F 344 36 := (hf_F2 344 36 rfl).trans (e22_)
              refine gVi (nY := 6) (F := 0) (L := 0) (As := [.long (Int64.ofInt (F 344 46)), .int (Int32.ofInt w)]) (b := 344) (rest := []) hm_73 rfl hm_192 rfl rfl (fl_ob sc_344) rfl rfl rfl rfl rfl (by omega) (by omega) (mc_192 hG F2 X hg_F2 (F 344 46) (w) (⟨by omega, by omega⟩) (⟨by omega, by omega⟩) (by omega) (by rw [e37_]; exact hb2)) (fun _ _ h => False.elim h) ?_
              rintro z38_ A1_ ⟨hA_, c39_⟩
              subst hA_
              refine gr_i (z := z38_) hm_73 rfl rfl rfl ?_
              exact ⟨F2, rfl, hg_F2, g30_, (⟨by omega, by omega⟩)⟩
            refine fl_iconst hm_73 rfl ?_
            refine ga_istore_n (lv2 := [(2, .int (Int32.ofInt 0)), (0, .ref 344), (1, .int (Int32.ofInt w))]) hm_73 rfl (Nat.le_of_ble_eq_true rfl) rfl ?_
            refine fl_iconst hm_73 rfl ?_
            refine ga_istore_n (lv2 := [(3, .int (Int32.ofInt 0)), (2, .int (Int32.ofInt 0)), (0, .ref 344), (1, .int (Int32.ofInt w))]) hm_73 rfl (Nat.le_of_ble_eq_true rfl) rfl ?_
            have L41_ : ∀ (n40_ : Nat) (mo3 : Int) (s : Int) (F3 : fl_N), (40 - s : Int).toNat = n40_ → (gi F3) → (fs [(385, 385, 0, 100000)] F2 F3) → (0 ≤ s ∧ s ≤ 40) → (wbd F3 (F 344 36)) → ((mo3 = 0 ∧ wsm (F3 385) (F 344 36).toNat ≤ wsm (F2 385) (F 344 36).toNat) ∨ (mo3 = 1 ∧ wsm (F3 385) (F 344 36).toNat < wsm (F2 385) (F 344 36).toNat)) → fl_R xi_ms 73 fr lo 88 [(3, .int (Int32.ofInt s)), (2, .int (Int32.ofInt mo3)), (0, .ref 344), (1, .int (Int32.ofInt w))] [] (fl_H sh_T G F3 ++ X) (pq_73 G F X w) := by
              intro n40_
              induction n40_ using Nat.strongRecOn with
              | ind n40_ ih42_ =>
              intro mo3 s F3 hn43_ hg_F3 hf_F3 hs hb3 hm3
              have g44_ : fs [(344, 344, 0, 0), (385, 385, 0, 100000)] F F3 := fs_tr g30_ hf_F3 rfl
              have hnn3 := wbd_nn hb3
              refine ga_iload_n (z := s) hm_73 rfl rfl ?_
              refine ga_aload_n (v := .ref 344) hm_73 rfl rfl rfl ?_
              have e45_ : F12_ 344 39 = F 344 39 := by rw [q13_]; exact fl_u_ne (by first | exact nc_ rfl | decide | omega)
              have e46_ : F1 344 39 = F 344 39 := (hf_F1 344 39 rfl).trans (e45_)
              have e47_ : F2 344 39 = F 344 39 := (hf_F2 344 39 rfl).trans (e46_)
              have e48_ : F3 344 39 = F 344 39 := (hf_F3 344 39 rfl).trans (e47_)
              have b49_ : 0 ≤ F 344 39 ∧ F 344 39 ≤ 40 := gi_g hgi rfl
              refine ga_geti (z := F 344 39) hm_73 rfl sc_344 rfl (e48_) ?_
              refine fl_icmp_ge (a := s) (b := F 344 39) hm_73 rfl ⟨by omega, by omega⟩ ⟨by omega, by omega⟩ (fun h50_ => ?_) (fun h51_ => ?_)
              ·
                refine fl_goto hm_73 rfl ?_
                exact fl_R_sub (lv' := [(2, .int (Int32.ofInt mo3)), (0, .ref 344), (1, .int (Int32.ofInt w))]) rfl rfl (ih28_ _ (by omega) (mo3) F3 rfl hg_F3 (fs_tr hf_F2 hf_F3 rfl) (⟨by omega, by omega⟩) (hb3))
              refine ga_aload_n (v := .ref 344) hm_73 rfl rfl rfl ?_
              refine ga_aload_n (v := .ref 344) hm_73 rfl rfl rfl ?_
              refine ga_getr (b := 369) hm_73 rfl sc_344 rfl ?_
              refine ga_iload_n (z := s) hm_73 rfl rfl ?_
              have e52_ : F12_ 369 s.toNat = F 369 s.toNat := by rw [q13_]; exact fl_u_ne (by first | exact nc_ rfl | decide | omega)
              have e53_ : F1 369 s.toNat = F 369 s.toNat := (hf_F1 369 s.toNat (by first | exact fs_c rfl | exact (fs_n (by omega) rfl))).trans (e52_)
              have e54_ : F2 369 s.toNat = F 369 s.toNat := (hf_F2 369 s.toNat (by first | exact fs_c rfl | exact (fs_n (by omega) rfl))).trans (e53_)
              have e55_ : F3 369 s.toNat = F 369 s.toNat := (hf_F3 369 s.toNat (by first | exact fs_c rfl | exact (fs_n (by omega) rfl))).trans (e54_)
              have b56_ : -9223372036854775808 ≤ F 369 s.toNat ∧ F 369 s.toNat ≤ 9223372036854775807 := gi_g hgi rfl
              refine ga_lald (z := s) (w := F 369 s.toNat) hm_73 rfl sc_369 (by omega) (by omega) (by omega) (e55_) ?_
              refine ga_iload_n (z := w) hm_73 rfl rfl ?_
              have e57_ : F2 344 36 = F 344 36 := (hf_F2 344 36 rfl).trans (e22_)
              have e58_ : F3 344 36 = F 344 36 := (hf_F3 344 36 rfl).trans (e57_)
              refine gVi (nY := 6) (F := 0) (L := 0) (As := [.long (Int64.ofInt (F 369 s.toNat)), .int (Int32.ofInt w)]) (b := 344) (rest := []) hm_73 rfl hm_192 rfl rfl (fl_ob sc_344) rfl rfl rfl rfl rfl (by omega) (by omega) (mc_192 hG F3 X hg_F3 (F 369 s.toNat) (w) (⟨by omega, by omega⟩) (⟨by omega, by omega⟩) (by omega) (by rw [e58_]; exact hb3)) (fun _ _ h => False.elim h) ?_
              rintro z59_ A1_ ⟨hA_, c60_⟩
              subst hA_
              refine ga_istore (lv2 := [(4, .int (Int32.ofInt z59_)), (3, .int (Int32.ofInt s)), (2, .int (Int32.ofInt mo3)), (0, .ref 344), (1, .int (Int32.ofInt w))]) hm_73 rfl (Nat.le_of_ble_eq_true rfl) rfl ?_
              refine ga_iload (z := z59_) hm_73 rfl rfl ?_
              refine fl_iconst hm_73 rfl ?_
              refine fx_icmp_ne (a := z59_) (b := -1) hm_73 rfl ⟨by omega, by omega⟩ ⟨by omega, by omega⟩ (fun h61_ => ?_) (fun h62_ => ?_)
              ·
                have hco := (hpb (by omega) s.toNat (by omega)).1
                refine ga_iload (z := z59_) hm_73 rfl rfl ?_
                refine ga_aload_n (v := .ref 344) hm_73 rfl rfl rfl ?_
                refine ga_getr (b := 357) hm_73 rfl sc_344 rfl ?_
                refine ga_aload_n (v := .ref 344) hm_73 rfl rfl rfl ?_
                refine ga_getr (b := 367) hm_73 rfl sc_344 rfl ?_
                refine ga_iload_n (z := s) hm_73 rfl rfl ?_
                have e63_ : F12_ 367 s.toNat = F 367 s.toNat := by rw [q13_]; exact fl_u_ne (by first | exact nc_ rfl | decide | omega)
                have e64_ : F1 367 s.toNat = F 367 s.toNat := (hf_F1 367 s.toNat (by first | exact fs_c rfl | exact (fs_n (by omega) rfl))).trans (e63_)
                have e65_ : F2 367 s.toNat = F 367 s.toNat := (hf_F2 367 s.toNat (by first | exact fs_c rfl | exact (fs_n (by omega) rfl))).trans (e64_)
                have e66_ : F3 367 s.toNat = F 367 s.toNat := (hf_F3 367 s.toNat (by first | exact fs_c rfl | exact (fs_n (by omega) rfl))).trans (e65_)
                have b67_ : 0 ≤ F 367 s.toNat ∧ F 367 s.toNat ≤ 4 := gi_g hgi rfl
                refine ga_iald (z := s) (w := F 367 s.toNat) hm_73 rfl sc_367 (by omega) (by omega) (by omega) (e66_) ?_
                have e68_ : F12_ 357 (F 367 s.toNat).toNat = F 357 (F 367 s.toNat).toNat := by rw [q13_]; exact fl_u_ne (by first | exact nc_ rfl | decide | omega)
                have e69_ : F1 357 (F 367 s.toNat).toNat = F 357 (F 367 s.toNat).toNat := (hf_F1 357 (F 367 s.toNat).toNat (by first | exact fs_c rfl | exact (fs_n (by omega) rfl))).trans (e68_)
                have e70_ : F2 357 (F 367 s.toNat).toNat = F 357 (F 367 s.toNat).toNat := (hf_F2 357 (F 367 s.toNat).toNat (by first | exact fs_c rfl | exact (fs_n (by omega) rfl))).trans (e69_)
                have e71_ : F3 357 (F 367 s.toNat).toNat = F 357 (F 367 s.toNat).toNat := (hf_F3 357 (F 367 s.toNat).toNat (by first | exact fs_c rfl | exact (fs_n (by omega) rfl))).trans (e70_)
                have b72_ : -1000 ≤ F 357 (F 367 s.toNat).toNat ∧ F 357 (F 367 s.toNat).toNat ≤ 2000 := gi_g hgi rfl
                refine ga_iald (z := F 367 s.toNat) (w := F 357 (F 367 s.toNat).toNat) hm_73 rfl sc_357 (by omega) (by omega) (by omega) (e71_) ?_
                refine ga_iadd (a := z59_) (b := F 357 (F 367 s.toNat).toNat) (c := z59_ + F 357 (F 367 s.toNat).toNat) hm_73 rfl (by omega) ?_
                refine ga_ldcwi (z := 100000) hm_73 rfl (by decide) ?_
                refine fl_icmp_le (a := z59_ + F 357 (F 367 s.toNat).toNat) (b := 100000) hm_73 rfl ⟨by omega, by omega⟩ ⟨by omega, by omega⟩ (fun h73_ => ?_) (fun h74_ => ?_)
                ·
                  refine ga_iload (z := z59_) hm_73 rfl rfl ?_
                  refine ga_aload_n (v := .ref 344) hm_73 rfl rfl rfl ?_
                  refine ga_getr (b := 357) hm_73 rfl sc_344 rfl ?_
                  refine ga_aload_n (v := .ref 344) hm_73 rfl rfl rfl ?_
                  refine ga_getr (b := 367) hm_73 rfl sc_344 rfl ?_
                  refine ga_iload_n (z := s) hm_73 rfl rfl ?_
                  refine ga_iald (z := s) (w := F 367 s.toNat) hm_73 rfl sc_367 (by omega) (by omega) (by omega) (e66_) ?_
                  refine ga_iald (z := F 367 s.toNat) (w := F 357 (F 367 s.toNat).toNat) hm_73 rfl sc_357 (by omega) (by omega) (by omega) (e71_) ?_
                  refine ga_iadd (a := z59_) (b := F 357 (F 367 s.toNat).toNat) (c := z59_ + F 357 (F 367 s.toNat).toNat) hm_73 rfl (by omega) ?_
                  refine ga_istore (lv2 := [(4, .int (Int32.ofInt (z59_ + F 357 (F 367 s.toNat).toNat))), (3, .int (Int32.ofInt s)), (2, .int (Int32.ofInt mo3)), (0, .ref 344), (1, .int (Int32.ofInt w))]) hm_73 rfl (Nat.le_of_ble_eq_true rfl) rfl ?_
                  refine fl_iconst hm_73 rfl ?_
                  refine ga_istore (lv2 := [(5, .int (Int32.ofInt 0)), (4, .int (Int32.ofInt (z59_ + F 357 (F 367 s.toNat).toNat))), (3, .int (Int32.ofInt s)), (2, .int (Int32.ofInt mo3)), (0, .ref 344), (1, .int (Int32.ofInt w))]) hm_73 rfl (Nat.le_of_ble_eq_true rfl) rfl ?_
                  have L76_ : ∀ (n75_ : Nat) (mo4 : Int) (f4 : Int) (F4 : fl_N), (40 - f4 : Int).toNat = n75_ → (gi F4) → (fs [(385, 385, 0, 100000)] F3 F4) → (0 ≤ f4 ∧ f4 ≤ 40) → (wbd F4 (F 344 36)) → ((mo4 = 0 ∧ wsm (F4 385) (F 344 36).toNat ≤ wsm (F2 385) (F 344 36).toNat) ∨ (mo4 = 1 ∧ wsm (F4 385) (F 344 36).toNat < wsm (F2 385) (F 344 36).toNat)) → fl_R xi_ms 73 fr lo 163 [(5, .int (Int32.ofInt f4)), (4, .int (Int32.ofInt (z59_ + F 357 (F 367 s.toNat).toNat))), (3, .int (Int32.ofInt s)), (2, .int (Int32.ofInt mo4)), (0, .ref 344), (1, .int (Int32.ofInt w))] [] (fl_H sh_T G F4 ++ X) (pq_73 G F X w) := by
                    intro n75_
                    induction n75_ using Nat.strongRecOn with
                    | ind n75_ ih77_ =>
                    intro mo4 f4 F4 hn78_ hg_F4 hf_F4 hf4 hb4 hm4
                    have g79_ : fs [(344, 344, 0, 0), (385, 385, 0, 100000)] F F4 := fs_tr g44_ hf_F4 rfl
                    refine ga_iload (z := f4) hm_73 rfl rfl ?_
                    refine ga_aload_n (v := .ref 344) hm_73 rfl rfl rfl ?_
                    have e80_ : F4 344 36 = F 344 36 := (hf_F4 344 36 rfl).trans (e58_)
                    refine ga_geti (z := F 344 36) hm_73 rfl sc_344 rfl (e80_) ?_
                    refine fl_icmp_ge (a := f4) (b := F 344 36) hm_73 rfl ⟨by omega, by omega⟩ ⟨by omega, by omega⟩ (fun h81_ => ?_) (fun h82_ => ?_)
                    ·
                      refine ga_inc (a := s) (c := s + 1) (lv2 := [(3, .int (Int32.ofInt (s + 1))), (5, .int (Int32.ofInt f4)), (4, .int (Int32.ofInt (z59_ + F 357 (F 367 s.toNat).toNat))), (2, .int (Int32.ofInt mo4)), (0, .ref 344), (1, .int (Int32.ofInt w))]) hm_73 rfl rfl (Nat.le_of_ble_eq_true rfl) rfl rfl ?_
                      refine fl_goto hm_73 rfl ?_
                      exact fl_R_sub (lv' := [(3, .int (Int32.ofInt (s + 1))), (2, .int (Int32.ofInt mo4)), (0, .ref 344), (1, .int (Int32.ofInt w))]) rfl rfl (ih42_ _ (by omega) (mo4) (s + 1) F4 rfl hg_F4 (fs_tr hf_F3 hf_F4 rfl) (⟨by omega, by omega⟩) (hb4) (hm4))
                    refine ga_aload_n (v := .ref 344) hm_73 rfl rfl rfl ?_
                    refine ga_getr (b := 371) hm_73 rfl sc_344 rfl ?_
                    refine ga_iload_n (z := s) hm_73 rfl rfl ?_
                    have e83_ : F12_ 371 s.toNat = F 371 s.toNat := by rw [q13_]; exact fl_u_ne (by first | exact nc_ rfl | decide | omega)
                    have e84_ : F1 371 s.toNat = F 371 s.toNat := (hf_F1 371 s.toNat (by first | exact fs_c rfl | exact (fs_n (by omega) rfl))).trans (e83_)
                    have e85_ : F2 371 s.toNat = F 371 s.toNat := (hf_F2 371 s.toNat (by first | exact fs_c rfl | exact (fs_n (by omega) rfl))).trans (e84_)
                    have e86_ : F3 371 s.toNat = F 371 s.toNat := (hf_F3 371 s.toNat (by first | exact fs_c rfl | exact (fs_n (by omega) rfl))).trans (e85_)
                    have e87_ : F4 371 s.toNat = F 371 s.toNat := (hf_F4 371 s.toNat (by first | exact fs_c rfl | exact (fs_n (by omega) rfl))).trans (e86_)
                    have b88_ : -9223372036854775808 ≤ F 371 s.toNat ∧ F 371 s.toNat ≤ 9223372036854775807 := gi_g hgi rfl
                    refine ga_lald (z := s) (w := F 371 s.toNat) hm_73 rfl sc_371 (by omega) (by omega) (by omega) (e87_) ?_
                    refine ga_iload (z := f4) hm_73 rfl rfl ?_
                    refine ga_lany hm_73 rfl rfl rfl (fun z89_ ⟨h90_, h91_⟩ => ?_)
                    refine ga_lconst (z := 1) hm_73 rfl rfl ?_
                    refine ga_lany hm_73 rfl rfl rfl (fun z92_ ⟨h93_, h94_⟩ => ?_)
                    refine ga_lconst (z := 0) hm_73 rfl rfl ?_
                    refine ga_lcmpq (a := z92_) (b := 0) hm_73 rfl rfl ⟨by omega, by omega⟩ ⟨by omega, by omega⟩ (fun h95_ => ?_) (fun h96_ => ?_)
                    ·
                      refine ga_inc (a := f4) (c := f4 + 1) (lv2 := [(5, .int (Int32.ofInt (f4 + 1))), (4, .int (Int32.ofInt (z59_ + F 357 (F 367 s.toNat).toNat))), (3, .int (Int32.ofInt s)), (2, .int (Int32.ofInt mo4)), (0, .ref 344), (1, .int (Int32.ofInt w))]) hm_73 rfl rfl (Nat.le_of_ble_eq_true rfl) rfl rfl ?_
                      refine fl_goto hm_73 rfl ?_
                      exact ih77_ _ (by omega) (mo4) (f4 + 1) F4 rfl hg_F4 hf_F4 (⟨by omega, by omega⟩) (hb4) (hm4)
                    refine ga_aload_n (v := .ref 344) hm_73 rfl rfl rfl ?_
                    refine ga_getr (b := 385) hm_73 rfl sc_344 rfl ?_
                    refine ga_iload (z := f4) hm_73 rfl rfl ?_
                    have b97_ : -2147483648 ≤ F4 385 f4.toNat ∧ F4 385 f4.toNat ≤ 2147483647 := gi_g hg_F4 rfl
                    refine ga_iald (z := f4) (w := F4 385 f4.toNat) hm_73 rfl sc_385 (by omega) (by omega) (by omega) (rfl) ?_
                    refine fl_iconst hm_73 rfl ?_
                    refine fl_icmp_eq (a := F4 385 f4.toNat) (b := -1) hm_73 rfl ⟨by omega, by omega⟩ ⟨by omega, by omega⟩ (fun h98_ => ?_) (fun h99_ => ?_)
                    ·
                      refine ga_aload_n (v := .ref 344) hm_73 rfl rfl rfl ?_
                      refine ga_getr (b := 385) hm_73 rfl sc_344 rfl ?_
                      refine ga_iload (z := f4) hm_73 rfl rfl ?_
                      refine ga_iload (z := z59_ + F 357 (F 367 s.toNat).toNat) hm_73 rfl rfl ?_
                      refine fl_iast (z := f4) (v := z59_ + F 357 (F 367 s.toNat).toNat) hm_73 rfl sc_385 (by omega) (by omega) (by omega) ?_
                      refine fl_iconst hm_73 rfl ?_
                      refine ga_istore_n (lv2 := [(2, .int (Int32.ofInt 1)), (5, .int (Int32.ofInt f4)), (4, .int (Int32.ofInt (z59_ + F 357 (F 367 s.toNat).toNat))), (3, .int (Int32.ofInt s)), (0, .ref 344), (1, .int (Int32.ofInt w))]) hm_73 rfl (Nat.le_of_ble_eq_true rfl) rfl ?_
                      refine ga_inc (a := f4) (c := f4 + 1) (lv2 := [(5, .int (Int32.ofInt (f4 + 1))), (2, .int (Int32.ofInt 1)), (4, .int (Int32.ofInt (z59_ + F 357 (F 367 s.toNat).toNat))), (3, .int (Int32.ofInt s)), (0, .ref 344), (1, .int (Int32.ofInt w))]) hm_73 rfl rfl (Nat.le_of_ble_eq_true rfl) rfl rfl ?_
                      refine fl_goto hm_73 rfl ?_
                      obtain ⟨F100_, q101_⟩ : ∃ Fq_, Fq_ = (fl_u F4 385 f4.toNat (z59_ + F 357 (F 367 s.toNat).toNat)) := ⟨_, rfl⟩
                      rw [← q101_]
                      have g102_ : gi F100_ := by rw [q101_]; exact gi_u (hg_F4) rfl (by omega) (by omega)
                      have g103_ : fs [(344, 344, 0, 0), (385, 385, 0, 100000)] F F100_ := by rw [q101_]; exact fs_u (g79_) (fs_z (fs_y (by omega)))
                      exact fl_R_sub (lv' := [(5, .int (Int32.ofInt (f4 + 1))), (4, .int (Int32.ofInt (z59_ + F 357 (F 367 s.toNat).toNat))), (3, .int (Int32.ofInt s)), (2, .int (Int32.ofInt 1)), (0, .ref 344), (1, .int (Int32.ofInt w))]) rfl rfl (ih77_ _ (by omega) (1) (f4 + 1) F100_ rfl g102_ (by rw [q101_]; exact fs_u (hf_F4) (fs_y (by omega))) (⟨by omega, by omega⟩) (by rw [q101_]; exact wbd_u hb4 (by omega) (by omega)) (Or.inr ⟨by omega, by have h9_ : wsm (F100_ 385) (F 344 36).toNat < wsm (F4 385) (F 344 36).toNat := (by rw [q101_]; exact wbd_lt ⟨by omega, by omega⟩ (by omega) (by omega) (by omega)); omega⟩))
                    refine ga_aload_n (v := .ref 344) hm_73 rfl rfl rfl ?_
                    refine ga_getr (b := 385) hm_73 rfl sc_344 rfl ?_
                    refine ga_iload (z := f4) hm_73 rfl rfl ?_
                    refine ga_iald (z := f4) (w := F4 385 f4.toNat) hm_73 rfl sc_385 (by omega) (by omega) (by omega) (rfl) ?_
                    refine ga_iload (z := z59_ + F 357 (F 367 s.toNat).toNat) hm_73 rfl rfl ?_
                    refine fl_icmp_gt (a := F4 385 f4.toNat) (b := z59_ + F 357 (F 367 s.toNat).toNat) hm_73 rfl ⟨by omega, by omega⟩ ⟨by omega, by omega⟩ (fun h104_ => ?_) (fun h105_ => ?_)
                    ·
                      refine ga_aload_n (v := .ref 344) hm_73 rfl rfl rfl ?_
                      refine ga_getr (b := 385) hm_73 rfl sc_344 rfl ?_
                      refine ga_iload (z := f4) hm_73 rfl rfl ?_
                      refine ga_iload (z := z59_ + F 357 (F 367 s.toNat).toNat) hm_73 rfl rfl ?_
                      refine fl_iast (z := f4) (v := z59_ + F 357 (F 367 s.toNat).toNat) hm_73 rfl sc_385 (by omega) (by omega) (by omega) ?_
                      refine fl_iconst hm_73 rfl ?_
                      refine ga_istore_n (lv2 := [(2, .int (Int32.ofInt 1)), (5, .int (Int32.ofInt f4)), (4, .int (Int32.ofInt (z59_ + F 357 (F 367 s.toNat).toNat))), (3, .int (Int32.ofInt s)), (0, .ref 344), (1, .int (Int32.ofInt w))]) hm_73 rfl (Nat.le_of_ble_eq_true rfl) rfl ?_
                      refine ga_inc (a := f4) (c := f4 + 1) (lv2 := [(5, .int (Int32.ofInt (f4 + 1))), (2, .int (Int32.ofInt 1)), (4, .int (Int32.ofInt (z59_ + F 357 (F 367 s.toNat).toNat))), (3, .int (Int32.ofInt s)), (0, .ref 344), (1, .int (Int32.ofInt w))]) hm_73 rfl rfl (Nat.le_of_ble_eq_true rfl) rfl rfl ?_
                      refine fl_goto hm_73 rfl ?_
                      obtain ⟨F106_, q107_⟩ : ∃ Fq_, Fq_ = (fl_u F4 385 f4.toNat (z59_ + F 357 (F 367 s.toNat).toNat)) := ⟨_, rfl⟩
                      rw [← q107_]
                      have g108_ : gi F106_ := by rw [q107_]; exact gi_u (hg_F4) rfl (by omega) (by omega)
                      have g109_ : fs [(344, 344, 0, 0), (385, 385, 0, 100000)] F F106_ := by rw [q107_]; exact fs_u (g79_) (fs_z (fs_y (by omega)))
                      exact fl_R_sub (lv' := [(5, .int (Int32.ofInt (f4 + 1))), (4, .int (Int32.ofInt (z59_ + F 357 (F 367 s.toNat).toNat))), (3, .int (Int32.ofInt s)), (2, .int (Int32.ofInt 1)), (0, .ref 344), (1, .int (Int32.ofInt w))]) rfl rfl (ih77_ _ (by omega) (1) (f4 + 1) F106_ rfl g108_ (by rw [q107_]; exact fs_u (hf_F4) (fs_y (by omega))) (⟨by omega, by omega⟩) (by rw [q107_]; exact wbd_u hb4 (by omega) (by omega)) (Or.inr ⟨by omega, by have h9_ : wsm (F106_ 385) (F 344 36).toNat < wsm (F4 385) (F 344 36).toNat := (by rw [q107_]; exact wbd_lt ⟨by omega, by omega⟩ (by omega) (by omega) (by omega)); omega⟩))
                    refine fl_goto hm_73 rfl ?_
                    refine ga_inc (a := f4) (c := f4 + 1) (lv2 := [(5, .int (Int32.ofInt (f4 + 1))), (4, .int (Int32.ofInt (z59_ + F 357 (F 367 s.toNat).toNat))), (3, .int (Int32.ofInt s)), (2, .int (Int32.ofInt mo4)), (0, .ref 344), (1, .int (Int32.ofInt w))]) hm_73 rfl rfl (Nat.le_of_ble_eq_true rfl) rfl rfl ?_
                    refine fl_goto hm_73 rfl ?_
                    exact ih77_ _ (by omega) (mo4) (f4 + 1) F4 rfl hg_F4 hf_F4 (⟨by omega, by omega⟩) (hb4) (hm4)
                  exact L76_ _ (mo3) (0) F3 rfl hg_F3 fs_refl (⟨by omega, by omega⟩) (hb3) (hm3)
                refine ga_ldcwi (z := 100000) hm_73 rfl (by decide) ?_
                refine fl_goto hm_73 rfl ?_
                refine ga_istore (lv2 := [(4, .int (Int32.ofInt 100000)), (3, .int (Int32.ofInt s)), (2, .int (Int32.ofInt mo3)), (0, .ref 344), (1, .int (Int32.ofInt w))]) hm_73 rfl (Nat.le_of_ble_eq_true rfl) rfl ?_
                refine fl_iconst hm_73 rfl ?_
                refine ga_istore (lv2 := [(5, .int (Int32.ofInt 0)), (4, .int (Int32.ofInt 100000)), (3, .int (Int32.ofInt s)), (2, .int (Int32.ofInt mo3)), (0, .ref 344), (1, .int (Int32.ofInt w))]) hm_73 rfl (Nat.le_of_ble_eq_true rfl) rfl ?_
                have L111_ : ∀ (n110_ : Nat) (mo4 : Int) (f4 : Int) (F4 : fl_N), (40 - f4 : Int).toNat = n110_ → (gi F4) → (fs [(385, 385, 0, 100000)] F3 F4) → (0 ≤ f4 ∧ f4 ≤ 40) → (wbd F4 (F 344 36)) → ((mo4 = 0 ∧ wsm (F4 385) (F 344 36).toNat ≤ wsm (F2 385) (F 344 36).toNat) ∨ (mo4 = 1 ∧ wsm (F4 385) (F 344 36).toNat < wsm (F2 385) (F 344 36).toNat)) → fl_R xi_ms 73 fr lo 163 [(5, .int (Int32.ofInt f4)), (4, .int (Int32.ofInt 100000)), (3, .int (Int32.ofInt s)), (2, .int (Int32.ofInt mo4)), (0, .ref 344), (1, .int (Int32.ofInt w))] [] (fl_H sh_T G F4 ++ X) (pq_73 G F X w) := by
                  intro n110_
                  induction n110_ using Nat.strongRecOn with
                  | ind n110_ ih112_ =>
                  intro mo4 f4 F4 hn113_ hg_F4 hf_F4 hf4 hb4 hm4
                  have g114_ : fs [(344, 344, 0, 0), (385, 385, 0, 100000)] F F4 := fs_tr g44_ hf_F4 rfl
                  refine ga_iload (z := f4) hm_73 rfl rfl ?_
                  refine ga_aload_n (v := .ref 344) hm_73 rfl rfl rfl ?_
                  have e115_ : F4 344 36 = F 344 36 := (hf_F4 344 36 rfl).trans (e58_)
                  refine ga_geti (z := F 344 36) hm_73 rfl sc_344 rfl (e115_) ?_
                  refine fl_icmp_ge (a := f4) (b := F 344 36) hm_73 rfl ⟨by omega, by omega⟩ ⟨by omega, by omega⟩ (fun h116_ => ?_) (fun h117_ => ?_)
                  ·
                    refine ga_inc (a := s) (c := s + 1) (lv2 := [(3, .int (Int32.ofInt (s + 1))), (5, .int (Int32.ofInt f4)), (4, .int (Int32.ofInt 100000)), (2, .int (Int32.ofInt mo4)), (0, .ref 344), (1, .int (Int32.ofInt w))]) hm_73 rfl rfl (Nat.le_of_ble_eq_true rfl) rfl rfl ?_
                    refine fl_goto hm_73 rfl ?_
                    exact fl_R_sub (lv' := [(3, .int (Int32.ofInt (s + 1))), (2, .int (Int32.ofInt mo4)), (0, .ref 344), (1, .int (Int32.ofInt w))]) rfl rfl (ih42_ _ (by omega) (mo4) (s + 1) F4 rfl hg_F4 (fs_tr hf_F3 hf_F4 rfl) (⟨by omega, by omega⟩) (hb4) (hm4))
                  refine ga_aload_n (v := .ref 344) hm_73 rfl rfl rfl ?_
                  refine ga_getr (b := 371) hm_73 rfl sc_344 rfl ?_
                  refine ga_iload_n (z := s) hm_73 rfl rfl ?_
                  have e118_ : F12_ 371 s.toNat = F 371 s.toNat := by rw [q13_]; exact fl_u_ne (by first | exact nc_ rfl | decide | omega)
                  have e119_ : F1 371 s.toNat = F 371 s.toNat := (hf_F1 371 s.toNat (by first | exact fs_c rfl | exact (fs_n (by omega) rfl))).trans (e118_)
                  have e120_ : F2 371 s.toNat = F 371 s.toNat := (hf_F2 371 s.toNat (by first | exact fs_c rfl | exact (fs_n (by omega) rfl))).trans (e119_)
                  have e121_ : F3 371 s.toNat = F 371 s.toNat := (hf_F3 371 s.toNat (by first | exact fs_c rfl | exact (fs_n (by omega) rfl))).trans (e120_)
                  have e122_ : F4 371 s.toNat = F 371 s.toNat := (hf_F4 371 s.toNat (by first | exact fs_c rfl | exact (fs_n (by omega) rfl))).trans (e121_)
                  have b123_ : -9223372036854775808 ≤ F 371 s.toNat ∧ F 371 s.toNat ≤ 9223372036854775807 := gi_g hgi rfl
                  refine ga_lald (z := s) (w := F 371 s.toNat) hm_73 rfl sc_371 (by omega) (by omega) (by omega) (e122_) ?_
                  refine ga_iload (z := f4) hm_73 rfl rfl ?_
                  refine ga_lany hm_73 rfl rfl rfl (fun z124_ ⟨h125_, h126_⟩ => ?_)
                  refine ga_lconst (z := 1) hm_73 rfl rfl ?_
                  refine ga_lany hm_73 rfl rfl rfl (fun z127_ ⟨h128_, h129_⟩ => ?_)
                  refine ga_lconst (z := 0) hm_73 rfl rfl ?_
                  refine ga_lcmpq (a := z127_) (b := 0) hm_73 rfl rfl ⟨by omega, by omega⟩ ⟨by omega, by omega⟩ (fun h130_ => ?_) (fun h131_ => ?_)
                  ·
                    refine ga_inc (a := f4) (c := f4 + 1) (lv2 := [(5, .int (Int32.ofInt (f4 + 1))), (4, .int (Int32.ofInt 100000)), (3, .int (Int32.ofInt s)), (2, .int (Int32.ofInt mo4)), (0, .ref 344), (1, .int (Int32.ofInt w))]) hm_73 rfl rfl (Nat.le_of_ble_eq_true rfl) rfl rfl ?_
                    refine fl_goto hm_73 rfl ?_
                    exact ih112_ _ (by omega) (mo4) (f4 + 1) F4 rfl hg_F4 hf_F4 (⟨by omega, by omega⟩) (hb4) (hm4)
                  refine ga_aload_n (v := .ref 344) hm_73 rfl rfl rfl ?_
                  refine ga_getr (b := 385) hm_73 rfl sc_344 rfl ?_
                  refine ga_iload (z := f4) hm_73 rfl rfl ?_
                  have b132_ : -2147483648 ≤ F4 385 f4.toNat ∧ F4 385 f4.toNat ≤ 2147483647 := gi_g hg_F4 rfl
                  refine ga_iald (z := f4) (w := F4 385 f4.toNat) hm_73 rfl sc_385 (by omega) (by omega) (by omega) (rfl) ?_
                  refine fl_iconst hm_73 rfl ?_
                  refine fl_icmp_eq (a := F4 385 f4.toNat) (b := -1) hm_73 rfl ⟨by omega, by omega⟩ ⟨by omega, by omega⟩ (fun h133_ => ?_) (fun h134_ => ?_)
                  ·
                    refine ga_aload_n (v := .ref 344) hm_73 rfl rfl rfl ?_
                    refine ga_getr (b := 385) hm_73 rfl sc_344 rfl ?_
                    refine ga_iload (z := f4) hm_73 rfl rfl ?_
                    refine ga_iload (z := 100000) hm_73 rfl rfl ?_
                    refine fl_iast (z := f4) (v := 100000) hm_73 rfl sc_385 (by omega) (by omega) (by omega) ?_
                    refine fl_iconst hm_73 rfl ?_
                    refine ga_istore_n (lv2 := [(2, .int (Int32.ofInt 1)), (5, .int (Int32.ofInt f4)), (4, .int (Int32.ofInt 100000)), (3, .int (Int32.ofInt s)), (0, .ref 344), (1, .int (Int32.ofInt w))]) hm_73 rfl (Nat.le_of_ble_eq_true rfl) rfl ?_
                    refine ga_inc (a := f4) (c := f4 + 1) (lv2 := [(5, .int (Int32.ofInt (f4 + 1))), (2, .int (Int32.ofInt 1)), (4, .int (Int32.ofInt 100000)), (3, .int (Int32.ofInt s)), (0, .ref 344), (1, .int (Int32.ofInt w))]) hm_73 rfl rfl (Nat.le_of_ble_eq_true rfl) rfl rfl ?_
                    refine fl_goto hm_73 rfl ?_
                    obtain ⟨F135_, q136_⟩ : ∃ Fq_, Fq_ = (fl_u F4 385 f4.toNat 100000) := ⟨_, rfl⟩
                    rw [← q136_]
                    have g137_ : gi F135_ := by rw [q136_]; exact gi_u (hg_F4) rfl (by omega) (by omega)
                    have g138_ : fs [(344, 344, 0, 0), (385, 385, 0, 100000)] F F135_ := by rw [q136_]; exact fs_u (g114_) (fs_z (fs_y (by omega)))
                    exact fl_R_sub (lv' := [(5, .int (Int32.ofInt (f4 + 1))), (4, .int (Int32.ofInt 100000)), (3, .int (Int32.ofInt s)), (2, .int (Int32.ofInt 1)), (0, .ref 344), (1, .int (Int32.ofInt w))]) rfl rfl (ih112_ _ (by omega) (1) (f4 + 1) F135_ rfl g137_ (by rw [q136_]; exact fs_u (hf_F4) (fs_y (by omega))) (⟨by omega, by omega⟩) (by rw [q136_]; exact wbd_u hb4 (by omega) (by omega)) (Or.inr ⟨by omega, by have h9_ : wsm (F135_ 385) (F 344 36).toNat < wsm (F4 385) (F 344 36).toNat := (by rw [q136_]; exact wbd_lt ⟨by omega, by omega⟩ (by omega) (by omega) (by omega)); omega⟩))
                  refine ga_aload_n (v := .ref 344) hm_73 rfl rfl rfl ?_
                  refine ga_getr (b := 385) hm_73 rfl sc_344 rfl ?_
                  refine ga_iload (z := f4) hm_73 rfl rfl ?_
                  refine ga_iald (z := f4) (w := F4 385 f4.toNat) hm_73 rfl sc_385 (by omega) (by omega) (by omega) (rfl) ?_
                  refine ga_iload (z := 100000) hm_73 rfl rfl ?_
                  refine fl_icmp_gt (a := F4 385 f4.toNat) (b := 100000) hm_73 rfl ⟨by omega, by omega⟩ ⟨by omega, by omega⟩ (fun h139_ => ?_) (fun h140_ => ?_)
                  ·
                    refine ga_aload_n (v := .ref 344) hm_73 rfl rfl rfl ?_
                    refine ga_getr (b := 385) hm_73 rfl sc_344 rfl ?_
                    refine ga_iload (z := f4) hm_73 rfl rfl ?_
                    refine ga_iload (z := 100000) hm_73 rfl rfl ?_
                    refine fl_iast (z := f4) (v := 100000) hm_73 rfl sc_385 (by omega) (by omega) (by omega) ?_
                    refine fl_iconst hm_73 rfl ?_
                    refine ga_istore_n (lv2 := [(2, .int (Int32.ofInt 1)), (5, .int (Int32.ofInt f4)), (4, .int (Int32.ofInt 100000)), (3, .int (Int32.ofInt s)), (0, .ref 344), (1, .int (Int32.ofInt w))]) hm_73 rfl (Nat.le_of_ble_eq_true rfl) rfl ?_
                    refine ga_inc (a := f4) (c := f4 + 1) (lv2 := [(5, .int (Int32.ofInt (f4 + 1))), (2, .int (Int32.ofInt 1)), (4, .int (Int32.ofInt 100000)), (3, .int (Int32.ofInt s)), (0, .ref 344), (1, .int (Int32.ofInt w))]) hm_73 rfl rfl (Nat.le_of_ble_eq_true rfl) rfl rfl ?_
                    refine fl_goto hm_73 rfl ?_
                    obtain ⟨F141_, q142_⟩ : ∃ Fq_, Fq_ = (fl_u F4 385 f4.toNat 100000) := ⟨_, rfl⟩
                    rw [← q142_]
                    have g143_ : gi F141_ := by rw [q142_]; exact gi_u (hg_F4) rfl (by omega) (by omega)
                    have g144_ : fs [(344, 344, 0, 0), (385, 385, 0, 100000)] F F141_ := by rw [q142_]; exact fs_u (g114_) (fs_z (fs_y (by omega)))
                    exact fl_R_sub (lv' := [(5, .int (Int32.ofInt (f4 + 1))), (4, .int (Int32.ofInt 100000)), (3, .int (Int32.ofInt s)), (2, .int (Int32.ofInt 1)), (0, .ref 344), (1, .int (Int32.ofInt w))]) rfl rfl (ih112_ _ (by omega) (1) (f4 + 1) F141_ rfl g143_ (by rw [q142_]; exact fs_u (hf_F4) (fs_y (by omega))) (⟨by omega, by omega⟩) (by rw [q142_]; exact wbd_u hb4 (by omega) (by omega)) (Or.inr ⟨by omega, by have h9_ : wsm (F141_ 385) (F 344 36).toNat < wsm (F4 385) (F 344 36).toNat := (by rw [q142_]; exact wbd_lt ⟨by omega, by omega⟩ (by omega) (by omega) (by omega)); omega⟩))
                  refine fl_goto hm_73 rfl ?_
                  refine ga_inc (a := f4) (c := f4 + 1) (lv2 := [(5, .int (Int32.ofInt (f4 + 1))), (4, .int (Int32.ofInt 100000)), (3, .int (Int32.ofInt s)), (2, .int (Int32.ofInt mo4)), (0, .ref 344), (1, .int (Int32.ofInt w))]) hm_73 rfl rfl (Nat.le_of_ble_eq_true rfl) rfl rfl ?_
                  refine fl_goto hm_73 rfl ?_
                  exact ih112_ _ (by omega) (mo4) (f4 + 1) F4 rfl hg_F4 hf_F4 (⟨by omega, by omega⟩) (hb4) (hm4)
                exact L111_ _ (mo3) (0) F3 rfl hg_F3 fs_refl (⟨by omega, by omega⟩) (hb3) (hm3)
              refine fl_goto hm_73 rfl ?_
              refine ga_inc (a := s) (c := s + 1) (lv2 := [(3, .int (Int32.ofInt (s + 1))), (4, .int (Int32.ofInt z59_)), (2, .int (Int32.ofInt mo3)), (0, .ref 344), (1, .int (Int32.ofInt w))]) hm_73 rfl rfl (Nat.le_of_ble_eq_true rfl) rfl rfl ?_
              refine fl_goto hm_73 rfl ?_
              exact fl_R_sub (lv' := [(3, .int (Int32.ofInt (s + 1))), (2, .int (Int32.ofInt mo3)), (0, .ref 344), (1, .int (Int32.ofInt w))]) rfl rfl (ih42_ _ (by omega) (mo3) (s + 1) F3 rfl hg_F3 hf_F3 (⟨by omega, by omega⟩) (hb3) (hm3))
            exact L41_ _ (0) (0) F2 rfl hg_F2 fs_refl (⟨by omega, by omega⟩) (hb2) (by omega)
          exact L27_ _ (1) F1 rfl hg_F1 fs_refl (⟨by omega, by omega⟩) (fun j hj => hb1 j (by omega))
        refine ga_aload_n (v := .ref 344) hm_73 rfl rfl rfl ?_
        refine ga_getr (b := 385) hm_73 rfl sc_344 rfl ?_
        refine ga_iload_n (z := f) hm_73 rfl rfl ?_
        refine ga_aload_n (v := .ref 344) hm_73 rfl rfl rfl ?_
        have e145_ : F12_ 344 38 = F 344 38 := by rw [q13_]; exact fl_u_ne (by first | exact nc_ rfl | decide | omega)
        have e146_ : F1 344 38 = F 344 38 := (hf_F1 344 38 rfl).trans (e145_)
        have b147_ : -9223372036854775808 ≤ F 344 38 ∧ F 344 38 ≤ 9223372036854775807 := gi_g hgi rfl
        refine ga_getl (z := F 344 38) hm_73 rfl sc_344 rfl (e146_) ?_
        refine ga_iload_n (z := f) hm_73 rfl rfl ?_
        refine ga_lany hm_73 rfl rfl rfl (fun z148_ ⟨h149_, h150_⟩ => ?_)
        refine ga_lconst (z := 1) hm_73 rfl rfl ?_
        refine ga_lany hm_73 rfl rfl rfl (fun z151_ ⟨h152_, h153_⟩ => ?_)
        refine ga_lconst (z := 1) hm_73 rfl rfl ?_
        refine ga_lcmpn (a := z151_) (b := 1) hm_73 rfl rfl ⟨by omega, by omega⟩ ⟨by omega, by omega⟩ (fun h154_ => ?_) (fun h155_ => ?_)
        ·
          refine fl_iconst hm_73 rfl ?_
          refine fl_iast (z := f) (v := -1) hm_73 rfl sc_385 (by omega) (by omega) (by omega) ?_
          refine ga_inc (a := f) (c := f + 1) (lv2 := [(2, .int (Int32.ofInt (f + 1))), (0, .ref 344), (1, .int (Int32.ofInt w))]) hm_73 rfl rfl (Nat.le_of_ble_eq_true rfl) rfl rfl ?_
          refine fl_goto hm_73 rfl ?_
          obtain ⟨F156_, q157_⟩ : ∃ Fq_, Fq_ = (fl_u F1 385 f.toNat (-1)) := ⟨_, rfl⟩
          rw [← q157_]
          have g158_ : gi F156_ := by rw [q157_]; exact gi_u (hg_F1) rfl (by omega) (by omega)
          have g159_ : fs [(344, 344, 0, 0), (385, 385, 0, 100000)] F F156_ := by rw [q157_]; exact fs_u (g20_) (fs_z (fs_y (by omega)))
          exact ih18_ _ (by omega) (f + 1) F156_ rfl g158_ (by rw [q157_]; exact fs_u (hf_F1) (fs_y (by omega))) (⟨by omega, by omega⟩) (by rw [q157_]; exact wbd_s hb1 (by omega) (by omega) (by omega))
        refine fl_iconst hm_73 rfl ?_
        refine fl_goto hm_73 rfl ?_
        refine fl_iast (z := f) (v := 0) hm_73 rfl sc_385 (by omega) (by omega) (by omega) ?_
        refine ga_inc (a := f) (c := f + 1) (lv2 := [(2, .int (Int32.ofInt (f + 1))), (0, .ref 344), (1, .int (Int32.ofInt w))]) hm_73 rfl rfl (Nat.le_of_ble_eq_true rfl) rfl rfl ?_
        refine fl_goto hm_73 rfl ?_
        obtain ⟨F160_, q161_⟩ : ∃ Fq_, Fq_ = (fl_u F1 385 f.toNat 0) := ⟨_, rfl⟩
        rw [← q161_]
        have g162_ : gi F160_ := by rw [q161_]; exact gi_u (hg_F1) rfl (by omega) (by omega)
        have g163_ : fs [(344, 344, 0, 0), (385, 385, 0, 100000)] F F160_ := by rw [q161_]; exact fs_u (g20_) (fs_z (fs_y (by omega)))
        exact ih18_ _ (by omega) (f + 1) F160_ rfl g162_ (by rw [q161_]; exact fs_u (hf_F1) (fs_y (by omega))) (⟨by omega, by omega⟩) (by rw [q161_]; exact wbd_s hb1 (by omega) (by omega) (by omega))
      exact L17_ _ (0) F12_ rfl g14_ fs_refl (⟨by omega, by omega⟩) (fun j hj => absurd hj (by omega))
    refine fl_iconst hm_73 rfl ?_
    refine fl_goto hm_73 rfl ?_
    refine ga_puti (z := 2) hm_73 rfl sc_344 rfl rfl ?_
    refine ga_aload_n (v := .ref 344) hm_73 rfl rfl rfl ?_
    refine ga_geti (z := 2) hm_73 rfl sc_344 rfl (fl_u_eq) ?_
    refine fl_if_le hm_73 rfl ⟨by omega, by omega⟩ (fun h => absurd h (by omega)) (fun _ => ?_)
    refine fl_iconst hm_73 rfl ?_
    obtain ⟨F164_, q165_⟩ : ∃ Fq_, Fq_ = (fl_u F 344 0 2) := ⟨_, rfl⟩
    rw [← q165_]
    have g166_ : gi F164_ := by rw [q165_]; exact gi_u (hgi) rfl (by omega) (by omega)
    have g167_ : fs [(344, 344, 0, 0), (385, 385, 0, 100000)] F F164_ := by rw [q165_]; exact fs_u (fs_refl) rfl
    refine gr_i (z := 0) hm_73 rfl rfl rfl ?_
    exact ⟨F164_, rfl, g166_, g167_, (⟨by omega, by omega⟩)⟩
  refine fl_iconst hm_73 rfl ?_
  refine fl_goto hm_73 rfl ?_
  refine ga_puti (z := 1) hm_73 rfl sc_344 rfl rfl ?_
  refine ga_aload_n (v := .ref 344) hm_73 rfl rfl rfl ?_
  refine ga_geti (z := 1) hm_73 rfl sc_344 rfl (fl_u_eq) ?_
  refine fl_if_le hm_73 rfl ⟨by omega, by omega⟩ (fun h => absurd h (by omega)) (fun _ => ?_)
  refine fl_iconst hm_73 rfl ?_
  obtain ⟨F168_, q169_⟩ : ∃ Fq_, Fq_ = (fl_u F 344 0 1) := ⟨_, rfl⟩
  rw [← q169_]
  have g170_ : gi F168_ := by rw [q169_]; exact gi_u (hgi) rfl (by omega) (by omega)
  have g171_ : fs [(344, 344, 0, 0), (385, 385, 0, 100000)] F F168_ := by rw [q169_]; exact fs_u (fs_refl) rfl
  refine gr_i (z := 0) hm_73 rfl rfl rfl ?_
  exact ⟨F168_, rfl, g170_, g171_, (⟨by omega, by omega⟩)⟩

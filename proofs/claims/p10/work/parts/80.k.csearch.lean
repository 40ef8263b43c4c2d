/- CheapPlanner$Needs.holdIn -/
abbrev pq_115v (G : Nat → Nat → Option Nat) (F : fl_N) (X : xi_H) (d : Nat) (st : Int) : Outcome → xi_H → Prop := gqi (fun z A => (fl_H sh_T G F ++ X = A ∧ (z = 0) ∧ (¬ hN F d st)) ∨ (fl_H sh_T G F ++ X = A ∧ (z = 1) ∧ (hN F d st))) gqn
theorem mc_115v {G : Nat → Nat → Option Nat} (hG : gg G) (F : fl_N) (X : xi_H) (hgi : gi F) (d : Nat) (st : Int) (h_d : nd d) (hst : -9223372036854775808 ≤ st ∧ st ≤ 9223372036854775807) : fl_M xi_ms 115 0 0 [.ref d, .long (Int64.ofInt st)] (fl_H sh_T G F ++ X) (pq_115v G F X d st) := by
  intro fr lo hfr hlo
  show fl_R xi_ms 115 fr lo 0 [(0, .ref d), (1, .long (Int64.ofInt st))] [] _ _
  have hr_d := h_d.2.2
  refine ga_aload_n (v := .ref d) hm_115 rfl rfl rfl ?_
  have b1_ : 0 ≤ F d 2 ∧ F d 2 ≤ 1 := gi_g hgi h_d.2.1.2.2.1
  refine ga_geti (z := F d 2) hm_115 rfl h_d.1.1 rfl (rfl) ?_
  refine fl_if_eq (a := F d 2) hm_115 rfl ⟨by omega, by omega⟩ (fun h2_ => ?_) (fun h3_ => ?_)
  ·
    refine fl_iconst hm_115 rfl ?_
    refine gr_i (z := 0) hm_115 rfl rfl (ga_nb (by omega)) ?_
    exact Or.inl ⟨rfl, rfl, (by unfold hN; rintro ⟨h7_, h8_, h9_⟩; first | omega | contradiction)⟩
  refine ga_lload_n (z := st) hm_115 rfl rfl ?_
  refine ga_aload_n (v := .ref d) hm_115 rfl rfl rfl ?_
  have b4_ : -9223372036854775808 ≤ F d 0 ∧ F d 0 ≤ 9223372036854775807 := gi_g hgi h_d.2.1.1
  refine ga_getl (z := F d 0) hm_115 rfl h_d.1.1 rfl (rfl) ?_
  refine ga_lx (z := (lan st (F d 0))) hm_115 rfl rfl rfl (lop_e 0 _ _) (fun ⟨h5_, h6_⟩ => ?_)
  refine ga_aload_n (v := .ref d) hm_115 rfl rfl rfl ?_
  refine ga_getl (z := F d 0) hm_115 rfl h_d.1.1 rfl (rfl) ?_
  refine ga_lcmpn (a := (lan st (F d 0))) (b := F d 0) hm_115 rfl rfl ⟨by omega, by omega⟩ ⟨by omega, by omega⟩ (fun h7_ => ?_) (fun h8_ => ?_)
  ·
    refine fl_iconst hm_115 rfl ?_
    refine gr_i (z := 0) hm_115 rfl rfl (ga_nb (by omega)) ?_
    exact Or.inl ⟨rfl, rfl, (by unfold hN; rintro ⟨h7_, h8_, h9_⟩; first | omega | contradiction)⟩
  refine ga_lload_n (z := st) hm_115 rfl rfl ?_
  refine ga_aload_n (v := .ref d) hm_115 rfl rfl rfl ?_
  have b9_ : -9223372036854775808 ≤ F d 1 ∧ F d 1 ≤ 9223372036854775807 := gi_g hgi h_d.2.1.2.1
  refine ga_getl (z := F d 1) hm_115 rfl h_d.1.1 rfl (rfl) ?_
  refine ga_lx (z := (lan st (F d 1))) hm_115 rfl rfl rfl (lop_e 0 _ _) (fun ⟨h10_, h11_⟩ => ?_)
  refine ga_lconst (z := 0) hm_115 rfl rfl ?_
  refine ga_lcmpn (a := (lan st (F d 1))) (b := 0) hm_115 rfl rfl ⟨by omega, by omega⟩ ⟨by omega, by omega⟩ (fun h12_ => ?_) (fun h13_ => ?_)
  ·
    refine fl_iconst hm_115 rfl ?_
    refine gr_i (z := 0) hm_115 rfl rfl (ga_nb (by omega)) ?_
    exact Or.inl ⟨rfl, rfl, (by unfold hN; rintro ⟨h7_, h8_, h9_⟩; first | omega | contradiction)⟩
  refine fl_iconst hm_115 rfl ?_
  refine fl_goto hm_115 rfl ?_
  refine gr_i (z := 1) hm_115 rfl rfl (ga_nb (by omega)) ?_
  exact Or.inr (⟨rfl, rfl, (by unfold hN; exact ⟨by omega, by omega, by omega⟩)⟩)
/- CheapPlanner$Search.slotOf -/
abbrev pq_142v (G : Nat → Nat → Option Nat) (F : fl_N) (X : xi_H) (st : Int) : Outcome → xi_H → Prop := gqi (fun z A => fl_H sh_T G F ++ X = A ∧ (0 ≤ z ∧ z ≤ 511) ∧ (slz hshC (F 332) (F 338) st z.toNat)) gqn
theorem mc_142v {G : Nat → Nat → Option Nat} (hG : gg G) (F : fl_N) (X : xi_H) (hgi : gi F) (st : Int) (hst : -9223372036854775808 ≤ st ∧ st ≤ 9223372036854775807) (hfe : ∃ e : Int, 0 ≤ e ∧ e < 512 ∧ F 338 e.toNat = 0) : fl_M xi_ms 142 0 0 [.ref 331, .long (Int64.ofInt st)] (fl_H sh_T G F ++ X) (pq_142v G F X st) := by
  intro fr lo hfr hlo
  show fl_R xi_ms 142 fr lo 0 [(0, .ref 331), (1, .long (Int64.ofInt st))] [] _ _
  have hbh := hshC_b st
  refine ga_lload_n (z := st) hm_142 rfl rfl ?_
  refine ga_ldcl (z := -7046029254386353131) hm_142 rfl (by decide) ?_
  refine ga_lmulx (a := st) (b := -7046029254386353131) hm_142 rfl (fun ⟨h1_, h2_⟩ => ?_)
  refine fl_bipush hm_142 rfl rfl ?_
  refine ga_lx (z := (lus ((lmu st (-7046029254386353131))) 55)) hm_142 rfl rfl rfl (lop_e 4 _ _) (fun ⟨h3_, h4_⟩ => ?_)
  have b5_ := lus_55 ((lmu st (-7046029254386353131)))
  refine ga_l2i hm_142 rfl ?_
  refine ga_istore_n (lv2 := [(3, .int (Int32.ofInt ((lus ((lmu st (-7046029254386353131))) 55)))), (0, .ref 331), (1, .long (Int64.ofInt st))]) hm_142 rfl (Nat.le_of_ble_eq_true rfl) rfl ?_
  refine fl_iconst hm_142 rfl ?_
  refine ga_istore (lv2 := [(4, .int (Int32.ofInt 0)), (3, .int (Int32.ofInt ((lus ((lmu st (-7046029254386353131))) 55)))), (0, .ref 331), (1, .long (Int64.ofInt st))]) hm_142 rfl (Nat.le_of_ble_eq_true rfl) rfl ?_
  have L7_ : ∀ (n6_ : Nat) (k : Int) (sl : Int), (512 - k : Int).toNat = n6_ → (0 ≤ k ∧ k ≤ 512) → (0 ≤ sl ∧ sl ≤ 511) → (sl = (hshC st + k) % 512) → (∀ i : Nat, (i : Int) < k → ¬ stz (F 332) (F 338) st (ppr hshC st i)) → fl_R xi_ms 142 fr lo 13 [(4, .int (Int32.ofInt k)), (3, .int (Int32.ofInt sl)), (0, .ref 331), (1, .long (Int64.ofInt st))] [] (fl_H sh_T G F ++ X) (pq_142v G F X st) := by
    intro n6_
    induction n6_ using Nat.strongRecOn with
    | ind n6_ ih8_ =>
    intro k sl hn9_ hk hsl hse hno
    refine ga_iload (z := k) hm_142 rfl rfl ?_
    refine fl_sipush hm_142 rfl rfl ?_
    refine fl_icmp_ge (a := k) (b := 512) hm_142 rfl ⟨by omega, by omega⟩ ⟨by omega, by omega⟩ (fun h10_ => ?_) (fun h11_ => ?_)
    ·
      refine ga_iload_n (z := sl) hm_142 rfl rfl ?_
      refine gr_i (z := sl) hm_142 rfl rfl rfl ?_
      exact ⟨rfl, (⟨by omega, by omega⟩), (by obtain ⟨e, e0, e1, e2⟩ := hfe; obtain ⟨i, i1, i2⟩ := ppr_all (f := st) e0 e1; exact absurd (Or.inl (by rw [i2]; exact e2)) (hno i (by omega)))⟩
    refine ga_aload_n (v := .ref 331) hm_142 rfl rfl rfl ?_
    refine ga_getr (b := 338) hm_142 rfl sc_331 rfl ?_
    refine ga_iload_n (z := sl) hm_142 rfl rfl ?_
    have b12_ : 0 ≤ F 338 sl.toNat ∧ F 338 sl.toNat ≤ 200 := gi_g hgi rfl
    refine ga_iald (z := sl) (w := F 338 sl.toNat) hm_142 rfl sc_338 (by omega) (by omega) (by omega) (rfl) ?_
    refine fl_if_eq (a := F 338 sl.toNat) hm_142 rfl ⟨by omega, by omega⟩ (fun h13_ => ?_) (fun h14_ => ?_)
    ·
      refine ga_iload_n (z := sl) hm_142 rfl rfl ?_
      refine gr_i (z := sl) hm_142 rfl rfl rfl ?_
      exact ⟨rfl, (⟨by omega, by omega⟩), (⟨k.toNat, by unfold ppr; rw [hse, show ((k.toNat : Nat) : Int) = k by omega], by unfold stz; first | exact Or.inl (by omega) | exact Or.inr (by omega), fun i hi => hno i (by omega)⟩)⟩
    refine ga_aload_n (v := .ref 331) hm_142 rfl rfl rfl ?_
    refine ga_getr (b := 332) hm_142 rfl sc_331 rfl ?_
    refine ga_aload_n (v := .ref 331) hm_142 rfl rfl rfl ?_
    refine ga_getr (b := 338) hm_142 rfl sc_331 rfl ?_
    refine ga_iload_n (z := sl) hm_142 rfl rfl ?_
    refine ga_iald (z := sl) (w := F 338 sl.toNat) hm_142 rfl sc_338 (by omega) (by omega) (by omega) (rfl) ?_
    refine fl_iconst hm_142 rfl ?_
    refine ga_isub (a := F 338 sl.toNat) (b := 1) (c := F 338 sl.toNat - 1) hm_142 rfl (by omega) ?_
    have b15_ : -9223372036854775808 ≤ F 332 (F 338 sl.toNat - 1).toNat ∧ F 332 (F 338 sl.toNat - 1).toNat ≤ 9223372036854775807 := gi_g hgi rfl
    refine ga_lald (z := F 338 sl.toNat - 1) (w := F 332 (F 338 sl.toNat - 1).toNat) hm_142 rfl sc_332 (by omega) (by omega) (by omega) (rfl) ?_
    refine ga_lload_n (z := st) hm_142 rfl rfl ?_
    refine ga_lcmpn (a := F 332 (F 338 sl.toNat - 1).toNat) (b := st) hm_142 rfl rfl ⟨by omega, by omega⟩ ⟨by omega, by omega⟩ (fun h16_ => ?_) (fun h17_ => ?_)
    ·
      refine ga_iload_n (z := sl) hm_142 rfl rfl ?_
      refine fl_iconst hm_142 rfl ?_
      refine ga_iadd (a := sl) (b := 1) (c := sl + 1) hm_142 rfl (by omega) ?_
      refine fl_sipush hm_142 rfl rfl ?_
      refine ga_irem (a := sl + 1) (b := 512) hm_142 rfl (by omega) (by omega) (by omega) (by omega) ?_
      refine ga_istore_n (lv2 := [(3, .int (Int32.ofInt (((sl + 1) % 512)))), (4, .int (Int32.ofInt k)), (0, .ref 331), (1, .long (Int64.ofInt st))]) hm_142 rfl (Nat.le_of_ble_eq_true rfl) rfl ?_
      refine ga_inc (a := k) (c := k + 1) (lv2 := [(4, .int (Int32.ofInt (k + 1))), (3, .int (Int32.ofInt (((sl + 1) % 512)))), (0, .ref 331), (1, .long (Int64.ofInt st))]) hm_142 rfl rfl (Nat.le_of_ble_eq_true rfl) rfl rfl ?_
      refine fl_goto hm_142 rfl ?_
      exact ih8_ _ (by omega) (k + 1) (((sl + 1) % 512)) rfl (⟨by omega, by omega⟩) (⟨by omega, by omega⟩) (by rw [hse]; omega) (fun i hi => by by_cases e_ : (i : Int) < k; exact hno i e_; rw [show ppr hshC st i = sl.toNat from by unfold ppr; rw [hse, show (i : Int) = k by omega]]; rintro (h8_ | h8_) <;> contradiction)
    refine ga_iload_n (z := sl) hm_142 rfl rfl ?_
    refine gr_i (z := sl) hm_142 rfl rfl rfl ?_
    exact ⟨rfl, (⟨by omega, by omega⟩), (⟨k.toNat, by unfold ppr; rw [hse, show ((k.toNat : Nat) : Int) = k by omega], by unfold stz; first | exact Or.inl (by omega) | exact Or.inr (by omega), fun i hi => hno i (by omega)⟩)⟩
  exact L7_ _ (0) ((lus ((lmu st (-7046029254386353131))) 55)) rfl (⟨by omega, by omega⟩) (⟨by omega, by omega⟩) (by show _ = (hshC st + 0) % 512; rw [Int.add_zero, Int.emod_eq_of_lt hbh.1 (by omega)]; rfl) (fun i hi => absurd hi (by omega))
/- CheapPlanner$Search.setDue -/
abbrev pq_141v (G : Nat → Nat → Option Nat) (F : fl_N) (X : xi_H) (w pr : Int) : Outcome → xi_H → Prop := gqv (fun A => ∃ F' : fl_N, fl_H sh_T G F' ++ X = A ∧ gi F' ∧ fs [(334, 334, 0, 100000)] F F' ∧ (sdu F (F 333 w.toNat) pr (F' 334 w.toNat)) ∧ (∀ i : Nat, ¬ i = w.toNat → F' 334 i = F 334 i)) gqn
theorem mc_141v {G : Nat → Nat → Option Nat} (hG : gg G) (F : fl_N) (X : xi_H) (hgi : gi F) (w pr : Int) (hw : 0 ≤ w ∧ w ≤ 199) (hpr : -2147483648 ≤ pr ∧ pr ≤ 2147483647) (hcb : 0 ≤ F 333 w.toNat ∧ F 333 w.toNat ≤ 1000000) : fl_M xi_ms 141 0 0 [.ref 331, .int (Int32.ofInt w), .int (Int32.ofInt pr)] (fl_H sh_T G F ++ X) (pq_141v G F X w pr) := by
  intro fr lo hfr hlo
  show fl_R xi_ms 141 fr lo 0 [(0, .ref 331), (1, .int (Int32.ofInt w)), (2, .int (Int32.ofInt pr))] [] _ _
  refine ga_ldci (z := 2147483647) hm_141 rfl (by decide) ?_
  refine ga_istore_n (lv2 := [(3, .int (Int32.ofInt 2147483647)), (0, .ref 331), (1, .int (Int32.ofInt w)), (2, .int (Int32.ofInt pr))]) hm_141 rfl (Nat.le_of_ble_eq_true rfl) rfl ?_
  refine fl_iconst hm_141 rfl ?_
  refine ga_istore (lv2 := [(4, .int (Int32.ofInt 0)), (3, .int (Int32.ofInt 2147483647)), (0, .ref 331), (1, .int (Int32.ofInt w)), (2, .int (Int32.ofInt pr))]) hm_141 rfl (Nat.le_of_ble_eq_true rfl) rfl ?_
  have b4_ : 0 ≤ F 120 3 ∧ F 120 3 ≤ 41 := gi_g hgi rfl
  have L2_ : ∀ (n1_ : Nat) (k : Int) (hg : Int), (F 120 3 - k : Int).toNat = n1_ → (0 ≤ k ∧ k ≤ 41 ∧ k ≤ F 120 3) → (-2147483648 ≤ hg ∧ hg ≤ 2147483647) → (sdp (fun s => F (126 + 5 * s) 2) k pr hg) → (hg = 2147483647 ∨ (0 ≤ hg ∧ hg ≤ 999)) → fl_R xi_ms 141 fr lo 6 [(4, .int (Int32.ofInt k)), (3, .int (Int32.ofInt hg)), (0, .ref 331), (1, .int (Int32.ofInt w)), (2, .int (Int32.ofInt pr))] [] (fl_H sh_T G F ++ X) (pq_141v G F X w pr) := by
    intro n1_
    induction n1_ using Nat.strongRecOn with
    | ind n1_ ih3_ =>
    intro k hg hn5_ hk hhg hsd hh9
    refine ga_iload (z := k) hm_141 rfl rfl ?_
    refine ga_aload_n (v := .ref 331) hm_141 rfl rfl rfl ?_
    refine ga_getr (b := 120) hm_141 rfl sc_331 rfl ?_
    refine ga_geti (z := F 120 3) hm_141 rfl sc_120 rfl (rfl) ?_
    refine fl_icmp_ge (a := k) (b := F 120 3) hm_141 rfl ⟨by omega, by omega⟩ ⟨by omega, by omega⟩ (fun h6_ => ?_) (fun h7_ => ?_)
    ·
      refine ga_aload_n (v := .ref 331) hm_141 rfl rfl rfl ?_
      refine ga_getr (b := 334) hm_141 rfl sc_331 rfl ?_
      refine ga_iload_n (z := w) hm_141 rfl rfl ?_
      refine ga_iload_n (z := hg) hm_141 rfl rfl ?_
      refine ga_ldci (z := 2147483647) hm_141 rfl (by decide) ?_
      refine fx_icmp_ne (a := hg) (b := 2147483647) hm_141 rfl ⟨by omega, by omega⟩ ⟨by omega, by omega⟩ (fun h8_ => ?_) (fun h9_ => ?_)
      ·
        refine ga_aload_n (v := .ref 331) hm_141 rfl rfl rfl ?_
        refine ga_getr (b := 333) hm_141 rfl sc_331 rfl ?_
        refine ga_iload_n (z := w) hm_141 rfl rfl ?_
        have b10_ : -2147483648 ≤ F 333 w.toNat ∧ F 333 w.toNat ≤ 2147483647 := gi_g hgi rfl
        refine ga_iald (z := w) (w := F 333 w.toNat) hm_141 rfl sc_333 (by omega) (by omega) (by omega) (rfl) ?_
        refine ga_iload_n (z := hg) hm_141 rfl rfl ?_
        refine ga_iadd (a := F 333 w.toNat) (b := hg) (c := F 333 w.toNat + hg) hm_141 rfl (by omega) ?_
        refine fl_iast (z := w) (v := F 333 w.toNat + hg) hm_141 rfl sc_334 (by omega) (by omega) (by omega) ?_
        obtain ⟨F11_, q12_⟩ : ∃ Fq_, Fq_ = (fl_u F 334 w.toNat (F 333 w.toNat + hg)) := ⟨_, rfl⟩
        rw [← q12_]
        have g13_ : gi F11_ := by rw [q12_]; exact gi_u (hgi) rfl (by omega) (by omega)
        have g14_ : fs [(334, 334, 0, 100000)] F F11_ := by rw [q12_]; exact fs_u (fs_refl) (fs_y (by omega))
        refine gr_v hm_141 rfl rfl ?_
        have e15_ : F11_ 334 w.toNat = F 333 w.toNat + hg := by rw [q12_]; exact fl_u_eq
        exact ⟨F11_, rfl, g13_, g14_, (sdu_of hgi (by have h9_ : 0 ≤ F 120 3 ∧ F 120 3 ≤ 41 := gi_g hgi rfl; omega) (by rw [show F 120 3 = k by omega]; exact hsd) (Eq.trans (e15_) (by first | rw [if_pos (by omega)] | rw [if_neg (by omega)]))), (fun i hi => (show F11_ 334 i = F 334 i from (by rw [q12_]; exact (fl_u_ne (by first | exact nc_ rfl | decide | omega)))))⟩
      refine ga_ldci (z := 2147483647) hm_141 rfl (by decide) ?_
      refine fl_goto hm_141 rfl ?_
      refine fl_iast (z := w) (v := 2147483647) hm_141 rfl sc_334 (by omega) (by omega) (by omega) ?_
      obtain ⟨F16_, q17_⟩ : ∃ Fq_, Fq_ = (fl_u F 334 w.toNat 2147483647) := ⟨_, rfl⟩
      rw [← q17_]
      have g18_ : gi F16_ := by rw [q17_]; exact gi_u (hgi) rfl (by omega) (by omega)
      have g19_ : fs [(334, 334, 0, 100000)] F F16_ := by rw [q17_]; exact fs_u (fs_refl) (fs_y (by omega))
      refine gr_v hm_141 rfl rfl ?_
      have e20_ : F16_ 334 w.toNat = 2147483647 := by rw [q17_]; exact fl_u_eq
      exact ⟨F16_, rfl, g18_, g19_, (sdu_of hgi (by have h9_ : 0 ≤ F 120 3 ∧ F 120 3 ≤ 41 := gi_g hgi rfl; omega) (by rw [show F 120 3 = k by omega]; exact hsd) (Eq.trans (e20_) (by first | rw [if_pos (by omega)] | rw [if_neg (by omega)]))), (fun i hi => (show F16_ 334 i = F 334 i from (by rw [q17_]; exact (fl_u_ne (by first | exact nc_ rfl | decide | omega)))))⟩
    refine ga_aload_n (v := .ref 331) hm_141 rfl rfl rfl ?_
    refine ga_getr (b := 120) hm_141 rfl sc_331 rfl ?_
    refine ga_getr (b := 122) hm_141 rfl sc_120 rfl ?_
    refine ga_iload (z := k) hm_141 rfl rfl ?_
    obtain ⟨a21_, r22_, n23_, q24_⟩ := ra_122 (k).toNat (by omega)
    refine fl_aald (z := k) (q := a21_) hm_141 rfl sc_122 (hG _ _ _ sc_122) rfl (by omega) (by simp only [List.length_cons, List.length_nil]; omega) (by simp only [List.length_cons, List.length_nil]; omega) r22_ ?_
    have b25_ : 0 ≤ F a21_ 2 ∧ F a21_ 2 ≤ 999 := gi_g hgi n23_.2.1.2.2.1
    refine ga_geti (z := F a21_ 2) hm_141 rfl n23_.1.1 rfl (rfl) ?_
    refine ga_istore (lv2 := [(5, .int (Int32.ofInt (F a21_ 2))), (4, .int (Int32.ofInt k)), (3, .int (Int32.ofInt hg)), (0, .ref 331), (1, .int (Int32.ofInt w)), (2, .int (Int32.ofInt pr))]) hm_141 rfl (Nat.le_of_ble_eq_true rfl) rfl ?_
    refine ga_iload (z := F a21_ 2) hm_141 rfl rfl ?_
    refine ga_iload_n (z := pr) hm_141 rfl rfl ?_
    refine fl_icmp_le (a := F a21_ 2) (b := pr) hm_141 rfl ⟨by omega, by omega⟩ ⟨by omega, by omega⟩ (fun h26_ => ?_) (fun h27_ => ?_)
    ·
      refine ga_inc (a := k) (c := k + 1) (lv2 := [(4, .int (Int32.ofInt (k + 1))), (5, .int (Int32.ofInt (F a21_ 2))), (3, .int (Int32.ofInt hg)), (0, .ref 331), (1, .int (Int32.ofInt w)), (2, .int (Int32.ofInt pr))]) hm_141 rfl rfl (Nat.le_of_ble_eq_true rfl) rfl rfl ?_
      refine fl_goto hm_141 rfl ?_
      exact fl_R_sub (lv' := [(4, .int (Int32.ofInt (k + 1))), (3, .int (Int32.ofInt hg)), (0, .ref 331), (1, .int (Int32.ofInt w)), (2, .int (Int32.ofInt pr))]) rfl rfl (ih3_ _ (by omega) (k + 1) (hg) rfl (⟨by omega, by omega, by omega⟩) (⟨by omega, by omega⟩) (sdp_n hsd (by omega) (by rw [show F (126 + 5 * k.toNat) 2 = F a21_ 2 from by rw [← q24_]]; omega) (by rw [show F (126 + 5 * k.toNat) 2 = F a21_ 2 from by rw [← q24_]]; omega)) (by omega))
    refine ga_iload (z := F a21_ 2) hm_141 rfl rfl ?_
    refine ga_iload_n (z := hg) hm_141 rfl rfl ?_
    refine fl_icmp_ge (a := F a21_ 2) (b := hg) hm_141 rfl ⟨by omega, by omega⟩ ⟨by omega, by omega⟩ (fun h28_ => ?_) (fun h29_ => ?_)
    ·
      refine ga_inc (a := k) (c := k + 1) (lv2 := [(4, .int (Int32.ofInt (k + 1))), (5, .int (Int32.ofInt (F a21_ 2))), (3, .int (Int32.ofInt hg)), (0, .ref 331), (1, .int (Int32.ofInt w)), (2, .int (Int32.ofInt pr))]) hm_141 rfl rfl (Nat.le_of_ble_eq_true rfl) rfl rfl ?_
      refine fl_goto hm_141 rfl ?_
      exact fl_R_sub (lv' := [(4, .int (Int32.ofInt (k + 1))), (3, .int (Int32.ofInt hg)), (0, .ref 331), (1, .int (Int32.ofInt w)), (2, .int (Int32.ofInt pr))]) rfl rfl (ih3_ _ (by omega) (k + 1) (hg) rfl (⟨by omega, by omega, by omega⟩) (⟨by omega, by omega⟩) (sdp_n hsd (by omega) (by rw [show F (126 + 5 * k.toNat) 2 = F a21_ 2 from by rw [← q24_]]; omega) (by rw [show F (126 + 5 * k.toNat) 2 = F a21_ 2 from by rw [← q24_]]; omega)) (by omega))
    refine ga_iload (z := F a21_ 2) hm_141 rfl rfl ?_
    refine ga_istore_n (lv2 := [(3, .int (Int32.ofInt (F a21_ 2))), (5, .int (Int32.ofInt (F a21_ 2))), (4, .int (Int32.ofInt k)), (0, .ref 331), (1, .int (Int32.ofInt w)), (2, .int (Int32.ofInt pr))]) hm_141 rfl (Nat.le_of_ble_eq_true rfl) rfl ?_
    refine ga_inc (a := k) (c := k + 1) (lv2 := [(4, .int (Int32.ofInt (k + 1))), (3, .int (Int32.ofInt (F a21_ 2))), (5, .int (Int32.ofInt (F a21_ 2))), (0, .ref 331), (1, .int (Int32.ofInt w)), (2, .int (Int32.ofInt pr))]) hm_141 rfl rfl (Nat.le_of_ble_eq_true rfl) rfl rfl ?_
    refine fl_goto hm_141 rfl ?_
    exact fl_R_sub (lv' := [(4, .int (Int32.ofInt (k + 1))), (3, .int (Int32.ofInt (F a21_ 2))), (0, .ref 331), (1, .int (Int32.ofInt w)), (2, .int (Int32.ofInt pr))]) rfl rfl (ih3_ _ (by omega) (k + 1) (F a21_ 2) rfl (⟨by omega, by omega, by omega⟩) (⟨by omega, by omega⟩) (by have h9_ := sdp_y hsd (by omega) (by rw [show F (126 + 5 * k.toNat) 2 = F a21_ 2 from by rw [← q24_]]; omega) (by rw [show F (126 + 5 * k.toNat) 2 = F a21_ 2 from by rw [← q24_]]; omega); rwa [show F (126 + 5 * k.toNat) 2 = F a21_ 2 from by rw [← q24_]] at h9_) (by omega))
  exact L2_ _ (0) (2147483647) rfl (⟨by omega, by omega, by omega⟩) (⟨by omega, by omega⟩) (sdp_0) (by omega)
/- CheapPlanner$Search.leastDue -/
abbrev pq_138v (G : Nat → Nat → Option Nat) (F : fl_N) (X : xi_H)  : Outcome → xi_H → Prop := gqi (fun z A => fl_H sh_T G F ++ X = A ∧ (-2147483648 ≤ z ∧ z ≤ 2147483647) ∧ (lsd F (F 331 8) z)) gqn
theorem mc_138v {G : Nat → Nat → Option Nat} (hG : gg G) (F : fl_N) (X : xi_H) (hgi : gi F)  : fl_M xi_ms 138 1 21 [.ref 331] (fl_H sh_T G F ++ X) (pq_138v G F X) := by
  intro fr lo hfr hlo
  show fl_R xi_ms 138 fr lo 0 [(0, .ref 331)] [] _ _
  refine ga_ldci (z := 2147483647) hm_138 rfl (by decide) ?_
  refine ga_istore_n (lv2 := [(1, .int (Int32.ofInt 2147483647)), (0, .ref 331)]) hm_138 rfl (Nat.le_of_ble_eq_true rfl) rfl ?_
  refine fl_iconst hm_138 rfl ?_
  refine ga_istore_n (lv2 := [(2, .int (Int32.ofInt 0)), (1, .int (Int32.ofInt 2147483647)), (0, .ref 331)]) hm_138 rfl (Nat.le_of_ble_eq_true rfl) rfl ?_
  have b4_ : 0 ≤ F 331 8 ∧ F 331 8 ≤ 200 := gi_g hgi rfl
  have L2_ : ∀ (n1_ : Nat) (k : Int) (le : Int), (F 331 8 - k : Int).toNat = n1_ → (0 ≤ k ∧ k ≤ 200 ∧ k ≤ F 331 8) → (-2147483648 ≤ le ∧ le ≤ 2147483647) → (lsd F k le) → fl_R xi_ms 138 fr lo 5 [(2, .int (Int32.ofInt k)), (1, .int (Int32.ofInt le)), (0, .ref 331)] [] (fl_H sh_T G F ++ X) (pq_138v G F X) := by
    intro n1_
    induction n1_ using Nat.strongRecOn with
    | ind n1_ ih3_ =>
    intro k le hn5_ hk hle hm
    refine ga_iload_n (z := k) hm_138 rfl rfl ?_
    refine ga_aload_n (v := .ref 331) hm_138 rfl rfl rfl ?_
    refine ga_geti (z := F 331 8) hm_138 rfl sc_331 rfl (rfl) ?_
    refine fl_icmp_ge (a := k) (b := F 331 8) hm_138 rfl ⟨by omega, by omega⟩ ⟨by omega, by omega⟩ (fun h6_ => ?_) (fun h7_ => ?_)
    ·
      refine ga_iload_n (z := le) hm_138 rfl rfl ?_
      refine gr_i (z := le) hm_138 rfl rfl rfl ?_
      exact ⟨rfl, (⟨by omega, by omega⟩), (⟨fun i hi => hm.1 i (by omega), by rcases hm.2 with h9_ | ⟨i, h8_, h9_⟩; exact Or.inl h9_; exact Or.inr ⟨i, by omega, h9_⟩⟩)⟩
    refine ga_iload_n (z := le) hm_138 rfl rfl ?_
    refine ga_aload_n (v := .ref 331) hm_138 rfl rfl rfl ?_
    refine ga_getr (b := 334) hm_138 rfl sc_331 rfl ?_
    refine ga_iload_n (z := k) hm_138 rfl rfl ?_
    have b8_ : -2147483648 ≤ F 334 k.toNat ∧ F 334 k.toNat ≤ 2147483647 := gi_g hgi rfl
    refine ga_iald (z := k) (w := F 334 k.toNat) hm_138 rfl sc_334 (by omega) (by omega) (by omega) (rfl) ?_
    refine gJi (nY := 2) (F := 0) (L := 0) (As := [.int (Int32.ofInt le), .int (Int32.ofInt (F 334 k.toNat))]) (rest := []) hm_138 rfl hm_196 rfl rfl (fl_pos sc_0) rfl rfl rfl rfl (by omega) (by omega) ?_
    intro f9_ l10_ h11_ h12_
    show fl_R xi_ms 196 f9_ l10_ 0 [(0, .int (Int32.ofInt le)), (1, .int (Int32.ofInt (F 334 k.toNat)))] [] _ _
    refine ga_iload_n (z := le) hm_196 rfl rfl ?_
    refine ga_iload_n (z := F 334 k.toNat) hm_196 rfl rfl ?_
    refine fl_icmp_gt (a := le) (b := F 334 k.toNat) hm_196 rfl ⟨by omega, by omega⟩ ⟨by omega, by omega⟩ (fun h13_ => ?_) (fun h14_ => ?_)
    ·
      refine ga_iload_n (z := F 334 k.toNat) hm_196 rfl rfl ?_
      refine gr_i hm_196 rfl rfl rfl ?_
      clear h11_ h12_ f9_ l10_
      refine ga_istore_n (lv2 := [(1, .int (Int32.ofInt (F 334 k.toNat))), (2, .int (Int32.ofInt k)), (0, .ref 331)]) hm_138 rfl (Nat.le_of_ble_eq_true rfl) rfl ?_
      refine ga_inc (a := k) (c := k + 1) (lv2 := [(2, .int (Int32.ofInt (k + 1))), (1, .int (Int32.ofInt (F 334 k.toNat))), (0, .ref 331)]) hm_138 rfl rfl (Nat.le_of_ble_eq_true rfl) rfl rfl ?_
      refine fl_goto hm_138 rfl ?_
      exact ih3_ _ (by omega) (k + 1) (F 334 k.toNat) rfl (⟨by omega, by omega, by omega⟩) (⟨by omega, by omega⟩) (⟨fun i hi => by by_cases e_ : (i : Int) < k; have h9_ := hm.1 i e_; omega; rw [show i = k.toNat by omega]; omega, Or.inr ⟨k.toNat, by omega, rfl⟩⟩)
    refine ga_iload_n (z := le) hm_196 rfl rfl ?_
    refine fl_goto hm_196 rfl ?_
    refine gr_i hm_196 rfl rfl rfl ?_
    clear h11_ h12_ f9_ l10_
    refine ga_istore_n (lv2 := [(1, .int (Int32.ofInt le)), (2, .int (Int32.ofInt k)), (0, .ref 331)]) hm_138 rfl (Nat.le_of_ble_eq_true rfl) rfl ?_
    refine ga_inc (a := k) (c := k + 1) (lv2 := [(2, .int (Int32.ofInt (k + 1))), (1, .int (Int32.ofInt le)), (0, .ref 331)]) hm_138 rfl rfl (Nat.le_of_ble_eq_true rfl) rfl rfl ?_
    refine fl_goto hm_138 rfl ?_
    exact ih3_ _ (by omega) (k + 1) (le) rfl (⟨by omega, by omega, by omega⟩) (⟨by omega, by omega⟩) (⟨fun i hi => by by_cases e_ : (i : Int) < k; have h9_ := hm.1 i e_; omega; rw [show i = k.toNat by omega]; omega, by rcases hm.2 with h9_ | ⟨i, h8_, h9_⟩; exact Or.inl h9_; exact Or.inr ⟨i, by omega, h9_⟩⟩)
  exact L2_ _ (0) (2147483647) rfl (⟨by omega, by omega, by omega⟩) (⟨by omega, by omega⟩) (⟨fun i hi => absurd hi (by omega), Or.inl rfl⟩)
/- CheapPlanner$Search.add -/
abbrev pq_129v (G : Nat → Nat → Option Nat) (F : fl_N) (X : xi_H) (sl st co : Int) (T : tb_T) : Outcome → xi_H → Prop := gqv (fun A => ∃ F' : fl_N, fl_H sh_T G F' ++ X = A ∧ gi F' ∧ fs [(331, 331, 8, 8), (332, 336, 0, 100000), (338, 338, 0, 100000)] F F' ∧ (F' 331 8 = F 331 8 + 1) ∧ ((F 331 8 = 0 ∧ F' 335 (F 331 8).toNat = 0) ∨ (0 < F 331 8 ∧ F' 335 (F 331 8).toNat = 2147483647)) ∧ (∀ i : Nat, i ≠ (F 331 8).toNat → F' 335 i = F 335 i) ∧ (tS F' (T ++ [(st, co)])) ∧ (sdu F co 0 (F' 334 T.length)) ∧ (∀ i : Nat, ¬ i = T.length → F' 334 i = F 334 i) ∧ (∀ i : Nat, i ≠ (F 331 8).toNat → F' 336 i = F 336 i)) gqn
theorem mc_129v {G : Nat → Nat → Option Nat} (hG : gg G) (F : fl_N) (X : xi_H) (hgi : gi F) (sl st co : Int) (T : tb_T) (hs : 0 ≤ sl ∧ sl ≤ 511) (hst : -9223372036854775808 ≤ st ∧ st ≤ 9223372036854775807) (hco : -2147483648 ≤ co ∧ co ≤ 2147483647) (h8 : F 331 8 ≤ 199) (hT : tS F T) (hsz : slz hshC (F 332) (F 338) st sl.toNat) (hno : has T st = false) (hcb : 0 ≤ co ∧ co ≤ 1000000) : fl_M xi_ms 129 1 25 [.ref 331, .int (Int32.ofInt sl), .long (Int64.ofInt st), .int (Int32.ofInt co)] (fl_H sh_T G F ++ X) (pq_129v G F X sl st co T) := by
  intro fr lo hfr hlo
  show fl_R xi_ms 129 fr lo 0 [(0, .ref 331), (1, .int (Int32.ofInt sl)), (2, .long (Int64.ofInt st)), (4, .int (Int32.ofInt co))] [] _ _
  have hT1 := hT.1
  have hTl : T.length = (F 331 8).toNat := by omega
  refine ga_aload_n (v := .ref 331) hm_129 rfl rfl rfl ?_
  refine ga_getr (b := 332) hm_129 rfl sc_331 rfl ?_
  refine ga_aload_n (v := .ref 331) hm_129 rfl rfl rfl ?_
  have b1_ : 0 ≤ F 331 8 ∧ F 331 8 ≤ 200 := gi_g hgi rfl
  refine ga_geti (z := F 331 8) hm_129 rfl sc_331 rfl (rfl) ?_
  refine ga_lload_n (z := st) hm_129 rfl rfl ?_
  refine fl_last (z := F 331 8) (v := st) hm_129 rfl sc_332 (by omega) (by omega) (by omega) ?_
  refine ga_aload_n (v := .ref 331) hm_129 rfl rfl rfl ?_
  refine ga_getr (b := 333) hm_129 rfl sc_331 rfl ?_
  refine ga_aload_n (v := .ref 331) hm_129 rfl rfl rfl ?_
  refine ga_geti (z := F 331 8) hm_129 rfl sc_331 rfl (fl_u_ne (by first | exact nc_ rfl | decide | omega)) ?_
  refine ga_iload (z := co) hm_129 rfl rfl ?_
  refine fl_iast (z := F 331 8) (v := co) hm_129 rfl sc_333 (by omega) (by omega) (by omega) ?_
  refine ga_aload_n (v := .ref 331) hm_129 rfl rfl rfl ?_
  refine ga_getr (b := 335) hm_129 rfl sc_331 rfl ?_
  refine ga_aload_n (v := .ref 331) hm_129 rfl rfl rfl ?_
  refine ga_geti (z := F 331 8) hm_129 rfl sc_331 rfl ((fl_u_ne (by first | exact nc_ rfl | decide | omega)).trans (fl_u_ne (by first | exact nc_ rfl | decide | omega))) ?_
  refine ga_aload_n (v := .ref 331) hm_129 rfl rfl rfl ?_
  refine ga_geti (z := F 331 8) hm_129 rfl sc_331 rfl ((fl_u_ne (by first | exact nc_ rfl | decide | omega)).trans (fl_u_ne (by first | exact nc_ rfl | decide | omega))) ?_
  refine fx_if_ne (a := F 331 8) hm_129 rfl ⟨by omega, by omega⟩ (fun h2_ => ?_) (fun h3_ => ?_)
  ·
    refine ga_ldci (z := 2147483647) hm_129 rfl (by decide) ?_
    refine fl_iast (z := F 331 8) (v := 2147483647) hm_129 rfl sc_335 (by omega) (by omega) (by omega) ?_
    refine ga_aload_n (v := .ref 331) hm_129 rfl rfl rfl ?_
    refine ga_getr (b := 336) hm_129 rfl sc_331 rfl ?_
    refine ga_aload_n (v := .ref 331) hm_129 rfl rfl rfl ?_
    refine ga_geti (z := F 331 8) hm_129 rfl sc_331 rfl ((fl_u_ne (by first | exact nc_ rfl | decide | omega)).trans ((fl_u_ne (by first | exact nc_ rfl | decide | omega)).trans (fl_u_ne (by first | exact nc_ rfl | decide | omega)))) ?_
    refine fl_iconst hm_129 rfl ?_
    refine fl_iast (z := F 331 8) (v := 0) hm_129 rfl sc_336 (by omega) (by omega) (by omega) ?_
    refine ga_aload_n (v := .ref 331) hm_129 rfl rfl rfl ?_
    refine ga_aload_n (v := .ref 331) hm_129 rfl rfl rfl ?_
    refine ga_geti (z := F 331 8) hm_129 rfl sc_331 rfl ((fl_u_ne (by first | exact nc_ rfl | decide | omega)).trans ((fl_u_ne (by first | exact nc_ rfl | decide | omega)).trans ((fl_u_ne (by first | exact nc_ rfl | decide | omega)).trans (fl_u_ne (by first | exact nc_ rfl | decide | omega))))) ?_
    refine fl_iconst hm_129 rfl ?_
    obtain ⟨F4_, q5_⟩ : ∃ Fq_, Fq_ = (fl_u (fl_u (fl_u (fl_u F 332 (F 331 8).toNat st) 333 (F 331 8).toNat co) 335 (F 331 8).toNat 2147483647) 336 (F 331 8).toNat 0) := ⟨_, rfl⟩
    rw [← q5_]
    have g6_ : gi F4_ := by rw [q5_]; exact gi_u (gi_u (gi_u (gi_u (hgi) rfl (by omega) (by omega)) rfl (by omega) (by omega)) rfl (by omega) (by omega)) rfl (by omega) (by omega)
    have g7_ : fs [(331, 331, 8, 8), (332, 336, 0, 100000), (338, 338, 0, 100000)] F F4_ := by rw [q5_]; exact fs_u (fs_u (fs_u (fs_u (fs_refl) (fs_z (fs_y (by omega)))) (fs_z (fs_y (by omega)))) (fs_z (fs_y (by omega)))) (fs_z (fs_y (by omega)))
    have e8_ : F4_ 333 (F 331 8).toNat = co := by rw [q5_]; exact (fl_u_ne (by first | exact nc_ rfl | decide | omega)).trans ((fl_u_ne (by first | exact nc_ rfl | decide | omega)).trans (fl_u_eq))
    refine gVv (nY := 6) (F := 0) (L := 0) (As := [.int (Int32.ofInt (F 331 8)), .int (Int32.ofInt 0)]) (b := 331) (rest := []) hm_129 rfl hm_141 rfl rfl (fl_ob sc_331) rfl rfl rfl rfl rfl (by omega) (by omega) (mc_141v hG F4_ X g6_ (F 331 8) (0) (⟨by omega, by omega⟩) (⟨by omega, by omega⟩) (⟨by omega, by omega⟩)) (fun _ _ h => False.elim h) ?_
    rintro A1_ ⟨F12_, hA_, g13_, s14_, c10_, c11_⟩
    subst hA_
    have g15_ : fs [(331, 331, 8, 8), (332, 336, 0, 100000), (338, 338, 0, 100000)] F F12_ := fs_tr g7_ s14_ rfl
    refine ga_aload_n (v := .ref 331) hm_129 rfl rfl rfl ?_
    refine ga_getr (b := 338) hm_129 rfl sc_331 rfl ?_
    refine ga_iload_n (z := sl) hm_129 rfl rfl ?_
    refine ga_aload_n (v := .ref 331) hm_129 rfl rfl rfl ?_
    have e16_ : F4_ 331 8 = F 331 8 := by rw [q5_]; exact (fl_u_ne (by first | exact nc_ rfl | decide | omega)).trans ((fl_u_ne (by first | exact nc_ rfl | decide | omega)).trans ((fl_u_ne (by first | exact nc_ rfl | decide | omega)).trans (fl_u_ne (by first | exact nc_ rfl | decide | omega))))
    have e17_ : F12_ 331 8 = F 331 8 := (s14_ 331 8 rfl).trans (e16_)
    refine ga_geti (z := F 331 8) hm_129 rfl sc_331 rfl (e17_) ?_
    refine fl_iconst hm_129 rfl ?_
    refine ga_iadd (a := F 331 8) (b := 1) (c := F 331 8 + 1) hm_129 rfl (by omega) ?_
    refine fl_iast (z := sl) (v := F 331 8 + 1) hm_129 rfl sc_338 (by omega) (by omega) (by omega) ?_
    refine ga_aload_n (v := .ref 331) hm_129 rfl rfl rfl ?_
    refine ga_dup hm_129 rfl rfl ?_
    refine ga_geti (z := F 331 8) hm_129 rfl sc_331 rfl ((fl_u_ne (by first | exact nc_ rfl | decide | omega)).trans (e17_)) ?_
    refine fl_iconst hm_129 rfl ?_
    refine ga_iadd (a := F 331 8) (b := 1) (c := F 331 8 + 1) hm_129 rfl (by omega) ?_
    refine ga_puti (z := F 331 8 + 1) hm_129 rfl sc_331 rfl rfl ?_
    obtain ⟨F18_, q19_⟩ : ∃ Fq_, Fq_ = (fl_u (fl_u F12_ 338 sl.toNat (F 331 8 + 1)) 331 8 (F 331 8 + 1)) := ⟨_, rfl⟩
    rw [← q19_]
    have g20_ : gi F18_ := by rw [q19_]; exact gi_u (gi_u (g13_) rfl (by omega) (by omega)) rfl (by omega) (by omega)
    have g21_ : fs [(331, 331, 8, 8), (332, 336, 0, 100000), (338, 338, 0, 100000)] F F18_ := by rw [q19_]; exact fs_u (fs_u (g15_) (fs_z (fs_z (fs_y (by omega))))) rfl
    refine gr_v hm_129 rfl rfl ?_
    have e22_ : F18_ 331 8 = F 331 8 + 1 := by rw [q19_]; exact fl_u_eq
    have e23_ : F4_ 335 (F 331 8).toNat = 2147483647 := by rw [q5_]; exact (fl_u_ne (by first | exact nc_ rfl | decide | omega)).trans (fl_u_eq)
    have e24_ : F12_ 335 (F 331 8).toNat = 2147483647 := (s14_ 335 (F 331 8).toNat (by first | exact fs_c rfl | exact (fs_n (by omega) rfl))).trans (e23_)
    have e25_ : F18_ 335 (F 331 8).toNat = 2147483647 := by rw [q19_]; exact (fl_u_ne (by first | exact nc_ rfl | decide | omega)).trans ((fl_u_ne (by first | exact nc_ rfl | decide | omega)).trans (e24_))
    have e26_ : F4_ 332 (F 331 8).toNat = st := by rw [q5_]; exact (fl_u_ne (by first | exact nc_ rfl | decide | omega)).trans ((fl_u_ne (by first | exact nc_ rfl | decide | omega)).trans ((fl_u_ne (by first | exact nc_ rfl | decide | omega)).trans (fl_u_eq)))
    have e27_ : F12_ 332 (F 331 8).toNat = st := (s14_ 332 (F 331 8).toNat (by first | exact fs_c rfl | exact (fs_n (by omega) rfl))).trans (e26_)
    have e28_ : F18_ 332 (F 331 8).toNat = st := by rw [q19_]; exact (fl_u_ne (by first | exact nc_ rfl | decide | omega)).trans ((fl_u_ne (by first | exact nc_ rfl | decide | omega)).trans (e27_))
    have e29_ : F12_ 333 (F 331 8).toNat = co := (s14_ 333 (F 331 8).toNat (by first | exact fs_c rfl | exact (fs_n (by omega) rfl))).trans (e8_)
    have e30_ : F18_ 333 (F 331 8).toNat = co := by rw [q19_]; exact (fl_u_ne (by first | exact nc_ rfl | decide | omega)).trans ((fl_u_ne (by first | exact nc_ rfl | decide | omega)).trans (e29_))
    have e31_ : F18_ 338 sl.toNat = F 331 8 + 1 := by rw [q19_]; exact (fl_u_ne (by first | exact nc_ rfl | decide | omega)).trans (fl_u_eq)
    exact ⟨F18_, rfl, g20_, g21_, (by omega), (by omega), (fun i hi => (Eq.trans (a := F18_ 335 i) (b := F12_ 335 i) (by rw [q19_]; exact (fl_u_ne (by first | exact nc_ rfl | decide | omega)).trans ((fl_u_ne (by first | exact nc_ rfl | decide | omega)))) (Eq.trans (a := F12_ 335 i) (b := F4_ 335 i) (s14_ 335 i (by first | exact fs_c rfl | exact (fs_n (by omega) rfl))) (show F4_ 335 i = F 335 i from (by rw [q5_]; exact (fl_u_ne (by first | exact nc_ rfl | decide | omega)).trans ((fl_u_ne (by first | exact nc_ rfl | decide | omega)).trans ((fl_u_ne (by first | exact nc_ rfl | decide | omega)).trans ((fl_u_ne (by first | exact nc_ rfl | decide | omega)))))))))), (ts_add hT hsz hno (e22_) (fun i hi => (Eq.trans (a := F18_ 332 i) (b := F12_ 332 i) (by rw [q19_]; exact (fl_u_ne (by first | exact nc_ rfl | decide | omega)).trans ((fl_u_ne (by first | exact nc_ rfl | decide | omega)))) (Eq.trans (a := F12_ 332 i) (b := F4_ 332 i) (s14_ 332 i (by first | exact fs_c rfl | exact (fs_n (by omega) rfl))) (show F4_ 332 i = F 332 i from (by rw [q5_]; exact (fl_u_ne (by first | exact nc_ rfl | decide | omega)).trans ((fl_u_ne (by first | exact nc_ rfl | decide | omega)).trans ((fl_u_ne (by first | exact nc_ rfl | decide | omega)).trans ((fl_u_ne (by first | exact nc_ rfl | decide | omega)))))))))) (by rw [hTl]; exact e28_) (Eq.trans (e31_) (by omega)) (fun j hj => (Eq.trans (a := F18_ 338 j) (b := F12_ 338 j) (by rw [q19_]; exact (fl_u_ne (by first | exact nc_ rfl | decide | omega)).trans ((fl_u_ne (by first | exact nc_ rfl | decide | omega)))) (Eq.trans (a := F12_ 338 j) (b := F4_ 338 j) (s14_ 338 j (by first | exact fs_c rfl | exact (fs_n (by omega) rfl))) (show F4_ 338 j = F 338 j from (by rw [q5_]; exact (fl_u_ne (by first | exact nc_ rfl | decide | omega)).trans ((fl_u_ne (by first | exact nc_ rfl | decide | omega)).trans ((fl_u_ne (by first | exact nc_ rfl | decide | omega)).trans ((fl_u_ne (by first | exact nc_ rfl | decide | omega)))))))))) (fun i hi => (Eq.trans (a := F18_ 333 i) (b := F12_ 333 i) (by rw [q19_]; exact (fl_u_ne (by first | exact nc_ rfl | decide | omega)).trans ((fl_u_ne (by first | exact nc_ rfl | decide | omega)))) (Eq.trans (a := F12_ 333 i) (b := F4_ 333 i) (s14_ 333 i (by first | exact fs_c rfl | exact (fs_n (by omega) rfl))) (show F4_ 333 i = F 333 i from (by rw [q5_]; exact (fl_u_ne (by first | exact nc_ rfl | decide | omega)).trans ((fl_u_ne (by first | exact nc_ rfl | decide | omega)).trans ((fl_u_ne (by first | exact nc_ rfl | decide | omega)).trans ((fl_u_ne (by first | exact nc_ rfl | decide | omega)))))))))) (by rw [hTl]; exact e30_)), (by rw [hTl]; have h9_ := c10_; (try rw [show F4_ 333 (F 331 8).toNat = co from e8_] at h9_); rw [show F18_ 334 (F 331 8).toNat = F12_ 334 (F 331 8).toNat from (show F18_ 334 (F 331 8).toNat = F12_ 334 (F 331 8).toNat from (by rw [q19_]; exact (fl_u_ne (by first | exact nc_ rfl | decide | omega)).trans ((fl_u_ne (by first | exact nc_ rfl | decide | omega)))))]; exact sdu_cg (by have h8_ : 0 ≤ F 120 3 ∧ F 120 3 ≤ 41 := gi_g hgi rfl; omega) h9_ (fun r k hr => (show F4_ (r) k = F (r) k from (by rw [q5_]; exact (fl_u_ne (by first | exact nc_ rfl | decide | omega)).trans ((fl_u_ne (by first | exact nc_ rfl | decide | omega)).trans ((fl_u_ne (by first | exact nc_ rfl | decide | omega)).trans ((fl_u_ne (by first | exact nc_ rfl | decide | omega))))))))), (fun i hi => Eq.trans ((show F18_ 334 i = F12_ 334 i from (by rw [q19_]; exact (fl_u_ne (by first | exact nc_ rfl | decide | omega)).trans ((fl_u_ne (by first | exact nc_ rfl | decide | omega)))))) (Eq.trans (c11_ i (by omega)) ((show F4_ 334 i = F 334 i from (by rw [q5_]; exact (fl_u_ne (by first | exact nc_ rfl | decide | omega)).trans ((fl_u_ne (by first | exact nc_ rfl | decide | omega)).trans ((fl_u_ne (by first | exact nc_ rfl | decide | omega)).trans ((fl_u_ne (by first | exact nc_ rfl | decide | omega)))))))))), (fun i hi => (Eq.trans (a := F18_ 336 i) (b := F12_ 336 i) (by rw [q19_]; exact (fl_u_ne (by first | exact nc_ rfl | decide | omega)).trans ((fl_u_ne (by first | exact nc_ rfl | decide | omega)))) (Eq.trans (a := F12_ 336 i) (b := F4_ 336 i) (s14_ 336 i (by first | exact fs_c rfl | exact (fs_n (by omega) rfl))) (show F4_ 336 i = F 336 i from (by rw [q5_]; exact (fl_u_ne (by first | exact nc_ rfl | decide | omega)).trans ((fl_u_ne (by first | exact nc_ rfl | decide | omega)).trans ((fl_u_ne (by first | exact nc_ rfl | decide | omega)).trans ((fl_u_ne (by first | exact nc_ rfl | decide | omega))))))))))⟩
  refine fl_iconst hm_129 rfl ?_
  refine fl_goto hm_129 rfl ?_
  refine fl_iast (z := F 331 8) (v := 0) hm_129 rfl sc_335 (by omega) (by omega) (by omega) ?_
  refine ga_aload_n (v := .ref 331) hm_129 rfl rfl rfl ?_
  refine ga_getr (b := 336) hm_129 rfl sc_331 rfl ?_
  refine ga_aload_n (v := .ref 331) hm_129 rfl rfl rfl ?_
  refine ga_geti (z := F 331 8) hm_129 rfl sc_331 rfl ((fl_u_ne (by first | exact nc_ rfl | decide | omega)).trans ((fl_u_ne (by first | exact nc_ rfl | decide | omega)).trans (fl_u_ne (by first | exact nc_ rfl | decide | omega)))) ?_
  refine fl_iconst hm_129 rfl ?_
  refine fl_iast (z := F 331 8) (v := 0) hm_129 rfl sc_336 (by omega) (by omega) (by omega) ?_
  refine ga_aload_n (v := .ref 331) hm_129 rfl rfl rfl ?_
  refine ga_aload_n (v := .ref 331) hm_129 rfl rfl rfl ?_
  refine ga_geti (z := F 331 8) hm_129 rfl sc_331 rfl ((fl_u_ne (by first | exact nc_ rfl | decide | omega)).trans ((fl_u_ne (by first | exact nc_ rfl | decide | omega)).trans ((fl_u_ne (by first | exact nc_ rfl | decide | omega)).trans (fl_u_ne (by first | exact nc_ rfl | decide | omega))))) ?_
  refine fl_iconst hm_129 rfl ?_
  obtain ⟨F32_, q33_⟩ : ∃ Fq_, Fq_ = (fl_u (fl_u (fl_u (fl_u F 332 (F 331 8).toNat st) 333 (F 331 8).toNat co) 335 (F 331 8).toNat 0) 336 (F 331 8).toNat 0) := ⟨_, rfl⟩
  rw [← q33_]
  have g34_ : gi F32_ := by rw [q33_]; exact gi_u (gi_u (gi_u (gi_u (hgi) rfl (by omega) (by omega)) rfl (by omega) (by omega)) rfl (by omega) (by omega)) rfl (by omega) (by omega)
  have g35_ : fs [(331, 331, 8, 8), (332, 336, 0, 100000), (338, 338, 0, 100000)] F F32_ := by rw [q33_]; exact fs_u (fs_u (fs_u (fs_u (fs_refl) (fs_z (fs_y (by omega)))) (fs_z (fs_y (by omega)))) (fs_z (fs_y (by omega)))) (fs_z (fs_y (by omega)))
  have e36_ : F32_ 333 (F 331 8).toNat = co := by rw [q33_]; exact (fl_u_ne (by first | exact nc_ rfl | decide | omega)).trans ((fl_u_ne (by first | exact nc_ rfl | decide | omega)).trans (fl_u_eq))
  refine gVv (nY := 6) (F := 0) (L := 0) (As := [.int (Int32.ofInt (F 331 8)), .int (Int32.ofInt 0)]) (b := 331) (rest := []) hm_129 rfl hm_141 rfl rfl (fl_ob sc_331) rfl rfl rfl rfl rfl (by omega) (by omega) (mc_141v hG F32_ X g34_ (F 331 8) (0) (⟨by omega, by omega⟩) (⟨by omega, by omega⟩) (⟨by omega, by omega⟩)) (fun _ _ h => False.elim h) ?_
  rintro A1_ ⟨F40_, hA_, g41_, s42_, c38_, c39_⟩
  subst hA_
  have g43_ : fs [(331, 331, 8, 8), (332, 336, 0, 100000), (338, 338, 0, 100000)] F F40_ := fs_tr g35_ s42_ rfl
  refine ga_aload_n (v := .ref 331) hm_129 rfl rfl rfl ?_
  refine ga_getr (b := 338) hm_129 rfl sc_331 rfl ?_
  refine ga_iload_n (z := sl) hm_129 rfl rfl ?_
  refine ga_aload_n (v := .ref 331) hm_129 rfl rfl rfl ?_
  have e44_ : F32_ 331 8 = F 331 8 := by rw [q33_]; exact (fl_u_ne (by first | exact nc_ rfl | decide | omega)).trans ((fl_u_ne (by first | exact nc_ rfl | decide | omega)).trans ((fl_u_ne (by first | exact nc_ rfl | decide | omega)).trans (fl_u_ne (by first | exact nc_ rfl | decide | omega))))
  have e45_ : F40_ 331 8 = F 331 8 := (s42_ 331 8 rfl).trans (e44_)
  refine ga_geti (z := F 331 8) hm_129 rfl sc_331 rfl (e45_) ?_
  refine fl_iconst hm_129 rfl ?_
  refine ga_iadd (a := F 331 8) (b := 1) (c := F 331 8 + 1) hm_129 rfl (by omega) ?_
  refine fl_iast (z := sl) (v := F 331 8 + 1) hm_129 rfl sc_338 (by omega) (by omega) (by omega) ?_
  refine ga_aload_n (v := .ref 331) hm_129 rfl rfl rfl ?_
  refine ga_dup hm_129 rfl rfl ?_
  refine ga_geti (z := F 331 8) hm_129 rfl sc_331 rfl ((fl_u_ne (by first | exact nc_ rfl | decide | omega)).trans (e45_)) ?_
  refine fl_iconst hm_129 rfl ?_
  refine ga_iadd (a := F 331 8) (b := 1) (c := F 331 8 + 1) hm_129 rfl (by omega) ?_
  refine ga_puti (z := F 331 8 + 1) hm_129 rfl sc_331 rfl rfl ?_
  obtain ⟨F46_, q47_⟩ : ∃ Fq_, Fq_ = (fl_u (fl_u F40_ 338 sl.toNat (F 331 8 + 1)) 331 8 (F 331 8 + 1)) := ⟨_, rfl⟩
  rw [← q47_]
  have g48_ : gi F46_ := by rw [q47_]; exact gi_u (gi_u (g41_) rfl (by omega) (by omega)) rfl (by omega) (by omega)
  have g49_ : fs [(331, 331, 8, 8), (332, 336, 0, 100000), (338, 338, 0, 100000)] F F46_ := by rw [q47_]; exact fs_u (fs_u (g43_) (fs_z (fs_z (fs_y (by omega))))) rfl
  refine gr_v hm_129 rfl rfl ?_
  have e50_ : F46_ 331 8 = F 331 8 + 1 := by rw [q47_]; exact fl_u_eq
  have e51_ : F32_ 335 (F 331 8).toNat = 0 := by rw [q33_]; exact (fl_u_ne (by first | exact nc_ rfl | decide | omega)).trans (fl_u_eq)
  have e52_ : F40_ 335 (F 331 8).toNat = 0 := (s42_ 335 (F 331 8).toNat (by first | exact fs_c rfl | exact (fs_n (by omega) rfl))).trans (e51_)
  have e53_ : F46_ 335 (F 331 8).toNat = 0 := by rw [q47_]; exact (fl_u_ne (by first | exact nc_ rfl | decide | omega)).trans ((fl_u_ne (by first | exact nc_ rfl | decide | omega)).trans (e52_))
  have e54_ : F32_ 332 (F 331 8).toNat = st := by rw [q33_]; exact (fl_u_ne (by first | exact nc_ rfl | decide | omega)).trans ((fl_u_ne (by first | exact nc_ rfl | decide | omega)).trans ((fl_u_ne (by first | exact nc_ rfl | decide | omega)).trans (fl_u_eq)))
  have e55_ : F40_ 332 (F 331 8).toNat = st := (s42_ 332 (F 331 8).toNat (by first | exact fs_c rfl | exact (fs_n (by omega) rfl))).trans (e54_)
  have e56_ : F46_ 332 (F 331 8).toNat = st := by rw [q47_]; exact (fl_u_ne (by first | exact nc_ rfl | decide | omega)).trans ((fl_u_ne (by first | exact nc_ rfl | decide | omega)).trans (e55_))
  have e57_ : F40_ 333 (F 331 8).toNat = co := (s42_ 333 (F 331 8).toNat (by first | exact fs_c rfl | exact (fs_n (by omega) rfl))).trans (e36_)
  have e58_ : F46_ 333 (F 331 8).toNat = co := by rw [q47_]; exact (fl_u_ne (by first | exact nc_ rfl | decide | omega)).trans ((fl_u_ne (by first | exact nc_ rfl | decide | omega)).trans (e57_))
  have e59_ : F46_ 338 sl.toNat = F 331 8 + 1 := by rw [q47_]; exact (fl_u_ne (by first | exact nc_ rfl | decide | omega)).trans (fl_u_eq)
  exact ⟨F46_, rfl, g48_, g49_, (by omega), (by omega), (fun i hi => (Eq.trans (a := F46_ 335 i) (b := F40_ 335 i) (by rw [q47_]; exact (fl_u_ne (by first | exact nc_ rfl | decide | omega)).trans ((fl_u_ne (by first | exact nc_ rfl | decide | omega)))) (Eq.trans (a := F40_ 335 i) (b := F32_ 335 i) (s42_ 335 i (by first | exact fs_c rfl | exact (fs_n (by omega) rfl))) (show F32_ 335 i = F 335 i from (by rw [q33_]; exact (fl_u_ne (by first | exact nc_ rfl | decide | omega)).trans ((fl_u_ne (by first | exact nc_ rfl | decide | omega)).trans ((fl_u_ne (by first | exact nc_ rfl | decide | omega)).trans ((fl_u_ne (by first | exact nc_ rfl | decide | omega)))))))))), (ts_add hT hsz hno (e50_) (fun i hi => (Eq.trans (a := F46_ 332 i) (b := F40_ 332 i) (by rw [q47_]; exact (fl_u_ne (by first | exact nc_ rfl | decide | omega)).trans ((fl_u_ne (by first | exact nc_ rfl | decide | omega)))) (Eq.trans (a := F40_ 332 i) (b := F32_ 332 i) (s42_ 332 i (by first | exact fs_c rfl | exact (fs_n (by omega) rfl))) (show F32_ 332 i = F 332 i from (by rw [q33_]; exact (fl_u_ne (by first | exact nc_ rfl | decide | omega)).trans ((fl_u_ne (by first | exact nc_ rfl | decide | omega)).trans ((fl_u_ne (by first | exact nc_ rfl | decide | omega)).trans ((fl_u_ne (by first | exact nc_ rfl | decide | omega)))))))))) (by rw [hTl]; exact e56_) (Eq.trans (e59_) (by omega)) (fun j hj => (Eq.trans (a := F46_ 338 j) (b := F40_ 338 j) (by rw [q47_]; exact (fl_u_ne (by first | exact nc_ rfl | decide | omega)).trans ((fl_u_ne (by first | exact nc_ rfl | decide | omega)))) (Eq.trans (a := F40_ 338 j) (b := F32_ 338 j) (s42_ 338 j (by first | exact fs_c rfl | exact (fs_n (by omega) rfl))) (show F32_ 338 j = F 338 j from (by rw [q33_]; exact (fl_u_ne (by first | exact nc_ rfl | decide | omega)).trans ((fl_u_ne (by first | exact nc_ rfl | decide | omega)).trans ((fl_u_ne (by first | exact nc_ rfl | decide | omega)).trans ((fl_u_ne (by first | exact nc_ rfl | decide | omega)))))))))) (fun i hi => (Eq.trans (a := F46_ 333 i) (b := F40_ 333 i) (by rw [q47_]; exact (fl_u_ne (by first | exact nc_ rfl | decide | omega)).trans ((fl_u_ne (by first | exact nc_ rfl | decide | omega)))) (Eq.trans (a := F40_ 333 i) (b := F32_ 333 i) (s42_ 333 i (by first | exact fs_c rfl | exact (fs_n (by omega) rfl))) (show F32_ 333 i = F 333 i from (by rw [q33_]; exact (fl_u_ne (by first | exact nc_ rfl | decide | omega)).trans ((fl_u_ne (by first | exact nc_ rfl | decide | omega)).trans ((fl_u_ne (by first | exact nc_ rfl | decide | omega)).trans ((fl_u_ne (by first | exact nc_ rfl | decide | omega)))))))))) (by rw [hTl]; exact e58_)), (by rw [hTl]; have h9_ := c38_; (try rw [show F32_ 333 (F 331 8).toNat = co from e36_] at h9_); rw [show F46_ 334 (F 331 8).toNat = F40_ 334 (F 331 8).toNat from (show F46_ 334 (F 331 8).toNat = F40_ 334 (F 331 8).toNat from (by rw [q47_]; exact (fl_u_ne (by first | exact nc_ rfl | decide | omega)).trans ((fl_u_ne (by first | exact nc_ rfl | decide | omega)))))]; exact sdu_cg (by have h8_ : 0 ≤ F 120 3 ∧ F 120 3 ≤ 41 := gi_g hgi rfl; omega) h9_ (fun r k hr => (show F32_ (r) k = F (r) k from (by rw [q33_]; exact (fl_u_ne (by first | exact nc_ rfl | decide | omega)).trans ((fl_u_ne (by first | exact nc_ rfl | decide | omega)).trans ((fl_u_ne (by first | exact nc_ rfl | decide | omega)).trans ((fl_u_ne (by first | exact nc_ rfl | decide | omega))))))))), (fun i hi => Eq.trans ((show F46_ 334 i = F40_ 334 i from (by rw [q47_]; exact (fl_u_ne (by first | exact nc_ rfl | decide | omega)).trans ((fl_u_ne (by first | exact nc_ rfl | decide | omega)))))) (Eq.trans (c39_ i (by omega)) ((show F32_ 334 i = F 334 i from (by rw [q33_]; exact (fl_u_ne (by first | exact nc_ rfl | decide | omega)).trans ((fl_u_ne (by first | exact nc_ rfl | decide | omega)).trans ((fl_u_ne (by first | exact nc_ rfl | decide | omega)).trans ((fl_u_ne (by first | exact nc_ rfl | decide | omega)))))))))), (fun i hi => (Eq.trans (a := F46_ 336 i) (b := F40_ 336 i) (by rw [q47_]; exact (fl_u_ne (by first | exact nc_ rfl | decide | omega)).trans ((fl_u_ne (by first | exact nc_ rfl | decide | omega)))) (Eq.trans (a := F40_ 336 i) (b := F32_ 336 i) (s42_ 336 i (by first | exact fs_c rfl | exact (fs_n (by omega) rfl))) (show F32_ 336 i = F 336 i from (by rw [q33_]; exact (fl_u_ne (by first | exact nc_ rfl | decide | omega)).trans ((fl_u_ne (by first | exact nc_ rfl | decide | omega)).trans ((fl_u_ne (by first | exact nc_ rfl | decide | omega)).trans ((fl_u_ne (by first | exact nc_ rfl | decide | omega))))))))))⟩
/- CheapPlanner$Search.isBefore -/
abbrev pq_136v (G : Nat → Nat → Option Nat) (F : fl_N) (X : xi_H) (fm nb w : Int) (V : List wy_T) (b : Int) : Outcome → xi_H → Prop := gqi (fun z A => fl_H sh_T G F ++ X = A ∧ (0 ≤ z ∧ z ≤ 1) ∧ (z = 1 ↔ lxl (vat V fm.toNat ++ [nb]) (vat V (F 336 w.toNat).toNat ++ [F 337 w.toNat]))) gqn
theorem mc_136v {G : Nat → Nat → Option Nat} (hG : gg G) (F : fl_N) (X : xi_H) (hgi : gi F) (fm nb w : Int) (V : List wy_T) (b : Int) (hf : 0 ≤ fm ∧ fm ≤ 200) (hn : 0 ≤ nb ∧ nb ≤ 40) (hw : 0 ≤ w ∧ w ≤ 200) (hch : chn (F 335) (F 336) (F 337) V b) (hV2 : 1 ≤ V.length ∧ V.length ≤ 200) (hfv : fm.toNat < V.length) (hpw : 0 ≤ F 336 w.toNat ∧ (F 336 w.toNat).toNat < V.length) (hlv : (vat V fm.toNat).length = (vat V (F 336 w.toNat).toNat).length) : fl_M xi_ms 136 0 0 [.ref 331, .int (Int32.ofInt fm), .int (Int32.ofInt nb), .int (Int32.ofInt w)] (fl_H sh_T G F ++ X) (pq_136v G F X fm nb w V b) := by
  intro fr lo hfr hlo
  show fl_R xi_ms 136 fr lo 0 [(0, .ref 331), (1, .int (Int32.ofInt fm)), (2, .int (Int32.ofInt nb)), (3, .int (Int32.ofInt w))] [] _ _
  refine ga_iload_n (z := nb) hm_136 rfl rfl ?_
  refine ga_aload_n (v := .ref 331) hm_136 rfl rfl rfl ?_
  refine ga_getr (b := 337) hm_136 rfl sc_331 rfl ?_
  refine ga_iload_n (z := w) hm_136 rfl rfl ?_
  have b1_ : 0 ≤ F 337 w.toNat ∧ F 337 w.toNat ≤ 40 := gi_g hgi rfl
  refine ga_iald (z := w) (w := F 337 w.toNat) hm_136 rfl sc_337 (by omega) (by omega) (by omega) (rfl) ?_
  refine ga_isub (a := nb) (b := F 337 w.toNat) (c := nb - (F 337 w.toNat)) hm_136 rfl (by omega) ?_
  refine ga_istore (lv2 := [(4, .int (Int32.ofInt (nb - (F 337 w.toNat)))), (0, .ref 331), (1, .int (Int32.ofInt fm)), (2, .int (Int32.ofInt nb)), (3, .int (Int32.ofInt w))]) hm_136 rfl (Nat.le_of_ble_eq_true rfl) rfl ?_
  refine ga_iload_n (z := fm) hm_136 rfl rfl ?_
  refine ga_istore (lv2 := [(5, .int (Int32.ofInt fm)), (4, .int (Int32.ofInt (nb - (F 337 w.toNat)))), (0, .ref 331), (1, .int (Int32.ofInt fm)), (2, .int (Int32.ofInt nb)), (3, .int (Int32.ofInt w))]) hm_136 rfl (Nat.le_of_ble_eq_true rfl) rfl ?_
  refine ga_aload_n (v := .ref 331) hm_136 rfl rfl rfl ?_
  refine ga_getr (b := 336) hm_136 rfl sc_331 rfl ?_
  refine ga_iload_n (z := w) hm_136 rfl rfl ?_
  have b2_ : 0 ≤ F 336 w.toNat ∧ F 336 w.toNat ≤ 199 := gi_g hgi rfl
  refine ga_iald (z := w) (w := F 336 w.toNat) hm_136 rfl sc_336 (by omega) (by omega) (by omega) (rfl) ?_
  refine ga_istore (lv2 := [(6, .int (Int32.ofInt (F 336 w.toNat))), (5, .int (Int32.ofInt fm)), (4, .int (Int32.ofInt (nb - (F 337 w.toNat)))), (0, .ref 331), (1, .int (Int32.ofInt fm)), (2, .int (Int32.ofInt nb)), (3, .int (Int32.ofInt w))]) hm_136 rfl (Nat.le_of_ble_eq_true rfl) rfl ?_
  refine fl_iconst hm_136 rfl ?_
  refine ga_istore (lv2 := [(7, .int (Int32.ofInt 0)), (6, .int (Int32.ofInt (F 336 w.toNat))), (5, .int (Int32.ofInt fm)), (4, .int (Int32.ofInt (nb - (F 337 w.toNat)))), (0, .ref 331), (1, .int (Int32.ofInt fm)), (2, .int (Int32.ofInt nb)), (3, .int (Int32.ofInt w))]) hm_136 rfl (Nat.le_of_ble_eq_true rfl) rfl ?_
  have L4_ : ∀ (n3_ : Nat) (k : Int) (ot : Int) (on : Int) (df : Int), (200 - k : Int).toNat = n3_ → (0 ≤ k ∧ k ≤ 200) → (0 ≤ ot ∧ ot ≤ 200) → (0 ≤ on ∧ on ≤ 200) → (-100 ≤ df ∧ df ≤ 100) → (ibS V fm.toNat (F 336 w.toNat).toNat nb (F 337 w.toNat) k on ot df) → fl_R xi_ms 136 fr lo 24 [(7, .int (Int32.ofInt k)), (6, .int (Int32.ofInt ot)), (5, .int (Int32.ofInt on)), (4, .int (Int32.ofInt df)), (0, .ref 331), (1, .int (Int32.ofInt fm)), (2, .int (Int32.ofInt nb)), (3, .int (Int32.ofInt w))] [] (fl_H sh_T G F ++ X) (pq_136v G F X fm nb w V b) := by
    intro n3_
    induction n3_ using Nat.strongRecOn with
    | ind n3_ ih5_ =>
    intro k ot on df hn6_ hk hot hon hdf hib
    refine ga_iload (z := k) hm_136 rfl rfl ?_
    refine fl_sipush hm_136 rfl rfl ?_
    refine fl_icmp_ge (a := k) (b := 200) hm_136 rfl ⟨by omega, by omega⟩ ⟨by omega, by omega⟩ (fun h7_ => ?_) (fun h8_ => ?_)
    ·
      refine ga_iload (z := df) hm_136 rfl rfl ?_
      refine fl_if_ge (a := df) hm_136 rfl ⟨by omega, by omega⟩ (fun h9_ => ?_) (fun h10_ => ?_)
      ·
        refine fl_iconst hm_136 rfl ?_
        refine gr_i (z := 0) hm_136 rfl rfl (ga_nb (by omega)) ?_
        exact ⟨rfl, (⟨by omega, by omega⟩), (by rw [← ib_e hib (by have h8_ := ib_k hib hch hfv hV2.2; omega)]; omega)⟩
      refine fl_iconst hm_136 rfl ?_
      refine fl_goto hm_136 rfl ?_
      refine gr_i (z := 1) hm_136 rfl rfl (ga_nb (by omega)) ?_
      exact ⟨rfl, (⟨by omega, by omega⟩), (by rw [← ib_e hib (by have h8_ := ib_k hib hch hfv hV2.2; omega)]; omega)⟩
    refine ga_iload (z := on) hm_136 rfl rfl ?_
    refine ga_iload (z := ot) hm_136 rfl rfl ?_
    refine fl_icmp_eq (a := on) (b := ot) hm_136 rfl ⟨by omega, by omega⟩ ⟨by omega, by omega⟩ (fun h11_ => ?_) (fun h12_ => ?_)
    ·
      refine ga_iload (z := df) hm_136 rfl rfl ?_
      refine fl_if_ge (a := df) hm_136 rfl ⟨by omega, by omega⟩ (fun h13_ => ?_) (fun h14_ => ?_)
      ·
        refine fl_iconst hm_136 rfl ?_
        refine gr_i (z := 0) hm_136 rfl rfl (ga_nb (by omega)) ?_
        exact ⟨rfl, (⟨by omega, by omega⟩), (by rw [← ib_e hib (by have h8_ := ib_k hib hch hfv hV2.2; omega)]; omega)⟩
      refine fl_iconst hm_136 rfl ?_
      refine fl_goto hm_136 rfl ?_
      refine gr_i (z := 1) hm_136 rfl rfl (ga_nb (by omega)) ?_
      exact ⟨rfl, (⟨by omega, by omega⟩), (by rw [← ib_e hib (by have h8_ := ib_k hib hch hfv hV2.2; omega)]; omega)⟩
    refine ga_aload_n (v := .ref 331) hm_136 rfl rfl rfl ?_
    refine ga_getr (b := 337) hm_136 rfl sc_331 rfl ?_
    refine ga_iload (z := on) hm_136 rfl rfl ?_
    have b15_ : 0 ≤ F 337 on.toNat ∧ F 337 on.toNat ≤ 40 := gi_g hgi rfl
    refine ga_iald (z := on) (w := F 337 on.toNat) hm_136 rfl sc_337 (by omega) (by omega) (by omega) (rfl) ?_
    refine ga_aload_n (v := .ref 331) hm_136 rfl rfl rfl ?_
    refine ga_getr (b := 337) hm_136 rfl sc_331 rfl ?_
    refine ga_iload (z := ot) hm_136 rfl rfl ?_
    have b16_ : 0 ≤ F 337 ot.toNat ∧ F 337 ot.toNat ≤ 40 := gi_g hgi rfl
    refine ga_iald (z := ot) (w := F 337 ot.toNat) hm_136 rfl sc_337 (by omega) (by omega) (by omega) (rfl) ?_
    refine fl_icmp_eq (a := F 337 on.toNat) (b := F 337 ot.toNat) hm_136 rfl ⟨by omega, by omega⟩ ⟨by omega, by omega⟩ (fun h17_ => ?_) (fun h18_ => ?_)
    ·
      refine ga_aload_n (v := .ref 331) hm_136 rfl rfl rfl ?_
      refine ga_getr (b := 336) hm_136 rfl sc_331 rfl ?_
      refine ga_iload (z := on) hm_136 rfl rfl ?_
      have b19_ : 0 ≤ F 336 on.toNat ∧ F 336 on.toNat ≤ 199 := gi_g hgi rfl
      refine ga_iald (z := on) (w := F 336 on.toNat) hm_136 rfl sc_336 (by omega) (by omega) (by omega) (rfl) ?_
      refine ga_istore (lv2 := [(5, .int (Int32.ofInt (F 336 on.toNat))), (7, .int (Int32.ofInt k)), (6, .int (Int32.ofInt ot)), (4, .int (Int32.ofInt df)), (0, .ref 331), (1, .int (Int32.ofInt fm)), (2, .int (Int32.ofInt nb)), (3, .int (Int32.ofInt w))]) hm_136 rfl (Nat.le_of_ble_eq_true rfl) rfl ?_
      refine ga_aload_n (v := .ref 331) hm_136 rfl rfl rfl ?_
      refine ga_getr (b := 336) hm_136 rfl sc_331 rfl ?_
      refine ga_iload (z := ot) hm_136 rfl rfl ?_
      have b20_ : 0 ≤ F 336 ot.toNat ∧ F 336 ot.toNat ≤ 199 := gi_g hgi rfl
      refine ga_iald (z := ot) (w := F 336 ot.toNat) hm_136 rfl sc_336 (by omega) (by omega) (by omega) (rfl) ?_
      refine ga_istore (lv2 := [(6, .int (Int32.ofInt (F 336 ot.toNat))), (5, .int (Int32.ofInt (F 336 on.toNat))), (7, .int (Int32.ofInt k)), (4, .int (Int32.ofInt df)), (0, .ref 331), (1, .int (Int32.ofInt fm)), (2, .int (Int32.ofInt nb)), (3, .int (Int32.ofInt w))]) hm_136 rfl (Nat.le_of_ble_eq_true rfl) rfl ?_
      refine ga_inc (a := k) (c := k + 1) (lv2 := [(7, .int (Int32.ofInt (k + 1))), (6, .int (Int32.ofInt (F 336 ot.toNat))), (5, .int (Int32.ofInt (F 336 on.toNat))), (4, .int (Int32.ofInt df)), (0, .ref 331), (1, .int (Int32.ofInt fm)), (2, .int (Int32.ofInt nb)), (3, .int (Int32.ofInt w))]) hm_136 rfl rfl (Nat.le_of_ble_eq_true rfl) rfl rfl ?_
      refine fl_goto hm_136 rfl ?_
      exact ih5_ _ (by omega) (k + 1) (F 336 ot.toNat) (F 336 on.toNat) (df) rfl (⟨by omega, by omega⟩) (⟨by omega, by omega⟩) (⟨by omega, by omega⟩) (⟨by omega, by omega⟩) (ib_s hch hib (by omega) ⟨by omega, by omega⟩ (by omega))
    refine ga_aload_n (v := .ref 331) hm_136 rfl rfl rfl ?_
    refine ga_getr (b := 337) hm_136 rfl sc_331 rfl ?_
    refine ga_iload (z := on) hm_136 rfl rfl ?_
    refine ga_iald (z := on) (w := F 337 on.toNat) hm_136 rfl sc_337 (by omega) (by omega) (by omega) (rfl) ?_
    refine ga_aload_n (v := .ref 331) hm_136 rfl rfl rfl ?_
    refine ga_getr (b := 337) hm_136 rfl sc_331 rfl ?_
    refine ga_iload (z := ot) hm_136 rfl rfl ?_
    refine ga_iald (z := ot) (w := F 337 ot.toNat) hm_136 rfl sc_337 (by omega) (by omega) (by omega) (rfl) ?_
    refine ga_isub (a := F 337 on.toNat) (b := F 337 ot.toNat) (c := F 337 on.toNat - (F 337 ot.toNat)) hm_136 rfl (by omega) ?_
    refine ga_istore (lv2 := [(4, .int (Int32.ofInt (F 337 on.toNat - (F 337 ot.toNat)))), (7, .int (Int32.ofInt k)), (6, .int (Int32.ofInt ot)), (5, .int (Int32.ofInt on)), (0, .ref 331), (1, .int (Int32.ofInt fm)), (2, .int (Int32.ofInt nb)), (3, .int (Int32.ofInt w))]) hm_136 rfl (Nat.le_of_ble_eq_true rfl) rfl ?_
    refine ga_aload_n (v := .ref 331) hm_136 rfl rfl rfl ?_
    refine ga_getr (b := 336) hm_136 rfl sc_331 rfl ?_
    refine ga_iload (z := on) hm_136 rfl rfl ?_
    have b21_ : 0 ≤ F 336 on.toNat ∧ F 336 on.toNat ≤ 199 := gi_g hgi rfl
    refine ga_iald (z := on) (w := F 336 on.toNat) hm_136 rfl sc_336 (by omega) (by omega) (by omega) (rfl) ?_
    refine ga_istore (lv2 := [(5, .int (Int32.ofInt (F 336 on.toNat))), (4, .int (Int32.ofInt (F 337 on.toNat - (F 337 ot.toNat)))), (7, .int (Int32.ofInt k)), (6, .int (Int32.ofInt ot)), (0, .ref 331), (1, .int (Int32.ofInt fm)), (2, .int (Int32.ofInt nb)), (3, .int (Int32.ofInt w))]) hm_136 rfl (Nat.le_of_ble_eq_true rfl) rfl ?_
    refine ga_aload_n (v := .ref 331) hm_136 rfl rfl rfl ?_
    refine ga_getr (b := 336) hm_136 rfl sc_331 rfl ?_
    refine ga_iload (z := ot) hm_136 rfl rfl ?_
    have b22_ : 0 ≤ F 336 ot.toNat ∧ F 336 ot.toNat ≤ 199 := gi_g hgi rfl
    refine ga_iald (z := ot) (w := F 336 ot.toNat) hm_136 rfl sc_336 (by omega) (by omega) (by omega) (rfl) ?_
    refine ga_istore (lv2 := [(6, .int (Int32.ofInt (F 336 ot.toNat))), (5, .int (Int32.ofInt (F 336 on.toNat))), (4, .int (Int32.ofInt (F 337 on.toNat - (F 337 ot.toNat)))), (7, .int (Int32.ofInt k)), (0, .ref 331), (1, .int (Int32.ofInt fm)), (2, .int (Int32.ofInt nb)), (3, .int (Int32.ofInt w))]) hm_136 rfl (Nat.le_of_ble_eq_true rfl) rfl ?_
    refine ga_inc (a := k) (c := k + 1) (lv2 := [(7, .int (Int32.ofInt (k + 1))), (6, .int (Int32.ofInt (F 336 ot.toNat))), (5, .int (Int32.ofInt (F 336 on.toNat))), (4, .int (Int32.ofInt (F 337 on.toNat - (F 337 ot.toNat)))), (0, .ref 331), (1, .int (Int32.ofInt fm)), (2, .int (Int32.ofInt nb)), (3, .int (Int32.ofInt w))]) hm_136 rfl rfl (Nat.le_of_ble_eq_true rfl) rfl rfl ?_
    refine fl_goto hm_136 rfl ?_
    exact ih5_ _ (by omega) (k + 1) (F 336 ot.toNat) (F 336 on.toNat) (F 337 on.toNat - (F 337 ot.toNat)) rfl (⟨by omega, by omega⟩) (⟨by omega, by omega⟩) (⟨by omega, by omega⟩) (⟨by omega, by omega⟩) (ib_s hch hib (by omega) ⟨by omega, by omega⟩ (by omega))
  exact L4_ _ (0) (F 336 w.toNat) (fm) (nb - (F 337 w.toNat)) rfl (⟨by omega, by omega⟩) (⟨by omega, by omega⟩) (⟨by omega, by omega⟩) (⟨by omega, by omega⟩) (ib_0 hfv hpw.2 hlv)
/- CheapPlanner$Search.offer -/
abbrev pq_140v (G : Nat → Nat → Option Nat) (F : fl_N) (X : xi_H) (w fm nb : Int) (V : List wy_T) (b : Int) : Outcome → xi_H → Prop := gqv (fun A => ∃ F' : fl_N, fl_H sh_T G F' ++ X = A ∧ gi F' ∧ fs [(335, 337, 0, 100000)] F F' ∧ (∀ i : Nat, i ≠ w.toNat → F' 335 i = F 335 i) ∧ ((F' 335 w.toNat = F 335 w.toNat ∧ F 335 w.toNat ≤ F 335 fm.toNat + 1) ∨ (F' 335 w.toNat = F 335 fm.toNat + 1 ∧ F 335 fm.toNat + 1 ≤ F 335 w.toNat)) ∧ (ofE F F' V w.toNat fm.toNat nb) ∧ (∀ i : Nat, i ≠ w.toNat → F' 336 i = F 336 i ∧ F' 337 i = F 337 i)) gqn
theorem mc_140v {G : Nat → Nat → Option Nat} (hG : gg G) (F : fl_N) (X : xi_H) (hgi : gi F) (w fm nb : Int) (V : List wy_T) (b : Int) (hw : 0 ≤ w ∧ w ≤ 200) (hf : 0 ≤ fm ∧ fm ≤ 199) (hn : 0 ≤ nb ∧ nb ≤ 40) (hl : 0 ≤ F 335 fm.toNat ∧ F 335 fm.toNat ≤ 199) (hch : chn (F 335) (F 336) (F 337) V b) (hV2 : 1 ≤ V.length ∧ V.length ≤ 200) (hfv : fm.toNat < V.length) (hwy : hwy F V w.toNat) : fl_M xi_ms 140 1 27 [.ref 331, .int (Int32.ofInt w), .int (Int32.ofInt fm), .int (Int32.ofInt nb)] (fl_H sh_T G F ++ X) (pq_140v G F X w fm nb V b) := by
  intro fr lo hfr hlo
  show fl_R xi_ms 140 fr lo 0 [(0, .ref 331), (1, .int (Int32.ofInt w)), (2, .int (Int32.ofInt fm)), (3, .int (Int32.ofInt nb))] [] _ _
  have hlf_ := (hch.2 fm.toNat hfv).1
  refine ga_aload_n (v := .ref 331) hm_140 rfl rfl rfl ?_
  refine ga_getr (b := 335) hm_140 rfl sc_331 rfl ?_
  refine ga_iload_n (z := fm) hm_140 rfl rfl ?_
  have b1_ : -2147483648 ≤ F 335 fm.toNat ∧ F 335 fm.toNat ≤ 2147483647 := gi_g hgi rfl
  refine ga_iald (z := fm) (w := F 335 fm.toNat) hm_140 rfl sc_335 (by omega) (by omega) (by omega) (rfl) ?_
  refine fl_iconst hm_140 rfl ?_
  refine ga_iadd (a := F 335 fm.toNat) (b := 1) (c := F 335 fm.toNat + 1) hm_140 rfl (by omega) ?_
  refine ga_istore (lv2 := [(4, .int (Int32.ofInt (F 335 fm.toNat + 1))), (0, .ref 331), (1, .int (Int32.ofInt w)), (2, .int (Int32.ofInt fm)), (3, .int (Int32.ofInt nb))]) hm_140 rfl (Nat.le_of_ble_eq_true rfl) rfl ?_
  refine ga_iload (z := F 335 fm.toNat + 1) hm_140 rfl rfl ?_
  refine ga_aload_n (v := .ref 331) hm_140 rfl rfl rfl ?_
  refine ga_getr (b := 335) hm_140 rfl sc_331 rfl ?_
  refine ga_iload_n (z := w) hm_140 rfl rfl ?_
  have b2_ : -2147483648 ≤ F 335 w.toNat ∧ F 335 w.toNat ≤ 2147483647 := gi_g hgi rfl
  refine ga_iald (z := w) (w := F 335 w.toNat) hm_140 rfl sc_335 (by omega) (by omega) (by omega) (rfl) ?_
  refine fl_icmp_lt (a := F 335 fm.toNat + 1) (b := F 335 w.toNat) hm_140 rfl ⟨by omega, by omega⟩ ⟨by omega, by omega⟩ (fun h3_ => ?_) (fun h4_ => ?_)
  ·
    refine ga_aload_n (v := .ref 331) hm_140 rfl rfl rfl ?_
    refine ga_getr (b := 335) hm_140 rfl sc_331 rfl ?_
    refine ga_iload_n (z := w) hm_140 rfl rfl ?_
    refine ga_iload (z := F 335 fm.toNat + 1) hm_140 rfl rfl ?_
    refine fl_iast (z := w) (v := F 335 fm.toNat + 1) hm_140 rfl sc_335 (by omega) (by omega) (by omega) ?_
    refine ga_aload_n (v := .ref 331) hm_140 rfl rfl rfl ?_
    refine ga_getr (b := 336) hm_140 rfl sc_331 rfl ?_
    refine ga_iload_n (z := w) hm_140 rfl rfl ?_
    refine ga_iload_n (z := fm) hm_140 rfl rfl ?_
    refine fl_iast (z := w) (v := fm) hm_140 rfl sc_336 (by omega) (by omega) (by omega) ?_
    refine ga_aload_n (v := .ref 331) hm_140 rfl rfl rfl ?_
    refine ga_getr (b := 337) hm_140 rfl sc_331 rfl ?_
    refine ga_iload_n (z := w) hm_140 rfl rfl ?_
    refine ga_iload_n (z := nb) hm_140 rfl rfl ?_
    refine fl_iast (z := w) (v := nb) hm_140 rfl sc_337 (by omega) (by omega) (by omega) ?_
    obtain ⟨F5_, q6_⟩ : ∃ Fq_, Fq_ = (fl_u (fl_u (fl_u F 335 w.toNat (F 335 fm.toNat + 1)) 336 w.toNat fm) 337 w.toNat nb) := ⟨_, rfl⟩
    rw [← q6_]
    have g7_ : gi F5_ := by rw [q6_]; exact gi_u (gi_u (gi_u (hgi) rfl (by omega) (by omega)) rfl (by omega) (by omega)) rfl (by omega) (by omega)
    have g8_ : fs [(335, 337, 0, 100000)] F F5_ := by rw [q6_]; exact fs_u (fs_u (fs_u (fs_refl) (fs_y (by omega))) (fs_y (by omega))) (fs_y (by omega))
    refine gr_v hm_140 rfl rfl ?_
    have e9_ : F5_ 335 w.toNat = F 335 fm.toNat + 1 := by rw [q6_]; exact (fl_u_ne (by first | exact nc_ rfl | decide | omega)).trans ((fl_u_ne (by first | exact nc_ rfl | decide | omega)).trans (fl_u_eq))
    have e10_ : F5_ 336 w.toNat = fm := by rw [q6_]; exact (fl_u_ne (by first | exact nc_ rfl | decide | omega)).trans (fl_u_eq)
    have e11_ : F5_ 337 w.toNat = nb := by rw [q6_]; exact fl_u_eq
    exact ⟨F5_, rfl, g7_, g8_, (fun i hi => (show F5_ 335 i = F 335 i from (by rw [q6_]; exact (fl_u_ne (by first | exact nc_ rfl | decide | omega)).trans ((fl_u_ne (by first | exact nc_ rfl | decide | omega)).trans ((fl_u_ne (by first | exact nc_ rfl | decide | omega))))))), (by omega), (Or.inl ⟨Or.inl (by omega), e9_, Eq.trans (e10_) (by omega), e11_⟩), (fun i hi => ⟨(show F5_ 336 i = F 336 i from (by rw [q6_]; exact (fl_u_ne (by first | exact nc_ rfl | decide | omega)).trans ((fl_u_ne (by first | exact nc_ rfl | decide | omega)).trans ((fl_u_ne (by first | exact nc_ rfl | decide | omega)))))), (show F5_ 337 i = F 337 i from (by rw [q6_]; exact (fl_u_ne (by first | exact nc_ rfl | decide | omega)).trans ((fl_u_ne (by first | exact nc_ rfl | decide | omega)).trans ((fl_u_ne (by first | exact nc_ rfl | decide | omega))))))⟩)⟩
  refine ga_iload (z := F 335 fm.toNat + 1) hm_140 rfl rfl ?_
  refine ga_aload_n (v := .ref 331) hm_140 rfl rfl rfl ?_
  refine ga_getr (b := 335) hm_140 rfl sc_331 rfl ?_
  refine ga_iload_n (z := w) hm_140 rfl rfl ?_
  refine ga_iald (z := w) (w := F 335 w.toNat) hm_140 rfl sc_335 (by omega) (by omega) (by omega) (rfl) ?_
  refine fx_icmp_ne (a := F 335 fm.toNat + 1) (b := F 335 w.toNat) hm_140 rfl ⟨by omega, by omega⟩ ⟨by omega, by omega⟩ (fun h12_ => ?_) (fun h13_ => ?_)
  ·
    refine gr_v hm_140 rfl rfl ?_
    exact ⟨F, rfl, hgi, fs_refl, (fun i hi => rfl), (by omega), (Or.inr ⟨by rintro (h9_ | ⟨h8_, h9_⟩) <;> omega, rfl, rfl, rfl⟩), (fun i hi => ⟨rfl, rfl⟩)⟩
  refine ga_aload_n (v := .ref 331) hm_140 rfl rfl rfl ?_
  refine ga_iload_n (z := fm) hm_140 rfl rfl ?_
  refine ga_iload_n (z := nb) hm_140 rfl rfl ?_
  refine ga_iload_n (z := w) hm_140 rfl rfl ?_
  refine gVi (nY := 8) (F := 0) (L := 0) (As := [.int (Int32.ofInt fm), .int (Int32.ofInt nb), .int (Int32.ofInt w)]) (b := 331) (rest := []) hm_140 rfl hm_136 rfl rfl (fl_ob sc_331) rfl rfl rfl rfl rfl (by omega) (by omega) (mc_136v hG F X hgi (fm) (nb) (w) (V) (b) (⟨by omega, by omega⟩) (⟨by omega, by omega⟩) (⟨by omega, by omega⟩) (hch) (hV2) (hfv) ((hwy (by omega)).1) (by have h9_ := (hwy (by omega)).2; omega)) (fun _ _ h => False.elim h) ?_
  rintro z14_ A1_ ⟨hA_, c15_, c16_⟩
  subst hA_
  refine fl_if_eq (a := z14_) hm_140 rfl ⟨by omega, by omega⟩ (fun h17_ => ?_) (fun h18_ => ?_)
  ·
    refine gr_v hm_140 rfl rfl ?_
    exact ⟨F, rfl, hgi, fs_refl, (fun i hi => rfl), (by omega), (Or.inr ⟨by rintro (h9_ | ⟨h8_, h9_⟩); omega; exact absurd (c16_.mpr h9_) (by omega), rfl, rfl, rfl⟩), (fun i hi => ⟨rfl, rfl⟩)⟩
  refine ga_aload_n (v := .ref 331) hm_140 rfl rfl rfl ?_
  refine ga_getr (b := 335) hm_140 rfl sc_331 rfl ?_
  refine ga_iload_n (z := w) hm_140 rfl rfl ?_
  refine ga_iload (z := F 335 fm.toNat + 1) hm_140 rfl rfl ?_
  refine fl_iast (z := w) (v := F 335 fm.toNat + 1) hm_140 rfl sc_335 (by omega) (by omega) (by omega) ?_
  refine ga_aload_n (v := .ref 331) hm_140 rfl rfl rfl ?_
  refine ga_getr (b := 336) hm_140 rfl sc_331 rfl ?_
  refine ga_iload_n (z := w) hm_140 rfl rfl ?_
  refine ga_iload_n (z := fm) hm_140 rfl rfl ?_
  refine fl_iast (z := w) (v := fm) hm_140 rfl sc_336 (by omega) (by omega) (by omega) ?_
  refine ga_aload_n (v := .ref 331) hm_140 rfl rfl rfl ?_
  refine ga_getr (b := 337) hm_140 rfl sc_331 rfl ?_
  refine ga_iload_n (z := w) hm_140 rfl rfl ?_
  refine ga_iload_n (z := nb) hm_140 rfl rfl ?_
  refine fl_iast (z := w) (v := nb) hm_140 rfl sc_337 (by omega) (by omega) (by omega) ?_
  obtain ⟨F19_, q20_⟩ : ∃ Fq_, Fq_ = (fl_u (fl_u (fl_u F 335 w.toNat (F 335 fm.toNat + 1)) 336 w.toNat fm) 337 w.toNat nb) := ⟨_, rfl⟩
  rw [← q20_]
  have g21_ : gi F19_ := by rw [q20_]; exact gi_u (gi_u (gi_u (hgi) rfl (by omega) (by omega)) rfl (by omega) (by omega)) rfl (by omega) (by omega)
  have g22_ : fs [(335, 337, 0, 100000)] F F19_ := by rw [q20_]; exact fs_u (fs_u (fs_u (fs_refl) (fs_y (by omega))) (fs_y (by omega))) (fs_y (by omega))
  refine gr_v hm_140 rfl rfl ?_
  have e23_ : F19_ 335 w.toNat = F 335 fm.toNat + 1 := by rw [q20_]; exact (fl_u_ne (by first | exact nc_ rfl | decide | omega)).trans ((fl_u_ne (by first | exact nc_ rfl | decide | omega)).trans (fl_u_eq))
  have e24_ : F19_ 336 w.toNat = fm := by rw [q20_]; exact (fl_u_ne (by first | exact nc_ rfl | decide | omega)).trans (fl_u_eq)
  have e25_ : F19_ 337 w.toNat = nb := by rw [q20_]; exact fl_u_eq
  exact ⟨F19_, rfl, g21_, g22_, (fun i hi => (show F19_ 335 i = F 335 i from (by rw [q20_]; exact (fl_u_ne (by first | exact nc_ rfl | decide | omega)).trans ((fl_u_ne (by first | exact nc_ rfl | decide | omega)).trans ((fl_u_ne (by first | exact nc_ rfl | decide | omega))))))), (by omega), (Or.inl ⟨Or.inr ⟨by omega, c16_.mp (by omega)⟩, e23_, Eq.trans (e24_) (by omega), e25_⟩), (fun i hi => ⟨(show F19_ 336 i = F 336 i from (by rw [q20_]; exact (fl_u_ne (by first | exact nc_ rfl | decide | omega)).trans ((fl_u_ne (by first | exact nc_ rfl | decide | omega)).trans ((fl_u_ne (by first | exact nc_ rfl | decide | omega)))))), (show F19_ 337 i = F 337 i from (by rw [q20_]; exact (fl_u_ne (by first | exact nc_ rfl | decide | omega)).trans ((fl_u_ne (by first | exact nc_ rfl | decide | omega)).trans ((fl_u_ne (by first | exact nc_ rfl | decide | omega))))))⟩)⟩
/- CheapPlanner$Search.comeTo -/
abbrev pq_130v (G : Nat → Nat → Option Nat) (F : fl_N) (X : xi_H) (st fm nb : Int) (T : tb_T) (V : List wy_T) (go : Option wy_T) (old : Nat) : Outcome → xi_H → Prop := gqv (fun A => ∃ F' : fl_N, fl_H sh_T G F' ++ X = A ∧ gi F' ∧ fs [(331, 331, 8, 8), (331, 331, 10, 11), (332, 338, 0, 100000)] F F' ∧ (li F') ∧ (F 331 8 ≤ F' 331 8) ∧ (∃ T', tS F' T' ∧ cto F F' T T' st) ∧ (∀ i : Nat, ¬ i = T.length → F' 334 i = F 334 i) ∧ (ctv F F' T V go old st fm.toNat nb)) gqn
theorem mc_130v {G : Nat → Nat → Option Nat} (hG : gg G) (F : fl_N) (X : xi_H) (hgi : gi F) (st fm nb : Int) (T : tb_T) (V : List wy_T) (go : Option wy_T) (old : Nat) (hst : -9223372036854775808 ≤ st ∧ st ≤ 9223372036854775807) (hli : li F) (hf : 0 ≤ fm ∧ fm < F 331 8) (hn : 0 ≤ nb ∧ nb ≤ 40) (hT : tS F T) (hcb : 0 ≤ F 331 12 ∧ F 331 12 ≤ 1000000) (hcv : chn (F 335) (F 336) (F 337) V (old : Int)) (hgv : gHc F V (old : Int) go) (hVl : V.length = T.length) (hds : dst T) (hfo : fm < (old : Int)) (hcf : cof T old (F 331 12)) (hol : old ≤ T.length) : fl_M xi_ms 130 2 51 [.ref 331, .long (Int64.ofInt st), .int (Int32.ofInt fm), .int (Int32.ofInt nb)] (fl_H sh_T G F ++ X) (pq_130v G F X st fm nb T V go old) := by
  intro fr lo hfr hlo
  show fl_R xi_ms 130 fr lo 0 [(0, .ref 331), (1, .long (Int64.ofInt st)), (3, .int (Int32.ofInt fm)), (4, .int (Int32.ofInt nb))] [] _ _
  have hlf := li_at hli hf.1 hf.2
  have hb8 : 0 ≤ F 331 8 ∧ F 331 8 ≤ 200 := gi_g hgi rfl
  have hT1 := hT.1
  refine ga_aload_n (v := .ref 331) hm_130 rfl rfl rfl ?_
  refine ga_getr (b := 120) hm_130 rfl sc_331 rfl ?_
  refine ga_getr (b := 123) hm_130 rfl sc_120 rfl ?_
  refine ga_lload_n (z := st) hm_130 rfl rfl ?_
  refine gVi (nY := 3) (F := 0) (L := 0) (As := [.long (Int64.ofInt st)]) (b := 123) (rest := []) hm_130 rfl hm_115 rfl rfl (fl_ob sc_123) rfl rfl rfl rfl rfl (by omega) (by omega) (mc_115v hG F X hgi (123) (st) nd_123 (⟨by omega, by omega⟩)) (fun _ _ h => False.elim h) ?_
  rintro z1_ A1_ (⟨hA_, hz_, c2_⟩ | ⟨hA_, hz_, c3_⟩)
  ·
    subst hA_
    subst hz_
    refine fl_if_eq hm_130 rfl ⟨by omega, by omega⟩ (fun _ => ?_) (fun h => absurd (by omega) h)
    refine ga_aload_n (v := .ref 331) hm_130 rfl rfl rfl ?_
    refine ga_lload_n (z := st) hm_130 rfl rfl ?_
    refine gVi (nY := 5) (F := 0) (L := 0) (As := [.long (Int64.ofInt st)]) (b := 331) (rest := []) hm_130 rfl hm_142 rfl rfl (fl_ob sc_331) rfl rfl rfl rfl rfl (by omega) (by omega) (mc_142v hG F X hgi (st) (⟨by omega, by omega⟩) (ts_free hT (by omega))) (fun _ _ h => False.elim h) ?_
    rintro z4_ A1_ ⟨hA_, c5_, c6_⟩
    subst hA_
    refine ga_istore (lv2 := [(5, .int (Int32.ofInt z4_)), (0, .ref 331), (1, .long (Int64.ofInt st)), (3, .int (Int32.ofInt fm)), (4, .int (Int32.ofInt nb))]) hm_130 rfl (Nat.le_of_ble_eq_true rfl) rfl ?_
    refine ga_aload_n (v := .ref 331) hm_130 rfl rfl rfl ?_
    refine ga_getr (b := 338) hm_130 rfl sc_331 rfl ?_
    refine ga_iload (z := z4_) hm_130 rfl rfl ?_
    have b7_ : 0 ≤ F 338 z4_.toNat ∧ F 338 z4_.toNat ≤ 200 := gi_g hgi rfl
    refine ga_iald (z := z4_) (w := F 338 z4_.toNat) hm_130 rfl sc_338 (by omega) (by omega) (by omega) (rfl) ?_
    refine fl_if_eq (a := F 338 z4_.toNat) hm_130 rfl ⟨by omega, by omega⟩ (fun h8_ => ?_) (fun h9_ => ?_)
    ·
      refine ga_aload_n (v := .ref 331) hm_130 rfl rfl rfl ?_
      have b10_ : 0 ≤ F 331 8 ∧ F 331 8 ≤ 200 := gi_g hgi rfl
      refine ga_geti (z := F 331 8) hm_130 rfl sc_331 rfl (rfl) ?_
      refine ga_aload_n (v := .ref 331) hm_130 rfl rfl rfl ?_
      have b11_ : 0 ≤ F 331 9 ∧ F 331 9 ≤ 200 := gi_g hgi rfl
      refine ga_geti (z := F 331 9) hm_130 rfl sc_331 rfl (rfl) ?_
      refine fl_icmp_ge (a := F 331 8) (b := F 331 9) hm_130 rfl ⟨by omega, by omega⟩ ⟨by omega, by omega⟩ (fun h12_ => ?_) (fun h13_ => ?_)
      ·
        refine ga_aload_n (v := .ref 331) hm_130 rfl rfl rfl ?_
        refine fl_iconst hm_130 rfl ?_
        refine ga_putz (z := 1) hm_130 rfl sc_331 rfl rfl (by omega) ?_
        obtain ⟨F14_, q15_⟩ : ∃ Fq_, Fq_ = (fl_u F 331 10 1) := ⟨_, rfl⟩
        rw [← q15_]
        have g16_ : gi F14_ := by rw [q15_]; exact gi_u (hgi) rfl (by omega) (by omega)
        have g17_ : fs [(331, 331, 8, 8), (331, 331, 10, 11), (332, 338, 0, 100000)] F F14_ := by rw [q15_]; exact fs_u (fs_refl) rfl
        refine gr_v hm_130 rfl rfl ?_
        have e18_ : F14_ 331 8 = F 331 8 := by rw [q15_]; exact fl_u_ne (by first | exact nc_ rfl | decide | omega)
        have e19_ : F14_ 331 10 = 1 := by rw [q15_]; exact fl_u_eq
        have e20_ : F14_ 331 11 = F 331 11 := by rw [q15_]; exact fl_u_ne (by first | exact nc_ rfl | decide | omega)
        exact ⟨F14_, rfl, g16_, g17_, (li_cg hli ((show F14_ 331 8 = F 331 8 from (by rw [q15_]; exact (fl_u_ne (by first | exact nc_ rfl | decide | omega))))) ((show F14_ 331 11 = F 331 11 from (by rw [q15_]; exact (fl_u_ne (by first | exact nc_ rfl | decide | omega))))) (fun i => (show F14_ 335 i = F 335 i from (by rw [q15_]; exact (fl_u_ne (by first | exact nc_ rfl | decide | omega)))))), (by omega), (⟨T, (ts_cg hT ((show F14_ 331 8 = F 331 8 from (by rw [q15_]; exact (fl_u_ne (by first | exact nc_ rfl | decide | omega))))) (fun j => (show F14_ 332 j = F 332 j from (by rw [q15_]; exact (fl_u_ne (by first | exact nc_ rfl | decide | omega))))) (fun j => (show F14_ 333 j = F 333 j from (by rw [q15_]; exact (fl_u_ne (by first | exact nc_ rfl | decide | omega))))) (fun j => (show F14_ 338 j = F 338 j from (by rw [q15_]; exact (fl_u_ne (by first | exact nc_ rfl | decide | omega)))))), Or.inr ⟨(show ¬ gC F st from c2_), by omega, Or.inr (Or.inr ⟨(by cases h9_ : has T st with | true => exact absurd (by omega) (hsz_old hT.2.1 c6_ h9_) | false => rfl), by omega, rfl, by omega⟩)⟩⟩), (fun i hi => (show F14_ 334 i = F 334 i from (by rw [q15_]; exact (fl_u_ne (by first | exact nc_ rfl | decide | omega))))), (ctv_c (show ¬ gC F st from c2_) hcv hgv (by cases h9_ : has T st with | true => exact absurd (by omega) (hsz_old hT.2.1 c6_ h9_) | false => rfl) (by omega) (fun r_ k_ hr_ => (show F14_ (r_) k_ = F (r_) k_ from (by rw [q15_]; exact (fl_u_ne (by first | exact nc_ rfl | decide | omega))))) ((show F14_ 331 11 = F 331 11 from (by rw [q15_]; exact (fl_u_ne (by first | exact nc_ rfl | decide | omega))))))⟩
      refine ga_aload_n (v := .ref 331) hm_130 rfl rfl rfl ?_
      refine ga_iload (z := z4_) hm_130 rfl rfl ?_
      refine ga_lload_n (z := st) hm_130 rfl rfl ?_
      refine ga_aload_n (v := .ref 331) hm_130 rfl rfl rfl ?_
      have b21_ : -2147483648 ≤ F 331 12 ∧ F 331 12 ≤ 2147483647 := gi_g hgi rfl
      refine ga_geti (z := F 331 12) hm_130 rfl sc_331 rfl (rfl) ?_
      refine gVv (nY := 5) (F := 1) (L := 25) (As := [.int (Int32.ofInt z4_), .long (Int64.ofInt st), .int (Int32.ofInt (F 331 12))]) (b := 331) (rest := []) hm_130 rfl hm_129 rfl rfl (fl_ob sc_331) rfl rfl rfl rfl rfl (by omega) (by omega) (mc_129v hG F X hgi (z4_) (st) (F 331 12) (T) (⟨by omega, by omega⟩) (⟨by omega, by omega⟩) (⟨by omega, by omega⟩) (by omega) (hT) (c6_) ((by cases h9_ : has T st with | true => exact absurd (by omega) (hsz_old hT.2.1 c6_ h9_) | false => rfl)) (hcb)) (fun _ _ h => False.elim h) ?_
      rintro A1_ ⟨F30_, hA_, g31_, s32_, c23_, c24_, c25_, c26_, c27_, c28_, c29_⟩
      subst hA_
      have g33_ : fs [(331, 331, 8, 8), (331, 331, 10, 11), (332, 338, 0, 100000)] F F30_ := fs_tr fs_refl s32_ rfl
      refine ga_aload_n (v := .ref 331) hm_130 rfl rfl rfl ?_
      refine ga_aload_n (v := .ref 331) hm_130 rfl rfl rfl ?_
      have b34_ : 0 ≤ F30_ 331 8 ∧ F30_ 331 8 ≤ 200 := gi_g g31_ rfl
      refine ga_geti (z := F30_ 331 8) hm_130 rfl sc_331 rfl (rfl) ?_
      refine fl_iconst hm_130 rfl ?_
      refine ga_isub (a := F30_ 331 8) (b := 1) (c := F30_ 331 8 - 1) hm_130 rfl (by omega) ?_
      refine ga_iload_n (z := fm) hm_130 rfl rfl ?_
      refine ga_iload (z := nb) hm_130 rfl rfl ?_
      refine gVv (nY := 5) (F := 1) (L := 27) (As := [.int (Int32.ofInt (F30_ 331 8 - 1)), .int (Int32.ofInt fm), .int (Int32.ofInt nb)]) (b := 331) (rest := []) hm_130 rfl hm_140 rfl rfl (fl_ob sc_331) rfl rfl rfl rfl rfl (by omega) (by omega) (mc_140v hG F30_ X g31_ (F30_ 331 8 - 1) (fm) (nb) (V) ((old : Int)) (⟨by omega, by omega⟩) (⟨by omega, by omega⟩) (⟨by omega, by omega⟩) (by rw [c25_ fm.toNat (by omega)]; omega) (chn_cg hcv (fun i_ h_ => c25_ i_ (by omega)) (fun i_ h_ => c29_ i_ (by omega)) (fun i_ h_ => (show F30_ 337 i_ = F 337 i_ from (s32_ 337 i_ (by first | exact fs_c rfl | exact (fs_n (by omega) (fs_n (by omega) (fs_n (by omega) rfl)))))))) (⟨by omega, by omega⟩) (by omega) (fun h9_ => by exfalso; rcases c24_ with ⟨h8_, -⟩ | ⟨-, h8_⟩; omega; rw [show (F30_ 331 8 - 1).toNat = (F 331 8).toNat by omega, h8_] at h9_; omega)) (fun _ _ h => False.elim h) ?_
      rintro A1_ ⟨F40_, hA_, g41_, s42_, c36_, c37_, c38_, c39_⟩
      subst hA_
      have g43_ : fs [(331, 331, 8, 8), (331, 331, 10, 11), (332, 338, 0, 100000)] F F40_ := fs_tr g33_ s42_ rfl
      refine fl_goto hm_130 rfl ?_
      refine gr_v hm_130 rfl rfl ?_
      have e44_ : F40_ 331 8 = F30_ 331 8 := (s42_ 331 8 rfl).trans (rfl)
      have e45_ : F30_ 331 10 = F 331 10 := (s32_ 331 10 rfl).trans (rfl)
      have e46_ : F40_ 331 10 = F 331 10 := (s42_ 331 10 rfl).trans (e45_)
      have e47_ : F30_ 331 11 = F 331 11 := (s32_ 331 11 rfl).trans (rfl)
      have e48_ : F40_ 331 11 = F 331 11 := (s42_ 331 11 rfl).trans (e47_)
      exact ⟨F40_, rfl, g41_, g43_, (li_add (F := F) (F1 := F30_) (fm := fm) (v := F30_ 331 8 - 1) hli (by omega) (by omega) c23_ c24_ c25_ ((show F30_ 331 11 = F 331 11 from (s32_ 331 11 (by first | exact fs_c rfl | exact (fs_n (by omega) (fs_n (by omega) (fs_n (by omega) rfl))))))) ((show F40_ 331 8 = F30_ 331 8 from (s42_ 331 8 (by first | exact fs_c rfl | exact (fs_n (by omega) rfl))))) ((show F40_ 331 11 = F30_ 331 11 from (s42_ 331 11 (by first | exact fs_c rfl | exact (fs_n (by omega) rfl))))) (by omega) c36_ c37_), (by omega), (⟨T ++ [(st, F 331 12)], (ts_cg c26_ ((show F40_ 331 8 = F30_ 331 8 from (s42_ 331 8 (by first | exact fs_c rfl | exact (fs_n (by omega) rfl))))) (fun j => (show F40_ 332 j = F30_ 332 j from (s42_ 332 j (by first | exact fs_c rfl | exact (fs_n (by omega) rfl))))) (fun j => (show F40_ 333 j = F30_ 333 j from (s42_ 333 j (by first | exact fs_c rfl | exact (fs_n (by omega) rfl))))) (fun j => (show F40_ 338 j = F30_ 338 j from (s42_ 338 j (by first | exact fs_c rfl | exact (fs_n (by omega) rfl)))))), Or.inr ⟨(show ¬ gC F st from c2_), by omega, Or.inr (Or.inl ⟨(by cases h9_ : has T st with | true => exact absurd (by omega) (hsz_old hT.2.1 c6_ h9_) | false => rfl), by omega, rfl, by omega, by rw [show F40_ 334 T.length = F30_ 334 T.length from (show F40_ 334 T.length = F30_ 334 T.length from (s42_ 334 T.length (by first | exact fs_c rfl | exact (fs_n (by omega) rfl))))]; exact c27_⟩)⟩⟩), (fun i hi => Eq.trans ((show F40_ 334 i = F30_ 334 i from (s42_ 334 i (by first | exact fs_c rfl | exact (fs_n (by omega) rfl))))) (c28_ i hi)), (by have hb9_ : 0 ≤ F 331 9 ∧ F 331 9 ≤ 200 := gi_g hgi rfl; exact ctv_a (Fa := F30_) (show ¬ gC F st from c2_) hcv hgv hVl (by omega) hol (by cases h9_ : has T st with | true => exact absurd (by omega) (hsz_old hT.2.1 c6_ h9_) | false => rfl) (by omega) (by omega) (by omega) (fun i_ h_ => c25_ i_ (by omega)) (fun i_ h_ => c29_ i_ (by omega)) (fun i_ => (show F30_ 337 i_ = F 337 i_ from (s32_ 337 i_ (by first | exact fs_c rfl | exact (fs_n (by omega) (fs_n (by omega) (fs_n (by omega) rfl))))))) (by rcases c24_ with ⟨h9_, -⟩ | ⟨-, h9_⟩; omega; rwa [show (F 331 8).toNat = T.length by omega] at h9_) (by have h9_ := c38_; rwa [show (F30_ 331 8 - 1).toNat = T.length by omega] at h9_) (fun i_ h_ => c36_ i_ (by omega)) (fun i_ h_ => c39_ i_ (by omega)) ((Eq.trans (a := F40_ 331 11) (b := F30_ 331 11) (s42_ 331 11 (by first | exact fs_c rfl | exact (fs_n (by omega) rfl))) (show F30_ 331 11 = F 331 11 from (s32_ 331 11 (by first | exact fs_c rfl | exact (fs_n (by omega) (fs_n (by omega) (fs_n (by omega) rfl)))))))))⟩
    refine ga_aload_n (v := .ref 331) hm_130 rfl rfl rfl ?_
    refine ga_getr (b := 338) hm_130 rfl sc_331 rfl ?_
    refine ga_iload (z := z4_) hm_130 rfl rfl ?_
    refine ga_iald (z := z4_) (w := F 338 z4_.toNat) hm_130 rfl sc_338 (by omega) (by omega) (by omega) (rfl) ?_
    refine fl_iconst hm_130 rfl ?_
    refine ga_isub (a := F 338 z4_.toNat) (b := 1) (c := F 338 z4_.toNat - 1) hm_130 rfl (by omega) ?_
    refine ga_istore (lv2 := [(6, .int (Int32.ofInt (F 338 z4_.toNat - 1))), (5, .int (Int32.ofInt z4_)), (0, .ref 331), (1, .long (Int64.ofInt st)), (3, .int (Int32.ofInt fm)), (4, .int (Int32.ofInt nb))]) hm_130 rfl (Nat.le_of_ble_eq_true rfl) rfl ?_
    refine ga_aload_n (v := .ref 331) hm_130 rfl rfl rfl ?_
    refine ga_getr (b := 333) hm_130 rfl sc_331 rfl ?_
    refine ga_iload (z := F 338 z4_.toNat - 1) hm_130 rfl rfl ?_
    have b49_ : -2147483648 ≤ F 333 (F 338 z4_.toNat - 1).toNat ∧ F 333 (F 338 z4_.toNat - 1).toNat ≤ 2147483647 := gi_g hgi rfl
    refine ga_iald (z := F 338 z4_.toNat - 1) (w := F 333 (F 338 z4_.toNat - 1).toNat) hm_130 rfl sc_333 (by omega) (by omega) (by omega) (rfl) ?_
    refine ga_aload_n (v := .ref 331) hm_130 rfl rfl rfl ?_
    have b50_ : -2147483648 ≤ F 331 12 ∧ F 331 12 ≤ 2147483647 := gi_g hgi rfl
    refine ga_geti (z := F 331 12) hm_130 rfl sc_331 rfl (rfl) ?_
    refine fx_icmp_ne (a := F 333 (F 338 z4_.toNat - 1).toNat) (b := F 331 12) hm_130 rfl ⟨by omega, by omega⟩ ⟨by omega, by omega⟩ (fun h51_ => ?_) (fun h52_ => ?_)
    ·
      refine fl_goto hm_130 rfl ?_
      refine gr_v hm_130 rfl rfl ?_
      have b53_ : 0 ≤ F 331 8 ∧ F 331 8 ≤ 200 := gi_g hgi rfl
      exact ⟨F, rfl, hgi, fs_refl, (li_cg hli (rfl) (rfl) (fun i => rfl)), (by omega), (⟨T, hT, Or.inr ⟨(show ¬ gC F st from c2_), by omega, Or.inl ⟨(by cases h9_ : has T st with | true => rfl | false => exact absurd (hsz_new hT.2.1 c6_ h9_) (by omega)), rfl, by omega⟩⟩⟩), (fun i hi => rfl), (by have hz_ := hT.2.1.2.1 z4_.toNat (by omega); have hz1_ := hcf (F 338 z4_.toNat - 1).toNat (by omega); have hz2_ := hT.2.2.1 (F 338 z4_.toNat - 1).toNat (by omega); exact ctv_o (k := (F 338 z4_.toNat - 1).toNat) (show ¬ gC F st from c2_) hcv hgv hds (by omega) (by have hz_ := hT.2.1.2.1 z4_.toNat (by omega); exact slz_x hT.2.1 c6_ (by omega) (by omega)) (by omega) (fun r_ k_ hr_ => rfl) (rfl))⟩
    refine ga_aload_n (v := .ref 331) hm_130 rfl rfl rfl ?_
    refine ga_iload (z := F 338 z4_.toNat - 1) hm_130 rfl rfl ?_
    refine ga_iload_n (z := fm) hm_130 rfl rfl ?_
    refine ga_iload (z := nb) hm_130 rfl rfl ?_
    refine gVv (nY := 5) (F := 1) (L := 27) (As := [.int (Int32.ofInt (F 338 z4_.toNat - 1)), .int (Int32.ofInt fm), .int (Int32.ofInt nb)]) (b := 331) (rest := []) hm_130 rfl hm_140 rfl rfl (fl_ob sc_331) rfl rfl rfl rfl rfl (by omega) (by omega) (mc_140v hG F X hgi (F 338 z4_.toNat - 1) (fm) (nb) (V) ((old : Int)) (⟨by omega, by omega⟩) (⟨by omega, by omega⟩) (⟨by omega, by omega⟩) (by omega) (hcv) (⟨by omega, by omega⟩) (by omega) (fun _ => by have hz_ := hT.2.1.2.1 z4_.toNat (by omega); have hz1_ := hcf (F 338 z4_.toNat - 1).toNat (by omega); have hz2_ := hT.2.2.1 (F 338 z4_.toNat - 1).toNat (by omega); exact chn_kv hcv (by omega) (by omega))) (fun _ _ h => False.elim h) ?_
    rintro A1_ ⟨F59_, hA_, g60_, s61_, c55_, c56_, c57_, c58_⟩
    subst hA_
    have g62_ : fs [(331, 331, 8, 8), (331, 331, 10, 11), (332, 338, 0, 100000)] F F59_ := fs_tr fs_refl s61_ rfl
    refine fl_goto hm_130 rfl ?_
    refine gr_v hm_130 rfl rfl ?_
    have e63_ : F59_ 331 8 = F 331 8 := (s61_ 331 8 rfl).trans (rfl)
    have b64_ : 0 ≤ F 331 8 ∧ F 331 8 ≤ 200 := gi_g hgi rfl
    have e65_ : F59_ 331 10 = F 331 10 := (s61_ 331 10 rfl).trans (rfl)
    have e66_ : F59_ 331 11 = F 331 11 := (s61_ 331 11 rfl).trans (rfl)
    exact ⟨F59_, rfl, g60_, g62_, (li_known (F := F) (fm := fm) (v := F 338 z4_.toNat - 1) hli (by omega) (by omega) ((show F59_ 331 8 = F 331 8 from (s61_ 331 8 (by first | exact fs_c rfl | exact (fs_n (by omega) rfl))))) ((show F59_ 331 11 = F 331 11 from (s61_ 331 11 (by first | exact fs_c rfl | exact (fs_n (by omega) rfl))))) c55_ c56_), (by omega), (⟨T, (ts_cg hT ((show F59_ 331 8 = F 331 8 from (s61_ 331 8 (by first | exact fs_c rfl | exact (fs_n (by omega) rfl))))) (fun j => (show F59_ 332 j = F 332 j from (s61_ 332 j (by first | exact fs_c rfl | exact (fs_n (by omega) rfl))))) (fun j => (show F59_ 333 j = F 333 j from (s61_ 333 j (by first | exact fs_c rfl | exact (fs_n (by omega) rfl))))) (fun j => (show F59_ 338 j = F 338 j from (s61_ 338 j (by first | exact fs_c rfl | exact (fs_n (by omega) rfl)))))), Or.inr ⟨(show ¬ gC F st from c2_), by omega, Or.inl ⟨(by cases h9_ : has T st with | true => rfl | false => exact absurd (hsz_new hT.2.1 c6_ h9_) (by omega)), rfl, by omega⟩⟩⟩), (fun i hi => (show F59_ 334 i = F 334 i from (s61_ 334 i (by first | exact fs_c rfl | exact (fs_n (by omega) rfl))))), (by have hz_ := hT.2.1.2.1 z4_.toNat (by omega); have hz1_ := hcf (F 338 z4_.toNat - 1).toNat (by omega); have hz2_ := hT.2.2.1 (F 338 z4_.toNat - 1).toNat (by omega); exact ctv_k (Fa := F) (k := (F 338 z4_.toNat - 1).toNat) (show ¬ gC F st from c2_) hcv hgv hVl (by omega) hds (by omega) (by have hz_ := hT.2.1.2.1 z4_.toNat (by omega); exact slz_x hT.2.1 c6_ (by omega) (by omega)) (by omega) (by omega) (by omega) (fun r_ k_ hr_ => rfl) c57_ c55_ c58_ ((show F59_ 331 11 = F 331 11 from (s61_ 331 11 (by first | exact fs_c rfl | exact (fs_n (by omega) rfl))))))⟩
  subst hA_
  subst hz_
  refine fl_if_eq hm_130 rfl ⟨by omega, by omega⟩ (fun h => absurd h (by omega)) (fun _ => ?_)
  refine ga_aload_n (v := .ref 331) hm_130 rfl rfl rfl ?_
  refine fl_iconst hm_130 rfl ?_
  refine ga_putz (z := 1) hm_130 rfl sc_331 rfl rfl (by omega) ?_
  refine ga_aload_n (v := .ref 331) hm_130 rfl rfl rfl ?_
  refine fl_sipush hm_130 rfl rfl ?_
  refine ga_iload_n (z := fm) hm_130 rfl rfl ?_
  refine ga_iload (z := nb) hm_130 rfl rfl ?_
  obtain ⟨F67_, q68_⟩ : ∃ Fq_, Fq_ = (fl_u F 331 11 1) := ⟨_, rfl⟩
  rw [← q68_]
  have g69_ : gi F67_ := by rw [q68_]; exact gi_u (hgi) rfl (by omega) (by omega)
  have g70_ : fs [(331, 331, 8, 8), (331, 331, 10, 11), (332, 338, 0, 100000)] F F67_ := by rw [q68_]; exact fs_u (fs_refl) rfl
  refine gVv (nY := 5) (F := 1) (L := 27) (As := [.int (Int32.ofInt 200), .int (Int32.ofInt fm), .int (Int32.ofInt nb)]) (b := 331) (rest := []) hm_130 rfl hm_140 rfl rfl (fl_ob sc_331) rfl rfl rfl rfl rfl (by omega) (by omega) (mc_140v hG F67_ X g69_ (200) (fm) (nb) (V) ((old : Int)) (⟨by omega, by omega⟩) (⟨by omega, by omega⟩) (⟨by omega, by omega⟩) (by rw [(show F67_ 335 fm.toNat = F 335 fm.toNat from (by rw [q68_]; exact (fl_u_ne (by first | exact nc_ rfl | decide | omega))))]; omega) ((chn_cg hcv (fun i_ _ => (show F67_ 335 i_ = F 335 i_ from (by rw [q68_]; exact (fl_u_ne (by first | exact nc_ rfl | decide | omega))))) (fun i_ _ => (show F67_ 336 i_ = F 336 i_ from (by rw [q68_]; exact (fl_u_ne (by first | exact nc_ rfl | decide | omega))))) (fun i_ _ => (show F67_ 337 i_ = F 337 i_ from (by rw [q68_]; exact (fl_u_ne (by first | exact nc_ rfl | decide | omega))))))) (⟨by omega, by omega⟩) (by omega) (hwy_cg (gHc_wy hgv) ((show F67_ 335 200 = F 335 200 from (by rw [q68_]; exact (fl_u_ne (by first | exact nc_ rfl | decide | omega))))) ((show F67_ 336 200 = F 336 200 from (by rw [q68_]; exact (fl_u_ne (by first | exact nc_ rfl | decide | omega))))))) (fun _ _ h => False.elim h) ?_
  rintro A1_ ⟨F76_, hA_, g77_, s78_, c72_, c73_, c74_, c75_⟩
  subst hA_
  have g79_ : fs [(331, 331, 8, 8), (331, 331, 10, 11), (332, 338, 0, 100000)] F F76_ := fs_tr g70_ s78_ rfl
  refine gr_v hm_130 rfl rfl ?_
  have e80_ : F67_ 331 8 = F 331 8 := by rw [q68_]; exact fl_u_ne (by first | exact nc_ rfl | decide | omega)
  have e81_ : F76_ 331 8 = F 331 8 := (s78_ 331 8 rfl).trans (e80_)
  have b82_ : 0 ≤ F 331 8 ∧ F 331 8 ≤ 200 := gi_g hgi rfl
  have e83_ : F67_ 331 10 = F 331 10 := by rw [q68_]; exact fl_u_ne (by first | exact nc_ rfl | decide | omega)
  have e84_ : F76_ 331 10 = F 331 10 := (s78_ 331 10 rfl).trans (e83_)
  have e85_ : F67_ 331 11 = 1 := by rw [q68_]; exact fl_u_eq
  have e86_ : F76_ 331 11 = 1 := (s78_ 331 11 rfl).trans (e85_)
  exact ⟨F76_, rfl, g77_, g79_, (li_goal (F := F) (fm := fm) hli (by omega) (by omega) ((Eq.trans (a := F76_ 331 8) (b := F67_ 331 8) (s78_ 331 8 (by first | exact fs_c rfl | exact (fs_n (by omega) rfl))) (show F67_ 331 8 = F 331 8 from (by rw [q68_]; exact (fl_u_ne (by first | exact nc_ rfl | decide | omega)))))) (fun i hi => Eq.trans (c72_ i hi) (show F67_ 335 i = F 335 i from (by rw [q68_]; exact (fl_u_ne (by first | exact nc_ rfl | decide | omega))))) (by have h9_ := c73_; have e1_ := (show F67_ 335 (200 : Int).toNat = F 335 (200 : Int).toNat from (by rw [q68_]; exact (fl_u_ne (by first | exact nc_ rfl | decide | omega)))); have e2_ := (show F67_ 335 fm.toNat = F 335 fm.toNat from (by rw [q68_]; exact (fl_u_ne (by first | exact nc_ rfl | decide | omega)))); rw [e1_, e2_] at h9_; exact h9_)), (by omega), (⟨T, (ts_cg hT ((Eq.trans (a := F76_ 331 8) (b := F67_ 331 8) (s78_ 331 8 (by first | exact fs_c rfl | exact (fs_n (by omega) rfl))) (show F67_ 331 8 = F 331 8 from (by rw [q68_]; exact (fl_u_ne (by first | exact nc_ rfl | decide | omega)))))) (fun j => (Eq.trans (a := F76_ 332 j) (b := F67_ 332 j) (s78_ 332 j (by first | exact fs_c rfl | exact (fs_n (by omega) rfl))) (show F67_ 332 j = F 332 j from (by rw [q68_]; exact (fl_u_ne (by first | exact nc_ rfl | decide | omega)))))) (fun j => (Eq.trans (a := F76_ 333 j) (b := F67_ 333 j) (s78_ 333 j (by first | exact fs_c rfl | exact (fs_n (by omega) rfl))) (show F67_ 333 j = F 333 j from (by rw [q68_]; exact (fl_u_ne (by first | exact nc_ rfl | decide | omega)))))) (fun j => (Eq.trans (a := F76_ 338 j) (b := F67_ 338 j) (s78_ 338 j (by first | exact fs_c rfl | exact (fs_n (by omega) rfl))) (show F67_ 338 j = F 338 j from (by rw [q68_]; exact (fl_u_ne (by first | exact nc_ rfl | decide | omega))))))), Or.inl ⟨(show gC F st from c3_), rfl, by omega, by omega⟩⟩), (fun i hi => (Eq.trans (a := F76_ 334 i) (b := F67_ 334 i) (s78_ 334 i (by first | exact fs_c rfl | exact (fs_n (by omega) rfl))) (show F67_ 334 i = F 334 i from (by rw [q68_]; exact (fl_u_ne (by first | exact nc_ rfl | decide | omega)))))), (ctv_g (Fa := F67_) (show gC F st from c3_) hcv hgv (by omega) (by omega) (by omega) (fun r_ k_ hr_ => (show F67_ (r_) k_ = F (r_) k_ from (by rw [q68_]; exact (fl_u_ne (by first | exact nc_ rfl | decide | omega))))) c74_ c72_ c75_ (e86_))⟩

/- CheapPlanner$Needs.holdIn -/
abbrev pq_115v (G : Nat → Nat → Option Nat) (F : fl_N) (X : xi_H) (d : Nat) (st : Int) : Outcome → xi_H → Prop := gqi (fun z A => (fl_H sh_T G F ++ X = A ∧ (z = 0) ∧ (¬ hN F d st)) ∨ (fl_H sh_T G F ++ X = A ∧ (z = 1) ∧ (hN F d st))) gqn
theorem mc_115v {G : Nat → Nat → Option Nat} (hG : gg G) (F : fl_N) (X : xi_H) (hgi : gi F) (d : Nat) (st : Int) (h_d : nd d) (hst : -9223372036854775808 ≤ st ∧ st ≤ 9223372036854775807) : fl_M xi_ms 115 0 0 [.ref d, .long (Int64.ofInt st)] (fl_H sh_T G F ++ X) (pq_115v G F X d st) := by
  intro fr lo hfr hlo
  show fl_R xi_ms 115 fr lo 0 [(0, .ref d), (1, .long (Int64.ofInt st))] [] _ _
  have hr_d := h_d.2.2
  refine ga_aload_n (v := .ref d) hm_115 rfl rfl rfl ?_
  have b1_ : 0 ≤ F d 2 ∧ F d 2 ≤ 1 := gi_g hgi h_d.2.1.2.2.1
  refine ga_geti (z := F d 2) hm_115 rfl h_d.1.1 rfl (rfl) ?_
  refine fl_if_eq (a := F d 2) hm_115 rfl ⟨by omega, by omega⟩ (fun h2_ => ?_) (fun h3_ => ?_)
  ·
    refine fl_iconst hm_115 rfl ?_
    refine gr_i (z := 0) hm_115 rfl rfl (ga_nb (by omega)) ?_
    exact Or.inl ⟨rfl, rfl, (by unfold hN; rintro ⟨h7_, h8_, h9_⟩; first | omega | contradiction)⟩
  refine ga_lload_n (z := st) hm_115 rfl rfl ?_
  refine ga_aload_n (v := .ref d) hm_115 rfl rfl rfl ?_
  have b4_ : -9223372036854775808 ≤ F d 0 ∧ F d 0 ≤ 9223372036854775807 := gi_g hgi h_d.2.1.1
  refine ga_getl (z := F d 0) hm_115 rfl h_d.1.1 rfl (rfl) ?_
  refine ga_lx (z := (lan st (F d 0))) hm_115 rfl rfl rfl (lop_e 0 _ _) (fun ⟨h5_, h6_⟩ => ?_)
  refine ga_aload_n (v := .ref d) hm_115 rfl rfl rfl ?_
  refine ga_getl (z := F d 0) hm_115 rfl h_d.1.1 rfl (rfl) ?_
  refine ga_lcmpn (a := (lan st (F d 0))) (b := F d 0) hm_115 rfl rfl ⟨by omega, by omega⟩ ⟨by omega, by omega⟩ (fun h7_ => ?_) (fun h8_ => ?_)
  ·
    refine fl_iconst hm_115 rfl ?_
    refine gr_i (z := 0) hm_115 rfl rfl (ga_nb (by omega)) ?_
    exact Or.inl ⟨rfl, rfl, (by unfold hN; rintro ⟨h7_, h8_, h9_⟩; first | omega | contradiction)⟩
  refine ga_lload_n (z := st) hm_115 rfl rfl ?_
  refine ga_aload_n (v := .ref d) hm_115 rfl rfl rfl ?_
  have b9_ : -9223372036854775808 ≤ F d 1 ∧ F d 1 ≤ 9223372036854775807 := gi_g hgi h_d.2.1.2.1
  refine ga_getl (z := F d 1) hm_115 rfl h_d.1.1 rfl (rfl) ?_
  refine ga_lx (z := (lan st (F d 1))) hm_115 rfl rfl rfl (lop_e 0 _ _) (fun ⟨h10_, h11_⟩ => ?_)
  refine ga_lconst (z := 0) hm_115 rfl rfl ?_
  refine ga_lcmpn (a := (lan st (F d 1))) (b := 0) hm_115 rfl rfl ⟨by omega, by omega⟩ ⟨by omega, by omega⟩ (fun h12_ => ?_) (fun h13_ => ?_)
  ·
    refine fl_iconst hm_115 rfl ?_
    refine gr_i (z := 0) hm_115 rfl rfl (ga_nb (by omega)) ?_
    exact Or.inl ⟨rfl, rfl, (by unfold hN; rintro ⟨h7_, h8_, h9_⟩; first | omega | contradiction)⟩
  refine fl_iconst hm_115 rfl ?_
  refine fl_goto hm_115 rfl ?_
  refine gr_i (z := 1) hm_115 rfl rfl (ga_nb (by omega)) ?_
  exact Or.inr (⟨rfl, rfl, (by unfold hN; exact ⟨by omega, by omega, by omega⟩)⟩)
/- CheapPlanner$Search.slotOf -/
abbrev pq_142v (G : Nat → Nat → Option Nat) (F : fl_N) (X : xi_H) (st : Int) : Outcome → xi_H → Prop := gqi (fun z A => fl_H sh_T G F ++ X = A ∧ (0 ≤ z ∧ z ≤ 511) ∧ (slz hshC (F 332) (F 338) st z.toNat)) gqn
theorem mc_142v {G : Nat → Nat → Option Nat} (hG : gg G) (F : fl_N) (X : xi_H) (hgi : gi F) (st : Int) (hst : -9223372036854775808 ≤ st ∧ st ≤ 9223372036854775807) (hfe : ∃ e : Int, 0 ≤ e ∧ e < 512 ∧ F 338 e.toNat = 0) : fl_M xi_ms 142 0 0 [.ref 331, .long (Int64.ofInt st)] (fl_H sh_T G F ++ X) (pq_142v G F X st) := by
  intro fr lo hfr hlo
  show fl_R xi_ms 142 fr lo 0 [(0, .ref 331), (1, .long (Int64.ofInt st))] [] _ _
  have hbh := hshC_b st
  refine ga_lload_n (z := st) hm_142 rfl rfl ?_
  refine ga_ldcl (z := -7046029254386353131) hm_142 rfl (by decide) ?_
  refine ga_lmulx (a := st) (b := -7046029254386353131) hm_142 rfl (fun ⟨h1_, h2_⟩ => ?_)
  refine fl_bipush hm_142 rfl rfl ?_
  refine ga_lx (z := (lus ((lmu st (-7046029254386353131))) 55)) hm_142 rfl rfl rfl (lop_e 4 _ _) (fun ⟨h3_, h4_⟩ => ?_)
  have b5_ := lus_55 ((lmu st (-7046029254386353131)))
  refine ga_l2i hm_142 rfl ?_
  refine ga_istore_n (lv2 := [(3, .int (Int32.ofInt ((lus ((lmu st (-7046029254386353131))) 55)))), (0, .ref 331), (1, .long (Int64.ofInt st))]) hm_142 rfl (Nat.le_of_ble_eq_true rfl) rfl ?_
  refine fl_iconst hm_142 rfl ?_
  refine ga_istore (lv2 := [(4, .int (Int32.ofInt 0)), (3, .int (Int32.ofInt ((lus ((lmu st (-7046029254386353131))) 55)))), (0, .ref 331), (1, .long (Int64.ofInt st))]) hm_142 rfl (Nat.le_of_ble_eq_true rfl) rfl ?_
  have L7_ : ∀ (n6_ : Nat) (k : Int) (sl : Int), (512 - k : Int).toNat = n6_ → (0 ≤ k ∧ k ≤ 512) → (0 ≤ sl ∧ sl ≤ 511) → (sl = (hshC st + k) % 512) → (∀ i : Nat, (i : Int) < k → ¬ stz (F 332) (F 338) st (ppr hshC st i)) → fl_R xi_ms 142 fr lo 13 [(4, .int (Int32.ofInt k)), (3, .int (Int32.ofInt sl)), (0, .ref 331), (1, .long (Int64.ofInt st))] [] (fl_H sh_T G F ++ X) (pq_142v G F X st) := by
    intro n6_
    induction n6_ using Nat.strongRecOn with
    | ind n6_ ih8_ =>
    intro k sl hn9_ hk hsl hse hno
    refine ga_iload (z := k) hm_142 rfl rfl ?_
    refine fl_sipush hm_142 rfl rfl ?_
    refine fl_icmp_ge (a := k) (b := 512) hm_142 rfl ⟨by omega, by omega⟩ ⟨by omega, by omega⟩ (fun h10_ => ?_) (fun h11_ => ?_)
    ·
      refine ga_iload_n (z := sl) hm_142 rfl rfl ?_
      refine gr_i (z := sl) hm_142 rfl rfl rfl ?_
      exact ⟨rfl, (⟨by omega, by omega⟩), (by obtain ⟨e, e0, e1, e2⟩ := hfe; obtain ⟨i, i1, i2⟩ := ppr_all (f := st) e0 e1; exact absurd (Or.inl (by rw [i2]; exact e2)) (hno i (by omega)))⟩
    refine ga_aload_n (v := .ref 331) hm_142 rfl rfl rfl ?_
    refine ga_getr (b := 338) hm_142 rfl sc_331 rfl ?_
    refine ga_iload_n (z := sl) hm_142 rfl rfl ?_
    have b12_ : 0 ≤ F 338 sl.toNat ∧ F 338 sl.toNat ≤ 200 := gi_g hgi rfl
    refine ga_iald (z := sl) (w := F 338 sl.toNat) hm_142 rfl sc_338 (by omega) (by omega) (by omega) (rfl) ?_
    refine fl_if_eq (a := F 338 sl.toNat) hm_142 rfl ⟨by omega, by omega⟩ (fun h13_ => ?_) (fun h14_ => ?_)
    ·
      refine ga_iload_n (z := sl) hm_142 rfl rfl ?_
      refine gr_i (z := sl) hm_142 rfl rfl rfl ?_
      exact ⟨rfl, (⟨by omega, by omega⟩), (⟨k.toNat, by unfold ppr; rw [hse, show ((k.toNat : Nat) : Int) = k by omega], by unfold stz; first | exact Or.inl (by omega) | exact Or.inr (by omega), fun i hi => hno i (by omega)⟩)⟩
    refine ga_aload_n (v := .ref 331) hm_142 rfl rfl rfl ?_
    refine ga_getr (b := 332) hm_142 rfl sc_331 rfl ?_
    refine ga_aload_n (v := .ref 331) hm_142 rfl rfl rfl ?_
    refine ga_getr (b := 338) hm_142 rfl sc_331 rfl ?_
    refine ga_iload_n (z := sl) hm_142 rfl rfl ?_
    refine ga_iald (z := sl) (w := F 338 sl.toNat) hm_142 rfl sc_338 (by omega) (by omega) (by omega) (rfl) ?_
    refine fl_iconst hm_142 rfl ?_
    refine ga_isub (a := F 338 sl.toNat) (b := 1) (c := F 338 sl.toNat - 1) hm_142 rfl (by omega) ?_
    have b15_ : -9223372036854775808 ≤ F 332 (F 338 sl.toNat - 1).toNat ∧ F 332 (F 338 sl.toNat - 1).toNat ≤ 9223372036854775807 := gi_g hgi rfl
    refine ga_lald (z := F 338 sl.toNat - 1) (w := F 332 (F 338 sl.toNat - 1).toNat) hm_142 rfl sc_332 (by omega) (by omega) (by omega) (rfl) ?_
    refine ga_lload_n (z := st) hm_142 rfl rfl ?_
    refine ga_lcmpn (a := F 332 (F 338 sl.toNat - 1).toNat) (b := st) hm_142 rfl rfl ⟨by omega, by omega⟩ ⟨by omega, by omega⟩ (fun h16_ => ?_) (fun h17_ => ?_)
    ·
      refine ga_iload_n (z := sl) hm_142 rfl rfl ?_
      refine fl_iconst hm_142 rfl ?_
      refine ga_iadd (a := sl) (b := 1) (c := sl + 1) hm_142 rfl (by omega) ?_
      refine fl_sipush hm_142 rfl rfl ?_
      refine ga_irem (a := sl + 1) (b := 512) hm_142 rfl (by omega) (by omega) (by omega) (by omega) ?_
      refine ga_istore_n (lv2 := [(3, .int (Int32.ofInt (((sl + 1) % 512)))), (4, .int (Int32.ofInt k)), (0, .ref 331), (1, .long (Int64.ofInt st))]) hm_142 rfl (Nat.le_of_ble_eq_true rfl) rfl ?_
      refine ga_inc (a := k) (c := k + 1) (lv2 := [(4, .int (Int32.ofInt (k + 1))), (3, .int (Int32.ofInt (((sl + 1) % 512)))), (0, .ref 331), (1, .long (Int64.ofInt st))]) hm_142 rfl rfl (Nat.le_of_ble_eq_true rfl) rfl rfl ?_
      refine fl_goto hm_142 rfl ?_
      exact ih8_ _ (by omega) (k + 1) (((sl + 1) % 512)) rfl (⟨by omega, by omega⟩) (⟨by omega, by omega⟩) (by rw [hse]; omega) (fun i hi => by by_cases e_ : (i : Int) < k; exact hno i e_; rw [show ppr hshC st i = sl.toNat from by unfold ppr; rw [hse, show (i : Int) = k by omega]]; rintro (h8_ | h8_) <;> contradiction)
    refine ga_iload_n (z := sl) hm_142 rfl rfl ?_
    refine gr_i (z := sl) hm_142 rfl rfl rfl ?_
    exact ⟨rfl, (⟨by omega, by omega⟩), (⟨k.toNat, by unfold ppr; rw [hse, show ((k.toNat : Nat) : Int) = k by omega], by unfold stz; first | exact Or.inl (by omega) | exact Or.inr (by omega), fun i hi => hno i (by omega)⟩)⟩
  exact L7_ _ (0) ((lus ((lmu st (-7046029254386353131))) 55)) rfl (⟨by omega, by omega⟩) (⟨by omega, by omega⟩) (by show _ = (hshC st + 0) % 512; rw [Int.add_zero, Int.emod_eq_of_lt hbh.1 (by omega)]; rfl) (fun i hi => absurd hi (by omega))
/- CheapPlanner$Search.setDue -/
abbrev pq_141v (G : Nat → Nat → Option Nat) (F : fl_N) (X : xi_H) (w pr : Int) : Outcome → xi_H → Prop := gqv (fun A => ∃ F' : fl_N, fl_H sh_T G F' ++ X = A ∧ gi F' ∧ fs [(334, 334, 0, 100000)] F F' ∧ (sdu F (F 333 w.toNat) pr (F' 334 w.toNat)) ∧ (∀ i : Nat, ¬ i = w.toNat → F' 334 i = F 334 i)) gqn
theorem mc_141v {G : Nat → Nat → Option Nat} (hG : gg G) (F : fl_N) (X : xi_H) (hgi : gi F) (w pr : Int) (hw : 0 ≤ w ∧ w ≤ 199) (hpr : -2147483648 ≤ pr ∧ pr ≤ 2147483647) (hcb : 0 ≤ F 333 w.toNat ∧ F 333 w.toNat ≤ 1000000) : fl_M xi_ms 141 0 0 [.ref 331, .int (Int32.ofInt w), .int (Int32.ofInt pr)] (fl_H sh_T G F ++ X) (pq_141v G F X w pr) := by
  intro fr lo hfr hlo
  show fl_R xi_ms 141 fr lo 0 [(0, .ref 331), (1, .int (Int32.ofInt w)), (2, .int (Int32.ofInt pr))] [] _ _
  refine ga_ldci (z := 2147483647) hm_141 rfl (by decide) ?_
  refine ga_istore_n (lv2 := [(3, .int (Int32.ofInt 2147483647)), (0, .ref 331), (1, .int (Int32.ofInt w)), (2, .int (Int32.ofInt pr))]) hm_141 rfl (Nat.le_of_ble_eq_true rfl) rfl ?_
  refine fl_iconst hm_141 rfl ?_
  refine ga_istore (lv2 := [(4, .int (Int32.ofInt 0)), (3, .int (Int32.ofInt 2147483647)), (0, .ref 331), (1, .int (Int32.ofInt w)), (2, .int (Int32.ofInt pr))]) hm_141 rfl (Nat.le_of_ble_eq_true rfl) rfl ?_
  have b4_ : 0 ≤ F 120 3 ∧ F 120 3 ≤ 41 := gi_g hgi rfl
  have L2_ : ∀ (n1_ : Nat) (k : Int) (hg : Int), (F 120 3 - k : Int).toNat = n1_ → (0 ≤ k ∧ k ≤ 41 ∧ k ≤ F 120 3) → (-2147483648 ≤ hg ∧ hg ≤ 2147483647) → (sdp (fun s => F (126 + 5 * s) 2) k pr hg) → (hg = 2147483647 ∨ (0 ≤ hg ∧ hg ≤ 999)) → fl_R xi_ms 141 fr lo 6 [(4, .int (Int32.ofInt k)), (3, .int (Int32.ofInt hg)), (0, .ref 331), (1, .int (Int32.ofInt w)), (2, .int (Int32.ofInt pr))] [] (fl_H sh_T G F ++ X) (pq_141v G F X w pr) := by
    intro n1_
    induction n1_ using Nat.strongRecOn with
    | ind n1_ ih3_ =>
    intro k hg hn5_ hk hhg hsd hh9
    refine ga_iload (z := k) hm_141 rfl rfl ?_
    refine ga_aload_n (v := .ref 331) hm_141 rfl rfl rfl ?_
    refine ga_getr (b := 120) hm_141 rfl sc_331 rfl ?_
    refine ga_geti (z := F 120 3) hm_141 rfl sc_120 rfl (rfl) ?_
    refine fl_icmp_ge (a := k) (b := F 120 3) hm_141 rfl ⟨by omega, by omega⟩ ⟨by omega, by omega⟩ (fun h6_ => ?_) (fun h7_ => ?_)
    ·
      refine ga_aload_n (v := .ref 331) hm_141 rfl rfl rfl ?_
      refine ga_getr (b := 334) hm_141 rfl sc_331 rfl ?_
      refine ga_iload_n (z := w) hm_141 rfl rfl ?_
      refine ga_iload_n (z := hg) hm_141 rfl rfl ?_
      refine ga_ldci (z := 2147483647) hm_141 rfl (by decide) ?_
      refine fx_icmp_ne (a := hg) (b := 2147483647) hm_141 rfl ⟨by omega, by omega⟩ ⟨by omega, by omega⟩ (fun h8_ => ?_) (fun h9_ => ?_)
      ·
        refine ga_aload_n (v := .ref 331) hm_141 rfl rfl rfl ?_
        refine ga_getr (b := 333) hm_141 rfl sc_331 rfl ?_
        refine ga_iload_n (z := w) hm_141 rfl rfl ?_
        have b10_ : -2147483648 ≤ F 333 w.toNat ∧ F 333 w.toNat ≤ 2147483647 := gi_g hgi rfl
        refine ga_iald (z := w) (w := F 333 w.toNat) hm_141 rfl sc_333 (by omega) (by omega) (by omega) (rfl) ?_
        refine ga_iload_n (z := hg) hm_141 rfl rfl ?_
        refine ga_iadd (a := F 333 w.toNat) (b := hg) (c := F 333 w.toNat + hg) hm_141 rfl (by omega) ?_
        refine fl_iast (z := w) (v := F 333 w.toNat + hg) hm_141 rfl sc_334 (by omega) (by omega) (by omega) ?_
        obtain ⟨F11_, q12_⟩ : ∃ Fq_, Fq_ = (fl_u F 334 w.toNat (F 333 w.toNat + hg)) := ⟨_, rfl⟩
        rw [← q12_]
        have g13_ : gi F11_ := by rw [q12_]; exact gi_u (hgi) rfl (by omega) (by omega)
        have g14_ : fs [(334, 334, 0, 100000)] F F11_ := by rw [q12_]; exact fs_u (fs_refl) (fs_y (by omega))
        refine gr_v hm_141 rfl rfl ?_
        have e15_ : F11_ 334 w.toNat = F 333 w.toNat + hg := by rw [q12_]; exact fl_u_eq
        exact ⟨F11_, rfl, g13_, g14_, (sdu_of hgi (by have h9_ : 0 ≤ F 120 3 ∧ F 120 3 ≤ 41 := gi_g hgi rfl; omega) (by rw [show F 120 3 = k by omega]; exact hsd) (Eq.trans (e15_) (by first | rw [if_pos (by omega)] | rw [if_neg (by omega)]))), (fun i hi => (show F11_ 334 i = F 334 i from (by rw [q12_]; exact (fl_u_ne (by first | exact nc_ rfl | decide | omega)))))⟩
      refine ga_ldci (z := 2147483647) hm_141 rfl (by decide) ?_
      refine fl_goto hm_141 rfl ?_
      refine fl_iast (z := w) (v := 2147483647) hm_141 rfl sc_334 (by omega) (by omega) (by omega) ?_
      obtain ⟨F16_, q17_⟩ : ∃ Fq_, Fq_ = (fl_u F 334 w.toNat 2147483647) := ⟨_, rfl⟩
      rw [← q17_]
      have g18_ : gi F16_ := by rw [q17_]; exact gi_u (hgi) rfl (by omega) (by omega)
      have g19_ : fs [(334, 334, 0, 100000)] F F16_ := by rw [q17_]; exact fs_u (fs_refl) (fs_y (by omega))
      refine gr_v hm_141 rfl rfl ?_
      have e20_ : F16_ 334 w.toNat = 2147483647 := by rw [q17_]; exact fl_u_eq
      exact ⟨F16_, rfl, g18_, g19_, (sdu_of hgi (by have h9_ : 0 ≤ F 120 3 ∧ F 120 3 ≤ 41 := gi_g hgi rfl; omega) (by rw [show F 120 3 = k by omega]; exact hsd) (Eq.trans (e20_) (by first | rw [if_pos (by omega)] | rw [if_neg (by omega)]))), (fun i hi => (show F16_ 334 i = F 334 i from (by rw [q17_]; exact (fl_u_ne (by first | exact nc_ rfl | decide | omega)))))⟩
    refine ga_aload_n (v := .ref 331) hm_141 rfl rfl rfl ?_
    refine ga_getr (b := 120) hm_141 rfl sc_331 rfl ?_
    refine ga_getr (b := 122) hm_141 rfl sc_120 rfl ?_
    refine ga_iload (z := k) hm_141 rfl rfl ?_
    obtain ⟨a21_, r22_, n23_, q24_⟩ := ra_122 (k).toNat (by omega)
    refine fl_aald (z := k) (q := a21_) hm_141 rfl sc_122 (hG _ _ _ sc_122) rfl (by omega) (by simp only [List.length_cons, List.length_nil]; omega) (by simp only [List.length_cons, List.length_nil]; omega) r22_ ?_
    have b25_ : 0 ≤ F a21_ 2 ∧ F a21_ 2 ≤ 999 := gi_g hgi n23_.2.1.2.2.1
    refine ga_geti (z := F a21_ 2) hm_141 rfl n23_.1.1 rfl (rfl) ?_
    refine ga_istore (lv2 := [(5, .int (Int32.ofInt (F a21_ 2))), (4, .int (Int32.ofInt k)), (3, .int (Int32.ofInt hg)), (0, .ref 331), (1, .int (Int32.ofInt w)), (2, .int (Int32.ofInt pr))]) hm_141 rfl (Nat.le_of_ble_eq_true rfl) rfl ?_
    refine ga_iload (z := F a21_ 2) hm_141 rfl rfl ?_
    refine ga_iload_n (z := pr) hm_141 rfl rfl ?_
    refine fl_icmp_le (a := F a21_ 2) (b := pr) hm_141 rfl ⟨by omega, by omega⟩ ⟨by omega, by omega⟩ (fun h26_ => ?_) (fun h27_ => ?_)
    ·
      refine ga_inc (a := k) (c := k + 1) (lv2 := [(4, .int (Int32.ofInt (k + 1))), (5, .int (Int32.ofInt (F a21_ 2))), (3, .int (Int32.ofInt hg)), (0, .ref 331), (1, .int (Int32.ofInt w)), (2, .int (Int32.ofInt pr))]) hm_141 rfl rfl (Nat.le_of_ble_eq_true rfl) rfl rfl ?_
      refine fl_goto hm_141 rfl ?_
      exact fl_R_sub (lv' := [(4, .int (Int32.ofInt (k + 1))), (3, .int (Int32.ofInt hg)), (0, .ref 331), (1, .int (Int32.ofInt w)), (2, .int (Int32.ofInt pr))]) rfl rfl (ih3_ _ (by omega) (k + 1) (hg) rfl (⟨by omega, by omega, by omega⟩) (⟨by omega, by omega⟩) (sdp_n hsd (by omega) (by rw [show F (126 + 5 * k.toNat) 2 = F a21_ 2 from by rw [← q24_]]; omega) (by rw [show F (126 + 5 * k.toNat) 2 = F a21_ 2 from by rw [← q24_]]; omega)) (by omega))
    refine ga_iload (z := F a21_ 2) hm_141 rfl rfl ?_
    refine ga_iload_n (z := hg) hm_141 rfl rfl ?_
    refine fl_icmp_ge (a := F a21_ 2) (b := hg) hm_141 rfl ⟨by omega, by omega⟩ ⟨by omega, by omega⟩ (fun h28_ => ?_) (fun h29_ => ?_)
    ·
      refine ga_inc (a := k) (c := k + 1) (lv2 := [(4, .int (Int32.ofInt (k + 1))), (5, .int (Int32.ofInt (F a21_ 2))), (3, .int (Int32.ofInt hg)), (0, .ref 331), (1, .int (Int32.ofInt w)), (2, .int (Int32.ofInt pr))]) hm_141 rfl rfl (Nat.le_of_ble_eq_true rfl) rfl rfl ?_
      refine fl_goto hm_141 rfl ?_
      exact fl_R_sub (lv' := [(4, .int (Int32.ofInt (k + 1))), (3, .int (Int32.ofInt hg)), (0, .ref 331), (1, .int (Int32.ofInt w)), (2, .int (Int32.ofInt pr))]) rfl rfl (ih3_ _ (by omega) (k + 1) (hg) rfl (⟨by omega, by omega, by omega⟩) (⟨by omega, by omega⟩) (sdp_n hsd (by omega) (by rw [show F (126 + 5 * k.toNat) 2 = F a21_ 2 from by rw [← q24_]]; omega) (by rw [show F (126 + 5 * k.toNat) 2 = F a21_ 2 from by rw [← q24_]]; omega)) (by omega))
    refine ga_iload (z := F a21_ 2) hm_141 rfl rfl ?_
    refine ga_istore_n (lv2 := [(3, .int (Int32.ofInt (F a21_ 2))), (5, .int (Int32.ofInt (F a21_ 2))), (4, .int (Int32.ofInt k)), (0, .ref 331), (1, .int (Int32.ofInt w)), (2, .int (Int32.ofInt pr))]) hm_141 rfl (Nat.le_of_ble_eq_true rfl) rfl ?_
    refine ga_inc (a := k) (c := k + 1) (lv2 := [(4, .int (Int32.ofInt (k + 1))), (3, .int (Int32.ofInt (F a21_ 2))), (5, .int (Int32.ofInt (F a21_ 2))), (0, .ref 331), (1, .int (Int32.ofInt w)), (2, .int (Int32.ofInt pr))]) hm_141 rfl rfl (Nat.le_of_ble_eq_true rfl) rfl rfl ?_
    refine fl_goto hm_141 rfl ?_
    exact fl_R_sub (lv' := [(4, .int (Int32.ofInt (k + 1))), (3, .int (Int32.ofInt (F a21_ 2))), (0, .ref 331), (1, .int (Int32.ofInt w)), (2, .int (Int32.ofInt pr))]) rfl rfl (ih3_ _ (by omega) (k + 1) (F a21_ 2) rfl (⟨by omega, by omega, by omega⟩) (⟨by omega, by omega⟩) (by have h9_ := sdp_y hsd (by omega) (by rw [show F (126 + 5 * k.toNat) 2 = F a21_ 2 from by rw [← q24_]]; omega) (by rw [show F (126 + 5 * k.toNat) 2 = F a21_ 2 from by rw [← q24_]]; omega); rwa [show F (126 + 5 * k.toNat) 2 = F a21_ 2 from by rw [← q24_]] at h9_) (by omega))
  exact L2_ _ (0) (2147483647) rfl (⟨by omega, by omega, by omega⟩) (⟨by omega, by omega⟩) (sdp_0) (by omega)
/- CheapPlanner$Search.leastDue -/
abbrev pq_138v (G : Nat → Nat → Option Nat) (F : fl_N) (X : xi_H)  : Outcome → xi_H → Prop := gqi (fun z A => fl_H sh_T G F ++ X = A ∧ (-2147483648 ≤ z ∧ z ≤ 2147483647) ∧ (lsd F (F 331 8) z)) gqn
theorem mc_138v {G : Nat → Nat → Option Nat} (hG : gg G) (F : fl_N) (X : xi_H) (hgi : gi F)  : fl_M xi_ms 138 1 21 [.ref 331] (fl_H sh_T G F ++ X) (pq_138v G F X) := by
  intro fr lo hfr hlo
  show fl_R xi_ms 138 fr lo 0 [(0, .ref 331)] [] _ _
  refine ga_ldci (z := 2147483647) hm_138 rfl (by decide) ?_
  refine ga_istore_n (lv2 := [(1, .int (Int32.ofInt 2147483647)), (0, .ref 331)]) hm_138 rfl (Nat.le_of_ble_eq_true rfl) rfl ?_
  refine fl_iconst hm_138 rfl ?_
  refine ga_istore_n (lv2 := [(2, .int (Int32.ofInt 0)), (1, .int (Int32.ofInt 2147483647)), (0, .ref 331)]) hm_138 rfl (Nat.le_of_ble_eq_true rfl) rfl ?_
  have b4_ : 0 ≤ F 331 8 ∧ F 331 8 ≤ 200 := gi_g hgi rfl
  have L2_ : ∀ (n1_ : Nat) (k : Int) (le : Int), (F 331 8 - k : Int).toNat = n1_ → (0 ≤ k ∧ k ≤ 200 ∧ k ≤ F 331 8) → (-2147483648 ≤ le ∧ le ≤ 2147483647) → (lsd F k le) → fl_R xi_ms 138 fr lo 5 [(2, .int (Int32.ofInt k)), (1, .int (Int32.ofInt le)), (0, .ref 331)] [] (fl_H sh_T G F ++ X) (pq_138v G F X) := by
    intro n1_
    induction n1_ using Nat.strongRecOn with
    | ind n1_ ih3_ =>
    intro k le hn5_ hk hle hm
    refine ga_iload_n (z := k) hm_138 rfl rfl ?_
    refine ga_aload_n (v := .ref 331) hm_138 rfl rfl rfl ?_
    refine ga_geti (z := F 331 8) hm_138 rfl sc_331 rfl (rfl) ?_
    refine fl_icmp_ge (a := k) (b := F 331 8) hm_138 rfl ⟨by omega, by omega⟩ ⟨by omega, by omega⟩ (fun h6_ => ?_) (fun h7_ => ?_)
    ·
      refine ga_iload_n (z := le) hm_138 rfl rfl ?_
      refine gr_i (z := le) hm_138 rfl rfl rfl ?_
      exact ⟨rfl, (⟨by omega, by omega⟩), (⟨fun i hi => hm.1 i (by omega), by rcases hm.2 with h9_ | ⟨i, h8_, h9_⟩; exact Or.inl h9_; exact Or.inr ⟨i, by omega, h9_⟩⟩)⟩
    refine ga_iload_n (z := le) hm_138 rfl rfl ?_
    refine ga_aload_n (v := .ref 331) hm_138 rfl rfl rfl ?_
    refine ga_getr (b := 334) hm_138 rfl sc_331 rfl ?_
    refine ga_iload_n (z := k) hm_138 rfl rfl ?_
    have b8_ : -2147483648 ≤ F 334 k.toNat ∧ F 334 k.toNat ≤ 2147483647 := gi_g hgi rfl
    refine ga_iald (z := k) (w := F 334 k.toNat) hm_138 rfl sc_334 (by omega) (by omega) (by omega) (rfl) ?_
    refine gJi (nY := 2) (F := 0) (L := 0) (As := [.int (Int32.ofInt le), .int (Int32.ofInt (F 334 k.toNat))]) (rest := []) hm_138 rfl hm_196 rfl rfl (fl_pos sc_0) rfl rfl rfl rfl (by omega) (by omega) ?_
    intro f9_ l10_ h11_ h12_
    show fl_R xi_ms 196 f9_ l10_ 0 [(0, .int (Int32.ofInt le)), (1, .int (Int32.ofInt (F 334 k.toNat)))] [] _ _
    refine ga_iload_n (z := le) hm_196 rfl rfl ?_
    refine ga_iload_n (z := F 334 k.toNat) hm_196 rfl rfl ?_
    refine fl_icmp_gt (a := le) (b := F 334 k.toNat) hm_196 rfl ⟨by omega, by omega⟩ ⟨by omega, by omega⟩ (fun h13_ => ?_) (fun h14_ => ?_)
    ·
      refine ga_iload_n (z := F 334 k.toNat) hm_196 rfl rfl ?_
      refine gr_i hm_196 rfl rfl rfl ?_
      clear h11_ h12_ f9_ l10_
      refine ga_istore_n (lv2 := [(1, .int (Int32.ofInt (F 334 k.toNat))), (2, .int (Int32.ofInt k)), (0, .ref 331)]) hm_138 rfl (Nat.le_of_ble_eq_true rfl) rfl ?_
      refine ga_inc (a := k) (c := k + 1) (lv2 := [(2, .int (Int32.ofInt (k + 1))), (1, .int (Int32.ofInt (F 334 k.toNat))), (0, .ref 331)]) hm_138 rfl rfl (Nat.le_of_ble_eq_true rfl) rfl rfl ?_
      refine fl_goto hm_138 rfl ?_
      exact ih3_ _ (by omega) (k + 1) (F 334 k.toNat) rfl (⟨by omega, by omega, by omega⟩) (⟨by omega, by omega⟩) (⟨fun i hi => by by_cases e_ : (i : Int) < k; have h9_ := hm.1 i e_; omega; rw [show i = k.toNat by omega]; omega, Or.inr ⟨k.toNat, by omega, rfl⟩⟩)
    refine ga_iload_n (z := le) hm_196 rfl rfl ?_
    refine fl_goto hm_196 rfl ?_
    refine gr_i hm_196 rfl rfl rfl ?_
    clear h11_ h12_ f9_ l10_
    refine ga_istore_n (lv2 := [(1, .int (Int32.ofInt le)), (2, .int (Int32.ofInt k)), (0, .ref 331)]) hm_138 rfl (Nat.le_of_ble_eq_true rfl) rfl ?_
    refine ga_inc (a := k) (c := k + 1) (lv2 := [(2, .int (Int32.ofInt (k + 1))), (1, .int (Int32.ofInt le)), (0, .ref 331)]) hm_138 rfl rfl (Nat.le_of_ble_eq_true rfl) rfl rfl ?_
    refine fl_goto hm_138 rfl ?_
    exact ih3_ _ (by omega) (k + 1) (le) rfl (⟨by omega, by omega, by omega⟩) (⟨by omega, by omega⟩) (⟨fun i hi => by by_cases e_ : (i : Int) < k; have h9_ := hm.1 i e_; omega; rw [show i = k.toNat by omega]; omega, by rcases hm.2 with h9_ | ⟨i, h8_, h9_⟩; exact Or.inl h9_; exact Or.inr ⟨i, by omega, h9_⟩⟩)
  exact L2_ _ (0) (2147483647) rfl (⟨by omega, by omega, by omega⟩) (⟨by omega, by omega⟩) (⟨fun i hi => absurd hi (by omega), Or.inl rfl⟩)
/- CheapPlanner$Search.add -/
abbrev pq_129v (G : Nat → Nat → Option Nat) (F : fl_N) (X : xi_H) (sl st co : Int) (T : tb_T) : Outcome → xi_H → Prop := gqv (fun A => ∃ F' : fl_N, fl_H sh_T G F' ++ X = A ∧ gi F' ∧ fs [(331, 331, 8, 8), (332, 336, 0, 100000), (338, 338, 0, 100000)] F F' ∧ (F' 331 8 = F 331 8 + 1) ∧ ((F 331 8 = 0 ∧ F' 335 (F 331 8).toNat = 0) ∨ (0 < F 331 8 ∧ F' 335 (F 331 8).toNat = 2147483647)) ∧ (∀ i : Nat, i ≠ (F 331 8).toNat → F' 335 i = F 335 i) ∧ (tS F' (T ++ [(st, co)])) ∧ (sdu F co 0 (F' 334 T.length)) ∧ (∀ i : Nat, ¬ i = T.length → F' 334 i = F 334 i)) gqn
theorem mc_129v {G : Nat → Nat → Option Nat} (hG : gg G) (F : fl_N) (X : xi_H) (hgi : gi F) (sl st co : Int) (T : tb_T) (hs : 0 ≤ sl ∧ sl ≤ 511) (hst : -9223372036854775808 ≤ st ∧ st ≤ 9223372036854775807) (hco : -2147483648 ≤ co ∧ co ≤ 2147483647) (h8 : F 331 8 ≤ 199) (hT : tS F T) (hsz : slz hshC (F 332) (F 338) st sl.toNat) (hno : has T st = false) (hcb : 0 ≤ co ∧ co ≤ 1000000) : fl_M xi_ms 129 1 25 [.ref 331, .int (Int32.ofInt sl), .long (Int64.ofInt st), .int (Int32.ofInt co)] (fl_H sh_T G F ++ X) (pq_129v G F X sl st co T) := by
  intro fr lo hfr hlo
  show fl_R xi_ms 129 fr lo 0 [(0, .ref 331), (1, .int (Int32.ofInt sl)), (2, .long (Int64.ofInt st)), (4, .int (Int32.ofInt co))] [] _ _
  have hT1 := hT.1
  have hTl : T.length = (F 331 8).toNat := by omega
  refine ga_aload_n (v := .ref 331) hm_129 rfl rfl rfl ?_
  refine ga_getr (b := 332) hm_129 rfl sc_331 rfl ?_
  refine ga_aload_n (v := .ref 331) hm_129 rfl rfl rfl ?_
  have b1_ : 0 ≤ F 331 8 ∧ F 331 8 ≤ 200 := gi_g hgi rfl
  refine ga_geti (z := F 331 8) hm_129 rfl sc_331 rfl (rfl) ?_
  refine ga_lload_n (z := st) hm_129 rfl rfl ?_
  refine fl_last (z := F 331 8) (v := st) hm_129 rfl sc_332 (by omega) (by omega) (by omega) ?_
  refine ga_aload_n (v := .ref 331) hm_129 rfl rfl rfl ?_
  refine ga_getr (b := 333) hm_129 rfl sc_331 rfl ?_
  refine ga_aload_n (v := .ref 331) hm_129 rfl rfl rfl ?_
  refine ga_geti (z := F 331 8) hm_129 rfl sc_331 rfl (fl_u_ne (by first | exact nc_ rfl | decide | omega)) ?_
  refine ga_iload (z := co) hm_129 rfl rfl ?_
  refine fl_iast (z := F 331 8) (v := co) hm_129 rfl sc_333 (by omega) (by omega) (by omega) ?_
  refine ga_aload_n (v := .ref 331) hm_129 rfl rfl rfl ?_
  refine ga_getr (b := 335) hm_129 rfl sc_331 rfl ?_
  refine ga_aload_n (v := .ref 331) hm_129 rfl rfl rfl ?_
  refine ga_geti (z := F 331 8) hm_129 rfl sc_331 rfl ((fl_u_ne (by first | exact nc_ rfl | decide | omega)).trans (fl_u_ne (by first | exact nc_ rfl | decide | omega))) ?_
  refine ga_aload_n (v := .ref 331) hm_129 rfl rfl rfl ?_
  refine ga_geti (z := F 331 8) hm_129 rfl sc_331 rfl ((fl_u_ne (by first | exact nc_ rfl | decide | omega)).trans (fl_u_ne (by first | exact nc_ rfl | decide | omega))) ?_
  refine fx_if_ne (a := F 331 8) hm_129 rfl ⟨by omega, by omega⟩ (fun h2_ => ?_) (fun h3_ => ?_)
  ·
    refine ga_ldci (z := 2147483647) hm_129 rfl (by decide) ?_
    refine fl_iast (z := F 331 8) (v := 2147483647) hm_129 rfl sc_335 (by omega) (by omega) (by omega) ?_
    refine ga_aload_n (v := .ref 331) hm_129 rfl rfl rfl ?_
    refine ga_getr (b := 336) hm_129 rfl sc_331 rfl ?_
    refine ga_aload_n (v := .ref 331) hm_129 rfl rfl rfl ?_
    refine ga_geti (z := F 331 8) hm_129 rfl sc_331 rfl ((fl_u_ne (by first | exact nc_ rfl | decide | omega)).trans ((fl_u_ne (by first | exact nc_ rfl | decide | omega)).trans (fl_u_ne (by first | exact nc_ rfl | decide | omega)))) ?_
    refine fl_iconst hm_129 rfl ?_
    refine fl_iast (z := F 331 8) (v := 0) hm_129 rfl sc_336 (by omega) (by omega) (by omega) ?_
    refine ga_aload_n (v := .ref 331) hm_129 rfl rfl rfl ?_
    refine ga_aload_n (v := .ref 331) hm_129 rfl rfl rfl ?_
    refine ga_geti (z := F 331 8) hm_129 rfl sc_331 rfl ((fl_u_ne (by first | exact nc_ rfl | decide | omega)).trans ((fl_u_ne (by first | exact nc_ rfl | decide | omega)).trans ((fl_u_ne (by first | exact nc_ rfl | decide | omega)).trans (fl_u_ne (by first | exact nc_ rfl | decide | omega))))) ?_
    refine fl_iconst hm_129 rfl ?_
    obtain ⟨F4_, q5_⟩ : ∃ Fq_, Fq_ = (fl_u (fl_u (fl_u (fl_u F 332 (F 331 8).toNat st) 333 (F 331 8).toNat co) 335 (F 331 8).toNat 2147483647) 336 (F 331 8).toNat 0) := ⟨_, rfl⟩
    rw [← q5_]
    have g6_ : gi F4_ := by rw [q5_]; exact gi_u (gi_u (gi_u (gi_u (hgi) rfl (by omega) (by omega)) rfl (by omega) (by omega)) rfl (by omega) (by omega)) rfl (by omega) (by omega)
    have g7_ : fs [(331, 331, 8, 8), (332, 336, 0, 100000), (338, 338, 0, 100000)] F F4_ := by rw [q5_]; exact fs_u (fs_u (fs_u (fs_u (fs_refl) (fs_z (fs_y (by omega)))) (fs_z (fs_y (by omega)))) (fs_z (fs_y (by omega)))) (fs_z (fs_y (by omega)))
    have e8_ : F4_ 333 (F 331 8).toNat = co := by rw [q5_]; exact (fl_u_ne (by first | exact nc_ rfl | decide | omega)).trans ((fl_u_ne (by first | exact nc_ rfl | decide | omega)).trans (fl_u_eq))
    refine gVv (nY := 6) (F := 0) (L := 0) (As := [.int (Int32.ofInt (F 331 8)), .int (Int32.ofInt 0)]) (b := 331) (rest := []) hm_129 rfl hm_141 rfl rfl (fl_ob sc_331) rfl rfl rfl rfl rfl (by omega) (by omega) (mc_141v hG F4_ X g6_ (F 331 8) (0) (⟨by omega, by omega⟩) (⟨by omega, by omega⟩) (⟨by omega, by omega⟩)) (fun _ _ h => False.elim h) ?_
    rintro A1_ ⟨F12_, hA_, g13_, s14_, c10_, c11_⟩
    subst hA_
    have g15_ : fs [(331, 331, 8, 8), (332, 336, 0, 100000), (338, 338, 0, 100000)] F F12_ := fs_tr g7_ s14_ rfl
    refine ga_aload_n (v := .ref 331) hm_129 rfl rfl rfl ?_
    refine ga_getr (b := 338) hm_129 rfl sc_331 rfl ?_
    refine ga_iload_n (z := sl) hm_129 rfl rfl ?_
    refine ga_aload_n (v := .ref 331) hm_129 rfl rfl rfl ?_
    have e16_ : F4_ 331 8 = F 331 8 := by rw [q5_]; exact (fl_u_ne (by first | exact nc_ rfl | decide | omega)).trans ((fl_u_ne (by first | exact nc_ rfl | decide | omega)).trans ((fl_u_ne (by first | exact nc_ rfl | decide | omega)).trans (fl_u_ne (by first | exact nc_ rfl | decide | omega))))
    have e17_ : F12_ 331 8 = F 331 8 := (s14_ 331 8 rfl).trans (e16_)
    refine ga_geti (z := F 331 8) hm_129 rfl sc_331 rfl (e17_) ?_
    refine fl_iconst hm_129 rfl ?_
    refine ga_iadd (a := F 331 8) (b := 1) (c := F 331 8 + 1) hm_129 rfl (by omega) ?_
    refine fl_iast (z := sl) (v := F 331 8 + 1) hm_129 rfl sc_338 (by omega) (by omega) (by omega) ?_
    refine ga_aload_n (v := .ref 331) hm_129 rfl rfl rfl ?_
    refine ga_dup hm_129 rfl rfl ?_
    refine ga_geti (z := F 331 8) hm_129 rfl sc_331 rfl ((fl_u_ne (by first | exact nc_ rfl | decide | omega)).trans (e17_)) ?_
    refine fl_iconst hm_129 rfl ?_
    refine ga_iadd (a := F 331 8) (b := 1) (c := F 331 8 + 1) hm_129 rfl (by omega) ?_
    refine ga_puti (z := F 331 8 + 1) hm_129 rfl sc_331 rfl rfl ?_
    obtain ⟨F18_, q19_⟩ : ∃ Fq_, Fq_ = (fl_u (fl_u F12_ 338 sl.toNat (F 331 8 + 1)) 331 8 (F 331 8 + 1)) := ⟨_, rfl⟩
    rw [← q19_]
    have g20_ : gi F18_ := by rw [q19_]; exact gi_u (gi_u (g13_) rfl (by omega) (by omega)) rfl (by omega) (by omega)
    have g21_ : fs [(331, 331, 8, 8), (332, 336, 0, 100000), (338, 338, 0, 100000)] F F18_ := by rw [q19_]; exact fs_u (fs_u (g15_) (fs_z (fs_z (fs_y (by omega))))) rfl
    refine gr_v hm_129 rfl rfl ?_
    have e22_ : F18_ 331 8 = F 331 8 + 1 := by rw [q19_]; exact fl_u_eq
    have e23_ : F4_ 335 (F 331 8).toNat = 2147483647 := by rw [q5_]; exact (fl_u_ne (by first | exact nc_ rfl | decide | omega)).trans (fl_u_eq)
    have e24_ : F12_ 335 (F 331 8).toNat = 2147483647 := (s14_ 335 (F 331 8).toNat (by first | exact fs_c rfl | exact (fs_n (by omega) rfl))).trans (e23_)
    have e25_ : F18_ 335 (F 331 8).toNat = 2147483647 := by rw [q19_]; exact (fl_u_ne (by first | exact nc_ rfl | decide | omega)).trans ((fl_u_ne (by first | exact nc_ rfl | decide | omega)).trans (e24_))
    have e26_ : F4_ 332 (F 331 8).toNat = st := by rw [q5_]; exact (fl_u_ne (by first | exact nc_ rfl | decide | omega)).trans ((fl_u_ne (by first | exact nc_ rfl | decide | omega)).trans ((fl_u_ne (by first | exact nc_ rfl | decide | omega)).trans (fl_u_eq)))
    have e27_ : F12_ 332 (F 331 8).toNat = st := (s14_ 332 (F 331 8).toNat (by first | exact fs_c rfl | exact (fs_n (by omega) rfl))).trans (e26_)
    have e28_ : F18_ 332 (F 331 8).toNat = st := by rw [q19_]; exact (fl_u_ne (by first | exact nc_ rfl | decide | omega)).trans ((fl_u_ne (by first | exact nc_ rfl | decide | omega)).trans (e27_))
    have e29_ : F12_ 333 (F 331 8).toNat = co := (s14_ 333 (F 331 8).toNat (by first | exact fs_c rfl | exact (fs_n (by omega) rfl))).trans (e8_)
    have e30_ : F18_ 333 (F 331 8).toNat = co := by rw [q19_]; exact (fl_u_ne (by first | exact nc_ rfl | decide | omega)).trans ((fl_u_ne (by first | exact nc_ rfl | decide | omega)).trans (e29_))
    have e31_ : F18_ 338 sl.toNat = F 331 8 + 1 := by rw [q19_]; exact (fl_u_ne (by first | exact nc_ rfl | decide | omega)).trans (fl_u_eq)
    exact ⟨F18_, rfl, g20_, g21_, (by omega), (by omega), (fun i hi => (Eq.trans (a := F18_ 335 i) (b := F12_ 335 i) (by rw [q19_]; exact (fl_u_ne (by first | exact nc_ rfl | decide | omega)).trans ((fl_u_ne (by first | exact nc_ rfl | decide | omega)))) (Eq.trans (a := F12_ 335 i) (b := F4_ 335 i) (s14_ 335 i (by first | exact fs_c rfl | exact (fs_n (by omega) rfl))) (show F4_ 335 i = F 335 i from (by rw [q5_]; exact (fl_u_ne (by first | exact nc_ rfl | decide | omega)).trans ((fl_u_ne (by first | exact nc_ rfl | decide | omega)).trans ((fl_u_ne (by first | exact nc_ rfl | decide | omega)).trans ((fl_u_ne (by first | exact nc_ rfl | decide | omega)))))))))), (ts_add hT hsz hno (e22_) (fun i hi => (Eq.trans (a := F18_ 332 i) (b := F12_ 332 i) (by rw [q19_]; exact (fl_u_ne (by first | exact nc_ rfl | decide | omega)).trans ((fl_u_ne (by first | exact nc_ rfl | decide | omega)))) (Eq.trans (a := F12_ 332 i) (b := F4_ 332 i) (s14_ 332 i (by first | exact fs_c rfl | exact (fs_n (by omega) rfl))) (show F4_ 332 i = F 332 i from (by rw [q5_]; exact (fl_u_ne (by first | exact nc_ rfl | decide | omega)).trans ((fl_u_ne (by first | exact nc_ rfl | decide | omega)).trans ((fl_u_ne (by first | exact nc_ rfl | decide | omega)).trans ((fl_u_ne (by first | exact nc_ rfl | decide | omega)))))))))) (by rw [hTl]; exact e28_) (Eq.trans (e31_) (by omega)) (fun j hj => (Eq.trans (a := F18_ 338 j) (b := F12_ 338 j) (by rw [q19_]; exact (fl_u_ne (by first | exact nc_ rfl | decide | omega)).trans ((fl_u_ne (by first | exact nc_ rfl | decide | omega)))) (Eq.trans (a := F12_ 338 j) (b := F4_ 338 j) (s14_ 338 j (by first | exact fs_c rfl | exact (fs_n (by omega) rfl))) (show F4_ 338 j = F 338 j from (by rw [q5_]; exact (fl_u_ne (by first | exact nc_ rfl | decide | omega)).trans ((fl_u_ne (by first | exact nc_ rfl | decide | omega)).trans ((fl_u_ne (by first | exact nc_ rfl | decide | omega)).trans ((fl_u_ne (by first | exact nc_ rfl | decide | omega)))))))))) (fun i hi => (Eq.trans (a := F18_ 333 i) (b := F12_ 333 i) (by rw [q19_]; exact (fl_u_ne (by first | exact nc_ rfl | decide | omega)).trans ((fl_u_ne (by first | exact nc_ rfl | decide | omega)))) (Eq.trans (a := F12_ 333 i) (b := F4_ 333 i) (s14_ 333 i (by first | exact fs_c rfl | exact (fs_n (by omega) rfl))) (show F4_ 333 i = F 333 i from (by rw [q5_]; exact (fl_u_ne (by first | exact nc_ rfl | decide | omega)).trans ((fl_u_ne (by first | exact nc_ rfl | decide | omega)).trans ((fl_u_ne (by first | exact nc_ rfl | decide | omega)).trans ((fl_u_ne (by first | exact nc_ rfl | decide | omega)))))))))) (by rw [hTl]; exact e30_)), (by rw [hTl]; have h9_ := c10_; (try rw [show F4_ 333 (F 331 8).toNat = co from e8_] at h9_); rw [show F18_ 334 (F 331 8).toNat = F12_ 334 (F 331 8).toNat from (show F18_ 334 (F 331 8).toNat = F12_ 334 (F 331 8).toNat from (by rw [q19_]; exact (fl_u_ne (by first | exact nc_ rfl | decide | omega)).trans ((fl_u_ne (by first | exact nc_ rfl | decide | omega)))))]; exact sdu_cg (by have h8_ : 0 ≤ F 120 3 ∧ F 120 3 ≤ 41 := gi_g hgi rfl; omega) h9_ (fun r k hr => (show F4_ (r) k = F (r) k from (by rw [q5_]; exact (fl_u_ne (by first | exact nc_ rfl | decide | omega)).trans ((fl_u_ne (by first | exact nc_ rfl | decide | omega)).trans ((fl_u_ne (by first | exact nc_ rfl | decide | omega)).trans ((fl_u_ne (by first | exact nc_ rfl | decide | omega))))))))), (fun i hi => Eq.trans ((show F18_ 334 i = F12_ 334 i from (by rw [q19_]; exact (fl_u_ne (by first | exact nc_ rfl | decide | omega)).trans ((fl_u_ne (by first | exact nc_ rfl | decide | omega)))))) (Eq.trans (c11_ i (by omega)) ((show F4_ 334 i = F 334 i from (by rw [q5_]; exact (fl_u_ne (by first | exact nc_ rfl | decide | omega)).trans ((fl_u_ne (by first | exact nc_ rfl | decide | omega)).trans ((fl_u_ne (by first | exact nc_ rfl | decide | omega)).trans ((fl_u_ne (by first | exact nc_ rfl | decide | omega))))))))))⟩
  refine fl_iconst hm_129 rfl ?_
  refine fl_goto hm_129 rfl ?_
  refine fl_iast (z := F 331 8) (v := 0) hm_129 rfl sc_335 (by omega) (by omega) (by omega) ?_
  refine ga_aload_n (v := .ref 331) hm_129 rfl rfl rfl ?_
  refine ga_getr (b := 336) hm_129 rfl sc_331 rfl ?_
  refine ga_aload_n (v := .ref 331) hm_129 rfl rfl rfl ?_
  refine ga_geti (z := F 331 8) hm_129 rfl sc_331 rfl ((fl_u_ne (by first | exact nc_ rfl | decide | omega)).trans ((fl_u_ne (by first | exact nc_ rfl | decide | omega)).trans (fl_u_ne (by first | exact nc_ rfl | decide | omega)))) ?_
  refine fl_iconst hm_129 rfl ?_
  refine fl_iast (z := F 331 8) (v := 0) hm_129 rfl sc_336 (by omega) (by omega) (by omega) ?_
  refine ga_aload_n (v := .ref 331) hm_129 rfl rfl rfl ?_
  refine ga_aload_n (v := .ref 331) hm_129 rfl rfl rfl ?_
  refine ga_geti (z := F 331 8) hm_129 rfl sc_331 rfl ((fl_u_ne (by first | exact nc_ rfl | decide | omega)).trans ((fl_u_ne (by first | exact nc_ rfl | decide | omega)).trans ((fl_u_ne (by first | exact nc_ rfl | decide | omega)).trans (fl_u_ne (by first | exact nc_ rfl | decide | omega))))) ?_
  refine fl_iconst hm_129 rfl ?_
  obtain ⟨F32_, q33_⟩ : ∃ Fq_, Fq_ = (fl_u (fl_u (fl_u (fl_u F 332 (F 331 8).toNat st) 333 (F 331 8).toNat co) 335 (F 331 8).toNat 0) 336 (F 331 8).toNat 0) := ⟨_, rfl⟩
  rw [← q33_]
  have g34_ : gi F32_ := by rw [q33_]; exact gi_u (gi_u (gi_u (gi_u (hgi) rfl (by omega) (by omega)) rfl (by omega) (by omega)) rfl (by omega) (by omega)) rfl (by omega) (by omega)
  have g35_ : fs [(331, 331, 8, 8), (332, 336, 0, 100000), (338, 338, 0, 100000)] F F32_ := by rw [q33_]; exact fs_u (fs_u (fs_u (fs_u (fs_refl) (fs_z (fs_y (by omega)))) (fs_z (fs_y (by omega)))) (fs_z (fs_y (by omega)))) (fs_z (fs_y (by omega)))
  have e36_ : F32_ 333 (F 331 8).toNat = co := by rw [q33_]; exact (fl_u_ne (by first | exact nc_ rfl | decide | omega)).trans ((fl_u_ne (by first | exact nc_ rfl | decide | omega)).trans (fl_u_eq))
  refine gVv (nY := 6) (F := 0) (L := 0) (As := [.int (Int32.ofInt (F 331 8)), .int (Int32.ofInt 0)]) (b := 331) (rest := []) hm_129 rfl hm_141 rfl rfl (fl_ob sc_331) rfl rfl rfl rfl rfl (by omega) (by omega) (mc_141v hG F32_ X g34_ (F 331 8) (0) (⟨by omega, by omega⟩) (⟨by omega, by omega⟩) (⟨by omega, by omega⟩)) (fun _ _ h => False.elim h) ?_
  rintro A1_ ⟨F40_, hA_, g41_, s42_, c38_, c39_⟩
  subst hA_
  have g43_ : fs [(331, 331, 8, 8), (332, 336, 0, 100000), (338, 338, 0, 100000)] F F40_ := fs_tr g35_ s42_ rfl
  refine ga_aload_n (v := .ref 331) hm_129 rfl rfl rfl ?_
  refine ga_getr (b := 338) hm_129 rfl sc_331 rfl ?_
  refine ga_iload_n (z := sl) hm_129 rfl rfl ?_
  refine ga_aload_n (v := .ref 331) hm_129 rfl rfl rfl ?_
  have e44_ : F32_ 331 8 = F 331 8 := by rw [q33_]; exact (fl_u_ne (by first | exact nc_ rfl | decide | omega)).trans ((fl_u_ne (by first | exact nc_ rfl | decide | omega)).trans ((fl_u_ne (by first | exact nc_ rfl | decide | omega)).trans (fl_u_ne (by first | exact nc_ rfl | decide | omega))))
  have e45_ : F40_ 331 8 = F 331 8 := (s42_ 331 8 rfl).trans (e44_)
  refine ga_geti (z := F 331 8) hm_129 rfl sc_331 rfl (e45_) ?_
  refine fl_iconst hm_129 rfl ?_
  refine ga_iadd (a := F 331 8) (b := 1) (c := F 331 8 + 1) hm_129 rfl (by omega) ?_
  refine fl_iast (z := sl) (v := F 331 8 + 1) hm_129 rfl sc_338 (by omega) (by omega) (by omega) ?_
  refine ga_aload_n (v := .ref 331) hm_129 rfl rfl rfl ?_
  refine ga_dup hm_129 rfl rfl ?_
  refine ga_geti (z := F 331 8) hm_129 rfl sc_331 rfl ((fl_u_ne (by first | exact nc_ rfl | decide | omega)).trans (e45_)) ?_
  refine fl_iconst hm_129 rfl ?_
  refine ga_iadd (a := F 331 8) (b := 1) (c := F 331 8 + 1) hm_129 rfl (by omega) ?_
  refine ga_puti (z := F 331 8 + 1) hm_129 rfl sc_331 rfl rfl ?_
  obtain ⟨F46_, q47_⟩ : ∃ Fq_, Fq_ = (fl_u (fl_u F40_ 338 sl.toNat (F 331 8 + 1)) 331 8 (F 331 8 + 1)) := ⟨_, rfl⟩
  rw [← q47_]
  have g48_ : gi F46_ := by rw [q47_]; exact gi_u (gi_u (g41_) rfl (by omega) (by omega)) rfl (by omega) (by omega)
  have g49_ : fs [(331, 331, 8, 8), (332, 336, 0, 100000), (338, 338, 0, 100000)] F F46_ := by rw [q47_]; exact fs_u (fs_u (g43_) (fs_z (fs_z (fs_y (by omega))))) rfl
  refine gr_v hm_129 rfl rfl ?_
  have e50_ : F46_ 331 8 = F 331 8 + 1 := by rw [q47_]; exact fl_u_eq
  have e51_ : F32_ 335 (F 331 8).toNat = 0 := by rw [q33_]; exact (fl_u_ne (by first | exact nc_ rfl | decide | omega)).trans (fl_u_eq)
  have e52_ : F40_ 335 (F 331 8).toNat = 0 := (s42_ 335 (F 331 8).toNat (by first | exact fs_c rfl | exact (fs_n (by omega) rfl))).trans (e51_)
  have e53_ : F46_ 335 (F 331 8).toNat = 0 := by rw [q47_]; exact (fl_u_ne (by first | exact nc_ rfl | decide | omega)).trans ((fl_u_ne (by first | exact nc_ rfl | decide | omega)).trans (e52_))
  have e54_ : F32_ 332 (F 331 8).toNat = st := by rw [q33_]; exact (fl_u_ne (by first | exact nc_ rfl | decide | omega)).trans ((fl_u_ne (by first | exact nc_ rfl | decide | omega)).trans ((fl_u_ne (by first | exact nc_ rfl | decide | omega)).trans (fl_u_eq)))
  have e55_ : F40_ 332 (F 331 8).toNat = st := (s42_ 332 (F 331 8).toNat (by first | exact fs_c rfl | exact (fs_n (by omega) rfl))).trans (e54_)
  have e56_ : F46_ 332 (F 331 8).toNat = st := by rw [q47_]; exact (fl_u_ne (by first | exact nc_ rfl | decide | omega)).trans ((fl_u_ne (by first | exact nc_ rfl | decide | omega)).trans (e55_))
  have e57_ : F40_ 333 (F 331 8).toNat = co := (s42_ 333 (F 331 8).toNat (by first | exact fs_c rfl | exact (fs_n (by omega) rfl))).trans (e36_)
  have e58_ : F46_ 333 (F 331 8).toNat = co := by rw [q47_]; exact (fl_u_ne (by first | exact nc_ rfl | decide | omega)).trans ((fl_u_ne (by first | exact nc_ rfl | decide | omega)).trans (e57_))
  have e59_ : F46_ 338 sl.toNat = F 331 8 + 1 := by rw [q47_]; exact (fl_u_ne (by first | exact nc_ rfl | decide | omega)).trans (fl_u_eq)
  exact ⟨F46_, rfl, g48_, g49_, (by omega), (by omega), (fun i hi => (Eq.trans (a := F46_ 335 i) (b := F40_ 335 i) (by rw [q47_]; exact (fl_u_ne (by first | exact nc_ rfl | decide | omega)).trans ((fl_u_ne (by first | exact nc_ rfl | decide | omega)))) (Eq.trans (a := F40_ 335 i) (b := F32_ 335 i) (s42_ 335 i (by first | exact fs_c rfl | exact (fs_n (by omega) rfl))) (show F32_ 335 i = F 335 i from (by rw [q33_]; exact (fl_u_ne (by first | exact nc_ rfl | decide | omega)).trans ((fl_u_ne (by first | exact nc_ rfl | decide | omega)).trans ((fl_u_ne (by first | exact nc_ rfl | decide | omega)).trans ((fl_u_ne (by first | exact nc_ rfl | decide | omega)))))))))), (ts_add hT hsz hno (e50_) (fun i hi => (Eq.trans (a := F46_ 332 i) (b := F40_ 332 i) (by rw [q47_]; exact (fl_u_ne (by first | exact nc_ rfl | decide | omega)).trans ((fl_u_ne (by first | exact nc_ rfl | decide | omega)))) (Eq.trans (a := F40_ 332 i) (b := F32_ 332 i) (s42_ 332 i (by first | exact fs_c rfl | exact (fs_n (by omega) rfl))) (show F32_ 332 i = F 332 i from (by rw [q33_]; exact (fl_u_ne (by first | exact nc_ rfl | decide | omega)).trans ((fl_u_ne (by first | exact nc_ rfl | decide | omega)).trans ((fl_u_ne (by first | exact nc_ rfl | decide | omega)).trans ((fl_u_ne (by first | exact nc_ rfl | decide | omega)))))))))) (by rw [hTl]; exact e56_) (Eq.trans (e59_) (by omega)) (fun j hj => (Eq.trans (a := F46_ 338 j) (b := F40_ 338 j) (by rw [q47_]; exact (fl_u_ne (by first | exact nc_ rfl | decide | omega)).trans ((fl_u_ne (by first | exact nc_ rfl | decide | omega)))) (Eq.trans (a := F40_ 338 j) (b := F32_ 338 j) (s42_ 338 j (by first | exact fs_c rfl | exact (fs_n (by omega) rfl))) (show F32_ 338 j = F 338 j from (by rw [q33_]; exact (fl_u_ne (by first | exact nc_ rfl | decide | omega)).trans ((fl_u_ne (by first | exact nc_ rfl | decide | omega)).trans ((fl_u_ne (by first | exact nc_ rfl | decide | omega)).trans ((fl_u_ne (by first | exact nc_ rfl | decide | omega)))))))))) (fun i hi => (Eq.trans (a := F46_ 333 i) (b := F40_ 333 i) (by rw [q47_]; exact (fl_u_ne (by first | exact nc_ rfl | decide | omega)).trans ((fl_u_ne (by first | exact nc_ rfl | decide | omega)))) (Eq.trans (a := F40_ 333 i) (b := F32_ 333 i) (s42_ 333 i (by first | exact fs_c rfl | exact (fs_n (by omega) rfl))) (show F32_ 333 i = F 333 i from (by rw [q33_]; exact (fl_u_ne (by first | exact nc_ rfl | decide | omega)).trans ((fl_u_ne (by first | exact nc_ rfl | decide | omega)).trans ((fl_u_ne (by first | exact nc_ rfl | decide | omega)).trans ((fl_u_ne (by first | exact nc_ rfl | decide | omega)))))))))) (by rw [hTl]; exact e58_)), (by rw [hTl]; have h9_ := c38_; (try rw [show F32_ 333 (F 331 8).toNat = co from e36_] at h9_); rw [show F46_ 334 (F 331 8).toNat = F40_ 334 (F 331 8).toNat from (show F46_ 334 (F 331 8).toNat = F40_ 334 (F 331 8).toNat from (by rw [q47_]; exact (fl_u_ne (by first | exact nc_ rfl | decide | omega)).trans ((fl_u_ne (by first | exact nc_ rfl | decide | omega)))))]; exact sdu_cg (by have h8_ : 0 ≤ F 120 3 ∧ F 120 3 ≤ 41 := gi_g hgi rfl; omega) h9_ (fun r k hr => (show F32_ (r) k = F (r) k from (by rw [q33_]; exact (fl_u_ne (by first | exact nc_ rfl | decide | omega)).trans ((fl_u_ne (by first | exact nc_ rfl | decide | omega)).trans ((fl_u_ne (by first | exact nc_ rfl | decide | omega)).trans ((fl_u_ne (by first | exact nc_ rfl | decide | omega))))))))), (fun i hi => Eq.trans ((show F46_ 334 i = F40_ 334 i from (by rw [q47_]; exact (fl_u_ne (by first | exact nc_ rfl | decide | omega)).trans ((fl_u_ne (by first | exact nc_ rfl | decide | omega)))))) (Eq.trans (c39_ i (by omega)) ((show F32_ 334 i = F 334 i from (by rw [q33_]; exact (fl_u_ne (by first | exact nc_ rfl | decide | omega)).trans ((fl_u_ne (by first | exact nc_ rfl | decide | omega)).trans ((fl_u_ne (by first | exact nc_ rfl | decide | omega)).trans ((fl_u_ne (by first | exact nc_ rfl | decide | omega))))))))))⟩
/- CheapPlanner$Search.comeTo -/
abbrev pq_130v (G : Nat → Nat → Option Nat) (F : fl_N) (X : xi_H) (st fm nb : Int) (T : tb_T) : Outcome → xi_H → Prop := gqv (fun A => ∃ F' : fl_N, fl_H sh_T G F' ++ X = A ∧ gi F' ∧ fs [(331, 331, 8, 8), (331, 331, 10, 11), (332, 338, 0, 100000)] F F' ∧ (li F') ∧ (F 331 8 ≤ F' 331 8) ∧ (∃ T', tS F' T' ∧ cto F F' T T' st) ∧ (∀ i : Nat, ¬ i = T.length → F' 334 i = F 334 i)) gqn
theorem mc_130v {G : Nat → Nat → Option Nat} (hG : gg G) (F : fl_N) (X : xi_H) (hgi : gi F) (st fm nb : Int) (T : tb_T) (hst : -9223372036854775808 ≤ st ∧ st ≤ 9223372036854775807) (hli : li F) (hf : 0 ≤ fm ∧ fm < F 331 8) (hn : 0 ≤ nb ∧ nb ≤ 40) (hT : tS F T) (hcb : 0 ≤ F 331 12 ∧ F 331 12 ≤ 1000000) : fl_M xi_ms 130 2 51 [.ref 331, .long (Int64.ofInt st), .int (Int32.ofInt fm), .int (Int32.ofInt nb)] (fl_H sh_T G F ++ X) (pq_130v G F X st fm nb T) := by
  intro fr lo hfr hlo
  show fl_R xi_ms 130 fr lo 0 [(0, .ref 331), (1, .long (Int64.ofInt st)), (3, .int (Int32.ofInt fm)), (4, .int (Int32.ofInt nb))] [] _ _
  have hlf := li_at hli hf.1 hf.2
  have hb8 : 0 ≤ F 331 8 ∧ F 331 8 ≤ 200 := gi_g hgi rfl
  have hT1 := hT.1
  refine ga_aload_n (v := .ref 331) hm_130 rfl rfl rfl ?_
  refine ga_getr (b := 120) hm_130 rfl sc_331 rfl ?_
  refine ga_getr (b := 123) hm_130 rfl sc_120 rfl ?_
  refine ga_lload_n (z := st) hm_130 rfl rfl ?_
  refine gVi (nY := 3) (F := 0) (L := 0) (As := [.long (Int64.ofInt st)]) (b := 123) (rest := []) hm_130 rfl hm_115 rfl rfl (fl_ob sc_123) rfl rfl rfl rfl rfl (by omega) (by omega) (mc_115v hG F X hgi (123) (st) nd_123 (⟨by omega, by omega⟩)) (fun _ _ h => False.elim h) ?_
  rintro z1_ A1_ (⟨hA_, hz_, c2_⟩ | ⟨hA_, hz_, c3_⟩)
  ·
    subst hA_
    subst hz_
    refine fl_if_eq hm_130 rfl ⟨by omega, by omega⟩ (fun _ => ?_) (fun h => absurd (by omega) h)
    refine ga_aload_n (v := .ref 331) hm_130 rfl rfl rfl ?_
    refine ga_lload_n (z := st) hm_130 rfl rfl ?_
    refine gVi (nY := 5) (F := 0) (L := 0) (As := [.long (Int64.ofInt st)]) (b := 331) (rest := []) hm_130 rfl hm_142 rfl rfl (fl_ob sc_331) rfl rfl rfl rfl rfl (by omega) (by omega) (mc_142v hG F X hgi (st) (⟨by omega, by omega⟩) (ts_free hT (by omega))) (fun _ _ h => False.elim h) ?_
    rintro z4_ A1_ ⟨hA_, c5_, c6_⟩
    subst hA_
    refine ga_istore (lv2 := [(5, .int (Int32.ofInt z4_)), (0, .ref 331), (1, .long (Int64.ofInt st)), (3, .int (Int32.ofInt fm)), (4, .int (Int32.ofInt nb))]) hm_130 rfl (Nat.le_of_ble_eq_true rfl) rfl ?_
    refine ga_aload_n (v := .ref 331) hm_130 rfl rfl rfl ?_
    refine ga_getr (b := 338) hm_130 rfl sc_331 rfl ?_
    refine ga_iload (z := z4_) hm_130 rfl rfl ?_
    have b7_ : 0 ≤ F 338 z4_.toNat ∧ F 338 z4_.toNat ≤ 200 := gi_g hgi rfl
    refine ga_iald (z := z4_) (w := F 338 z4_.toNat) hm_130 rfl sc_338 (by omega) (by omega) (by omega) (rfl) ?_
    refine fl_if_eq (a := F 338 z4_.toNat) hm_130 rfl ⟨by omega, by omega⟩ (fun h8_ => ?_) (fun h9_ => ?_)
    ·
      refine ga_aload_n (v := .ref 331) hm_130 rfl rfl rfl ?_
      have b10_ : 0 ≤ F 331 8 ∧ F 331 8 ≤ 200 := gi_g hgi rfl
      refine ga_geti (z := F 331 8) hm_130 rfl sc_331 rfl (rfl) ?_
      refine ga_aload_n (v := .ref 331) hm_130 rfl rfl rfl ?_
      have b11_ : 0 ≤ F 331 9 ∧ F 331 9 ≤ 200 := gi_g hgi rfl
      refine ga_geti (z := F 331 9) hm_130 rfl sc_331 rfl (rfl) ?_
      refine fl_icmp_ge (a := F 331 8) (b := F 331 9) hm_130 rfl ⟨by omega, by omega⟩ ⟨by omega, by omega⟩ (fun h12_ => ?_) (fun h13_ => ?_)
      ·
        refine ga_aload_n (v := .ref 331) hm_130 rfl rfl rfl ?_
        refine fl_iconst hm_130 rfl ?_
        refine ga_putz (z := 1) hm_130 rfl sc_331 rfl rfl (by omega) ?_
        obtain ⟨F14_, q15_⟩ : ∃ Fq_, Fq_ = (fl_u F 331 10 1) := ⟨_, rfl⟩
        rw [← q15_]
        have g16_ : gi F14_ := by rw [q15_]; exact gi_u (hgi) rfl (by omega) (by omega)
        have g17_ : fs [(331, 331, 8, 8), (331, 331, 10, 11), (332, 338, 0, 100000)] F F14_ := by rw [q15_]; exact fs_u (fs_refl) rfl
        refine gr_v hm_130 rfl rfl ?_
        have e18_ : F14_ 331 8 = F 331 8 := by rw [q15_]; exact fl_u_ne (by first | exact nc_ rfl | decide | omega)
        have e19_ : F14_ 331 10 = 1 := by rw [q15_]; exact fl_u_eq
        have e20_ : F14_ 331 11 = F 331 11 := by rw [q15_]; exact fl_u_ne (by first | exact nc_ rfl | decide | omega)
        exact ⟨F14_, rfl, g16_, g17_, (li_cg hli ((show F14_ 331 8 = F 331 8 from (by rw [q15_]; exact (fl_u_ne (by first | exact nc_ rfl | decide | omega))))) ((show F14_ 331 11 = F 331 11 from (by rw [q15_]; exact (fl_u_ne (by first | exact nc_ rfl | decide | omega))))) (fun i => (show F14_ 335 i = F 335 i from (by rw [q15_]; exact (fl_u_ne (by first | exact nc_ rfl | decide | omega)))))), (by omega), (⟨T, (ts_cg hT ((show F14_ 331 8 = F 331 8 from (by rw [q15_]; exact (fl_u_ne (by first | exact nc_ rfl | decide | omega))))) (fun j => (show F14_ 332 j = F 332 j from (by rw [q15_]; exact (fl_u_ne (by first | exact nc_ rfl | decide | omega))))) (fun j => (show F14_ 333 j = F 333 j from (by rw [q15_]; exact (fl_u_ne (by first | exact nc_ rfl | decide | omega))))) (fun j => (show F14_ 338 j = F 338 j from (by rw [q15_]; exact (fl_u_ne (by first | exact nc_ rfl | decide | omega)))))), Or.inr ⟨(show ¬ gC F st from c2_), by omega, Or.inr (Or.inr ⟨(by cases h9_ : has T st with | true => exact absurd (by omega) (hsz_old hT.2.1 c6_ h9_) | false => rfl), by omega, rfl, by omega⟩)⟩⟩), (fun i hi => (show F14_ 334 i = F 334 i from (by rw [q15_]; exact (fl_u_ne (by first | exact nc_ rfl | decide | omega)))))⟩
      refine ga_aload_n (v := .ref 331) hm_130 rfl rfl rfl ?_
      refine ga_iload (z := z4_) hm_130 rfl rfl ?_
      refine ga_lload_n (z := st) hm_130 rfl rfl ?_
      refine ga_aload_n (v := .ref 331) hm_130 rfl rfl rfl ?_
      have b21_ : -2147483648 ≤ F 331 12 ∧ F 331 12 ≤ 2147483647 := gi_g hgi rfl
      refine ga_geti (z := F 331 12) hm_130 rfl sc_331 rfl (rfl) ?_
      refine gVv (nY := 5) (F := 1) (L := 25) (As := [.int (Int32.ofInt z4_), .long (Int64.ofInt st), .int (Int32.ofInt (F 331 12))]) (b := 331) (rest := []) hm_130 rfl hm_129 rfl rfl (fl_ob sc_331) rfl rfl rfl rfl rfl (by omega) (by omega) (mc_129v hG F X hgi (z4_) (st) (F 331 12) (T) (⟨by omega, by omega⟩) (⟨by omega, by omega⟩) (⟨by omega, by omega⟩) (by omega) (hT) (c6_) ((by cases h9_ : has T st with | true => exact absurd (by omega) (hsz_old hT.2.1 c6_ h9_) | false => rfl)) (hcb)) (fun _ _ h => False.elim h) ?_
      rintro A1_ ⟨F29_, hA_, g30_, s31_, c23_, c24_, c25_, c26_, c27_, c28_⟩
      subst hA_
      have g32_ : fs [(331, 331, 8, 8), (331, 331, 10, 11), (332, 338, 0, 100000)] F F29_ := fs_tr fs_refl s31_ rfl
      refine ga_aload_n (v := .ref 331) hm_130 rfl rfl rfl ?_
      refine ga_aload_n (v := .ref 331) hm_130 rfl rfl rfl ?_
      have b33_ : 0 ≤ F29_ 331 8 ∧ F29_ 331 8 ≤ 200 := gi_g g30_ rfl
      refine ga_geti (z := F29_ 331 8) hm_130 rfl sc_331 rfl (rfl) ?_
      refine fl_iconst hm_130 rfl ?_
      refine ga_isub (a := F29_ 331 8) (b := 1) (c := F29_ 331 8 - 1) hm_130 rfl (by omega) ?_
      refine ga_iload_n (z := fm) hm_130 rfl rfl ?_
      refine ga_iload (z := nb) hm_130 rfl rfl ?_
      refine gVv (nY := 5) (F := 1) (L := 27) (As := [.int (Int32.ofInt (F29_ 331 8 - 1)), .int (Int32.ofInt fm), .int (Int32.ofInt nb)]) (b := 331) (rest := []) hm_130 rfl hm_140 rfl rfl (fl_ob sc_331) rfl rfl rfl rfl rfl (by omega) (by omega) (mc_140 hG F29_ X g30_ (F29_ 331 8 - 1) (fm) (nb) (⟨by omega, by omega⟩) (⟨by omega, by omega⟩) (⟨by omega, by omega⟩) (by rw [c25_ fm.toNat (by omega)]; omega)) (fun _ _ h => False.elim h) ?_
      rintro A1_ ⟨F37_, hA_, g38_, s39_, c35_, c36_⟩
      subst hA_
      have g40_ : fs [(331, 331, 8, 8), (331, 331, 10, 11), (332, 338, 0, 100000)] F F37_ := fs_tr g32_ s39_ rfl
      refine fl_goto hm_130 rfl ?_
      refine gr_v hm_130 rfl rfl ?_
      have e41_ : F37_ 331 8 = F29_ 331 8 := (s39_ 331 8 rfl).trans (rfl)
      have e42_ : F29_ 331 10 = F 331 10 := (s31_ 331 10 rfl).trans (rfl)
      have e43_ : F37_ 331 10 = F 331 10 := (s39_ 331 10 rfl).trans (e42_)
      have e44_ : F29_ 331 11 = F 331 11 := (s31_ 331 11 rfl).trans (rfl)
      have e45_ : F37_ 331 11 = F 331 11 := (s39_ 331 11 rfl).trans (e44_)
      exact ⟨F37_, rfl, g38_, g40_, (li_add (F := F) (F1 := F29_) (fm := fm) (v := F29_ 331 8 - 1) hli (by omega) (by omega) c23_ c24_ c25_ ((show F29_ 331 11 = F 331 11 from (s31_ 331 11 (by first | exact fs_c rfl | exact (fs_n (by omega) (fs_n (by omega) (fs_n (by omega) rfl))))))) ((show F37_ 331 8 = F29_ 331 8 from (s39_ 331 8 (by first | exact fs_c rfl | exact (fs_n (by omega) rfl))))) ((show F37_ 331 11 = F29_ 331 11 from (s39_ 331 11 (by first | exact fs_c rfl | exact (fs_n (by omega) rfl))))) (by omega) c35_ c36_), (by omega), (⟨T ++ [(st, F 331 12)], (ts_cg c26_ ((show F37_ 331 8 = F29_ 331 8 from (s39_ 331 8 (by first | exact fs_c rfl | exact (fs_n (by omega) rfl))))) (fun j => (show F37_ 332 j = F29_ 332 j from (s39_ 332 j (by first | exact fs_c rfl | exact (fs_n (by omega) rfl))))) (fun j => (show F37_ 333 j = F29_ 333 j from (s39_ 333 j (by first | exact fs_c rfl | exact (fs_n (by omega) rfl))))) (fun j => (show F37_ 338 j = F29_ 338 j from (s39_ 338 j (by first | exact fs_c rfl | exact (fs_n (by omega) rfl)))))), Or.inr ⟨(show ¬ gC F st from c2_), by omega, Or.inr (Or.inl ⟨(by cases h9_ : has T st with | true => exact absurd (by omega) (hsz_old hT.2.1 c6_ h9_) | false => rfl), by omega, rfl, by omega, by rw [show F37_ 334 T.length = F29_ 334 T.length from (show F37_ 334 T.length = F29_ 334 T.length from (s39_ 334 T.length (by first | exact fs_c rfl | exact (fs_n (by omega) rfl))))]; exact c27_⟩)⟩⟩), (fun i hi => Eq.trans ((show F37_ 334 i = F29_ 334 i from (s39_ 334 i (by first | exact fs_c rfl | exact (fs_n (by omega) rfl))))) (c28_ i hi))⟩
    refine ga_aload_n (v := .ref 331) hm_130 rfl rfl rfl ?_
    refine ga_getr (b := 338) hm_130 rfl sc_331 rfl ?_
    refine ga_iload (z := z4_) hm_130 rfl rfl ?_
    refine ga_iald (z := z4_) (w := F 338 z4_.toNat) hm_130 rfl sc_338 (by omega) (by omega) (by omega) (rfl) ?_
    refine fl_iconst hm_130 rfl ?_
    refine ga_isub (a := F 338 z4_.toNat) (b := 1) (c := F 338 z4_.toNat - 1) hm_130 rfl (by omega) ?_
    refine ga_istore (lv2 := [(6, .int (Int32.ofInt (F 338 z4_.toNat - 1))), (5, .int (Int32.ofInt z4_)), (0, .ref 331), (1, .long (Int64.ofInt st)), (3, .int (Int32.ofInt fm)), (4, .int (Int32.ofInt nb))]) hm_130 rfl (Nat.le_of_ble_eq_true rfl) rfl ?_
    refine ga_aload_n (v := .ref 331) hm_130 rfl rfl rfl ?_
    refine ga_getr (b := 333) hm_130 rfl sc_331 rfl ?_
    refine ga_iload (z := F 338 z4_.toNat - 1) hm_130 rfl rfl ?_
    have b46_ : -2147483648 ≤ F 333 (F 338 z4_.toNat - 1).toNat ∧ F 333 (F 338 z4_.toNat - 1).toNat ≤ 2147483647 := gi_g hgi rfl
    refine ga_iald (z := F 338 z4_.toNat - 1) (w := F 333 (F 338 z4_.toNat - 1).toNat) hm_130 rfl sc_333 (by omega) (by omega) (by omega) (rfl) ?_
    refine ga_aload_n (v := .ref 331) hm_130 rfl rfl rfl ?_
    have b47_ : -2147483648 ≤ F 331 12 ∧ F 331 12 ≤ 2147483647 := gi_g hgi rfl
    refine ga_geti (z := F 331 12) hm_130 rfl sc_331 rfl (rfl) ?_
    refine fx_icmp_ne (a := F 333 (F 338 z4_.toNat - 1).toNat) (b := F 331 12) hm_130 rfl ⟨by omega, by omega⟩ ⟨by omega, by omega⟩ (fun h48_ => ?_) (fun h49_ => ?_)
    ·
      refine fl_goto hm_130 rfl ?_
      refine gr_v hm_130 rfl rfl ?_
      have b50_ : 0 ≤ F 331 8 ∧ F 331 8 ≤ 200 := gi_g hgi rfl
      exact ⟨F, rfl, hgi, fs_refl, (li_cg hli (rfl) (rfl) (fun i => rfl)), (by omega), (⟨T, hT, Or.inr ⟨(show ¬ gC F st from c2_), by omega, Or.inl ⟨(by cases h9_ : has T st with | true => rfl | false => exact absurd (hsz_new hT.2.1 c6_ h9_) (by omega)), rfl, by omega⟩⟩⟩), (fun i hi => rfl)⟩
    refine ga_aload_n (v := .ref 331) hm_130 rfl rfl rfl ?_
    refine ga_iload (z := F 338 z4_.toNat - 1) hm_130 rfl rfl ?_
    refine ga_iload_n (z := fm) hm_130 rfl rfl ?_
    refine ga_iload (z := nb) hm_130 rfl rfl ?_
    refine gVv (nY := 5) (F := 1) (L := 27) (As := [.int (Int32.ofInt (F 338 z4_.toNat - 1)), .int (Int32.ofInt fm), .int (Int32.ofInt nb)]) (b := 331) (rest := []) hm_130 rfl hm_140 rfl rfl (fl_ob sc_331) rfl rfl rfl rfl rfl (by omega) (by omega) (mc_140 hG F X hgi (F 338 z4_.toNat - 1) (fm) (nb) (⟨by omega, by omega⟩) (⟨by omega, by omega⟩) (⟨by omega, by omega⟩) (by omega)) (fun _ _ h => False.elim h) ?_
    rintro A1_ ⟨F54_, hA_, g55_, s56_, c52_, c53_⟩
    subst hA_
    have g57_ : fs [(331, 331, 8, 8), (331, 331, 10, 11), (332, 338, 0, 100000)] F F54_ := fs_tr fs_refl s56_ rfl
    refine fl_goto hm_130 rfl ?_
    refine gr_v hm_130 rfl rfl ?_
    have e58_ : F54_ 331 8 = F 331 8 := (s56_ 331 8 rfl).trans (rfl)
    have b59_ : 0 ≤ F 331 8 ∧ F 331 8 ≤ 200 := gi_g hgi rfl
    have e60_ : F54_ 331 10 = F 331 10 := (s56_ 331 10 rfl).trans (rfl)
    have e61_ : F54_ 331 11 = F 331 11 := (s56_ 331 11 rfl).trans (rfl)
    exact ⟨F54_, rfl, g55_, g57_, (li_known (F := F) (fm := fm) (v := F 338 z4_.toNat - 1) hli (by omega) (by omega) ((show F54_ 331 8 = F 331 8 from (s56_ 331 8 (by first | exact fs_c rfl | exact (fs_n (by omega) rfl))))) ((show F54_ 331 11 = F 331 11 from (s56_ 331 11 (by first | exact fs_c rfl | exact (fs_n (by omega) rfl))))) c52_ c53_), (by omega), (⟨T, (ts_cg hT ((show F54_ 331 8 = F 331 8 from (s56_ 331 8 (by first | exact fs_c rfl | exact (fs_n (by omega) rfl))))) (fun j => (show F54_ 332 j = F 332 j from (s56_ 332 j (by first | exact fs_c rfl | exact (fs_n (by omega) rfl))))) (fun j => (show F54_ 333 j = F 333 j from (s56_ 333 j (by first | exact fs_c rfl | exact (fs_n (by omega) rfl))))) (fun j => (show F54_ 338 j = F 338 j from (s56_ 338 j (by first | exact fs_c rfl | exact (fs_n (by omega) rfl)))))), Or.inr ⟨(show ¬ gC F st from c2_), by omega, Or.inl ⟨(by cases h9_ : has T st with | true => rfl | false => exact absurd (hsz_new hT.2.1 c6_ h9_) (by omega)), rfl, by omega⟩⟩⟩), (fun i hi => (show F54_ 334 i = F 334 i from (s56_ 334 i (by first | exact fs_c rfl | exact (fs_n (by omega) rfl)))))⟩
  subst hA_
  subst hz_
  refine fl_if_eq hm_130 rfl ⟨by omega, by omega⟩ (fun h => absurd h (by omega)) (fun _ => ?_)
  refine ga_aload_n (v := .ref 331) hm_130 rfl rfl rfl ?_
  refine fl_iconst hm_130 rfl ?_
  refine ga_putz (z := 1) hm_130 rfl sc_331 rfl rfl (by omega) ?_
  refine ga_aload_n (v := .ref 331) hm_130 rfl rfl rfl ?_
  refine fl_sipush hm_130 rfl rfl ?_
  refine ga_iload_n (z := fm) hm_130 rfl rfl ?_
  refine ga_iload (z := nb) hm_130 rfl rfl ?_
  obtain ⟨F62_, q63_⟩ : ∃ Fq_, Fq_ = (fl_u F 331 11 1) := ⟨_, rfl⟩
  rw [← q63_]
  have g64_ : gi F62_ := by rw [q63_]; exact gi_u (hgi) rfl (by omega) (by omega)
  have g65_ : fs [(331, 331, 8, 8), (331, 331, 10, 11), (332, 338, 0, 100000)] F F62_ := by rw [q63_]; exact fs_u (fs_refl) rfl
  refine gVv (nY := 5) (F := 1) (L := 27) (As := [.int (Int32.ofInt 200), .int (Int32.ofInt fm), .int (Int32.ofInt nb)]) (b := 331) (rest := []) hm_130 rfl hm_140 rfl rfl (fl_ob sc_331) rfl rfl rfl rfl rfl (by omega) (by omega) (mc_140 hG F62_ X g64_ (200) (fm) (nb) (⟨by omega, by omega⟩) (⟨by omega, by omega⟩) (⟨by omega, by omega⟩) (by rw [(show F62_ 335 fm.toNat = F 335 fm.toNat from (by rw [q63_]; exact (fl_u_ne (by first | exact nc_ rfl | decide | omega))))]; omega)) (fun _ _ h => False.elim h) ?_
  rintro A1_ ⟨F69_, hA_, g70_, s71_, c67_, c68_⟩
  subst hA_
  have g72_ : fs [(331, 331, 8, 8), (331, 331, 10, 11), (332, 338, 0, 100000)] F F69_ := fs_tr g65_ s71_ rfl
  refine gr_v hm_130 rfl rfl ?_
  have e73_ : F62_ 331 8 = F 331 8 := by rw [q63_]; exact fl_u_ne (by first | exact nc_ rfl | decide | omega)
  have e74_ : F69_ 331 8 = F 331 8 := (s71_ 331 8 rfl).trans (e73_)
  have b75_ : 0 ≤ F 331 8 ∧ F 331 8 ≤ 200 := gi_g hgi rfl
  have e76_ : F62_ 331 10 = F 331 10 := by rw [q63_]; exact fl_u_ne (by first | exact nc_ rfl | decide | omega)
  have e77_ : F69_ 331 10 = F 331 10 := (s71_ 331 10 rfl).trans (e76_)
  have e78_ : F62_ 331 11 = 1 := by rw [q63_]; exact fl_u_eq
  have e79_ : F69_ 331 11 = 1 := (s71_ 331 11 rfl).trans (e78_)
  exact ⟨F69_, rfl, g70_, g72_, (li_goal (F := F) (fm := fm) hli (by omega) (by omega) ((Eq.trans (a := F69_ 331 8) (b := F62_ 331 8) (s71_ 331 8 (by first | exact fs_c rfl | exact (fs_n (by omega) rfl))) (show F62_ 331 8 = F 331 8 from (by rw [q63_]; exact (fl_u_ne (by first | exact nc_ rfl | decide | omega)))))) (fun i hi => Eq.trans (c67_ i hi) (show F62_ 335 i = F 335 i from (by rw [q63_]; exact (fl_u_ne (by first | exact nc_ rfl | decide | omega))))) (by have h9_ := c68_; have e1_ := (show F62_ 335 (200 : Int).toNat = F 335 (200 : Int).toNat from (by rw [q63_]; exact (fl_u_ne (by first | exact nc_ rfl | decide | omega)))); have e2_ := (show F62_ 335 fm.toNat = F 335 fm.toNat from (by rw [q63_]; exact (fl_u_ne (by first | exact nc_ rfl | decide | omega)))); rw [e1_, e2_] at h9_; exact h9_)), (by omega), (⟨T, (ts_cg hT ((Eq.trans (a := F69_ 331 8) (b := F62_ 331 8) (s71_ 331 8 (by first | exact fs_c rfl | exact (fs_n (by omega) rfl))) (show F62_ 331 8 = F 331 8 from (by rw [q63_]; exact (fl_u_ne (by first | exact nc_ rfl | decide | omega)))))) (fun j => (Eq.trans (a := F69_ 332 j) (b := F62_ 332 j) (s71_ 332 j (by first | exact fs_c rfl | exact (fs_n (by omega) rfl))) (show F62_ 332 j = F 332 j from (by rw [q63_]; exact (fl_u_ne (by first | exact nc_ rfl | decide | omega)))))) (fun j => (Eq.trans (a := F69_ 333 j) (b := F62_ 333 j) (s71_ 333 j (by first | exact fs_c rfl | exact (fs_n (by omega) rfl))) (show F62_ 333 j = F 333 j from (by rw [q63_]; exact (fl_u_ne (by first | exact nc_ rfl | decide | omega)))))) (fun j => (Eq.trans (a := F69_ 338 j) (b := F62_ 338 j) (s71_ 338 j (by first | exact fs_c rfl | exact (fs_n (by omega) rfl))) (show F62_ 338 j = F 338 j from (by rw [q63_]; exact (fl_u_ne (by first | exact nc_ rfl | decide | omega))))))), Or.inl ⟨(show gC F st from c3_), rfl, by omega, by omega⟩⟩), (fun i hi => (Eq.trans (a := F69_ 334 i) (b := F62_ 334 i) (s71_ 334 i (by first | exact fs_c rfl | exact (fs_n (by omega) rfl))) (show F62_ 334 i = F 334 i from (by rw [q63_]; exact (fl_u_ne (by first | exact nc_ rfl | decide | omega))))))⟩

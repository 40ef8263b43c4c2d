/- CheapPlannerModel.slot -/
abbrev pq_189 (G : Nat → Nat → Option Nat) (F : fl_N) (X : xi_H) (f : Int) : Outcome → xi_H → Prop := gqi (fun z A => fl_H sh_T G F ++ X = A ∧ (0 ≤ z ∧ z ≤ 511) ∧ (slr F f z)) gqn
theorem mc_189 {G : Nat → Nat → Option Nat} (hG : gg G) (F : fl_N) (X : xi_H) (hgi : gi F) (f : Int) (hf : -9223372036854775808 ≤ f ∧ f ≤ 9223372036854775807) (hfe : ∃ e : Int, 0 ≤ e ∧ e < 512 ∧ F 378 e.toNat = 0) : fl_M xi_ms 189 0 0 [.ref 344, .long (Int64.ofInt f)] (fl_H sh_T G F ++ X) (pq_189 G F X f) := by
  intro fr lo hfr hlo
  show fl_R xi_ms 189 fr lo 0 [(0, .ref 344), (1, .long (Int64.ofInt f))] [] _ _
  obtain ⟨e, he⟩ := hfe
  refine ga_lload_n (z := f) hm_189 rfl rfl ?_
  refine ga_ldcl (z := 2654435761) hm_189 rfl (by decide) ?_
  refine ga_lmulx (a := f) (b := 2654435761) hm_189 rfl (fun ⟨h1_, h2_⟩ => ?_)
  refine ga_lstore_n (lv2 := [(3, .long (Int64.ofInt ((lmu f 2654435761)))), (0, .ref 344), (1, .long (Int64.ofInt f))]) hm_189 rfl (Nat.le_of_ble_eq_true rfl) rfl ?_
  refine ga_lload_n (z := (lmu f 2654435761)) hm_189 rfl rfl ?_
  refine fl_bipush hm_189 rfl rfl ?_
  refine ga_lx (z := (lus ((lmu f 2654435761)) 20)) hm_189 rfl rfl rfl (lop_e 4 _ _) (fun ⟨h3_, h4_⟩ => ?_)
  refine ga_lload_n (z := (lmu f 2654435761)) hm_189 rfl rfl ?_
  refine fl_bipush hm_189 rfl rfl ?_
  refine ga_lx (z := (lus ((lmu f 2654435761)) 43)) hm_189 rfl rfl rfl (lop_e 4 _ _) (fun ⟨h5_, h6_⟩ => ?_)
  refine ga_lx (z := (lxo ((lus ((lmu f 2654435761)) 20)) ((lus ((lmu f 2654435761)) 43)))) hm_189 rfl rfl rfl (lop_e 2 _ _) (fun ⟨h7_, h8_⟩ => ?_)
  refine ga_l2i hm_189 rfl ?_
  refine fl_sipush hm_189 rfl rfl ?_
  refine ga_ix (z := (iam ((lxo ((lus ((lmu f 2654435761)) 20)) ((lus ((lmu f 2654435761)) 43)))) 511)) hm_189 rfl rfl rfl (lop_e 6 _ _) (fun ⟨h9_, h10_⟩ => ?_)
  have b11_ := iam_511 ((lxo ((lus ((lmu f 2654435761)) 20)) ((lus ((lmu f 2654435761)) 43))))
  refine ga_istore (lv2 := [(5, .int (Int32.ofInt ((iam ((lxo ((lus ((lmu f 2654435761)) 20)) ((lus ((lmu f 2654435761)) 43)))) 511)))), (3, .long (Int64.ofInt ((lmu f 2654435761)))), (0, .ref 344), (1, .long (Int64.ofInt f))]) hm_189 rfl (Nat.le_of_ble_eq_true rfl) rfl ?_
  have L13_ : ∀ (n12_ : Nat) (k : Int), ((e - k) % 512 : Int).toNat = n12_ → (0 ≤ k ∧ k ≤ 511) → (∃ m : Nat, k = (hsh f + (m : Int)) % 512 ∧ ∀ i : Nat, i < m → ¬ stp F f ((hsh f + (i : Int)) % 512)) → fl_R xi_ms 189 fr lo 22 [(5, .int (Int32.ofInt k)), (3, .long (Int64.ofInt ((lmu f 2654435761)))), (0, .ref 344), (1, .long (Int64.ofInt f))] [] (fl_H sh_T G F ++ X) (pq_189 G F X f) := by
    intro n12_
    induction n12_ using Nat.strongRecOn with
    | ind n12_ ih14_ =>
    intro k hn15_ hk hm
    have hke : ¬ F 378 k.toNat = 0 → ¬ k = e := fun h9_ h8_ => h9_ (by rw [h8_]; exact he.2.2)
    refine ga_aload_n (v := .ref 344) hm_189 rfl rfl rfl ?_
    refine ga_getr (b := 378) hm_189 rfl sc_344 rfl ?_
    refine ga_iload (z := k) hm_189 rfl rfl ?_
    have b16_ : 0 ≤ F 378 k.toNat ∧ F 378 k.toNat ≤ 200 := gi_g hgi rfl
    refine ga_iald (z := k) (w := F 378 k.toNat) hm_189 rfl sc_378 (by omega) (by omega) (by omega) (rfl) ?_
    refine fl_if_le (a := F 378 k.toNat) hm_189 rfl ⟨by omega, by omega⟩ (fun h17_ => ?_) (fun h18_ => ?_)
    ·
      refine ga_iload (z := k) hm_189 rfl rfl ?_
      refine gr_i (z := k) hm_189 rfl rfl rfl ?_
      exact ⟨rfl, (⟨by omega, by omega⟩), (by obtain ⟨m, h8_, h9_⟩ := hm; exact ⟨m, h8_, by unfold stp; omega, h9_⟩)⟩
    refine ga_aload_n (v := .ref 344) hm_189 rfl rfl rfl ?_
    refine ga_getr (b := 373) hm_189 rfl sc_344 rfl ?_
    refine ga_aload_n (v := .ref 344) hm_189 rfl rfl rfl ?_
    refine ga_getr (b := 378) hm_189 rfl sc_344 rfl ?_
    refine ga_iload (z := k) hm_189 rfl rfl ?_
    refine ga_iald (z := k) (w := F 378 k.toNat) hm_189 rfl sc_378 (by omega) (by omega) (by omega) (rfl) ?_
    refine fl_iconst hm_189 rfl ?_
    refine ga_isub (a := F 378 k.toNat) (b := 1) (c := F 378 k.toNat - 1) hm_189 rfl (by omega) ?_
    have b19_ : -9223372036854775808 ≤ F 373 (F 378 k.toNat - 1).toNat ∧ F 373 (F 378 k.toNat - 1).toNat ≤ 9223372036854775807 := gi_g hgi rfl
    refine ga_lald (z := F 378 k.toNat - 1) (w := F 373 (F 378 k.toNat - 1).toNat) hm_189 rfl sc_373 (by omega) (by omega) (by omega) (rfl) ?_
    refine ga_lload_n (z := f) hm_189 rfl rfl ?_
    refine ga_lcmpq (a := F 373 (F 378 k.toNat - 1).toNat) (b := f) hm_189 rfl rfl ⟨by omega, by omega⟩ ⟨by omega, by omega⟩ (fun h20_ => ?_) (fun h21_ => ?_)
    ·
      refine ga_iload (z := k) hm_189 rfl rfl ?_
      refine gr_i (z := k) hm_189 rfl rfl rfl ?_
      exact ⟨rfl, (⟨by omega, by omega⟩), (by obtain ⟨m, h8_, h9_⟩ := hm; exact ⟨m, h8_, by unfold stp; omega, h9_⟩)⟩
    refine ga_iload (z := k) hm_189 rfl rfl ?_
    refine fl_iconst hm_189 rfl ?_
    refine ga_iadd (a := k) (b := 1) (c := k + 1) hm_189 rfl (by omega) ?_
    refine fl_sipush hm_189 rfl rfl ?_
    refine ga_ix (z := (iam (k + 1) 511)) hm_189 rfl rfl rfl (lop_e 6 _ _) (fun ⟨h22_, h23_⟩ => ?_)
    have b24_ := iam_511 (k + 1)
    have hnx := iam_nx (k := k) (by omega) (by omega)
    refine ga_istore (lv2 := [(5, .int (Int32.ofInt ((iam (k + 1) 511)))), (3, .long (Int64.ofInt ((lmu f 2654435761)))), (0, .ref 344), (1, .long (Int64.ofInt f))]) hm_189 rfl (Nat.le_of_ble_eq_true rfl) rfl ?_
    refine fl_goto hm_189 rfl ?_
    exact ih14_ _ (by omega) ((iam (k + 1) 511)) rfl (⟨by omega, by omega⟩) (sl_step hm (by omega) (by unfold stp; omega))
  exact L13_ _ ((iam ((lxo ((lus ((lmu f 2654435761)) 20)) ((lus ((lmu f 2654435761)) 43)))) 511)) rfl (⟨by omega, by omega⟩) (⟨0, by unfold hsh; omega, fun i hi => absurd hi (by omega)⟩)

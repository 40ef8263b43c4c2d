/- CheapPlanner$Search.isBefore -/
abbrev pq_136y (G : Nat → Nat → Option Nat) (F : fl_N) (X : xi_H) (fm nb w : Int) (V : List wy_T) (b : Int) : Outcome → xi_H → Prop := gqi (fun z A => fl_H sh_T G F ++ X = A ∧ (0 ≤ z ∧ z ≤ 1) ∧ (z = 1 ↔ lxl (vat V fm.toNat ++ [nb]) (vat V (F 336 w.toNat).toNat ++ [F 337 w.toNat]))) gqn
theorem mc_136y {G : Nat → Nat → Option Nat} (hG : gg G) (F : fl_N) (X : xi_H) (hgi : gi F) (fm nb w : Int) (V : List wy_T) (b : Int) (hf : 0 ≤ fm ∧ fm ≤ 200) (hn : 0 ≤ nb ∧ nb ≤ 40) (hw : 0 ≤ w ∧ w ≤ 200) (hch : chn (F 335) (F 336) (F 337) V b) (hV2 : 1 ≤ V.length ∧ V.length ≤ 200) (hfv : fm.toNat < V.length) (hpw : 0 ≤ F 336 w.toNat ∧ (F 336 w.toNat).toNat < V.length) (hlv : (vat V fm.toNat).length = (vat V (F 336 w.toNat).toNat).length) : fl_M xi_ms 136 0 0 [.ref 331, .int (Int32.ofInt fm), .int (Int32.ofInt nb), .int (Int32.ofInt w)] (fl_H sh_T G F ++ X) (pq_136y G F X fm nb w V b) := by
  intro fr lo hfr hlo
  show fl_R xi_ms 136 fr lo 0 [(0, .ref 331), (1, .int (Int32.ofInt fm)), (2, .int (Int32.ofInt nb)), (3, .int (Int32.ofInt w))] [] _ _
  refine ga_iload_n (z := nb) hm_136 rfl rfl ?_
  refine ga_aload_n (v := .ref 331) hm_136 rfl rfl rfl ?_
  refine ga_getr (b := 337) hm_136 rfl sc_331 rfl ?_
  refine ga_iload_n (z := w) hm_136 rfl rfl ?_
  have b1_ : 0 ≤ F 337 w.toNat ∧ F 337 w.toNat ≤ 40 := gi_g hgi rfl
  refine ga_iald (z := w) (w := F 337 w.toNat) hm_136 rfl sc_337 (by omega) (by omega) (by omega) (rfl) ?_
  refine ga_isub (a := nb) (b := F 337 w.toNat) (c := nb - (F 337 w.toNat)) hm_136 rfl (by omega) ?_
  refine ga_istore (lv2 := [(4, .int (Int32.ofInt (nb - (F 337 w.toNat)))), (0, .ref 331), (1, .int (Int32.ofInt fm)), (2, .int (Int32.ofInt nb)), (3, .int (Int32.ofInt w))]) hm_136 rfl (Nat.le_of_ble_eq_true rfl) rfl ?_
  refine ga_iload_n (z := fm) hm_136 rfl rfl ?_
  refine ga_istore (lv2 := [(5, .int (Int32.ofInt fm)), (4, .int (Int32.ofInt (nb - (F 337 w.toNat)))), (0, .ref 331), (1, .int (Int32.ofInt fm)), (2, .int (Int32.ofInt nb)), (3, .int (Int32.ofInt w))]) hm_136 rfl (Nat.le_of_ble_eq_true rfl) rfl ?_
  refine ga_aload_n (v := .ref 331) hm_136 rfl rfl rfl ?_
  refine ga_getr (b := 336) hm_136 rfl sc_331 rfl ?_
  refine ga_iload_n (z := w) hm_136 rfl rfl ?_
  have b2_ : 0 ≤ F 336 w.toNat ∧ F 336 w.toNat ≤ 199 := gi_g hgi rfl
  refine ga_iald (z := w) (w := F 336 w.toNat) hm_136 rfl sc_336 (by omega) (by omega) (by omega) (rfl) ?_
  refine ga_istore (lv2 := [(6, .int (Int32.ofInt (F 336 w.toNat))), (5, .int (Int32.ofInt fm)), (4, .int (Int32.ofInt (nb - (F 337 w.toNat)))), (0, .ref 331), (1, .int (Int32.ofInt fm)), (2, .int (Int32.ofInt nb)), (3, .int (Int32.ofInt w))]) hm_136 rfl (Nat.le_of_ble_eq_true rfl) rfl ?_
  refine fl_iconst hm_136 rfl ?_
  refine ga_istore (lv2 := [(7, .int (Int32.ofInt 0)), (6, .int (Int32.ofInt (F 336 w.toNat))), (5, .int (Int32.ofInt fm)), (4, .int (Int32.ofInt (nb - (F 337 w.toNat)))), (0, .ref 331), (1, .int (Int32.ofInt fm)), (2, .int (Int32.ofInt nb)), (3, .int (Int32.ofInt w))]) hm_136 rfl (Nat.le_of_ble_eq_true rfl) rfl ?_
  have L4_ : ∀ (n3_ : Nat) (k : Int) (ot : Int) (on : Int) (df : Int), (200 - k : Int).toNat = n3_ → (0 ≤ k ∧ k ≤ 200) → (0 ≤ ot ∧ ot ≤ 200) → (0 ≤ on ∧ on ≤ 200) → (-100 ≤ df ∧ df ≤ 100) → (ibS V fm.toNat (F 336 w.toNat).toNat nb (F 337 w.toNat) k on ot df) → fl_R xi_ms 136 fr lo 24 [(7, .int (Int32.ofInt k)), (6, .int (Int32.ofInt ot)), (5, .int (Int32.ofInt on)), (4, .int (Int32.ofInt df)), (0, .ref 331), (1, .int (Int32.ofInt fm)), (2, .int (Int32.ofInt nb)), (3, .int (Int32.ofInt w))] [] (fl_H sh_T G F ++ X) (pq_136y G F X fm nb w V b) := by
    intro n3_
    induction n3_ using Nat.strongRecOn with
    | ind n3_ ih5_ =>
    intro k ot on df hn6_ hk hot hon hdf hib
    refine ga_iload (z := k) hm_136 rfl rfl ?_
    refine fl_sipush hm_136 rfl rfl ?_
    refine fl_icmp_ge (a := k) (b := 200) hm_136 rfl ⟨by omega, by omega⟩ ⟨by omega, by omega⟩ (fun h7_ => ?_) (fun h8_ => ?_)
    ·
      refine ga_iload (z := df) hm_136 rfl rfl ?_
      refine fl_if_ge (a := df) hm_136 rfl ⟨by omega, by omega⟩ (fun h9_ => ?_) (fun h10_ => ?_)
      ·
        refine fl_iconst hm_136 rfl ?_
        refine gr_i (z := 0) hm_136 rfl rfl (ga_nb (by omega)) ?_
        exact ⟨rfl, (⟨by omega, by omega⟩), (by rw [← ib_e hib (by have h8_ := ib_k hib hch hfv hV2.2; omega)]; omega)⟩
      refine fl_iconst hm_136 rfl ?_
      refine fl_goto hm_136 rfl ?_
      refine gr_i (z := 1) hm_136 rfl rfl (ga_nb (by omega)) ?_
      exact ⟨rfl, (⟨by omega, by omega⟩), (by rw [← ib_e hib (by have h8_ := ib_k hib hch hfv hV2.2; omega)]; omega)⟩
    refine ga_iload (z := on) hm_136 rfl rfl ?_
    refine ga_iload (z := ot) hm_136 rfl rfl ?_
    refine fl_icmp_eq (a := on) (b := ot) hm_136 rfl ⟨by omega, by omega⟩ ⟨by omega, by omega⟩ (fun h11_ => ?_) (fun h12_ => ?_)
    ·
      refine ga_iload (z := df) hm_136 rfl rfl ?_
      refine fl_if_ge (a := df) hm_136 rfl ⟨by omega, by omega⟩ (fun h13_ => ?_) (fun h14_ => ?_)
      ·
        refine fl_iconst hm_136 rfl ?_
        refine gr_i (z := 0) hm_136 rfl rfl (ga_nb (by omega)) ?_
        exact ⟨rfl, (⟨by omega, by omega⟩), (by rw [← ib_e hib (by have h8_ := ib_k hib hch hfv hV2.2; omega)]; omega)⟩
      refine fl_iconst hm_136 rfl ?_
      refine fl_goto hm_136 rfl ?_
      refine gr_i (z := 1) hm_136 rfl rfl (ga_nb (by omega)) ?_
      exact ⟨rfl, (⟨by omega, by omega⟩), (by rw [← ib_e hib (by have h8_ := ib_k hib hch hfv hV2.2; omega)]; omega)⟩
    refine ga_aload_n (v := .ref 331) hm_136 rfl rfl rfl ?_
    refine ga_getr (b := 337) hm_136 rfl sc_331 rfl ?_
    refine ga_iload (z := on) hm_136 rfl rfl ?_
    have b15_ : 0 ≤ F 337 on.toNat ∧ F 337 on.toNat ≤ 40 := gi_g hgi rfl
    refine ga_iald (z := on) (w := F 337 on.toNat) hm_136 rfl sc_337 (by omega) (by omega) (by omega) (rfl) ?_
    refine ga_aload_n (v := .ref 331) hm_136 rfl rfl rfl ?_
    refine ga_getr (b := 337) hm_136 rfl sc_331 rfl ?_
    refine ga_iload (z := ot) hm_136 rfl rfl ?_
    have b16_ : 0 ≤ F 337 ot.toNat ∧ F 337 ot.toNat ≤ 40 := gi_g hgi rfl
    refine ga_iald (z := ot) (w := F 337 ot.toNat) hm_136 rfl sc_337 (by omega) (by omega) (by omega) (rfl) ?_
    refine fl_icmp_eq (a := F 337 on.toNat) (b := F 337 ot.toNat) hm_136 rfl ⟨by omega, by omega⟩ ⟨by omega, by omega⟩ (fun h17_ => ?_) (fun h18_ => ?_)
    ·
      refine ga_aload_n (v := .ref 331) hm_136 rfl rfl rfl ?_
      refine ga_getr (b := 336) hm_136 rfl sc_331 rfl ?_
      refine ga_iload (z := on) hm_136 rfl rfl ?_
      have b19_ : 0 ≤ F 336 on.toNat ∧ F 336 on.toNat ≤ 199 := gi_g hgi rfl
      refine ga_iald (z := on) (w := F 336 on.toNat) hm_136 rfl sc_336 (by omega) (by omega) (by omega) (rfl) ?_
      refine ga_istore (lv2 := [(5, .int (Int32.ofInt (F 336 on.toNat))), (7, .int (Int32.ofInt k)), (6, .int (Int32.ofInt ot)), (4, .int (Int32.ofInt df)), (0, .ref 331), (1, .int (Int32.ofInt fm)), (2, .int (Int32.ofInt nb)), (3, .int (Int32.ofInt w))]) hm_136 rfl (Nat.le_of_ble_eq_true rfl) rfl ?_
      refine ga_aload_n (v := .ref 331) hm_136 rfl rfl rfl ?_
      refine ga_getr (b := 336) hm_136 rfl sc_331 rfl ?_
      refine ga_iload (z := ot) hm_136 rfl rfl ?_
      have b20_ : 0 ≤ F 336 ot.toNat ∧ F 336 ot.toNat ≤ 199 := gi_g hgi rfl
      refine ga_iald (z := ot) (w := F 336 ot.toNat) hm_136 rfl sc_336 (by omega) (by omega) (by omega) (rfl) ?_
      refine ga_istore (lv2 := [(6, .int (Int32.ofInt (F 336 ot.toNat))), (5, .int (Int32.ofInt (F 336 on.toNat))), (7, .int (Int32.ofInt k)), (4, .int (Int32.ofInt df)), (0, .ref 331), (1, .int (Int32.ofInt fm)), (2, .int (Int32.ofInt nb)), (3, .int (Int32.ofInt w))]) hm_136 rfl (Nat.le_of_ble_eq_true rfl) rfl ?_
      refine ga_inc (a := k) (c := k + 1) (lv2 := [(7, .int (Int32.ofInt (k + 1))), (6, .int (Int32.ofInt (F 336 ot.toNat))), (5, .int (Int32.ofInt (F 336 on.toNat))), (4, .int (Int32.ofInt df)), (0, .ref 331), (1, .int (Int32.ofInt fm)), (2, .int (Int32.ofInt nb)), (3, .int (Int32.ofInt w))]) hm_136 rfl rfl (Nat.le_of_ble_eq_true rfl) rfl rfl ?_
      refine fl_goto hm_136 rfl ?_
      exact ih5_ _ (by omega) (k + 1) (F 336 ot.toNat) (F 336 on.toNat) (df) rfl (⟨by omega, by omega⟩) (⟨by omega, by omega⟩) (⟨by omega, by omega⟩) (⟨by omega, by omega⟩) (ib_s hch hib (by omega) ⟨by omega, by omega⟩ (by omega))
    refine ga_aload_n (v := .ref 331) hm_136 rfl rfl rfl ?_
    refine ga_getr (b := 337) hm_136 rfl sc_331 rfl ?_
    refine ga_iload (z := on) hm_136 rfl rfl ?_
    refine ga_iald (z := on) (w := F 337 on.toNat) hm_136 rfl sc_337 (by omega) (by omega) (by omega) (rfl) ?_
    refine ga_aload_n (v := .ref 331) hm_136 rfl rfl rfl ?_
    refine ga_getr (b := 337) hm_136 rfl sc_331 rfl ?_
    refine ga_iload (z := ot) hm_136 rfl rfl ?_
    refine ga_iald (z := ot) (w := F 337 ot.toNat) hm_136 rfl sc_337 (by omega) (by omega) (by omega) (rfl) ?_
    refine ga_isub (a := F 337 on.toNat) (b := F 337 ot.toNat) (c := F 337 on.toNat - (F 337 ot.toNat)) hm_136 rfl (by omega) ?_
    refine ga_istore (lv2 := [(4, .int (Int32.ofInt (F 337 on.toNat - (F 337 ot.toNat)))), (7, .int (Int32.ofInt k)), (6, .int (Int32.ofInt ot)), (5, .int (Int32.ofInt on)), (0, .ref 331), (1, .int (Int32.ofInt fm)), (2, .int (Int32.ofInt nb)), (3, .int (Int32.ofInt w))]) hm_136 rfl (Nat.le_of_ble_eq_true rfl) rfl ?_
    refine ga_aload_n (v := .ref 331) hm_136 rfl rfl rfl ?_
    refine ga_getr (b := 336) hm_136 rfl sc_331 rfl ?_
    refine ga_iload (z := on) hm_136 rfl rfl ?_
    have b21_ : 0 ≤ F 336 on.toNat ∧ F 336 on.toNat ≤ 199 := gi_g hgi rfl
    refine ga_iald (z := on) (w := F 336 on.toNat) hm_136 rfl sc_336 (by omega) (by omega) (by omega) (rfl) ?_
    refine ga_istore (lv2 := [(5, .int (Int32.ofInt (F 336 on.toNat))), (4, .int (Int32.ofInt (F 337 on.toNat - (F 337 ot.toNat)))), (7, .int (Int32.ofInt k)), (6, .int (Int32.ofInt ot)), (0, .ref 331), (1, .int (Int32.ofInt fm)), (2, .int (Int32.ofInt nb)), (3, .int (Int32.ofInt w))]) hm_136 rfl (Nat.le_of_ble_eq_true rfl) rfl ?_
    refine ga_aload_n (v := .ref 331) hm_136 rfl rfl rfl ?_
    refine ga_getr (b := 336) hm_136 rfl sc_331 rfl ?_
    refine ga_iload (z := ot) hm_136 rfl rfl ?_
    have b22_ : 0 ≤ F 336 ot.toNat ∧ F 336 ot.toNat ≤ 199 := gi_g hgi rfl
    refine ga_iald (z := ot) (w := F 336 ot.toNat) hm_136 rfl sc_336 (by omega) (by omega) (by omega) (rfl) ?_
    refine ga_istore (lv2 := [(6, .int (Int32.ofInt (F 336 ot.toNat))), (5, .int (Int32.ofInt (F 336 on.toNat))), (4, .int (Int32.ofInt (F 337 on.toNat - (F 337 ot.toNat)))), (7, .int (Int32.ofInt k)), (0, .ref 331), (1, .int (Int32.ofInt fm)), (2, .int (Int32.ofInt nb)), (3, .int (Int32.ofInt w))]) hm_136 rfl (Nat.le_of_ble_eq_true rfl) rfl ?_
    refine ga_inc (a := k) (c := k + 1) (lv2 := [(7, .int (Int32.ofInt (k + 1))), (6, .int (Int32.ofInt (F 336 ot.toNat))), (5, .int (Int32.ofInt (F 336 on.toNat))), (4, .int (Int32.ofInt (F 337 on.toNat - (F 337 ot.toNat)))), (0, .ref 331), (1, .int (Int32.ofInt fm)), (2, .int (Int32.ofInt nb)), (3, .int (Int32.ofInt w))]) hm_136 rfl rfl (Nat.le_of_ble_eq_true rfl) rfl rfl ?_
    refine fl_goto hm_136 rfl ?_
    exact ih5_ _ (by omega) (k + 1) (F 336 ot.toNat) (F 336 on.toNat) (F 337 on.toNat - (F 337 ot.toNat)) rfl (⟨by omega, by omega⟩) (⟨by omega, by omega⟩) (⟨by omega, by omega⟩) (⟨by omega, by omega⟩) (ib_s hch hib (by omega) ⟨by omega, by omega⟩ (by omega))
  exact L4_ _ (0) (F 336 w.toNat) (fm) (nb - (F 337 w.toNat)) rfl (⟨by omega, by omega⟩) (⟨by omega, by omega⟩) (⟨by omega, by omega⟩) (⟨by omega, by omega⟩) (ib_0 hfv hpw.2 hlv)
/- CheapPlanner$Search.offer -/
abbrev pq_140y (G : Nat → Nat → Option Nat) (F : fl_N) (X : xi_H) (w fm nb : Int) (V : List wy_T) (b : Int) : Outcome → xi_H → Prop := gqv (fun A => ∃ F' : fl_N, fl_H sh_T G F' ++ X = A ∧ gi F' ∧ fs [(335, 337, 0, 100000)] F F' ∧ (∀ i : Nat, i ≠ w.toNat → F' 335 i = F 335 i) ∧ ((F' 335 w.toNat = F 335 w.toNat ∧ F 335 w.toNat ≤ F 335 fm.toNat + 1) ∨ (F' 335 w.toNat = F 335 fm.toNat + 1 ∧ F 335 fm.toNat + 1 ≤ F 335 w.toNat)) ∧ (ofE F F' V w.toNat fm.toNat nb) ∧ (∀ i : Nat, i ≠ w.toNat → F' 336 i = F 336 i ∧ F' 337 i = F 337 i)) gqn
theorem mc_140y {G : Nat → Nat → Option Nat} (hG : gg G) (F : fl_N) (X : xi_H) (hgi : gi F) (w fm nb : Int) (V : List wy_T) (b : Int) (hw : 0 ≤ w ∧ w ≤ 200) (hf : 0 ≤ fm ∧ fm ≤ 199) (hn : 0 ≤ nb ∧ nb ≤ 40) (hl : 0 ≤ F 335 fm.toNat ∧ F 335 fm.toNat ≤ 199) (hch : chn (F 335) (F 336) (F 337) V b) (hV2 : 1 ≤ V.length ∧ V.length ≤ 200) (hfv : fm.toNat < V.length) (hwy : hwy F V w.toNat) : fl_M xi_ms 140 1 27 [.ref 331, .int (Int32.ofInt w), .int (Int32.ofInt fm), .int (Int32.ofInt nb)] (fl_H sh_T G F ++ X) (pq_140y G F X w fm nb V b) := by
  intro fr lo hfr hlo
  show fl_R xi_ms 140 fr lo 0 [(0, .ref 331), (1, .int (Int32.ofInt w)), (2, .int (Int32.ofInt fm)), (3, .int (Int32.ofInt nb))] [] _ _
  have hlf_ := (hch.2 fm.toNat hfv).1
  refine ga_aload_n (v := .ref 331) hm_140 rfl rfl rfl ?_
  refine ga_getr (b := 335) hm_140 rfl sc_331 rfl ?_
  refine ga_iload_n (z := fm) hm_140 rfl rfl ?_
  have b1_ : -2147483648 ≤ F 335 fm.toNat ∧ F 335 fm.toNat ≤ 2147483647 := gi_g hgi rfl
  refine ga_iald (z := fm) (w := F 335 fm.toNat) hm_140 rfl sc_335 (by omega) (by omega) (by omega) (rfl) ?_
  refine fl_iconst hm_140 rfl ?_
  refine ga_iadd (a := F 335 fm.toNat) (b := 1) (c := F 335 fm.toNat + 1) hm_140 rfl (by omega) ?_
  refine ga_istore (lv2 := [(4, .int (Int32.ofInt (F 335 fm.toNat + 1))), (0, .ref 331), (1, .int (Int32.ofInt w)), (2, .int (Int32.ofInt fm)), (3, .int (Int32.ofInt nb))]) hm_140 rfl (Nat.le_of_ble_eq_true rfl) rfl ?_
  refine ga_iload (z := F 335 fm.toNat + 1) hm_140 rfl rfl ?_
  refine ga_aload_n (v := .ref 331) hm_140 rfl rfl rfl ?_
  refine ga_getr (b := 335) hm_140 rfl sc_331 rfl ?_
  refine ga_iload_n (z := w) hm_140 rfl rfl ?_
  have b2_ : -2147483648 ≤ F 335 w.toNat ∧ F 335 w.toNat ≤ 2147483647 := gi_g hgi rfl
  refine ga_iald (z := w) (w := F 335 w.toNat) hm_140 rfl sc_335 (by omega) (by omega) (by omega) (rfl) ?_
  refine fl_icmp_lt (a := F 335 fm.toNat + 1) (b := F 335 w.toNat) hm_140 rfl ⟨by omega, by omega⟩ ⟨by omega, by omega⟩ (fun h3_ => ?_) (fun h4_ => ?_)
  ·
    refine ga_aload_n (v := .ref 331) hm_140 rfl rfl rfl ?_
    refine ga_getr (b := 335) hm_140 rfl sc_331 rfl ?_
    refine ga_iload_n (z := w) hm_140 rfl rfl ?_
    refine ga_iload (z := F 335 fm.toNat + 1) hm_140 rfl rfl ?_
    refine fl_iast (z := w) (v := F 335 fm.toNat + 1) hm_140 rfl sc_335 (by omega) (by omega) (by omega) ?_
    refine ga_aload_n (v := .ref 331) hm_140 rfl rfl rfl ?_
    refine ga_getr (b := 336) hm_140 rfl sc_331 rfl ?_
    refine ga_iload_n (z := w) hm_140 rfl rfl ?_
    refine ga_iload_n (z := fm) hm_140 rfl rfl ?_
    refine fl_iast (z := w) (v := fm) hm_140 rfl sc_336 (by omega) (by omega) (by omega) ?_
    refine ga_aload_n (v := .ref 331) hm_140 rfl rfl rfl ?_
    refine ga_getr (b := 337) hm_140 rfl sc_331 rfl ?_
    refine ga_iload_n (z := w) hm_140 rfl rfl ?_
    refine ga_iload_n (z := nb) hm_140 rfl rfl ?_
    refine fl_iast (z := w) (v := nb) hm_140 rfl sc_337 (by omega) (by omega) (by omega) ?_
    obtain ⟨F5_, q6_⟩ : ∃ Fq_, Fq_ = (fl_u (fl_u (fl_u F 335 w.toNat (F 335 fm.toNat + 1)) 336 w.toNat fm) 337 w.toNat nb) := ⟨_, rfl⟩
    rw [← q6_]
    have g7_ : gi F5_ := by rw [q6_]; exact gi_u (gi_u (gi_u (hgi) rfl (by omega) (by omega)) rfl (by omega) (by omega)) rfl (by omega) (by omega)
    have g8_ : fs [(335, 337, 0, 100000)] F F5_ := by rw [q6_]; exact fs_u (fs_u (fs_u (fs_refl) (fs_y (by omega))) (fs_y (by omega))) (fs_y (by omega))
    refine gr_v hm_140 rfl rfl ?_
    have e9_ : F5_ 335 w.toNat = F 335 fm.toNat + 1 := by rw [q6_]; exact (fl_u_ne (by first | exact nc_ rfl | decide | omega)).trans ((fl_u_ne (by first | exact nc_ rfl | decide | omega)).trans (fl_u_eq))
    have e10_ : F5_ 336 w.toNat = fm := by rw [q6_]; exact (fl_u_ne (by first | exact nc_ rfl | decide | omega)).trans (fl_u_eq)
    have e11_ : F5_ 337 w.toNat = nb := by rw [q6_]; exact fl_u_eq
    exact ⟨F5_, rfl, g7_, g8_, (fun i hi => (show F5_ 335 i = F 335 i from (by rw [q6_]; exact (fl_u_ne (by first | exact nc_ rfl | decide | omega)).trans ((fl_u_ne (by first | exact nc_ rfl | decide | omega)).trans ((fl_u_ne (by first | exact nc_ rfl | decide | omega))))))), (by omega), (Or.inl ⟨Or.inl (by omega), e9_, Eq.trans (e10_) (by omega), e11_⟩), (fun i hi => ⟨(show F5_ 336 i = F 336 i from (by rw [q6_]; exact (fl_u_ne (by first | exact nc_ rfl | decide | omega)).trans ((fl_u_ne (by first | exact nc_ rfl | decide | omega)).trans ((fl_u_ne (by first | exact nc_ rfl | decide | omega)))))), (show F5_ 337 i = F 337 i from (by rw [q6_]; exact (fl_u_ne (by first | exact nc_ rfl | decide | omega)).trans ((fl_u_ne (by first | exact nc_ rfl | decide | omega)).trans ((fl_u_ne (by first | exact nc_ rfl | decide | omega))))))⟩)⟩
  refine ga_iload (z := F 335 fm.toNat + 1) hm_140 rfl rfl ?_
  refine ga_aload_n (v := .ref 331) hm_140 rfl rfl rfl ?_
  refine ga_getr (b := 335) hm_140 rfl sc_331 rfl ?_
  refine ga_iload_n (z := w) hm_140 rfl rfl ?_
  refine ga_iald (z := w) (w := F 335 w.toNat) hm_140 rfl sc_335 (by omega) (by omega) (by omega) (rfl) ?_
  refine fx_icmp_ne (a := F 335 fm.toNat + 1) (b := F 335 w.toNat) hm_140 rfl ⟨by omega, by omega⟩ ⟨by omega, by omega⟩ (fun h12_ => ?_) (fun h13_ => ?_)
  ·
    refine gr_v hm_140 rfl rfl ?_
    exact ⟨F, rfl, hgi, fs_refl, (fun i hi => rfl), (by omega), (Or.inr ⟨by rintro (h9_ | ⟨h8_, h9_⟩) <;> omega, rfl, rfl, rfl⟩), (fun i hi => ⟨rfl, rfl⟩)⟩
  refine ga_aload_n (v := .ref 331) hm_140 rfl rfl rfl ?_
  refine ga_iload_n (z := fm) hm_140 rfl rfl ?_
  refine ga_iload_n (z := nb) hm_140 rfl rfl ?_
  refine ga_iload_n (z := w) hm_140 rfl rfl ?_
  refine gVi (nY := 8) (F := 0) (L := 0) (As := [.int (Int32.ofInt fm), .int (Int32.ofInt nb), .int (Int32.ofInt w)]) (b := 331) (rest := []) hm_140 rfl hm_136 rfl rfl (fl_ob sc_331) rfl rfl rfl rfl rfl (by omega) (by omega) (mc_136y hG F X hgi (fm) (nb) (w) (V) (b) (⟨by omega, by omega⟩) (⟨by omega, by omega⟩) (⟨by omega, by omega⟩) (hch) (hV2) (hfv) ((hwy (by omega)).1) (by have h9_ := (hwy (by omega)).2; omega)) (fun _ _ h => False.elim h) ?_
  rintro z14_ A1_ ⟨hA_, c15_, c16_⟩
  subst hA_
  refine fl_if_eq (a := z14_) hm_140 rfl ⟨by omega, by omega⟩ (fun h17_ => ?_) (fun h18_ => ?_)
  ·
    refine gr_v hm_140 rfl rfl ?_
    exact ⟨F, rfl, hgi, fs_refl, (fun i hi => rfl), (by omega), (Or.inr ⟨by rintro (h9_ | ⟨h8_, h9_⟩); omega; exact absurd (c16_.mpr h9_) (by omega), rfl, rfl, rfl⟩), (fun i hi => ⟨rfl, rfl⟩)⟩
  refine ga_aload_n (v := .ref 331) hm_140 rfl rfl rfl ?_
  refine ga_getr (b := 335) hm_140 rfl sc_331 rfl ?_
  refine ga_iload_n (z := w) hm_140 rfl rfl ?_
  refine ga_iload (z := F 335 fm.toNat + 1) hm_140 rfl rfl ?_
  refine fl_iast (z := w) (v := F 335 fm.toNat + 1) hm_140 rfl sc_335 (by omega) (by omega) (by omega) ?_
  refine ga_aload_n (v := .ref 331) hm_140 rfl rfl rfl ?_
  refine ga_getr (b := 336) hm_140 rfl sc_331 rfl ?_
  refine ga_iload_n (z := w) hm_140 rfl rfl ?_
  refine ga_iload_n (z := fm) hm_140 rfl rfl ?_
  refine fl_iast (z := w) (v := fm) hm_140 rfl sc_336 (by omega) (by omega) (by omega) ?_
  refine ga_aload_n (v := .ref 331) hm_140 rfl rfl rfl ?_
  refine ga_getr (b := 337) hm_140 rfl sc_331 rfl ?_
  refine ga_iload_n (z := w) hm_140 rfl rfl ?_
  refine ga_iload_n (z := nb) hm_140 rfl rfl ?_
  refine fl_iast (z := w) (v := nb) hm_140 rfl sc_337 (by omega) (by omega) (by omega) ?_
  obtain ⟨F19_, q20_⟩ : ∃ Fq_, Fq_ = (fl_u (fl_u (fl_u F 335 w.toNat (F 335 fm.toNat + 1)) 336 w.toNat fm) 337 w.toNat nb) := ⟨_, rfl⟩
  rw [← q20_]
  have g21_ : gi F19_ := by rw [q20_]; exact gi_u (gi_u (gi_u (hgi) rfl (by omega) (by omega)) rfl (by omega) (by omega)) rfl (by omega) (by omega)
  have g22_ : fs [(335, 337, 0, 100000)] F F19_ := by rw [q20_]; exact fs_u (fs_u (fs_u (fs_refl) (fs_y (by omega))) (fs_y (by omega))) (fs_y (by omega))
  refine gr_v hm_140 rfl rfl ?_
  have e23_ : F19_ 335 w.toNat = F 335 fm.toNat + 1 := by rw [q20_]; exact (fl_u_ne (by first | exact nc_ rfl | decide | omega)).trans ((fl_u_ne (by first | exact nc_ rfl | decide | omega)).trans (fl_u_eq))
  have e24_ : F19_ 336 w.toNat = fm := by rw [q20_]; exact (fl_u_ne (by first | exact nc_ rfl | decide | omega)).trans (fl_u_eq)
  have e25_ : F19_ 337 w.toNat = nb := by rw [q20_]; exact fl_u_eq
  exact ⟨F19_, rfl, g21_, g22_, (fun i hi => (show F19_ 335 i = F 335 i from (by rw [q20_]; exact (fl_u_ne (by first | exact nc_ rfl | decide | omega)).trans ((fl_u_ne (by first | exact nc_ rfl | decide | omega)).trans ((fl_u_ne (by first | exact nc_ rfl | decide | omega))))))), (by omega), (Or.inl ⟨Or.inr ⟨by omega, c16_.mp (by omega)⟩, e23_, Eq.trans (e24_) (by omega), e25_⟩), (fun i hi => ⟨(show F19_ 336 i = F 336 i from (by rw [q20_]; exact (fl_u_ne (by first | exact nc_ rfl | decide | omega)).trans ((fl_u_ne (by first | exact nc_ rfl | decide | omega)).trans ((fl_u_ne (by first | exact nc_ rfl | decide | omega)))))), (show F19_ 337 i = F 337 i from (by rw [q20_]; exact (fl_u_ne (by first | exact nc_ rfl | decide | omega)).trans ((fl_u_ne (by first | exact nc_ rfl | decide | omega)).trans ((fl_u_ne (by first | exact nc_ rfl | decide | omega))))))⟩)⟩

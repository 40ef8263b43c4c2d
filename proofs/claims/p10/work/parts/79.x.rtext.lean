/-! text() of the reference -/
theorem nzl_app : ∀ a b : List Int, nzl (a ++ b) = nzl a ++ nzl b
  | [], b => rfl
  | x :: a, b => by
    show nzl (x :: (a ++ b)) = _
    by_cases e : x = 0
    · rw [nzl, if_pos e, nzl, if_pos e, nzl_app a b]
    · rw [nzl, if_neg e, nzl, if_neg e, nzl_app a b]
      rfl
theorem okl_app {a b : List Int} : okl (a ++ b) ↔ okl a ∧ okl b := by
  unfold okl
  constructor
  · intro h
    exact ⟨fun x hx => h x (List.mem_append.mpr (Or.inl hx)), fun x hx => h x (List.mem_append.mpr (Or.inr hx))⟩
  · intro h x hx
    rcases List.mem_append.mp hx with e | e
    · exact h.1 x e
    · exact h.2 x e
theorem bys_t {p q r s t k : Int} (h0 : 0 ≤ k) (h1 : k < 20) : (bys p q r s t).take (k + 1).toNat = (bys p q r s t).take k.toNat ++ [byt p q r s t k] := by
  have h := bys_d p q r s t k.toNat (by omega)
  rw [show ((k.toNat : Nat) : Int) = k by omega] at h
  have e : (bys p q r s t)[k.toNat]? = some (byt p q r s t k) := by
    have h2 := congrArg (fun l => l[0]?) h
    simp only [List.getElem?_drop, Nat.add_zero, List.getElem?_cons_zero] at h2
    exact h2
  rw [show (k + 1).toNat = k.toNat + 1 by omega, List.take_add_one, e]
  rfl
theorem bys_all (p q r s t : Int) : (bys p q r s t).take 20 = bys p q r s t := rfl
theorem bys_sp {p q r s t k : Int} (h0 : 0 ≤ k) (h1 : k < 20) : (nzl ((bys p q r s t).take (k + 1).toNat)).length ≤ (nzl (bys p q r s t)).length := by
  have h : bys p q r s t = (bys p q r s t).take (k + 1).toNat ++ (bys p q r s t).drop (k + 1).toNat := (List.take_append_drop _ _).symm
  have h2 : nzl (bys p q r s t) = nzl ((bys p q r s t).take (k + 1).toNat) ++ nzl ((bys p q r s t).drop (k + 1).toNat) := by
    rw [← nzl_app, ← h]
  rw [h2, List.length_append]
  omega
theorem bys_m {p q r s t k : Int} (h0 : 0 ≤ k) (h1 : k < 20) (h : okl (bys p q r s t)) : okb (byt p q r s t k) := by
  have h2 : bys p q r s t = (bys p q r s t).take (k + 1).toNat ++ (bys p q r s t).drop (k + 1).toNat := (List.take_append_drop _ _).symm
  rw [h2, okl_app, bys_t h0 h1, okl_app] at h
  exact h.1.2 _ (by simp)
theorem nm_z {p q r s t k m z : Int} (hm : m = ((nzl ((bys p q r s t).take k.toNat)).length : Int)) (hz : z = byt p q r s t k) (h0 : 0 ≤ k) (h1 : k < 20) (h : z = 0) : m = ((nzl ((bys p q r s t).take (k + 1).toNat)).length : Int) := by
  rw [bys_t h0 h1, nzl_app, ← hz, nzl, if_pos h, nzl, List.append_nil]
  exact hm
theorem nm_o {p q r s t k m z : Int} (hm : m = ((nzl ((bys p q r s t).take k.toNat)).length : Int)) (hz : z = byt p q r s t k) (h0 : 0 ≤ k) (h1 : k < 20) (h : ¬ z = 0) : m + 1 = ((nzl ((bys p q r s t).take (k + 1).toNat)).length : Int) := by
  rw [bys_t h0 h1, nzl_app, ← hz, nzl, if_neg h, nzl, List.length_append]
  simp
  exact hm
theorem og_1 {p q r s t k z g : Int} (hg : (g = 1 ∧ okl ((bys p q r s t).take k.toNat)) ∨ (g = 0 ∧ ¬ okl (bys p q r s t))) (hz : z = byt p q r s t k) (h0 : 0 ≤ k) (h1 : k < 20) (h : ¬ g = 0) (hb : okb z) : okl ((bys p q r s t).take (k + 1).toNat) := by
  rcases hg with hg | hg
  · rw [bys_t h0 h1, okl_app, ← hz]
    refine ⟨hg.2, fun x hx => ?_⟩
    rw [List.mem_singleton] at hx
    rw [hx]
    exact hb
  · exact absurd hg.1 h
theorem og_0 {p q r s t k z g : Int} (hg : (g = 1 ∧ okl ((bys p q r s t).take k.toNat)) ∨ (g = 0 ∧ ¬ okl (bys p q r s t))) (hz : z = byt p q r s t k) (h0 : 0 ≤ k) (h1 : k < 20) (hb : g = 0 ∨ ¬ okb z) : ¬ okl (bys p q r s t) := by
  rcases hb with hb | hb
  · rcases hg with hg | hg
    · omega
    · exact hg.2
  · intro h
    exact hb (by rw [hz]; exact bys_m h0 h1 h)
theorem tr_z {F : fl_N} {p q r s t k z : Int} {l : List Int} (h : rep (F 345) (F 344 1) (l ++ nzl ((bys p q r s t).take k.toNat))) (hz : z = byt p q r s t k) (h0 : 0 ≤ k) (h1 : k < 20) (hb : z = 0) : rep (F 345) (F 344 1) (l ++ nzl ((bys p q r s t).take (k + 1).toNat)) := by
  rw [bys_t h0 h1, nzl_app, ← hz, nzl, if_pos hb, nzl, List.append_nil]
  exact h
theorem tr_o {F : fl_N} {p q r s t k z : Int} {l : List Int} (h : rep (F 345) (F 344 1) (l ++ nzl ((bys p q r s t).take k.toNat))) (hz : z = byt p q r s t k) (h0 : 0 ≤ k) (h1 : k < 20) (hb : ¬ z = 0) : rep ((fl_u (fl_u F 345 (F 344 1).toNat z) 344 1 (F 344 1 + 1)) 345) ((fl_u (fl_u F 345 (F 344 1).toNat z) 344 1 (F 344 1 + 1)) 344 1) (l ++ nzl ((bys p q r s t).take (k + 1).toNat)) := by
  rw [bys_t h0 h1, nzl_app, ← hz, nzl, if_neg hb, nzl, ← List.append_assoc]
  exact rep_app h (by decide)

/- CheapPlannerModel.byteOf -/
abbrev pq_47 (G : Nat → Nat → Option Nat) (F : fl_N) (X : xi_H) (k p q r s t : Int) : Outcome → xi_H → Prop := gqi (fun z A => fl_H sh_T G F ++ X = A ∧ (z = byt p q r s t k) ∧ (0 ≤ z ∧ z ≤ 255)) gqn
theorem mc_47 {G : Nat → Nat → Option Nat} (hG : gg G) (F : fl_N) (X : xi_H) (hgi : gi F) (k p q r s t : Int) (hk : 0 ≤ k ∧ k ≤ 19) : fl_M xi_ms 47 0 0 [.int (Int32.ofInt k), .int (Int32.ofInt p), .int (Int32.ofInt q), .int (Int32.ofInt r), .int (Int32.ofInt s), .int (Int32.ofInt t)] (fl_H sh_T G F ++ X) (pq_47 G F X k p q r s t) := by
  intro fr lo hfr hlo
  show fl_R xi_ms 47 fr lo 0 [(0, .int (Int32.ofInt k)), (1, .int (Int32.ofInt p)), (2, .int (Int32.ofInt q)), (3, .int (Int32.ofInt r)), (4, .int (Int32.ofInt s)), (5, .int (Int32.ofInt t))] [] _ _
  refine ga_iload_n (z := k) hm_47 rfl rfl ?_
  refine fl_iconst hm_47 rfl ?_
  refine fl_icmp_ge (a := k) (b := 4) hm_47 rfl ⟨by omega, by omega⟩ ⟨by omega, by omega⟩ (fun h1_ => ?_) (fun h2_ => ?_)
  ·
    refine ga_iload_n (z := k) hm_47 rfl rfl ?_
    refine fl_bipush hm_47 rfl rfl ?_
    refine fl_icmp_ge (a := k) (b := 8) hm_47 rfl ⟨by omega, by omega⟩ ⟨by omega, by omega⟩ (fun h3_ => ?_) (fun h4_ => ?_)
    ·
      refine ga_iload_n (z := k) hm_47 rfl rfl ?_
      refine fl_bipush hm_47 rfl rfl ?_
      refine fl_icmp_ge (a := k) (b := 12) hm_47 rfl ⟨by omega, by omega⟩ ⟨by omega, by omega⟩ (fun h5_ => ?_) (fun h6_ => ?_)
      ·
        refine ga_iload_n (z := k) hm_47 rfl rfl ?_
        refine fl_bipush hm_47 rfl rfl ?_
        refine fl_icmp_ge (a := k) (b := 16) hm_47 rfl ⟨by omega, by omega⟩ ⟨by omega, by omega⟩ (fun h7_ => ?_) (fun h8_ => ?_)
        ·
          refine ga_iload (z := t) hm_47 rfl rfl ?_
          refine ga_istore (lv2 := [(6, .int (Int32.ofInt t)), (0, .int (Int32.ofInt k)), (1, .int (Int32.ofInt p)), (2, .int (Int32.ofInt q)), (3, .int (Int32.ofInt r)), (4, .int (Int32.ofInt s)), (5, .int (Int32.ofInt t))]) hm_47 rfl (Nat.le_of_ble_eq_true rfl) rfl ?_
          refine ga_iload (z := t) hm_47 rfl rfl ?_
          refine fl_bipush hm_47 rfl rfl ?_
          refine fl_bipush hm_47 rfl rfl ?_
          refine ga_iload_n (z := k) hm_47 rfl rfl ?_
          refine fl_iconst hm_47 rfl ?_
          refine ga_irem (a := k) (b := 4) hm_47 rfl (by omega) (by omega) (by omega) (by omega) ?_
          refine ga_imul (a := 8) (b := (k % 4)) (c := 8 * (k % 4)) hm_47 rfl (by omega) ?_
          refine ga_isub (a := 24) (b := 8 * (k % 4)) (c := -8 * (k % 4) + 24) hm_47 rfl (by omega) ?_
          have b9_ := bt8_bd t (-8 * (k % 4) + 24)
          refine ga_bt8 (v := t) (s := -8 * (k % 4) + 24) hm_47 rfl rfl rfl ?_
          refine gr_i (z := (bt8 t (-8 * (k % 4) + 24))) hm_47 rfl rfl rfl ?_
          exact ⟨rfl, (by unfold byt; (repeat (first | rw [if_pos (by omega)] | rw [if_neg (by omega)])); congr 1; omega), (⟨by omega, by omega⟩)⟩
        refine ga_iload (z := s) hm_47 rfl rfl ?_
        refine fl_goto hm_47 rfl ?_
        refine ga_istore (lv2 := [(6, .int (Int32.ofInt s)), (0, .int (Int32.ofInt k)), (1, .int (Int32.ofInt p)), (2, .int (Int32.ofInt q)), (3, .int (Int32.ofInt r)), (4, .int (Int32.ofInt s)), (5, .int (Int32.ofInt t))]) hm_47 rfl (Nat.le_of_ble_eq_true rfl) rfl ?_
        refine ga_iload (z := s) hm_47 rfl rfl ?_
        refine fl_bipush hm_47 rfl rfl ?_
        refine fl_bipush hm_47 rfl rfl ?_
        refine ga_iload_n (z := k) hm_47 rfl rfl ?_
        refine fl_iconst hm_47 rfl ?_
        refine ga_irem (a := k) (b := 4) hm_47 rfl (by omega) (by omega) (by omega) (by omega) ?_
        refine ga_imul (a := 8) (b := (k % 4)) (c := 8 * (k % 4)) hm_47 rfl (by omega) ?_
        refine ga_isub (a := 24) (b := 8 * (k % 4)) (c := -8 * (k % 4) + 24) hm_47 rfl (by omega) ?_
        have b10_ := bt8_bd s (-8 * (k % 4) + 24)
        refine ga_bt8 (v := s) (s := -8 * (k % 4) + 24) hm_47 rfl rfl rfl ?_
        refine gr_i (z := (bt8 s (-8 * (k % 4) + 24))) hm_47 rfl rfl rfl ?_
        exact ⟨rfl, (by unfold byt; (repeat (first | rw [if_pos (by omega)] | rw [if_neg (by omega)])); congr 1; omega), (⟨by omega, by omega⟩)⟩
      refine ga_iload_n (z := r) hm_47 rfl rfl ?_
      refine fl_goto hm_47 rfl ?_
      refine ga_istore (lv2 := [(6, .int (Int32.ofInt r)), (0, .int (Int32.ofInt k)), (1, .int (Int32.ofInt p)), (2, .int (Int32.ofInt q)), (3, .int (Int32.ofInt r)), (4, .int (Int32.ofInt s)), (5, .int (Int32.ofInt t))]) hm_47 rfl (Nat.le_of_ble_eq_true rfl) rfl ?_
      refine ga_iload (z := r) hm_47 rfl rfl ?_
      refine fl_bipush hm_47 rfl rfl ?_
      refine fl_bipush hm_47 rfl rfl ?_
      refine ga_iload_n (z := k) hm_47 rfl rfl ?_
      refine fl_iconst hm_47 rfl ?_
      refine ga_irem (a := k) (b := 4) hm_47 rfl (by omega) (by omega) (by omega) (by omega) ?_
      refine ga_imul (a := 8) (b := (k % 4)) (c := 8 * (k % 4)) hm_47 rfl (by omega) ?_
      refine ga_isub (a := 24) (b := 8 * (k % 4)) (c := -8 * (k % 4) + 24) hm_47 rfl (by omega) ?_
      have b11_ := bt8_bd r (-8 * (k % 4) + 24)
      refine ga_bt8 (v := r) (s := -8 * (k % 4) + 24) hm_47 rfl rfl rfl ?_
      refine gr_i (z := (bt8 r (-8 * (k % 4) + 24))) hm_47 rfl rfl rfl ?_
      exact ⟨rfl, (by unfold byt; (repeat (first | rw [if_pos (by omega)] | rw [if_neg (by omega)])); congr 1; omega), (⟨by omega, by omega⟩)⟩
    refine ga_iload_n (z := q) hm_47 rfl rfl ?_
    refine fl_goto hm_47 rfl ?_
    refine ga_istore (lv2 := [(6, .int (Int32.ofInt q)), (0, .int (Int32.ofInt k)), (1, .int (Int32.ofInt p)), (2, .int (Int32.ofInt q)), (3, .int (Int32.ofInt r)), (4, .int (Int32.ofInt s)), (5, .int (Int32.ofInt t))]) hm_47 rfl (Nat.le_of_ble_eq_true rfl) rfl ?_
    refine ga_iload (z := q) hm_47 rfl rfl ?_
    refine fl_bipush hm_47 rfl rfl ?_
    refine fl_bipush hm_47 rfl rfl ?_
    refine ga_iload_n (z := k) hm_47 rfl rfl ?_
    refine fl_iconst hm_47 rfl ?_
    refine ga_irem (a := k) (b := 4) hm_47 rfl (by omega) (by omega) (by omega) (by omega) ?_
    refine ga_imul (a := 8) (b := (k % 4)) (c := 8 * (k % 4)) hm_47 rfl (by omega) ?_
    refine ga_isub (a := 24) (b := 8 * (k % 4)) (c := -8 * (k % 4) + 24) hm_47 rfl (by omega) ?_
    have b12_ := bt8_bd q (-8 * (k % 4) + 24)
    refine ga_bt8 (v := q) (s := -8 * (k % 4) + 24) hm_47 rfl rfl rfl ?_
    refine gr_i (z := (bt8 q (-8 * (k % 4) + 24))) hm_47 rfl rfl rfl ?_
    exact ⟨rfl, (by unfold byt; (repeat (first | rw [if_pos (by omega)] | rw [if_neg (by omega)])); congr 1; omega), (⟨by omega, by omega⟩)⟩
  refine ga_iload_n (z := p) hm_47 rfl rfl ?_
  refine fl_goto hm_47 rfl ?_
  refine ga_istore (lv2 := [(6, .int (Int32.ofInt p)), (0, .int (Int32.ofInt k)), (1, .int (Int32.ofInt p)), (2, .int (Int32.ofInt q)), (3, .int (Int32.ofInt r)), (4, .int (Int32.ofInt s)), (5, .int (Int32.ofInt t))]) hm_47 rfl (Nat.le_of_ble_eq_true rfl) rfl ?_
  refine ga_iload (z := p) hm_47 rfl rfl ?_
  refine fl_bipush hm_47 rfl rfl ?_
  refine fl_bipush hm_47 rfl rfl ?_
  refine ga_iload_n (z := k) hm_47 rfl rfl ?_
  refine fl_iconst hm_47 rfl ?_
  refine ga_irem (a := k) (b := 4) hm_47 rfl (by omega) (by omega) (by omega) (by omega) ?_
  refine ga_imul (a := 8) (b := (k % 4)) (c := 8 * (k % 4)) hm_47 rfl (by omega) ?_
  refine ga_isub (a := 24) (b := 8 * (k % 4)) (c := -8 * (k % 4) + 24) hm_47 rfl (by omega) ?_
  have b13_ := bt8_bd p (-8 * (k % 4) + 24)
  refine ga_bt8 (v := p) (s := -8 * (k % 4) + 24) hm_47 rfl rfl rfl ?_
  refine gr_i (z := (bt8 p (-8 * (k % 4) + 24))) hm_47 rfl rfl rfl ?_
  exact ⟨rfl, (by unfold byt; (repeat (first | rw [if_pos (by omega)] | rw [if_neg (by omega)])); congr 1; omega), (⟨by omega, by omega⟩)⟩
/- CheapPlannerModel.text -/
abbrev pq_46 (G : Nat → Nat → Option Nat) (F : fl_N) (X : xi_H) (p q r s t : Int) (l : List Int) : Outcome → xi_H → Prop := gqi (fun z A => (∃ F' : fl_N, fl_H sh_T G F' ++ X = A ∧ gi F' ∧ fs [(344, 344, 0, 1), (345, 345, 0, 100000)] F F' ∧ (z = 0) ∧ (txs (bys p q r s t) l = none) ∧ (rep (F' 345) (F' 344 1) l)) ∨ (∃ F' : fl_N, fl_H sh_T G F' ++ X = A ∧ gi F' ∧ fs [(344, 344, 0, 1), (345, 345, 0, 100000)] F F' ∧ (z = 1) ∧ (∃ l2, txs (bys p q r s t) l = some l2 ∧ rep (F' 345) (F' 344 1) l2))) gqn
theorem mc_46 {G : Nat → Nat → Option Nat} (hG : gg G) (F : fl_N) (X : xi_H) (hgi : gi F) (p q r s t : Int) (l : List Int) (hl : rep (F 345) (F 344 1) l) (hn : (l.length : Int) ≤ 600) : fl_M xi_ms 46 1 26 [.ref 344, .int (Int32.ofInt p), .int (Int32.ofInt q), .int (Int32.ofInt r), .int (Int32.ofInt s), .int (Int32.ofInt t)] (fl_H sh_T G F ++ X) (pq_46 G F X p q r s t l) := by
  intro fr lo hfr hlo
  show fl_R xi_ms 46 fr lo 0 [(0, .ref 344), (1, .int (Int32.ofInt p)), (2, .int (Int32.ofInt q)), (3, .int (Int32.ofInt r)), (4, .int (Int32.ofInt s)), (5, .int (Int32.ofInt t))] [] _ _
  have hl1 := hl.1
  refine ga_aload_n (v := .ref 344) hm_46 rfl rfl rfl ?_
  refine fl_iconst hm_46 rfl ?_
  refine ga_puti (z := 0) hm_46 rfl sc_344 rfl rfl ?_
  refine fl_iconst hm_46 rfl ?_
  refine ga_istore (lv2 := [(6, .int (Int32.ofInt 0)), (0, .ref 344), (1, .int (Int32.ofInt p)), (2, .int (Int32.ofInt q)), (3, .int (Int32.ofInt r)), (4, .int (Int32.ofInt s)), (5, .int (Int32.ofInt t))]) hm_46 rfl (Nat.le_of_ble_eq_true rfl) rfl ?_
  refine fl_iconst hm_46 rfl ?_
  refine ga_istore (lv2 := [(7, .int (Int32.ofInt 1)), (6, .int (Int32.ofInt 0)), (0, .ref 344), (1, .int (Int32.ofInt p)), (2, .int (Int32.ofInt q)), (3, .int (Int32.ofInt r)), (4, .int (Int32.ofInt s)), (5, .int (Int32.ofInt t))]) hm_46 rfl (Nat.le_of_ble_eq_true rfl) rfl ?_
  refine fl_iconst hm_46 rfl ?_
  refine ga_istore (lv2 := [(8, .int (Int32.ofInt 0)), (7, .int (Int32.ofInt 1)), (6, .int (Int32.ofInt 0)), (0, .ref 344), (1, .int (Int32.ofInt p)), (2, .int (Int32.ofInt q)), (3, .int (Int32.ofInt r)), (4, .int (Int32.ofInt s)), (5, .int (Int32.ofInt t))]) hm_46 rfl (Nat.le_of_ble_eq_true rfl) rfl ?_
  obtain ⟨F1_, q2_⟩ : ∃ Fq_, Fq_ = (fl_u F 344 0 0) := ⟨_, rfl⟩
  rw [← q2_]
  have g3_ : gi F1_ := by rw [q2_]; exact gi_u (hgi) rfl (by omega) (by omega)
  have g4_ : fs [(344, 344, 0, 1), (345, 345, 0, 100000)] F F1_ := by rw [q2_]; exact fs_u (fs_refl) rfl
  have L6_ : ∀ (n5_ : Nat) (many : Int) (gd : Int) (k : Int), (20 - k : Int).toNat = n5_ → (0 ≤ k ∧ k ≤ 20) → (0 ≤ many ∧ many ≤ k) → (0 ≤ gd ∧ gd ≤ 1) → (many = ((nzl ((bys p q r s t).take k.toNat)).length : Int)) → ((gd = 1 ∧ okl ((bys p q r s t).take k.toNat)) ∨ (gd = 0 ∧ ¬ okl (bys p q r s t))) → fl_R xi_ms 46 fr lo 14 [(8, .int (Int32.ofInt k)), (7, .int (Int32.ofInt gd)), (6, .int (Int32.ofInt many)), (0, .ref 344), (1, .int (Int32.ofInt p)), (2, .int (Int32.ofInt q)), (3, .int (Int32.ofInt r)), (4, .int (Int32.ofInt s)), (5, .int (Int32.ofInt t))] [] (fl_H sh_T G F1_ ++ X) (pq_46 G F X p q r s t l) := by
    intro n5_
    induction n5_ using Nat.strongRecOn with
    | ind n5_ ih7_ =>
    intro many gd k hn8_ hk hmb hgb hm hg
    refine ga_iload (z := k) hm_46 rfl rfl ?_
    refine fl_bipush hm_46 rfl rfl ?_
    refine fl_icmp_ge (a := k) (b := 20) hm_46 rfl ⟨by omega, by omega⟩ ⟨by omega, by omega⟩ (fun h9_ => ?_) (fun h10_ => ?_)
    ·
      refine ga_iload (z := gd) hm_46 rfl rfl ?_
      refine fl_if_eq (a := gd) hm_46 rfl ⟨by omega, by omega⟩ (fun h11_ => ?_) (fun h12_ => ?_)
      ·
        
        refine fl_iconst hm_46 rfl ?_
        refine gr_i (z := 0) hm_46 rfl rfl (ga_nb (by omega)) ?_
        have e13_ : F1_ 344 1 = F 344 1 := by rw [q2_]; exact fl_u_ne (by first | exact nc_ rfl | decide | omega)
        have b14_ : 0 ≤ F 344 1 ∧ F 344 1 ≤ 600 := gi_g hgi rfl
        exact Or.inl ⟨F1_, rfl, g3_, g4_, rfl, ((txs_sn _ _ hn).2 (fun h9_ => by rcases hg with h8_ | h8_; (first | omega | (exfalso; have h7_ := hm; rw [show k.toNat = 20 by omega, bys_all] at h7_; omega)); exact h8_.2 h9_.1)), (by rw [e13_]; exact rep_cg hl (fun j hj => (show F1_ 345 j = F 345 j from (by rw [q2_]; exact (fl_u_ne (by first | exact nc_ rfl | decide | omega))))))⟩
      have hm9 := hm
      rw [show k.toNat = 20 by omega, bys_all] at hm9
      refine ga_aload_n (v := .ref 344) hm_46 rfl rfl rfl ?_
      have e15_ : F1_ 344 1 = F 344 1 := by rw [q2_]; exact fl_u_ne (by first | exact nc_ rfl | decide | omega)
      have b16_ : 0 ≤ F 344 1 ∧ F 344 1 ≤ 600 := gi_g hgi rfl
      refine ga_geti (z := F 344 1) hm_46 rfl sc_344 rfl (e15_) ?_
      refine ga_iload (z := many) hm_46 rfl rfl ?_
      refine ga_iadd (a := F 344 1) (b := many) (c := F 344 1 + many) hm_46 rfl (by omega) ?_
      refine fl_sipush hm_46 rfl rfl ?_
      refine fl_icmp_le (a := F 344 1 + many) (b := 600) hm_46 rfl ⟨by omega, by omega⟩ ⟨by omega, by omega⟩ (fun h17_ => ?_) (fun h18_ => ?_)
      ·
        have hk20 : k.toNat = 20 := by omega
        rw [hk20, bys_all] at hm
        have hok : okl (bys p q r s t) := by rcases hg with h9_ | h9_; rw [hk20, bys_all] at h9_; exact h9_.2; omega
        have hsum : (l.length : Int) + ((nzl (bys p q r s t)).length : Int) ≤ 600 := by omega
        refine fl_iconst hm_46 rfl ?_
        refine ga_istore (lv2 := [(8, .int (Int32.ofInt 0)), (7, .int (Int32.ofInt gd)), (6, .int (Int32.ofInt many)), (0, .ref 344), (1, .int (Int32.ofInt p)), (2, .int (Int32.ofInt q)), (3, .int (Int32.ofInt r)), (4, .int (Int32.ofInt s)), (5, .int (Int32.ofInt t))]) hm_46 rfl (Nat.le_of_ble_eq_true rfl) rfl ?_
        have L20_ : ∀ (n19_ : Nat) (k2 : Int) (F1 : fl_N), (20 - k2 : Int).toNat = n19_ → (gi F1) → (fs [(344, 344, 1, 1), (345, 345, 0, 100000)] F1_ F1) → (0 ≤ k2 ∧ k2 ≤ 20) → (rep (F1 345) (F1 344 1) (l ++ nzl ((bys p q r s t).take k2.toNat))) → fl_R xi_ms 46 fr lo 110 [(8, .int (Int32.ofInt k2)), (7, .int (Int32.ofInt gd)), (6, .int (Int32.ofInt many)), (0, .ref 344), (1, .int (Int32.ofInt p)), (2, .int (Int32.ofInt q)), (3, .int (Int32.ofInt r)), (4, .int (Int32.ofInt s)), (5, .int (Int32.ofInt t))] [] (fl_H sh_T G F1 ++ X) (pq_46 G F X p q r s t l) := by
          intro n19_
          induction n19_ using Nat.strongRecOn with
          | ind n19_ ih21_ =>
          intro k2 F1 hn22_ hg_F1 hf_F1 hk2 hr1
          have g23_ : fs [(344, 344, 0, 1), (345, 345, 0, 100000)] F F1 := fs_tr g4_ hf_F1 rfl
          refine ga_iload (z := k2) hm_46 rfl rfl ?_
          refine fl_bipush hm_46 rfl rfl ?_
          refine fl_icmp_ge (a := k2) (b := 20) hm_46 rfl ⟨by omega, by omega⟩ ⟨by omega, by omega⟩ (fun h24_ => ?_) (fun h25_ => ?_)
          ·
            refine fl_iconst hm_46 rfl ?_
            refine gr_i (z := 1) hm_46 rfl rfl (ga_nb (by omega)) ?_
            have b26_ : 0 ≤ F1 344 1 ∧ F1 344 1 ≤ 600 := gi_g hg_F1 rfl
            exact Or.inr (⟨F1, rfl, hg_F1, g23_, rfl, (⟨l ++ nzl (bys p q r s t), (txs_sn _ _ hn).1 hok hsum, by rw [show k2.toNat = 20 by omega, bys_all] at hr1; exact hr1⟩)⟩)
          refine ga_iload (z := k2) hm_46 rfl rfl ?_
          refine ga_iload_n (z := p) hm_46 rfl rfl ?_
          refine ga_iload_n (z := q) hm_46 rfl rfl ?_
          refine ga_iload_n (z := r) hm_46 rfl rfl ?_
          refine ga_iload (z := s) hm_46 rfl rfl ?_
          refine ga_iload (z := t) hm_46 rfl rfl ?_
          refine gSi (nY := 7) (F := 0) (L := 0) (As := [.int (Int32.ofInt k2), .int (Int32.ofInt p), .int (Int32.ofInt q), .int (Int32.ofInt r), .int (Int32.ofInt s), .int (Int32.ofInt t)]) (rest := []) hm_46 rfl hm_47 rfl rfl (fl_pos sc_0) rfl rfl rfl rfl (by omega) (by omega) (mc_47 hG F1 X hg_F1 (k2) (p) (q) (r) (s) (t) (⟨by omega, by omega⟩))  ?_
          rintro z27_ A1_ ⟨hA_, c28_, c29_⟩
          subst hA_
          refine ga_istore (lv2 := [(9, .int (Int32.ofInt z27_)), (8, .int (Int32.ofInt k2)), (7, .int (Int32.ofInt gd)), (6, .int (Int32.ofInt many)), (0, .ref 344), (1, .int (Int32.ofInt p)), (2, .int (Int32.ofInt q)), (3, .int (Int32.ofInt r)), (4, .int (Int32.ofInt s)), (5, .int (Int32.ofInt t))]) hm_46 rfl (Nat.le_of_ble_eq_true rfl) rfl ?_
          refine ga_iload (z := z27_) hm_46 rfl rfl ?_
          refine fx_if_ne (a := z27_) hm_46 rfl ⟨by omega, by omega⟩ (fun h30_ => ?_) (fun h31_ => ?_)
          ·
            have hok1 := bys_m (k := k2) (by omega) (by omega) hok
            have hsp1 := bys_sp (p := p) (q := q) (r := r) (s := s) (t := t) (k := k2) (by omega) (by omega)
            have hsp2 := nm_o (m := ((nzl ((bys p q r s t).take k2.toNat)).length : Int)) rfl c28_ (by omega) (by omega) (by omega)
            have hr11 := hr1.1
            rw [List.length_append] at hr11
            rw [← c28_] at hok1
            unfold okb at hok1
            refine ga_aload_n (v := .ref 344) hm_46 rfl rfl rfl ?_
            refine ga_getr (b := 345) hm_46 rfl sc_344 rfl ?_
            refine ga_aload_n (v := .ref 344) hm_46 rfl rfl rfl ?_
            have b32_ : 0 ≤ F1 344 1 ∧ F1 344 1 ≤ 600 := gi_g hg_F1 rfl
            refine ga_geti (z := F1 344 1) hm_46 rfl sc_344 rfl (rfl) ?_
            refine ga_iload (z := z27_) hm_46 rfl rfl ?_
            refine fl_iast (z := F1 344 1) (v := z27_) hm_46 rfl sc_345 (by omega) (by omega) (by omega) ?_
            refine ga_aload_n (v := .ref 344) hm_46 rfl rfl rfl ?_
            refine ga_dup hm_46 rfl rfl ?_
            refine ga_geti (z := F1 344 1) hm_46 rfl sc_344 rfl (fl_u_ne (by first | exact nc_ rfl | decide | omega)) ?_
            refine fl_iconst hm_46 rfl ?_
            refine ga_iadd (a := F1 344 1) (b := 1) (c := F1 344 1 + 1) hm_46 rfl (by omega) ?_
            refine ga_puti (z := F1 344 1 + 1) hm_46 rfl sc_344 rfl rfl ?_
            refine ga_inc (a := k2) (c := k2 + 1) (lv2 := [(8, .int (Int32.ofInt (k2 + 1))), (9, .int (Int32.ofInt z27_)), (7, .int (Int32.ofInt gd)), (6, .int (Int32.ofInt many)), (0, .ref 344), (1, .int (Int32.ofInt p)), (2, .int (Int32.ofInt q)), (3, .int (Int32.ofInt r)), (4, .int (Int32.ofInt s)), (5, .int (Int32.ofInt t))]) hm_46 rfl rfl (Nat.le_of_ble_eq_true rfl) rfl rfl ?_
            refine fl_goto hm_46 rfl ?_
            obtain ⟨F33_, q34_⟩ : ∃ Fq_, Fq_ = (fl_u (fl_u F1 345 (F1 344 1).toNat z27_) 344 1 (F1 344 1 + 1)) := ⟨_, rfl⟩
            rw [← q34_]
            have g35_ : gi F33_ := by rw [q34_]; exact gi_u (gi_u (hg_F1) rfl (by omega) (by omega)) rfl (by omega) (by omega)
            have g36_ : fs [(344, 344, 0, 1), (345, 345, 0, 100000)] F F33_ := by rw [q34_]; exact fs_u (fs_u (g23_) (fs_z (fs_y (by omega)))) rfl
            have e37_ : F33_ 344 1 = F1 344 1 + 1 := by rw [q34_]; exact fl_u_eq
            exact fl_R_sub (lv' := [(8, .int (Int32.ofInt (k2 + 1))), (7, .int (Int32.ofInt gd)), (6, .int (Int32.ofInt many)), (0, .ref 344), (1, .int (Int32.ofInt p)), (2, .int (Int32.ofInt q)), (3, .int (Int32.ofInt r)), (4, .int (Int32.ofInt s)), (5, .int (Int32.ofInt t))]) rfl rfl (ih21_ _ (by omega) (k2 + 1) F33_ rfl g35_ (by rw [q34_]; exact fs_u (fs_u (hf_F1) (fs_z (fs_y (by omega)))) rfl) (⟨by omega, by omega⟩) (by rw [q34_]; exact tr_o hr1 c28_ (by omega) (by omega) (by omega)))
          refine fl_goto hm_46 rfl ?_
          refine ga_inc (a := k2) (c := k2 + 1) (lv2 := [(8, .int (Int32.ofInt (k2 + 1))), (9, .int (Int32.ofInt z27_)), (7, .int (Int32.ofInt gd)), (6, .int (Int32.ofInt many)), (0, .ref 344), (1, .int (Int32.ofInt p)), (2, .int (Int32.ofInt q)), (3, .int (Int32.ofInt r)), (4, .int (Int32.ofInt s)), (5, .int (Int32.ofInt t))]) hm_46 rfl rfl (Nat.le_of_ble_eq_true rfl) rfl rfl ?_
          refine fl_goto hm_46 rfl ?_
          have b38_ : 0 ≤ F1 344 1 ∧ F1 344 1 ≤ 600 := gi_g hg_F1 rfl
          exact fl_R_sub (lv' := [(8, .int (Int32.ofInt (k2 + 1))), (7, .int (Int32.ofInt gd)), (6, .int (Int32.ofInt many)), (0, .ref 344), (1, .int (Int32.ofInt p)), (2, .int (Int32.ofInt q)), (3, .int (Int32.ofInt r)), (4, .int (Int32.ofInt s)), (5, .int (Int32.ofInt t))]) rfl rfl (ih21_ _ (by omega) (k2 + 1) F1 rfl hg_F1 hf_F1 (⟨by omega, by omega⟩) (tr_z hr1 c28_ (by omega) (by omega) (by omega)))
        exact L20_ _ (0) F1_ rfl g3_ fs_refl (⟨by omega, by omega⟩) (by rw [show nzl ((bys p q r s t).take (0 : Int).toNat) = [] from rfl, List.append_nil]; exact by rw [e15_]; exact rep_cg hl (fun j hj => (show F1_ 345 j = F 345 j from (by rw [q2_]; exact (fl_u_ne (by first | exact nc_ rfl | decide | omega))))))
      
      refine fl_iconst hm_46 rfl ?_
      refine gr_i (z := 0) hm_46 rfl rfl (ga_nb (by omega)) ?_
      exact Or.inl ⟨F1_, rfl, g3_, g4_, rfl, ((txs_sn _ _ hn).2 (fun h9_ => by rcases hg with h8_ | h8_; (first | omega | (exfalso; have h7_ := hm; rw [show k.toNat = 20 by omega, bys_all] at h7_; omega)); exact h8_.2 h9_.1)), (by rw [e15_]; exact rep_cg hl (fun j hj => (show F1_ 345 j = F 345 j from (by rw [q2_]; exact (fl_u_ne (by first | exact nc_ rfl | decide | omega))))))⟩
    refine ga_iload (z := k) hm_46 rfl rfl ?_
    refine ga_iload_n (z := p) hm_46 rfl rfl ?_
    refine ga_iload_n (z := q) hm_46 rfl rfl ?_
    refine ga_iload_n (z := r) hm_46 rfl rfl ?_
    refine ga_iload (z := s) hm_46 rfl rfl ?_
    refine ga_iload (z := t) hm_46 rfl rfl ?_
    refine gSi (nY := 7) (F := 0) (L := 0) (As := [.int (Int32.ofInt k), .int (Int32.ofInt p), .int (Int32.ofInt q), .int (Int32.ofInt r), .int (Int32.ofInt s), .int (Int32.ofInt t)]) (rest := []) hm_46 rfl hm_47 rfl rfl (fl_pos sc_0) rfl rfl rfl rfl (by omega) (by omega) (mc_47 hG F1_ X g3_ (k) (p) (q) (r) (s) (t) (⟨by omega, by omega⟩))  ?_
    rintro z39_ A1_ ⟨hA_, c40_, c41_⟩
    subst hA_
    refine ga_istore (lv2 := [(9, .int (Int32.ofInt z39_)), (8, .int (Int32.ofInt k)), (7, .int (Int32.ofInt gd)), (6, .int (Int32.ofInt many)), (0, .ref 344), (1, .int (Int32.ofInt p)), (2, .int (Int32.ofInt q)), (3, .int (Int32.ofInt r)), (4, .int (Int32.ofInt s)), (5, .int (Int32.ofInt t))]) hm_46 rfl (Nat.le_of_ble_eq_true rfl) rfl ?_
    refine ga_iload (z := many) hm_46 rfl rfl ?_
    refine ga_iload (z := z39_) hm_46 rfl rfl ?_
    refine fx_if_ne (a := z39_) hm_46 rfl ⟨by omega, by omega⟩ (fun h42_ => ?_) (fun h43_ => ?_)
    ·
      refine fl_iconst hm_46 rfl ?_
      refine ga_iadd (a := many) (b := 1) (c := many + 1) hm_46 rfl (by omega) ?_
      refine ga_istore (lv2 := [(6, .int (Int32.ofInt (many + 1))), (9, .int (Int32.ofInt z39_)), (8, .int (Int32.ofInt k)), (7, .int (Int32.ofInt gd)), (0, .ref 344), (1, .int (Int32.ofInt p)), (2, .int (Int32.ofInt q)), (3, .int (Int32.ofInt r)), (4, .int (Int32.ofInt s)), (5, .int (Int32.ofInt t))]) hm_46 rfl (Nat.le_of_ble_eq_true rfl) rfl ?_
      refine ga_iload (z := gd) hm_46 rfl rfl ?_
      refine fl_if_eq (a := gd) hm_46 rfl ⟨by omega, by omega⟩ (fun h44_ => ?_) (fun h45_ => ?_)
      ·
        refine fl_iconst hm_46 rfl ?_
        refine ga_istore (lv2 := [(7, .int (Int32.ofInt 0)), (6, .int (Int32.ofInt (many + 1))), (9, .int (Int32.ofInt z39_)), (8, .int (Int32.ofInt k)), (0, .ref 344), (1, .int (Int32.ofInt p)), (2, .int (Int32.ofInt q)), (3, .int (Int32.ofInt r)), (4, .int (Int32.ofInt s)), (5, .int (Int32.ofInt t))]) hm_46 rfl (Nat.le_of_ble_eq_true rfl) rfl ?_
        refine ga_inc (a := k) (c := k + 1) (lv2 := [(8, .int (Int32.ofInt (k + 1))), (7, .int (Int32.ofInt 0)), (6, .int (Int32.ofInt (many + 1))), (9, .int (Int32.ofInt z39_)), (0, .ref 344), (1, .int (Int32.ofInt p)), (2, .int (Int32.ofInt q)), (3, .int (Int32.ofInt r)), (4, .int (Int32.ofInt s)), (5, .int (Int32.ofInt t))]) hm_46 rfl rfl (Nat.le_of_ble_eq_true rfl) rfl rfl ?_
        refine fl_goto hm_46 rfl ?_
        exact fl_R_sub (lv' := [(8, .int (Int32.ofInt (k + 1))), (7, .int (Int32.ofInt 0)), (6, .int (Int32.ofInt (many + 1))), (0, .ref 344), (1, .int (Int32.ofInt p)), (2, .int (Int32.ofInt q)), (3, .int (Int32.ofInt r)), (4, .int (Int32.ofInt s)), (5, .int (Int32.ofInt t))]) rfl rfl (ih7_ _ (by omega) (many + 1) (0) (k + 1) rfl (⟨by omega, by omega⟩) (⟨by omega, by omega⟩) (⟨by omega, by omega⟩) (nm_o hm c40_ (by omega) (by omega) (by omega)) (Or.inr ⟨rfl, og_0 hg c40_ (by omega) (by omega) (by unfold okb; omega)⟩))
      refine ga_iload (z := z39_) hm_46 rfl rfl ?_
      refine fl_if_eq (a := z39_) hm_46 rfl ⟨by omega, by omega⟩ (fun h46_ => ?_) (fun h47_ => ?_)
      · exfalso; omega
      refine ga_iload (z := z39_) hm_46 rfl rfl ?_
      refine fl_bipush hm_46 rfl rfl ?_
      refine fl_icmp_le (a := z39_) (b := 31) hm_46 rfl ⟨by omega, by omega⟩ ⟨by omega, by omega⟩ (fun h48_ => ?_) (fun h49_ => ?_)
      ·
        refine fl_iconst hm_46 rfl ?_
        refine ga_istore (lv2 := [(7, .int (Int32.ofInt 0)), (6, .int (Int32.ofInt (many + 1))), (9, .int (Int32.ofInt z39_)), (8, .int (Int32.ofInt k)), (0, .ref 344), (1, .int (Int32.ofInt p)), (2, .int (Int32.ofInt q)), (3, .int (Int32.ofInt r)), (4, .int (Int32.ofInt s)), (5, .int (Int32.ofInt t))]) hm_46 rfl (Nat.le_of_ble_eq_true rfl) rfl ?_
        refine ga_inc (a := k) (c := k + 1) (lv2 := [(8, .int (Int32.ofInt (k + 1))), (7, .int (Int32.ofInt 0)), (6, .int (Int32.ofInt (many + 1))), (9, .int (Int32.ofInt z39_)), (0, .ref 344), (1, .int (Int32.ofInt p)), (2, .int (Int32.ofInt q)), (3, .int (Int32.ofInt r)), (4, .int (Int32.ofInt s)), (5, .int (Int32.ofInt t))]) hm_46 rfl rfl (Nat.le_of_ble_eq_true rfl) rfl rfl ?_
        refine fl_goto hm_46 rfl ?_
        exact fl_R_sub (lv' := [(8, .int (Int32.ofInt (k + 1))), (7, .int (Int32.ofInt 0)), (6, .int (Int32.ofInt (many + 1))), (0, .ref 344), (1, .int (Int32.ofInt p)), (2, .int (Int32.ofInt q)), (3, .int (Int32.ofInt r)), (4, .int (Int32.ofInt s)), (5, .int (Int32.ofInt t))]) rfl rfl (ih7_ _ (by omega) (many + 1) (0) (k + 1) rfl (⟨by omega, by omega⟩) (⟨by omega, by omega⟩) (⟨by omega, by omega⟩) (nm_o hm c40_ (by omega) (by omega) (by omega)) (Or.inr ⟨rfl, og_0 hg c40_ (by omega) (by omega) (by unfold okb; omega)⟩))
      refine ga_iload (z := z39_) hm_46 rfl rfl ?_
      refine fl_bipush hm_46 rfl rfl ?_
      refine fl_icmp_ge (a := z39_) (b := 127) hm_46 rfl ⟨by omega, by omega⟩ ⟨by omega, by omega⟩ (fun h50_ => ?_) (fun h51_ => ?_)
      ·
        refine fl_iconst hm_46 rfl ?_
        refine ga_istore (lv2 := [(7, .int (Int32.ofInt 0)), (6, .int (Int32.ofInt (many + 1))), (9, .int (Int32.ofInt z39_)), (8, .int (Int32.ofInt k)), (0, .ref 344), (1, .int (Int32.ofInt p)), (2, .int (Int32.ofInt q)), (3, .int (Int32.ofInt r)), (4, .int (Int32.ofInt s)), (5, .int (Int32.ofInt t))]) hm_46 rfl (Nat.le_of_ble_eq_true rfl) rfl ?_
        refine ga_inc (a := k) (c := k + 1) (lv2 := [(8, .int (Int32.ofInt (k + 1))), (7, .int (Int32.ofInt 0)), (6, .int (Int32.ofInt (many + 1))), (9, .int (Int32.ofInt z39_)), (0, .ref 344), (1, .int (Int32.ofInt p)), (2, .int (Int32.ofInt q)), (3, .int (Int32.ofInt r)), (4, .int (Int32.ofInt s)), (5, .int (Int32.ofInt t))]) hm_46 rfl rfl (Nat.le_of_ble_eq_true rfl) rfl rfl ?_
        refine fl_goto hm_46 rfl ?_
        exact fl_R_sub (lv' := [(8, .int (Int32.ofInt (k + 1))), (7, .int (Int32.ofInt 0)), (6, .int (Int32.ofInt (many + 1))), (0, .ref 344), (1, .int (Int32.ofInt p)), (2, .int (Int32.ofInt q)), (3, .int (Int32.ofInt r)), (4, .int (Int32.ofInt s)), (5, .int (Int32.ofInt t))]) rfl rfl (ih7_ _ (by omega) (many + 1) (0) (k + 1) rfl (⟨by omega, by omega⟩) (⟨by omega, by omega⟩) (⟨by omega, by omega⟩) (nm_o hm c40_ (by omega) (by omega) (by omega)) (Or.inr ⟨rfl, og_0 hg c40_ (by omega) (by omega) (by unfold okb; omega)⟩))
      refine fl_iconst hm_46 rfl ?_
      refine fl_goto hm_46 rfl ?_
      refine ga_istore (lv2 := [(7, .int (Int32.ofInt 1)), (6, .int (Int32.ofInt (many + 1))), (9, .int (Int32.ofInt z39_)), (8, .int (Int32.ofInt k)), (0, .ref 344), (1, .int (Int32.ofInt p)), (2, .int (Int32.ofInt q)), (3, .int (Int32.ofInt r)), (4, .int (Int32.ofInt s)), (5, .int (Int32.ofInt t))]) hm_46 rfl (Nat.le_of_ble_eq_true rfl) rfl ?_
      refine ga_inc (a := k) (c := k + 1) (lv2 := [(8, .int (Int32.ofInt (k + 1))), (7, .int (Int32.ofInt 1)), (6, .int (Int32.ofInt (many + 1))), (9, .int (Int32.ofInt z39_)), (0, .ref 344), (1, .int (Int32.ofInt p)), (2, .int (Int32.ofInt q)), (3, .int (Int32.ofInt r)), (4, .int (Int32.ofInt s)), (5, .int (Int32.ofInt t))]) hm_46 rfl rfl (Nat.le_of_ble_eq_true rfl) rfl rfl ?_
      refine fl_goto hm_46 rfl ?_
      exact fl_R_sub (lv' := [(8, .int (Int32.ofInt (k + 1))), (7, .int (Int32.ofInt 1)), (6, .int (Int32.ofInt (many + 1))), (0, .ref 344), (1, .int (Int32.ofInt p)), (2, .int (Int32.ofInt q)), (3, .int (Int32.ofInt r)), (4, .int (Int32.ofInt s)), (5, .int (Int32.ofInt t))]) rfl rfl (ih7_ _ (by omega) (many + 1) (1) (k + 1) rfl (⟨by omega, by omega⟩) (⟨by omega, by omega⟩) (⟨by omega, by omega⟩) (nm_o hm c40_ (by omega) (by omega) (by omega)) (Or.inl ⟨rfl, og_1 hg c40_ (by omega) (by omega) (by omega) (by unfold okb; omega)⟩))
    refine fl_iconst hm_46 rfl ?_
    refine fl_goto hm_46 rfl ?_
    refine ga_iadd (a := many) (b := 0) (c := many) hm_46 rfl (by omega) ?_
    refine ga_istore (lv2 := [(6, .int (Int32.ofInt many)), (9, .int (Int32.ofInt z39_)), (8, .int (Int32.ofInt k)), (7, .int (Int32.ofInt gd)), (0, .ref 344), (1, .int (Int32.ofInt p)), (2, .int (Int32.ofInt q)), (3, .int (Int32.ofInt r)), (4, .int (Int32.ofInt s)), (5, .int (Int32.ofInt t))]) hm_46 rfl (Nat.le_of_ble_eq_true rfl) rfl ?_
    refine ga_iload (z := gd) hm_46 rfl rfl ?_
    refine fl_if_eq (a := gd) hm_46 rfl ⟨by omega, by omega⟩ (fun h52_ => ?_) (fun h53_ => ?_)
    ·
      refine fl_iconst hm_46 rfl ?_
      refine ga_istore (lv2 := [(7, .int (Int32.ofInt 0)), (6, .int (Int32.ofInt many)), (9, .int (Int32.ofInt z39_)), (8, .int (Int32.ofInt k)), (0, .ref 344), (1, .int (Int32.ofInt p)), (2, .int (Int32.ofInt q)), (3, .int (Int32.ofInt r)), (4, .int (Int32.ofInt s)), (5, .int (Int32.ofInt t))]) hm_46 rfl (Nat.le_of_ble_eq_true rfl) rfl ?_
      refine ga_inc (a := k) (c := k + 1) (lv2 := [(8, .int (Int32.ofInt (k + 1))), (7, .int (Int32.ofInt 0)), (6, .int (Int32.ofInt many)), (9, .int (Int32.ofInt z39_)), (0, .ref 344), (1, .int (Int32.ofInt p)), (2, .int (Int32.ofInt q)), (3, .int (Int32.ofInt r)), (4, .int (Int32.ofInt s)), (5, .int (Int32.ofInt t))]) hm_46 rfl rfl (Nat.le_of_ble_eq_true rfl) rfl rfl ?_
      refine fl_goto hm_46 rfl ?_
      exact fl_R_sub (lv' := [(8, .int (Int32.ofInt (k + 1))), (7, .int (Int32.ofInt 0)), (6, .int (Int32.ofInt many)), (0, .ref 344), (1, .int (Int32.ofInt p)), (2, .int (Int32.ofInt q)), (3, .int (Int32.ofInt r)), (4, .int (Int32.ofInt s)), (5, .int (Int32.ofInt t))]) rfl rfl (ih7_ _ (by omega) (many) (0) (k + 1) rfl (⟨by omega, by omega⟩) (⟨by omega, by omega⟩) (⟨by omega, by omega⟩) (nm_z hm c40_ (by omega) (by omega) (by omega)) (Or.inr ⟨rfl, og_0 hg c40_ (by omega) (by omega) (by unfold okb; omega)⟩))
    refine ga_iload (z := z39_) hm_46 rfl rfl ?_
    refine fl_if_eq (a := z39_) hm_46 rfl ⟨by omega, by omega⟩ (fun h54_ => ?_) (fun h55_ => ?_)
    ·
      refine fl_iconst hm_46 rfl ?_
      refine fl_goto hm_46 rfl ?_
      refine ga_istore (lv2 := [(7, .int (Int32.ofInt 1)), (6, .int (Int32.ofInt many)), (9, .int (Int32.ofInt z39_)), (8, .int (Int32.ofInt k)), (0, .ref 344), (1, .int (Int32.ofInt p)), (2, .int (Int32.ofInt q)), (3, .int (Int32.ofInt r)), (4, .int (Int32.ofInt s)), (5, .int (Int32.ofInt t))]) hm_46 rfl (Nat.le_of_ble_eq_true rfl) rfl ?_
      refine ga_inc (a := k) (c := k + 1) (lv2 := [(8, .int (Int32.ofInt (k + 1))), (7, .int (Int32.ofInt 1)), (6, .int (Int32.ofInt many)), (9, .int (Int32.ofInt z39_)), (0, .ref 344), (1, .int (Int32.ofInt p)), (2, .int (Int32.ofInt q)), (3, .int (Int32.ofInt r)), (4, .int (Int32.ofInt s)), (5, .int (Int32.ofInt t))]) hm_46 rfl rfl (Nat.le_of_ble_eq_true rfl) rfl rfl ?_
      refine fl_goto hm_46 rfl ?_
      exact fl_R_sub (lv' := [(8, .int (Int32.ofInt (k + 1))), (7, .int (Int32.ofInt 1)), (6, .int (Int32.ofInt many)), (0, .ref 344), (1, .int (Int32.ofInt p)), (2, .int (Int32.ofInt q)), (3, .int (Int32.ofInt r)), (4, .int (Int32.ofInt s)), (5, .int (Int32.ofInt t))]) rfl rfl (ih7_ _ (by omega) (many) (1) (k + 1) rfl (⟨by omega, by omega⟩) (⟨by omega, by omega⟩) (⟨by omega, by omega⟩) (nm_z hm c40_ (by omega) (by omega) (by omega)) (Or.inl ⟨rfl, og_1 hg c40_ (by omega) (by omega) (by omega) (by unfold okb; omega)⟩))
    exfalso; omega
  exact L6_ _ (0) (1) (0) rfl (⟨by omega, by omega⟩) (⟨by omega, by omega⟩) (⟨by omega, by omega⟩) (rfl) (Or.inl ⟨rfl, fun x hx => by simp at hx⟩)

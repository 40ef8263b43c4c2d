theorem iw_step {f : Int → Int} {w : List Int} {i : Int} (h : ∀ q : Nat, (q : Int) < i → f q = w.getD q 0) (h0 : 0 ≤ i) (hi : i < 16) (he : f i = w.getD i.toNat 0) : ∀ q : Nat, (q : Int) < i + 1 → f q = w.getD q 0 := by
  intro q hq
  by_cases e : (q : Int) < i
  · exact h q e
  · have e2 : (q : Int) = i := by omega
    rw [e2, he, show i.toNat = q by omega]
theorem iw_no {P : Prop} {B : Bool} {Z : Prop} {f : Int → Int} {w : List Int} {i : Int} (h : B = true ↔ Z ∧ ∀ q : Nat, q < 16 → f q = w.getD q 0) (h0 : 0 ≤ i) (hi : i < 16) (he : ¬ f i = w.getD i.toNat 0) : ¬ (P ∧ B = true) := by
  rintro ⟨_, hb⟩
  have h9 := (h.mp hb).2 i.toNat (by omega)
  rw [show ((i.toNat : Nat) : Int) = i by omega] at h9
  exact he h9
theorem pw_37 : ∀ k : Nat, k < 7 → (37 : Int) ^ k ≤ 2565726409 := by decide
theorem nr_m {v i s : Int} (h0 : 0 ≤ v) (h : v < 37 ^ (i - s).toNat) (hi : i - s ≤ 6) : 0 ≤ v ∧ v < 2565726409 := by
  have h1 := pw_37 (i - s).toNat (by omega)
  omega
theorem nr_b {v c d i s : Int} (h0 : 0 ≤ v) (h : v < 37 ^ (i - s).toNat) (hs : s ≤ i) (hc : isnc c) (hd : dg37 c = d) : 0 ≤ 37 * v + d ∧ 37 * v + d < 37 ^ (i + 1 - s).toNat := by
  have h1 := dg37_bd hc
  rw [show (i + 1 - s).toNat = (i - s).toNat + 1 by omega, Int.pow_succ]
  omega
theorem nr_step {f : Nat → Int} {i e v t d : Int} (h : nro f i.toNat (e - i).toNat v = t) (hi : i < e) (h0 : 0 ≤ i) (hc : isnc (f i.toNat)) (hd : dg37 (f i.toNat) = d) : nro f (i + 1).toNat (e - (i + 1)).toNat (37 * v + d) = t := by
  have e1 : (e - i).toNat = (e - (i + 1)).toNat + 1 := by omega
  have e2 : (i + 1).toNat = i.toNat + 1 := by omega
  rw [e1] at h
  unfold nro at h
  rw [if_pos hc, hd] at h
  rw [e2]
  exact h
theorem nr_bad {f : Nat → Int} {i e v t : Int} (h : nro f i.toNat (e - i).toNat v = t) (hi : i < e) (hc : ¬ isnc (f i.toNat)) : 0 = t := by
  have e1 : (e - i).toNat = (e - (i + 1)).toNat + 1 := by omega
  rw [e1] at h
  unfold nro at h
  rw [if_neg hc] at h
  exact h
theorem nr_end {f : Nat → Int} {i e v t : Int} (h : nro f i.toNat (e - i).toNat v = t) (hi : e ≤ i) : v = t := by
  have e1 : (e - i).toNat = 0 := by omega
  rw [e1] at h
  exact h
theorem kw_0 {K F : fl_N} (h : rk K F) : ∀ q : Nat, q < 16 → bt8 (F 346 (4 * (0 : Int).toNat + q / 4)) (24 - 8 * ((q : Int) % 4)) = ([100, 101, 102, 105, 110, 101] : List Int).getD q 0 := by
  intro q hq
  rw [h.2.2.2 _ (by show 4 * 0 + q / 4 < 76; omega)]
  exact (by decide +kernel : ∀ q : Nat, q < 16 → bt8 (ra_at 346 (4 * (0 : Int).toNat + q / 4)) (24 - 8 * ((q : Int) % 4)) = ([100, 101, 102, 105, 110, 101] : List Int).getD q 0) q hq
theorem kw_1 {K F : fl_N} (h : rk K F) : ∀ q : Nat, q < 16 → bt8 (F 346 (4 * (1 : Int).toNat + q / 4)) (24 - 8 * ((q : Int) % 4)) = ([100, 111, 109, 97, 105, 110] : List Int).getD q 0 := by
  intro q hq
  rw [h.2.2.2 _ (by show 4 * 1 + q / 4 < 76; omega)]
  exact (by decide +kernel : ∀ q : Nat, q < 16 → bt8 (ra_at 346 (4 * (1 : Int).toNat + q / 4)) (24 - 8 * ((q : Int) % 4)) = ([100, 111, 109, 97, 105, 110] : List Int).getD q 0) q hq
theorem kw_2 {K F : fl_N} (h : rk K F) : ∀ q : Nat, q < 16 → bt8 (F 346 (4 * (2 : Int).toNat + q / 4)) (24 - 8 * ((q : Int) % 4)) = ([58, 116, 121, 112, 101, 115] : List Int).getD q 0 := by
  intro q hq
  rw [h.2.2.2 _ (by show 4 * 2 + q / 4 < 76; omega)]
  exact (by decide +kernel : ∀ q : Nat, q < 16 → bt8 (ra_at 346 (4 * (2 : Int).toNat + q / 4)) (24 - 8 * ((q : Int) % 4)) = ([58, 116, 121, 112, 101, 115] : List Int).getD q 0) q hq
theorem kw_3 {K F : fl_N} (h : rk K F) : ∀ q : Nat, q < 16 → bt8 (F 346 (4 * (3 : Int).toNat + q / 4)) (24 - 8 * ((q : Int) % 4)) = ([58, 112, 114, 101, 100, 105, 99, 97, 116, 101, 115] : List Int).getD q 0 := by
  intro q hq
  rw [h.2.2.2 _ (by show 4 * 3 + q / 4 < 76; omega)]
  exact (by decide +kernel : ∀ q : Nat, q < 16 → bt8 (ra_at 346 (4 * (3 : Int).toNat + q / 4)) (24 - 8 * ((q : Int) % 4)) = ([58, 112, 114, 101, 100, 105, 99, 97, 116, 101, 115] : List Int).getD q 0) q hq
theorem kw_4 {K F : fl_N} (h : rk K F) : ∀ q : Nat, q < 16 → bt8 (F 346 (4 * (4 : Int).toNat + q / 4)) (24 - 8 * ((q : Int) % 4)) = ([58, 97, 99, 116, 105, 111, 110] : List Int).getD q 0 := by
  intro q hq
  rw [h.2.2.2 _ (by show 4 * 4 + q / 4 < 76; omega)]
  exact (by decide +kernel : ∀ q : Nat, q < 16 → bt8 (ra_at 346 (4 * (4 : Int).toNat + q / 4)) (24 - 8 * ((q : Int) % 4)) = ([58, 97, 99, 116, 105, 111, 110] : List Int).getD q 0) q hq
theorem kw_5 {K F : fl_N} (h : rk K F) : ∀ q : Nat, q < 16 → bt8 (F 346 (4 * (5 : Int).toNat + q / 4)) (24 - 8 * ((q : Int) % 4)) = ([58, 112, 97, 114, 97, 109, 101, 116, 101, 114, 115] : List Int).getD q 0 := by
  intro q hq
  rw [h.2.2.2 _ (by show 4 * 5 + q / 4 < 76; omega)]
  exact (by decide +kernel : ∀ q : Nat, q < 16 → bt8 (ra_at 346 (4 * (5 : Int).toNat + q / 4)) (24 - 8 * ((q : Int) % 4)) = ([58, 112, 97, 114, 97, 109, 101, 116, 101, 114, 115] : List Int).getD q 0) q hq
theorem kw_6 {K F : fl_N} (h : rk K F) : ∀ q : Nat, q < 16 → bt8 (F 346 (4 * (6 : Int).toNat + q / 4)) (24 - 8 * ((q : Int) % 4)) = ([58, 112, 114, 101, 99, 111, 110, 100, 105, 116, 105, 111, 110] : List Int).getD q 0 := by
  intro q hq
  rw [h.2.2.2 _ (by show 4 * 6 + q / 4 < 76; omega)]
  exact (by decide +kernel : ∀ q : Nat, q < 16 → bt8 (ra_at 346 (4 * (6 : Int).toNat + q / 4)) (24 - 8 * ((q : Int) % 4)) = ([58, 112, 114, 101, 99, 111, 110, 100, 105, 116, 105, 111, 110] : List Int).getD q 0) q hq
theorem kw_7 {K F : fl_N} (h : rk K F) : ∀ q : Nat, q < 16 → bt8 (F 346 (4 * (7 : Int).toNat + q / 4)) (24 - 8 * ((q : Int) % 4)) = ([58, 101, 102, 102, 101, 99, 116] : List Int).getD q 0 := by
  intro q hq
  rw [h.2.2.2 _ (by show 4 * 7 + q / 4 < 76; omega)]
  exact (by decide +kernel : ∀ q : Nat, q < 16 → bt8 (ra_at 346 (4 * (7 : Int).toNat + q / 4)) (24 - 8 * ((q : Int) % 4)) = ([58, 101, 102, 102, 101, 99, 116] : List Int).getD q 0) q hq
theorem kw_8 {K F : fl_N} (h : rk K F) : ∀ q : Nat, q < 16 → bt8 (F 346 (4 * (8 : Int).toNat + q / 4)) (24 - 8 * ((q : Int) % 4)) = ([97, 110, 100] : List Int).getD q 0 := by
  intro q hq
  rw [h.2.2.2 _ (by show 4 * 8 + q / 4 < 76; omega)]
  exact (by decide +kernel : ∀ q : Nat, q < 16 → bt8 (ra_at 346 (4 * (8 : Int).toNat + q / 4)) (24 - 8 * ((q : Int) % 4)) = ([97, 110, 100] : List Int).getD q 0) q hq
theorem kw_9 {K F : fl_N} (h : rk K F) : ∀ q : Nat, q < 16 → bt8 (F 346 (4 * (9 : Int).toNat + q / 4)) (24 - 8 * ((q : Int) % 4)) = ([110, 111, 116] : List Int).getD q 0 := by
  intro q hq
  rw [h.2.2.2 _ (by show 4 * 9 + q / 4 < 76; omega)]
  exact (by decide +kernel : ∀ q : Nat, q < 16 → bt8 (ra_at 346 (4 * (9 : Int).toNat + q / 4)) (24 - 8 * ((q : Int) % 4)) = ([110, 111, 116] : List Int).getD q 0) q hq
theorem kw_10 {K F : fl_N} (h : rk K F) : ∀ q : Nat, q < 16 → bt8 (F 346 (4 * (10 : Int).toNat + q / 4)) (24 - 8 * ((q : Int) % 4)) = ([61] : List Int).getD q 0 := by
  intro q hq
  rw [h.2.2.2 _ (by show 4 * 10 + q / 4 < 76; omega)]
  exact (by decide +kernel : ∀ q : Nat, q < 16 → bt8 (ra_at 346 (4 * (10 : Int).toNat + q / 4)) (24 - 8 * ((q : Int) % 4)) = ([61] : List Int).getD q 0) q hq
theorem kw_11 {K F : fl_N} (h : rk K F) : ∀ q : Nat, q < 16 → bt8 (F 346 (4 * (11 : Int).toNat + q / 4)) (24 - 8 * ((q : Int) % 4)) = ([105, 110, 99, 114, 101, 97, 115, 101] : List Int).getD q 0 := by
  intro q hq
  rw [h.2.2.2 _ (by show 4 * 11 + q / 4 < 76; omega)]
  exact (by decide +kernel : ∀ q : Nat, q < 16 → bt8 (ra_at 346 (4 * (11 : Int).toNat + q / 4)) (24 - 8 * ((q : Int) % 4)) = ([105, 110, 99, 114, 101, 97, 115, 101] : List Int).getD q 0) q hq
theorem kw_12 {K F : fl_N} (h : rk K F) : ∀ q : Nat, q < 16 → bt8 (F 346 (4 * (12 : Int).toNat + q / 4)) (24 - 8 * ((q : Int) % 4)) = ([116, 111, 116, 97, 108, 45, 99, 111, 115, 116] : List Int).getD q 0 := by
  intro q hq
  rw [h.2.2.2 _ (by show 4 * 12 + q / 4 < 76; omega)]
  exact (by decide +kernel : ∀ q : Nat, q < 16 → bt8 (ra_at 346 (4 * (12 : Int).toNat + q / 4)) (24 - 8 * ((q : Int) % 4)) = ([116, 111, 116, 97, 108, 45, 99, 111, 115, 116] : List Int).getD q 0) q hq
theorem kw_13 {K F : fl_N} (h : rk K F) : ∀ q : Nat, q < 16 → bt8 (F 346 (4 * (13 : Int).toNat + q / 4)) (24 - 8 * ((q : Int) % 4)) = ([112, 114, 111, 98, 108, 101, 109] : List Int).getD q 0 := by
  intro q hq
  rw [h.2.2.2 _ (by show 4 * 13 + q / 4 < 76; omega)]
  exact (by decide +kernel : ∀ q : Nat, q < 16 → bt8 (ra_at 346 (4 * (13 : Int).toNat + q / 4)) (24 - 8 * ((q : Int) % 4)) = ([112, 114, 111, 98, 108, 101, 109] : List Int).getD q 0) q hq
theorem kw_14 {K F : fl_N} (h : rk K F) : ∀ q : Nat, q < 16 → bt8 (F 346 (4 * (14 : Int).toNat + q / 4)) (24 - 8 * ((q : Int) % 4)) = ([58, 100, 111, 109, 97, 105, 110] : List Int).getD q 0 := by
  intro q hq
  rw [h.2.2.2 _ (by show 4 * 14 + q / 4 < 76; omega)]
  exact (by decide +kernel : ∀ q : Nat, q < 16 → bt8 (ra_at 346 (4 * (14 : Int).toNat + q / 4)) (24 - 8 * ((q : Int) % 4)) = ([58, 100, 111, 109, 97, 105, 110] : List Int).getD q 0) q hq
theorem kw_15 {K F : fl_N} (h : rk K F) : ∀ q : Nat, q < 16 → bt8 (F 346 (4 * (15 : Int).toNat + q / 4)) (24 - 8 * ((q : Int) % 4)) = ([58, 111, 98, 106, 101, 99, 116, 115] : List Int).getD q 0 := by
  intro q hq
  rw [h.2.2.2 _ (by show 4 * 15 + q / 4 < 76; omega)]
  exact (by decide +kernel : ∀ q : Nat, q < 16 → bt8 (ra_at 346 (4 * (15 : Int).toNat + q / 4)) (24 - 8 * ((q : Int) % 4)) = ([58, 111, 98, 106, 101, 99, 116, 115] : List Int).getD q 0) q hq
theorem kw_16 {K F : fl_N} (h : rk K F) : ∀ q : Nat, q < 16 → bt8 (F 346 (4 * (16 : Int).toNat + q / 4)) (24 - 8 * ((q : Int) % 4)) = ([58, 105, 110, 105, 116] : List Int).getD q 0 := by
  intro q hq
  rw [h.2.2.2 _ (by show 4 * 16 + q / 4 < 76; omega)]
  exact (by decide +kernel : ∀ q : Nat, q < 16 → bt8 (ra_at 346 (4 * (16 : Int).toNat + q / 4)) (24 - 8 * ((q : Int) % 4)) = ([58, 105, 110, 105, 116] : List Int).getD q 0) q hq
theorem kw_17 {K F : fl_N} (h : rk K F) : ∀ q : Nat, q < 16 → bt8 (F 346 (4 * (17 : Int).toNat + q / 4)) (24 - 8 * ((q : Int) % 4)) = ([58, 103, 111, 97, 108] : List Int).getD q 0 := by
  intro q hq
  rw [h.2.2.2 _ (by show 4 * 17 + q / 4 < 76; omega)]
  exact (by decide +kernel : ∀ q : Nat, q < 16 → bt8 (ra_at 346 (4 * (17 : Int).toNat + q / 4)) (24 - 8 * ((q : Int) % 4)) = ([58, 103, 111, 97, 108] : List Int).getD q 0) q hq
theorem kw_18 {K F : fl_N} (h : rk K F) : ∀ q : Nat, q < 16 → bt8 (F 346 (4 * (18 : Int).toNat + q / 4)) (24 - 8 * ((q : Int) % 4)) = ([45] : List Int).getD q 0 := by
  intro q hq
  rw [h.2.2.2 _ (by show 4 * 18 + q / 4 < 76; omega)]
  exact (by decide +kernel : ∀ q : Nat, q < 16 → bt8 (ra_at 346 (4 * (18 : Int).toNat + q / 4)) (24 - 8 * ((q : Int) % 4)) = ([45] : List Int).getD q 0) q hq

/- CheapPlannerModel.isWord -/
abbrev pq_56 (G : Nat → Nat → Option Nat) (F : fl_N) (X : xi_H) (K : fl_N) (kw : Int) (w : List Int) : Outcome → xi_H → Prop := gqi (fun z A => (fl_H sh_T G F ++ X = A ∧ (z = 0) ∧ (¬ (F 344 9 = 0 ∧ isw K (F 344 5) w = true))) ∨ (fl_H sh_T G F ++ X = A ∧ (z = 1) ∧ ((F 344 9 = 0 ∧ isw K (F 344 5) w = true)) ∧ (F 344 5 < K 1 6 - 1))) gqn
theorem mc_56 {G : Nat → Nat → Option Nat} (hG : gg G) (F : fl_N) (X : xi_H) (hgi : gi F) (K : fl_N) (kw : Int) (w : List Int) (hgK : gi K) (hrk : rk K F) (hkt : rkt K) (hp : 0 ≤ F 344 5 ∧ F 344 5 ≤ K 1 6 - 1) (hkw : 0 ≤ kw ∧ kw ≤ 18) (hw : (1 ≤ w.length ∧ w.length ≤ 16) ∧ ∀ q : Nat, q < w.length → w.getD q 0 ≠ 0) (hb : ∀ q : Nat, q < 16 → bt8 (F 346 (4 * kw.toNat + q / 4)) (24 - 8 * ((q : Int) % 4)) = w.getD q 0) : fl_M xi_ms 56 1 21 [.ref 344, .int (Int32.ofInt kw)] (fl_H sh_T G F ++ X) (pq_56 G F X K kw w) := by
  intro fr lo hfr hlo
  show fl_R xi_ms 56 fr lo 0 [(0, .ref 344), (1, .int (Int32.ofInt kw))] [] _ _
  have hP := rkt_p hkt hp.1 hp.2 hgK
  have hK16 : 0 ≤ K 1 6 ∧ K 1 6 ≤ 601 := gi_g hgK rfl
  have hkf := kw_iff hkt hgK hp.1 hp.2 hw.1 hw.2
  refine ga_aload_n (v := .ref 344) hm_56 rfl rfl rfl ?_
  have b1_ : 0 ≤ F 344 9 ∧ F 344 9 ≤ 5 := gi_g hgi rfl
  refine ga_geti (z := F 344 9) hm_56 rfl sc_344 rfl (rfl) ?_
  refine fx_if_ne (a := F 344 9) hm_56 rfl ⟨by omega, by omega⟩ (fun h2_ => ?_) (fun h3_ => ?_)
  ·
    refine fl_iconst hm_56 rfl ?_
    refine ga_istore_n (lv2 := [(2, .int (Int32.ofInt 0)), (0, .ref 344), (1, .int (Int32.ofInt kw))]) hm_56 rfl (Nat.le_of_ble_eq_true rfl) rfl ?_
    refine fl_iconst hm_56 rfl ?_
    refine ga_istore_n (lv2 := [(3, .int (Int32.ofInt 0)), (2, .int (Int32.ofInt 0)), (0, .ref 344), (1, .int (Int32.ofInt kw))]) hm_56 rfl (Nat.le_of_ble_eq_true rfl) rfl ?_
    have b7_ : 0 ≤ F 344 5 ∧ F 344 5 ≤ 600 := gi_g hgi rfl
    have L5_ : ∀ (n4_ : Nat) (i : Int) (sm : Int), (16 - i : Int).toNat = n4_ → (0 ≤ i ∧ i ≤ 16) → ((sm = 1 ∧ (F 344 9 = 0 ∧ 1 ≤ K 5 (F 344 5).toNat - K 4 (F 344 5).toNat ∧ K 5 (F 344 5).toNat - K 4 (F 344 5).toNat ≤ 16) ∧ ∀ q : Nat, (q : Int) < i → wlet K (F 344 5) q = w.getD q 0) ∨ (sm = 0 ∧ ¬ (F 344 9 = 0 ∧ isw K (F 344 5) w = true))) → fl_R xi_ms 56 fr lo 31 [(3, .int (Int32.ofInt i)), (2, .int (Int32.ofInt sm)), (0, .ref 344), (1, .int (Int32.ofInt kw))] [] (fl_H sh_T G F ++ X) (pq_56 G F X K kw w) := by
      intro n4_
      induction n4_ using Nat.strongRecOn with
      | ind n4_ ih6_ =>
      intro i sm hn8_ hi hsm
      have hsr : sm = 0 ∨ sm = 1 := by rcases hsm with h | h; exact Or.inr h.1; exact Or.inl h.1
      have hs1_ : ¬ sm = 0 → (F 344 9 = 0 ∧ 1 ≤ K 5 (F 344 5).toNat - K 4 (F 344 5).toNat ∧ K 5 (F 344 5).toNat - K 4 (F 344 5).toNat ≤ 16) ∧ ∀ q : Nat, (q : Int) < i → wlet K (F 344 5) q = w.getD q 0 := by intro h; rcases hsm with h2 | h2; exact h2.2; exact absurd h2.1 h
      have hs0_ : sm = 0 → ¬ (F 344 9 = 0 ∧ isw K (F 344 5) w = true) := by intro h; rcases hsm with h2 | h2; omega; exact h2.2
      refine ga_iload_n (z := i) hm_56 rfl rfl ?_
      refine fl_bipush hm_56 rfl rfl ?_
      refine fl_icmp_ge (a := i) (b := 16) hm_56 rfl ⟨by omega, by omega⟩ ⟨by omega, by omega⟩ (fun h9_ => ?_) (fun h10_ => ?_)
      ·
        refine ga_iload_n (z := sm) hm_56 rfl rfl ?_
        refine gr_i (z := sm) hm_56 rfl rfl (ga_nb (by omega)) ?_
        rcases hsr with hz0 | hz1
        · exact Or.inl ⟨rfl, hz0, hs0_ hz0⟩
        · exact Or.inr ⟨rfl, hz1, ⟨(hs1_ (by omega)).1.1, hkf.mpr ⟨by have := (hs1_ (by omega)).1; omega, fun q hq => (hs1_ (by omega)).2 q (by omega)⟩⟩, by have := (hs1_ (by omega)).1; omega⟩
      refine ga_iload_n (z := sm) hm_56 rfl rfl ?_
      refine fl_if_eq (a := sm) hm_56 rfl ⟨by omega, by omega⟩ (fun h11_ => ?_) (fun h12_ => ?_)
      ·
        refine ga_iload_n (z := sm) hm_56 rfl rfl ?_
        refine gr_i (z := sm) hm_56 rfl rfl (ga_nb (by omega)) ?_
        exact Or.inl ⟨rfl, by assumption, hs0_ (by assumption)⟩
      refine ga_aload_n (v := .ref 344) hm_56 rfl rfl rfl ?_
      refine ga_aload_n (v := .ref 344) hm_56 rfl rfl rfl ?_
      refine ga_getr (b := 347) hm_56 rfl sc_344 rfl ?_
      refine ga_aload_n (v := .ref 344) hm_56 rfl rfl rfl ?_
      refine ga_geti (z := F 344 5) hm_56 rfl sc_344 rfl (rfl) ?_
      have e13_ : F 347 (F 344 5).toNat = K 4 (F 344 5).toNat := (hrk.1 (F 344 5) (by omega) (by omega)).1
      have b14_ : 0 ≤ K 4 (F 344 5).toNat ∧ K 4 (F 344 5).toNat ≤ 600 := gi_g hgK rfl
      refine ga_iald (z := F 344 5) (w := K 4 (F 344 5).toNat) hm_56 rfl sc_347 (by omega) (by omega) (by omega) (e13_) ?_
      refine ga_iload_n (z := i) hm_56 rfl rfl ?_
      refine ga_iadd (a := K 4 (F 344 5).toNat) (b := i) (c := K 4 (F 344 5).toNat + i) hm_56 rfl (by omega) ?_
      refine gVi (nY := 2) (F := 0) (L := 0) (As := [.int (Int32.ofInt (K 4 (F 344 5).toNat + i))]) (b := 344) (rest := []) hm_56 rfl hm_57 rfl rfl (fl_ob sc_344) rfl rfl rfl rfl rfl (by omega) (by omega) (mc_57 hG F X hgi (K) (K 4 (F 344 5).toNat + i) hgK hrk hkt (by omega) (by omega)) (fun _ _ h => False.elim h) ?_
      rintro z15_ A1_ ⟨hA_, c16_, c17_⟩
      subst hA_
      have hbb_ := hb i.toNat (by omega)
      rw [show ((i.toNat : Nat) : Int) = i by omega, show 4 * kw.toNat + i.toNat / 4 = (4 * kw + i / 4).toNat by omega, show (24 : Int) - 8 * (i % 4) = -8 * (i % 4) + 24 by omega] at hbb_
      refine ga_aload_n (v := .ref 344) hm_56 rfl rfl rfl ?_
      refine ga_getr (b := 346) hm_56 rfl sc_344 rfl ?_
      refine fl_iconst hm_56 rfl ?_
      refine ga_iload_n (z := kw) hm_56 rfl rfl ?_
      refine ga_imul (a := 4) (b := kw) (c := 4 * kw) hm_56 rfl (by omega) ?_
      refine ga_iload_n (z := i) hm_56 rfl rfl ?_
      refine fl_iconst hm_56 rfl ?_
      refine ga_idiv (a := i) (b := 4) hm_56 rfl (by omega) (by omega) (by omega) (by omega) ?_
      refine ga_iadd (a := 4 * kw) (b := (i / 4)) (c := 4 * kw + (i / 4)) hm_56 rfl (by omega) ?_
      have b18_ : -2147483648 ≤ F 346 (4 * kw + (i / 4)).toNat ∧ F 346 (4 * kw + (i / 4)).toNat ≤ 2147483647 := gi_g hgi rfl
      refine ga_iald (z := 4 * kw + (i / 4)) (w := F 346 (4 * kw + (i / 4)).toNat) hm_56 rfl sc_346 (by omega) (by omega) (by omega) (rfl) ?_
      refine fl_bipush hm_56 rfl rfl ?_
      refine fl_bipush hm_56 rfl rfl ?_
      refine ga_iload_n (z := i) hm_56 rfl rfl ?_
      refine fl_iconst hm_56 rfl ?_
      refine ga_irem (a := i) (b := 4) hm_56 rfl (by omega) (by omega) (by omega) (by omega) ?_
      refine ga_imul (a := 8) (b := (i % 4)) (c := 8 * (i % 4)) hm_56 rfl (by omega) ?_
      refine ga_isub (a := 24) (b := 8 * (i % 4)) (c := -8 * (i % 4) + 24) hm_56 rfl (by omega) ?_
      have b19_ := bt8_bd (F 346 (4 * kw + (i / 4)).toNat) (-8 * (i % 4) + 24)
      refine ga_bt8 (v := F 346 (4 * kw + (i / 4)).toNat) (s := -8 * (i % 4) + 24) hm_56 rfl rfl rfl ?_
      refine fx_icmp_ne (a := z15_) (b := (bt8 (F 346 (4 * kw + (i / 4)).toNat) (-8 * (i % 4) + 24))) hm_56 rfl ⟨by omega, by omega⟩ ⟨by omega, by omega⟩ (fun h20_ => ?_) (fun h21_ => ?_)
      ·
        refine fl_iconst hm_56 rfl ?_
        refine ga_istore_n (lv2 := [(2, .int (Int32.ofInt 0)), (3, .int (Int32.ofInt i)), (0, .ref 344), (1, .int (Int32.ofInt kw))]) hm_56 rfl (Nat.le_of_ble_eq_true rfl) rfl ?_
        refine ga_inc (a := i) (c := i + 1) (lv2 := [(3, .int (Int32.ofInt (i + 1))), (2, .int (Int32.ofInt 0)), (0, .ref 344), (1, .int (Int32.ofInt kw))]) hm_56 rfl rfl (Nat.le_of_ble_eq_true rfl) rfl rfl ?_
        refine fl_goto hm_56 rfl ?_
        exact ih6_ _ (by omega) (i + 1) (0) rfl (by omega) (Or.inr ⟨rfl, iw_no (i := i) hkf (by omega) (by omega) (by rw [← hbb_, ← (show z15_ = wlet K (F 344 5) i by unfold wlet; exact c16_)]; assumption)⟩)
      refine fl_iconst hm_56 rfl ?_
      refine fl_goto hm_56 rfl ?_
      refine ga_istore_n (lv2 := [(2, .int (Int32.ofInt 1)), (3, .int (Int32.ofInt i)), (0, .ref 344), (1, .int (Int32.ofInt kw))]) hm_56 rfl (Nat.le_of_ble_eq_true rfl) rfl ?_
      refine ga_inc (a := i) (c := i + 1) (lv2 := [(3, .int (Int32.ofInt (i + 1))), (2, .int (Int32.ofInt 1)), (0, .ref 344), (1, .int (Int32.ofInt kw))]) hm_56 rfl rfl (Nat.le_of_ble_eq_true rfl) rfl rfl ?_
      refine fl_goto hm_56 rfl ?_
      exact ih6_ _ (by omega) (i + 1) (1) rfl (by omega) (Or.inl ⟨rfl, (hs1_ (by omega)).1, iw_step (hs1_ (by omega)).2 (by omega) (by omega) (by rw [← hbb_, ← (show z15_ = wlet K (F 344 5) i by unfold wlet; exact c16_)]; assumption)⟩)
    exact L5_ _ (0) (0) rfl (by omega) (Or.inr ⟨rfl, fun h => by have := (hkf.mp h.2).1; omega⟩)
  refine ga_aload_n (v := .ref 344) hm_56 rfl rfl rfl ?_
  refine gIi (nY := 1) (F := 0) (L := 0) (As := []) (b := 344) (rest := []) hm_56 rfl hm_53 rfl rfl (fl_ob sc_344) rfl rfl rfl rfl rfl (by omega) (by omega) ?_
  intro f22_ l23_ h24_ h25_
  show fl_R xi_ms 53 f22_ l23_ 0 [(0, .ref 344)] [] _ _
  refine ga_aload_n (v := .ref 344) hm_53 rfl rfl rfl ?_
  refine ga_getr (b := 348) hm_53 rfl sc_344 rfl ?_
  refine ga_aload_n (v := .ref 344) hm_53 rfl rfl rfl ?_
  have b26_ : 0 ≤ F 344 5 ∧ F 344 5 ≤ 600 := gi_g hgi rfl
  refine ga_geti (z := F 344 5) hm_53 rfl sc_344 rfl (rfl) ?_
  have e27_ : F 348 (F 344 5).toNat = K 5 (F 344 5).toNat := (hrk.1 (F 344 5) (by omega) (by omega)).2
  have b28_ : 0 ≤ K 5 (F 344 5).toNat ∧ K 5 (F 344 5).toNat ≤ 600 := gi_g hgK rfl
  refine ga_iald (z := F 344 5) (w := K 5 (F 344 5).toNat) hm_53 rfl sc_348 (by omega) (by omega) (by omega) (e27_) ?_
  refine ga_aload_n (v := .ref 344) hm_53 rfl rfl rfl ?_
  refine ga_getr (b := 347) hm_53 rfl sc_344 rfl ?_
  refine ga_aload_n (v := .ref 344) hm_53 rfl rfl rfl ?_
  refine ga_geti (z := F 344 5) hm_53 rfl sc_344 rfl (rfl) ?_
  have e29_ : F 347 (F 344 5).toNat = K 4 (F 344 5).toNat := (hrk.1 (F 344 5) (by omega) (by omega)).1
  have b30_ : 0 ≤ K 4 (F 344 5).toNat ∧ K 4 (F 344 5).toNat ≤ 600 := gi_g hgK rfl
  refine ga_iald (z := F 344 5) (w := K 4 (F 344 5).toNat) hm_53 rfl sc_347 (by omega) (by omega) (by omega) (e29_) ?_
  refine ga_isub (a := K 5 (F 344 5).toNat) (b := K 4 (F 344 5).toNat) (c := K 5 (F 344 5).toNat - (K 4 (F 344 5).toNat)) hm_53 rfl (by omega) ?_
  refine gr_i hm_53 rfl rfl rfl ?_
  clear h24_ h25_ f22_ l23_
  refine fl_if_le (a := K 5 (F 344 5).toNat - (K 4 (F 344 5).toNat)) hm_56 rfl ⟨by omega, by omega⟩ (fun h31_ => ?_) (fun h32_ => ?_)
  ·
    refine fl_iconst hm_56 rfl ?_
    refine ga_istore_n (lv2 := [(2, .int (Int32.ofInt 0)), (0, .ref 344), (1, .int (Int32.ofInt kw))]) hm_56 rfl (Nat.le_of_ble_eq_true rfl) rfl ?_
    refine fl_iconst hm_56 rfl ?_
    refine ga_istore_n (lv2 := [(3, .int (Int32.ofInt 0)), (2, .int (Int32.ofInt 0)), (0, .ref 344), (1, .int (Int32.ofInt kw))]) hm_56 rfl (Nat.le_of_ble_eq_true rfl) rfl ?_
    have L34_ : ∀ (n33_ : Nat) (i : Int) (sm : Int), (16 - i : Int).toNat = n33_ → (0 ≤ i ∧ i ≤ 16) → ((sm = 1 ∧ (F 344 9 = 0 ∧ 1 ≤ K 5 (F 344 5).toNat - K 4 (F 344 5).toNat ∧ K 5 (F 344 5).toNat - K 4 (F 344 5).toNat ≤ 16) ∧ ∀ q : Nat, (q : Int) < i → wlet K (F 344 5) q = w.getD q 0) ∨ (sm = 0 ∧ ¬ (F 344 9 = 0 ∧ isw K (F 344 5) w = true))) → fl_R xi_ms 56 fr lo 31 [(3, .int (Int32.ofInt i)), (2, .int (Int32.ofInt sm)), (0, .ref 344), (1, .int (Int32.ofInt kw))] [] (fl_H sh_T G F ++ X) (pq_56 G F X K kw w) := by
      intro n33_
      induction n33_ using Nat.strongRecOn with
      | ind n33_ ih35_ =>
      intro i sm hn36_ hi hsm
      have hsr : sm = 0 ∨ sm = 1 := by rcases hsm with h | h; exact Or.inr h.1; exact Or.inl h.1
      have hs1_ : ¬ sm = 0 → (F 344 9 = 0 ∧ 1 ≤ K 5 (F 344 5).toNat - K 4 (F 344 5).toNat ∧ K 5 (F 344 5).toNat - K 4 (F 344 5).toNat ≤ 16) ∧ ∀ q : Nat, (q : Int) < i → wlet K (F 344 5) q = w.getD q 0 := by intro h; rcases hsm with h2 | h2; exact h2.2; exact absurd h2.1 h
      have hs0_ : sm = 0 → ¬ (F 344 9 = 0 ∧ isw K (F 344 5) w = true) := by intro h; rcases hsm with h2 | h2; omega; exact h2.2
      refine ga_iload_n (z := i) hm_56 rfl rfl ?_
      refine fl_bipush hm_56 rfl rfl ?_
      refine fl_icmp_ge (a := i) (b := 16) hm_56 rfl ⟨by omega, by omega⟩ ⟨by omega, by omega⟩ (fun h37_ => ?_) (fun h38_ => ?_)
      ·
        refine ga_iload_n (z := sm) hm_56 rfl rfl ?_
        refine gr_i (z := sm) hm_56 rfl rfl (ga_nb (by omega)) ?_
        rcases hsr with hz0 | hz1
        · exact Or.inl ⟨rfl, hz0, hs0_ hz0⟩
        · exact Or.inr ⟨rfl, hz1, ⟨(hs1_ (by omega)).1.1, hkf.mpr ⟨by have := (hs1_ (by omega)).1; omega, fun q hq => (hs1_ (by omega)).2 q (by omega)⟩⟩, by have := (hs1_ (by omega)).1; omega⟩
      refine ga_iload_n (z := sm) hm_56 rfl rfl ?_
      refine fl_if_eq (a := sm) hm_56 rfl ⟨by omega, by omega⟩ (fun h39_ => ?_) (fun h40_ => ?_)
      ·
        refine ga_iload_n (z := sm) hm_56 rfl rfl ?_
        refine gr_i (z := sm) hm_56 rfl rfl (ga_nb (by omega)) ?_
        exact Or.inl ⟨rfl, by assumption, hs0_ (by assumption)⟩
      refine ga_aload_n (v := .ref 344) hm_56 rfl rfl rfl ?_
      refine ga_aload_n (v := .ref 344) hm_56 rfl rfl rfl ?_
      refine ga_getr (b := 347) hm_56 rfl sc_344 rfl ?_
      refine ga_aload_n (v := .ref 344) hm_56 rfl rfl rfl ?_
      refine ga_geti (z := F 344 5) hm_56 rfl sc_344 rfl (rfl) ?_
      refine ga_iald (z := F 344 5) (w := K 4 (F 344 5).toNat) hm_56 rfl sc_347 (by omega) (by omega) (by omega) (e29_) ?_
      refine ga_iload_n (z := i) hm_56 rfl rfl ?_
      refine ga_iadd (a := K 4 (F 344 5).toNat) (b := i) (c := K 4 (F 344 5).toNat + i) hm_56 rfl (by omega) ?_
      refine gVi (nY := 2) (F := 0) (L := 0) (As := [.int (Int32.ofInt (K 4 (F 344 5).toNat + i))]) (b := 344) (rest := []) hm_56 rfl hm_57 rfl rfl (fl_ob sc_344) rfl rfl rfl rfl rfl (by omega) (by omega) (mc_57 hG F X hgi (K) (K 4 (F 344 5).toNat + i) hgK hrk hkt (by omega) (by omega)) (fun _ _ h => False.elim h) ?_
      rintro z41_ A1_ ⟨hA_, c42_, c43_⟩
      subst hA_
      have hbb_ := hb i.toNat (by omega)
      rw [show ((i.toNat : Nat) : Int) = i by omega, show 4 * kw.toNat + i.toNat / 4 = (4 * kw + i / 4).toNat by omega, show (24 : Int) - 8 * (i % 4) = -8 * (i % 4) + 24 by omega] at hbb_
      refine ga_aload_n (v := .ref 344) hm_56 rfl rfl rfl ?_
      refine ga_getr (b := 346) hm_56 rfl sc_344 rfl ?_
      refine fl_iconst hm_56 rfl ?_
      refine ga_iload_n (z := kw) hm_56 rfl rfl ?_
      refine ga_imul (a := 4) (b := kw) (c := 4 * kw) hm_56 rfl (by omega) ?_
      refine ga_iload_n (z := i) hm_56 rfl rfl ?_
      refine fl_iconst hm_56 rfl ?_
      refine ga_idiv (a := i) (b := 4) hm_56 rfl (by omega) (by omega) (by omega) (by omega) ?_
      refine ga_iadd (a := 4 * kw) (b := (i / 4)) (c := 4 * kw + (i / 4)) hm_56 rfl (by omega) ?_
      have b44_ : -2147483648 ≤ F 346 (4 * kw + (i / 4)).toNat ∧ F 346 (4 * kw + (i / 4)).toNat ≤ 2147483647 := gi_g hgi rfl
      refine ga_iald (z := 4 * kw + (i / 4)) (w := F 346 (4 * kw + (i / 4)).toNat) hm_56 rfl sc_346 (by omega) (by omega) (by omega) (rfl) ?_
      refine fl_bipush hm_56 rfl rfl ?_
      refine fl_bipush hm_56 rfl rfl ?_
      refine ga_iload_n (z := i) hm_56 rfl rfl ?_
      refine fl_iconst hm_56 rfl ?_
      refine ga_irem (a := i) (b := 4) hm_56 rfl (by omega) (by omega) (by omega) (by omega) ?_
      refine ga_imul (a := 8) (b := (i % 4)) (c := 8 * (i % 4)) hm_56 rfl (by omega) ?_
      refine ga_isub (a := 24) (b := 8 * (i % 4)) (c := -8 * (i % 4) + 24) hm_56 rfl (by omega) ?_
      have b45_ := bt8_bd (F 346 (4 * kw + (i / 4)).toNat) (-8 * (i % 4) + 24)
      refine ga_bt8 (v := F 346 (4 * kw + (i / 4)).toNat) (s := -8 * (i % 4) + 24) hm_56 rfl rfl rfl ?_
      refine fx_icmp_ne (a := z41_) (b := (bt8 (F 346 (4 * kw + (i / 4)).toNat) (-8 * (i % 4) + 24))) hm_56 rfl ⟨by omega, by omega⟩ ⟨by omega, by omega⟩ (fun h46_ => ?_) (fun h47_ => ?_)
      ·
        refine fl_iconst hm_56 rfl ?_
        refine ga_istore_n (lv2 := [(2, .int (Int32.ofInt 0)), (3, .int (Int32.ofInt i)), (0, .ref 344), (1, .int (Int32.ofInt kw))]) hm_56 rfl (Nat.le_of_ble_eq_true rfl) rfl ?_
        refine ga_inc (a := i) (c := i + 1) (lv2 := [(3, .int (Int32.ofInt (i + 1))), (2, .int (Int32.ofInt 0)), (0, .ref 344), (1, .int (Int32.ofInt kw))]) hm_56 rfl rfl (Nat.le_of_ble_eq_true rfl) rfl rfl ?_
        refine fl_goto hm_56 rfl ?_
        exact ih35_ _ (by omega) (i + 1) (0) rfl (by omega) (Or.inr ⟨rfl, iw_no (i := i) hkf (by omega) (by omega) (by rw [← hbb_, ← (show z41_ = wlet K (F 344 5) i by unfold wlet; exact c42_)]; assumption)⟩)
      refine fl_iconst hm_56 rfl ?_
      refine fl_goto hm_56 rfl ?_
      refine ga_istore_n (lv2 := [(2, .int (Int32.ofInt 1)), (3, .int (Int32.ofInt i)), (0, .ref 344), (1, .int (Int32.ofInt kw))]) hm_56 rfl (Nat.le_of_ble_eq_true rfl) rfl ?_
      refine ga_inc (a := i) (c := i + 1) (lv2 := [(3, .int (Int32.ofInt (i + 1))), (2, .int (Int32.ofInt 1)), (0, .ref 344), (1, .int (Int32.ofInt kw))]) hm_56 rfl rfl (Nat.le_of_ble_eq_true rfl) rfl rfl ?_
      refine fl_goto hm_56 rfl ?_
      exact ih35_ _ (by omega) (i + 1) (1) rfl (by omega) (Or.inl ⟨rfl, (hs1_ (by omega)).1, iw_step (hs1_ (by omega)).2 (by omega) (by omega) (by rw [← hbb_, ← (show z41_ = wlet K (F 344 5) i by unfold wlet; exact c42_)]; assumption)⟩)
    exact L34_ _ (0) (0) rfl (by omega) (Or.inr ⟨rfl, fun h => by have := (hkf.mp h.2).1; omega⟩)
  refine ga_aload_n (v := .ref 344) hm_56 rfl rfl rfl ?_
  refine gIi (nY := 1) (F := 0) (L := 0) (As := []) (b := 344) (rest := []) hm_56 rfl hm_53 rfl rfl (fl_ob sc_344) rfl rfl rfl rfl rfl (by omega) (by omega) ?_
  intro f48_ l49_ h50_ h51_
  show fl_R xi_ms 53 f48_ l49_ 0 [(0, .ref 344)] [] _ _
  refine ga_aload_n (v := .ref 344) hm_53 rfl rfl rfl ?_
  refine ga_getr (b := 348) hm_53 rfl sc_344 rfl ?_
  refine ga_aload_n (v := .ref 344) hm_53 rfl rfl rfl ?_
  refine ga_geti (z := F 344 5) hm_53 rfl sc_344 rfl (rfl) ?_
  refine ga_iald (z := F 344 5) (w := K 5 (F 344 5).toNat) hm_53 rfl sc_348 (by omega) (by omega) (by omega) (e27_) ?_
  refine ga_aload_n (v := .ref 344) hm_53 rfl rfl rfl ?_
  refine ga_getr (b := 347) hm_53 rfl sc_344 rfl ?_
  refine ga_aload_n (v := .ref 344) hm_53 rfl rfl rfl ?_
  refine ga_geti (z := F 344 5) hm_53 rfl sc_344 rfl (rfl) ?_
  refine ga_iald (z := F 344 5) (w := K 4 (F 344 5).toNat) hm_53 rfl sc_347 (by omega) (by omega) (by omega) (e29_) ?_
  refine ga_isub (a := K 5 (F 344 5).toNat) (b := K 4 (F 344 5).toNat) (c := K 5 (F 344 5).toNat - (K 4 (F 344 5).toNat)) hm_53 rfl (by omega) ?_
  refine gr_i hm_53 rfl rfl rfl ?_
  clear h50_ h51_ f48_ l49_
  refine fl_bipush hm_56 rfl rfl ?_
  refine fl_icmp_ge (a := K 5 (F 344 5).toNat - (K 4 (F 344 5).toNat)) (b := 17) hm_56 rfl ⟨by omega, by omega⟩ ⟨by omega, by omega⟩ (fun h52_ => ?_) (fun h53_ => ?_)
  ·
    refine fl_iconst hm_56 rfl ?_
    refine ga_istore_n (lv2 := [(2, .int (Int32.ofInt 0)), (0, .ref 344), (1, .int (Int32.ofInt kw))]) hm_56 rfl (Nat.le_of_ble_eq_true rfl) rfl ?_
    refine fl_iconst hm_56 rfl ?_
    refine ga_istore_n (lv2 := [(3, .int (Int32.ofInt 0)), (2, .int (Int32.ofInt 0)), (0, .ref 344), (1, .int (Int32.ofInt kw))]) hm_56 rfl (Nat.le_of_ble_eq_true rfl) rfl ?_
    have L55_ : ∀ (n54_ : Nat) (i : Int) (sm : Int), (16 - i : Int).toNat = n54_ → (0 ≤ i ∧ i ≤ 16) → ((sm = 1 ∧ (F 344 9 = 0 ∧ 1 ≤ K 5 (F 344 5).toNat - K 4 (F 344 5).toNat ∧ K 5 (F 344 5).toNat - K 4 (F 344 5).toNat ≤ 16) ∧ ∀ q : Nat, (q : Int) < i → wlet K (F 344 5) q = w.getD q 0) ∨ (sm = 0 ∧ ¬ (F 344 9 = 0 ∧ isw K (F 344 5) w = true))) → fl_R xi_ms 56 fr lo 31 [(3, .int (Int32.ofInt i)), (2, .int (Int32.ofInt sm)), (0, .ref 344), (1, .int (Int32.ofInt kw))] [] (fl_H sh_T G F ++ X) (pq_56 G F X K kw w) := by
      intro n54_
      induction n54_ using Nat.strongRecOn with
      | ind n54_ ih56_ =>
      intro i sm hn57_ hi hsm
      have hsr : sm = 0 ∨ sm = 1 := by rcases hsm with h | h; exact Or.inr h.1; exact Or.inl h.1
      have hs1_ : ¬ sm = 0 → (F 344 9 = 0 ∧ 1 ≤ K 5 (F 344 5).toNat - K 4 (F 344 5).toNat ∧ K 5 (F 344 5).toNat - K 4 (F 344 5).toNat ≤ 16) ∧ ∀ q : Nat, (q : Int) < i → wlet K (F 344 5) q = w.getD q 0 := by intro h; rcases hsm with h2 | h2; exact h2.2; exact absurd h2.1 h
      have hs0_ : sm = 0 → ¬ (F 344 9 = 0 ∧ isw K (F 344 5) w = true) := by intro h; rcases hsm with h2 | h2; omega; exact h2.2
      refine ga_iload_n (z := i) hm_56 rfl rfl ?_
      refine fl_bipush hm_56 rfl rfl ?_
      refine fl_icmp_ge (a := i) (b := 16) hm_56 rfl ⟨by omega, by omega⟩ ⟨by omega, by omega⟩ (fun h58_ => ?_) (fun h59_ => ?_)
      ·
        refine ga_iload_n (z := sm) hm_56 rfl rfl ?_
        refine gr_i (z := sm) hm_56 rfl rfl (ga_nb (by omega)) ?_
        rcases hsr with hz0 | hz1
        · exact Or.inl ⟨rfl, hz0, hs0_ hz0⟩
        · exact Or.inr ⟨rfl, hz1, ⟨(hs1_ (by omega)).1.1, hkf.mpr ⟨by have := (hs1_ (by omega)).1; omega, fun q hq => (hs1_ (by omega)).2 q (by omega)⟩⟩, by have := (hs1_ (by omega)).1; omega⟩
      refine ga_iload_n (z := sm) hm_56 rfl rfl ?_
      refine fl_if_eq (a := sm) hm_56 rfl ⟨by omega, by omega⟩ (fun h60_ => ?_) (fun h61_ => ?_)
      ·
        refine ga_iload_n (z := sm) hm_56 rfl rfl ?_
        refine gr_i (z := sm) hm_56 rfl rfl (ga_nb (by omega)) ?_
        exact Or.inl ⟨rfl, by assumption, hs0_ (by assumption)⟩
      refine ga_aload_n (v := .ref 344) hm_56 rfl rfl rfl ?_
      refine ga_aload_n (v := .ref 344) hm_56 rfl rfl rfl ?_
      refine ga_getr (b := 347) hm_56 rfl sc_344 rfl ?_
      refine ga_aload_n (v := .ref 344) hm_56 rfl rfl rfl ?_
      refine ga_geti (z := F 344 5) hm_56 rfl sc_344 rfl (rfl) ?_
      refine ga_iald (z := F 344 5) (w := K 4 (F 344 5).toNat) hm_56 rfl sc_347 (by omega) (by omega) (by omega) (e29_) ?_
      refine ga_iload_n (z := i) hm_56 rfl rfl ?_
      refine ga_iadd (a := K 4 (F 344 5).toNat) (b := i) (c := K 4 (F 344 5).toNat + i) hm_56 rfl (by omega) ?_
      refine gVi (nY := 2) (F := 0) (L := 0) (As := [.int (Int32.ofInt (K 4 (F 344 5).toNat + i))]) (b := 344) (rest := []) hm_56 rfl hm_57 rfl rfl (fl_ob sc_344) rfl rfl rfl rfl rfl (by omega) (by omega) (mc_57 hG F X hgi (K) (K 4 (F 344 5).toNat + i) hgK hrk hkt (by omega) (by omega)) (fun _ _ h => False.elim h) ?_
      rintro z62_ A1_ ⟨hA_, c63_, c64_⟩
      subst hA_
      have hbb_ := hb i.toNat (by omega)
      rw [show ((i.toNat : Nat) : Int) = i by omega, show 4 * kw.toNat + i.toNat / 4 = (4 * kw + i / 4).toNat by omega, show (24 : Int) - 8 * (i % 4) = -8 * (i % 4) + 24 by omega] at hbb_
      refine ga_aload_n (v := .ref 344) hm_56 rfl rfl rfl ?_
      refine ga_getr (b := 346) hm_56 rfl sc_344 rfl ?_
      refine fl_iconst hm_56 rfl ?_
      refine ga_iload_n (z := kw) hm_56 rfl rfl ?_
      refine ga_imul (a := 4) (b := kw) (c := 4 * kw) hm_56 rfl (by omega) ?_
      refine ga_iload_n (z := i) hm_56 rfl rfl ?_
      refine fl_iconst hm_56 rfl ?_
      refine ga_idiv (a := i) (b := 4) hm_56 rfl (by omega) (by omega) (by omega) (by omega) ?_
      refine ga_iadd (a := 4 * kw) (b := (i / 4)) (c := 4 * kw + (i / 4)) hm_56 rfl (by omega) ?_
      have b65_ : -2147483648 ≤ F 346 (4 * kw + (i / 4)).toNat ∧ F 346 (4 * kw + (i / 4)).toNat ≤ 2147483647 := gi_g hgi rfl
      refine ga_iald (z := 4 * kw + (i / 4)) (w := F 346 (4 * kw + (i / 4)).toNat) hm_56 rfl sc_346 (by omega) (by omega) (by omega) (rfl) ?_
      refine fl_bipush hm_56 rfl rfl ?_
      refine fl_bipush hm_56 rfl rfl ?_
      refine ga_iload_n (z := i) hm_56 rfl rfl ?_
      refine fl_iconst hm_56 rfl ?_
      refine ga_irem (a := i) (b := 4) hm_56 rfl (by omega) (by omega) (by omega) (by omega) ?_
      refine ga_imul (a := 8) (b := (i % 4)) (c := 8 * (i % 4)) hm_56 rfl (by omega) ?_
      refine ga_isub (a := 24) (b := 8 * (i % 4)) (c := -8 * (i % 4) + 24) hm_56 rfl (by omega) ?_
      have b66_ := bt8_bd (F 346 (4 * kw + (i / 4)).toNat) (-8 * (i % 4) + 24)
      refine ga_bt8 (v := F 346 (4 * kw + (i / 4)).toNat) (s := -8 * (i % 4) + 24) hm_56 rfl rfl rfl ?_
      refine fx_icmp_ne (a := z62_) (b := (bt8 (F 346 (4 * kw + (i / 4)).toNat) (-8 * (i % 4) + 24))) hm_56 rfl ⟨by omega, by omega⟩ ⟨by omega, by omega⟩ (fun h67_ => ?_) (fun h68_ => ?_)
      ·
        refine fl_iconst hm_56 rfl ?_
        refine ga_istore_n (lv2 := [(2, .int (Int32.ofInt 0)), (3, .int (Int32.ofInt i)), (0, .ref 344), (1, .int (Int32.ofInt kw))]) hm_56 rfl (Nat.le_of_ble_eq_true rfl) rfl ?_
        refine ga_inc (a := i) (c := i + 1) (lv2 := [(3, .int (Int32.ofInt (i + 1))), (2, .int (Int32.ofInt 0)), (0, .ref 344), (1, .int (Int32.ofInt kw))]) hm_56 rfl rfl (Nat.le_of_ble_eq_true rfl) rfl rfl ?_
        refine fl_goto hm_56 rfl ?_
        exact ih56_ _ (by omega) (i + 1) (0) rfl (by omega) (Or.inr ⟨rfl, iw_no (i := i) hkf (by omega) (by omega) (by rw [← hbb_, ← (show z62_ = wlet K (F 344 5) i by unfold wlet; exact c63_)]; assumption)⟩)
      refine fl_iconst hm_56 rfl ?_
      refine fl_goto hm_56 rfl ?_
      refine ga_istore_n (lv2 := [(2, .int (Int32.ofInt 1)), (3, .int (Int32.ofInt i)), (0, .ref 344), (1, .int (Int32.ofInt kw))]) hm_56 rfl (Nat.le_of_ble_eq_true rfl) rfl ?_
      refine ga_inc (a := i) (c := i + 1) (lv2 := [(3, .int (Int32.ofInt (i + 1))), (2, .int (Int32.ofInt 1)), (0, .ref 344), (1, .int (Int32.ofInt kw))]) hm_56 rfl rfl (Nat.le_of_ble_eq_true rfl) rfl rfl ?_
      refine fl_goto hm_56 rfl ?_
      exact ih56_ _ (by omega) (i + 1) (1) rfl (by omega) (Or.inl ⟨rfl, (hs1_ (by omega)).1, iw_step (hs1_ (by omega)).2 (by omega) (by omega) (by rw [← hbb_, ← (show z62_ = wlet K (F 344 5) i by unfold wlet; exact c63_)]; assumption)⟩)
    exact L55_ _ (0) (0) rfl (by omega) (Or.inr ⟨rfl, fun h => by have := (hkf.mp h.2).1; omega⟩)
  refine fl_iconst hm_56 rfl ?_
  refine fl_goto hm_56 rfl ?_
  refine ga_istore_n (lv2 := [(2, .int (Int32.ofInt 1)), (0, .ref 344), (1, .int (Int32.ofInt kw))]) hm_56 rfl (Nat.le_of_ble_eq_true rfl) rfl ?_
  refine fl_iconst hm_56 rfl ?_
  refine ga_istore_n (lv2 := [(3, .int (Int32.ofInt 0)), (2, .int (Int32.ofInt 1)), (0, .ref 344), (1, .int (Int32.ofInt kw))]) hm_56 rfl (Nat.le_of_ble_eq_true rfl) rfl ?_
  have L70_ : ∀ (n69_ : Nat) (i : Int) (sm : Int), (16 - i : Int).toNat = n69_ → (0 ≤ i ∧ i ≤ 16) → ((sm = 1 ∧ (F 344 9 = 0 ∧ 1 ≤ K 5 (F 344 5).toNat - K 4 (F 344 5).toNat ∧ K 5 (F 344 5).toNat - K 4 (F 344 5).toNat ≤ 16) ∧ ∀ q : Nat, (q : Int) < i → wlet K (F 344 5) q = w.getD q 0) ∨ (sm = 0 ∧ ¬ (F 344 9 = 0 ∧ isw K (F 344 5) w = true))) → fl_R xi_ms 56 fr lo 31 [(3, .int (Int32.ofInt i)), (2, .int (Int32.ofInt sm)), (0, .ref 344), (1, .int (Int32.ofInt kw))] [] (fl_H sh_T G F ++ X) (pq_56 G F X K kw w) := by
    intro n69_
    induction n69_ using Nat.strongRecOn with
    | ind n69_ ih71_ =>
    intro i sm hn72_ hi hsm
    have hsr : sm = 0 ∨ sm = 1 := by rcases hsm with h | h; exact Or.inr h.1; exact Or.inl h.1
    have hs1_ : ¬ sm = 0 → (F 344 9 = 0 ∧ 1 ≤ K 5 (F 344 5).toNat - K 4 (F 344 5).toNat ∧ K 5 (F 344 5).toNat - K 4 (F 344 5).toNat ≤ 16) ∧ ∀ q : Nat, (q : Int) < i → wlet K (F 344 5) q = w.getD q 0 := by intro h; rcases hsm with h2 | h2; exact h2.2; exact absurd h2.1 h
    have hs0_ : sm = 0 → ¬ (F 344 9 = 0 ∧ isw K (F 344 5) w = true) := by intro h; rcases hsm with h2 | h2; omega; exact h2.2
    refine ga_iload_n (z := i) hm_56 rfl rfl ?_
    refine fl_bipush hm_56 rfl rfl ?_
    refine fl_icmp_ge (a := i) (b := 16) hm_56 rfl ⟨by omega, by omega⟩ ⟨by omega, by omega⟩ (fun h73_ => ?_) (fun h74_ => ?_)
    ·
      refine ga_iload_n (z := sm) hm_56 rfl rfl ?_
      refine gr_i (z := sm) hm_56 rfl rfl (ga_nb (by omega)) ?_
      rcases hsr with hz0 | hz1
      · exact Or.inl ⟨rfl, hz0, hs0_ hz0⟩
      · exact Or.inr ⟨rfl, hz1, ⟨(hs1_ (by omega)).1.1, hkf.mpr ⟨by have := (hs1_ (by omega)).1; omega, fun q hq => (hs1_ (by omega)).2 q (by omega)⟩⟩, by have := (hs1_ (by omega)).1; omega⟩
    refine ga_iload_n (z := sm) hm_56 rfl rfl ?_
    refine fl_if_eq (a := sm) hm_56 rfl ⟨by omega, by omega⟩ (fun h75_ => ?_) (fun h76_ => ?_)
    ·
      refine ga_iload_n (z := sm) hm_56 rfl rfl ?_
      refine gr_i (z := sm) hm_56 rfl rfl (ga_nb (by omega)) ?_
      exact Or.inl ⟨rfl, by assumption, hs0_ (by assumption)⟩
    refine ga_aload_n (v := .ref 344) hm_56 rfl rfl rfl ?_
    refine ga_aload_n (v := .ref 344) hm_56 rfl rfl rfl ?_
    refine ga_getr (b := 347) hm_56 rfl sc_344 rfl ?_
    refine ga_aload_n (v := .ref 344) hm_56 rfl rfl rfl ?_
    refine ga_geti (z := F 344 5) hm_56 rfl sc_344 rfl (rfl) ?_
    refine ga_iald (z := F 344 5) (w := K 4 (F 344 5).toNat) hm_56 rfl sc_347 (by omega) (by omega) (by omega) (e29_) ?_
    refine ga_iload_n (z := i) hm_56 rfl rfl ?_
    refine ga_iadd (a := K 4 (F 344 5).toNat) (b := i) (c := K 4 (F 344 5).toNat + i) hm_56 rfl (by omega) ?_
    refine gVi (nY := 2) (F := 0) (L := 0) (As := [.int (Int32.ofInt (K 4 (F 344 5).toNat + i))]) (b := 344) (rest := []) hm_56 rfl hm_57 rfl rfl (fl_ob sc_344) rfl rfl rfl rfl rfl (by omega) (by omega) (mc_57 hG F X hgi (K) (K 4 (F 344 5).toNat + i) hgK hrk hkt (by omega) (by omega)) (fun _ _ h => False.elim h) ?_
    rintro z77_ A1_ ⟨hA_, c78_, c79_⟩
    subst hA_
    have hbb_ := hb i.toNat (by omega)
    rw [show ((i.toNat : Nat) : Int) = i by omega, show 4 * kw.toNat + i.toNat / 4 = (4 * kw + i / 4).toNat by omega, show (24 : Int) - 8 * (i % 4) = -8 * (i % 4) + 24 by omega] at hbb_
    refine ga_aload_n (v := .ref 344) hm_56 rfl rfl rfl ?_
    refine ga_getr (b := 346) hm_56 rfl sc_344 rfl ?_
    refine fl_iconst hm_56 rfl ?_
    refine ga_iload_n (z := kw) hm_56 rfl rfl ?_
    refine ga_imul (a := 4) (b := kw) (c := 4 * kw) hm_56 rfl (by omega) ?_
    refine ga_iload_n (z := i) hm_56 rfl rfl ?_
    refine fl_iconst hm_56 rfl ?_
    refine ga_idiv (a := i) (b := 4) hm_56 rfl (by omega) (by omega) (by omega) (by omega) ?_
    refine ga_iadd (a := 4 * kw) (b := (i / 4)) (c := 4 * kw + (i / 4)) hm_56 rfl (by omega) ?_
    have b80_ : -2147483648 ≤ F 346 (4 * kw + (i / 4)).toNat ∧ F 346 (4 * kw + (i / 4)).toNat ≤ 2147483647 := gi_g hgi rfl
    refine ga_iald (z := 4 * kw + (i / 4)) (w := F 346 (4 * kw + (i / 4)).toNat) hm_56 rfl sc_346 (by omega) (by omega) (by omega) (rfl) ?_
    refine fl_bipush hm_56 rfl rfl ?_
    refine fl_bipush hm_56 rfl rfl ?_
    refine ga_iload_n (z := i) hm_56 rfl rfl ?_
    refine fl_iconst hm_56 rfl ?_
    refine ga_irem (a := i) (b := 4) hm_56 rfl (by omega) (by omega) (by omega) (by omega) ?_
    refine ga_imul (a := 8) (b := (i % 4)) (c := 8 * (i % 4)) hm_56 rfl (by omega) ?_
    refine ga_isub (a := 24) (b := 8 * (i % 4)) (c := -8 * (i % 4) + 24) hm_56 rfl (by omega) ?_
    have b81_ := bt8_bd (F 346 (4 * kw + (i / 4)).toNat) (-8 * (i % 4) + 24)
    refine ga_bt8 (v := F 346 (4 * kw + (i / 4)).toNat) (s := -8 * (i % 4) + 24) hm_56 rfl rfl rfl ?_
    refine fx_icmp_ne (a := z77_) (b := (bt8 (F 346 (4 * kw + (i / 4)).toNat) (-8 * (i % 4) + 24))) hm_56 rfl ⟨by omega, by omega⟩ ⟨by omega, by omega⟩ (fun h82_ => ?_) (fun h83_ => ?_)
    ·
      refine fl_iconst hm_56 rfl ?_
      refine ga_istore_n (lv2 := [(2, .int (Int32.ofInt 0)), (3, .int (Int32.ofInt i)), (0, .ref 344), (1, .int (Int32.ofInt kw))]) hm_56 rfl (Nat.le_of_ble_eq_true rfl) rfl ?_
      refine ga_inc (a := i) (c := i + 1) (lv2 := [(3, .int (Int32.ofInt (i + 1))), (2, .int (Int32.ofInt 0)), (0, .ref 344), (1, .int (Int32.ofInt kw))]) hm_56 rfl rfl (Nat.le_of_ble_eq_true rfl) rfl rfl ?_
      refine fl_goto hm_56 rfl ?_
      exact ih71_ _ (by omega) (i + 1) (0) rfl (by omega) (Or.inr ⟨rfl, iw_no (i := i) hkf (by omega) (by omega) (by rw [← hbb_, ← (show z77_ = wlet K (F 344 5) i by unfold wlet; exact c78_)]; assumption)⟩)
    refine fl_iconst hm_56 rfl ?_
    refine fl_goto hm_56 rfl ?_
    refine ga_istore_n (lv2 := [(2, .int (Int32.ofInt 1)), (3, .int (Int32.ofInt i)), (0, .ref 344), (1, .int (Int32.ofInt kw))]) hm_56 rfl (Nat.le_of_ble_eq_true rfl) rfl ?_
    refine ga_inc (a := i) (c := i + 1) (lv2 := [(3, .int (Int32.ofInt (i + 1))), (2, .int (Int32.ofInt 1)), (0, .ref 344), (1, .int (Int32.ofInt kw))]) hm_56 rfl rfl (Nat.le_of_ble_eq_true rfl) rfl rfl ?_
    refine fl_goto hm_56 rfl ?_
    exact ih71_ _ (by omega) (i + 1) (1) rfl (by omega) (Or.inl ⟨rfl, (hs1_ (by omega)).1, iw_step (hs1_ (by omega)).2 (by omega) (by omega) (by rw [← hbb_, ← (show z77_ = wlet K (F 344 5) i by unfold wlet; exact c78_)]; assumption)⟩)
  exact L70_ _ (0) (1) rfl (by omega) (Or.inl ⟨rfl, by omega, fun q hq => absurd hq (by omega)⟩)
/- CheapPlannerModel.nameAt -/
abbrev pq_60 (G : Nat → Nat → Option Nat) (F : fl_N) (X : xi_H) (K : fl_N) (sp : Int) : Outcome → xi_H → Prop := gql (fun z A => fl_H sh_T G F ++ X = A ∧ (z = if F 344 9 = 0 then nmr (K 2) (K 4 (F 344 5).toNat + sp) (K 5 (F 344 5).toNat) else 0) ∧ (0 ≤ z ∧ z < 2565726409)) gqn
theorem mc_60 {G : Nat → Nat → Option Nat} (hG : gg G) (F : fl_N) (X : xi_H) (hgi : gi F) (K : fl_N) (sp : Int) (hgK : gi K) (hrk : rk K F) (hkt : rkt K) (hp : 0 ≤ F 344 5 ∧ F 344 5 ≤ K 1 6 - 1) (hs : 0 ≤ sp ∧ sp ≤ 1) : fl_M xi_ms 60 1 20 [.ref 344, .int (Int32.ofInt sp)] (fl_H sh_T G F ++ X) (pq_60 G F X K sp) := by
  intro fr lo hfr hlo
  show fl_R xi_ms 60 fr lo 0 [(0, .ref 344), (1, .int (Int32.ofInt sp))] [] _ _
  have hP := rkt_p hkt hp.1 hp.2 hgK
  have hK16 : 0 ≤ K 1 6 ∧ K 1 6 ≤ 601 := gi_g hgK rfl
  refine ga_aload_n (v := .ref 344) hm_60 rfl rfl rfl ?_
  refine gIi (nY := 1) (F := 0) (L := 0) (As := []) (b := 344) (rest := []) hm_60 rfl hm_53 rfl rfl (fl_ob sc_344) rfl rfl rfl rfl rfl (by omega) (by omega) ?_
  intro f1_ l2_ h3_ h4_
  show fl_R xi_ms 53 f1_ l2_ 0 [(0, .ref 344)] [] _ _
  refine ga_aload_n (v := .ref 344) hm_53 rfl rfl rfl ?_
  refine ga_getr (b := 348) hm_53 rfl sc_344 rfl ?_
  refine ga_aload_n (v := .ref 344) hm_53 rfl rfl rfl ?_
  have b5_ : 0 ≤ F 344 5 ∧ F 344 5 ≤ 600 := gi_g hgi rfl
  refine ga_geti (z := F 344 5) hm_53 rfl sc_344 rfl (rfl) ?_
  have e6_ : F 348 (F 344 5).toNat = K 5 (F 344 5).toNat := (hrk.1 (F 344 5) (by omega) (by omega)).2
  have b7_ : 0 ≤ K 5 (F 344 5).toNat ∧ K 5 (F 344 5).toNat ≤ 600 := gi_g hgK rfl
  refine ga_iald (z := F 344 5) (w := K 5 (F 344 5).toNat) hm_53 rfl sc_348 (by omega) (by omega) (by omega) (e6_) ?_
  refine ga_aload_n (v := .ref 344) hm_53 rfl rfl rfl ?_
  refine ga_getr (b := 347) hm_53 rfl sc_344 rfl ?_
  refine ga_aload_n (v := .ref 344) hm_53 rfl rfl rfl ?_
  refine ga_geti (z := F 344 5) hm_53 rfl sc_344 rfl (rfl) ?_
  have e8_ : F 347 (F 344 5).toNat = K 4 (F 344 5).toNat := (hrk.1 (F 344 5) (by omega) (by omega)).1
  have b9_ : 0 ≤ K 4 (F 344 5).toNat ∧ K 4 (F 344 5).toNat ≤ 600 := gi_g hgK rfl
  refine ga_iald (z := F 344 5) (w := K 4 (F 344 5).toNat) hm_53 rfl sc_347 (by omega) (by omega) (by omega) (e8_) ?_
  refine ga_isub (a := K 5 (F 344 5).toNat) (b := K 4 (F 344 5).toNat) (c := K 5 (F 344 5).toNat - (K 4 (F 344 5).toNat)) hm_53 rfl (by omega) ?_
  refine gr_i hm_53 rfl rfl rfl ?_
  clear h3_ h4_ f1_ l2_
  refine ga_iload_n (z := sp) hm_60 rfl rfl ?_
  refine ga_isub (a := K 5 (F 344 5).toNat - (K 4 (F 344 5).toNat)) (b := sp) (c := K 5 (F 344 5).toNat - (K 4 (F 344 5).toNat) - sp) hm_60 rfl (by omega) ?_
  refine ga_istore_n (lv2 := [(2, .int (Int32.ofInt (K 5 (F 344 5).toNat - (K 4 (F 344 5).toNat) - sp))), (0, .ref 344), (1, .int (Int32.ofInt sp))]) hm_60 rfl (Nat.le_of_ble_eq_true rfl) rfl ?_
  refine ga_aload_n (v := .ref 344) hm_60 rfl rfl rfl ?_
  have b10_ : 0 ≤ F 344 9 ∧ F 344 9 ≤ 5 := gi_g hgi rfl
  refine ga_geti (z := F 344 9) hm_60 rfl sc_344 rfl (rfl) ?_
  refine fl_if_gt (a := F 344 9) hm_60 rfl ⟨by omega, by omega⟩ (fun h11_ => ?_) (fun h12_ => ?_)
  ·
    refine ga_lconst (z := 0) hm_60 rfl rfl ?_
    refine gr_l hm_60 rfl rfl ?_
    exact ⟨rfl, (by first | (rw [if_neg (by omega)]; done) | (rw [if_pos (by omega)]; unfold nmr; rw [if_pos (by omega)])), (by omega)⟩
  refine ga_iload_n (z := K 5 (F 344 5).toNat - (K 4 (F 344 5).toNat) - sp) hm_60 rfl rfl ?_
  refine fl_iconst hm_60 rfl ?_
  refine fl_icmp_lt (a := K 5 (F 344 5).toNat - (K 4 (F 344 5).toNat) - sp) (b := 1) hm_60 rfl ⟨by omega, by omega⟩ ⟨by omega, by omega⟩ (fun h13_ => ?_) (fun h14_ => ?_)
  ·
    refine ga_lconst (z := 0) hm_60 rfl rfl ?_
    refine gr_l hm_60 rfl rfl ?_
    exact ⟨rfl, (by first | (rw [if_neg (by omega)]; done) | (rw [if_pos (by omega)]; unfold nmr; rw [if_pos (by omega)])), (by omega)⟩
  refine ga_iload_n (z := K 5 (F 344 5).toNat - (K 4 (F 344 5).toNat) - sp) hm_60 rfl rfl ?_
  refine fl_bipush hm_60 rfl rfl ?_
  refine fl_icmp_le (a := K 5 (F 344 5).toNat - (K 4 (F 344 5).toNat) - sp) (b := 6) hm_60 rfl ⟨by omega, by omega⟩ ⟨by omega, by omega⟩ (fun h15_ => ?_) (fun h16_ => ?_)
  ·
    refine ga_lconst (z := 0) hm_60 rfl rfl ?_
    refine ga_lstore_n (lv2 := [(3, .long (Int64.ofInt 0)), (2, .int (Int32.ofInt (K 5 (F 344 5).toNat - (K 4 (F 344 5).toNat) - sp))), (0, .ref 344), (1, .int (Int32.ofInt sp))]) hm_60 rfl (Nat.le_of_ble_eq_true rfl) rfl ?_
    refine ga_aload_n (v := .ref 344) hm_60 rfl rfl rfl ?_
    refine ga_getr (b := 347) hm_60 rfl sc_344 rfl ?_
    refine ga_aload_n (v := .ref 344) hm_60 rfl rfl rfl ?_
    refine ga_geti (z := F 344 5) hm_60 rfl sc_344 rfl (rfl) ?_
    refine ga_iald (z := F 344 5) (w := K 4 (F 344 5).toNat) hm_60 rfl sc_347 (by omega) (by omega) (by omega) (e8_) ?_
    refine ga_iload_n (z := sp) hm_60 rfl rfl ?_
    refine ga_iadd (a := K 4 (F 344 5).toNat) (b := sp) (c := K 4 (F 344 5).toNat + sp) hm_60 rfl (by omega) ?_
    refine ga_istore (lv2 := [(5, .int (Int32.ofInt (K 4 (F 344 5).toNat + sp))), (3, .long (Int64.ofInt 0)), (2, .int (Int32.ofInt (K 5 (F 344 5).toNat - (K 4 (F 344 5).toNat) - sp))), (0, .ref 344), (1, .int (Int32.ofInt sp))]) hm_60 rfl (Nat.le_of_ble_eq_true rfl) rfl ?_
    have L18_ : ∀ (n17_ : Nat) (i : Int) (v : Int), (K 5 (F 344 5).toNat - i : Int).toNat = n17_ → (K 4 (F 344 5).toNat + sp ≤ i ∧ i ≤ K 5 (F 344 5).toNat ∧ F 344 9 = 0 ∧ K 5 (F 344 5).toNat - (K 4 (F 344 5).toNat + sp) ≤ 6) → (0 ≤ v ∧ v < 37 ^ (i - (K 4 (F 344 5).toNat + sp)).toNat) → (nro (K 2) i.toNat (K 5 (F 344 5).toNat - i).toNat v = nmr (K 2) (K 4 (F 344 5).toNat + sp) (K 5 (F 344 5).toNat)) → fl_R xi_ms 60 fr lo 42 [(5, .int (Int32.ofInt i)), (3, .long (Int64.ofInt v)), (2, .int (Int32.ofInt (K 5 (F 344 5).toNat - (K 4 (F 344 5).toNat) - sp))), (0, .ref 344), (1, .int (Int32.ofInt sp))] [] (fl_H sh_T G F ++ X) (pq_60 G F X K sp) := by
      intro n17_
      induction n17_ using Nat.strongRecOn with
      | ind n17_ ih19_ =>
      intro i v hn20_ hi hv ht
      refine ga_iload (z := i) hm_60 rfl rfl ?_
      refine ga_aload_n (v := .ref 344) hm_60 rfl rfl rfl ?_
      refine ga_getr (b := 348) hm_60 rfl sc_344 rfl ?_
      refine ga_aload_n (v := .ref 344) hm_60 rfl rfl rfl ?_
      refine ga_geti (z := F 344 5) hm_60 rfl sc_344 rfl (rfl) ?_
      refine ga_iald (z := F 344 5) (w := K 5 (F 344 5).toNat) hm_60 rfl sc_348 (by omega) (by omega) (by omega) (e6_) ?_
      refine fl_icmp_ge (a := i) (b := K 5 (F 344 5).toNat) hm_60 rfl ⟨by omega, by omega⟩ ⟨by omega, by omega⟩ (fun h21_ => ?_) (fun h22_ => ?_)
      ·
        refine ga_lload_n (z := v) hm_60 rfl rfl ?_
        refine gr_l hm_60 rfl rfl ?_
        exact ⟨rfl, (by rw [if_pos (by omega)]; exact nr_end ht (by omega)), (nr_m hv.1 hv.2 (by omega))⟩
      refine ga_aload_n (v := .ref 344) hm_60 rfl rfl rfl ?_
      refine ga_getr (b := 345) hm_60 rfl sc_344 rfl ?_
      refine ga_iload (z := i) hm_60 rfl rfl ?_
      have e23_ : F 345 i.toNat = K 2 i.toNat := hrk.2.2.1 i (by omega) (by omega)
      have b24_ : 0 ≤ K 2 i.toNat ∧ K 2 i.toNat ≤ 126 := gi_g hgK rfl
      refine ga_iald (z := i) (w := K 2 i.toNat) hm_60 rfl sc_345 (by omega) (by omega) (by omega) (e23_) ?_
      refine ga_istore (lv2 := [(6, .int (Int32.ofInt (K 2 i.toNat))), (5, .int (Int32.ofInt i)), (3, .long (Int64.ofInt v)), (2, .int (Int32.ofInt (K 5 (F 344 5).toNat - (K 4 (F 344 5).toNat) - sp))), (0, .ref 344), (1, .int (Int32.ofInt sp))]) hm_60 rfl (Nat.le_of_ble_eq_true rfl) rfl ?_
      refine ga_iload (z := K 2 i.toNat) hm_60 rfl rfl ?_
      refine fl_bipush hm_60 rfl rfl ?_
      refine fl_icmp_lt (a := K 2 i.toNat) (b := 97) hm_60 rfl ⟨by omega, by omega⟩ ⟨by omega, by omega⟩ (fun h25_ => ?_) (fun h26_ => ?_)
      ·
        refine ga_iload (z := K 2 i.toNat) hm_60 rfl rfl ?_
        refine fl_bipush hm_60 rfl rfl ?_
        refine fl_icmp_lt (a := K 2 i.toNat) (b := 48) hm_60 rfl ⟨by omega, by omega⟩ ⟨by omega, by omega⟩ (fun h27_ => ?_) (fun h28_ => ?_)
        ·
          refine ga_lconst (z := 0) hm_60 rfl rfl ?_
          refine gr_l hm_60 rfl rfl ?_
          exact ⟨rfl, (by rw [if_pos (by omega)]; exact nr_bad ht (by omega) (by unfold isnc; omega)), (by omega)⟩
        refine ga_iload (z := K 2 i.toNat) hm_60 rfl rfl ?_
        refine fl_bipush hm_60 rfl rfl ?_
        refine fl_icmp_le (a := K 2 i.toNat) (b := 57) hm_60 rfl ⟨by omega, by omega⟩ ⟨by omega, by omega⟩ (fun h29_ => ?_) (fun h30_ => ?_)
        ·
          refine ga_ldcl (z := 37) hm_60 rfl (by decide) ?_
          have hvm := nr_m hv.1 hv.2 (by omega)
          refine ga_lload_n (z := v) hm_60 rfl rfl ?_
          refine ga_lmul (a := 37) (b := v) hm_60 rfl ?_
          refine ga_iload (z := K 2 i.toNat) hm_60 rfl rfl ?_
          refine fl_bipush hm_60 rfl rfl ?_
          refine fl_icmp_ge (a := K 2 i.toNat) (b := 97) hm_60 rfl ⟨by omega, by omega⟩ ⟨by omega, by omega⟩ (fun h31_ => ?_) (fun h32_ => ?_)
          · exfalso; omega
          refine ga_iload (z := K 2 i.toNat) hm_60 rfl rfl ?_
          refine fl_bipush hm_60 rfl rfl ?_
          refine ga_isub (a := K 2 i.toNat) (b := 21) (c := K 2 i.toNat - 21) hm_60 rfl (by omega) ?_
          refine fl_goto hm_60 rfl ?_
          refine ga_i2l hm_60 rfl ⟨by omega, by omega⟩ ?_
          refine ga_ladd (a := (37 * v)) (b := K 2 i.toNat - 21) hm_60 rfl ?_
          refine ga_lstore_n (lv2 := [(3, .long (Int64.ofInt ((((37 * v)) + (K 2 i.toNat - 21))))), (6, .int (Int32.ofInt (K 2 i.toNat))), (5, .int (Int32.ofInt i)), (2, .int (Int32.ofInt (K 5 (F 344 5).toNat - (K 4 (F 344 5).toNat) - sp))), (0, .ref 344), (1, .int (Int32.ofInt sp))]) hm_60 rfl (Nat.le_of_ble_eq_true rfl) rfl ?_
          refine ga_inc (a := i) (c := i + 1) (lv2 := [(5, .int (Int32.ofInt (i + 1))), (3, .long (Int64.ofInt ((((37 * v)) + (K 2 i.toNat - 21))))), (6, .int (Int32.ofInt (K 2 i.toNat))), (2, .int (Int32.ofInt (K 5 (F 344 5).toNat - (K 4 (F 344 5).toNat) - sp))), (0, .ref 344), (1, .int (Int32.ofInt sp))]) hm_60 rfl rfl (Nat.le_of_ble_eq_true rfl) rfl rfl ?_
          refine fl_goto hm_60 rfl ?_
          exact fl_R_sub (lv' := [(5, .int (Int32.ofInt (i + 1))), (3, .long (Int64.ofInt ((((37 * v)) + (K 2 i.toNat - 21))))), (2, .int (Int32.ofInt (K 5 (F 344 5).toNat - (K 4 (F 344 5).toNat) - sp))), (0, .ref 344), (1, .int (Int32.ofInt sp))]) rfl rfl (ih19_ _ (by omega) (i + 1) ((((37 * v)) + (K 2 i.toNat - 21))) rfl (by omega) (nr_b (c := K 2 i.toNat) hv.1 hv.2 (by omega) (by unfold isnc; omega) (by unfold dg37; first | (rw [if_pos (by omega)]; done) | (rw [if_neg (by omega)]; done) | (split <;> omega))) (nr_step ht (by omega) (by omega) (by unfold isnc; omega) (by unfold dg37; first | (rw [if_pos (by omega)]; done) | (rw [if_neg (by omega)]; done) | (split <;> omega))))
        refine ga_lconst (z := 0) hm_60 rfl rfl ?_
        refine gr_l hm_60 rfl rfl ?_
        exact ⟨rfl, (by rw [if_pos (by omega)]; exact nr_bad ht (by omega) (by unfold isnc; omega)), (by omega)⟩
      refine ga_iload (z := K 2 i.toNat) hm_60 rfl rfl ?_
      refine fl_bipush hm_60 rfl rfl ?_
      refine fl_icmp_le (a := K 2 i.toNat) (b := 122) hm_60 rfl ⟨by omega, by omega⟩ ⟨by omega, by omega⟩ (fun h33_ => ?_) (fun h34_ => ?_)
      ·
        refine ga_ldcl (z := 37) hm_60 rfl (by decide) ?_
        have hvm := nr_m hv.1 hv.2 (by omega)
        refine ga_lload_n (z := v) hm_60 rfl rfl ?_
        refine ga_lmul (a := 37) (b := v) hm_60 rfl ?_
        refine ga_iload (z := K 2 i.toNat) hm_60 rfl rfl ?_
        refine fl_bipush hm_60 rfl rfl ?_
        refine fl_icmp_ge (a := K 2 i.toNat) (b := 97) hm_60 rfl ⟨by omega, by omega⟩ ⟨by omega, by omega⟩ (fun h35_ => ?_) (fun h36_ => ?_)
        ·
          refine ga_iload (z := K 2 i.toNat) hm_60 rfl rfl ?_
          refine fl_bipush hm_60 rfl rfl ?_
          refine ga_isub (a := K 2 i.toNat) (b := 96) (c := K 2 i.toNat - 96) hm_60 rfl (by omega) ?_
          refine ga_i2l hm_60 rfl ⟨by omega, by omega⟩ ?_
          refine ga_ladd (a := (37 * v)) (b := K 2 i.toNat - 96) hm_60 rfl ?_
          refine ga_lstore_n (lv2 := [(3, .long (Int64.ofInt ((((37 * v)) + (K 2 i.toNat - 96))))), (6, .int (Int32.ofInt (K 2 i.toNat))), (5, .int (Int32.ofInt i)), (2, .int (Int32.ofInt (K 5 (F 344 5).toNat - (K 4 (F 344 5).toNat) - sp))), (0, .ref 344), (1, .int (Int32.ofInt sp))]) hm_60 rfl (Nat.le_of_ble_eq_true rfl) rfl ?_
          refine ga_inc (a := i) (c := i + 1) (lv2 := [(5, .int (Int32.ofInt (i + 1))), (3, .long (Int64.ofInt ((((37 * v)) + (K 2 i.toNat - 96))))), (6, .int (Int32.ofInt (K 2 i.toNat))), (2, .int (Int32.ofInt (K 5 (F 344 5).toNat - (K 4 (F 344 5).toNat) - sp))), (0, .ref 344), (1, .int (Int32.ofInt sp))]) hm_60 rfl rfl (Nat.le_of_ble_eq_true rfl) rfl rfl ?_
          refine fl_goto hm_60 rfl ?_
          exact fl_R_sub (lv' := [(5, .int (Int32.ofInt (i + 1))), (3, .long (Int64.ofInt ((((37 * v)) + (K 2 i.toNat - 96))))), (2, .int (Int32.ofInt (K 5 (F 344 5).toNat - (K 4 (F 344 5).toNat) - sp))), (0, .ref 344), (1, .int (Int32.ofInt sp))]) rfl rfl (ih19_ _ (by omega) (i + 1) ((((37 * v)) + (K 2 i.toNat - 96))) rfl (by omega) (nr_b (c := K 2 i.toNat) hv.1 hv.2 (by omega) (by unfold isnc; omega) (by unfold dg37; first | (rw [if_pos (by omega)]; done) | (rw [if_neg (by omega)]; done) | (split <;> omega))) (nr_step ht (by omega) (by omega) (by unfold isnc; omega) (by unfold dg37; first | (rw [if_pos (by omega)]; done) | (rw [if_neg (by omega)]; done) | (split <;> omega))))
        exfalso; omega
      refine ga_iload (z := K 2 i.toNat) hm_60 rfl rfl ?_
      refine fl_bipush hm_60 rfl rfl ?_
      refine fl_icmp_lt (a := K 2 i.toNat) (b := 48) hm_60 rfl ⟨by omega, by omega⟩ ⟨by omega, by omega⟩ (fun h37_ => ?_) (fun h38_ => ?_)
      · exfalso; omega
      refine ga_iload (z := K 2 i.toNat) hm_60 rfl rfl ?_
      refine fl_bipush hm_60 rfl rfl ?_
      refine fl_icmp_le (a := K 2 i.toNat) (b := 57) hm_60 rfl ⟨by omega, by omega⟩ ⟨by omega, by omega⟩ (fun h39_ => ?_) (fun h40_ => ?_)
      · exfalso; omega
      refine ga_lconst (z := 0) hm_60 rfl rfl ?_
      refine gr_l hm_60 rfl rfl ?_
      exact ⟨rfl, (by rw [if_pos (by omega)]; exact nr_bad ht (by omega) (by unfold isnc; omega)), (by omega)⟩
    exact L18_ _ (K 4 (F 344 5).toNat + sp) (0) rfl (by omega) (by simp) (by unfold nmr; rw [if_neg (by omega)])
  refine ga_lconst (z := 0) hm_60 rfl rfl ?_
  refine gr_l hm_60 rfl rfl ?_
  exact ⟨rfl, (by first | (rw [if_neg (by omega)]; done) | (rw [if_pos (by omega)]; unfold nmr; rw [if_pos (by omega)])), (by omega)⟩

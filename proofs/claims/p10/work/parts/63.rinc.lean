/-! numbers, effects -/
theorem sn_z {K : fl_N} {p : Int} (h : K 5 p.toNat - K 4 p.toNat ≤ 0 ∨ 4 ≤ K 5 p.toNat - K 4 p.toNat) : sp_num K p = 0 := by
  unfold sp_num
  by_cases c : 3 < K 5 p.toNat - K 4 p.toNat
  · rw [if_pos c]
  · rw [if_neg c, show (K 5 p.toNat - K 4 p.toNat).toNat = 0 by omega]
    rfl
theorem sn_d {f : Nat → Int} {s k e v v2 : Int} (h : s = dgo f k.toNat (e - k).toNat v) (hk : 0 ≤ k ∧ k < e) (hd : 48 ≤ f k.toNat ∧ f k.toNat ≤ 57) (hv : v2 = v * 10 + (f k.toNat - 48)) : s = dgo f (k + 1).toNat (e - (k + 1)).toNat v2 := by
  rw [h, show (e - k).toNat = (e - (k + 1)).toNat + 1 by omega, dgo, if_pos hd, ← hv, show k.toNat + 1 = (k + 1).toNat by omega]
theorem sn_n {f : Nat → Int} {s k e v : Int} (h : s = dgo f k.toNat (e - k).toNat v) (hk : 0 ≤ k ∧ k < e) (hd : ¬ (48 ≤ f k.toNat ∧ f k.toNat ≤ 57)) : s = 0 := by
  rw [h, show (e - k).toNat = (e - (k + 1)).toNat + 1 by omega, dgo, if_neg hd]
theorem sn_e {f : Nat → Int} {s k e v : Int} (h : s = dgo f k.toNat (e - k).toNat v) (hk : e ≤ k) : s = v := by
  rw [h, show (e - k).toNat = 0 by omega]
  rfl
theorem sn_0 {K : fl_N} {p : Int} (h : K 5 p.toNat - K 4 p.toNat < 4) : sp_num K p = dgo (K 2) (K 4 p.toNat).toNat (K 5 p.toNat - K 4 p.toNat).toNat 0 := by
  unfold sp_num
  rw [if_neg (by omega)]
def sp_ef (K : fl_N) (k : Int) (l tl pl : List Int) (ps : List (List Int)) (p : Int) : PR Int := if isw K p [110, 111, 116] = true then pb (sp_kind K 0 (sk K p)) fun p => pb (sp_atom K k l tl pl ps p) fun p => sp_kind K 1 p else sp_atom K k l tl pl ps p
theorem sp_mem_ef {K : fl_N} {k : Int} {l tl pl : List Int} {ps : List (List Int)} {c p : Int} (h : ¬ isw K p [105, 110, 99, 114, 101, 97, 115, 101] = true) : sp_mem K true k l tl pl ps c p = pb (sp_ef K k l tl pl ps p) (fun p => .inr (p, c)) := by
  rw [sp_mem, if_neg (fun h9 => h h9.2), sp_ef]
  by_cases n : isw K p [110, 111, 116] = true
  · rw [if_pos n, if_pos n, pb_as]
    congr 1
    funext q
    rw [pb_as, if_neg (by simp)]
  · rw [if_neg n, if_neg n, if_neg (by simp)]
theorem sp_mem_inc {K : fl_N} {k : Int} {l tl pl : List Int} {ps : List (List Int)} {c p : Int} (h : isw K p [105, 110, 99, 114, 101, 97, 115, 101] = true) : sp_mem K true k l tl pl ps c p = sp_inc K c p := by
  rw [sp_mem, if_pos ⟨rfl, h⟩]
section SME
variable {K : fl_N} {e : Bool} {k : Int} {l tl pl : List Int} {ps : List (List Int)} {i c p : Int}
theorem sm1_stepE {p2 p3 c2 : Int} (h : 0 ≤ i ∧ i < 4) (hk : i = 0 ∨ ¬ K 3 p.toNat = 1) (h1 : sp_kind K 0 p = .inr p2) (h2 : sp_mem K e k l tl pl ps c p2 = .inr (p3, c2)) : sp_m1 K e k l tl pl ps (4 - i).toNat (decide (i = 0)) c p = sp_m1 K e k l tl pl ps (4 - (i + 1)).toNat false c2 p3 := by
  have h3 : K 3 p.toNat = 0 := by
    unfold sp_kind at h1
    split at h1
    · assumption
    · cases h1
  rw [sm1_u h.2 (Or.inr h3), h1, pb_r, h2, pb_r]
  rfl
theorem sm1_flE {x : Int × Int} {p2 : Int} (h : 0 ≤ i ∧ i < 4) (hk : i = 0 ∨ ¬ K 3 p.toNat = 1) (h1 : sp_kind K 0 p = .inr p2) (h2 : sp_mem K e k l tl pl ps c p2 = .inl x) : sp_m1 K e k l tl pl ps (4 - i).toNat (decide (i = 0)) c p = .inl x := by
  have h3 : K 3 p.toNat = 0 := by
    unfold sp_kind at h1
    split at h1
    · assumption
    · cases h1
  rw [sm1_u h.2 (Or.inr h3), h1, pb_r, h2]
  rfl
end SME
def cst (a : Nat) (F F' : fl_N) : Prop := (0 ≤ F 357 a → 0 ≤ F' 357 a) ∧ ∀ j : Nat, j ≠ a → F' 357 j = F 357 j
theorem cst_r {a : Nat} {F : fl_N} : cst a F F := ⟨id, fun _ _ => rfl⟩
theorem cst_tr {a : Nat} {F F1 F2 : fl_N} (h : cst a F F1) (h1 : cst a F1 F2) : cst a F F2 := ⟨fun h0 => h1.1 (h.1 h0), fun j hj => (h1.2 j hj).trans (h.2 j hj)⟩
theorem cst_fs {a : Nat} {S : List (Nat × Nat × Nat × Nat)} {F F1 F2 : fl_N} (h : cst a F F1) (h1 : fs S F1 F2) (hS : ∀ j, fs_in S 357 j = false) : cst a F F2 := cst_tr h ⟨fun h0 => by rw [h1 357 a (hS a)]; exact h0, fun j _ => h1 357 j (hS j)⟩
theorem cst_u {a r k : Nat} {z : Int} {F F1 : fl_N} (h : cst a F F1) (hr : ¬ r = 357) : cst a F (fl_u F1 r k z) := cst_tr h ⟨fun h0 => by rw [fl_u_ne (fun e => hr e.1.symm)]; exact h0, fun j _ => fl_u_ne (fun e => hr e.1.symm)⟩
theorem cst_w {a : Nat} {z : Int} {F F1 : fl_N} (h : cst a F F1) (hz : 0 ≤ z) : cst a F (fl_u F1 357 a z) := cst_tr h ⟨fun _ => by rw [fl_u_eq]; exact hz, fun j hj => fl_u_ne (fun e => hj e.2)⟩
theorem cs_step {F F' : fl_N} (h : ∀ j : Nat, (j : Int) < F 344 21 → 0 ≤ F 357 j) (h1 : ∀ j : Nat, (j : Int) < F 344 21 → F' 357 j = F 357 j) (h2 : 0 ≤ F' 357 (F 344 21).toNat ∧ F' 344 21 = F 344 21 + 1) : ∀ j : Nat, (j : Int) < F' 344 21 → 0 ≤ F' 357 j := fun j hj => by
  by_cases e : (j : Int) < F 344 21
  · rw [h1 j e]
    exact h j e
  · have e2 : j = (F 344 21).toNat := by omega
    rw [e2]
    exact h2.1

/- CheapPlannerModel.readIncrease -/
abbrev pq_177 (G : Nat → Nat → Option Nat) (F : fl_N) (X : xi_H) (K : fl_N) (a c : Int) : Outcome → xi_H → Prop := gqv (fun A => (∃ F' : fl_N, fl_H sh_T G F' ++ X = A ∧ gi F' ∧ fs [(344, 344, 5, 5), (344, 344, 9, 10), (344, 344, 63, 63), (357, 357, 0, 100000)] F F' ∧ (¬ F' 344 9 = 0) ∧ ((F 344 9 = 0 → sp_inc K c (F 344 5) = .inl (F' 344 9, F' 344 10)) ∧ (¬ F 344 9 = 0 → F' 344 9 = F 344 9 ∧ F' 344 10 = F 344 10)) ∧ (0 ≤ F' 344 5 ∧ F' 344 5 ≤ K 1 6 - 1)) ∨ (∃ F' : fl_N, fl_H sh_T G F' ++ X = A ∧ gi F' ∧ fs [(344, 344, 5, 5), (344, 344, 9, 10), (344, 344, 63, 63), (357, 357, 0, 100000)] F F' ∧ (F' 344 9 = 0 ∧ F 344 9 = 0) ∧ (∃ c2, sp_inc K c (F 344 5) = .inr (F' 344 5, c2) ∧ ¬ c2 = 0 ∧ F' 357 a.toNat = c2) ∧ (0 ≤ F' 344 5 ∧ F' 344 5 ≤ K 1 6 - 1) ∧ (F' 344 63 = 1) ∧ (cst a.toNat F F') ∧ (lfr a.toNat 0 0 F F'))) gqn
set_option maxHeartbeats 16000000 in
theorem mc_177 {G : Nat → Nat → Option Nat} (hG : gg G) (F : fl_N) (X : xi_H) (hgi : gi F) (K : fl_N) (a c : Int) (hgK : gi K) (hrk : rk K F) (hkt : rkt K) (hp : 0 ≤ F 344 5 ∧ F 344 5 ≤ K 1 6 - 1) (h0 : F 344 9 = 0) (hi : (F 344 63 = 0 ∧ c = 0) ∨ (F 344 63 = 1 ∧ ¬ c = 0)) (hlt8 : F 344 5 < K 1 6 - 1) (ha : 0 ≤ a ∧ a ≤ 4) : fl_M xi_ms 177 3 65 [.ref 344, .int (Int32.ofInt a)] (fl_H sh_T G F ++ X) (pq_177 G F X K a c) := by
  intro fr lo hfr hlo
  show fl_R xi_ms 177 fr lo 0 [(0, .ref 344), (1, .int (Int32.ofInt a))] [] _ _
  have hP := (rkt_p hkt hp.1 hp.2 hgK).1
  have hK16 : 0 ≤ K 1 6 ∧ K 1 6 ≤ 601 := gi_g hgK rfl
  have hko := hkt.1
  have B39_ : ∀ (Fb : fl_N), (gi Fb) → (fs [(344, 344, 5, 5), (344, 344, 9, 10), (344, 344, 63, 63), (357, 357, 0, 100000)] F Fb) → (rk K Fb) → (¬ Fb 344 9 = 0) → (0 ≤ Fb 344 5 ∧ Fb 344 5 ≤ K 1 6 - 1) → ((F 344 9 = 0 → sp_inc K c (F 344 5) = .inl (Fb 344 9, Fb 344 10)) ∧ (¬ F 344 9 = 0 → Fb 344 9 = F 344 9 ∧ Fb 344 10 = F 344 10)) → fl_R xi_ms 177 fr lo 39 [(0, .ref 344), (1, .int (Int32.ofInt a))] [] (fl_H sh_T G Fb ++ X) (pq_177 G F X K a c) := by
    intro Fb hg_Fb hf_Fb hrk_b hbd hp_b hb
    
    refine fl_iconst hm_177 rfl ?_
    refine ga_istore_n (lv2 := [(2, .int (Int32.ofInt 0)), (0, .ref 344), (1, .int (Int32.ofInt a))]) hm_177 rfl (Nat.le_of_ble_eq_true rfl) rfl ?_
    refine ga_aload_n (v := .ref 344) hm_177 rfl rfl rfl ?_
    refine gIi (nY := 1) (F := 0) (L := 0) (As := []) (b := 344) (rest := []) hm_177 rfl hm_59 rfl rfl (fl_ob sc_344) rfl rfl rfl rfl rfl (by omega) (by omega) ?_
    intro f1_ l2_ h3_ h4_
    show fl_R xi_ms 59 f1_ l2_ 0 [(0, .ref 344)] [] _ _
    refine ga_aload_n (v := .ref 344) hm_59 rfl rfl rfl ?_
    have b5_ : 0 ≤ Fb 344 9 ∧ Fb 344 9 ≤ 5 := gi_g hg_Fb rfl
    refine ga_geti (z := Fb 344 9) hm_59 rfl sc_344 rfl (rfl) ?_
    refine fl_if_le (a := Fb 344 9) hm_59 rfl ⟨by omega, by omega⟩ (fun h6_ => ?_) (fun h7_ => ?_)
    · exfalso; omega
    refine fl_iconst hm_59 rfl ?_
    refine fl_goto hm_59 rfl ?_
    refine gr_i hm_59 rfl rfl (ga_nb (by omega)) ?_
    clear h3_ h4_ f1_ l2_
    refine fl_if_ne hm_177 rfl ⟨by omega, by omega⟩ (fun _ => ?_) (fun h => absurd (by omega) h)
    refine fl_iconst hm_177 rfl ?_
    refine ga_istore_n (lv2 := [(3, .int (Int32.ofInt 0)), (2, .int (Int32.ofInt 0)), (0, .ref 344), (1, .int (Int32.ofInt a))]) hm_177 rfl (Nat.le_of_ble_eq_true rfl) rfl ?_
    refine ga_aload_n (v := .ref 344) hm_177 rfl rfl rfl ?_
    refine ga_getr (b := 347) hm_177 rfl sc_344 rfl ?_
    refine ga_aload_n (v := .ref 344) hm_177 rfl rfl rfl ?_
    have b8_ : 0 ≤ Fb 344 5 ∧ Fb 344 5 ≤ 600 := gi_g hg_Fb rfl
    refine ga_geti (z := Fb 344 5) hm_177 rfl sc_344 rfl (rfl) ?_
    have e9_ : Fb 347 (Fb 344 5).toNat = K 4 (Fb 344 5).toNat := (hrk_b.1 (Fb 344 5) (by omega) (by omega)).1
    have b10_ : 0 ≤ K 4 (Fb 344 5).toNat ∧ K 4 (Fb 344 5).toNat ≤ 600 := gi_g hgK rfl
    refine ga_iald (z := Fb 344 5) (w := K 4 (Fb 344 5).toNat) hm_177 rfl sc_347 (by omega) (by omega) (by omega) (e9_) ?_
    refine ga_istore (lv2 := [(4, .int (Int32.ofInt (K 4 (Fb 344 5).toNat))), (3, .int (Int32.ofInt 0)), (2, .int (Int32.ofInt 0)), (0, .ref 344), (1, .int (Int32.ofInt a))]) hm_177 rfl (Nat.le_of_ble_eq_true rfl) rfl ?_
    refine ga_iload (z := K 4 (Fb 344 5).toNat) hm_177 rfl rfl ?_
    refine ga_aload_n (v := .ref 344) hm_177 rfl rfl rfl ?_
    refine ga_getr (b := 348) hm_177 rfl sc_344 rfl ?_
    refine ga_aload_n (v := .ref 344) hm_177 rfl rfl rfl ?_
    refine ga_geti (z := Fb 344 5) hm_177 rfl sc_344 rfl (rfl) ?_
    have e11_ : Fb 348 (Fb 344 5).toNat = K 5 (Fb 344 5).toNat := (hrk_b.1 (Fb 344 5) (by omega) (by omega)).2
    have b12_ : 0 ≤ K 5 (Fb 344 5).toNat ∧ K 5 (Fb 344 5).toNat ≤ 600 := gi_g hgK rfl
    refine ga_iald (z := Fb 344 5) (w := K 5 (Fb 344 5).toNat) hm_177 rfl sc_348 (by omega) (by omega) (by omega) (e11_) ?_
    refine fl_icmp_ge (a := K 4 (Fb 344 5).toNat) (b := K 5 (Fb 344 5).toNat) hm_177 rfl ⟨by omega, by omega⟩ ⟨by omega, by omega⟩ (fun h13_ => ?_) (fun h14_ => ?_)
    ·
      refine ga_iload_n (z := 0) hm_177 rfl rfl ?_
      refine fl_if_eq hm_177 rfl ⟨by omega, by omega⟩ (fun _ => ?_) (fun h => absurd (by omega) h)
      
      refine ga_aload_n (v := .ref 344) hm_177 rfl rfl rfl ?_
      refine fl_iconst hm_177 rfl ?_
      refine gVv (nY := 2) (F := 0) (L := 0) (As := [.int (Int32.ofInt 1)]) (b := 344) (rest := []) hm_177 rfl hm_54 rfl rfl (fl_ob sc_344) rfl rfl rfl rfl rfl (by omega) (by omega) (mc_54 hG Fb X hg_Fb (K) (1) hgK hrk_b hkt (by omega) (by omega)) (fun _ _ h => False.elim h) ?_
      have b16_ : 0 ≤ Fb 344 10 ∧ Fb 344 10 ≤ 600 := gi_g hg_Fb rfl
      rintro A1_ ⟨F20_, hA_, g21_, s22_, c17_, c18_, c19_⟩
      subst hA_
      have g23_ : fs [(344, 344, 5, 5), (344, 344, 9, 10), (344, 344, 63, 63), (357, 357, 0, 100000)] F F20_ := fs_tr hf_Fb s22_ rfl
      have rk24_ : rk K F20_ := rk_fs hrk_b s22_ (fun r k h => (fs_n (by omega) rfl)) (fs_n (by omega) rfl)
      have c18_k := c18_.2 (by omega)
      clear c18_
      refine ga_aload_n (v := .ref 344) hm_177 rfl rfl rfl ?_
      refine gIv (nY := 1) (F := 1) (L := 20) (As := []) (b := 344) (rest := []) hm_177 rfl hm_61 rfl rfl (fl_ob sc_344) rfl rfl rfl rfl rfl (by omega) (by omega) ?_
      intro f25_ l26_ h27_ h28_
      show fl_R xi_ms 61 f25_ l26_ 0 [(0, .ref 344)] [] _ _
      refine ga_aload_n (v := .ref 344) hm_61 rfl rfl rfl ?_
      refine ga_dup hm_61 rfl rfl ?_
      have e29_ : F20_ 344 5 = Fb 344 5 := (s22_ 344 5 rfl).trans (rfl)
      refine ga_geti (z := Fb 344 5) hm_61 rfl sc_344 rfl (e29_) ?_
      refine ga_aload_n (v := .ref 344) hm_61 rfl rfl rfl ?_
      refine gIi (nY := 1) (F := 0) (L := 0) (As := []) (b := 344) (rest := [.int (Int32.ofInt (Fb 344 5)), .ref 344]) hm_61 rfl hm_59 rfl rfl (fl_ob sc_344) rfl rfl rfl rfl rfl (by omega) (by omega) ?_
      intro f30_ l31_ h32_ h33_
      show fl_R xi_ms 59 f30_ l31_ 0 [(0, .ref 344)] [] _ _
      refine ga_aload_n (v := .ref 344) hm_59 rfl rfl rfl ?_
      have b34_ : 0 ≤ F20_ 344 9 ∧ F20_ 344 9 ≤ 5 := gi_g g21_ rfl
      refine ga_geti (z := F20_ 344 9) hm_59 rfl sc_344 rfl (rfl) ?_
      refine fl_if_le (a := F20_ 344 9) hm_59 rfl ⟨by omega, by omega⟩ (fun h35_ => ?_) (fun h36_ => ?_)
      · exfalso; omega
      refine fl_iconst hm_59 rfl ?_
      refine fl_goto hm_59 rfl ?_
      refine gr_i hm_59 rfl rfl (ga_nb (by omega)) ?_
      clear h32_ h33_ f30_ l31_
      refine fl_if_eq hm_61 rfl ⟨by omega, by omega⟩ (fun h => absurd h (by omega)) (fun _ => ?_)
      refine fl_iconst hm_61 rfl ?_
      refine fl_goto hm_61 rfl ?_
      refine ga_iadd (a := Fb 344 5) (b := 0) (c := Fb 344 5) hm_61 rfl (by omega) ?_
      refine ga_puti (z := Fb 344 5) hm_61 rfl sc_344 rfl rfl ?_
      refine gr_v hm_61 rfl rfl ?_
      clear h27_ h28_ f25_ l26_
      refine ga_aload_n (v := .ref 344) hm_177 rfl rfl rfl ?_
      refine ga_getr (b := 357) hm_177 rfl sc_344 rfl ?_
      refine ga_iload_n (z := a) hm_177 rfl rfl ?_
      refine ga_iload_n (z := 0) hm_177 rfl rfl ?_
      refine fl_iast (z := a) (v := 0) hm_177 rfl sc_357 (by omega) (by omega) (by omega) ?_
      refine ga_aload_n (v := .ref 344) hm_177 rfl rfl rfl ?_
      refine fl_bipush hm_177 rfl rfl ?_
      obtain ⟨F37_, q38_⟩ : ∃ F9_, F9_ = (fl_u (fl_u F20_ 344 5 (Fb 344 5)) 357 a.toNat 0) := ⟨_, rfl⟩
      rw [← q38_]
      have g39_ : gi F37_ := by rw [q38_]; exact gi_u (gi_u (g21_) rfl (by omega) (by omega)) rfl (by omega) (by omega)
      have g40_ : fs [(344, 344, 5, 5), (344, 344, 9, 10), (344, 344, 63, 63), (357, 357, 0, 100000)] F F37_ := by rw [q38_]; exact fs_u (fs_u (g23_) rfl) (fs_z (fs_z (fs_z (fs_y (by omega)))))
      have rk41_ : rk K F37_ := by rw [q38_]; exact rk_u (rk_u (rk24_) (by omega) (by omega)) (by omega) (by omega)
      have e42_ : F37_ 344 5 = Fb 344 5 := by rw [q38_]; exact (fl_u_ne (by omega)).trans (fl_u_eq)
      refine gVv (nY := 2) (F := 2) (L := 41) (As := [.int (Int32.ofInt 41)]) (b := 344) (rest := []) hm_177 rfl hm_51 rfl rfl (fl_ob sc_344) rfl rfl rfl rfl rfl (by omega) (by omega) (mc_51 hG F37_ X g39_ (K) (41) (1) hgK rk41_ hkt (by omega) (by omega) (by omega)) (fun _ _ h => False.elim h) ?_
      have e44_ : F37_ 344 10 = F20_ 344 10 := by rw [q38_]; exact (fl_u_ne (by omega)).trans (fl_u_ne (by omega))
      have b45_ : 0 ≤ F20_ 344 10 ∧ F20_ 344 10 ≤ 600 := gi_g g21_ rfl
      have e46_ : F37_ 344 9 = F20_ 344 9 := by rw [q38_]; exact (fl_u_ne (by omega)).trans (fl_u_ne (by omega))
      rintro A1_ (⟨F50_, hA_, g51_, s52_, c47_, c48_, c49_⟩ | ⟨F56_, hA_, g57_, s58_, c53_, c54_, c55_⟩)
      ·
        subst hA_
        have g59_ : fs [(344, 344, 5, 5), (344, 344, 9, 10), (344, 344, 63, 63), (357, 357, 0, 100000)] F F50_ := fs_tr g40_ s52_ rfl
        have rk60_ : rk K F50_ := rk_fs rk41_ s52_ (fun r k h => (fs_n (by omega) (fs_n (by omega) rfl))) (fs_n (by omega) (fs_n (by omega) rfl))
        try simp only [e42_, e44_, e46_] at c48_
        have c48_k := c48_.2 (by omega)
        clear c48_
        refine gr_v hm_177 rfl rfl ?_
        have b61_ : 0 ≤ F50_ 344 9 ∧ F50_ 344 9 ≤ 5 := gi_g g51_ rfl
        have b62_ : 0 ≤ F50_ 344 10 ∧ F50_ 344 10 ≤ 600 := gi_g g51_ rfl
        have b63_ : 0 ≤ F 344 10 ∧ F 344 10 ≤ 600 := gi_g hgi rfl
        have b64_ : 0 ≤ F 344 5 ∧ F 344 5 ≤ 600 := gi_g hgi rfl
        have b65_ : 0 ≤ F 344 9 ∧ F 344 9 ≤ 5 := gi_g hgi rfl
        have b66_ : 0 ≤ F50_ 344 5 ∧ F50_ 344 5 ≤ 600 := gi_g g51_ rfl
        exact Or.inl ⟨F50_, rfl, g51_, g59_, (by omega), (⟨fun h0_ => by rw [show F50_ 344 9 = Fb 344 9 by omega, show F50_ 344 10 = Fb 344 10 by omega]; exact hb.1 h0_, fun h0_ => by have h1_ := hb.2 h0_; omega⟩), (by omega)⟩
      exfalso; omega
    refine ga_iload_n (z := 0) hm_177 rfl rfl ?_
    refine fl_if_eq hm_177 rfl ⟨by omega, by omega⟩ (fun _ => ?_) (fun h => absurd (by omega) h)
    refine ga_iload_n (z := 0) hm_177 rfl rfl ?_
    refine fl_if_eq hm_177 rfl ⟨by omega, by omega⟩ (fun _ => ?_) (fun h => absurd (by omega) h)
    
    refine ga_aload_n (v := .ref 344) hm_177 rfl rfl rfl ?_
    refine fl_iconst hm_177 rfl ?_
    refine gVv (nY := 2) (F := 0) (L := 0) (As := [.int (Int32.ofInt 1)]) (b := 344) (rest := []) hm_177 rfl hm_54 rfl rfl (fl_ob sc_344) rfl rfl rfl rfl rfl (by omega) (by omega) (mc_54 hG Fb X hg_Fb (K) (1) hgK hrk_b hkt (by omega) (by omega)) (fun _ _ h => False.elim h) ?_
    have b68_ : 0 ≤ Fb 344 10 ∧ Fb 344 10 ≤ 600 := gi_g hg_Fb rfl
    rintro A1_ ⟨F72_, hA_, g73_, s74_, c69_, c70_, c71_⟩
    subst hA_
    have g75_ : fs [(344, 344, 5, 5), (344, 344, 9, 10), (344, 344, 63, 63), (357, 357, 0, 100000)] F F72_ := fs_tr hf_Fb s74_ rfl
    have rk76_ : rk K F72_ := rk_fs hrk_b s74_ (fun r k h => (fs_n (by omega) rfl)) (fs_n (by omega) rfl)
    have c70_k := c70_.2 (by omega)
    clear c70_
    refine ga_aload_n (v := .ref 344) hm_177 rfl rfl rfl ?_
    refine gIv (nY := 1) (F := 1) (L := 20) (As := []) (b := 344) (rest := []) hm_177 rfl hm_61 rfl rfl (fl_ob sc_344) rfl rfl rfl rfl rfl (by omega) (by omega) ?_
    intro f77_ l78_ h79_ h80_
    show fl_R xi_ms 61 f77_ l78_ 0 [(0, .ref 344)] [] _ _
    refine ga_aload_n (v := .ref 344) hm_61 rfl rfl rfl ?_
    refine ga_dup hm_61 rfl rfl ?_
    have e81_ : F72_ 344 5 = Fb 344 5 := (s74_ 344 5 rfl).trans (rfl)
    refine ga_geti (z := Fb 344 5) hm_61 rfl sc_344 rfl (e81_) ?_
    refine ga_aload_n (v := .ref 344) hm_61 rfl rfl rfl ?_
    refine gIi (nY := 1) (F := 0) (L := 0) (As := []) (b := 344) (rest := [.int (Int32.ofInt (Fb 344 5)), .ref 344]) hm_61 rfl hm_59 rfl rfl (fl_ob sc_344) rfl rfl rfl rfl rfl (by omega) (by omega) ?_
    intro f82_ l83_ h84_ h85_
    show fl_R xi_ms 59 f82_ l83_ 0 [(0, .ref 344)] [] _ _
    refine ga_aload_n (v := .ref 344) hm_59 rfl rfl rfl ?_
    have b86_ : 0 ≤ F72_ 344 9 ∧ F72_ 344 9 ≤ 5 := gi_g g73_ rfl
    refine ga_geti (z := F72_ 344 9) hm_59 rfl sc_344 rfl (rfl) ?_
    refine fl_if_le (a := F72_ 344 9) hm_59 rfl ⟨by omega, by omega⟩ (fun h87_ => ?_) (fun h88_ => ?_)
    · exfalso; omega
    refine fl_iconst hm_59 rfl ?_
    refine fl_goto hm_59 rfl ?_
    refine gr_i hm_59 rfl rfl (ga_nb (by omega)) ?_
    clear h84_ h85_ f82_ l83_
    refine fl_if_eq hm_61 rfl ⟨by omega, by omega⟩ (fun h => absurd h (by omega)) (fun _ => ?_)
    refine fl_iconst hm_61 rfl ?_
    refine fl_goto hm_61 rfl ?_
    refine ga_iadd (a := Fb 344 5) (b := 0) (c := Fb 344 5) hm_61 rfl (by omega) ?_
    refine ga_puti (z := Fb 344 5) hm_61 rfl sc_344 rfl rfl ?_
    refine gr_v hm_61 rfl rfl ?_
    clear h79_ h80_ f77_ l78_
    refine ga_aload_n (v := .ref 344) hm_177 rfl rfl rfl ?_
    refine ga_getr (b := 357) hm_177 rfl sc_344 rfl ?_
    refine ga_iload_n (z := a) hm_177 rfl rfl ?_
    refine ga_iload_n (z := 0) hm_177 rfl rfl ?_
    refine fl_iast (z := a) (v := 0) hm_177 rfl sc_357 (by omega) (by omega) (by omega) ?_
    refine ga_aload_n (v := .ref 344) hm_177 rfl rfl rfl ?_
    refine fl_bipush hm_177 rfl rfl ?_
    obtain ⟨F89_, q90_⟩ : ∃ F9_, F9_ = (fl_u (fl_u F72_ 344 5 (Fb 344 5)) 357 a.toNat 0) := ⟨_, rfl⟩
    rw [← q90_]
    have g91_ : gi F89_ := by rw [q90_]; exact gi_u (gi_u (g73_) rfl (by omega) (by omega)) rfl (by omega) (by omega)
    have g92_ : fs [(344, 344, 5, 5), (344, 344, 9, 10), (344, 344, 63, 63), (357, 357, 0, 100000)] F F89_ := by rw [q90_]; exact fs_u (fs_u (g75_) rfl) (fs_z (fs_z (fs_z (fs_y (by omega)))))
    have rk93_ : rk K F89_ := by rw [q90_]; exact rk_u (rk_u (rk76_) (by omega) (by omega)) (by omega) (by omega)
    have e94_ : F89_ 344 5 = Fb 344 5 := by rw [q90_]; exact (fl_u_ne (by omega)).trans (fl_u_eq)
    refine gVv (nY := 2) (F := 2) (L := 41) (As := [.int (Int32.ofInt 41)]) (b := 344) (rest := []) hm_177 rfl hm_51 rfl rfl (fl_ob sc_344) rfl rfl rfl rfl rfl (by omega) (by omega) (mc_51 hG F89_ X g91_ (K) (41) (1) hgK rk93_ hkt (by omega) (by omega) (by omega)) (fun _ _ h => False.elim h) ?_
    have e96_ : F89_ 344 10 = F72_ 344 10 := by rw [q90_]; exact (fl_u_ne (by omega)).trans (fl_u_ne (by omega))
    have b97_ : 0 ≤ F72_ 344 10 ∧ F72_ 344 10 ≤ 600 := gi_g g73_ rfl
    have e98_ : F89_ 344 9 = F72_ 344 9 := by rw [q90_]; exact (fl_u_ne (by omega)).trans (fl_u_ne (by omega))
    rintro A1_ (⟨F102_, hA_, g103_, s104_, c99_, c100_, c101_⟩ | ⟨F108_, hA_, g109_, s110_, c105_, c106_, c107_⟩)
    ·
      subst hA_
      have g111_ : fs [(344, 344, 5, 5), (344, 344, 9, 10), (344, 344, 63, 63), (357, 357, 0, 100000)] F F102_ := fs_tr g92_ s104_ rfl
      have rk112_ : rk K F102_ := rk_fs rk93_ s104_ (fun r k h => (fs_n (by omega) (fs_n (by omega) rfl))) (fs_n (by omega) (fs_n (by omega) rfl))
      try simp only [e94_, e96_, e98_] at c100_
      have c100_k := c100_.2 (by omega)
      clear c100_
      refine gr_v hm_177 rfl rfl ?_
      have b113_ : 0 ≤ F102_ 344 9 ∧ F102_ 344 9 ≤ 5 := gi_g g103_ rfl
      have b114_ : 0 ≤ F102_ 344 10 ∧ F102_ 344 10 ≤ 600 := gi_g g103_ rfl
      have b115_ : 0 ≤ F 344 10 ∧ F 344 10 ≤ 600 := gi_g hgi rfl
      have b116_ : 0 ≤ F 344 5 ∧ F 344 5 ≤ 600 := gi_g hgi rfl
      have b117_ : 0 ≤ F 344 9 ∧ F 344 9 ≤ 5 := gi_g hgi rfl
      have b118_ : 0 ≤ F102_ 344 5 ∧ F102_ 344 5 ≤ 600 := gi_g g103_ rfl
      exact Or.inl ⟨F102_, rfl, g103_, g111_, (by omega), (⟨fun h0_ => by rw [show F102_ 344 9 = Fb 344 9 by omega, show F102_ 344 10 = Fb 344 10 by omega]; exact hb.1 h0_, fun h0_ => by have h1_ := hb.2 h0_; omega⟩), (by omega)⟩
    exfalso; omega
  have B33_ : ∀ (Fb : fl_N), (gi Fb) → (fs [(344, 344, 5, 5), (344, 344, 9, 10), (344, 344, 63, 63), (357, 357, 0, 100000)] F Fb) → (rk K Fb) → (¬ Fb 344 9 = 0) → (0 ≤ Fb 344 5 ∧ Fb 344 5 ≤ K 1 6 - 1) → ((F 344 9 = 0 → sp_inc K c (F 344 5) = .inl (Fb 344 9, Fb 344 10)) ∧ (¬ F 344 9 = 0 → Fb 344 9 = F 344 9 ∧ Fb 344 10 = F 344 10)) → fl_R xi_ms 177 fr lo 33 [(0, .ref 344), (1, .int (Int32.ofInt a))] [] (fl_H sh_T G Fb ++ X) (pq_177 G F X K a c) := by
    intro Fb hg_Fb hf_Fb hrk_b hbd hp_b hb
    refine ga_aload_n (v := .ref 344) hm_177 rfl rfl rfl ?_
    refine fl_bipush hm_177 rfl rfl ?_
    have b119_ : 0 ≤ Fb 344 5 ∧ Fb 344 5 ≤ 600 := gi_g hg_Fb rfl
    refine gVv (nY := 2) (F := 2) (L := 41) (As := [.int (Int32.ofInt 41)]) (b := 344) (rest := []) hm_177 rfl hm_51 rfl rfl (fl_ob sc_344) rfl rfl rfl rfl rfl (by omega) (by omega) (mc_51 hG Fb X hg_Fb (K) (41) (1) hgK hrk_b hkt (by omega) (by omega) (by omega)) (fun _ _ h => False.elim h) ?_
    have b121_ : 0 ≤ Fb 344 10 ∧ Fb 344 10 ≤ 600 := gi_g hg_Fb rfl
    have b122_ : 0 ≤ Fb 344 9 ∧ Fb 344 9 ≤ 5 := gi_g hg_Fb rfl
    rintro A1_ (⟨F126_, hA_, g127_, s128_, c123_, c124_, c125_⟩ | ⟨F132_, hA_, g133_, s134_, c129_, c130_, c131_⟩)
    ·
      subst hA_
      have g135_ : fs [(344, 344, 5, 5), (344, 344, 9, 10), (344, 344, 63, 63), (357, 357, 0, 100000)] F F126_ := fs_tr hf_Fb s128_ rfl
      have rk136_ : rk K F126_ := rk_fs hrk_b s128_ (fun r k h => (fs_n (by omega) (fs_n (by omega) rfl))) (fs_n (by omega) (fs_n (by omega) rfl))
      have c124_k := c124_.2 (by omega)
      clear c124_
      have b137_ : 0 ≤ F126_ 344 9 ∧ F126_ 344 9 ≤ 5 := gi_g g127_ rfl
      have b138_ : 0 ≤ F126_ 344 10 ∧ F126_ 344 10 ≤ 600 := gi_g g127_ rfl
      have b139_ : 0 ≤ F126_ 344 5 ∧ F126_ 344 5 ≤ 600 := gi_g g127_ rfl
      exact B39_ F126_ g127_ g135_ rk136_ (by omega) (by omega) (⟨fun h0_ => by rw [show F126_ 344 9 = Fb 344 9 by omega, show F126_ 344 10 = Fb 344 10 by omega]; exact hb.1 h0_, fun h0_ => by have h1_ := hb.2 h0_; omega⟩)
    exfalso; omega
  have B27_ : ∀ (Fb : fl_N), (gi Fb) → (fs [(344, 344, 5, 5), (344, 344, 9, 10), (344, 344, 63, 63), (357, 357, 0, 100000)] F Fb) → (rk K Fb) → (¬ Fb 344 9 = 0) → (0 ≤ Fb 344 5 ∧ Fb 344 5 ≤ K 1 6 - 1) → ((F 344 9 = 0 → sp_inc K c (F 344 5) = .inl (Fb 344 9, Fb 344 10)) ∧ (¬ F 344 9 = 0 → Fb 344 9 = F 344 9 ∧ Fb 344 10 = F 344 10)) → fl_R xi_ms 177 fr lo 27 [(0, .ref 344), (1, .int (Int32.ofInt a))] [] (fl_H sh_T G Fb ++ X) (pq_177 G F X K a c) := by
    intro Fb hg_Fb hf_Fb hrk_b hbd hp_b hb
    refine ga_aload_n (v := .ref 344) hm_177 rfl rfl rfl ?_
    refine fl_bipush hm_177 rfl rfl ?_
    have b140_ : 0 ≤ Fb 344 5 ∧ Fb 344 5 ≤ 600 := gi_g hg_Fb rfl
    refine gVv (nY := 2) (F := 2) (L := 44) (As := [.int (Int32.ofInt 12)]) (b := 344) (rest := []) hm_177 rfl hm_55 rfl rfl (fl_ob sc_344) rfl rfl rfl rfl rfl (by omega) (by omega) (mc_55 hG Fb X hg_Fb (K) (12) ([116, 111, 116, 97, 108, 45, 99, 111, 115, 116]) hgK hrk_b hkt (by omega) (by omega) (by decide) (kw_12 hrk_b)) (fun _ _ h => False.elim h) ?_
    have b142_ : 0 ≤ Fb 344 10 ∧ Fb 344 10 ≤ 600 := gi_g hg_Fb rfl
    have b143_ : 0 ≤ Fb 344 9 ∧ Fb 344 9 ≤ 5 := gi_g hg_Fb rfl
    rintro A1_ (⟨F147_, hA_, g148_, s149_, c144_, c145_, c146_⟩ | ⟨F153_, hA_, g154_, s155_, c150_, c151_, c152_⟩)
    ·
      subst hA_
      have g156_ : fs [(344, 344, 5, 5), (344, 344, 9, 10), (344, 344, 63, 63), (357, 357, 0, 100000)] F F147_ := fs_tr hf_Fb s149_ rfl
      have rk157_ : rk K F147_ := rk_fs hrk_b s149_ (fun r k h => (fs_n (by omega) (fs_n (by omega) rfl))) (fs_n (by omega) (fs_n (by omega) rfl))
      have c145_k := c145_.2 (by omega)
      clear c145_
      have b158_ : 0 ≤ F147_ 344 9 ∧ F147_ 344 9 ≤ 5 := gi_g g148_ rfl
      have b159_ : 0 ≤ F147_ 344 10 ∧ F147_ 344 10 ≤ 600 := gi_g g148_ rfl
      have b160_ : 0 ≤ F147_ 344 5 ∧ F147_ 344 5 ≤ 600 := gi_g g148_ rfl
      exact B33_ F147_ g148_ g156_ rk157_ (by omega) (by omega) (⟨fun h0_ => by rw [show F147_ 344 9 = Fb 344 9 by omega, show F147_ 344 10 = Fb 344 10 by omega]; exact hb.1 h0_, fun h0_ => by have h1_ := hb.2 h0_; omega⟩)
    exfalso; omega
  have B21_ : ∀ (Fb : fl_N), (gi Fb) → (fs [(344, 344, 5, 5), (344, 344, 9, 10), (344, 344, 63, 63), (357, 357, 0, 100000)] F Fb) → (rk K Fb) → (¬ Fb 344 9 = 0) → (0 ≤ Fb 344 5 ∧ Fb 344 5 ≤ K 1 6 - 1) → ((F 344 9 = 0 → sp_inc K c (F 344 5) = .inl (Fb 344 9, Fb 344 10)) ∧ (¬ F 344 9 = 0 → Fb 344 9 = F 344 9 ∧ Fb 344 10 = F 344 10)) → fl_R xi_ms 177 fr lo 21 [(0, .ref 344), (1, .int (Int32.ofInt a))] [] (fl_H sh_T G Fb ++ X) (pq_177 G F X K a c) := by
    intro Fb hg_Fb hf_Fb hrk_b hbd hp_b hb
    refine ga_aload_n (v := .ref 344) hm_177 rfl rfl rfl ?_
    refine fl_bipush hm_177 rfl rfl ?_
    have b161_ : 0 ≤ Fb 344 5 ∧ Fb 344 5 ≤ 600 := gi_g hg_Fb rfl
    refine gVv (nY := 2) (F := 2) (L := 41) (As := [.int (Int32.ofInt 40)]) (b := 344) (rest := []) hm_177 rfl hm_51 rfl rfl (fl_ob sc_344) rfl rfl rfl rfl rfl (by omega) (by omega) (mc_51 hG Fb X hg_Fb (K) (40) (0) hgK hrk_b hkt (by omega) (by omega) (by omega)) (fun _ _ h => False.elim h) ?_
    have b163_ : 0 ≤ Fb 344 10 ∧ Fb 344 10 ≤ 600 := gi_g hg_Fb rfl
    have b164_ : 0 ≤ Fb 344 9 ∧ Fb 344 9 ≤ 5 := gi_g hg_Fb rfl
    rintro A1_ (⟨F168_, hA_, g169_, s170_, c165_, c166_, c167_⟩ | ⟨F174_, hA_, g175_, s176_, c171_, c172_, c173_⟩)
    ·
      subst hA_
      have g177_ : fs [(344, 344, 5, 5), (344, 344, 9, 10), (344, 344, 63, 63), (357, 357, 0, 100000)] F F168_ := fs_tr hf_Fb s170_ rfl
      have rk178_ : rk K F168_ := rk_fs hrk_b s170_ (fun r k h => (fs_n (by omega) (fs_n (by omega) rfl))) (fs_n (by omega) (fs_n (by omega) rfl))
      have c166_k := c166_.2 (by omega)
      clear c166_
      have b179_ : 0 ≤ F168_ 344 9 ∧ F168_ 344 9 ≤ 5 := gi_g g169_ rfl
      have b180_ : 0 ≤ F168_ 344 10 ∧ F168_ 344 10 ≤ 600 := gi_g g169_ rfl
      have b181_ : 0 ≤ F168_ 344 5 ∧ F168_ 344 5 ≤ 600 := gi_g g169_ rfl
      exact B27_ F168_ g169_ g177_ rk178_ (by omega) (by omega) (⟨fun h0_ => by rw [show F168_ 344 9 = Fb 344 9 by omega, show F168_ 344 10 = Fb 344 10 by omega]; exact hb.1 h0_, fun h0_ => by have h1_ := hb.2 h0_; omega⟩)
    exfalso; omega
  have h0_9 := h0
  refine ga_aload_n (v := .ref 344) hm_177 rfl rfl rfl ?_
  have b182_ : 0 ≤ F 344 63 ∧ F 344 63 ≤ 1 := gi_g hgi rfl
  refine ga_geti (z := F 344 63) hm_177 rfl sc_344 rfl (rfl) ?_
  refine fl_if_eq (a := F 344 63) hm_177 rfl ⟨by omega, by omega⟩ (fun h183_ => ?_) (fun h184_ => ?_)
  ·
    refine ga_aload_n (v := .ref 344) hm_177 rfl rfl rfl ?_
    refine fl_iconst hm_177 rfl ?_
    refine ga_putz (z := 1) hm_177 rfl sc_344 rfl rfl (by omega) ?_
    refine ga_aload_n (v := .ref 344) hm_177 rfl rfl rfl ?_
    refine gIv (nY := 1) (F := 1) (L := 20) (As := []) (b := 344) (rest := []) hm_177 rfl hm_61 rfl rfl (fl_ob sc_344) rfl rfl rfl rfl rfl (by omega) (by omega) ?_
    intro f185_ l186_ h187_ h188_
    show fl_R xi_ms 61 f185_ l186_ 0 [(0, .ref 344)] [] _ _
    refine ga_aload_n (v := .ref 344) hm_61 rfl rfl rfl ?_
    refine ga_dup hm_61 rfl rfl ?_
    have b189_ : 0 ≤ F 344 5 ∧ F 344 5 ≤ 600 := gi_g hgi rfl
    refine ga_geti (z := F 344 5) hm_61 rfl sc_344 rfl (fl_u_ne (by omega)) ?_
    refine ga_aload_n (v := .ref 344) hm_61 rfl rfl rfl ?_
    refine gIi (nY := 1) (F := 0) (L := 0) (As := []) (b := 344) (rest := [.int (Int32.ofInt (F 344 5)), .ref 344]) hm_61 rfl hm_59 rfl rfl (fl_ob sc_344) rfl rfl rfl rfl rfl (by omega) (by omega) ?_
    intro f190_ l191_ h192_ h193_
    show fl_R xi_ms 59 f190_ l191_ 0 [(0, .ref 344)] [] _ _
    refine ga_aload_n (v := .ref 344) hm_59 rfl rfl rfl ?_
    have b194_ : 0 ≤ F 344 9 ∧ F 344 9 ≤ 5 := gi_g hgi rfl
    refine ga_geti (z := F 344 9) hm_59 rfl sc_344 rfl (fl_u_ne (by omega)) ?_
    refine fl_if_le (a := F 344 9) hm_59 rfl ⟨by omega, by omega⟩ (fun h195_ => ?_) (fun h196_ => ?_)
    ·
      refine fl_iconst hm_59 rfl ?_
      refine gr_i hm_59 rfl rfl (ga_nb (by omega)) ?_
      clear h192_ h193_ f190_ l191_
      refine fl_if_eq hm_61 rfl ⟨by omega, by omega⟩ (fun _ => ?_) (fun h => absurd (by omega) h)
      refine fl_iconst hm_61 rfl ?_
      refine ga_iadd (a := F 344 5) (b := 1) (c := F 344 5 + 1) hm_61 rfl (by omega) ?_
      refine ga_puti (z := F 344 5 + 1) hm_61 rfl sc_344 rfl rfl ?_
      refine gr_v hm_61 rfl rfl ?_
      clear h187_ h188_ f185_ l186_
      refine ga_aload_n (v := .ref 344) hm_177 rfl rfl rfl ?_
      refine fl_bipush hm_177 rfl rfl ?_
      obtain ⟨F197_, q198_⟩ : ∃ F9_, F9_ = (fl_u (fl_u F 344 63 1) 344 5 (F 344 5 + 1)) := ⟨_, rfl⟩
      rw [← q198_]
      have g199_ : gi F197_ := by rw [q198_]; exact gi_u (gi_u (hgi) rfl (by omega) (by omega)) rfl (by omega) (by omega)
      have g200_ : fs [(344, 344, 5, 5), (344, 344, 9, 10), (344, 344, 63, 63), (357, 357, 0, 100000)] F F197_ := by rw [q198_]; exact fs_u (fs_u (fs_refl) rfl) rfl
      have rk201_ : rk K F197_ := by rw [q198_]; exact rk_u (rk_u (hrk) (by omega) (by omega)) (by omega) (by omega)
      have e202_ : F197_ 344 5 = F 344 5 + 1 := by rw [q198_]; exact fl_u_eq
      refine gVv (nY := 2) (F := 2) (L := 41) (As := [.int (Int32.ofInt 40)]) (b := 344) (rest := []) hm_177 rfl hm_51 rfl rfl (fl_ob sc_344) rfl rfl rfl rfl rfl (by omega) (by omega) (mc_51 hG F197_ X g199_ (K) (40) (0) hgK rk201_ hkt (by omega) (by omega) (by omega)) (fun _ _ h => False.elim h) ?_
      have e204_ : F197_ 344 10 = F 344 10 := by rw [q198_]; exact (fl_u_ne (by omega)).trans (fl_u_ne (by omega))
      have b205_ : 0 ≤ F 344 10 ∧ F 344 10 ≤ 600 := gi_g hgi rfl
      have e206_ : F197_ 344 9 = F 344 9 := by rw [q198_]; exact (fl_u_ne (by omega)).trans (fl_u_ne (by omega))
      rintro A1_ (⟨F210_, hA_, g211_, s212_, c207_, c208_, c209_⟩ | ⟨F216_, hA_, g217_, s218_, c213_, c214_, c215_⟩)
      ·
        subst hA_
        have g219_ : fs [(344, 344, 5, 5), (344, 344, 9, 10), (344, 344, 63, 63), (357, 357, 0, 100000)] F F210_ := fs_tr g200_ s212_ rfl
        have rk220_ : rk K F210_ := rk_fs rk201_ s212_ (fun r k h => (fs_n (by omega) (fs_n (by omega) rfl))) (fs_n (by omega) (fs_n (by omega) rfl))
        try simp only [e202_, e204_, e206_] at c208_
        have c208_s := c208_.1 (by omega)
        clear c208_
        have b221_ : 0 ≤ F210_ 344 9 ∧ F210_ 344 9 ≤ 5 := gi_g g211_ rfl
        have b222_ : 0 ≤ F210_ 344 10 ∧ F210_ 344 10 ≤ 600 := gi_g g211_ rfl
        have b223_ : 0 ≤ F210_ 344 5 ∧ F210_ 344 5 ≤ 600 := gi_g g211_ rfl
        exact B27_ F210_ g211_ g219_ rk220_ (by omega) (by omega) (⟨by intro h0_; have hs_ := c208_s; rw [sp_inc, if_pos (by omega), (show sk K (F 344 5) = F 344 5 + 1 by rw [sk, if_pos (by omega)])]; rw [hs_]; show Sum.inl _ = _; try (congr 2 <;> omega), fun h0_ => by exfalso; omega⟩)
      subst hA_
      have g224_ : fs [(344, 344, 5, 5), (344, 344, 9, 10), (344, 344, 63, 63), (357, 357, 0, 100000)] F F216_ := fs_tr g200_ s218_ rfl
      have rk225_ : rk K F216_ := rk_fs rk201_ s218_ (fun r k h => (fs_n (by omega) (fs_n (by omega) rfl))) (fs_n (by omega) (fs_n (by omega) rfl))
      try simp only [e206_] at c213_
      try simp only [e202_] at c214_
      refine ga_aload_n (v := .ref 344) hm_177 rfl rfl rfl ?_
      refine fl_bipush hm_177 rfl rfl ?_
      have b226_ : 0 ≤ F216_ 344 5 ∧ F216_ 344 5 ≤ 600 := gi_g g217_ rfl
      refine gVv (nY := 2) (F := 2) (L := 44) (As := [.int (Int32.ofInt 12)]) (b := 344) (rest := []) hm_177 rfl hm_55 rfl rfl (fl_ob sc_344) rfl rfl rfl rfl rfl (by omega) (by omega) (mc_55 hG F216_ X g217_ (K) (12) ([116, 111, 116, 97, 108, 45, 99, 111, 115, 116]) hgK rk225_ hkt (by omega) (by omega) (by decide) (kw_12 rk225_)) (fun _ _ h => False.elim h) ?_
      have b228_ : 0 ≤ F216_ 344 10 ∧ F216_ 344 10 ≤ 600 := gi_g g217_ rfl
      have b229_ : 0 ≤ F216_ 344 9 ∧ F216_ 344 9 ≤ 5 := gi_g g217_ rfl
      rintro A1_ (⟨F233_, hA_, g234_, s235_, c230_, c231_, c232_⟩ | ⟨F239_, hA_, g240_, s241_, c236_, c237_, c238_⟩)
      ·
        subst hA_
        have g242_ : fs [(344, 344, 5, 5), (344, 344, 9, 10), (344, 344, 63, 63), (357, 357, 0, 100000)] F F233_ := fs_tr g224_ s235_ rfl
        have rk243_ : rk K F233_ := rk_fs rk225_ s235_ (fun r k h => (fs_n (by omega) (fs_n (by omega) rfl))) (fs_n (by omega) (fs_n (by omega) rfl))
        have c231_s := c231_.1 (by omega)
        clear c231_
        have b244_ : 0 ≤ F233_ 344 9 ∧ F233_ 344 9 ≤ 5 := gi_g g234_ rfl
        have b245_ : 0 ≤ F233_ 344 10 ∧ F233_ 344 10 ≤ 600 := gi_g g234_ rfl
        have b246_ : 0 ≤ F233_ 344 5 ∧ F233_ 344 5 ≤ 600 := gi_g g234_ rfl
        exact B33_ F233_ g234_ g242_ rk243_ (by omega) (by omega) (⟨by intro h0_; have hs_ := c231_s; rw [sp_inc, if_pos (by omega), (show sk K (F 344 5) = F 344 5 + 1 by rw [sk, if_pos (by omega)])]; rw [c214_, pb_r]; rw [hs_]; show Sum.inl _ = _; try (congr 2 <;> omega), fun h0_ => by exfalso; omega⟩)
      subst hA_
      have g247_ : fs [(344, 344, 5, 5), (344, 344, 9, 10), (344, 344, 63, 63), (357, 357, 0, 100000)] F F239_ := fs_tr g224_ s241_ rfl
      have rk248_ : rk K F239_ := rk_fs rk225_ s241_ (fun r k h => (fs_n (by omega) (fs_n (by omega) rfl))) (fs_n (by omega) (fs_n (by omega) rfl))
      refine ga_aload_n (v := .ref 344) hm_177 rfl rfl rfl ?_
      refine fl_bipush hm_177 rfl rfl ?_
      have b249_ : 0 ≤ F239_ 344 5 ∧ F239_ 344 5 ≤ 600 := gi_g g240_ rfl
      refine gVv (nY := 2) (F := 2) (L := 41) (As := [.int (Int32.ofInt 41)]) (b := 344) (rest := []) hm_177 rfl hm_51 rfl rfl (fl_ob sc_344) rfl rfl rfl rfl rfl (by omega) (by omega) (mc_51 hG F239_ X g240_ (K) (41) (1) hgK rk248_ hkt (by omega) (by omega) (by omega)) (fun _ _ h => False.elim h) ?_
      have b251_ : 0 ≤ F239_ 344 10 ∧ F239_ 344 10 ≤ 600 := gi_g g240_ rfl
      have b252_ : 0 ≤ F239_ 344 9 ∧ F239_ 344 9 ≤ 5 := gi_g g240_ rfl
      rintro A1_ (⟨F256_, hA_, g257_, s258_, c253_, c254_, c255_⟩ | ⟨F262_, hA_, g263_, s264_, c259_, c260_, c261_⟩)
      ·
        subst hA_
        have g265_ : fs [(344, 344, 5, 5), (344, 344, 9, 10), (344, 344, 63, 63), (357, 357, 0, 100000)] F F256_ := fs_tr g247_ s258_ rfl
        have rk266_ : rk K F256_ := rk_fs rk248_ s258_ (fun r k h => (fs_n (by omega) (fs_n (by omega) rfl))) (fs_n (by omega) (fs_n (by omega) rfl))
        have c254_s := c254_.1 (by omega)
        clear c254_
        have b267_ : 0 ≤ F256_ 344 9 ∧ F256_ 344 9 ≤ 5 := gi_g g257_ rfl
        have b268_ : 0 ≤ F256_ 344 10 ∧ F256_ 344 10 ≤ 600 := gi_g g257_ rfl
        have b269_ : 0 ≤ F256_ 344 5 ∧ F256_ 344 5 ≤ 600 := gi_g g257_ rfl
        exact B39_ F256_ g257_ g265_ rk266_ (by omega) (by omega) (⟨by intro h0_; have hs_ := c254_s; rw [sp_inc, if_pos (by omega), (show sk K (F 344 5) = F 344 5 + 1 by rw [sk, if_pos (by omega)])]; rw [c214_, pb_r]; rw [c237_, pb_r]; rw [hs_]; show Sum.inl _ = _; try (congr 2 <;> omega), fun h0_ => by exfalso; omega⟩)
      subst hA_
      have g270_ : fs [(344, 344, 5, 5), (344, 344, 9, 10), (344, 344, 63, 63), (357, 357, 0, 100000)] F F262_ := fs_tr g247_ s264_ rfl
      have rk271_ : rk K F262_ := rk_fs rk248_ s264_ (fun r k h => (fs_n (by omega) (fs_n (by omega) rfl))) (fs_n (by omega) (fs_n (by omega) rfl))
      have hP3 := (rkt_p hkt (p := F262_ 344 5) (by omega) (by omega) hgK).1
      have hb3 : 0 ≤ K 2 0 ∧ K 2 0 ≤ 126 := gi_g hgK rfl
      refine fl_iconst hm_177 rfl ?_
      refine ga_istore_n (lv2 := [(2, .int (Int32.ofInt 0)), (0, .ref 344), (1, .int (Int32.ofInt a))]) hm_177 rfl (Nat.le_of_ble_eq_true rfl) rfl ?_
      refine ga_aload_n (v := .ref 344) hm_177 rfl rfl rfl ?_
      refine gIi (nY := 1) (F := 0) (L := 0) (As := []) (b := 344) (rest := []) hm_177 rfl hm_59 rfl rfl (fl_ob sc_344) rfl rfl rfl rfl rfl (by omega) (by omega) ?_
      intro f272_ l273_ h274_ h275_
      show fl_R xi_ms 59 f272_ l273_ 0 [(0, .ref 344)] [] _ _
      refine ga_aload_n (v := .ref 344) hm_59 rfl rfl rfl ?_
      have b276_ : 0 ≤ F262_ 344 9 ∧ F262_ 344 9 ≤ 5 := gi_g g263_ rfl
      refine ga_geti (z := F262_ 344 9) hm_59 rfl sc_344 rfl (rfl) ?_
      refine fl_if_le (a := F262_ 344 9) hm_59 rfl ⟨by omega, by omega⟩ (fun h277_ => ?_) (fun h278_ => ?_)
      ·
        refine fl_iconst hm_59 rfl ?_
        refine gr_i hm_59 rfl rfl (ga_nb (by omega)) ?_
        clear h274_ h275_ f272_ l273_
        refine fl_if_ne hm_177 rfl ⟨by omega, by omega⟩ (fun h => absurd h (by omega)) (fun _ => ?_)
        refine ga_aload_n (v := .ref 344) hm_177 rfl rfl rfl ?_
        refine gIi (nY := 1) (F := 0) (L := 0) (As := []) (b := 344) (rest := []) hm_177 rfl hm_53 rfl rfl (fl_ob sc_344) rfl rfl rfl rfl rfl (by omega) (by omega) ?_
        intro f279_ l280_ h281_ h282_
        show fl_R xi_ms 53 f279_ l280_ 0 [(0, .ref 344)] [] _ _
        refine ga_aload_n (v := .ref 344) hm_53 rfl rfl rfl ?_
        refine ga_getr (b := 348) hm_53 rfl sc_344 rfl ?_
        refine ga_aload_n (v := .ref 344) hm_53 rfl rfl rfl ?_
        have b283_ : 0 ≤ F262_ 344 5 ∧ F262_ 344 5 ≤ 600 := gi_g g263_ rfl
        refine ga_geti (z := F262_ 344 5) hm_53 rfl sc_344 rfl (rfl) ?_
        have e284_ : F262_ 348 (F262_ 344 5).toNat = K 5 (F262_ 344 5).toNat := (rk271_.1 (F262_ 344 5) (by omega) (by omega)).2
        have b285_ : 0 ≤ K 5 (F262_ 344 5).toNat ∧ K 5 (F262_ 344 5).toNat ≤ 600 := gi_g hgK rfl
        refine ga_iald (z := F262_ 344 5) (w := K 5 (F262_ 344 5).toNat) hm_53 rfl sc_348 (by omega) (by omega) (by omega) (e284_) ?_
        refine ga_aload_n (v := .ref 344) hm_53 rfl rfl rfl ?_
        refine ga_getr (b := 347) hm_53 rfl sc_344 rfl ?_
        refine ga_aload_n (v := .ref 344) hm_53 rfl rfl rfl ?_
        refine ga_geti (z := F262_ 344 5) hm_53 rfl sc_344 rfl (rfl) ?_
        have e286_ : F262_ 347 (F262_ 344 5).toNat = K 4 (F262_ 344 5).toNat := (rk271_.1 (F262_ 344 5) (by omega) (by omega)).1
        have b287_ : 0 ≤ K 4 (F262_ 344 5).toNat ∧ K 4 (F262_ 344 5).toNat ≤ 600 := gi_g hgK rfl
        refine ga_iald (z := F262_ 344 5) (w := K 4 (F262_ 344 5).toNat) hm_53 rfl sc_347 (by omega) (by omega) (by omega) (e286_) ?_
        refine ga_isub (a := K 5 (F262_ 344 5).toNat) (b := K 4 (F262_ 344 5).toNat) (c := K 5 (F262_ 344 5).toNat - (K 4 (F262_ 344 5).toNat)) hm_53 rfl (by omega) ?_
        refine gr_i hm_53 rfl rfl rfl ?_
        clear h281_ h282_ f279_ l280_
        refine fl_if_le (a := K 5 (F262_ 344 5).toNat - (K 4 (F262_ 344 5).toNat)) hm_177 rfl ⟨by omega, by omega⟩ (fun h288_ => ?_) (fun h289_ => ?_)
        ·
          refine fl_iconst hm_177 rfl ?_
          refine ga_istore_n (lv2 := [(3, .int (Int32.ofInt 0)), (2, .int (Int32.ofInt 0)), (0, .ref 344), (1, .int (Int32.ofInt a))]) hm_177 rfl (Nat.le_of_ble_eq_true rfl) rfl ?_
          refine ga_aload_n (v := .ref 344) hm_177 rfl rfl rfl ?_
          refine ga_getr (b := 347) hm_177 rfl sc_344 rfl ?_
          refine ga_aload_n (v := .ref 344) hm_177 rfl rfl rfl ?_
          refine ga_geti (z := F262_ 344 5) hm_177 rfl sc_344 rfl (rfl) ?_
          refine ga_iald (z := F262_ 344 5) (w := K 4 (F262_ 344 5).toNat) hm_177 rfl sc_347 (by omega) (by omega) (by omega) (e286_) ?_
          refine ga_istore (lv2 := [(4, .int (Int32.ofInt (K 4 (F262_ 344 5).toNat))), (3, .int (Int32.ofInt 0)), (2, .int (Int32.ofInt 0)), (0, .ref 344), (1, .int (Int32.ofInt a))]) hm_177 rfl (Nat.le_of_ble_eq_true rfl) rfl ?_
          refine ga_iload (z := K 4 (F262_ 344 5).toNat) hm_177 rfl rfl ?_
          refine ga_aload_n (v := .ref 344) hm_177 rfl rfl rfl ?_
          refine ga_getr (b := 348) hm_177 rfl sc_344 rfl ?_
          refine ga_aload_n (v := .ref 344) hm_177 rfl rfl rfl ?_
          refine ga_geti (z := F262_ 344 5) hm_177 rfl sc_344 rfl (rfl) ?_
          refine ga_iald (z := F262_ 344 5) (w := K 5 (F262_ 344 5).toNat) hm_177 rfl sc_348 (by omega) (by omega) (by omega) (e284_) ?_
          refine fl_icmp_ge (a := K 4 (F262_ 344 5).toNat) (b := K 5 (F262_ 344 5).toNat) hm_177 rfl ⟨by omega, by omega⟩ ⟨by omega, by omega⟩ (fun h290_ => ?_) (fun h291_ => ?_)
          ·
            refine ga_iload_n (z := 0) hm_177 rfl rfl ?_
            refine fl_if_eq hm_177 rfl ⟨by omega, by omega⟩ (fun _ => ?_) (fun h => absurd (by omega) h)
            have hN9 : sp_num K (F262_ 344 5) = 0 := sn_z (by omega)
            refine ga_aload_n (v := .ref 344) hm_177 rfl rfl rfl ?_
            refine fl_iconst hm_177 rfl ?_
            refine gVv (nY := 2) (F := 0) (L := 0) (As := [.int (Int32.ofInt 1)]) (b := 344) (rest := []) hm_177 rfl hm_54 rfl rfl (fl_ob sc_344) rfl rfl rfl rfl rfl (by omega) (by omega) (mc_54 hG F262_ X g263_ (K) (1) hgK rk271_ hkt (by omega) (by omega)) (fun _ _ h => False.elim h) ?_
            have b293_ : 0 ≤ F262_ 344 10 ∧ F262_ 344 10 ≤ 600 := gi_g g263_ rfl
            rintro A1_ ⟨F297_, hA_, g298_, s299_, c294_, c295_, c296_⟩
            subst hA_
            have g300_ : fs [(344, 344, 5, 5), (344, 344, 9, 10), (344, 344, 63, 63), (357, 357, 0, 100000)] F F297_ := fs_tr g270_ s299_ rfl
            have rk301_ : rk K F297_ := rk_fs rk271_ s299_ (fun r k h => (fs_n (by omega) rfl)) (fs_n (by omega) rfl)
            have c295_s := c295_.1 (by omega)
            clear c295_
            refine ga_aload_n (v := .ref 344) hm_177 rfl rfl rfl ?_
            refine gIv (nY := 1) (F := 1) (L := 20) (As := []) (b := 344) (rest := []) hm_177 rfl hm_61 rfl rfl (fl_ob sc_344) rfl rfl rfl rfl rfl (by omega) (by omega) ?_
            intro f302_ l303_ h304_ h305_
            show fl_R xi_ms 61 f302_ l303_ 0 [(0, .ref 344)] [] _ _
            refine ga_aload_n (v := .ref 344) hm_61 rfl rfl rfl ?_
            refine ga_dup hm_61 rfl rfl ?_
            have e306_ : F297_ 344 5 = F262_ 344 5 := (s299_ 344 5 rfl).trans (rfl)
            refine ga_geti (z := F262_ 344 5) hm_61 rfl sc_344 rfl (e306_) ?_
            refine ga_aload_n (v := .ref 344) hm_61 rfl rfl rfl ?_
            refine gIi (nY := 1) (F := 0) (L := 0) (As := []) (b := 344) (rest := [.int (Int32.ofInt (F262_ 344 5)), .ref 344]) hm_61 rfl hm_59 rfl rfl (fl_ob sc_344) rfl rfl rfl rfl rfl (by omega) (by omega) ?_
            intro f307_ l308_ h309_ h310_
            show fl_R xi_ms 59 f307_ l308_ 0 [(0, .ref 344)] [] _ _
            refine ga_aload_n (v := .ref 344) hm_59 rfl rfl rfl ?_
            have b311_ : 0 ≤ F297_ 344 9 ∧ F297_ 344 9 ≤ 5 := gi_g g298_ rfl
            refine ga_geti (z := F297_ 344 9) hm_59 rfl sc_344 rfl (rfl) ?_
            refine fl_if_le (a := F297_ 344 9) hm_59 rfl ⟨by omega, by omega⟩ (fun h312_ => ?_) (fun h313_ => ?_)
            · exfalso; omega
            refine fl_iconst hm_59 rfl ?_
            refine fl_goto hm_59 rfl ?_
            refine gr_i hm_59 rfl rfl (ga_nb (by omega)) ?_
            clear h309_ h310_ f307_ l308_
            refine fl_if_eq hm_61 rfl ⟨by omega, by omega⟩ (fun h => absurd h (by omega)) (fun _ => ?_)
            refine fl_iconst hm_61 rfl ?_
            refine fl_goto hm_61 rfl ?_
            refine ga_iadd (a := F262_ 344 5) (b := 0) (c := F262_ 344 5) hm_61 rfl (by omega) ?_
            refine ga_puti (z := F262_ 344 5) hm_61 rfl sc_344 rfl rfl ?_
            refine gr_v hm_61 rfl rfl ?_
            clear h304_ h305_ f302_ l303_
            refine ga_aload_n (v := .ref 344) hm_177 rfl rfl rfl ?_
            refine ga_getr (b := 357) hm_177 rfl sc_344 rfl ?_
            refine ga_iload_n (z := a) hm_177 rfl rfl ?_
            refine ga_iload_n (z := 0) hm_177 rfl rfl ?_
            refine fl_iast (z := a) (v := 0) hm_177 rfl sc_357 (by omega) (by omega) (by omega) ?_
            refine ga_aload_n (v := .ref 344) hm_177 rfl rfl rfl ?_
            refine fl_bipush hm_177 rfl rfl ?_
            obtain ⟨F314_, q315_⟩ : ∃ F9_, F9_ = (fl_u (fl_u F297_ 344 5 (F262_ 344 5)) 357 a.toNat 0) := ⟨_, rfl⟩
            rw [← q315_]
            have g316_ : gi F314_ := by rw [q315_]; exact gi_u (gi_u (g298_) rfl (by omega) (by omega)) rfl (by omega) (by omega)
            have g317_ : fs [(344, 344, 5, 5), (344, 344, 9, 10), (344, 344, 63, 63), (357, 357, 0, 100000)] F F314_ := by rw [q315_]; exact fs_u (fs_u (g300_) rfl) (fs_z (fs_z (fs_z (fs_y (by omega)))))
            have rk318_ : rk K F314_ := by rw [q315_]; exact rk_u (rk_u (rk301_) (by omega) (by omega)) (by omega) (by omega)
            have e319_ : F314_ 344 5 = F262_ 344 5 := by rw [q315_]; exact (fl_u_ne (by omega)).trans (fl_u_eq)
            refine gVv (nY := 2) (F := 2) (L := 41) (As := [.int (Int32.ofInt 41)]) (b := 344) (rest := []) hm_177 rfl hm_51 rfl rfl (fl_ob sc_344) rfl rfl rfl rfl rfl (by omega) (by omega) (mc_51 hG F314_ X g316_ (K) (41) (1) hgK rk318_ hkt (by omega) (by omega) (by omega)) (fun _ _ h => False.elim h) ?_
            have e321_ : F314_ 344 10 = F297_ 344 10 := by rw [q315_]; exact (fl_u_ne (by omega)).trans (fl_u_ne (by omega))
            have b322_ : 0 ≤ F297_ 344 10 ∧ F297_ 344 10 ≤ 600 := gi_g g298_ rfl
            have e323_ : F314_ 344 9 = F297_ 344 9 := by rw [q315_]; exact (fl_u_ne (by omega)).trans (fl_u_ne (by omega))
            rintro A1_ (⟨F327_, hA_, g328_, s329_, c324_, c325_, c326_⟩ | ⟨F333_, hA_, g334_, s335_, c330_, c331_, c332_⟩)
            ·
              subst hA_
              have g336_ : fs [(344, 344, 5, 5), (344, 344, 9, 10), (344, 344, 63, 63), (357, 357, 0, 100000)] F F327_ := fs_tr g317_ s329_ rfl
              have rk337_ : rk K F327_ := rk_fs rk318_ s329_ (fun r k h => (fs_n (by omega) (fs_n (by omega) rfl))) (fs_n (by omega) (fs_n (by omega) rfl))
              try simp only [e319_, e321_, e323_] at c325_
              have c325_k := c325_.2 (by omega)
              clear c325_
              refine gr_v hm_177 rfl rfl ?_
              have b338_ : 0 ≤ F327_ 344 9 ∧ F327_ 344 9 ≤ 5 := gi_g g328_ rfl
              have b339_ : 0 ≤ F327_ 344 10 ∧ F327_ 344 10 ≤ 600 := gi_g g328_ rfl
              have b340_ : 0 ≤ F327_ 344 5 ∧ F327_ 344 5 ≤ 600 := gi_g g328_ rfl
              exact Or.inl ⟨F327_, rfl, g328_, g336_, (by omega), (⟨by intro h0_; have hs_ := c295_s; rw [sp_inc, if_pos (by omega), (show sk K (F 344 5) = F 344 5 + 1 by rw [sk, if_pos (by omega)])]; rw [c214_, pb_r]; rw [c237_, pb_r]; rw [c260_, pb_r]; rw [if_pos (by omega)]; show Sum.inl (1, K 4 _) = _; congr 2 <;> omega, fun h0_ => by exfalso; omega⟩), (by omega)⟩
            exfalso; omega
          refine ga_iload_n (z := 0) hm_177 rfl rfl ?_
          refine fl_if_eq hm_177 rfl ⟨by omega, by omega⟩ (fun _ => ?_) (fun h => absurd (by omega) h)
          refine ga_iload_n (z := 0) hm_177 rfl rfl ?_
          refine fl_if_eq hm_177 rfl ⟨by omega, by omega⟩ (fun _ => ?_) (fun h => absurd (by omega) h)
          have hN9 : sp_num K (F262_ 344 5) = 0 := sn_z (by omega)
          refine ga_aload_n (v := .ref 344) hm_177 rfl rfl rfl ?_
          refine fl_iconst hm_177 rfl ?_
          refine gVv (nY := 2) (F := 0) (L := 0) (As := [.int (Int32.ofInt 1)]) (b := 344) (rest := []) hm_177 rfl hm_54 rfl rfl (fl_ob sc_344) rfl rfl rfl rfl rfl (by omega) (by omega) (mc_54 hG F262_ X g263_ (K) (1) hgK rk271_ hkt (by omega) (by omega)) (fun _ _ h => False.elim h) ?_
          have b342_ : 0 ≤ F262_ 344 10 ∧ F262_ 344 10 ≤ 600 := gi_g g263_ rfl
          rintro A1_ ⟨F346_, hA_, g347_, s348_, c343_, c344_, c345_⟩
          subst hA_
          have g349_ : fs [(344, 344, 5, 5), (344, 344, 9, 10), (344, 344, 63, 63), (357, 357, 0, 100000)] F F346_ := fs_tr g270_ s348_ rfl
          have rk350_ : rk K F346_ := rk_fs rk271_ s348_ (fun r k h => (fs_n (by omega) rfl)) (fs_n (by omega) rfl)
          have c344_s := c344_.1 (by omega)
          clear c344_
          refine ga_aload_n (v := .ref 344) hm_177 rfl rfl rfl ?_
          refine gIv (nY := 1) (F := 1) (L := 20) (As := []) (b := 344) (rest := []) hm_177 rfl hm_61 rfl rfl (fl_ob sc_344) rfl rfl rfl rfl rfl (by omega) (by omega) ?_
          intro f351_ l352_ h353_ h354_
          show fl_R xi_ms 61 f351_ l352_ 0 [(0, .ref 344)] [] _ _
          refine ga_aload_n (v := .ref 344) hm_61 rfl rfl rfl ?_
          refine ga_dup hm_61 rfl rfl ?_
          have e355_ : F346_ 344 5 = F262_ 344 5 := (s348_ 344 5 rfl).trans (rfl)
          refine ga_geti (z := F262_ 344 5) hm_61 rfl sc_344 rfl (e355_) ?_
          refine ga_aload_n (v := .ref 344) hm_61 rfl rfl rfl ?_
          refine gIi (nY := 1) (F := 0) (L := 0) (As := []) (b := 344) (rest := [.int (Int32.ofInt (F262_ 344 5)), .ref 344]) hm_61 rfl hm_59 rfl rfl (fl_ob sc_344) rfl rfl rfl rfl rfl (by omega) (by omega) ?_
          intro f356_ l357_ h358_ h359_
          show fl_R xi_ms 59 f356_ l357_ 0 [(0, .ref 344)] [] _ _
          refine ga_aload_n (v := .ref 344) hm_59 rfl rfl rfl ?_
          have b360_ : 0 ≤ F346_ 344 9 ∧ F346_ 344 9 ≤ 5 := gi_g g347_ rfl
          refine ga_geti (z := F346_ 344 9) hm_59 rfl sc_344 rfl (rfl) ?_
          refine fl_if_le (a := F346_ 344 9) hm_59 rfl ⟨by omega, by omega⟩ (fun h361_ => ?_) (fun h362_ => ?_)
          · exfalso; omega
          refine fl_iconst hm_59 rfl ?_
          refine fl_goto hm_59 rfl ?_
          refine gr_i hm_59 rfl rfl (ga_nb (by omega)) ?_
          clear h358_ h359_ f356_ l357_
          refine fl_if_eq hm_61 rfl ⟨by omega, by omega⟩ (fun h => absurd h (by omega)) (fun _ => ?_)
          refine fl_iconst hm_61 rfl ?_
          refine fl_goto hm_61 rfl ?_
          refine ga_iadd (a := F262_ 344 5) (b := 0) (c := F262_ 344 5) hm_61 rfl (by omega) ?_
          refine ga_puti (z := F262_ 344 5) hm_61 rfl sc_344 rfl rfl ?_
          refine gr_v hm_61 rfl rfl ?_
          clear h353_ h354_ f351_ l352_
          refine ga_aload_n (v := .ref 344) hm_177 rfl rfl rfl ?_
          refine ga_getr (b := 357) hm_177 rfl sc_344 rfl ?_
          refine ga_iload_n (z := a) hm_177 rfl rfl ?_
          refine ga_iload_n (z := 0) hm_177 rfl rfl ?_
          refine fl_iast (z := a) (v := 0) hm_177 rfl sc_357 (by omega) (by omega) (by omega) ?_
          refine ga_aload_n (v := .ref 344) hm_177 rfl rfl rfl ?_
          refine fl_bipush hm_177 rfl rfl ?_
          obtain ⟨F363_, q364_⟩ : ∃ F9_, F9_ = (fl_u (fl_u F346_ 344 5 (F262_ 344 5)) 357 a.toNat 0) := ⟨_, rfl⟩
          rw [← q364_]
          have g365_ : gi F363_ := by rw [q364_]; exact gi_u (gi_u (g347_) rfl (by omega) (by omega)) rfl (by omega) (by omega)
          have g366_ : fs [(344, 344, 5, 5), (344, 344, 9, 10), (344, 344, 63, 63), (357, 357, 0, 100000)] F F363_ := by rw [q364_]; exact fs_u (fs_u (g349_) rfl) (fs_z (fs_z (fs_z (fs_y (by omega)))))
          have rk367_ : rk K F363_ := by rw [q364_]; exact rk_u (rk_u (rk350_) (by omega) (by omega)) (by omega) (by omega)
          have e368_ : F363_ 344 5 = F262_ 344 5 := by rw [q364_]; exact (fl_u_ne (by omega)).trans (fl_u_eq)
          refine gVv (nY := 2) (F := 2) (L := 41) (As := [.int (Int32.ofInt 41)]) (b := 344) (rest := []) hm_177 rfl hm_51 rfl rfl (fl_ob sc_344) rfl rfl rfl rfl rfl (by omega) (by omega) (mc_51 hG F363_ X g365_ (K) (41) (1) hgK rk367_ hkt (by omega) (by omega) (by omega)) (fun _ _ h => False.elim h) ?_
          have e370_ : F363_ 344 10 = F346_ 344 10 := by rw [q364_]; exact (fl_u_ne (by omega)).trans (fl_u_ne (by omega))
          have b371_ : 0 ≤ F346_ 344 10 ∧ F346_ 344 10 ≤ 600 := gi_g g347_ rfl
          have e372_ : F363_ 344 9 = F346_ 344 9 := by rw [q364_]; exact (fl_u_ne (by omega)).trans (fl_u_ne (by omega))
          rintro A1_ (⟨F376_, hA_, g377_, s378_, c373_, c374_, c375_⟩ | ⟨F382_, hA_, g383_, s384_, c379_, c380_, c381_⟩)
          ·
            subst hA_
            have g385_ : fs [(344, 344, 5, 5), (344, 344, 9, 10), (344, 344, 63, 63), (357, 357, 0, 100000)] F F376_ := fs_tr g366_ s378_ rfl
            have rk386_ : rk K F376_ := rk_fs rk367_ s378_ (fun r k h => (fs_n (by omega) (fs_n (by omega) rfl))) (fs_n (by omega) (fs_n (by omega) rfl))
            try simp only [e368_, e370_, e372_] at c374_
            have c374_k := c374_.2 (by omega)
            clear c374_
            refine gr_v hm_177 rfl rfl ?_
            have b387_ : 0 ≤ F376_ 344 9 ∧ F376_ 344 9 ≤ 5 := gi_g g377_ rfl
            have b388_ : 0 ≤ F376_ 344 10 ∧ F376_ 344 10 ≤ 600 := gi_g g377_ rfl
            have b389_ : 0 ≤ F376_ 344 5 ∧ F376_ 344 5 ≤ 600 := gi_g g377_ rfl
            exact Or.inl ⟨F376_, rfl, g377_, g385_, (by omega), (⟨by intro h0_; have hs_ := c344_s; rw [sp_inc, if_pos (by omega), (show sk K (F 344 5) = F 344 5 + 1 by rw [sk, if_pos (by omega)])]; rw [c214_, pb_r]; rw [c237_, pb_r]; rw [c260_, pb_r]; rw [if_pos (by omega)]; show Sum.inl (1, K 4 _) = _; congr 2 <;> omega, fun h0_ => by exfalso; omega⟩), (by omega)⟩
          exfalso; omega
        refine ga_aload_n (v := .ref 344) hm_177 rfl rfl rfl ?_
        refine gIi (nY := 1) (F := 0) (L := 0) (As := []) (b := 344) (rest := []) hm_177 rfl hm_53 rfl rfl (fl_ob sc_344) rfl rfl rfl rfl rfl (by omega) (by omega) ?_
        intro f390_ l391_ h392_ h393_
        show fl_R xi_ms 53 f390_ l391_ 0 [(0, .ref 344)] [] _ _
        refine ga_aload_n (v := .ref 344) hm_53 rfl rfl rfl ?_
        refine ga_getr (b := 348) hm_53 rfl sc_344 rfl ?_
        refine ga_aload_n (v := .ref 344) hm_53 rfl rfl rfl ?_
        refine ga_geti (z := F262_ 344 5) hm_53 rfl sc_344 rfl (rfl) ?_
        refine ga_iald (z := F262_ 344 5) (w := K 5 (F262_ 344 5).toNat) hm_53 rfl sc_348 (by omega) (by omega) (by omega) (e284_) ?_
        refine ga_aload_n (v := .ref 344) hm_53 rfl rfl rfl ?_
        refine ga_getr (b := 347) hm_53 rfl sc_344 rfl ?_
        refine ga_aload_n (v := .ref 344) hm_53 rfl rfl rfl ?_
        refine ga_geti (z := F262_ 344 5) hm_53 rfl sc_344 rfl (rfl) ?_
        refine ga_iald (z := F262_ 344 5) (w := K 4 (F262_ 344 5).toNat) hm_53 rfl sc_347 (by omega) (by omega) (by omega) (e286_) ?_
        refine ga_isub (a := K 5 (F262_ 344 5).toNat) (b := K 4 (F262_ 344 5).toNat) (c := K 5 (F262_ 344 5).toNat - (K 4 (F262_ 344 5).toNat)) hm_53 rfl (by omega) ?_
        refine gr_i hm_53 rfl rfl rfl ?_
        clear h392_ h393_ f390_ l391_
        refine fl_iconst hm_177 rfl ?_
        refine fl_icmp_ge (a := K 5 (F262_ 344 5).toNat - (K 4 (F262_ 344 5).toNat)) (b := 4) hm_177 rfl ⟨by omega, by omega⟩ ⟨by omega, by omega⟩ (fun h394_ => ?_) (fun h395_ => ?_)
        ·
          refine fl_iconst hm_177 rfl ?_
          refine ga_istore_n (lv2 := [(3, .int (Int32.ofInt 0)), (2, .int (Int32.ofInt 0)), (0, .ref 344), (1, .int (Int32.ofInt a))]) hm_177 rfl (Nat.le_of_ble_eq_true rfl) rfl ?_
          refine ga_aload_n (v := .ref 344) hm_177 rfl rfl rfl ?_
          refine ga_getr (b := 347) hm_177 rfl sc_344 rfl ?_
          refine ga_aload_n (v := .ref 344) hm_177 rfl rfl rfl ?_
          refine ga_geti (z := F262_ 344 5) hm_177 rfl sc_344 rfl (rfl) ?_
          refine ga_iald (z := F262_ 344 5) (w := K 4 (F262_ 344 5).toNat) hm_177 rfl sc_347 (by omega) (by omega) (by omega) (e286_) ?_
          refine ga_istore (lv2 := [(4, .int (Int32.ofInt (K 4 (F262_ 344 5).toNat))), (3, .int (Int32.ofInt 0)), (2, .int (Int32.ofInt 0)), (0, .ref 344), (1, .int (Int32.ofInt a))]) hm_177 rfl (Nat.le_of_ble_eq_true rfl) rfl ?_
          refine ga_iload (z := K 4 (F262_ 344 5).toNat) hm_177 rfl rfl ?_
          refine ga_aload_n (v := .ref 344) hm_177 rfl rfl rfl ?_
          refine ga_getr (b := 348) hm_177 rfl sc_344 rfl ?_
          refine ga_aload_n (v := .ref 344) hm_177 rfl rfl rfl ?_
          refine ga_geti (z := F262_ 344 5) hm_177 rfl sc_344 rfl (rfl) ?_
          refine ga_iald (z := F262_ 344 5) (w := K 5 (F262_ 344 5).toNat) hm_177 rfl sc_348 (by omega) (by omega) (by omega) (e284_) ?_
          refine fl_icmp_ge (a := K 4 (F262_ 344 5).toNat) (b := K 5 (F262_ 344 5).toNat) hm_177 rfl ⟨by omega, by omega⟩ ⟨by omega, by omega⟩ (fun h396_ => ?_) (fun h397_ => ?_)
          ·
            refine ga_iload_n (z := 0) hm_177 rfl rfl ?_
            refine fl_if_eq hm_177 rfl ⟨by omega, by omega⟩ (fun _ => ?_) (fun h => absurd (by omega) h)
            have hN9 : sp_num K (F262_ 344 5) = 0 := sn_z (by omega)
            refine ga_aload_n (v := .ref 344) hm_177 rfl rfl rfl ?_
            refine fl_iconst hm_177 rfl ?_
            refine gVv (nY := 2) (F := 0) (L := 0) (As := [.int (Int32.ofInt 1)]) (b := 344) (rest := []) hm_177 rfl hm_54 rfl rfl (fl_ob sc_344) rfl rfl rfl rfl rfl (by omega) (by omega) (mc_54 hG F262_ X g263_ (K) (1) hgK rk271_ hkt (by omega) (by omega)) (fun _ _ h => False.elim h) ?_
            have b399_ : 0 ≤ F262_ 344 10 ∧ F262_ 344 10 ≤ 600 := gi_g g263_ rfl
            rintro A1_ ⟨F403_, hA_, g404_, s405_, c400_, c401_, c402_⟩
            subst hA_
            have g406_ : fs [(344, 344, 5, 5), (344, 344, 9, 10), (344, 344, 63, 63), (357, 357, 0, 100000)] F F403_ := fs_tr g270_ s405_ rfl
            have rk407_ : rk K F403_ := rk_fs rk271_ s405_ (fun r k h => (fs_n (by omega) rfl)) (fs_n (by omega) rfl)
            have c401_s := c401_.1 (by omega)
            clear c401_
            refine ga_aload_n (v := .ref 344) hm_177 rfl rfl rfl ?_
            refine gIv (nY := 1) (F := 1) (L := 20) (As := []) (b := 344) (rest := []) hm_177 rfl hm_61 rfl rfl (fl_ob sc_344) rfl rfl rfl rfl rfl (by omega) (by omega) ?_
            intro f408_ l409_ h410_ h411_
            show fl_R xi_ms 61 f408_ l409_ 0 [(0, .ref 344)] [] _ _
            refine ga_aload_n (v := .ref 344) hm_61 rfl rfl rfl ?_
            refine ga_dup hm_61 rfl rfl ?_
            have e412_ : F403_ 344 5 = F262_ 344 5 := (s405_ 344 5 rfl).trans (rfl)
            refine ga_geti (z := F262_ 344 5) hm_61 rfl sc_344 rfl (e412_) ?_
            refine ga_aload_n (v := .ref 344) hm_61 rfl rfl rfl ?_
            refine gIi (nY := 1) (F := 0) (L := 0) (As := []) (b := 344) (rest := [.int (Int32.ofInt (F262_ 344 5)), .ref 344]) hm_61 rfl hm_59 rfl rfl (fl_ob sc_344) rfl rfl rfl rfl rfl (by omega) (by omega) ?_
            intro f413_ l414_ h415_ h416_
            show fl_R xi_ms 59 f413_ l414_ 0 [(0, .ref 344)] [] _ _
            refine ga_aload_n (v := .ref 344) hm_59 rfl rfl rfl ?_
            have b417_ : 0 ≤ F403_ 344 9 ∧ F403_ 344 9 ≤ 5 := gi_g g404_ rfl
            refine ga_geti (z := F403_ 344 9) hm_59 rfl sc_344 rfl (rfl) ?_
            refine fl_if_le (a := F403_ 344 9) hm_59 rfl ⟨by omega, by omega⟩ (fun h418_ => ?_) (fun h419_ => ?_)
            · exfalso; omega
            refine fl_iconst hm_59 rfl ?_
            refine fl_goto hm_59 rfl ?_
            refine gr_i hm_59 rfl rfl (ga_nb (by omega)) ?_
            clear h415_ h416_ f413_ l414_
            refine fl_if_eq hm_61 rfl ⟨by omega, by omega⟩ (fun h => absurd h (by omega)) (fun _ => ?_)
            refine fl_iconst hm_61 rfl ?_
            refine fl_goto hm_61 rfl ?_
            refine ga_iadd (a := F262_ 344 5) (b := 0) (c := F262_ 344 5) hm_61 rfl (by omega) ?_
            refine ga_puti (z := F262_ 344 5) hm_61 rfl sc_344 rfl rfl ?_
            refine gr_v hm_61 rfl rfl ?_
            clear h410_ h411_ f408_ l409_
            refine ga_aload_n (v := .ref 344) hm_177 rfl rfl rfl ?_
            refine ga_getr (b := 357) hm_177 rfl sc_344 rfl ?_
            refine ga_iload_n (z := a) hm_177 rfl rfl ?_
            refine ga_iload_n (z := 0) hm_177 rfl rfl ?_
            refine fl_iast (z := a) (v := 0) hm_177 rfl sc_357 (by omega) (by omega) (by omega) ?_
            refine ga_aload_n (v := .ref 344) hm_177 rfl rfl rfl ?_
            refine fl_bipush hm_177 rfl rfl ?_
            obtain ⟨F420_, q421_⟩ : ∃ F9_, F9_ = (fl_u (fl_u F403_ 344 5 (F262_ 344 5)) 357 a.toNat 0) := ⟨_, rfl⟩
            rw [← q421_]
            have g422_ : gi F420_ := by rw [q421_]; exact gi_u (gi_u (g404_) rfl (by omega) (by omega)) rfl (by omega) (by omega)
            have g423_ : fs [(344, 344, 5, 5), (344, 344, 9, 10), (344, 344, 63, 63), (357, 357, 0, 100000)] F F420_ := by rw [q421_]; exact fs_u (fs_u (g406_) rfl) (fs_z (fs_z (fs_z (fs_y (by omega)))))
            have rk424_ : rk K F420_ := by rw [q421_]; exact rk_u (rk_u (rk407_) (by omega) (by omega)) (by omega) (by omega)
            have e425_ : F420_ 344 5 = F262_ 344 5 := by rw [q421_]; exact (fl_u_ne (by omega)).trans (fl_u_eq)
            refine gVv (nY := 2) (F := 2) (L := 41) (As := [.int (Int32.ofInt 41)]) (b := 344) (rest := []) hm_177 rfl hm_51 rfl rfl (fl_ob sc_344) rfl rfl rfl rfl rfl (by omega) (by omega) (mc_51 hG F420_ X g422_ (K) (41) (1) hgK rk424_ hkt (by omega) (by omega) (by omega)) (fun _ _ h => False.elim h) ?_
            have e427_ : F420_ 344 10 = F403_ 344 10 := by rw [q421_]; exact (fl_u_ne (by omega)).trans (fl_u_ne (by omega))
            have b428_ : 0 ≤ F403_ 344 10 ∧ F403_ 344 10 ≤ 600 := gi_g g404_ rfl
            have e429_ : F420_ 344 9 = F403_ 344 9 := by rw [q421_]; exact (fl_u_ne (by omega)).trans (fl_u_ne (by omega))
            rintro A1_ (⟨F433_, hA_, g434_, s435_, c430_, c431_, c432_⟩ | ⟨F439_, hA_, g440_, s441_, c436_, c437_, c438_⟩)
            ·
              subst hA_
              have g442_ : fs [(344, 344, 5, 5), (344, 344, 9, 10), (344, 344, 63, 63), (357, 357, 0, 100000)] F F433_ := fs_tr g423_ s435_ rfl
              have rk443_ : rk K F433_ := rk_fs rk424_ s435_ (fun r k h => (fs_n (by omega) (fs_n (by omega) rfl))) (fs_n (by omega) (fs_n (by omega) rfl))
              try simp only [e425_, e427_, e429_] at c431_
              have c431_k := c431_.2 (by omega)
              clear c431_
              refine gr_v hm_177 rfl rfl ?_
              have b444_ : 0 ≤ F433_ 344 9 ∧ F433_ 344 9 ≤ 5 := gi_g g434_ rfl
              have b445_ : 0 ≤ F433_ 344 10 ∧ F433_ 344 10 ≤ 600 := gi_g g434_ rfl
              have b446_ : 0 ≤ F433_ 344 5 ∧ F433_ 344 5 ≤ 600 := gi_g g434_ rfl
              exact Or.inl ⟨F433_, rfl, g434_, g442_, (by omega), (⟨by intro h0_; have hs_ := c401_s; rw [sp_inc, if_pos (by omega), (show sk K (F 344 5) = F 344 5 + 1 by rw [sk, if_pos (by omega)])]; rw [c214_, pb_r]; rw [c237_, pb_r]; rw [c260_, pb_r]; rw [if_pos (by omega)]; show Sum.inl (1, K 4 _) = _; congr 2 <;> omega, fun h0_ => by exfalso; omega⟩), (by omega)⟩
            exfalso; omega
          refine ga_iload_n (z := 0) hm_177 rfl rfl ?_
          refine fl_if_eq hm_177 rfl ⟨by omega, by omega⟩ (fun _ => ?_) (fun h => absurd (by omega) h)
          refine ga_iload_n (z := 0) hm_177 rfl rfl ?_
          refine fl_if_eq hm_177 rfl ⟨by omega, by omega⟩ (fun _ => ?_) (fun h => absurd (by omega) h)
          have hN9 : sp_num K (F262_ 344 5) = 0 := sn_z (by omega)
          refine ga_aload_n (v := .ref 344) hm_177 rfl rfl rfl ?_
          refine fl_iconst hm_177 rfl ?_
          refine gVv (nY := 2) (F := 0) (L := 0) (As := [.int (Int32.ofInt 1)]) (b := 344) (rest := []) hm_177 rfl hm_54 rfl rfl (fl_ob sc_344) rfl rfl rfl rfl rfl (by omega) (by omega) (mc_54 hG F262_ X g263_ (K) (1) hgK rk271_ hkt (by omega) (by omega)) (fun _ _ h => False.elim h) ?_
          have b448_ : 0 ≤ F262_ 344 10 ∧ F262_ 344 10 ≤ 600 := gi_g g263_ rfl
          rintro A1_ ⟨F452_, hA_, g453_, s454_, c449_, c450_, c451_⟩
          subst hA_
          have g455_ : fs [(344, 344, 5, 5), (344, 344, 9, 10), (344, 344, 63, 63), (357, 357, 0, 100000)] F F452_ := fs_tr g270_ s454_ rfl
          have rk456_ : rk K F452_ := rk_fs rk271_ s454_ (fun r k h => (fs_n (by omega) rfl)) (fs_n (by omega) rfl)
          have c450_s := c450_.1 (by omega)
          clear c450_
          refine ga_aload_n (v := .ref 344) hm_177 rfl rfl rfl ?_
          refine gIv (nY := 1) (F := 1) (L := 20) (As := []) (b := 344) (rest := []) hm_177 rfl hm_61 rfl rfl (fl_ob sc_344) rfl rfl rfl rfl rfl (by omega) (by omega) ?_
          intro f457_ l458_ h459_ h460_
          show fl_R xi_ms 61 f457_ l458_ 0 [(0, .ref 344)] [] _ _
          refine ga_aload_n (v := .ref 344) hm_61 rfl rfl rfl ?_
          refine ga_dup hm_61 rfl rfl ?_
          have e461_ : F452_ 344 5 = F262_ 344 5 := (s454_ 344 5 rfl).trans (rfl)
          refine ga_geti (z := F262_ 344 5) hm_61 rfl sc_344 rfl (e461_) ?_
          refine ga_aload_n (v := .ref 344) hm_61 rfl rfl rfl ?_
          refine gIi (nY := 1) (F := 0) (L := 0) (As := []) (b := 344) (rest := [.int (Int32.ofInt (F262_ 344 5)), .ref 344]) hm_61 rfl hm_59 rfl rfl (fl_ob sc_344) rfl rfl rfl rfl rfl (by omega) (by omega) ?_
          intro f462_ l463_ h464_ h465_
          show fl_R xi_ms 59 f462_ l463_ 0 [(0, .ref 344)] [] _ _
          refine ga_aload_n (v := .ref 344) hm_59 rfl rfl rfl ?_
          have b466_ : 0 ≤ F452_ 344 9 ∧ F452_ 344 9 ≤ 5 := gi_g g453_ rfl
          refine ga_geti (z := F452_ 344 9) hm_59 rfl sc_344 rfl (rfl) ?_
          refine fl_if_le (a := F452_ 344 9) hm_59 rfl ⟨by omega, by omega⟩ (fun h467_ => ?_) (fun h468_ => ?_)
          · exfalso; omega
          refine fl_iconst hm_59 rfl ?_
          refine fl_goto hm_59 rfl ?_
          refine gr_i hm_59 rfl rfl (ga_nb (by omega)) ?_
          clear h464_ h465_ f462_ l463_
          refine fl_if_eq hm_61 rfl ⟨by omega, by omega⟩ (fun h => absurd h (by omega)) (fun _ => ?_)
          refine fl_iconst hm_61 rfl ?_
          refine fl_goto hm_61 rfl ?_
          refine ga_iadd (a := F262_ 344 5) (b := 0) (c := F262_ 344 5) hm_61 rfl (by omega) ?_
          refine ga_puti (z := F262_ 344 5) hm_61 rfl sc_344 rfl rfl ?_
          refine gr_v hm_61 rfl rfl ?_
          clear h459_ h460_ f457_ l458_
          refine ga_aload_n (v := .ref 344) hm_177 rfl rfl rfl ?_
          refine ga_getr (b := 357) hm_177 rfl sc_344 rfl ?_
          refine ga_iload_n (z := a) hm_177 rfl rfl ?_
          refine ga_iload_n (z := 0) hm_177 rfl rfl ?_
          refine fl_iast (z := a) (v := 0) hm_177 rfl sc_357 (by omega) (by omega) (by omega) ?_
          refine ga_aload_n (v := .ref 344) hm_177 rfl rfl rfl ?_
          refine fl_bipush hm_177 rfl rfl ?_
          obtain ⟨F469_, q470_⟩ : ∃ F9_, F9_ = (fl_u (fl_u F452_ 344 5 (F262_ 344 5)) 357 a.toNat 0) := ⟨_, rfl⟩
          rw [← q470_]
          have g471_ : gi F469_ := by rw [q470_]; exact gi_u (gi_u (g453_) rfl (by omega) (by omega)) rfl (by omega) (by omega)
          have g472_ : fs [(344, 344, 5, 5), (344, 344, 9, 10), (344, 344, 63, 63), (357, 357, 0, 100000)] F F469_ := by rw [q470_]; exact fs_u (fs_u (g455_) rfl) (fs_z (fs_z (fs_z (fs_y (by omega)))))
          have rk473_ : rk K F469_ := by rw [q470_]; exact rk_u (rk_u (rk456_) (by omega) (by omega)) (by omega) (by omega)
          have e474_ : F469_ 344 5 = F262_ 344 5 := by rw [q470_]; exact (fl_u_ne (by omega)).trans (fl_u_eq)
          refine gVv (nY := 2) (F := 2) (L := 41) (As := [.int (Int32.ofInt 41)]) (b := 344) (rest := []) hm_177 rfl hm_51 rfl rfl (fl_ob sc_344) rfl rfl rfl rfl rfl (by omega) (by omega) (mc_51 hG F469_ X g471_ (K) (41) (1) hgK rk473_ hkt (by omega) (by omega) (by omega)) (fun _ _ h => False.elim h) ?_
          have e476_ : F469_ 344 10 = F452_ 344 10 := by rw [q470_]; exact (fl_u_ne (by omega)).trans (fl_u_ne (by omega))
          have b477_ : 0 ≤ F452_ 344 10 ∧ F452_ 344 10 ≤ 600 := gi_g g453_ rfl
          have e478_ : F469_ 344 9 = F452_ 344 9 := by rw [q470_]; exact (fl_u_ne (by omega)).trans (fl_u_ne (by omega))
          rintro A1_ (⟨F482_, hA_, g483_, s484_, c479_, c480_, c481_⟩ | ⟨F488_, hA_, g489_, s490_, c485_, c486_, c487_⟩)
          ·
            subst hA_
            have g491_ : fs [(344, 344, 5, 5), (344, 344, 9, 10), (344, 344, 63, 63), (357, 357, 0, 100000)] F F482_ := fs_tr g472_ s484_ rfl
            have rk492_ : rk K F482_ := rk_fs rk473_ s484_ (fun r k h => (fs_n (by omega) (fs_n (by omega) rfl))) (fs_n (by omega) (fs_n (by omega) rfl))
            try simp only [e474_, e476_, e478_] at c480_
            have c480_k := c480_.2 (by omega)
            clear c480_
            refine gr_v hm_177 rfl rfl ?_
            have b493_ : 0 ≤ F482_ 344 9 ∧ F482_ 344 9 ≤ 5 := gi_g g483_ rfl
            have b494_ : 0 ≤ F482_ 344 10 ∧ F482_ 344 10 ≤ 600 := gi_g g483_ rfl
            have b495_ : 0 ≤ F482_ 344 5 ∧ F482_ 344 5 ≤ 600 := gi_g g483_ rfl
            exact Or.inl ⟨F482_, rfl, g483_, g491_, (by omega), (⟨by intro h0_; have hs_ := c450_s; rw [sp_inc, if_pos (by omega), (show sk K (F 344 5) = F 344 5 + 1 by rw [sk, if_pos (by omega)])]; rw [c214_, pb_r]; rw [c237_, pb_r]; rw [c260_, pb_r]; rw [if_pos (by omega)]; show Sum.inl (1, K 4 _) = _; congr 2 <;> omega, fun h0_ => by exfalso; omega⟩), (by omega)⟩
          exfalso; omega
        refine fl_iconst hm_177 rfl ?_
        refine fl_goto hm_177 rfl ?_
        refine ga_istore_n (lv2 := [(3, .int (Int32.ofInt 1)), (2, .int (Int32.ofInt 0)), (0, .ref 344), (1, .int (Int32.ofInt a))]) hm_177 rfl (Nat.le_of_ble_eq_true rfl) rfl ?_
        refine ga_aload_n (v := .ref 344) hm_177 rfl rfl rfl ?_
        refine ga_getr (b := 347) hm_177 rfl sc_344 rfl ?_
        refine ga_aload_n (v := .ref 344) hm_177 rfl rfl rfl ?_
        refine ga_geti (z := F262_ 344 5) hm_177 rfl sc_344 rfl (rfl) ?_
        refine ga_iald (z := F262_ 344 5) (w := K 4 (F262_ 344 5).toNat) hm_177 rfl sc_347 (by omega) (by omega) (by omega) (e286_) ?_
        refine ga_istore (lv2 := [(4, .int (Int32.ofInt (K 4 (F262_ 344 5).toNat))), (3, .int (Int32.ofInt 1)), (2, .int (Int32.ofInt 0)), (0, .ref 344), (1, .int (Int32.ofInt a))]) hm_177 rfl (Nat.le_of_ble_eq_true rfl) rfl ?_
        have L497_ : ∀ (n496_ : Nat) (k : Int) (gd : Int) (v : Int), (K 5 (F262_ 344 5).toNat - k : Int).toNat = n496_ → (K 4 (F262_ 344 5).toNat ≤ k ∧ (k ≤ K 5 (F262_ 344 5).toNat)) → ((gd = 1 ∧ 0 ≤ v ∧ v ≤ 999 ∧ (k ≤ K 4 (F262_ 344 5).toNat → v = 0) ∧ (k ≤ K 4 (F262_ 344 5).toNat + 1 → v ≤ 9) ∧ (k ≤ K 4 (F262_ 344 5).toNat + 2 → v ≤ 99)) ∨ (gd = 0 ∧ -48 ≤ v ∧ v ≤ 1068)) → (gd = 1 → sp_num K (F262_ 344 5) = dgo (K 2) k.toNat (K 5 (F262_ 344 5).toNat - k).toNat v) → (gd = 0 → sp_num K (F262_ 344 5) = 0) → fl_R xi_ms 177 fr lo 80 [(4, .int (Int32.ofInt k)), (3, .int (Int32.ofInt gd)), (2, .int (Int32.ofInt v)), (0, .ref 344), (1, .int (Int32.ofInt a))] [] (fl_H sh_T G F262_ ++ X) (pq_177 G F X K a c) := by
          intro n496_
          induction n496_ using Nat.strongRecOn with
          | ind n496_ ih498_ =>
          intro k gd v hn499_ hk hvb hvs1 hvs0
          refine ga_iload (z := k) hm_177 rfl rfl ?_
          refine ga_aload_n (v := .ref 344) hm_177 rfl rfl rfl ?_
          refine ga_getr (b := 348) hm_177 rfl sc_344 rfl ?_
          refine ga_aload_n (v := .ref 344) hm_177 rfl rfl rfl ?_
          refine ga_geti (z := F262_ 344 5) hm_177 rfl sc_344 rfl (rfl) ?_
          refine ga_iald (z := F262_ 344 5) (w := K 5 (F262_ 344 5).toNat) hm_177 rfl sc_348 (by omega) (by omega) (by omega) (e284_) ?_
          refine fl_icmp_ge (a := k) (b := K 5 (F262_ 344 5).toNat) hm_177 rfl ⟨by omega, by omega⟩ ⟨by omega, by omega⟩ (fun h500_ => ?_) (fun h501_ => ?_)
          ·
            refine ga_iload_n (z := gd) hm_177 rfl rfl ?_
            refine fl_if_eq (a := gd) hm_177 rfl ⟨by omega, by omega⟩ (fun h502_ => ?_) (fun h503_ => ?_)
            ·
              have hN9 : sp_num K (F262_ 344 5) = 0 := hvs0 (by omega)
              refine ga_aload_n (v := .ref 344) hm_177 rfl rfl rfl ?_
              refine fl_iconst hm_177 rfl ?_
              refine gVv (nY := 2) (F := 0) (L := 0) (As := [.int (Int32.ofInt 1)]) (b := 344) (rest := []) hm_177 rfl hm_54 rfl rfl (fl_ob sc_344) rfl rfl rfl rfl rfl (by omega) (by omega) (mc_54 hG F262_ X g263_ (K) (1) hgK rk271_ hkt (by omega) (by omega)) (fun _ _ h => False.elim h) ?_
              have b505_ : 0 ≤ F262_ 344 10 ∧ F262_ 344 10 ≤ 600 := gi_g g263_ rfl
              rintro A1_ ⟨F509_, hA_, g510_, s511_, c506_, c507_, c508_⟩
              subst hA_
              have g512_ : fs [(344, 344, 5, 5), (344, 344, 9, 10), (344, 344, 63, 63), (357, 357, 0, 100000)] F F509_ := fs_tr g270_ s511_ rfl
              have rk513_ : rk K F509_ := rk_fs rk271_ s511_ (fun r k h => (fs_n (by omega) rfl)) (fs_n (by omega) rfl)
              have c507_s := c507_.1 (by omega)
              clear c507_
              refine ga_aload_n (v := .ref 344) hm_177 rfl rfl rfl ?_
              refine gIv (nY := 1) (F := 1) (L := 20) (As := []) (b := 344) (rest := []) hm_177 rfl hm_61 rfl rfl (fl_ob sc_344) rfl rfl rfl rfl rfl (by omega) (by omega) ?_
              intro f514_ l515_ h516_ h517_
              show fl_R xi_ms 61 f514_ l515_ 0 [(0, .ref 344)] [] _ _
              refine ga_aload_n (v := .ref 344) hm_61 rfl rfl rfl ?_
              refine ga_dup hm_61 rfl rfl ?_
              have e518_ : F509_ 344 5 = F262_ 344 5 := (s511_ 344 5 rfl).trans (rfl)
              refine ga_geti (z := F262_ 344 5) hm_61 rfl sc_344 rfl (e518_) ?_
              refine ga_aload_n (v := .ref 344) hm_61 rfl rfl rfl ?_
              refine gIi (nY := 1) (F := 0) (L := 0) (As := []) (b := 344) (rest := [.int (Int32.ofInt (F262_ 344 5)), .ref 344]) hm_61 rfl hm_59 rfl rfl (fl_ob sc_344) rfl rfl rfl rfl rfl (by omega) (by omega) ?_
              intro f519_ l520_ h521_ h522_
              show fl_R xi_ms 59 f519_ l520_ 0 [(0, .ref 344)] [] _ _
              refine ga_aload_n (v := .ref 344) hm_59 rfl rfl rfl ?_
              have b523_ : 0 ≤ F509_ 344 9 ∧ F509_ 344 9 ≤ 5 := gi_g g510_ rfl
              refine ga_geti (z := F509_ 344 9) hm_59 rfl sc_344 rfl (rfl) ?_
              refine fl_if_le (a := F509_ 344 9) hm_59 rfl ⟨by omega, by omega⟩ (fun h524_ => ?_) (fun h525_ => ?_)
              · exfalso; omega
              refine fl_iconst hm_59 rfl ?_
              refine fl_goto hm_59 rfl ?_
              refine gr_i hm_59 rfl rfl (ga_nb (by omega)) ?_
              clear h521_ h522_ f519_ l520_
              refine fl_if_eq hm_61 rfl ⟨by omega, by omega⟩ (fun h => absurd h (by omega)) (fun _ => ?_)
              refine fl_iconst hm_61 rfl ?_
              refine fl_goto hm_61 rfl ?_
              refine ga_iadd (a := F262_ 344 5) (b := 0) (c := F262_ 344 5) hm_61 rfl (by omega) ?_
              refine ga_puti (z := F262_ 344 5) hm_61 rfl sc_344 rfl rfl ?_
              refine gr_v hm_61 rfl rfl ?_
              clear h516_ h517_ f514_ l515_
              refine ga_aload_n (v := .ref 344) hm_177 rfl rfl rfl ?_
              refine ga_getr (b := 357) hm_177 rfl sc_344 rfl ?_
              refine ga_iload_n (z := a) hm_177 rfl rfl ?_
              refine ga_iload_n (z := v) hm_177 rfl rfl ?_
              refine fl_iast (z := a) (v := v) hm_177 rfl sc_357 (by omega) (by omega) (by omega) ?_
              refine ga_aload_n (v := .ref 344) hm_177 rfl rfl rfl ?_
              refine fl_bipush hm_177 rfl rfl ?_
              obtain ⟨F526_, q527_⟩ : ∃ F9_, F9_ = (fl_u (fl_u F509_ 344 5 (F262_ 344 5)) 357 a.toNat v) := ⟨_, rfl⟩
              rw [← q527_]
              have g528_ : gi F526_ := by rw [q527_]; exact gi_u (gi_u (g510_) rfl (by omega) (by omega)) rfl (by omega) (by omega)
              have g529_ : fs [(344, 344, 5, 5), (344, 344, 9, 10), (344, 344, 63, 63), (357, 357, 0, 100000)] F F526_ := by rw [q527_]; exact fs_u (fs_u (g512_) rfl) (fs_z (fs_z (fs_z (fs_y (by omega)))))
              have rk530_ : rk K F526_ := by rw [q527_]; exact rk_u (rk_u (rk513_) (by omega) (by omega)) (by omega) (by omega)
              have e531_ : F526_ 344 5 = F262_ 344 5 := by rw [q527_]; exact (fl_u_ne (by omega)).trans (fl_u_eq)
              refine gVv (nY := 2) (F := 2) (L := 41) (As := [.int (Int32.ofInt 41)]) (b := 344) (rest := []) hm_177 rfl hm_51 rfl rfl (fl_ob sc_344) rfl rfl rfl rfl rfl (by omega) (by omega) (mc_51 hG F526_ X g528_ (K) (41) (1) hgK rk530_ hkt (by omega) (by omega) (by omega)) (fun _ _ h => False.elim h) ?_
              have e533_ : F526_ 344 10 = F509_ 344 10 := by rw [q527_]; exact (fl_u_ne (by omega)).trans (fl_u_ne (by omega))
              have b534_ : 0 ≤ F509_ 344 10 ∧ F509_ 344 10 ≤ 600 := gi_g g510_ rfl
              have e535_ : F526_ 344 9 = F509_ 344 9 := by rw [q527_]; exact (fl_u_ne (by omega)).trans (fl_u_ne (by omega))
              rintro A1_ (⟨F539_, hA_, g540_, s541_, c536_, c537_, c538_⟩ | ⟨F545_, hA_, g546_, s547_, c542_, c543_, c544_⟩)
              ·
                subst hA_
                have g548_ : fs [(344, 344, 5, 5), (344, 344, 9, 10), (344, 344, 63, 63), (357, 357, 0, 100000)] F F539_ := fs_tr g529_ s541_ rfl
                have rk549_ : rk K F539_ := rk_fs rk530_ s541_ (fun r k h => (fs_n (by omega) (fs_n (by omega) rfl))) (fs_n (by omega) (fs_n (by omega) rfl))
                try simp only [e531_, e533_, e535_] at c537_
                have c537_k := c537_.2 (by omega)
                clear c537_
                refine gr_v hm_177 rfl rfl ?_
                have b550_ : 0 ≤ F539_ 344 9 ∧ F539_ 344 9 ≤ 5 := gi_g g540_ rfl
                have b551_ : 0 ≤ F539_ 344 10 ∧ F539_ 344 10 ≤ 600 := gi_g g540_ rfl
                have b552_ : 0 ≤ F539_ 344 5 ∧ F539_ 344 5 ≤ 600 := gi_g g540_ rfl
                exact Or.inl ⟨F539_, rfl, g540_, g548_, (by omega), (⟨by intro h0_; have hs_ := c507_s; rw [sp_inc, if_pos (by omega), (show sk K (F 344 5) = F 344 5 + 1 by rw [sk, if_pos (by omega)])]; rw [c214_, pb_r]; rw [c237_, pb_r]; rw [c260_, pb_r]; rw [if_pos (by omega)]; show Sum.inl (1, K 4 _) = _; congr 2 <;> omega, fun h0_ => by exfalso; omega⟩), (by omega)⟩
              exfalso; omega
            have hN9 : sp_num K (F262_ 344 5) = v := sn_e (hvs1 (by omega)) (by omega)
            have hlt9 : v = 0 ∨ F262_ 344 5 < K 1 6 - 1 := by
              by_cases hq : F262_ 344 5 < K 1 6 - 1
              · exact Or.inr hq
              · have hz := sn_z (K := K) (p := K 1 6 - 1) (Or.inl (by have hE := hkt.2.2.1; omega))
                rw [show F262_ 344 5 = K 1 6 - 1 by omega] at hN9
                exact Or.inl (by omega)
            refine ga_iload_n (z := v) hm_177 rfl rfl ?_
            refine fx_if_ne (a := v) hm_177 rfl ⟨by omega, by omega⟩ (fun h553_ => ?_) (fun h554_ => ?_)
            ·
              refine ga_aload_n (v := .ref 344) hm_177 rfl rfl rfl ?_
              refine gIv (nY := 1) (F := 1) (L := 20) (As := []) (b := 344) (rest := []) hm_177 rfl hm_61 rfl rfl (fl_ob sc_344) rfl rfl rfl rfl rfl (by omega) (by omega) ?_
              intro f555_ l556_ h557_ h558_
              show fl_R xi_ms 61 f555_ l556_ 0 [(0, .ref 344)] [] _ _
              refine ga_aload_n (v := .ref 344) hm_61 rfl rfl rfl ?_
              refine ga_dup hm_61 rfl rfl ?_
              refine ga_geti (z := F262_ 344 5) hm_61 rfl sc_344 rfl (rfl) ?_
              refine ga_aload_n (v := .ref 344) hm_61 rfl rfl rfl ?_
              refine gIi (nY := 1) (F := 0) (L := 0) (As := []) (b := 344) (rest := [.int (Int32.ofInt (F262_ 344 5)), .ref 344]) hm_61 rfl hm_59 rfl rfl (fl_ob sc_344) rfl rfl rfl rfl rfl (by omega) (by omega) ?_
              intro f559_ l560_ h561_ h562_
              show fl_R xi_ms 59 f559_ l560_ 0 [(0, .ref 344)] [] _ _
              refine ga_aload_n (v := .ref 344) hm_59 rfl rfl rfl ?_
              refine ga_geti (z := F262_ 344 9) hm_59 rfl sc_344 rfl (rfl) ?_
              refine fl_if_le (a := F262_ 344 9) hm_59 rfl ⟨by omega, by omega⟩ (fun h563_ => ?_) (fun h564_ => ?_)
              ·
                refine fl_iconst hm_59 rfl ?_
                refine gr_i hm_59 rfl rfl (ga_nb (by omega)) ?_
                clear h561_ h562_ f559_ l560_
                refine fl_if_eq hm_61 rfl ⟨by omega, by omega⟩ (fun _ => ?_) (fun h => absurd (by omega) h)
                refine fl_iconst hm_61 rfl ?_
                refine ga_iadd (a := F262_ 344 5) (b := 1) (c := F262_ 344 5 + 1) hm_61 rfl (by omega) ?_
                refine ga_puti (z := F262_ 344 5 + 1) hm_61 rfl sc_344 rfl rfl ?_
                refine gr_v hm_61 rfl rfl ?_
                clear h557_ h558_ f555_ l556_
                refine ga_aload_n (v := .ref 344) hm_177 rfl rfl rfl ?_
                refine ga_getr (b := 357) hm_177 rfl sc_344 rfl ?_
                refine ga_iload_n (z := a) hm_177 rfl rfl ?_
                refine ga_iload_n (z := v) hm_177 rfl rfl ?_
                refine fl_iast (z := a) (v := v) hm_177 rfl sc_357 (by omega) (by omega) (by omega) ?_
                refine ga_aload_n (v := .ref 344) hm_177 rfl rfl rfl ?_
                refine fl_bipush hm_177 rfl rfl ?_
                obtain ⟨F565_, q566_⟩ : ∃ F9_, F9_ = (fl_u (fl_u F262_ 344 5 (F262_ 344 5 + 1)) 357 a.toNat v) := ⟨_, rfl⟩
                rw [← q566_]
                have g567_ : gi F565_ := by rw [q566_]; exact gi_u (gi_u (g263_) rfl (by omega) (by omega)) rfl (by omega) (by omega)
                have g568_ : fs [(344, 344, 5, 5), (344, 344, 9, 10), (344, 344, 63, 63), (357, 357, 0, 100000)] F F565_ := by rw [q566_]; exact fs_u (fs_u (g270_) rfl) (fs_z (fs_z (fs_z (fs_y (by omega)))))
                have rk569_ : rk K F565_ := by rw [q566_]; exact rk_u (rk_u (rk271_) (by omega) (by omega)) (by omega) (by omega)
                have e570_ : F565_ 344 5 = F262_ 344 5 + 1 := by rw [q566_]; exact (fl_u_ne (by omega)).trans (fl_u_eq)
                refine gVv (nY := 2) (F := 2) (L := 41) (As := [.int (Int32.ofInt 41)]) (b := 344) (rest := []) hm_177 rfl hm_51 rfl rfl (fl_ob sc_344) rfl rfl rfl rfl rfl (by omega) (by omega) (mc_51 hG F565_ X g567_ (K) (41) (1) hgK rk569_ hkt (by omega) (by omega) (by omega)) (fun _ _ h => False.elim h) ?_
                have e572_ : F565_ 344 10 = F262_ 344 10 := by rw [q566_]; exact (fl_u_ne (by omega)).trans (fl_u_ne (by omega))
                have b573_ : 0 ≤ F262_ 344 10 ∧ F262_ 344 10 ≤ 600 := gi_g g263_ rfl
                have e574_ : F565_ 344 9 = F262_ 344 9 := by rw [q566_]; exact (fl_u_ne (by omega)).trans (fl_u_ne (by omega))
                rintro A1_ (⟨F578_, hA_, g579_, s580_, c575_, c576_, c577_⟩ | ⟨F584_, hA_, g585_, s586_, c581_, c582_, c583_⟩)
                ·
                  subst hA_
                  have g587_ : fs [(344, 344, 5, 5), (344, 344, 9, 10), (344, 344, 63, 63), (357, 357, 0, 100000)] F F578_ := fs_tr g568_ s580_ rfl
                  have rk588_ : rk K F578_ := rk_fs rk569_ s580_ (fun r k h => (fs_n (by omega) (fs_n (by omega) rfl))) (fs_n (by omega) (fs_n (by omega) rfl))
                  try simp only [e570_, e572_, e574_] at c576_
                  have c576_s := c576_.1 (by omega)
                  clear c576_
                  refine gr_v hm_177 rfl rfl ?_
                  have b589_ : 0 ≤ F578_ 344 9 ∧ F578_ 344 9 ≤ 5 := gi_g g579_ rfl
                  have b590_ : 0 ≤ F578_ 344 10 ∧ F578_ 344 10 ≤ 600 := gi_g g579_ rfl
                  have b591_ : 0 ≤ F578_ 344 5 ∧ F578_ 344 5 ≤ 600 := gi_g g579_ rfl
                  exact Or.inl ⟨F578_, rfl, g579_, g587_, (by omega), (⟨by intro h0_; have hs_ := c576_s; rw [sp_inc, if_pos (by omega), (show sk K (F 344 5) = F 344 5 + 1 by rw [sk, if_pos (by omega)])]; rw [c214_, pb_r]; rw [c237_, pb_r]; rw [c260_, pb_r]; rw [if_neg (by omega), (show sk K (F262_ 344 5) = F262_ 344 5 + 1 by rw [sk, if_pos (by omega)])]; rw [hs_]; show Sum.inl _ = _; try (congr 2 <;> omega), fun h0_ => by exfalso; omega⟩), (by omega)⟩
                subst hA_
                have g592_ : fs [(344, 344, 5, 5), (344, 344, 9, 10), (344, 344, 63, 63), (357, 357, 0, 100000)] F F584_ := fs_tr g568_ s586_ rfl
                have rk593_ : rk K F584_ := rk_fs rk569_ s586_ (fun r k h => (fs_n (by omega) (fs_n (by omega) rfl))) (fs_n (by omega) (fs_n (by omega) rfl))
                try simp only [e574_] at c581_
                try simp only [e570_] at c582_
                refine gr_v hm_177 rfl rfl ?_
                have b594_ : 0 ≤ F584_ 344 9 ∧ F584_ 344 9 ≤ 5 := gi_g g585_ rfl
                have b595_ : 0 ≤ F584_ 344 5 ∧ F584_ 344 5 ≤ 600 := gi_g g585_ rfl
                have e596_ : F565_ 357 a.toNat = v := by rw [q566_]; exact fl_u_eq
                have e597_ : F584_ 357 a.toNat = v := (s586_ 357 a.toNat (fs_n (by omega) (fs_n (by omega) rfl))).trans (e596_)
                have e598_ : F197_ 344 63 = 1 := by rw [q198_]; exact (fl_u_ne (by omega)).trans (fl_u_eq)
                have e599_ : F216_ 344 63 = 1 := (s218_ 344 63 rfl).trans (e598_)
                have e600_ : F239_ 344 63 = 1 := (s241_ 344 63 rfl).trans (e599_)
                have e601_ : F262_ 344 63 = 1 := (s264_ 344 63 rfl).trans (e600_)
                have e602_ : F565_ 344 63 = 1 := by rw [q566_]; exact (fl_u_ne (by omega)).trans ((fl_u_ne (by omega)).trans (e601_))
                have e603_ : F584_ 344 63 = 1 := (s586_ 344 63 rfl).trans (e602_)
                exact Or.inr (⟨F584_, rfl, g585_, g592_, (by omega), (⟨sp_num K (F262_ 344 5), by rw [sp_inc, if_pos (by omega), (show sk K (F 344 5) = F 344 5 + 1 by rw [sk, if_pos (by omega)])]; rw [c214_, pb_r]; rw [c237_, pb_r]; rw [c260_, pb_r]; rw [if_neg (by omega), (show sk K (F262_ 344 5) = F262_ 344 5 + 1 by rw [sk, if_pos (by omega)])]; rw [c582_, pb_r], by omega, by omega⟩), (by omega), (by omega), ((cst_fs (by rw [q566_]; exact (cst_w (cst_u (cst_fs (cst_fs (cst_fs (by rw [q198_]; exact (cst_u (cst_u cst_r (by decide)) (by decide))) s218_ (fun _ => (fs_n (by omega) (fs_n (by omega) rfl)))) s241_ (fun _ => (fs_n (by omega) (fs_n (by omega) rfl)))) s264_ (fun _ => (fs_n (by omega) (fs_n (by omega) rfl)))) (by decide)) (by omega))) s586_ (fun _ => (fs_n (by omega) (fs_n (by omega) rfl))))), ((lfr_fg (by rw [q566_]; exact (lfr_ua (lfr_uo (lfr_fg (lfr_fg (lfr_fg (by rw [q198_]; exact (lfr_uo (lfr_uo lfr_r rfl) rfl)) s218_ rfl) s241_ rfl) s264_ rfl) rfl) rfl rfl)) s586_ rfl))⟩)
              exfalso; omega
            
            refine ga_aload_n (v := .ref 344) hm_177 rfl rfl rfl ?_
            refine fl_iconst hm_177 rfl ?_
            refine gVv (nY := 2) (F := 0) (L := 0) (As := [.int (Int32.ofInt 1)]) (b := 344) (rest := []) hm_177 rfl hm_54 rfl rfl (fl_ob sc_344) rfl rfl rfl rfl rfl (by omega) (by omega) (mc_54 hG F262_ X g263_ (K) (1) hgK rk271_ hkt (by omega) (by omega)) (fun _ _ h => False.elim h) ?_
            have b605_ : 0 ≤ F262_ 344 10 ∧ F262_ 344 10 ≤ 600 := gi_g g263_ rfl
            rintro A1_ ⟨F609_, hA_, g610_, s611_, c606_, c607_, c608_⟩
            subst hA_
            have g612_ : fs [(344, 344, 5, 5), (344, 344, 9, 10), (344, 344, 63, 63), (357, 357, 0, 100000)] F F609_ := fs_tr g270_ s611_ rfl
            have rk613_ : rk K F609_ := rk_fs rk271_ s611_ (fun r k h => (fs_n (by omega) rfl)) (fs_n (by omega) rfl)
            have c607_s := c607_.1 (by omega)
            clear c607_
            refine ga_aload_n (v := .ref 344) hm_177 rfl rfl rfl ?_
            refine gIv (nY := 1) (F := 1) (L := 20) (As := []) (b := 344) (rest := []) hm_177 rfl hm_61 rfl rfl (fl_ob sc_344) rfl rfl rfl rfl rfl (by omega) (by omega) ?_
            intro f614_ l615_ h616_ h617_
            show fl_R xi_ms 61 f614_ l615_ 0 [(0, .ref 344)] [] _ _
            refine ga_aload_n (v := .ref 344) hm_61 rfl rfl rfl ?_
            refine ga_dup hm_61 rfl rfl ?_
            have e618_ : F609_ 344 5 = F262_ 344 5 := (s611_ 344 5 rfl).trans (rfl)
            refine ga_geti (z := F262_ 344 5) hm_61 rfl sc_344 rfl (e618_) ?_
            refine ga_aload_n (v := .ref 344) hm_61 rfl rfl rfl ?_
            refine gIi (nY := 1) (F := 0) (L := 0) (As := []) (b := 344) (rest := [.int (Int32.ofInt (F262_ 344 5)), .ref 344]) hm_61 rfl hm_59 rfl rfl (fl_ob sc_344) rfl rfl rfl rfl rfl (by omega) (by omega) ?_
            intro f619_ l620_ h621_ h622_
            show fl_R xi_ms 59 f619_ l620_ 0 [(0, .ref 344)] [] _ _
            refine ga_aload_n (v := .ref 344) hm_59 rfl rfl rfl ?_
            have b623_ : 0 ≤ F609_ 344 9 ∧ F609_ 344 9 ≤ 5 := gi_g g610_ rfl
            refine ga_geti (z := F609_ 344 9) hm_59 rfl sc_344 rfl (rfl) ?_
            refine fl_if_le (a := F609_ 344 9) hm_59 rfl ⟨by omega, by omega⟩ (fun h624_ => ?_) (fun h625_ => ?_)
            · exfalso; omega
            refine fl_iconst hm_59 rfl ?_
            refine fl_goto hm_59 rfl ?_
            refine gr_i hm_59 rfl rfl (ga_nb (by omega)) ?_
            clear h621_ h622_ f619_ l620_
            refine fl_if_eq hm_61 rfl ⟨by omega, by omega⟩ (fun h => absurd h (by omega)) (fun _ => ?_)
            refine fl_iconst hm_61 rfl ?_
            refine fl_goto hm_61 rfl ?_
            refine ga_iadd (a := F262_ 344 5) (b := 0) (c := F262_ 344 5) hm_61 rfl (by omega) ?_
            refine ga_puti (z := F262_ 344 5) hm_61 rfl sc_344 rfl rfl ?_
            refine gr_v hm_61 rfl rfl ?_
            clear h616_ h617_ f614_ l615_
            refine ga_aload_n (v := .ref 344) hm_177 rfl rfl rfl ?_
            refine ga_getr (b := 357) hm_177 rfl sc_344 rfl ?_
            refine ga_iload_n (z := a) hm_177 rfl rfl ?_
            refine ga_iload_n (z := v) hm_177 rfl rfl ?_
            refine fl_iast (z := a) (v := v) hm_177 rfl sc_357 (by omega) (by omega) (by omega) ?_
            refine ga_aload_n (v := .ref 344) hm_177 rfl rfl rfl ?_
            refine fl_bipush hm_177 rfl rfl ?_
            obtain ⟨F626_, q627_⟩ : ∃ F9_, F9_ = (fl_u (fl_u F609_ 344 5 (F262_ 344 5)) 357 a.toNat v) := ⟨_, rfl⟩
            rw [← q627_]
            have g628_ : gi F626_ := by rw [q627_]; exact gi_u (gi_u (g610_) rfl (by omega) (by omega)) rfl (by omega) (by omega)
            have g629_ : fs [(344, 344, 5, 5), (344, 344, 9, 10), (344, 344, 63, 63), (357, 357, 0, 100000)] F F626_ := by rw [q627_]; exact fs_u (fs_u (g612_) rfl) (fs_z (fs_z (fs_z (fs_y (by omega)))))
            have rk630_ : rk K F626_ := by rw [q627_]; exact rk_u (rk_u (rk613_) (by omega) (by omega)) (by omega) (by omega)
            have e631_ : F626_ 344 5 = F262_ 344 5 := by rw [q627_]; exact (fl_u_ne (by omega)).trans (fl_u_eq)
            refine gVv (nY := 2) (F := 2) (L := 41) (As := [.int (Int32.ofInt 41)]) (b := 344) (rest := []) hm_177 rfl hm_51 rfl rfl (fl_ob sc_344) rfl rfl rfl rfl rfl (by omega) (by omega) (mc_51 hG F626_ X g628_ (K) (41) (1) hgK rk630_ hkt (by omega) (by omega) (by omega)) (fun _ _ h => False.elim h) ?_
            have e633_ : F626_ 344 10 = F609_ 344 10 := by rw [q627_]; exact (fl_u_ne (by omega)).trans (fl_u_ne (by omega))
            have b634_ : 0 ≤ F609_ 344 10 ∧ F609_ 344 10 ≤ 600 := gi_g g610_ rfl
            have e635_ : F626_ 344 9 = F609_ 344 9 := by rw [q627_]; exact (fl_u_ne (by omega)).trans (fl_u_ne (by omega))
            rintro A1_ (⟨F639_, hA_, g640_, s641_, c636_, c637_, c638_⟩ | ⟨F645_, hA_, g646_, s647_, c642_, c643_, c644_⟩)
            ·
              subst hA_
              have g648_ : fs [(344, 344, 5, 5), (344, 344, 9, 10), (344, 344, 63, 63), (357, 357, 0, 100000)] F F639_ := fs_tr g629_ s641_ rfl
              have rk649_ : rk K F639_ := rk_fs rk630_ s641_ (fun r k h => (fs_n (by omega) (fs_n (by omega) rfl))) (fs_n (by omega) (fs_n (by omega) rfl))
              try simp only [e631_, e633_, e635_] at c637_
              have c637_k := c637_.2 (by omega)
              clear c637_
              refine gr_v hm_177 rfl rfl ?_
              have b650_ : 0 ≤ F639_ 344 9 ∧ F639_ 344 9 ≤ 5 := gi_g g640_ rfl
              have b651_ : 0 ≤ F639_ 344 10 ∧ F639_ 344 10 ≤ 600 := gi_g g640_ rfl
              have b652_ : 0 ≤ F639_ 344 5 ∧ F639_ 344 5 ≤ 600 := gi_g g640_ rfl
              exact Or.inl ⟨F639_, rfl, g640_, g648_, (by omega), (⟨by intro h0_; have hs_ := c607_s; rw [sp_inc, if_pos (by omega), (show sk K (F 344 5) = F 344 5 + 1 by rw [sk, if_pos (by omega)])]; rw [c214_, pb_r]; rw [c237_, pb_r]; rw [c260_, pb_r]; rw [if_pos (by omega)]; show Sum.inl (1, K 4 _) = _; congr 2 <;> omega, fun h0_ => by exfalso; omega⟩), (by omega)⟩
            exfalso; omega
          refine ga_iload_n (z := gd) hm_177 rfl rfl ?_
          refine fl_if_eq (a := gd) hm_177 rfl ⟨by omega, by omega⟩ (fun h653_ => ?_) (fun h654_ => ?_)
          ·
            refine ga_iload_n (z := gd) hm_177 rfl rfl ?_
            refine fl_if_eq (a := gd) hm_177 rfl ⟨by omega, by omega⟩ (fun h655_ => ?_) (fun h656_ => ?_)
            ·
              have hN9 : sp_num K (F262_ 344 5) = 0 := hvs0 (by omega)
              refine ga_aload_n (v := .ref 344) hm_177 rfl rfl rfl ?_
              refine fl_iconst hm_177 rfl ?_
              refine gVv (nY := 2) (F := 0) (L := 0) (As := [.int (Int32.ofInt 1)]) (b := 344) (rest := []) hm_177 rfl hm_54 rfl rfl (fl_ob sc_344) rfl rfl rfl rfl rfl (by omega) (by omega) (mc_54 hG F262_ X g263_ (K) (1) hgK rk271_ hkt (by omega) (by omega)) (fun _ _ h => False.elim h) ?_
              have b658_ : 0 ≤ F262_ 344 10 ∧ F262_ 344 10 ≤ 600 := gi_g g263_ rfl
              rintro A1_ ⟨F662_, hA_, g663_, s664_, c659_, c660_, c661_⟩
              subst hA_
              have g665_ : fs [(344, 344, 5, 5), (344, 344, 9, 10), (344, 344, 63, 63), (357, 357, 0, 100000)] F F662_ := fs_tr g270_ s664_ rfl
              have rk666_ : rk K F662_ := rk_fs rk271_ s664_ (fun r k h => (fs_n (by omega) rfl)) (fs_n (by omega) rfl)
              have c660_s := c660_.1 (by omega)
              clear c660_
              refine ga_aload_n (v := .ref 344) hm_177 rfl rfl rfl ?_
              refine gIv (nY := 1) (F := 1) (L := 20) (As := []) (b := 344) (rest := []) hm_177 rfl hm_61 rfl rfl (fl_ob sc_344) rfl rfl rfl rfl rfl (by omega) (by omega) ?_
              intro f667_ l668_ h669_ h670_
              show fl_R xi_ms 61 f667_ l668_ 0 [(0, .ref 344)] [] _ _
              refine ga_aload_n (v := .ref 344) hm_61 rfl rfl rfl ?_
              refine ga_dup hm_61 rfl rfl ?_
              have e671_ : F662_ 344 5 = F262_ 344 5 := (s664_ 344 5 rfl).trans (rfl)
              refine ga_geti (z := F262_ 344 5) hm_61 rfl sc_344 rfl (e671_) ?_
              refine ga_aload_n (v := .ref 344) hm_61 rfl rfl rfl ?_
              refine gIi (nY := 1) (F := 0) (L := 0) (As := []) (b := 344) (rest := [.int (Int32.ofInt (F262_ 344 5)), .ref 344]) hm_61 rfl hm_59 rfl rfl (fl_ob sc_344) rfl rfl rfl rfl rfl (by omega) (by omega) ?_
              intro f672_ l673_ h674_ h675_
              show fl_R xi_ms 59 f672_ l673_ 0 [(0, .ref 344)] [] _ _
              refine ga_aload_n (v := .ref 344) hm_59 rfl rfl rfl ?_
              have b676_ : 0 ≤ F662_ 344 9 ∧ F662_ 344 9 ≤ 5 := gi_g g663_ rfl
              refine ga_geti (z := F662_ 344 9) hm_59 rfl sc_344 rfl (rfl) ?_
              refine fl_if_le (a := F662_ 344 9) hm_59 rfl ⟨by omega, by omega⟩ (fun h677_ => ?_) (fun h678_ => ?_)
              · exfalso; omega
              refine fl_iconst hm_59 rfl ?_
              refine fl_goto hm_59 rfl ?_
              refine gr_i hm_59 rfl rfl (ga_nb (by omega)) ?_
              clear h674_ h675_ f672_ l673_
              refine fl_if_eq hm_61 rfl ⟨by omega, by omega⟩ (fun h => absurd h (by omega)) (fun _ => ?_)
              refine fl_iconst hm_61 rfl ?_
              refine fl_goto hm_61 rfl ?_
              refine ga_iadd (a := F262_ 344 5) (b := 0) (c := F262_ 344 5) hm_61 rfl (by omega) ?_
              refine ga_puti (z := F262_ 344 5) hm_61 rfl sc_344 rfl rfl ?_
              refine gr_v hm_61 rfl rfl ?_
              clear h669_ h670_ f667_ l668_
              refine ga_aload_n (v := .ref 344) hm_177 rfl rfl rfl ?_
              refine ga_getr (b := 357) hm_177 rfl sc_344 rfl ?_
              refine ga_iload_n (z := a) hm_177 rfl rfl ?_
              refine ga_iload_n (z := v) hm_177 rfl rfl ?_
              refine fl_iast (z := a) (v := v) hm_177 rfl sc_357 (by omega) (by omega) (by omega) ?_
              refine ga_aload_n (v := .ref 344) hm_177 rfl rfl rfl ?_
              refine fl_bipush hm_177 rfl rfl ?_
              obtain ⟨F679_, q680_⟩ : ∃ F9_, F9_ = (fl_u (fl_u F662_ 344 5 (F262_ 344 5)) 357 a.toNat v) := ⟨_, rfl⟩
              rw [← q680_]
              have g681_ : gi F679_ := by rw [q680_]; exact gi_u (gi_u (g663_) rfl (by omega) (by omega)) rfl (by omega) (by omega)
              have g682_ : fs [(344, 344, 5, 5), (344, 344, 9, 10), (344, 344, 63, 63), (357, 357, 0, 100000)] F F679_ := by rw [q680_]; exact fs_u (fs_u (g665_) rfl) (fs_z (fs_z (fs_z (fs_y (by omega)))))
              have rk683_ : rk K F679_ := by rw [q680_]; exact rk_u (rk_u (rk666_) (by omega) (by omega)) (by omega) (by omega)
              have e684_ : F679_ 344 5 = F262_ 344 5 := by rw [q680_]; exact (fl_u_ne (by omega)).trans (fl_u_eq)
              refine gVv (nY := 2) (F := 2) (L := 41) (As := [.int (Int32.ofInt 41)]) (b := 344) (rest := []) hm_177 rfl hm_51 rfl rfl (fl_ob sc_344) rfl rfl rfl rfl rfl (by omega) (by omega) (mc_51 hG F679_ X g681_ (K) (41) (1) hgK rk683_ hkt (by omega) (by omega) (by omega)) (fun _ _ h => False.elim h) ?_
              have e686_ : F679_ 344 10 = F662_ 344 10 := by rw [q680_]; exact (fl_u_ne (by omega)).trans (fl_u_ne (by omega))
              have b687_ : 0 ≤ F662_ 344 10 ∧ F662_ 344 10 ≤ 600 := gi_g g663_ rfl
              have e688_ : F679_ 344 9 = F662_ 344 9 := by rw [q680_]; exact (fl_u_ne (by omega)).trans (fl_u_ne (by omega))
              rintro A1_ (⟨F692_, hA_, g693_, s694_, c689_, c690_, c691_⟩ | ⟨F698_, hA_, g699_, s700_, c695_, c696_, c697_⟩)
              ·
                subst hA_
                have g701_ : fs [(344, 344, 5, 5), (344, 344, 9, 10), (344, 344, 63, 63), (357, 357, 0, 100000)] F F692_ := fs_tr g682_ s694_ rfl
                have rk702_ : rk K F692_ := rk_fs rk683_ s694_ (fun r k h => (fs_n (by omega) (fs_n (by omega) rfl))) (fs_n (by omega) (fs_n (by omega) rfl))
                try simp only [e684_, e686_, e688_] at c690_
                have c690_k := c690_.2 (by omega)
                clear c690_
                refine gr_v hm_177 rfl rfl ?_
                have b703_ : 0 ≤ F692_ 344 9 ∧ F692_ 344 9 ≤ 5 := gi_g g693_ rfl
                have b704_ : 0 ≤ F692_ 344 10 ∧ F692_ 344 10 ≤ 600 := gi_g g693_ rfl
                have b705_ : 0 ≤ F692_ 344 5 ∧ F692_ 344 5 ≤ 600 := gi_g g693_ rfl
                exact Or.inl ⟨F692_, rfl, g693_, g701_, (by omega), (⟨by intro h0_; have hs_ := c660_s; rw [sp_inc, if_pos (by omega), (show sk K (F 344 5) = F 344 5 + 1 by rw [sk, if_pos (by omega)])]; rw [c214_, pb_r]; rw [c237_, pb_r]; rw [c260_, pb_r]; rw [if_pos (by omega)]; show Sum.inl (1, K 4 _) = _; congr 2 <;> omega, fun h0_ => by exfalso; omega⟩), (by omega)⟩
              exfalso; omega
            exfalso; omega
          refine ga_aload_n (v := .ref 344) hm_177 rfl rfl rfl ?_
          refine ga_getr (b := 345) hm_177 rfl sc_344 rfl ?_
          refine ga_iload (z := k) hm_177 rfl rfl ?_
          have e706_ : F262_ 345 k.toNat = K 2 k.toNat := rk271_.2.2.1 k (by omega) (by omega)
          have b707_ : 0 ≤ K 2 k.toNat ∧ K 2 k.toNat ≤ 126 := gi_g hgK rfl
          refine ga_iald (z := k) (w := K 2 k.toNat) hm_177 rfl sc_345 (by omega) (by omega) (by omega) (e706_) ?_
          refine fl_bipush hm_177 rfl rfl ?_
          refine fl_icmp_lt (a := K 2 k.toNat) (b := 48) hm_177 rfl ⟨by omega, by omega⟩ ⟨by omega, by omega⟩ (fun h708_ => ?_) (fun h709_ => ?_)
          ·
            refine fl_iconst hm_177 rfl ?_
            refine ga_istore_n (lv2 := [(3, .int (Int32.ofInt 0)), (4, .int (Int32.ofInt k)), (2, .int (Int32.ofInt v)), (0, .ref 344), (1, .int (Int32.ofInt a))]) hm_177 rfl (Nat.le_of_ble_eq_true rfl) rfl ?_
            refine fl_bipush hm_177 rfl rfl ?_
            refine ga_iload_n (z := v) hm_177 rfl rfl ?_
            refine ga_imul (a := 10) (b := v) (c := 10 * v) hm_177 rfl (by omega) ?_
            refine ga_aload_n (v := .ref 344) hm_177 rfl rfl rfl ?_
            refine ga_getr (b := 345) hm_177 rfl sc_344 rfl ?_
            refine ga_iload (z := k) hm_177 rfl rfl ?_
            refine ga_iald (z := k) (w := K 2 k.toNat) hm_177 rfl sc_345 (by omega) (by omega) (by omega) (e706_) ?_
            refine ga_iadd (a := 10 * v) (b := K 2 k.toNat) (c := 10 * v + K 2 k.toNat) hm_177 rfl (by omega) ?_
            refine fl_bipush hm_177 rfl rfl ?_
            refine ga_isub (a := 10 * v + K 2 k.toNat) (b := 48) (c := 10 * v + K 2 k.toNat - 48) hm_177 rfl (by omega) ?_
            refine ga_istore_n (lv2 := [(2, .int (Int32.ofInt (10 * v + K 2 k.toNat - 48))), (3, .int (Int32.ofInt 0)), (4, .int (Int32.ofInt k)), (0, .ref 344), (1, .int (Int32.ofInt a))]) hm_177 rfl (Nat.le_of_ble_eq_true rfl) rfl ?_
            refine ga_inc (a := k) (c := k + 1) (lv2 := [(4, .int (Int32.ofInt (k + 1))), (2, .int (Int32.ofInt (10 * v + K 2 k.toNat - 48))), (3, .int (Int32.ofInt 0)), (0, .ref 344), (1, .int (Int32.ofInt a))]) hm_177 rfl rfl (Nat.le_of_ble_eq_true rfl) rfl rfl ?_
            refine fl_goto hm_177 rfl ?_
            exact fl_R_sub (lv' := [(4, .int (Int32.ofInt (k + 1))), (3, .int (Int32.ofInt 0)), (2, .int (Int32.ofInt (10 * v + K 2 k.toNat - 48))), (0, .ref 344), (1, .int (Int32.ofInt a))]) rfl rfl (ih498_ _ (by omega) (k + 1) (0) (10 * v + K 2 k.toNat - 48) rfl (by omega) (by omega) (fun h => absurd h (by omega)) (fun _ => sn_n (hvs1 (by omega)) (by omega) (by omega)))
          refine ga_aload_n (v := .ref 344) hm_177 rfl rfl rfl ?_
          refine ga_getr (b := 345) hm_177 rfl sc_344 rfl ?_
          refine ga_iload (z := k) hm_177 rfl rfl ?_
          refine ga_iald (z := k) (w := K 2 k.toNat) hm_177 rfl sc_345 (by omega) (by omega) (by omega) (e706_) ?_
          refine fl_bipush hm_177 rfl rfl ?_
          refine fl_icmp_gt (a := K 2 k.toNat) (b := 57) hm_177 rfl ⟨by omega, by omega⟩ ⟨by omega, by omega⟩ (fun h710_ => ?_) (fun h711_ => ?_)
          ·
            refine fl_iconst hm_177 rfl ?_
            refine ga_istore_n (lv2 := [(3, .int (Int32.ofInt 0)), (4, .int (Int32.ofInt k)), (2, .int (Int32.ofInt v)), (0, .ref 344), (1, .int (Int32.ofInt a))]) hm_177 rfl (Nat.le_of_ble_eq_true rfl) rfl ?_
            refine fl_bipush hm_177 rfl rfl ?_
            refine ga_iload_n (z := v) hm_177 rfl rfl ?_
            refine ga_imul (a := 10) (b := v) (c := 10 * v) hm_177 rfl (by omega) ?_
            refine ga_aload_n (v := .ref 344) hm_177 rfl rfl rfl ?_
            refine ga_getr (b := 345) hm_177 rfl sc_344 rfl ?_
            refine ga_iload (z := k) hm_177 rfl rfl ?_
            refine ga_iald (z := k) (w := K 2 k.toNat) hm_177 rfl sc_345 (by omega) (by omega) (by omega) (e706_) ?_
            refine ga_iadd (a := 10 * v) (b := K 2 k.toNat) (c := 10 * v + K 2 k.toNat) hm_177 rfl (by omega) ?_
            refine fl_bipush hm_177 rfl rfl ?_
            refine ga_isub (a := 10 * v + K 2 k.toNat) (b := 48) (c := 10 * v + K 2 k.toNat - 48) hm_177 rfl (by omega) ?_
            refine ga_istore_n (lv2 := [(2, .int (Int32.ofInt (10 * v + K 2 k.toNat - 48))), (3, .int (Int32.ofInt 0)), (4, .int (Int32.ofInt k)), (0, .ref 344), (1, .int (Int32.ofInt a))]) hm_177 rfl (Nat.le_of_ble_eq_true rfl) rfl ?_
            refine ga_inc (a := k) (c := k + 1) (lv2 := [(4, .int (Int32.ofInt (k + 1))), (2, .int (Int32.ofInt (10 * v + K 2 k.toNat - 48))), (3, .int (Int32.ofInt 0)), (0, .ref 344), (1, .int (Int32.ofInt a))]) hm_177 rfl rfl (Nat.le_of_ble_eq_true rfl) rfl rfl ?_
            refine fl_goto hm_177 rfl ?_
            exact fl_R_sub (lv' := [(4, .int (Int32.ofInt (k + 1))), (3, .int (Int32.ofInt 0)), (2, .int (Int32.ofInt (10 * v + K 2 k.toNat - 48))), (0, .ref 344), (1, .int (Int32.ofInt a))]) rfl rfl (ih498_ _ (by omega) (k + 1) (0) (10 * v + K 2 k.toNat - 48) rfl (by omega) (by omega) (fun h => absurd h (by omega)) (fun _ => sn_n (hvs1 (by omega)) (by omega) (by omega)))
          refine fl_iconst hm_177 rfl ?_
          refine fl_goto hm_177 rfl ?_
          refine ga_istore_n (lv2 := [(3, .int (Int32.ofInt 1)), (4, .int (Int32.ofInt k)), (2, .int (Int32.ofInt v)), (0, .ref 344), (1, .int (Int32.ofInt a))]) hm_177 rfl (Nat.le_of_ble_eq_true rfl) rfl ?_
          refine fl_bipush hm_177 rfl rfl ?_
          refine ga_iload_n (z := v) hm_177 rfl rfl ?_
          refine ga_imul (a := 10) (b := v) (c := 10 * v) hm_177 rfl (by omega) ?_
          refine ga_aload_n (v := .ref 344) hm_177 rfl rfl rfl ?_
          refine ga_getr (b := 345) hm_177 rfl sc_344 rfl ?_
          refine ga_iload (z := k) hm_177 rfl rfl ?_
          refine ga_iald (z := k) (w := K 2 k.toNat) hm_177 rfl sc_345 (by omega) (by omega) (by omega) (e706_) ?_
          refine ga_iadd (a := 10 * v) (b := K 2 k.toNat) (c := 10 * v + K 2 k.toNat) hm_177 rfl (by omega) ?_
          refine fl_bipush hm_177 rfl rfl ?_
          refine ga_isub (a := 10 * v + K 2 k.toNat) (b := 48) (c := 10 * v + K 2 k.toNat - 48) hm_177 rfl (by omega) ?_
          refine ga_istore_n (lv2 := [(2, .int (Int32.ofInt (10 * v + K 2 k.toNat - 48))), (3, .int (Int32.ofInt 1)), (4, .int (Int32.ofInt k)), (0, .ref 344), (1, .int (Int32.ofInt a))]) hm_177 rfl (Nat.le_of_ble_eq_true rfl) rfl ?_
          refine ga_inc (a := k) (c := k + 1) (lv2 := [(4, .int (Int32.ofInt (k + 1))), (2, .int (Int32.ofInt (10 * v + K 2 k.toNat - 48))), (3, .int (Int32.ofInt 1)), (0, .ref 344), (1, .int (Int32.ofInt a))]) hm_177 rfl rfl (Nat.le_of_ble_eq_true rfl) rfl rfl ?_
          refine fl_goto hm_177 rfl ?_
          exact fl_R_sub (lv' := [(4, .int (Int32.ofInt (k + 1))), (3, .int (Int32.ofInt 1)), (2, .int (Int32.ofInt (10 * v + K 2 k.toNat - 48))), (0, .ref 344), (1, .int (Int32.ofInt a))]) rfl rfl (ih498_ _ (by omega) (k + 1) (1) (10 * v + K 2 k.toNat - 48) rfl (by omega) (by omega) (fun _ => sn_d (hvs1 (by omega)) (by omega) (by omega) (by omega)) (fun h => absurd h (by omega)))
        exact L497_ _ (K 4 (F262_ 344 5).toNat) (1) (0) rfl (by omega) (by omega) (fun _ => sn_0 (by omega)) (fun h => absurd h (by omega))
      exfalso; omega
    exfalso; omega
  refine ga_aload_n (v := .ref 344) hm_177 rfl rfl rfl ?_
  refine fl_iconst hm_177 rfl ?_
  have b712_ : 0 ≤ F 344 5 ∧ F 344 5 ≤ 600 := gi_g hgi rfl
  refine gVv (nY := 2) (F := 0) (L := 0) (As := [.int (Int32.ofInt 5)]) (b := 344) (rest := []) hm_177 rfl hm_54 rfl rfl (fl_ob sc_344) rfl rfl rfl rfl rfl (by omega) (by omega) (mc_54 hG F X hgi (K) (5) hgK hrk hkt (by omega) (by omega)) (fun _ _ h => False.elim h) ?_
  have b714_ : 0 ≤ F 344 10 ∧ F 344 10 ≤ 600 := gi_g hgi rfl
  have b715_ : 0 ≤ F 344 9 ∧ F 344 9 ≤ 5 := gi_g hgi rfl
  rintro A1_ ⟨F719_, hA_, g720_, s721_, c716_, c717_, c718_⟩
  subst hA_
  have g722_ : fs [(344, 344, 5, 5), (344, 344, 9, 10), (344, 344, 63, 63), (357, 357, 0, 100000)] F F719_ := fs_tr fs_refl s721_ rfl
  have rk723_ : rk K F719_ := rk_fs hrk s721_ (fun r k h => (fs_n (by omega) rfl)) (fs_n (by omega) rfl)
  have c717_s := c717_.1 (by omega)
  clear c717_
  refine ga_aload_n (v := .ref 344) hm_177 rfl rfl rfl ?_
  refine fl_iconst hm_177 rfl ?_
  refine ga_putz (z := 1) hm_177 rfl sc_344 rfl rfl (by omega) ?_
  refine ga_aload_n (v := .ref 344) hm_177 rfl rfl rfl ?_
  refine gIv (nY := 1) (F := 1) (L := 20) (As := []) (b := 344) (rest := []) hm_177 rfl hm_61 rfl rfl (fl_ob sc_344) rfl rfl rfl rfl rfl (by omega) (by omega) ?_
  intro f724_ l725_ h726_ h727_
  show fl_R xi_ms 61 f724_ l725_ 0 [(0, .ref 344)] [] _ _
  refine ga_aload_n (v := .ref 344) hm_61 rfl rfl rfl ?_
  refine ga_dup hm_61 rfl rfl ?_
  have e728_ : F719_ 344 5 = F 344 5 := (s721_ 344 5 rfl).trans (rfl)
  refine ga_geti (z := F 344 5) hm_61 rfl sc_344 rfl ((fl_u_ne (by omega)).trans (e728_)) ?_
  refine ga_aload_n (v := .ref 344) hm_61 rfl rfl rfl ?_
  refine gIi (nY := 1) (F := 0) (L := 0) (As := []) (b := 344) (rest := [.int (Int32.ofInt (F 344 5)), .ref 344]) hm_61 rfl hm_59 rfl rfl (fl_ob sc_344) rfl rfl rfl rfl rfl (by omega) (by omega) ?_
  intro f729_ l730_ h731_ h732_
  show fl_R xi_ms 59 f729_ l730_ 0 [(0, .ref 344)] [] _ _
  refine ga_aload_n (v := .ref 344) hm_59 rfl rfl rfl ?_
  have b733_ : 0 ≤ F719_ 344 9 ∧ F719_ 344 9 ≤ 5 := gi_g g720_ rfl
  refine ga_geti (z := F719_ 344 9) hm_59 rfl sc_344 rfl (fl_u_ne (by omega)) ?_
  refine fl_if_le (a := F719_ 344 9) hm_59 rfl ⟨by omega, by omega⟩ (fun h734_ => ?_) (fun h735_ => ?_)
  · exfalso; omega
  refine fl_iconst hm_59 rfl ?_
  refine fl_goto hm_59 rfl ?_
  refine gr_i hm_59 rfl rfl (ga_nb (by omega)) ?_
  clear h731_ h732_ f729_ l730_
  refine fl_if_eq hm_61 rfl ⟨by omega, by omega⟩ (fun h => absurd h (by omega)) (fun _ => ?_)
  refine fl_iconst hm_61 rfl ?_
  refine fl_goto hm_61 rfl ?_
  refine ga_iadd (a := F 344 5) (b := 0) (c := F 344 5) hm_61 rfl (by omega) ?_
  refine ga_puti (z := F 344 5) hm_61 rfl sc_344 rfl rfl ?_
  refine gr_v hm_61 rfl rfl ?_
  clear h726_ h727_ f724_ l725_
  obtain ⟨F736_, q737_⟩ : ∃ F9_, F9_ = (fl_u (fl_u F719_ 344 63 1) 344 5 (F 344 5)) := ⟨_, rfl⟩
  rw [← q737_]
  have g738_ : gi F736_ := by rw [q737_]; exact gi_u (gi_u (g720_) rfl (by omega) (by omega)) rfl (by omega) (by omega)
  have g739_ : fs [(344, 344, 5, 5), (344, 344, 9, 10), (344, 344, 63, 63), (357, 357, 0, 100000)] F F736_ := by rw [q737_]; exact fs_u (fs_u (g722_) rfl) rfl
  have rk740_ : rk K F736_ := by rw [q737_]; exact rk_u (rk_u (rk723_) (by omega) (by omega)) (by omega) (by omega)
  have e741_ : F736_ 344 9 = F719_ 344 9 := by rw [q737_]; exact (fl_u_ne (by omega)).trans (fl_u_ne (by omega))
  have e742_ : F736_ 344 10 = F719_ 344 10 := by rw [q737_]; exact (fl_u_ne (by omega)).trans (fl_u_ne (by omega))
  have b743_ : 0 ≤ F719_ 344 10 ∧ F719_ 344 10 ≤ 600 := gi_g g720_ rfl
  have e744_ : F736_ 344 5 = F 344 5 := by rw [q737_]; exact fl_u_eq
  exact B21_ F736_ g738_ g739_ rk740_ (by omega) (by omega) (⟨by intro h0_; have hs_ := c717_s; rw [sp_inc, if_neg (by omega)]; show Sum.inl (5, K 4 _) = _; congr 2 <;> omega, fun h0_ => by exfalso; omega⟩)

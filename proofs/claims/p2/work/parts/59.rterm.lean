theorem rty_get {g : Nat → Int} {a j : Nat} {tl : List Int} (h : rty g a tl) (hj : j < tl.length) : g (a + j) = tl.getD j 0 + 1 := by
  rw [h j tl[j] (List.getElem?_eq_getElem hj)]
  simp [hj]
/-- the terms that may be named: the objects, or an action's variables -/
def trm (F : fl_N) (a k : Int) (l tl : List Int) : Prop := (a = 5 ∧ k = 2 ∧ rpn (F 364) (F 344 33) l ∧ rty (F 365) 0 tl) ∨ ((0 ≤ a ∧ a ≤ 4) ∧ k = 3 ∧ rpn (fun j => F 356 ((3 * a).toNat + j)) (F 354 a.toNat) l ∧ rty (F 355) (3 * a).toNat tl)
theorem trm_fs {F F' : fl_N} {S : List (Nat × Nat × Nat × Nat)} {a k : Int} {l tl : List Int} (h : trm F a k l tl) (hf : fs S F F') (hS : ∀ r j, (r = 344 ∧ j = 33) ∨ (354 ≤ r ∧ r ≤ 356) ∨ (364 ≤ r ∧ r ≤ 365) → fs_in S r j = false) : trm F' a k l tl := by
  have e1 : F' 364 = F 364 := funext (fun j => hf _ _ (hS _ _ (by omega)))
  have e2 : F' 365 = F 365 := funext (fun j => hf _ _ (hS _ _ (by omega)))
  have e3 : F' 354 = F 354 := funext (fun j => hf _ _ (hS _ _ (by omega)))
  have e4 : F' 355 = F 355 := funext (fun j => hf _ _ (hS _ _ (by omega)))
  have e5 : F' 356 = F 356 := funext (fun j => hf _ _ (hS _ _ (by omega)))
  have e6 : F' 344 33 = F 344 33 := hf _ _ (hS _ _ (by omega))
  unfold trm
  rw [e1, e2, e3, e4, e5, e6]
  exact h
theorem trm_u {F : fl_N} {a k : Int} {c j : Nat} {z : Int} {l tl : List Int} (h : trm F a k l tl) (hc : ¬ (c = 344 ∧ j = 33) ∧ ¬ (354 ≤ c ∧ c ≤ 356) ∧ ¬ (364 ≤ c ∧ c ≤ 365)) : trm (fl_u F c j z) a k l tl := by
  unfold trm
  rw [fl_u_r (r' := 364) (by omega), fl_u_r (r' := 365) (by omega), fl_u_r (r' := 354) (by omega), fl_u_r (r' := 355) (by omega), fl_u_r (r' := 356) (by omega), fl_u_ne (r' := 344) (k' := 33) (by omega)]
  exact h

/- CheapPlannerModel.readTerm -/
abbrev pq_185 (G : Nat → Nat → Option Nat) (F : fl_N) (X : xi_H) (K : fl_N) (a wn k w : Int) (l tl : List Int) : Outcome → xi_H → Prop := gqi (fun z A => (∃ F' : fl_N, fl_H sh_T G F' ++ X = A ∧ gi F' ∧ fs [(344, 344, 5, 5), (344, 344, 9, 10)] F F' ∧ (¬ F' 344 9 = 0) ∧ ((F 344 9 = 0 → sp_term K k l tl w (F 344 5) = .inl (F' 344 9, F' 344 10)) ∧ (¬ F 344 9 = 0 → F' 344 9 = F 344 9 ∧ F' 344 10 = F 344 10)) ∧ (0 ≤ F' 344 5 ∧ F' 344 5 ≤ K 1 6 - 1) ∧ (0 ≤ z ∧ z ≤ 5)) ∨ (∃ F' : fl_N, fl_H sh_T G F' ++ X = A ∧ gi F' ∧ fs [(344, 344, 5, 5), (344, 344, 9, 10)] F F' ∧ (F' 344 9 = 0 ∧ F 344 9 = 0) ∧ (sp_term K k l tl w (F 344 5) = .inr (F' 344 5)) ∧ (0 ≤ F' 344 5 ∧ F' 344 5 ≤ K 1 6 - 1) ∧ (0 ≤ z ∧ z ≤ 5))) gqn
theorem mc_185 {G : Nat → Nat → Option Nat} (hG : gg G) (F : fl_N) (X : xi_H) (hgi : gi F) (K : fl_N) (a wn k w : Int) (l tl : List Int) (hgK : gi K) (hrk : rk K F) (hkt : rkt K) (hp : 0 ≤ F 344 5 ∧ F 344 5 ≤ K 1 6 - 1) (ht : trm F a k l tl) (hlt : l.length = tl.length) (hw : (wn ≤ 0 ∧ -1 ≤ wn ∧ w = -1) ∨ (wn = w + 1 ∧ 0 ≤ w ∧ w ≤ 3)) (ha : 0 ≤ a ∧ a ≤ 5) : fl_M xi_ms 185 3 66 [.ref 344, .int (Int32.ofInt a), .int (Int32.ofInt wn)] (fl_H sh_T G F ++ X) (pq_185 G F X K a wn k w l tl) := by
  intro fr lo hfr hlo
  show fl_R xi_ms 185 fr lo 0 [(0, .ref 344), (1, .int (Int32.ofInt a)), (2, .int (Int32.ofInt wn))] [] _ _
  have hP := rkt_p hkt hp.1 hp.2 hgK
  have hK16 : 0 ≤ K 1 6 ∧ K 1 6 ≤ 601 := gi_g hgK rfl
  have hko := hkt.1
  refine ga_iload_n (z := a) hm_185 rfl rfl ?_
  refine fl_iconst hm_185 rfl ?_
  refine fx_icmp_ne (a := a) (b := 5) hm_185 rfl ⟨by omega, by omega⟩ ⟨by omega, by omega⟩ (fun h1_ => ?_) (fun h2_ => ?_)
  ·
    have hT : k = 3 ∧ rpn (fun j => F 356 ((3 * a).toNat + j)) (F 354 a.toNat) l ∧ rty (F 355) (3 * a).toNat tl := by rcases ht with h | h; omega; exact h.2
    have hT1 := hT.2.1.1
    have hra : 0 ≤ a ∧ a ≤ 4 := by rcases ht with h | h; omega; exact h.1
    have hvr := tk_var hkt hgK hp.1 hp.2
    refine fl_iconst hm_185 rfl ?_
    refine ga_istore_n (lv2 := [(3, .int (Int32.ofInt 0)), (0, .ref 344), (1, .int (Int32.ofInt a)), (2, .int (Int32.ofInt wn))]) hm_185 rfl (Nat.le_of_ble_eq_true rfl) rfl ?_
    have b3_ : 0 ≤ F 344 9 ∧ F 344 9 ≤ 5 := gi_g hgi rfl
    by_cases h4_ : F 344 9 = 0
    ·
      refine ga_aload_n (v := .ref 344) hm_185 rfl rfl rfl ?_
      refine gIi (nY := 1) (F := 0) (L := 0) (As := []) (b := 344) (rest := []) hm_185 rfl hm_59 rfl rfl (fl_ob sc_344) rfl rfl rfl rfl rfl (by omega) (by omega) ?_
      intro f5_ l6_ h7_ h8_
      show fl_R xi_ms 59 f5_ l6_ 0 [(0, .ref 344)] [] _ _
      refine ga_aload_n (v := .ref 344) hm_59 rfl rfl rfl ?_
      refine ga_geti (z := F 344 9) hm_59 rfl sc_344 rfl (rfl) ?_
      refine fl_if_le (a := F 344 9) hm_59 rfl ⟨by omega, by omega⟩ (fun h9_ => ?_) (fun h10_ => ?_)
      ·
        refine fl_iconst hm_59 rfl ?_
        refine gr_i hm_59 rfl rfl (ga_nb (by omega)) ?_
        refine fl_if_eq hm_185 rfl ⟨by omega, by omega⟩ (fun _ => ?_) (fun h => absurd (by omega) h)
        refine ga_iload_n (z := 0) hm_185 rfl rfl ?_
        refine fl_if_eq hm_185 rfl ⟨by omega, by omega⟩ (fun _ => ?_) (fun h => absurd (by omega) h)
        refine ga_aload_n (v := .ref 344) hm_185 rfl rfl rfl ?_
        have b11_ : 0 ≤ F 344 5 ∧ F 344 5 ≤ 600 := gi_g hgi rfl
        refine gVi (nY := 1) (F := 2) (L := 46) (As := []) (b := 344) (rest := []) hm_185 rfl hm_169 rfl rfl (fl_ob sc_344) rfl rfl rfl rfl rfl (by omega) (by omega) (mc_169 hG F X hgi (K) hgK hrk hkt (by omega)) (fun _ _ h => False.elim h) ?_
        rintro z12_ A1_ (⟨hA_, hz_, c13_⟩ | ⟨hA_, hz_, c14_, c15_⟩)
        ·
          subst hA_
          subst hz_
          refine fl_if_ne hm_185 rfl ⟨by omega, by omega⟩ (fun h => absurd h (by omega)) (fun _ => ?_)
          refine ga_aload_n (v := .ref 344) hm_185 rfl rfl rfl ?_
          refine fl_iconst hm_185 rfl ?_
          refine gVv (nY := 2) (F := 0) (L := 0) (As := [.int (Int32.ofInt 1)]) (b := 344) (rest := []) hm_185 rfl hm_54 rfl rfl (fl_ob sc_344) rfl rfl rfl rfl rfl (by omega) (by omega) (mc_54 hG F X hgi (K) (1) hgK hrk hkt (by omega) (by omega)) (fun _ _ h => False.elim h) ?_
          have b17_ : 0 ≤ F 344 10 ∧ F 344 10 ≤ 600 := gi_g hgi rfl
          rintro A1_ ⟨F21_, hA_, g22_, s23_, c18_, c19_, c20_⟩
          subst hA_
          have g24_ : fs [(344, 344, 5, 5), (344, 344, 9, 10)] F F21_ := fs_tr fs_refl s23_ rfl
          have rk25_ : rk K F21_ := rk_fs hrk s23_ (fun r k h => (fs_n (by omega) rfl)) (fs_n (by omega) rfl)
          refine ga_aload_n (v := .ref 344) hm_185 rfl rfl rfl ?_
          refine gIi (nY := 1) (F := 0) (L := 0) (As := []) (b := 344) (rest := []) hm_185 rfl hm_59 rfl rfl (fl_ob sc_344) rfl rfl rfl rfl rfl (by omega) (by omega) ?_
          intro f26_ l27_ h28_ h29_
          show fl_R xi_ms 59 f26_ l27_ 0 [(0, .ref 344)] [] _ _
          refine ga_aload_n (v := .ref 344) hm_59 rfl rfl rfl ?_
          have b30_ : 0 ≤ F21_ 344 9 ∧ F21_ 344 9 ≤ 5 := gi_g g22_ rfl
          refine ga_geti (z := F21_ 344 9) hm_59 rfl sc_344 rfl (rfl) ?_
          refine fl_if_le (a := F21_ 344 9) hm_59 rfl ⟨by omega, by omega⟩ (fun h31_ => ?_) (fun h32_ => ?_)
          · exfalso; omega
          refine fl_iconst hm_59 rfl ?_
          refine fl_goto hm_59 rfl ?_
          refine gr_i hm_59 rfl rfl (ga_nb (by omega)) ?_
          refine fl_if_eq hm_185 rfl ⟨by omega, by omega⟩ (fun h => absurd h (by omega)) (fun _ => ?_)
          refine fl_iconst hm_185 rfl ?_
          refine gr_i (z := 0) hm_185 rfl rfl rfl ?_
          have e33_ : F21_ 344 5 = F 344 5 := (s23_ 344 5 rfl).trans (rfl)
          have b34_ : 0 ≤ F21_ 344 10 ∧ F21_ 344 10 ≤ 600 := gi_g g22_ rfl
          exact Or.inl ⟨F21_, rfl, g22_, g24_, (by omega), (⟨by intro h0_; have hs_ := c19_.1 (by omega); rw [sp_term, if_neg (by rw [hT.1]; exact fun h8_ => c13_ ⟨by omega, h8_⟩)]; show Sum.inl (1, K 4 _) = _; congr 2 <;> omega, fun h0_ => by exfalso; omega⟩), (by omega), (by omega)⟩
        subst hA_
        subst hz_
        refine fl_if_ne hm_185 rfl ⟨by omega, by omega⟩ (fun _ => ?_) (fun h => absurd (by omega) h)
        refine ga_aload_n (v := .ref 344) hm_185 rfl rfl rfl ?_
        refine gIi (nY := 1) (F := 0) (L := 0) (As := []) (b := 344) (rest := []) hm_185 rfl hm_59 rfl rfl (fl_ob sc_344) rfl rfl rfl rfl rfl (by omega) (by omega) ?_
        intro f35_ l36_ h37_ h38_
        show fl_R xi_ms 59 f35_ l36_ 0 [(0, .ref 344)] [] _ _
        refine ga_aload_n (v := .ref 344) hm_59 rfl rfl rfl ?_
        refine ga_geti (z := F 344 9) hm_59 rfl sc_344 rfl (rfl) ?_
        refine fl_if_le (a := F 344 9) hm_59 rfl ⟨by omega, by omega⟩ (fun h39_ => ?_) (fun h40_ => ?_)
        ·
          refine fl_iconst hm_59 rfl ?_
          refine gr_i hm_59 rfl rfl (ga_nb (by omega)) ?_
          refine fl_if_eq hm_185 rfl ⟨by omega, by omega⟩ (fun _ => ?_) (fun h => absurd (by omega) h)
          refine ga_iload_n (z := 0) hm_185 rfl rfl ?_
          refine fl_if_eq hm_185 rfl ⟨by omega, by omega⟩ (fun _ => ?_) (fun h => absurd (by omega) h)
          refine ga_aload_n (v := .ref 344) hm_185 rfl rfl rfl ?_
          refine ga_getr (b := 356) hm_185 rfl sc_344 rfl ?_
          refine fl_iconst hm_185 rfl ?_
          refine ga_iload_n (z := a) hm_185 rfl rfl ?_
          refine ga_imul (a := 3) (b := a) (c := 3 * a) hm_185 rfl (by omega) ?_
          refine ga_aload_n (v := .ref 344) hm_185 rfl rfl rfl ?_
          refine ga_getr (b := 354) hm_185 rfl sc_344 rfl ?_
          refine ga_iload_n (z := a) hm_185 rfl rfl ?_
          have b41_ : 0 ≤ F 354 a.toNat ∧ F 354 a.toNat ≤ 3 := gi_g hgi rfl
          refine ga_iald (z := a) (w := F 354 a.toNat) hm_185 rfl sc_354 (by omega) (by omega) (by omega) (rfl) ?_
          refine ga_aload_n (v := .ref 344) hm_185 rfl rfl rfl ?_
          refine fl_iconst hm_185 rfl ?_
          refine gVl (nY := 7) (F := 1) (L := 20) (As := [.int (Int32.ofInt 1)]) (b := 344) (rest := [.int (Int32.ofInt (F 354 a.toNat)), .int (Int32.ofInt (3 * a)), .ref 356]) hm_185 rfl hm_60 rfl rfl (fl_ob sc_344) rfl rfl rfl rfl rfl (by omega) (by omega) (mc_60 hG F X hgi (K) (1) hgK hrk hkt (by omega) (by omega)) (fun _ _ h => False.elim h) ?_
          rintro z42_ A1_ ⟨hA_, c43_, c44_⟩
          subst hA_
          refine gSi (nY := 7) (F := 0) (L := 0) (As := [.ref 356, .int (Int32.ofInt (3 * a)), .int (Int32.ofInt (F 354 a.toNat)), .long (Int64.ofInt z42_)]) (rest := []) hm_185 rfl hm_162 rfl rfl (fl_pos sc_0) rfl rfl rfl rfl (by omega) (by omega) (mc_162 hG F X hgi (356) (15) (3 * a) (F 354 a.toNat) (z42_) sc_356 (fun _ => rfl) (by omega) (by omega))  ?_
          rintro z45_ A1_ ⟨hA_, c46_, c47_, c48_⟩
          subst hA_
          refine ga_istore (lv2 := [(4, .int (Int32.ofInt z45_)), (3, .int (Int32.ofInt 0)), (0, .ref 344), (1, .int (Int32.ofInt a)), (2, .int (Int32.ofInt wn))]) hm_185 rfl (Nat.le_of_ble_eq_true rfl) rfl ?_
          refine ga_iload (z := z45_) hm_185 rfl rfl ?_
          refine fl_iconst hm_185 rfl ?_
          refine fx_icmp_ne (a := z45_) (b := -1) hm_185 rfl ⟨by omega, by omega⟩ ⟨by omega, by omega⟩ (fun h49_ => ?_) (fun h50_ => ?_)
          ·
            refine ga_aload_n (v := .ref 344) hm_185 rfl rfl rfl ?_
            refine gIi (nY := 1) (F := 0) (L := 0) (As := []) (b := 344) (rest := []) hm_185 rfl hm_59 rfl rfl (fl_ob sc_344) rfl rfl rfl rfl rfl (by omega) (by omega) ?_
            intro f51_ l52_ h53_ h54_
            show fl_R xi_ms 59 f51_ l52_ 0 [(0, .ref 344)] [] _ _
            refine ga_aload_n (v := .ref 344) hm_59 rfl rfl rfl ?_
            refine ga_geti (z := F 344 9) hm_59 rfl sc_344 rfl (rfl) ?_
            refine fl_if_le (a := F 344 9) hm_59 rfl ⟨by omega, by omega⟩ (fun h55_ => ?_) (fun h56_ => ?_)
            ·
              refine fl_iconst hm_59 rfl ?_
              refine gr_i hm_59 rfl rfl (ga_nb (by omega)) ?_
              refine fl_if_eq hm_185 rfl ⟨by omega, by omega⟩ (fun _ => ?_) (fun h => absurd (by omega) h)
              refine ga_iload_n (z := 0) hm_185 rfl rfl ?_
              refine fl_if_eq hm_185 rfl ⟨by omega, by omega⟩ (fun _ => ?_) (fun h => absurd (by omega) h)
              refine ga_aload_n (v := .ref 344) hm_185 rfl rfl rfl ?_
              refine ga_getr (b := 355) hm_185 rfl sc_344 rfl ?_
              refine fl_iconst hm_185 rfl ?_
              refine ga_iload_n (z := a) hm_185 rfl rfl ?_
              refine ga_imul (a := 3) (b := a) (c := 3 * a) hm_185 rfl (by omega) ?_
              refine ga_iload (z := z45_) hm_185 rfl rfl ?_
              refine ga_iadd (a := 3 * a) (b := z45_) (c := 3 * a + z45_) hm_185 rfl (by omega) ?_
              have b57_ : 0 ≤ F 355 (3 * a + z45_).toNat ∧ F 355 (3 * a + z45_).toNat ≤ 4 := gi_g hgi rfl
              refine ga_iald (z := 3 * a + z45_) (w := F 355 (3 * a + z45_).toNat) hm_185 rfl sc_355 (by omega) (by omega) (by omega) (rfl) ?_
              refine ga_istore (lv2 := [(5, .int (Int32.ofInt (F 355 (3 * a + z45_).toNat))), (4, .int (Int32.ofInt z45_)), (3, .int (Int32.ofInt 0)), (0, .ref 344), (1, .int (Int32.ofInt a)), (2, .int (Int32.ofInt wn))]) hm_185 rfl (Nat.le_of_ble_eq_true rfl) rfl ?_
              have hty : F 355 (3 * a + z45_).toNat = tl.getD (z45_).toNat 0 + 1 := by have h := rty_get hT.2.2 (j := (z45_).toNat) (by omega); rwa [show (3 * a).toNat + (z45_).toNat = (3 * a + z45_).toNat by omega] at h
              refine ga_iload_n (z := wn) hm_185 rfl rfl ?_
              refine fl_if_le (a := wn) hm_185 rfl ⟨by omega, by omega⟩ (fun h58_ => ?_) (fun h59_ => ?_)
              ·
                refine ga_aload_n (v := .ref 344) hm_185 rfl rfl rfl ?_
                refine gIv (nY := 1) (F := 1) (L := 20) (As := []) (b := 344) (rest := []) hm_185 rfl hm_61 rfl rfl (fl_ob sc_344) rfl rfl rfl rfl rfl (by omega) (by omega) ?_
                intro f60_ l61_ h62_ h63_
                show fl_R xi_ms 61 f60_ l61_ 0 [(0, .ref 344)] [] _ _
                refine ga_aload_n (v := .ref 344) hm_61 rfl rfl rfl ?_
                refine ga_dup hm_61 rfl rfl ?_
                refine ga_geti (z := F 344 5) hm_61 rfl sc_344 rfl (rfl) ?_
                refine ga_aload_n (v := .ref 344) hm_61 rfl rfl rfl ?_
                refine gIi (nY := 1) (F := 0) (L := 0) (As := []) (b := 344) (rest := [.int (Int32.ofInt (F 344 5)), .ref 344]) hm_61 rfl hm_59 rfl rfl (fl_ob sc_344) rfl rfl rfl rfl rfl (by omega) (by omega) ?_
                intro f64_ l65_ h66_ h67_
                show fl_R xi_ms 59 f64_ l65_ 0 [(0, .ref 344)] [] _ _
                refine ga_aload_n (v := .ref 344) hm_59 rfl rfl rfl ?_
                refine ga_geti (z := F 344 9) hm_59 rfl sc_344 rfl (rfl) ?_
                refine fl_if_le (a := F 344 9) hm_59 rfl ⟨by omega, by omega⟩ (fun h68_ => ?_) (fun h69_ => ?_)
                ·
                  refine fl_iconst hm_59 rfl ?_
                  refine gr_i hm_59 rfl rfl (ga_nb (by omega)) ?_
                  refine fl_if_eq hm_61 rfl ⟨by omega, by omega⟩ (fun _ => ?_) (fun h => absurd (by omega) h)
                  refine fl_iconst hm_61 rfl ?_
                  refine ga_iadd (a := F 344 5) (b := 1) (c := F 344 5 + 1) hm_61 rfl (by omega) ?_
                  refine ga_puti (z := F 344 5 + 1) hm_61 rfl sc_344 rfl rfl ?_
                  refine gr_v hm_61 rfl rfl ?_
                  refine ga_iload (z := z45_) hm_185 rfl rfl ?_
                  obtain ⟨F70_, q71_⟩ : ∃ F9_, F9_ = (fl_u F 344 5 (F 344 5 + 1)) := ⟨_, rfl⟩
                  rw [← q71_]
                  have g72_ : gi F70_ := by rw [q71_]; exact gi_u (hgi) rfl (by omega) (by omega)
                  have g73_ : fs [(344, 344, 5, 5), (344, 344, 9, 10)] F F70_ := by rw [q71_]; exact fs_u (fs_refl) rfl
                  have rk74_ : rk K F70_ := by rw [q71_]; exact rk_u (hrk) (by omega) (by omega)
                  refine gr_i (z := z45_) hm_185 rfl rfl rfl ?_
                  have e75_ : F70_ 344 9 = F 344 9 := by rw [q71_]; exact fl_u_ne (by omega)
                  have e76_ : F70_ 344 10 = F 344 10 := by rw [q71_]; exact fl_u_ne (by omega)
                  have e77_ : F70_ 344 5 = F 344 5 + 1 := by rw [q71_]; exact fl_u_eq
                  exact Or.inr (⟨F70_, rfl, g72_, g73_, (by omega), (by rw [sp_term, if_pos (by rw [hT.1]; exact c14_.2), (ra_fa hT.2.1 (show nrel (K 6 (F 344 5).toNat) z42_ by rw [c43_, if_pos (by omega)]; exact (hvr.1 c14_.2).2) c46_ c47_ c48_ rfl), if_neg (by omega), if_pos (by omega), sk, if_pos (by omega)]; congr 1; omega), (by omega), (by omega)⟩)
                exfalso; omega
              refine ga_iload (z := F 355 (3 * a + z45_).toNat) hm_185 rfl rfl ?_
              refine ga_iload_n (z := wn) hm_185 rfl rfl ?_
              refine fl_icmp_eq (a := F 355 (3 * a + z45_).toNat) (b := wn) hm_185 rfl ⟨by omega, by omega⟩ ⟨by omega, by omega⟩ (fun h78_ => ?_) (fun h79_ => ?_)
              ·
                refine ga_aload_n (v := .ref 344) hm_185 rfl rfl rfl ?_
                refine gIv (nY := 1) (F := 1) (L := 20) (As := []) (b := 344) (rest := []) hm_185 rfl hm_61 rfl rfl (fl_ob sc_344) rfl rfl rfl rfl rfl (by omega) (by omega) ?_
                intro f80_ l81_ h82_ h83_
                show fl_R xi_ms 61 f80_ l81_ 0 [(0, .ref 344)] [] _ _
                refine ga_aload_n (v := .ref 344) hm_61 rfl rfl rfl ?_
                refine ga_dup hm_61 rfl rfl ?_
                refine ga_geti (z := F 344 5) hm_61 rfl sc_344 rfl (rfl) ?_
                refine ga_aload_n (v := .ref 344) hm_61 rfl rfl rfl ?_
                refine gIi (nY := 1) (F := 0) (L := 0) (As := []) (b := 344) (rest := [.int (Int32.ofInt (F 344 5)), .ref 344]) hm_61 rfl hm_59 rfl rfl (fl_ob sc_344) rfl rfl rfl rfl rfl (by omega) (by omega) ?_
                intro f84_ l85_ h86_ h87_
                show fl_R xi_ms 59 f84_ l85_ 0 [(0, .ref 344)] [] _ _
                refine ga_aload_n (v := .ref 344) hm_59 rfl rfl rfl ?_
                refine ga_geti (z := F 344 9) hm_59 rfl sc_344 rfl (rfl) ?_
                refine fl_if_le (a := F 344 9) hm_59 rfl ⟨by omega, by omega⟩ (fun h88_ => ?_) (fun h89_ => ?_)
                ·
                  refine fl_iconst hm_59 rfl ?_
                  refine gr_i hm_59 rfl rfl (ga_nb (by omega)) ?_
                  refine fl_if_eq hm_61 rfl ⟨by omega, by omega⟩ (fun _ => ?_) (fun h => absurd (by omega) h)
                  refine fl_iconst hm_61 rfl ?_
                  refine ga_iadd (a := F 344 5) (b := 1) (c := F 344 5 + 1) hm_61 rfl (by omega) ?_
                  refine ga_puti (z := F 344 5 + 1) hm_61 rfl sc_344 rfl rfl ?_
                  refine gr_v hm_61 rfl rfl ?_
                  refine ga_iload (z := z45_) hm_185 rfl rfl ?_
                  obtain ⟨F90_, q91_⟩ : ∃ F9_, F9_ = (fl_u F 344 5 (F 344 5 + 1)) := ⟨_, rfl⟩
                  rw [← q91_]
                  have g92_ : gi F90_ := by rw [q91_]; exact gi_u (hgi) rfl (by omega) (by omega)
                  have g93_ : fs [(344, 344, 5, 5), (344, 344, 9, 10)] F F90_ := by rw [q91_]; exact fs_u (fs_refl) rfl
                  have rk94_ : rk K F90_ := by rw [q91_]; exact rk_u (hrk) (by omega) (by omega)
                  refine gr_i (z := z45_) hm_185 rfl rfl rfl ?_
                  have e95_ : F90_ 344 9 = F 344 9 := by rw [q91_]; exact fl_u_ne (by omega)
                  have e96_ : F90_ 344 10 = F 344 10 := by rw [q91_]; exact fl_u_ne (by omega)
                  have e97_ : F90_ 344 5 = F 344 5 + 1 := by rw [q91_]; exact fl_u_eq
                  exact Or.inr (⟨F90_, rfl, g92_, g93_, (by omega), (by rw [sp_term, if_pos (by rw [hT.1]; exact c14_.2), (ra_fa hT.2.1 (show nrel (K 6 (F 344 5).toNat) z42_ by rw [c43_, if_pos (by omega)]; exact (hvr.1 c14_.2).2) c46_ c47_ c48_ rfl), if_neg (by omega), if_pos (by omega), sk, if_pos (by omega)]; congr 1; omega), (by omega), (by omega)⟩)
                exfalso; omega
              refine ga_aload_n (v := .ref 344) hm_185 rfl rfl rfl ?_
              refine fl_iconst hm_185 rfl ?_
              refine gVv (nY := 2) (F := 0) (L := 0) (As := [.int (Int32.ofInt 4)]) (b := 344) (rest := []) hm_185 rfl hm_54 rfl rfl (fl_ob sc_344) rfl rfl rfl rfl rfl (by omega) (by omega) (mc_54 hG F X hgi (K) (4) hgK hrk hkt (by omega) (by omega)) (fun _ _ h => False.elim h) ?_
              have b99_ : 0 ≤ F 344 10 ∧ F 344 10 ≤ 600 := gi_g hgi rfl
              rintro A1_ ⟨F103_, hA_, g104_, s105_, c100_, c101_, c102_⟩
              subst hA_
              have g106_ : fs [(344, 344, 5, 5), (344, 344, 9, 10)] F F103_ := fs_tr fs_refl s105_ rfl
              have rk107_ : rk K F103_ := rk_fs hrk s105_ (fun r k h => (fs_n (by omega) rfl)) (fs_n (by omega) rfl)
              refine ga_aload_n (v := .ref 344) hm_185 rfl rfl rfl ?_
              refine gIv (nY := 1) (F := 1) (L := 20) (As := []) (b := 344) (rest := []) hm_185 rfl hm_61 rfl rfl (fl_ob sc_344) rfl rfl rfl rfl rfl (by omega) (by omega) ?_
              intro f108_ l109_ h110_ h111_
              show fl_R xi_ms 61 f108_ l109_ 0 [(0, .ref 344)] [] _ _
              refine ga_aload_n (v := .ref 344) hm_61 rfl rfl rfl ?_
              refine ga_dup hm_61 rfl rfl ?_
              have e112_ : F103_ 344 5 = F 344 5 := (s105_ 344 5 rfl).trans (rfl)
              refine ga_geti (z := F 344 5) hm_61 rfl sc_344 rfl (e112_) ?_
              refine ga_aload_n (v := .ref 344) hm_61 rfl rfl rfl ?_
              refine gIi (nY := 1) (F := 0) (L := 0) (As := []) (b := 344) (rest := [.int (Int32.ofInt (F 344 5)), .ref 344]) hm_61 rfl hm_59 rfl rfl (fl_ob sc_344) rfl rfl rfl rfl rfl (by omega) (by omega) ?_
              intro f113_ l114_ h115_ h116_
              show fl_R xi_ms 59 f113_ l114_ 0 [(0, .ref 344)] [] _ _
              refine ga_aload_n (v := .ref 344) hm_59 rfl rfl rfl ?_
              have b117_ : 0 ≤ F103_ 344 9 ∧ F103_ 344 9 ≤ 5 := gi_g g104_ rfl
              refine ga_geti (z := F103_ 344 9) hm_59 rfl sc_344 rfl (rfl) ?_
              refine fl_if_le (a := F103_ 344 9) hm_59 rfl ⟨by omega, by omega⟩ (fun h118_ => ?_) (fun h119_ => ?_)
              · exfalso; omega
              refine fl_iconst hm_59 rfl ?_
              refine fl_goto hm_59 rfl ?_
              refine gr_i hm_59 rfl rfl (ga_nb (by omega)) ?_
              refine fl_if_eq hm_61 rfl ⟨by omega, by omega⟩ (fun h => absurd h (by omega)) (fun _ => ?_)
              refine fl_iconst hm_61 rfl ?_
              refine fl_goto hm_61 rfl ?_
              refine ga_iadd (a := F 344 5) (b := 0) (c := F 344 5) hm_61 rfl (by omega) ?_
              refine ga_puti (z := F 344 5) hm_61 rfl sc_344 rfl rfl ?_
              refine gr_v hm_61 rfl rfl ?_
              refine ga_iload (z := z45_) hm_185 rfl rfl ?_
              obtain ⟨F120_, q121_⟩ : ∃ F9_, F9_ = (fl_u F103_ 344 5 (F 344 5)) := ⟨_, rfl⟩
              rw [← q121_]
              have g122_ : gi F120_ := by rw [q121_]; exact gi_u (g104_) rfl (by omega) (by omega)
              have g123_ : fs [(344, 344, 5, 5), (344, 344, 9, 10)] F F120_ := by rw [q121_]; exact fs_u (g106_) rfl
              have rk124_ : rk K F120_ := by rw [q121_]; exact rk_u (rk107_) (by omega) (by omega)
              refine gr_i (z := z45_) hm_185 rfl rfl rfl ?_
              have e125_ : F120_ 344 9 = F103_ 344 9 := by rw [q121_]; exact fl_u_ne (by omega)
              have e126_ : F120_ 344 10 = F103_ 344 10 := by rw [q121_]; exact fl_u_ne (by omega)
              have e127_ : F120_ 344 5 = F 344 5 := by rw [q121_]; exact fl_u_eq
              have b128_ : 0 ≤ F103_ 344 10 ∧ F103_ 344 10 ≤ 600 := gi_g g104_ rfl
              exact Or.inl ⟨F120_, rfl, g122_, g123_, (by omega), (⟨by intro h0_; have hs_ := c101_.1 (by omega); rw [sp_term, if_pos (by rw [hT.1]; exact c14_.2), (ra_fa hT.2.1 (show nrel (K 6 (F 344 5).toNat) z42_ by rw [c43_, if_pos (by omega)]; exact (hvr.1 c14_.2).2) c46_ c47_ c48_ rfl), if_neg (by omega), if_neg (by omega)]; show Sum.inl (4, K 4 _) = _; congr 2 <;> omega, fun h0_ => by exfalso; omega⟩), (by omega), (by omega)⟩
            exfalso; omega
          refine ga_aload_n (v := .ref 344) hm_185 rfl rfl rfl ?_
          refine fl_iconst hm_185 rfl ?_
          refine gVv (nY := 2) (F := 0) (L := 0) (As := [.int (Int32.ofInt 3)]) (b := 344) (rest := []) hm_185 rfl hm_54 rfl rfl (fl_ob sc_344) rfl rfl rfl rfl rfl (by omega) (by omega) (mc_54 hG F X hgi (K) (3) hgK hrk hkt (by omega) (by omega)) (fun _ _ h => False.elim h) ?_
          have b130_ : 0 ≤ F 344 10 ∧ F 344 10 ≤ 600 := gi_g hgi rfl
          rintro A1_ ⟨F134_, hA_, g135_, s136_, c131_, c132_, c133_⟩
          subst hA_
          have g137_ : fs [(344, 344, 5, 5), (344, 344, 9, 10)] F F134_ := fs_tr fs_refl s136_ rfl
          have rk138_ : rk K F134_ := rk_fs hrk s136_ (fun r k h => (fs_n (by omega) rfl)) (fs_n (by omega) rfl)
          refine ga_aload_n (v := .ref 344) hm_185 rfl rfl rfl ?_
          refine gIi (nY := 1) (F := 0) (L := 0) (As := []) (b := 344) (rest := []) hm_185 rfl hm_59 rfl rfl (fl_ob sc_344) rfl rfl rfl rfl rfl (by omega) (by omega) ?_
          intro f139_ l140_ h141_ h142_
          show fl_R xi_ms 59 f139_ l140_ 0 [(0, .ref 344)] [] _ _
          refine ga_aload_n (v := .ref 344) hm_59 rfl rfl rfl ?_
          have b143_ : 0 ≤ F134_ 344 9 ∧ F134_ 344 9 ≤ 5 := gi_g g135_ rfl
          refine ga_geti (z := F134_ 344 9) hm_59 rfl sc_344 rfl (rfl) ?_
          refine fl_if_le (a := F134_ 344 9) hm_59 rfl ⟨by omega, by omega⟩ (fun h144_ => ?_) (fun h145_ => ?_)
          · exfalso; omega
          refine fl_iconst hm_59 rfl ?_
          refine fl_goto hm_59 rfl ?_
          refine gr_i hm_59 rfl rfl (ga_nb (by omega)) ?_
          refine fl_if_eq hm_185 rfl ⟨by omega, by omega⟩ (fun h => absurd h (by omega)) (fun _ => ?_)
          refine fl_iconst hm_185 rfl ?_
          refine gr_i (z := 0) hm_185 rfl rfl rfl ?_
          have e146_ : F134_ 344 5 = F 344 5 := (s136_ 344 5 rfl).trans (rfl)
          have b147_ : 0 ≤ F134_ 344 10 ∧ F134_ 344 10 ≤ 600 := gi_g g135_ rfl
          exact Or.inl ⟨F134_, rfl, g135_, g137_, (by omega), (⟨by intro h0_; have hs_ := c132_.1 (by omega); rw [sp_term, if_pos (by rw [hT.1]; exact c14_.2), (ra_fa hT.2.1 (show nrel (K 6 (F 344 5).toNat) z42_ by rw [c43_, if_pos (by omega)]; exact (hvr.1 c14_.2).2) c46_ c47_ c48_ rfl), if_pos (by omega)]; show Sum.inl (3, K 4 _) = _; congr 2 <;> omega, fun h0_ => by exfalso; omega⟩), (by omega), (by omega)⟩
        exfalso; omega
      exfalso; omega
    refine ga_aload_n (v := .ref 344) hm_185 rfl rfl rfl ?_
    refine gIi (nY := 1) (F := 0) (L := 0) (As := []) (b := 344) (rest := []) hm_185 rfl hm_59 rfl rfl (fl_ob sc_344) rfl rfl rfl rfl rfl (by omega) (by omega) ?_
    intro f148_ l149_ h150_ h151_
    show fl_R xi_ms 59 f148_ l149_ 0 [(0, .ref 344)] [] _ _
    refine ga_aload_n (v := .ref 344) hm_59 rfl rfl rfl ?_
    refine ga_geti (z := F 344 9) hm_59 rfl sc_344 rfl (rfl) ?_
    refine fl_if_le (a := F 344 9) hm_59 rfl ⟨by omega, by omega⟩ (fun h152_ => ?_) (fun h153_ => ?_)
    · exfalso; omega
    refine fl_iconst hm_59 rfl ?_
    refine fl_goto hm_59 rfl ?_
    refine gr_i hm_59 rfl rfl (ga_nb (by omega)) ?_
    refine fl_if_eq hm_185 rfl ⟨by omega, by omega⟩ (fun h => absurd h (by omega)) (fun _ => ?_)
    refine fl_iconst hm_185 rfl ?_
    refine gr_i (z := 0) hm_185 rfl rfl rfl ?_
    have b154_ : 0 ≤ F 344 10 ∧ F 344 10 ≤ 600 := gi_g hgi rfl
    have b155_ : 0 ≤ F 344 5 ∧ F 344 5 ≤ 600 := gi_g hgi rfl
    exact Or.inl ⟨F, rfl, hgi, fs_refl, (by omega), (⟨fun h0_ => by exfalso; omega, fun h0_ => by constructor <;> omega⟩), (by omega), (by omega)⟩
  have hT : k = 2 ∧ rpn (F 364) (F 344 33) l ∧ rty (F 365) 0 tl := by rcases ht with h | h; exact h.2; omega
  have hT1 := hT.2.1.1
  have hnm := tk_name hkt hgK hp.1 hp.2
  refine fl_iconst hm_185 rfl ?_
  refine fl_goto hm_185 rfl ?_
  refine ga_istore_n (lv2 := [(3, .int (Int32.ofInt 1)), (0, .ref 344), (1, .int (Int32.ofInt a)), (2, .int (Int32.ofInt wn))]) hm_185 rfl (Nat.le_of_ble_eq_true rfl) rfl ?_
  have b156_ : 0 ≤ F 344 9 ∧ F 344 9 ≤ 5 := gi_g hgi rfl
  by_cases h157_ : F 344 9 = 0
  ·
    refine ga_aload_n (v := .ref 344) hm_185 rfl rfl rfl ?_
    refine gIi (nY := 1) (F := 0) (L := 0) (As := []) (b := 344) (rest := []) hm_185 rfl hm_59 rfl rfl (fl_ob sc_344) rfl rfl rfl rfl rfl (by omega) (by omega) ?_
    intro f158_ l159_ h160_ h161_
    show fl_R xi_ms 59 f158_ l159_ 0 [(0, .ref 344)] [] _ _
    refine ga_aload_n (v := .ref 344) hm_59 rfl rfl rfl ?_
    refine ga_geti (z := F 344 9) hm_59 rfl sc_344 rfl (rfl) ?_
    refine fl_if_le (a := F 344 9) hm_59 rfl ⟨by omega, by omega⟩ (fun h162_ => ?_) (fun h163_ => ?_)
    ·
      refine fl_iconst hm_59 rfl ?_
      refine gr_i hm_59 rfl rfl (ga_nb (by omega)) ?_
      refine fl_if_eq hm_185 rfl ⟨by omega, by omega⟩ (fun _ => ?_) (fun h => absurd (by omega) h)
      refine ga_iload_n (z := 1) hm_185 rfl rfl ?_
      refine fl_if_eq hm_185 rfl ⟨by omega, by omega⟩ (fun h => absurd h (by omega)) (fun _ => ?_)
      refine ga_aload_n (v := .ref 344) hm_185 rfl rfl rfl ?_
      refine fl_iconst hm_185 rfl ?_
      have b164_ : 0 ≤ F 344 5 ∧ F 344 5 ≤ 600 := gi_g hgi rfl
      refine gVl (nY := 7) (F := 1) (L := 20) (As := [.int (Int32.ofInt 0)]) (b := 344) (rest := []) hm_185 rfl hm_60 rfl rfl (fl_ob sc_344) rfl rfl rfl rfl rfl (by omega) (by omega) (mc_60 hG F X hgi (K) (0) hgK hrk hkt (by omega) (by omega)) (fun _ _ h => False.elim h) ?_
      rintro z165_ A1_ ⟨hA_, c166_, c167_⟩
      subst hA_
      refine ga_lconst (z := 0) hm_185 rfl rfl ?_
      refine ga_lcmpn (a := z165_) (b := 0) hm_185 rfl rfl ⟨by omega, by omega⟩ ⟨by omega, by omega⟩ (fun h168_ => ?_) (fun h169_ => ?_)
      ·
        refine ga_aload_n (v := .ref 344) hm_185 rfl rfl rfl ?_
        refine gIi (nY := 1) (F := 0) (L := 0) (As := []) (b := 344) (rest := []) hm_185 rfl hm_59 rfl rfl (fl_ob sc_344) rfl rfl rfl rfl rfl (by omega) (by omega) ?_
        intro f170_ l171_ h172_ h173_
        show fl_R xi_ms 59 f170_ l171_ 0 [(0, .ref 344)] [] _ _
        refine ga_aload_n (v := .ref 344) hm_59 rfl rfl rfl ?_
        refine ga_geti (z := F 344 9) hm_59 rfl sc_344 rfl (rfl) ?_
        refine fl_if_le (a := F 344 9) hm_59 rfl ⟨by omega, by omega⟩ (fun h174_ => ?_) (fun h175_ => ?_)
        ·
          refine fl_iconst hm_59 rfl ?_
          refine gr_i hm_59 rfl rfl (ga_nb (by omega)) ?_
          refine fl_if_eq hm_185 rfl ⟨by omega, by omega⟩ (fun _ => ?_) (fun h => absurd (by omega) h)
          refine ga_iload_n (z := 1) hm_185 rfl rfl ?_
          refine fl_if_eq hm_185 rfl ⟨by omega, by omega⟩ (fun h => absurd h (by omega)) (fun _ => ?_)
          have hK2 := nn_k hnm.2 (show z165_ = nmr (K 2) (K 4 (F 344 5).toNat) (K 5 (F 344 5).toNat) by rw [c166_, if_pos (by omega), Int.add_zero]) (by assumption)
          refine ga_aload_n (v := .ref 344) hm_185 rfl rfl rfl ?_
          refine ga_getr (b := 364) hm_185 rfl sc_344 rfl ?_
          refine fl_iconst hm_185 rfl ?_
          refine ga_aload_n (v := .ref 344) hm_185 rfl rfl rfl ?_
          have b176_ : 0 ≤ F 344 33 ∧ F 344 33 ≤ 6 := gi_g hgi rfl
          refine ga_geti (z := F 344 33) hm_185 rfl sc_344 rfl (rfl) ?_
          refine ga_aload_n (v := .ref 344) hm_185 rfl rfl rfl ?_
          refine fl_iconst hm_185 rfl ?_
          refine gVl (nY := 7) (F := 1) (L := 20) (As := [.int (Int32.ofInt 0)]) (b := 344) (rest := [.int (Int32.ofInt (F 344 33)), .int (Int32.ofInt 0), .ref 364]) hm_185 rfl hm_60 rfl rfl (fl_ob sc_344) rfl rfl rfl rfl rfl (by omega) (by omega) (mc_60 hG F X hgi (K) (0) hgK hrk hkt (by omega) (by omega)) (fun _ _ h => False.elim h) ?_
          rintro z177_ A1_ ⟨hA_, c178_, c179_⟩
          subst hA_
          refine gSi (nY := 7) (F := 0) (L := 0) (As := [.ref 364, .int (Int32.ofInt 0), .int (Int32.ofInt (F 344 33)), .long (Int64.ofInt z177_)]) (rest := []) hm_185 rfl hm_162 rfl rfl (fl_pos sc_0) rfl rfl rfl rfl (by omega) (by omega) (mc_162 hG F X hgi (364) (6) (0) (F 344 33) (z177_) sc_364 (fun _ => rfl) (by omega) (by omega))  ?_
          rintro z180_ A1_ ⟨hA_, c181_, c182_, c183_⟩
          subst hA_
          refine fl_goto hm_185 rfl ?_
          refine ga_istore (lv2 := [(4, .int (Int32.ofInt z180_)), (3, .int (Int32.ofInt 1)), (0, .ref 344), (1, .int (Int32.ofInt a)), (2, .int (Int32.ofInt wn))]) hm_185 rfl (Nat.le_of_ble_eq_true rfl) rfl ?_
          refine ga_iload (z := z180_) hm_185 rfl rfl ?_
          refine fl_iconst hm_185 rfl ?_
          refine fx_icmp_ne (a := z180_) (b := -1) hm_185 rfl ⟨by omega, by omega⟩ ⟨by omega, by omega⟩ (fun h184_ => ?_) (fun h185_ => ?_)
          ·
            refine ga_aload_n (v := .ref 344) hm_185 rfl rfl rfl ?_
            refine gIi (nY := 1) (F := 0) (L := 0) (As := []) (b := 344) (rest := []) hm_185 rfl hm_59 rfl rfl (fl_ob sc_344) rfl rfl rfl rfl rfl (by omega) (by omega) ?_
            intro f186_ l187_ h188_ h189_
            show fl_R xi_ms 59 f186_ l187_ 0 [(0, .ref 344)] [] _ _
            refine ga_aload_n (v := .ref 344) hm_59 rfl rfl rfl ?_
            refine ga_geti (z := F 344 9) hm_59 rfl sc_344 rfl (rfl) ?_
            refine fl_if_le (a := F 344 9) hm_59 rfl ⟨by omega, by omega⟩ (fun h190_ => ?_) (fun h191_ => ?_)
            ·
              refine fl_iconst hm_59 rfl ?_
              refine gr_i hm_59 rfl rfl (ga_nb (by omega)) ?_
              refine fl_if_eq hm_185 rfl ⟨by omega, by omega⟩ (fun _ => ?_) (fun h => absurd (by omega) h)
              refine ga_iload_n (z := 1) hm_185 rfl rfl ?_
              refine fl_if_eq hm_185 rfl ⟨by omega, by omega⟩ (fun h => absurd h (by omega)) (fun _ => ?_)
              refine ga_aload_n (v := .ref 344) hm_185 rfl rfl rfl ?_
              refine ga_getr (b := 365) hm_185 rfl sc_344 rfl ?_
              refine ga_iload (z := z180_) hm_185 rfl rfl ?_
              have b192_ : 0 ≤ F 365 z180_.toNat ∧ F 365 z180_.toNat ≤ 4 := gi_g hgi rfl
              refine ga_iald (z := z180_) (w := F 365 z180_.toNat) hm_185 rfl sc_365 (by omega) (by omega) (by omega) (rfl) ?_
              refine fl_goto hm_185 rfl ?_
              refine ga_istore (lv2 := [(5, .int (Int32.ofInt (F 365 z180_.toNat))), (4, .int (Int32.ofInt z180_)), (3, .int (Int32.ofInt 1)), (0, .ref 344), (1, .int (Int32.ofInt a)), (2, .int (Int32.ofInt wn))]) hm_185 rfl (Nat.le_of_ble_eq_true rfl) rfl ?_
              have hty : F 365 (z180_).toNat = tl.getD (z180_).toNat 0 + 1 := by have h := rty_get hT.2.2 (j := (z180_).toNat) (by omega); rwa [Nat.zero_add] at h
              refine ga_iload_n (z := wn) hm_185 rfl rfl ?_
              refine fl_if_le (a := wn) hm_185 rfl ⟨by omega, by omega⟩ (fun h193_ => ?_) (fun h194_ => ?_)
              ·
                refine ga_aload_n (v := .ref 344) hm_185 rfl rfl rfl ?_
                refine gIv (nY := 1) (F := 1) (L := 20) (As := []) (b := 344) (rest := []) hm_185 rfl hm_61 rfl rfl (fl_ob sc_344) rfl rfl rfl rfl rfl (by omega) (by omega) ?_
                intro f195_ l196_ h197_ h198_
                show fl_R xi_ms 61 f195_ l196_ 0 [(0, .ref 344)] [] _ _
                refine ga_aload_n (v := .ref 344) hm_61 rfl rfl rfl ?_
                refine ga_dup hm_61 rfl rfl ?_
                refine ga_geti (z := F 344 5) hm_61 rfl sc_344 rfl (rfl) ?_
                refine ga_aload_n (v := .ref 344) hm_61 rfl rfl rfl ?_
                refine gIi (nY := 1) (F := 0) (L := 0) (As := []) (b := 344) (rest := [.int (Int32.ofInt (F 344 5)), .ref 344]) hm_61 rfl hm_59 rfl rfl (fl_ob sc_344) rfl rfl rfl rfl rfl (by omega) (by omega) ?_
                intro f199_ l200_ h201_ h202_
                show fl_R xi_ms 59 f199_ l200_ 0 [(0, .ref 344)] [] _ _
                refine ga_aload_n (v := .ref 344) hm_59 rfl rfl rfl ?_
                refine ga_geti (z := F 344 9) hm_59 rfl sc_344 rfl (rfl) ?_
                refine fl_if_le (a := F 344 9) hm_59 rfl ⟨by omega, by omega⟩ (fun h203_ => ?_) (fun h204_ => ?_)
                ·
                  refine fl_iconst hm_59 rfl ?_
                  refine gr_i hm_59 rfl rfl (ga_nb (by omega)) ?_
                  refine fl_if_eq hm_61 rfl ⟨by omega, by omega⟩ (fun _ => ?_) (fun h => absurd (by omega) h)
                  refine fl_iconst hm_61 rfl ?_
                  refine ga_iadd (a := F 344 5) (b := 1) (c := F 344 5 + 1) hm_61 rfl (by omega) ?_
                  refine ga_puti (z := F 344 5 + 1) hm_61 rfl sc_344 rfl rfl ?_
                  refine gr_v hm_61 rfl rfl ?_
                  refine ga_iload (z := z180_) hm_185 rfl rfl ?_
                  obtain ⟨F205_, q206_⟩ : ∃ F9_, F9_ = (fl_u F 344 5 (F 344 5 + 1)) := ⟨_, rfl⟩
                  rw [← q206_]
                  have g207_ : gi F205_ := by rw [q206_]; exact gi_u (hgi) rfl (by omega) (by omega)
                  have g208_ : fs [(344, 344, 5, 5), (344, 344, 9, 10)] F F205_ := by rw [q206_]; exact fs_u (fs_refl) rfl
                  have rk209_ : rk K F205_ := by rw [q206_]; exact rk_u (hrk) (by omega) (by omega)
                  refine gr_i (z := z180_) hm_185 rfl rfl rfl ?_
                  have e210_ : F205_ 344 9 = F 344 9 := by rw [q206_]; exact fl_u_ne (by omega)
                  have e211_ : F205_ 344 10 = F 344 10 := by rw [q206_]; exact fl_u_ne (by omega)
                  have e212_ : F205_ 344 5 = F 344 5 + 1 := by rw [q206_]; exact fl_u_eq
                  exact Or.inr (⟨F205_, rfl, g207_, g208_, (by omega), (by rw [sp_term, if_pos (by rw [hT.1]; exact nn_k hnm.2 (show z165_ = nmr (K 2) (K 4 (F 344 5).toNat) (K 5 (F 344 5).toNat) by rw [c166_, if_pos (by omega), Int.add_zero]) (by assumption)), (ra_fi hT.2.1 (nn_r hnm (show z177_ = nmr (K 2) (K 4 (F 344 5).toNat) (K 5 (F 344 5).toNat) by rw [c178_, if_pos (by omega), Int.add_zero]) (by rw [(show z177_ = nmr (K 2) (K 4 (F 344 5).toNat) (K 5 (F 344 5).toNat) by rw [c178_, if_pos (by omega), Int.add_zero]), ← (show z165_ = nmr (K 2) (K 4 (F 344 5).toNat) (K 5 (F 344 5).toNat) by rw [c166_, if_pos (by omega), Int.add_zero])]; assumption)) c181_ c182_ c183_), if_neg (by omega), if_pos (by omega), sk, if_pos (by omega)]; congr 1; omega), (by omega), (by omega)⟩)
                exfalso; omega
              refine ga_iload (z := F 365 z180_.toNat) hm_185 rfl rfl ?_
              refine ga_iload_n (z := wn) hm_185 rfl rfl ?_
              refine fl_icmp_eq (a := F 365 z180_.toNat) (b := wn) hm_185 rfl ⟨by omega, by omega⟩ ⟨by omega, by omega⟩ (fun h213_ => ?_) (fun h214_ => ?_)
              ·
                refine ga_aload_n (v := .ref 344) hm_185 rfl rfl rfl ?_
                refine gIv (nY := 1) (F := 1) (L := 20) (As := []) (b := 344) (rest := []) hm_185 rfl hm_61 rfl rfl (fl_ob sc_344) rfl rfl rfl rfl rfl (by omega) (by omega) ?_
                intro f215_ l216_ h217_ h218_
                show fl_R xi_ms 61 f215_ l216_ 0 [(0, .ref 344)] [] _ _
                refine ga_aload_n (v := .ref 344) hm_61 rfl rfl rfl ?_
                refine ga_dup hm_61 rfl rfl ?_
                refine ga_geti (z := F 344 5) hm_61 rfl sc_344 rfl (rfl) ?_
                refine ga_aload_n (v := .ref 344) hm_61 rfl rfl rfl ?_
                refine gIi (nY := 1) (F := 0) (L := 0) (As := []) (b := 344) (rest := [.int (Int32.ofInt (F 344 5)), .ref 344]) hm_61 rfl hm_59 rfl rfl (fl_ob sc_344) rfl rfl rfl rfl rfl (by omega) (by omega) ?_
                intro f219_ l220_ h221_ h222_
                show fl_R xi_ms 59 f219_ l220_ 0 [(0, .ref 344)] [] _ _
                refine ga_aload_n (v := .ref 344) hm_59 rfl rfl rfl ?_
                refine ga_geti (z := F 344 9) hm_59 rfl sc_344 rfl (rfl) ?_
                refine fl_if_le (a := F 344 9) hm_59 rfl ⟨by omega, by omega⟩ (fun h223_ => ?_) (fun h224_ => ?_)
                ·
                  refine fl_iconst hm_59 rfl ?_
                  refine gr_i hm_59 rfl rfl (ga_nb (by omega)) ?_
                  refine fl_if_eq hm_61 rfl ⟨by omega, by omega⟩ (fun _ => ?_) (fun h => absurd (by omega) h)
                  refine fl_iconst hm_61 rfl ?_
                  refine ga_iadd (a := F 344 5) (b := 1) (c := F 344 5 + 1) hm_61 rfl (by omega) ?_
                  refine ga_puti (z := F 344 5 + 1) hm_61 rfl sc_344 rfl rfl ?_
                  refine gr_v hm_61 rfl rfl ?_
                  refine ga_iload (z := z180_) hm_185 rfl rfl ?_
                  obtain ⟨F225_, q226_⟩ : ∃ F9_, F9_ = (fl_u F 344 5 (F 344 5 + 1)) := ⟨_, rfl⟩
                  rw [← q226_]
                  have g227_ : gi F225_ := by rw [q226_]; exact gi_u (hgi) rfl (by omega) (by omega)
                  have g228_ : fs [(344, 344, 5, 5), (344, 344, 9, 10)] F F225_ := by rw [q226_]; exact fs_u (fs_refl) rfl
                  have rk229_ : rk K F225_ := by rw [q226_]; exact rk_u (hrk) (by omega) (by omega)
                  refine gr_i (z := z180_) hm_185 rfl rfl rfl ?_
                  have e230_ : F225_ 344 9 = F 344 9 := by rw [q226_]; exact fl_u_ne (by omega)
                  have e231_ : F225_ 344 10 = F 344 10 := by rw [q226_]; exact fl_u_ne (by omega)
                  have e232_ : F225_ 344 5 = F 344 5 + 1 := by rw [q226_]; exact fl_u_eq
                  exact Or.inr (⟨F225_, rfl, g227_, g228_, (by omega), (by rw [sp_term, if_pos (by rw [hT.1]; exact nn_k hnm.2 (show z165_ = nmr (K 2) (K 4 (F 344 5).toNat) (K 5 (F 344 5).toNat) by rw [c166_, if_pos (by omega), Int.add_zero]) (by assumption)), (ra_fi hT.2.1 (nn_r hnm (show z177_ = nmr (K 2) (K 4 (F 344 5).toNat) (K 5 (F 344 5).toNat) by rw [c178_, if_pos (by omega), Int.add_zero]) (by rw [(show z177_ = nmr (K 2) (K 4 (F 344 5).toNat) (K 5 (F 344 5).toNat) by rw [c178_, if_pos (by omega), Int.add_zero]), ← (show z165_ = nmr (K 2) (K 4 (F 344 5).toNat) (K 5 (F 344 5).toNat) by rw [c166_, if_pos (by omega), Int.add_zero])]; assumption)) c181_ c182_ c183_), if_neg (by omega), if_pos (by omega), sk, if_pos (by omega)]; congr 1; omega), (by omega), (by omega)⟩)
                exfalso; omega
              refine ga_aload_n (v := .ref 344) hm_185 rfl rfl rfl ?_
              refine fl_iconst hm_185 rfl ?_
              refine gVv (nY := 2) (F := 0) (L := 0) (As := [.int (Int32.ofInt 4)]) (b := 344) (rest := []) hm_185 rfl hm_54 rfl rfl (fl_ob sc_344) rfl rfl rfl rfl rfl (by omega) (by omega) (mc_54 hG F X hgi (K) (4) hgK hrk hkt (by omega) (by omega)) (fun _ _ h => False.elim h) ?_
              have b234_ : 0 ≤ F 344 10 ∧ F 344 10 ≤ 600 := gi_g hgi rfl
              rintro A1_ ⟨F238_, hA_, g239_, s240_, c235_, c236_, c237_⟩
              subst hA_
              have g241_ : fs [(344, 344, 5, 5), (344, 344, 9, 10)] F F238_ := fs_tr fs_refl s240_ rfl
              have rk242_ : rk K F238_ := rk_fs hrk s240_ (fun r k h => (fs_n (by omega) rfl)) (fs_n (by omega) rfl)
              refine ga_aload_n (v := .ref 344) hm_185 rfl rfl rfl ?_
              refine gIv (nY := 1) (F := 1) (L := 20) (As := []) (b := 344) (rest := []) hm_185 rfl hm_61 rfl rfl (fl_ob sc_344) rfl rfl rfl rfl rfl (by omega) (by omega) ?_
              intro f243_ l244_ h245_ h246_
              show fl_R xi_ms 61 f243_ l244_ 0 [(0, .ref 344)] [] _ _
              refine ga_aload_n (v := .ref 344) hm_61 rfl rfl rfl ?_
              refine ga_dup hm_61 rfl rfl ?_
              have e247_ : F238_ 344 5 = F 344 5 := (s240_ 344 5 rfl).trans (rfl)
              refine ga_geti (z := F 344 5) hm_61 rfl sc_344 rfl (e247_) ?_
              refine ga_aload_n (v := .ref 344) hm_61 rfl rfl rfl ?_
              refine gIi (nY := 1) (F := 0) (L := 0) (As := []) (b := 344) (rest := [.int (Int32.ofInt (F 344 5)), .ref 344]) hm_61 rfl hm_59 rfl rfl (fl_ob sc_344) rfl rfl rfl rfl rfl (by omega) (by omega) ?_
              intro f248_ l249_ h250_ h251_
              show fl_R xi_ms 59 f248_ l249_ 0 [(0, .ref 344)] [] _ _
              refine ga_aload_n (v := .ref 344) hm_59 rfl rfl rfl ?_
              have b252_ : 0 ≤ F238_ 344 9 ∧ F238_ 344 9 ≤ 5 := gi_g g239_ rfl
              refine ga_geti (z := F238_ 344 9) hm_59 rfl sc_344 rfl (rfl) ?_
              refine fl_if_le (a := F238_ 344 9) hm_59 rfl ⟨by omega, by omega⟩ (fun h253_ => ?_) (fun h254_ => ?_)
              · exfalso; omega
              refine fl_iconst hm_59 rfl ?_
              refine fl_goto hm_59 rfl ?_
              refine gr_i hm_59 rfl rfl (ga_nb (by omega)) ?_
              refine fl_if_eq hm_61 rfl ⟨by omega, by omega⟩ (fun h => absurd h (by omega)) (fun _ => ?_)
              refine fl_iconst hm_61 rfl ?_
              refine fl_goto hm_61 rfl ?_
              refine ga_iadd (a := F 344 5) (b := 0) (c := F 344 5) hm_61 rfl (by omega) ?_
              refine ga_puti (z := F 344 5) hm_61 rfl sc_344 rfl rfl ?_
              refine gr_v hm_61 rfl rfl ?_
              refine ga_iload (z := z180_) hm_185 rfl rfl ?_
              obtain ⟨F255_, q256_⟩ : ∃ F9_, F9_ = (fl_u F238_ 344 5 (F 344 5)) := ⟨_, rfl⟩
              rw [← q256_]
              have g257_ : gi F255_ := by rw [q256_]; exact gi_u (g239_) rfl (by omega) (by omega)
              have g258_ : fs [(344, 344, 5, 5), (344, 344, 9, 10)] F F255_ := by rw [q256_]; exact fs_u (g241_) rfl
              have rk259_ : rk K F255_ := by rw [q256_]; exact rk_u (rk242_) (by omega) (by omega)
              refine gr_i (z := z180_) hm_185 rfl rfl rfl ?_
              have e260_ : F255_ 344 9 = F238_ 344 9 := by rw [q256_]; exact fl_u_ne (by omega)
              have e261_ : F255_ 344 10 = F238_ 344 10 := by rw [q256_]; exact fl_u_ne (by omega)
              have e262_ : F255_ 344 5 = F 344 5 := by rw [q256_]; exact fl_u_eq
              have b263_ : 0 ≤ F238_ 344 10 ∧ F238_ 344 10 ≤ 600 := gi_g g239_ rfl
              exact Or.inl ⟨F255_, rfl, g257_, g258_, (by omega), (⟨by intro h0_; have hs_ := c236_.1 (by omega); rw [sp_term, if_pos (by rw [hT.1]; exact nn_k hnm.2 (show z165_ = nmr (K 2) (K 4 (F 344 5).toNat) (K 5 (F 344 5).toNat) by rw [c166_, if_pos (by omega), Int.add_zero]) (by assumption)), (ra_fi hT.2.1 (nn_r hnm (show z177_ = nmr (K 2) (K 4 (F 344 5).toNat) (K 5 (F 344 5).toNat) by rw [c178_, if_pos (by omega), Int.add_zero]) (by rw [(show z177_ = nmr (K 2) (K 4 (F 344 5).toNat) (K 5 (F 344 5).toNat) by rw [c178_, if_pos (by omega), Int.add_zero]), ← (show z165_ = nmr (K 2) (K 4 (F 344 5).toNat) (K 5 (F 344 5).toNat) by rw [c166_, if_pos (by omega), Int.add_zero])]; assumption)) c181_ c182_ c183_), if_neg (by omega), if_neg (by omega)]; show Sum.inl (4, K 4 _) = _; congr 2 <;> omega, fun h0_ => by exfalso; omega⟩), (by omega), (by omega)⟩
            exfalso; omega
          refine ga_aload_n (v := .ref 344) hm_185 rfl rfl rfl ?_
          refine fl_iconst hm_185 rfl ?_
          refine gVv (nY := 2) (F := 0) (L := 0) (As := [.int (Int32.ofInt 3)]) (b := 344) (rest := []) hm_185 rfl hm_54 rfl rfl (fl_ob sc_344) rfl rfl rfl rfl rfl (by omega) (by omega) (mc_54 hG F X hgi (K) (3) hgK hrk hkt (by omega) (by omega)) (fun _ _ h => False.elim h) ?_
          have b265_ : 0 ≤ F 344 10 ∧ F 344 10 ≤ 600 := gi_g hgi rfl
          rintro A1_ ⟨F269_, hA_, g270_, s271_, c266_, c267_, c268_⟩
          subst hA_
          have g272_ : fs [(344, 344, 5, 5), (344, 344, 9, 10)] F F269_ := fs_tr fs_refl s271_ rfl
          have rk273_ : rk K F269_ := rk_fs hrk s271_ (fun r k h => (fs_n (by omega) rfl)) (fs_n (by omega) rfl)
          refine ga_aload_n (v := .ref 344) hm_185 rfl rfl rfl ?_
          refine gIi (nY := 1) (F := 0) (L := 0) (As := []) (b := 344) (rest := []) hm_185 rfl hm_59 rfl rfl (fl_ob sc_344) rfl rfl rfl rfl rfl (by omega) (by omega) ?_
          intro f274_ l275_ h276_ h277_
          show fl_R xi_ms 59 f274_ l275_ 0 [(0, .ref 344)] [] _ _
          refine ga_aload_n (v := .ref 344) hm_59 rfl rfl rfl ?_
          have b278_ : 0 ≤ F269_ 344 9 ∧ F269_ 344 9 ≤ 5 := gi_g g270_ rfl
          refine ga_geti (z := F269_ 344 9) hm_59 rfl sc_344 rfl (rfl) ?_
          refine fl_if_le (a := F269_ 344 9) hm_59 rfl ⟨by omega, by omega⟩ (fun h279_ => ?_) (fun h280_ => ?_)
          · exfalso; omega
          refine fl_iconst hm_59 rfl ?_
          refine fl_goto hm_59 rfl ?_
          refine gr_i hm_59 rfl rfl (ga_nb (by omega)) ?_
          refine fl_if_eq hm_185 rfl ⟨by omega, by omega⟩ (fun h => absurd h (by omega)) (fun _ => ?_)
          refine fl_iconst hm_185 rfl ?_
          refine gr_i (z := 0) hm_185 rfl rfl rfl ?_
          have e281_ : F269_ 344 5 = F 344 5 := (s271_ 344 5 rfl).trans (rfl)
          have b282_ : 0 ≤ F269_ 344 10 ∧ F269_ 344 10 ≤ 600 := gi_g g270_ rfl
          exact Or.inl ⟨F269_, rfl, g270_, g272_, (by omega), (⟨by intro h0_; have hs_ := c267_.1 (by omega); rw [sp_term, if_pos (by rw [hT.1]; exact nn_k hnm.2 (show z165_ = nmr (K 2) (K 4 (F 344 5).toNat) (K 5 (F 344 5).toNat) by rw [c166_, if_pos (by omega), Int.add_zero]) (by assumption)), (ra_fi hT.2.1 (nn_r hnm (show z177_ = nmr (K 2) (K 4 (F 344 5).toNat) (K 5 (F 344 5).toNat) by rw [c178_, if_pos (by omega), Int.add_zero]) (by rw [(show z177_ = nmr (K 2) (K 4 (F 344 5).toNat) (K 5 (F 344 5).toNat) by rw [c178_, if_pos (by omega), Int.add_zero]), ← (show z165_ = nmr (K 2) (K 4 (F 344 5).toNat) (K 5 (F 344 5).toNat) by rw [c166_, if_pos (by omega), Int.add_zero])]; assumption)) c181_ c182_ c183_), if_pos (by omega)]; show Sum.inl (3, K 4 _) = _; congr 2 <;> omega, fun h0_ => by exfalso; omega⟩), (by omega), (by omega)⟩
        exfalso; omega
      refine fl_goto hm_185 rfl ?_
      refine ga_aload_n (v := .ref 344) hm_185 rfl rfl rfl ?_
      refine fl_iconst hm_185 rfl ?_
      refine gVv (nY := 2) (F := 0) (L := 0) (As := [.int (Int32.ofInt 1)]) (b := 344) (rest := []) hm_185 rfl hm_54 rfl rfl (fl_ob sc_344) rfl rfl rfl rfl rfl (by omega) (by omega) (mc_54 hG F X hgi (K) (1) hgK hrk hkt (by omega) (by omega)) (fun _ _ h => False.elim h) ?_
      have b284_ : 0 ≤ F 344 10 ∧ F 344 10 ≤ 600 := gi_g hgi rfl
      rintro A1_ ⟨F288_, hA_, g289_, s290_, c285_, c286_, c287_⟩
      subst hA_
      have g291_ : fs [(344, 344, 5, 5), (344, 344, 9, 10)] F F288_ := fs_tr fs_refl s290_ rfl
      have rk292_ : rk K F288_ := rk_fs hrk s290_ (fun r k h => (fs_n (by omega) rfl)) (fs_n (by omega) rfl)
      refine ga_aload_n (v := .ref 344) hm_185 rfl rfl rfl ?_
      refine gIi (nY := 1) (F := 0) (L := 0) (As := []) (b := 344) (rest := []) hm_185 rfl hm_59 rfl rfl (fl_ob sc_344) rfl rfl rfl rfl rfl (by omega) (by omega) ?_
      intro f293_ l294_ h295_ h296_
      show fl_R xi_ms 59 f293_ l294_ 0 [(0, .ref 344)] [] _ _
      refine ga_aload_n (v := .ref 344) hm_59 rfl rfl rfl ?_
      have b297_ : 0 ≤ F288_ 344 9 ∧ F288_ 344 9 ≤ 5 := gi_g g289_ rfl
      refine ga_geti (z := F288_ 344 9) hm_59 rfl sc_344 rfl (rfl) ?_
      refine fl_if_le (a := F288_ 344 9) hm_59 rfl ⟨by omega, by omega⟩ (fun h298_ => ?_) (fun h299_ => ?_)
      · exfalso; omega
      refine fl_iconst hm_59 rfl ?_
      refine fl_goto hm_59 rfl ?_
      refine gr_i hm_59 rfl rfl (ga_nb (by omega)) ?_
      refine fl_if_eq hm_185 rfl ⟨by omega, by omega⟩ (fun h => absurd h (by omega)) (fun _ => ?_)
      refine fl_iconst hm_185 rfl ?_
      refine gr_i (z := 0) hm_185 rfl rfl rfl ?_
      have e300_ : F288_ 344 5 = F 344 5 := (s290_ 344 5 rfl).trans (rfl)
      have b301_ : 0 ≤ F288_ 344 10 ∧ F288_ 344 10 ≤ 600 := gi_g g289_ rfl
      exact Or.inl ⟨F288_, rfl, g289_, g291_, (by omega), (⟨by intro h0_; have hs_ := c286_.1 (by omega); rw [sp_term, if_neg (by rw [hT.1]; exact nn_n hnm.1 (show z165_ = nmr (K 2) (K 4 (F 344 5).toNat) (K 5 (F 344 5).toNat) by rw [c166_, if_pos (by omega), Int.add_zero]) (by assumption))]; show Sum.inl (1, K 4 _) = _; congr 2 <;> omega, fun h0_ => by exfalso; omega⟩), (by omega), (by omega)⟩
    exfalso; omega
  refine ga_aload_n (v := .ref 344) hm_185 rfl rfl rfl ?_
  refine gIi (nY := 1) (F := 0) (L := 0) (As := []) (b := 344) (rest := []) hm_185 rfl hm_59 rfl rfl (fl_ob sc_344) rfl rfl rfl rfl rfl (by omega) (by omega) ?_
  intro f302_ l303_ h304_ h305_
  show fl_R xi_ms 59 f302_ l303_ 0 [(0, .ref 344)] [] _ _
  refine ga_aload_n (v := .ref 344) hm_59 rfl rfl rfl ?_
  refine ga_geti (z := F 344 9) hm_59 rfl sc_344 rfl (rfl) ?_
  refine fl_if_le (a := F 344 9) hm_59 rfl ⟨by omega, by omega⟩ (fun h306_ => ?_) (fun h307_ => ?_)
  · exfalso; omega
  refine fl_iconst hm_59 rfl ?_
  refine fl_goto hm_59 rfl ?_
  refine gr_i hm_59 rfl rfl (ga_nb (by omega)) ?_
  refine fl_if_eq hm_185 rfl ⟨by omega, by omega⟩ (fun h => absurd h (by omega)) (fun _ => ?_)
  refine fl_iconst hm_185 rfl ?_
  refine gr_i (z := 0) hm_185 rfl rfl rfl ?_
  have b308_ : 0 ≤ F 344 10 ∧ F 344 10 ≤ 600 := gi_g hgi rfl
  have b309_ : 0 ≤ F 344 5 ∧ F 344 5 ≤ 600 := gi_g hgi rfl
  exact Or.inl ⟨F, rfl, hgi, fs_refl, (by omega), (⟨fun h0_ => by exfalso; omega, fun h0_ => by constructor <;> omega⟩), (by omega), (by omega)⟩

theorem rty_get {g : Nat → Int} {a j : Nat} {tl : List Int} (h : rty g a tl) (hj : j < tl.length) : g (a + j) = tl.getD j 0 + 1 := by
  rw [h j tl[j] (List.getElem?_eq_getElem hj)]
  simp [hj]
/-- the terms that may be named: the objects, or an action's variables -/
def trm (F : fl_N) (a k : Int) (l tl : List Int) : Prop := (a = 5 ∧ k = 2 ∧ rpn (F 364) (F 344 33) l ∧ rty (F 365) 0 tl) ∨ ((0 ≤ a ∧ a ≤ 4) ∧ k = 3 ∧ rpn (fun j => F 356 ((3 * a).toNat + j)) (F 354 a.toNat) l ∧ rty (F 355) (3 * a).toNat tl)
theorem trm_fs {F F' : fl_N} {S : List (Nat × Nat × Nat × Nat)} {a k : Int} {l tl : List Int} (h : trm F a k l tl) (hf : fs S F F') (hS : ∀ r j, (r = 344 ∧ j = 33) ∨ (354 ≤ r ∧ r ≤ 356) ∨ (364 ≤ r ∧ r ≤ 365) → fs_in S r j = false) : trm F' a k l tl := by
  have e1 : F' 364 = F 364 := funext (fun j => hf _ _ (hS _ _ (by omega)))
  have e2 : F' 365 = F 365 := funext (fun j => hf _ _ (hS _ _ (by omega)))
  have e3 : F' 354 = F 354 := funext (fun j => hf _ _ (hS _ _ (by omega)))
  have e4 : F' 355 = F 355 := funext (fun j => hf _ _ (hS _ _ (by omega)))
  have e5 : F' 356 = F 356 := funext (fun j => hf _ _ (hS _ _ (by omega)))
  have e6 : F' 344 33 = F 344 33 := hf _ _ (hS _ _ (by omega))
  unfold trm
  rw [e1, e2, e3, e4, e5, e6]
  exact h
theorem trm_u {F : fl_N} {a k : Int} {c j : Nat} {z : Int} {l tl : List Int} (h : trm F a k l tl) (hc : ¬ (c = 344 ∧ j = 33) ∧ ¬ (354 ≤ c ∧ c ≤ 356) ∧ ¬ (364 ≤ c ∧ c ≤ 365)) : trm (fl_u F c j z) a k l tl := by
  unfold trm
  rw [fl_u_r (r' := 364) (by omega), fl_u_r (r' := 365) (by omega), fl_u_r (r' := 354) (by omega), fl_u_r (r' := 355) (by omega), fl_u_r (r' := 356) (by omega), fl_u_ne (r' := 344) (k' := 33) (by omega)]
  exact h
def rla (a t : Int) : Prop := a ≤ 4 ∨ 40 ≤ t
def rz (a z : Int) : Prop := a ≤ 4 → z ≤ 2
theorem rla_add {a t u : Int} (h : rla a t) (hu : t ≤ u) : rla a u := by
  unfold rla at *
  omega
theorem rz_k {a ll z : Int} {k : Nat} (h : rla a ll) (hz : rz a z) (h0 : 0 ≤ ll) (hk : (2 * ll).toNat ≤ k) : k < 80 → z ≤ 2 := by
  intro h1
  rcases h with h | h
  · exact hz h
  · omega

/- CheapPlannerModel.readTerm -/
abbrev pq_185 (G : Nat → Nat → Option Nat) (F : fl_N) (X : xi_H) (K : fl_N) (a wn k w : Int) (l tl : List Int) : Outcome → xi_H → Prop := gqi (fun z A => (∃ F' : fl_N, fl_H sh_T G F' ++ X = A ∧ gi F' ∧ fs [(344, 344, 5, 5), (344, 344, 9, 10)] F F' ∧ (¬ F' 344 9 = 0) ∧ ((F 344 9 = 0 → sp_term K k l tl w (F 344 5) = .inl (F' 344 9, F' 344 10)) ∧ (¬ F 344 9 = 0 → F' 344 9 = F 344 9 ∧ F' 344 10 = F 344 10)) ∧ (0 ≤ F' 344 5 ∧ F' 344 5 ≤ K 1 6 - 1) ∧ (0 ≤ z ∧ z ≤ 5) ∧ (rz a z)) ∨ (∃ F' : fl_N, fl_H sh_T G F' ++ X = A ∧ gi F' ∧ fs [(344, 344, 5, 5), (344, 344, 9, 10)] F F' ∧ (F' 344 9 = 0 ∧ F 344 9 = 0) ∧ (sp_term K k l tl w (F 344 5) = .inr (F' 344 5)) ∧ (0 ≤ F' 344 5 ∧ F' 344 5 ≤ K 1 6 - 1) ∧ (0 ≤ z ∧ z ≤ 5) ∧ (rz a z) ∧ (idx l (K 6 (F 344 5).toNat) = z) ∧ (sk K (F 344 5) = F' 344 5))) gqn
theorem mc_185 {G : Nat → Nat → Option Nat} (hG : gg G) (F : fl_N) (X : xi_H) (hgi : gi F) (K : fl_N) (a wn k w : Int) (l tl : List Int) (hgK : gi K) (hrk : rk K F) (hkt : rkt K) (hp : 0 ≤ F 344 5 ∧ F 344 5 ≤ K 1 6 - 1) (ht : trm F a k l tl) (hlt : l.length = tl.length) (hw : (wn ≤ 0 ∧ -1 ≤ wn ∧ w = -1) ∨ (wn = w + 1 ∧ 0 ≤ w ∧ w ≤ 3)) (ha : 0 ≤ a ∧ a ≤ 5) : fl_M xi_ms 185 3 66 [.ref 344, .int (Int32.ofInt a), .int (Int32.ofInt wn)] (fl_H sh_T G F ++ X) (pq_185 G F X K a wn k w l tl) := by
  intro fr lo hfr hlo
  show fl_R xi_ms 185 fr lo 0 [(0, .ref 344), (1, .int (Int32.ofInt a)), (2, .int (Int32.ofInt wn))] [] _ _
  have hP := (rkt_p hkt hp.1 hp.2 hgK).1
  have hK16 : 0 ≤ K 1 6 ∧ K 1 6 ≤ 601 := gi_g hgK rfl
  have hko := hkt.1
  refine ga_iload_n (z := a) hm_185 rfl rfl ?_
  refine fl_iconst hm_185 rfl ?_
  refine fx_icmp_ne (a := a) (b := 5) hm_185 rfl ⟨by omega, by omega⟩ ⟨by omega, by omega⟩ (fun h1_ => ?_) (fun h2_ => ?_)
  ·
    have hT : k = 3 ∧ rpn (fun j => F 356 ((3 * a).toNat + j)) (F 354 a.toNat) l ∧ rty (F 355) (3 * a).toNat tl := by rcases ht with h | h; omega; exact h.2
    have hT1 := hT.2.1.1
    have hra : 0 ≤ a ∧ a ≤ 4 := by rcases ht with h | h; omega; exact h.1
    have hvr := tk_var hkt hgK hp.1 hp.2
    refine fl_iconst hm_185 rfl ?_
    refine ga_istore_n (lv2 := [(3, .int (Int32.ofInt 0)), (0, .ref 344), (1, .int (Int32.ofInt a)), (2, .int (Int32.ofInt wn))]) hm_185 rfl (Nat.le_of_ble_eq_true rfl) rfl ?_
    have b3_ : 0 ≤ F 344 9 ∧ F 344 9 ≤ 5 := gi_g hgi rfl
    by_cases h4_ : F 344 9 = 0
    ·
      refine ga_aload_n (v := .ref 344) hm_185 rfl rfl rfl ?_
      refine gIi (nY := 1) (F := 0) (L := 0) (As := []) (b := 344) (rest := []) hm_185 rfl hm_59 rfl rfl (fl_ob sc_344) rfl rfl rfl rfl rfl (by omega) (by omega) ?_
      intro f5_ l6_ h7_ h8_
      show fl_R xi_ms 59 f5_ l6_ 0 [(0, .ref 344)] [] _ _
      refine ga_aload_n (v := .ref 344) hm_59 rfl rfl rfl ?_
      refine ga_geti (z := F 344 9) hm_59 rfl sc_344 rfl (rfl) ?_
      refine fl_if_le (a := F 344 9) hm_59 rfl ⟨by omega, by omega⟩ (fun h9_ => ?_) (fun h10_ => ?_)
      ·
        refine fl_iconst hm_59 rfl ?_
        refine gr_i hm_59 rfl rfl (ga_nb (by omega)) ?_
        clear h7_ h8_ f5_ l6_
        refine fl_if_eq hm_185 rfl ⟨by omega, by omega⟩ (fun _ => ?_) (fun h => absurd (by omega) h)
        refine ga_iload_n (z := 0) hm_185 rfl rfl ?_
        refine fl_if_eq hm_185 rfl ⟨by omega, by omega⟩ (fun _ => ?_) (fun h => absurd (by omega) h)
        refine ga_aload_n (v := .ref 344) hm_185 rfl rfl rfl ?_
        have b11_ : 0 ≤ F 344 5 ∧ F 344 5 ≤ 600 := gi_g hgi rfl
        refine gVi (nY := 1) (F := 2) (L := 46) (As := []) (b := 344) (rest := []) hm_185 rfl hm_169 rfl rfl (fl_ob sc_344) rfl rfl rfl rfl rfl (by omega) (by omega) (mc_169 hG F X hgi (K) hgK hrk hkt (by omega)) (fun _ _ h => False.elim h) ?_
        rintro z12_ A1_ (⟨hA_, hz_, c13_⟩ | ⟨hA_, hz_, c14_, c15_, c16_⟩)
        ·
          subst hA_
          subst hz_
          refine fl_if_ne hm_185 rfl ⟨by omega, by omega⟩ (fun h => absurd h (by omega)) (fun _ => ?_)
          refine ga_aload_n (v := .ref 344) hm_185 rfl rfl rfl ?_
          refine fl_iconst hm_185 rfl ?_
          refine gVv (nY := 2) (F := 0) (L := 0) (As := [.int (Int32.ofInt 1)]) (b := 344) (rest := []) hm_185 rfl hm_54 rfl rfl (fl_ob sc_344) rfl rfl rfl rfl rfl (by omega) (by omega) (mc_54 hG F X hgi (K) (1) hgK hrk hkt (by omega) (by omega)) (fun _ _ h => False.elim h) ?_
          have b18_ : 0 ≤ F 344 10 ∧ F 344 10 ≤ 600 := gi_g hgi rfl
          rintro A1_ ⟨F22_, hA_, g23_, s24_, c19_, c20_, c21_⟩
          subst hA_
          have g25_ : fs [(344, 344, 5, 5), (344, 344, 9, 10)] F F22_ := fs_tr fs_refl s24_ rfl
          have rk26_ : rk K F22_ := rk_fs hrk s24_ (fun r k h => (fs_n (by omega) rfl)) (fs_n (by omega) rfl)
          have c20_s := c20_.1 (by omega)
          clear c20_
          refine ga_aload_n (v := .ref 344) hm_185 rfl rfl rfl ?_
          refine gIi (nY := 1) (F := 0) (L := 0) (As := []) (b := 344) (rest := []) hm_185 rfl hm_59 rfl rfl (fl_ob sc_344) rfl rfl rfl rfl rfl (by omega) (by omega) ?_
          intro f27_ l28_ h29_ h30_
          show fl_R xi_ms 59 f27_ l28_ 0 [(0, .ref 344)] [] _ _
          refine ga_aload_n (v := .ref 344) hm_59 rfl rfl rfl ?_
          have b31_ : 0 ≤ F22_ 344 9 ∧ F22_ 344 9 ≤ 5 := gi_g g23_ rfl
          refine ga_geti (z := F22_ 344 9) hm_59 rfl sc_344 rfl (rfl) ?_
          refine fl_if_le (a := F22_ 344 9) hm_59 rfl ⟨by omega, by omega⟩ (fun h32_ => ?_) (fun h33_ => ?_)
          · exfalso; omega
          refine fl_iconst hm_59 rfl ?_
          refine fl_goto hm_59 rfl ?_
          refine gr_i hm_59 rfl rfl (ga_nb (by omega)) ?_
          clear h29_ h30_ f27_ l28_
          refine fl_if_eq hm_185 rfl ⟨by omega, by omega⟩ (fun h => absurd h (by omega)) (fun _ => ?_)
          refine fl_iconst hm_185 rfl ?_
          refine gr_i (z := 0) hm_185 rfl rfl rfl ?_
          have e34_ : F22_ 344 5 = F 344 5 := (s24_ 344 5 rfl).trans (rfl)
          have b35_ : 0 ≤ F22_ 344 10 ∧ F22_ 344 10 ≤ 600 := gi_g g23_ rfl
          exact Or.inl ⟨F22_, rfl, g23_, g25_, (by omega), (⟨by intro h0_; have hs_ := c20_s; rw [sp_term, if_neg (by rw [hT.1]; exact fun h8_ => c13_ ⟨by omega, h8_⟩)]; show Sum.inl (1, K 4 _) = _; congr 2 <;> omega, fun h0_ => by exfalso; omega⟩), (by omega), (by omega), (by unfold rz; intro h9_; omega)⟩
        subst hA_
        subst hz_
        refine fl_if_ne hm_185 rfl ⟨by omega, by omega⟩ (fun _ => ?_) (fun h => absurd (by omega) h)
        refine ga_aload_n (v := .ref 344) hm_185 rfl rfl rfl ?_
        refine gIi (nY := 1) (F := 0) (L := 0) (As := []) (b := 344) (rest := []) hm_185 rfl hm_59 rfl rfl (fl_ob sc_344) rfl rfl rfl rfl rfl (by omega) (by omega) ?_
        intro f36_ l37_ h38_ h39_
        show fl_R xi_ms 59 f36_ l37_ 0 [(0, .ref 344)] [] _ _
        refine ga_aload_n (v := .ref 344) hm_59 rfl rfl rfl ?_
        refine ga_geti (z := F 344 9) hm_59 rfl sc_344 rfl (rfl) ?_
        refine fl_if_le (a := F 344 9) hm_59 rfl ⟨by omega, by omega⟩ (fun h40_ => ?_) (fun h41_ => ?_)
        ·
          refine fl_iconst hm_59 rfl ?_
          refine gr_i hm_59 rfl rfl (ga_nb (by omega)) ?_
          clear h38_ h39_ f36_ l37_
          refine fl_if_eq hm_185 rfl ⟨by omega, by omega⟩ (fun _ => ?_) (fun h => absurd (by omega) h)
          refine ga_iload_n (z := 0) hm_185 rfl rfl ?_
          refine fl_if_eq hm_185 rfl ⟨by omega, by omega⟩ (fun _ => ?_) (fun h => absurd (by omega) h)
          refine ga_aload_n (v := .ref 344) hm_185 rfl rfl rfl ?_
          refine ga_getr (b := 356) hm_185 rfl sc_344 rfl ?_
          refine fl_iconst hm_185 rfl ?_
          refine ga_iload_n (z := a) hm_185 rfl rfl ?_
          refine ga_imul (a := 3) (b := a) (c := 3 * a) hm_185 rfl (by omega) ?_
          refine ga_aload_n (v := .ref 344) hm_185 rfl rfl rfl ?_
          refine ga_getr (b := 354) hm_185 rfl sc_344 rfl ?_
          refine ga_iload_n (z := a) hm_185 rfl rfl ?_
          have b42_ : 0 ≤ F 354 a.toNat ∧ F 354 a.toNat ≤ 3 := gi_g hgi rfl
          refine ga_iald (z := a) (w := F 354 a.toNat) hm_185 rfl sc_354 (by omega) (by omega) (by omega) (rfl) ?_
          refine ga_aload_n (v := .ref 344) hm_185 rfl rfl rfl ?_
          refine fl_iconst hm_185 rfl ?_
          refine gVl (nY := 7) (F := 1) (L := 20) (As := [.int (Int32.ofInt 1)]) (b := 344) (rest := [.int (Int32.ofInt (F 354 a.toNat)), .int (Int32.ofInt (3 * a)), .ref 356]) hm_185 rfl hm_60 rfl rfl (fl_ob sc_344) rfl rfl rfl rfl rfl (by omega) (by omega) (mc_60 hG F X hgi (K) (1) hgK hrk hkt (by omega) (by omega)) (fun _ _ h => False.elim h) ?_
          rintro z43_ A1_ ⟨hA_, c44_, c45_⟩
          subst hA_
          refine gSi (nY := 7) (F := 0) (L := 0) (As := [.ref 356, .int (Int32.ofInt (3 * a)), .int (Int32.ofInt (F 354 a.toNat)), .long (Int64.ofInt z43_)]) (rest := []) hm_185 rfl hm_162 rfl rfl (fl_pos sc_0) rfl rfl rfl rfl (by omega) (by omega) (mc_162 hG F X hgi (356) (15) (3 * a) (F 354 a.toNat) (z43_) sc_356 (fun _ => rfl) (by omega) (by omega))  ?_
          rintro z46_ A1_ ⟨hA_, c47_, c48_, c49_⟩
          subst hA_
          refine ga_istore (lv2 := [(4, .int (Int32.ofInt z46_)), (3, .int (Int32.ofInt 0)), (0, .ref 344), (1, .int (Int32.ofInt a)), (2, .int (Int32.ofInt wn))]) hm_185 rfl (Nat.le_of_ble_eq_true rfl) rfl ?_
          refine ga_iload (z := z46_) hm_185 rfl rfl ?_
          refine fl_iconst hm_185 rfl ?_
          refine fx_icmp_ne (a := z46_) (b := -1) hm_185 rfl ⟨by omega, by omega⟩ ⟨by omega, by omega⟩ (fun h50_ => ?_) (fun h51_ => ?_)
          ·
            refine ga_aload_n (v := .ref 344) hm_185 rfl rfl rfl ?_
            refine gIi (nY := 1) (F := 0) (L := 0) (As := []) (b := 344) (rest := []) hm_185 rfl hm_59 rfl rfl (fl_ob sc_344) rfl rfl rfl rfl rfl (by omega) (by omega) ?_
            intro f52_ l53_ h54_ h55_
            show fl_R xi_ms 59 f52_ l53_ 0 [(0, .ref 344)] [] _ _
            refine ga_aload_n (v := .ref 344) hm_59 rfl rfl rfl ?_
            refine ga_geti (z := F 344 9) hm_59 rfl sc_344 rfl (rfl) ?_
            refine fl_if_le (a := F 344 9) hm_59 rfl ⟨by omega, by omega⟩ (fun h56_ => ?_) (fun h57_ => ?_)
            ·
              refine fl_iconst hm_59 rfl ?_
              refine gr_i hm_59 rfl rfl (ga_nb (by omega)) ?_
              clear h54_ h55_ f52_ l53_
              refine fl_if_eq hm_185 rfl ⟨by omega, by omega⟩ (fun _ => ?_) (fun h => absurd (by omega) h)
              refine ga_iload_n (z := 0) hm_185 rfl rfl ?_
              refine fl_if_eq hm_185 rfl ⟨by omega, by omega⟩ (fun _ => ?_) (fun h => absurd (by omega) h)
              refine ga_aload_n (v := .ref 344) hm_185 rfl rfl rfl ?_
              refine ga_getr (b := 355) hm_185 rfl sc_344 rfl ?_
              refine fl_iconst hm_185 rfl ?_
              refine ga_iload_n (z := a) hm_185 rfl rfl ?_
              refine ga_imul (a := 3) (b := a) (c := 3 * a) hm_185 rfl (by omega) ?_
              refine ga_iload (z := z46_) hm_185 rfl rfl ?_
              refine ga_iadd (a := 3 * a) (b := z46_) (c := 3 * a + z46_) hm_185 rfl (by omega) ?_
              have b58_ : 0 ≤ F 355 (3 * a + z46_).toNat ∧ F 355 (3 * a + z46_).toNat ≤ 4 := gi_g hgi rfl
              refine ga_iald (z := 3 * a + z46_) (w := F 355 (3 * a + z46_).toNat) hm_185 rfl sc_355 (by omega) (by omega) (by omega) (rfl) ?_
              refine ga_istore (lv2 := [(5, .int (Int32.ofInt (F 355 (3 * a + z46_).toNat))), (4, .int (Int32.ofInt z46_)), (3, .int (Int32.ofInt 0)), (0, .ref 344), (1, .int (Int32.ofInt a)), (2, .int (Int32.ofInt wn))]) hm_185 rfl (Nat.le_of_ble_eq_true rfl) rfl ?_
              have hty : F 355 (3 * a + z46_).toNat = tl.getD (z46_).toNat 0 + 1 := by have h := rty_get hT.2.2 (j := (z46_).toNat) (by omega); rwa [show (3 * a).toNat + (z46_).toNat = (3 * a + z46_).toNat by omega] at h
              refine ga_iload_n (z := wn) hm_185 rfl rfl ?_
              refine fl_if_le (a := wn) hm_185 rfl ⟨by omega, by omega⟩ (fun h59_ => ?_) (fun h60_ => ?_)
              ·
                refine ga_aload_n (v := .ref 344) hm_185 rfl rfl rfl ?_
                refine gIv (nY := 1) (F := 1) (L := 20) (As := []) (b := 344) (rest := []) hm_185 rfl hm_61 rfl rfl (fl_ob sc_344) rfl rfl rfl rfl rfl (by omega) (by omega) ?_
                intro f61_ l62_ h63_ h64_
                show fl_R xi_ms 61 f61_ l62_ 0 [(0, .ref 344)] [] _ _
                refine ga_aload_n (v := .ref 344) hm_61 rfl rfl rfl ?_
                refine ga_dup hm_61 rfl rfl ?_
                refine ga_geti (z := F 344 5) hm_61 rfl sc_344 rfl (rfl) ?_
                refine ga_aload_n (v := .ref 344) hm_61 rfl rfl rfl ?_
                refine gIi (nY := 1) (F := 0) (L := 0) (As := []) (b := 344) (rest := [.int (Int32.ofInt (F 344 5)), .ref 344]) hm_61 rfl hm_59 rfl rfl (fl_ob sc_344) rfl rfl rfl rfl rfl (by omega) (by omega) ?_
                intro f65_ l66_ h67_ h68_
                show fl_R xi_ms 59 f65_ l66_ 0 [(0, .ref 344)] [] _ _
                refine ga_aload_n (v := .ref 344) hm_59 rfl rfl rfl ?_
                refine ga_geti (z := F 344 9) hm_59 rfl sc_344 rfl (rfl) ?_
                refine fl_if_le (a := F 344 9) hm_59 rfl ⟨by omega, by omega⟩ (fun h69_ => ?_) (fun h70_ => ?_)
                ·
                  refine fl_iconst hm_59 rfl ?_
                  refine gr_i hm_59 rfl rfl (ga_nb (by omega)) ?_
                  clear h67_ h68_ f65_ l66_
                  refine fl_if_eq hm_61 rfl ⟨by omega, by omega⟩ (fun _ => ?_) (fun h => absurd (by omega) h)
                  refine fl_iconst hm_61 rfl ?_
                  refine ga_iadd (a := F 344 5) (b := 1) (c := F 344 5 + 1) hm_61 rfl (by omega) ?_
                  refine ga_puti (z := F 344 5 + 1) hm_61 rfl sc_344 rfl rfl ?_
                  refine gr_v hm_61 rfl rfl ?_
                  clear h63_ h64_ f61_ l62_
                  refine ga_iload (z := z46_) hm_185 rfl rfl ?_
                  obtain ⟨F71_, q72_⟩ : ∃ F9_, F9_ = (fl_u F 344 5 (F 344 5 + 1)) := ⟨_, rfl⟩
                  rw [← q72_]
                  have g73_ : gi F71_ := by rw [q72_]; exact gi_u (hgi) rfl (by omega) (by omega)
                  have g74_ : fs [(344, 344, 5, 5), (344, 344, 9, 10)] F F71_ := by rw [q72_]; exact fs_u (fs_refl) rfl
                  have rk75_ : rk K F71_ := by rw [q72_]; exact rk_u (hrk) (by omega) (by omega)
                  refine gr_i (z := z46_) hm_185 rfl rfl rfl ?_
                  have e76_ : F71_ 344 9 = F 344 9 := by rw [q72_]; exact fl_u_ne (by omega)
                  have e77_ : F71_ 344 10 = F 344 10 := by rw [q72_]; exact fl_u_ne (by omega)
                  have e78_ : F71_ 344 5 = F 344 5 + 1 := by rw [q72_]; exact fl_u_eq
                  exact Or.inr (⟨F71_, rfl, g73_, g74_, (by omega), (by rw [sp_term, if_pos (by rw [hT.1]; exact c14_.2), (ra_fa hT.2.1 (show nrel (K 6 (F 344 5).toNat) z43_ by rw [c44_, if_pos (by omega)]; exact (hvr.1 c14_.2).2) c47_ c48_ c49_ rfl), if_neg (by omega), if_pos (by omega), sk, if_pos (by omega)]; congr 1; omega), (by omega), (by omega), (by unfold rz; intro h9_; omega), ((ra_fa hT.2.1 (show nrel (K 6 (F 344 5).toNat) z43_ by rw [c44_, if_pos (by omega)]; exact (hvr.1 c14_.2).2) c47_ c48_ c49_ rfl)), (by rw [sk, if_pos (by omega)]; omega)⟩)
                exfalso; omega
              refine ga_iload (z := F 355 (3 * a + z46_).toNat) hm_185 rfl rfl ?_
              refine ga_iload_n (z := wn) hm_185 rfl rfl ?_
              refine fl_icmp_eq (a := F 355 (3 * a + z46_).toNat) (b := wn) hm_185 rfl ⟨by omega, by omega⟩ ⟨by omega, by omega⟩ (fun h79_ => ?_) (fun h80_ => ?_)
              ·
                refine ga_aload_n (v := .ref 344) hm_185 rfl rfl rfl ?_
                refine gIv (nY := 1) (F := 1) (L := 20) (As := []) (b := 344) (rest := []) hm_185 rfl hm_61 rfl rfl (fl_ob sc_344) rfl rfl rfl rfl rfl (by omega) (by omega) ?_
                intro f81_ l82_ h83_ h84_
                show fl_R xi_ms 61 f81_ l82_ 0 [(0, .ref 344)] [] _ _
                refine ga_aload_n (v := .ref 344) hm_61 rfl rfl rfl ?_
                refine ga_dup hm_61 rfl rfl ?_
                refine ga_geti (z := F 344 5) hm_61 rfl sc_344 rfl (rfl) ?_
                refine ga_aload_n (v := .ref 344) hm_61 rfl rfl rfl ?_
                refine gIi (nY := 1) (F := 0) (L := 0) (As := []) (b := 344) (rest := [.int (Int32.ofInt (F 344 5)), .ref 344]) hm_61 rfl hm_59 rfl rfl (fl_ob sc_344) rfl rfl rfl rfl rfl (by omega) (by omega) ?_
                intro f85_ l86_ h87_ h88_
                show fl_R xi_ms 59 f85_ l86_ 0 [(0, .ref 344)] [] _ _
                refine ga_aload_n (v := .ref 344) hm_59 rfl rfl rfl ?_
                refine ga_geti (z := F 344 9) hm_59 rfl sc_344 rfl (rfl) ?_
                refine fl_if_le (a := F 344 9) hm_59 rfl ⟨by omega, by omega⟩ (fun h89_ => ?_) (fun h90_ => ?_)
                ·
                  refine fl_iconst hm_59 rfl ?_
                  refine gr_i hm_59 rfl rfl (ga_nb (by omega)) ?_
                  clear h87_ h88_ f85_ l86_
                  refine fl_if_eq hm_61 rfl ⟨by omega, by omega⟩ (fun _ => ?_) (fun h => absurd (by omega) h)
                  refine fl_iconst hm_61 rfl ?_
                  refine ga_iadd (a := F 344 5) (b := 1) (c := F 344 5 + 1) hm_61 rfl (by omega) ?_
                  refine ga_puti (z := F 344 5 + 1) hm_61 rfl sc_344 rfl rfl ?_
                  refine gr_v hm_61 rfl rfl ?_
                  clear h83_ h84_ f81_ l82_
                  refine ga_iload (z := z46_) hm_185 rfl rfl ?_
                  obtain ⟨F91_, q92_⟩ : ∃ F9_, F9_ = (fl_u F 344 5 (F 344 5 + 1)) := ⟨_, rfl⟩
                  rw [← q92_]
                  have g93_ : gi F91_ := by rw [q92_]; exact gi_u (hgi) rfl (by omega) (by omega)
                  have g94_ : fs [(344, 344, 5, 5), (344, 344, 9, 10)] F F91_ := by rw [q92_]; exact fs_u (fs_refl) rfl
                  have rk95_ : rk K F91_ := by rw [q92_]; exact rk_u (hrk) (by omega) (by omega)
                  refine gr_i (z := z46_) hm_185 rfl rfl rfl ?_
                  have e96_ : F91_ 344 9 = F 344 9 := by rw [q92_]; exact fl_u_ne (by omega)
                  have e97_ : F91_ 344 10 = F 344 10 := by rw [q92_]; exact fl_u_ne (by omega)
                  have e98_ : F91_ 344 5 = F 344 5 + 1 := by rw [q92_]; exact fl_u_eq
                  exact Or.inr (⟨F91_, rfl, g93_, g94_, (by omega), (by rw [sp_term, if_pos (by rw [hT.1]; exact c14_.2), (ra_fa hT.2.1 (show nrel (K 6 (F 344 5).toNat) z43_ by rw [c44_, if_pos (by omega)]; exact (hvr.1 c14_.2).2) c47_ c48_ c49_ rfl), if_neg (by omega), if_pos (by omega), sk, if_pos (by omega)]; congr 1; omega), (by omega), (by omega), (by unfold rz; intro h9_; omega), ((ra_fa hT.2.1 (show nrel (K 6 (F 344 5).toNat) z43_ by rw [c44_, if_pos (by omega)]; exact (hvr.1 c14_.2).2) c47_ c48_ c49_ rfl)), (by rw [sk, if_pos (by omega)]; omega)⟩)
                exfalso; omega
              refine ga_aload_n (v := .ref 344) hm_185 rfl rfl rfl ?_
              refine fl_iconst hm_185 rfl ?_
              refine gVv (nY := 2) (F := 0) (L := 0) (As := [.int (Int32.ofInt 4)]) (b := 344) (rest := []) hm_185 rfl hm_54 rfl rfl (fl_ob sc_344) rfl rfl rfl rfl rfl (by omega) (by omega) (mc_54 hG F X hgi (K) (4) hgK hrk hkt (by omega) (by omega)) (fun _ _ h => False.elim h) ?_
              have b100_ : 0 ≤ F 344 10 ∧ F 344 10 ≤ 600 := gi_g hgi rfl
              rintro A1_ ⟨F104_, hA_, g105_, s106_, c101_, c102_, c103_⟩
              subst hA_
              have g107_ : fs [(344, 344, 5, 5), (344, 344, 9, 10)] F F104_ := fs_tr fs_refl s106_ rfl
              have rk108_ : rk K F104_ := rk_fs hrk s106_ (fun r k h => (fs_n (by omega) rfl)) (fs_n (by omega) rfl)
              have c102_s := c102_.1 (by omega)
              clear c102_
              refine ga_aload_n (v := .ref 344) hm_185 rfl rfl rfl ?_
              refine gIv (nY := 1) (F := 1) (L := 20) (As := []) (b := 344) (rest := []) hm_185 rfl hm_61 rfl rfl (fl_ob sc_344) rfl rfl rfl rfl rfl (by omega) (by omega) ?_
              intro f109_ l110_ h111_ h112_
              show fl_R xi_ms 61 f109_ l110_ 0 [(0, .ref 344)] [] _ _
              refine ga_aload_n (v := .ref 344) hm_61 rfl rfl rfl ?_
              refine ga_dup hm_61 rfl rfl ?_
              have e113_ : F104_ 344 5 = F 344 5 := (s106_ 344 5 rfl).trans (rfl)
              refine ga_geti (z := F 344 5) hm_61 rfl sc_344 rfl (e113_) ?_
              refine ga_aload_n (v := .ref 344) hm_61 rfl rfl rfl ?_
              refine gIi (nY := 1) (F := 0) (L := 0) (As := []) (b := 344) (rest := [.int (Int32.ofInt (F 344 5)), .ref 344]) hm_61 rfl hm_59 rfl rfl (fl_ob sc_344) rfl rfl rfl rfl rfl (by omega) (by omega) ?_
              intro f114_ l115_ h116_ h117_
              show fl_R xi_ms 59 f114_ l115_ 0 [(0, .ref 344)] [] _ _
              refine ga_aload_n (v := .ref 344) hm_59 rfl rfl rfl ?_
              have b118_ : 0 ≤ F104_ 344 9 ∧ F104_ 344 9 ≤ 5 := gi_g g105_ rfl
              refine ga_geti (z := F104_ 344 9) hm_59 rfl sc_344 rfl (rfl) ?_
              refine fl_if_le (a := F104_ 344 9) hm_59 rfl ⟨by omega, by omega⟩ (fun h119_ => ?_) (fun h120_ => ?_)
              · exfalso; omega
              refine fl_iconst hm_59 rfl ?_
              refine fl_goto hm_59 rfl ?_
              refine gr_i hm_59 rfl rfl (ga_nb (by omega)) ?_
              clear h116_ h117_ f114_ l115_
              refine fl_if_eq hm_61 rfl ⟨by omega, by omega⟩ (fun h => absurd h (by omega)) (fun _ => ?_)
              refine fl_iconst hm_61 rfl ?_
              refine fl_goto hm_61 rfl ?_
              refine ga_iadd (a := F 344 5) (b := 0) (c := F 344 5) hm_61 rfl (by omega) ?_
              refine ga_puti (z := F 344 5) hm_61 rfl sc_344 rfl rfl ?_
              refine gr_v hm_61 rfl rfl ?_
              clear h111_ h112_ f109_ l110_
              refine ga_iload (z := z46_) hm_185 rfl rfl ?_
              obtain ⟨F121_, q122_⟩ : ∃ F9_, F9_ = (fl_u F104_ 344 5 (F 344 5)) := ⟨_, rfl⟩
              rw [← q122_]
              have g123_ : gi F121_ := by rw [q122_]; exact gi_u (g105_) rfl (by omega) (by omega)
              have g124_ : fs [(344, 344, 5, 5), (344, 344, 9, 10)] F F121_ := by rw [q122_]; exact fs_u (g107_) rfl
              have rk125_ : rk K F121_ := by rw [q122_]; exact rk_u (rk108_) (by omega) (by omega)
              refine gr_i (z := z46_) hm_185 rfl rfl rfl ?_
              have e126_ : F121_ 344 9 = F104_ 344 9 := by rw [q122_]; exact fl_u_ne (by omega)
              have e127_ : F121_ 344 10 = F104_ 344 10 := by rw [q122_]; exact fl_u_ne (by omega)
              have e128_ : F121_ 344 5 = F 344 5 := by rw [q122_]; exact fl_u_eq
              have b129_ : 0 ≤ F104_ 344 10 ∧ F104_ 344 10 ≤ 600 := gi_g g105_ rfl
              exact Or.inl ⟨F121_, rfl, g123_, g124_, (by omega), (⟨by intro h0_; have hs_ := c102_s; rw [sp_term, if_pos (by rw [hT.1]; exact c14_.2), (ra_fa hT.2.1 (show nrel (K 6 (F 344 5).toNat) z43_ by rw [c44_, if_pos (by omega)]; exact (hvr.1 c14_.2).2) c47_ c48_ c49_ rfl), if_neg (by omega), if_neg (by omega)]; show Sum.inl (4, K 4 _) = _; congr 2 <;> omega, fun h0_ => by exfalso; omega⟩), (by omega), (by omega), (by unfold rz; intro h9_; omega)⟩
            exfalso; omega
          refine ga_aload_n (v := .ref 344) hm_185 rfl rfl rfl ?_
          refine fl_iconst hm_185 rfl ?_
          refine gVv (nY := 2) (F := 0) (L := 0) (As := [.int (Int32.ofInt 3)]) (b := 344) (rest := []) hm_185 rfl hm_54 rfl rfl (fl_ob sc_344) rfl rfl rfl rfl rfl (by omega) (by omega) (mc_54 hG F X hgi (K) (3) hgK hrk hkt (by omega) (by omega)) (fun _ _ h => False.elim h) ?_
          have b131_ : 0 ≤ F 344 10 ∧ F 344 10 ≤ 600 := gi_g hgi rfl
          rintro A1_ ⟨F135_, hA_, g136_, s137_, c132_, c133_, c134_⟩
          subst hA_
          have g138_ : fs [(344, 344, 5, 5), (344, 344, 9, 10)] F F135_ := fs_tr fs_refl s137_ rfl
          have rk139_ : rk K F135_ := rk_fs hrk s137_ (fun r k h => (fs_n (by omega) rfl)) (fs_n (by omega) rfl)
          have c133_s := c133_.1 (by omega)
          clear c133_
          refine ga_aload_n (v := .ref 344) hm_185 rfl rfl rfl ?_
          refine gIi (nY := 1) (F := 0) (L := 0) (As := []) (b := 344) (rest := []) hm_185 rfl hm_59 rfl rfl (fl_ob sc_344) rfl rfl rfl rfl rfl (by omega) (by omega) ?_
          intro f140_ l141_ h142_ h143_
          show fl_R xi_ms 59 f140_ l141_ 0 [(0, .ref 344)] [] _ _
          refine ga_aload_n (v := .ref 344) hm_59 rfl rfl rfl ?_
          have b144_ : 0 ≤ F135_ 344 9 ∧ F135_ 344 9 ≤ 5 := gi_g g136_ rfl
          refine ga_geti (z := F135_ 344 9) hm_59 rfl sc_344 rfl (rfl) ?_
          refine fl_if_le (a := F135_ 344 9) hm_59 rfl ⟨by omega, by omega⟩ (fun h145_ => ?_) (fun h146_ => ?_)
          · exfalso; omega
          refine fl_iconst hm_59 rfl ?_
          refine fl_goto hm_59 rfl ?_
          refine gr_i hm_59 rfl rfl (ga_nb (by omega)) ?_
          clear h142_ h143_ f140_ l141_
          refine fl_if_eq hm_185 rfl ⟨by omega, by omega⟩ (fun h => absurd h (by omega)) (fun _ => ?_)
          refine fl_iconst hm_185 rfl ?_
          refine gr_i (z := 0) hm_185 rfl rfl rfl ?_
          have e147_ : F135_ 344 5 = F 344 5 := (s137_ 344 5 rfl).trans (rfl)
          have b148_ : 0 ≤ F135_ 344 10 ∧ F135_ 344 10 ≤ 600 := gi_g g136_ rfl
          exact Or.inl ⟨F135_, rfl, g136_, g138_, (by omega), (⟨by intro h0_; have hs_ := c133_s; rw [sp_term, if_pos (by rw [hT.1]; exact c14_.2), (ra_fa hT.2.1 (show nrel (K 6 (F 344 5).toNat) z43_ by rw [c44_, if_pos (by omega)]; exact (hvr.1 c14_.2).2) c47_ c48_ c49_ rfl), if_pos (by omega)]; show Sum.inl (3, K 4 _) = _; congr 2 <;> omega, fun h0_ => by exfalso; omega⟩), (by omega), (by omega), (by unfold rz; intro h9_; omega)⟩
        exfalso; omega
      exfalso; omega
    refine ga_aload_n (v := .ref 344) hm_185 rfl rfl rfl ?_
    refine gIi (nY := 1) (F := 0) (L := 0) (As := []) (b := 344) (rest := []) hm_185 rfl hm_59 rfl rfl (fl_ob sc_344) rfl rfl rfl rfl rfl (by omega) (by omega) ?_
    intro f149_ l150_ h151_ h152_
    show fl_R xi_ms 59 f149_ l150_ 0 [(0, .ref 344)] [] _ _
    refine ga_aload_n (v := .ref 344) hm_59 rfl rfl rfl ?_
    refine ga_geti (z := F 344 9) hm_59 rfl sc_344 rfl (rfl) ?_
    refine fl_if_le (a := F 344 9) hm_59 rfl ⟨by omega, by omega⟩ (fun h153_ => ?_) (fun h154_ => ?_)
    · exfalso; omega
    refine fl_iconst hm_59 rfl ?_
    refine fl_goto hm_59 rfl ?_
    refine gr_i hm_59 rfl rfl (ga_nb (by omega)) ?_
    clear h151_ h152_ f149_ l150_
    refine fl_if_eq hm_185 rfl ⟨by omega, by omega⟩ (fun h => absurd h (by omega)) (fun _ => ?_)
    refine fl_iconst hm_185 rfl ?_
    refine gr_i (z := 0) hm_185 rfl rfl rfl ?_
    have b155_ : 0 ≤ F 344 10 ∧ F 344 10 ≤ 600 := gi_g hgi rfl
    have b156_ : 0 ≤ F 344 5 ∧ F 344 5 ≤ 600 := gi_g hgi rfl
    exact Or.inl ⟨F, rfl, hgi, fs_refl, (by omega), (⟨fun h0_ => by exfalso; omega, fun h0_ => by constructor <;> omega⟩), (by omega), (by omega), (by unfold rz; intro h9_; omega)⟩
  have hT : k = 2 ∧ rpn (F 364) (F 344 33) l ∧ rty (F 365) 0 tl := by rcases ht with h | h; exact h.2; omega
  have hT1 := hT.2.1.1
  have hnm := tk_name hkt hgK hp.1 hp.2
  refine fl_iconst hm_185 rfl ?_
  refine fl_goto hm_185 rfl ?_
  refine ga_istore_n (lv2 := [(3, .int (Int32.ofInt 1)), (0, .ref 344), (1, .int (Int32.ofInt a)), (2, .int (Int32.ofInt wn))]) hm_185 rfl (Nat.le_of_ble_eq_true rfl) rfl ?_
  have b157_ : 0 ≤ F 344 9 ∧ F 344 9 ≤ 5 := gi_g hgi rfl
  by_cases h158_ : F 344 9 = 0
  ·
    refine ga_aload_n (v := .ref 344) hm_185 rfl rfl rfl ?_
    refine gIi (nY := 1) (F := 0) (L := 0) (As := []) (b := 344) (rest := []) hm_185 rfl hm_59 rfl rfl (fl_ob sc_344) rfl rfl rfl rfl rfl (by omega) (by omega) ?_
    intro f159_ l160_ h161_ h162_
    show fl_R xi_ms 59 f159_ l160_ 0 [(0, .ref 344)] [] _ _
    refine ga_aload_n (v := .ref 344) hm_59 rfl rfl rfl ?_
    refine ga_geti (z := F 344 9) hm_59 rfl sc_344 rfl (rfl) ?_
    refine fl_if_le (a := F 344 9) hm_59 rfl ⟨by omega, by omega⟩ (fun h163_ => ?_) (fun h164_ => ?_)
    ·
      refine fl_iconst hm_59 rfl ?_
      refine gr_i hm_59 rfl rfl (ga_nb (by omega)) ?_
      clear h161_ h162_ f159_ l160_
      refine fl_if_eq hm_185 rfl ⟨by omega, by omega⟩ (fun _ => ?_) (fun h => absurd (by omega) h)
      refine ga_iload_n (z := 1) hm_185 rfl rfl ?_
      refine fl_if_eq hm_185 rfl ⟨by omega, by omega⟩ (fun h => absurd h (by omega)) (fun _ => ?_)
      refine ga_aload_n (v := .ref 344) hm_185 rfl rfl rfl ?_
      refine fl_iconst hm_185 rfl ?_
      have b165_ : 0 ≤ F 344 5 ∧ F 344 5 ≤ 600 := gi_g hgi rfl
      refine gVl (nY := 7) (F := 1) (L := 20) (As := [.int (Int32.ofInt 0)]) (b := 344) (rest := []) hm_185 rfl hm_60 rfl rfl (fl_ob sc_344) rfl rfl rfl rfl rfl (by omega) (by omega) (mc_60 hG F X hgi (K) (0) hgK hrk hkt (by omega) (by omega)) (fun _ _ h => False.elim h) ?_
      rintro z166_ A1_ ⟨hA_, c167_, c168_⟩
      subst hA_
      refine ga_lconst (z := 0) hm_185 rfl rfl ?_
      refine ga_lcmpn (a := z166_) (b := 0) hm_185 rfl rfl ⟨by omega, by omega⟩ ⟨by omega, by omega⟩ (fun h169_ => ?_) (fun h170_ => ?_)
      ·
        refine ga_aload_n (v := .ref 344) hm_185 rfl rfl rfl ?_
        refine gIi (nY := 1) (F := 0) (L := 0) (As := []) (b := 344) (rest := []) hm_185 rfl hm_59 rfl rfl (fl_ob sc_344) rfl rfl rfl rfl rfl (by omega) (by omega) ?_
        intro f171_ l172_ h173_ h174_
        show fl_R xi_ms 59 f171_ l172_ 0 [(0, .ref 344)] [] _ _
        refine ga_aload_n (v := .ref 344) hm_59 rfl rfl rfl ?_
        refine ga_geti (z := F 344 9) hm_59 rfl sc_344 rfl (rfl) ?_
        refine fl_if_le (a := F 344 9) hm_59 rfl ⟨by omega, by omega⟩ (fun h175_ => ?_) (fun h176_ => ?_)
        ·
          refine fl_iconst hm_59 rfl ?_
          refine gr_i hm_59 rfl rfl (ga_nb (by omega)) ?_
          clear h173_ h174_ f171_ l172_
          refine fl_if_eq hm_185 rfl ⟨by omega, by omega⟩ (fun _ => ?_) (fun h => absurd (by omega) h)
          refine ga_iload_n (z := 1) hm_185 rfl rfl ?_
          refine fl_if_eq hm_185 rfl ⟨by omega, by omega⟩ (fun h => absurd h (by omega)) (fun _ => ?_)
          have hK2 := nn_k hnm.2 (show z166_ = nmr (K 2) (K 4 (F 344 5).toNat) (K 5 (F 344 5).toNat) by rw [c167_, if_pos (by omega), Int.add_zero]) (by assumption)
          have hlt9 := rkt_lt hkt hp.2 (by rw [hK2]; omega)
          refine ga_aload_n (v := .ref 344) hm_185 rfl rfl rfl ?_
          refine ga_getr (b := 364) hm_185 rfl sc_344 rfl ?_
          refine fl_iconst hm_185 rfl ?_
          refine ga_aload_n (v := .ref 344) hm_185 rfl rfl rfl ?_
          have b177_ : 0 ≤ F 344 33 ∧ F 344 33 ≤ 6 := gi_g hgi rfl
          refine ga_geti (z := F 344 33) hm_185 rfl sc_344 rfl (rfl) ?_
          refine ga_aload_n (v := .ref 344) hm_185 rfl rfl rfl ?_
          refine fl_iconst hm_185 rfl ?_
          refine gVl (nY := 7) (F := 1) (L := 20) (As := [.int (Int32.ofInt 0)]) (b := 344) (rest := [.int (Int32.ofInt (F 344 33)), .int (Int32.ofInt 0), .ref 364]) hm_185 rfl hm_60 rfl rfl (fl_ob sc_344) rfl rfl rfl rfl rfl (by omega) (by omega) (mc_60 hG F X hgi (K) (0) hgK hrk hkt (by omega) (by omega)) (fun _ _ h => False.elim h) ?_
          rintro z178_ A1_ ⟨hA_, c179_, c180_⟩
          subst hA_
          refine gSi (nY := 7) (F := 0) (L := 0) (As := [.ref 364, .int (Int32.ofInt 0), .int (Int32.ofInt (F 344 33)), .long (Int64.ofInt z178_)]) (rest := []) hm_185 rfl hm_162 rfl rfl (fl_pos sc_0) rfl rfl rfl rfl (by omega) (by omega) (mc_162 hG F X hgi (364) (6) (0) (F 344 33) (z178_) sc_364 (fun _ => rfl) (by omega) (by omega))  ?_
          rintro z181_ A1_ ⟨hA_, c182_, c183_, c184_⟩
          subst hA_
          refine fl_goto hm_185 rfl ?_
          refine ga_istore (lv2 := [(4, .int (Int32.ofInt z181_)), (3, .int (Int32.ofInt 1)), (0, .ref 344), (1, .int (Int32.ofInt a)), (2, .int (Int32.ofInt wn))]) hm_185 rfl (Nat.le_of_ble_eq_true rfl) rfl ?_
          refine ga_iload (z := z181_) hm_185 rfl rfl ?_
          refine fl_iconst hm_185 rfl ?_
          refine fx_icmp_ne (a := z181_) (b := -1) hm_185 rfl ⟨by omega, by omega⟩ ⟨by omega, by omega⟩ (fun h185_ => ?_) (fun h186_ => ?_)
          ·
            refine ga_aload_n (v := .ref 344) hm_185 rfl rfl rfl ?_
            refine gIi (nY := 1) (F := 0) (L := 0) (As := []) (b := 344) (rest := []) hm_185 rfl hm_59 rfl rfl (fl_ob sc_344) rfl rfl rfl rfl rfl (by omega) (by omega) ?_
            intro f187_ l188_ h189_ h190_
            show fl_R xi_ms 59 f187_ l188_ 0 [(0, .ref 344)] [] _ _
            refine ga_aload_n (v := .ref 344) hm_59 rfl rfl rfl ?_
            refine ga_geti (z := F 344 9) hm_59 rfl sc_344 rfl (rfl) ?_
            refine fl_if_le (a := F 344 9) hm_59 rfl ⟨by omega, by omega⟩ (fun h191_ => ?_) (fun h192_ => ?_)
            ·
              refine fl_iconst hm_59 rfl ?_
              refine gr_i hm_59 rfl rfl (ga_nb (by omega)) ?_
              clear h189_ h190_ f187_ l188_
              refine fl_if_eq hm_185 rfl ⟨by omega, by omega⟩ (fun _ => ?_) (fun h => absurd (by omega) h)
              refine ga_iload_n (z := 1) hm_185 rfl rfl ?_
              refine fl_if_eq hm_185 rfl ⟨by omega, by omega⟩ (fun h => absurd h (by omega)) (fun _ => ?_)
              refine ga_aload_n (v := .ref 344) hm_185 rfl rfl rfl ?_
              refine ga_getr (b := 365) hm_185 rfl sc_344 rfl ?_
              refine ga_iload (z := z181_) hm_185 rfl rfl ?_
              have b193_ : 0 ≤ F 365 z181_.toNat ∧ F 365 z181_.toNat ≤ 4 := gi_g hgi rfl
              refine ga_iald (z := z181_) (w := F 365 z181_.toNat) hm_185 rfl sc_365 (by omega) (by omega) (by omega) (rfl) ?_
              refine fl_goto hm_185 rfl ?_
              refine ga_istore (lv2 := [(5, .int (Int32.ofInt (F 365 z181_.toNat))), (4, .int (Int32.ofInt z181_)), (3, .int (Int32.ofInt 1)), (0, .ref 344), (1, .int (Int32.ofInt a)), (2, .int (Int32.ofInt wn))]) hm_185 rfl (Nat.le_of_ble_eq_true rfl) rfl ?_
              have hty : F 365 (z181_).toNat = tl.getD (z181_).toNat 0 + 1 := by have h := rty_get hT.2.2 (j := (z181_).toNat) (by omega); rwa [Nat.zero_add] at h
              refine ga_iload_n (z := wn) hm_185 rfl rfl ?_
              refine fl_if_le (a := wn) hm_185 rfl ⟨by omega, by omega⟩ (fun h194_ => ?_) (fun h195_ => ?_)
              ·
                refine ga_aload_n (v := .ref 344) hm_185 rfl rfl rfl ?_
                refine gIv (nY := 1) (F := 1) (L := 20) (As := []) (b := 344) (rest := []) hm_185 rfl hm_61 rfl rfl (fl_ob sc_344) rfl rfl rfl rfl rfl (by omega) (by omega) ?_
                intro f196_ l197_ h198_ h199_
                show fl_R xi_ms 61 f196_ l197_ 0 [(0, .ref 344)] [] _ _
                refine ga_aload_n (v := .ref 344) hm_61 rfl rfl rfl ?_
                refine ga_dup hm_61 rfl rfl ?_
                refine ga_geti (z := F 344 5) hm_61 rfl sc_344 rfl (rfl) ?_
                refine ga_aload_n (v := .ref 344) hm_61 rfl rfl rfl ?_
                refine gIi (nY := 1) (F := 0) (L := 0) (As := []) (b := 344) (rest := [.int (Int32.ofInt (F 344 5)), .ref 344]) hm_61 rfl hm_59 rfl rfl (fl_ob sc_344) rfl rfl rfl rfl rfl (by omega) (by omega) ?_
                intro f200_ l201_ h202_ h203_
                show fl_R xi_ms 59 f200_ l201_ 0 [(0, .ref 344)] [] _ _
                refine ga_aload_n (v := .ref 344) hm_59 rfl rfl rfl ?_
                refine ga_geti (z := F 344 9) hm_59 rfl sc_344 rfl (rfl) ?_
                refine fl_if_le (a := F 344 9) hm_59 rfl ⟨by omega, by omega⟩ (fun h204_ => ?_) (fun h205_ => ?_)
                ·
                  refine fl_iconst hm_59 rfl ?_
                  refine gr_i hm_59 rfl rfl (ga_nb (by omega)) ?_
                  clear h202_ h203_ f200_ l201_
                  refine fl_if_eq hm_61 rfl ⟨by omega, by omega⟩ (fun _ => ?_) (fun h => absurd (by omega) h)
                  refine fl_iconst hm_61 rfl ?_
                  refine ga_iadd (a := F 344 5) (b := 1) (c := F 344 5 + 1) hm_61 rfl (by omega) ?_
                  refine ga_puti (z := F 344 5 + 1) hm_61 rfl sc_344 rfl rfl ?_
                  refine gr_v hm_61 rfl rfl ?_
                  clear h198_ h199_ f196_ l197_
                  refine ga_iload (z := z181_) hm_185 rfl rfl ?_
                  obtain ⟨F206_, q207_⟩ : ∃ F9_, F9_ = (fl_u F 344 5 (F 344 5 + 1)) := ⟨_, rfl⟩
                  rw [← q207_]
                  have g208_ : gi F206_ := by rw [q207_]; exact gi_u (hgi) rfl (by omega) (by omega)
                  have g209_ : fs [(344, 344, 5, 5), (344, 344, 9, 10)] F F206_ := by rw [q207_]; exact fs_u (fs_refl) rfl
                  have rk210_ : rk K F206_ := by rw [q207_]; exact rk_u (hrk) (by omega) (by omega)
                  refine gr_i (z := z181_) hm_185 rfl rfl rfl ?_
                  have e211_ : F206_ 344 9 = F 344 9 := by rw [q207_]; exact fl_u_ne (by omega)
                  have e212_ : F206_ 344 10 = F 344 10 := by rw [q207_]; exact fl_u_ne (by omega)
                  have e213_ : F206_ 344 5 = F 344 5 + 1 := by rw [q207_]; exact fl_u_eq
                  exact Or.inr (⟨F206_, rfl, g208_, g209_, (by omega), (by rw [sp_term, if_pos (by rw [hT.1]; exact nn_k hnm.2 (show z166_ = nmr (K 2) (K 4 (F 344 5).toNat) (K 5 (F 344 5).toNat) by rw [c167_, if_pos (by omega), Int.add_zero]) (by assumption)), (ra_fi hT.2.1 (nn_r hnm (show z178_ = nmr (K 2) (K 4 (F 344 5).toNat) (K 5 (F 344 5).toNat) by rw [c179_, if_pos (by omega), Int.add_zero]) (by rw [(show z178_ = nmr (K 2) (K 4 (F 344 5).toNat) (K 5 (F 344 5).toNat) by rw [c179_, if_pos (by omega), Int.add_zero]), ← (show z166_ = nmr (K 2) (K 4 (F 344 5).toNat) (K 5 (F 344 5).toNat) by rw [c167_, if_pos (by omega), Int.add_zero])]; assumption)) c182_ c183_ c184_), if_neg (by omega), if_pos (by omega), sk, if_pos (by omega)]; congr 1; omega), (by omega), (by omega), (by unfold rz; intro h9_; omega), ((ra_fi hT.2.1 (nn_r hnm (show z178_ = nmr (K 2) (K 4 (F 344 5).toNat) (K 5 (F 344 5).toNat) by rw [c179_, if_pos (by omega), Int.add_zero]) (by rw [(show z178_ = nmr (K 2) (K 4 (F 344 5).toNat) (K 5 (F 344 5).toNat) by rw [c179_, if_pos (by omega), Int.add_zero]), ← (show z166_ = nmr (K 2) (K 4 (F 344 5).toNat) (K 5 (F 344 5).toNat) by rw [c167_, if_pos (by omega), Int.add_zero])]; assumption)) c182_ c183_ c184_)), (by rw [sk, if_pos (by omega)]; omega)⟩)
                exfalso; omega
              refine ga_iload (z := F 365 z181_.toNat) hm_185 rfl rfl ?_
              refine ga_iload_n (z := wn) hm_185 rfl rfl ?_
              refine fl_icmp_eq (a := F 365 z181_.toNat) (b := wn) hm_185 rfl ⟨by omega, by omega⟩ ⟨by omega, by omega⟩ (fun h214_ => ?_) (fun h215_ => ?_)
              ·
                refine ga_aload_n (v := .ref 344) hm_185 rfl rfl rfl ?_
                refine gIv (nY := 1) (F := 1) (L := 20) (As := []) (b := 344) (rest := []) hm_185 rfl hm_61 rfl rfl (fl_ob sc_344) rfl rfl rfl rfl rfl (by omega) (by omega) ?_
                intro f216_ l217_ h218_ h219_
                show fl_R xi_ms 61 f216_ l217_ 0 [(0, .ref 344)] [] _ _
                refine ga_aload_n (v := .ref 344) hm_61 rfl rfl rfl ?_
                refine ga_dup hm_61 rfl rfl ?_
                refine ga_geti (z := F 344 5) hm_61 rfl sc_344 rfl (rfl) ?_
                refine ga_aload_n (v := .ref 344) hm_61 rfl rfl rfl ?_
                refine gIi (nY := 1) (F := 0) (L := 0) (As := []) (b := 344) (rest := [.int (Int32.ofInt (F 344 5)), .ref 344]) hm_61 rfl hm_59 rfl rfl (fl_ob sc_344) rfl rfl rfl rfl rfl (by omega) (by omega) ?_
                intro f220_ l221_ h222_ h223_
                show fl_R xi_ms 59 f220_ l221_ 0 [(0, .ref 344)] [] _ _
                refine ga_aload_n (v := .ref 344) hm_59 rfl rfl rfl ?_
                refine ga_geti (z := F 344 9) hm_59 rfl sc_344 rfl (rfl) ?_
                refine fl_if_le (a := F 344 9) hm_59 rfl ⟨by omega, by omega⟩ (fun h224_ => ?_) (fun h225_ => ?_)
                ·
                  refine fl_iconst hm_59 rfl ?_
                  refine gr_i hm_59 rfl rfl (ga_nb (by omega)) ?_
                  clear h222_ h223_ f220_ l221_
                  refine fl_if_eq hm_61 rfl ⟨by omega, by omega⟩ (fun _ => ?_) (fun h => absurd (by omega) h)
                  refine fl_iconst hm_61 rfl ?_
                  refine ga_iadd (a := F 344 5) (b := 1) (c := F 344 5 + 1) hm_61 rfl (by omega) ?_
                  refine ga_puti (z := F 344 5 + 1) hm_61 rfl sc_344 rfl rfl ?_
                  refine gr_v hm_61 rfl rfl ?_
                  clear h218_ h219_ f216_ l217_
                  refine ga_iload (z := z181_) hm_185 rfl rfl ?_
                  obtain ⟨F226_, q227_⟩ : ∃ F9_, F9_ = (fl_u F 344 5 (F 344 5 + 1)) := ⟨_, rfl⟩
                  rw [← q227_]
                  have g228_ : gi F226_ := by rw [q227_]; exact gi_u (hgi) rfl (by omega) (by omega)
                  have g229_ : fs [(344, 344, 5, 5), (344, 344, 9, 10)] F F226_ := by rw [q227_]; exact fs_u (fs_refl) rfl
                  have rk230_ : rk K F226_ := by rw [q227_]; exact rk_u (hrk) (by omega) (by omega)
                  refine gr_i (z := z181_) hm_185 rfl rfl rfl ?_
                  have e231_ : F226_ 344 9 = F 344 9 := by rw [q227_]; exact fl_u_ne (by omega)
                  have e232_ : F226_ 344 10 = F 344 10 := by rw [q227_]; exact fl_u_ne (by omega)
                  have e233_ : F226_ 344 5 = F 344 5 + 1 := by rw [q227_]; exact fl_u_eq
                  exact Or.inr (⟨F226_, rfl, g228_, g229_, (by omega), (by rw [sp_term, if_pos (by rw [hT.1]; exact nn_k hnm.2 (show z166_ = nmr (K 2) (K 4 (F 344 5).toNat) (K 5 (F 344 5).toNat) by rw [c167_, if_pos (by omega), Int.add_zero]) (by assumption)), (ra_fi hT.2.1 (nn_r hnm (show z178_ = nmr (K 2) (K 4 (F 344 5).toNat) (K 5 (F 344 5).toNat) by rw [c179_, if_pos (by omega), Int.add_zero]) (by rw [(show z178_ = nmr (K 2) (K 4 (F 344 5).toNat) (K 5 (F 344 5).toNat) by rw [c179_, if_pos (by omega), Int.add_zero]), ← (show z166_ = nmr (K 2) (K 4 (F 344 5).toNat) (K 5 (F 344 5).toNat) by rw [c167_, if_pos (by omega), Int.add_zero])]; assumption)) c182_ c183_ c184_), if_neg (by omega), if_pos (by omega), sk, if_pos (by omega)]; congr 1; omega), (by omega), (by omega), (by unfold rz; intro h9_; omega), ((ra_fi hT.2.1 (nn_r hnm (show z178_ = nmr (K 2) (K 4 (F 344 5).toNat) (K 5 (F 344 5).toNat) by rw [c179_, if_pos (by omega), Int.add_zero]) (by rw [(show z178_ = nmr (K 2) (K 4 (F 344 5).toNat) (K 5 (F 344 5).toNat) by rw [c179_, if_pos (by omega), Int.add_zero]), ← (show z166_ = nmr (K 2) (K 4 (F 344 5).toNat) (K 5 (F 344 5).toNat) by rw [c167_, if_pos (by omega), Int.add_zero])]; assumption)) c182_ c183_ c184_)), (by rw [sk, if_pos (by omega)]; omega)⟩)
                exfalso; omega
              refine ga_aload_n (v := .ref 344) hm_185 rfl rfl rfl ?_
              refine fl_iconst hm_185 rfl ?_
              refine gVv (nY := 2) (F := 0) (L := 0) (As := [.int (Int32.ofInt 4)]) (b := 344) (rest := []) hm_185 rfl hm_54 rfl rfl (fl_ob sc_344) rfl rfl rfl rfl rfl (by omega) (by omega) (mc_54 hG F X hgi (K) (4) hgK hrk hkt (by omega) (by omega)) (fun _ _ h => False.elim h) ?_
              have b235_ : 0 ≤ F 344 10 ∧ F 344 10 ≤ 600 := gi_g hgi rfl
              rintro A1_ ⟨F239_, hA_, g240_, s241_, c236_, c237_, c238_⟩
              subst hA_
              have g242_ : fs [(344, 344, 5, 5), (344, 344, 9, 10)] F F239_ := fs_tr fs_refl s241_ rfl
              have rk243_ : rk K F239_ := rk_fs hrk s241_ (fun r k h => (fs_n (by omega) rfl)) (fs_n (by omega) rfl)
              have c237_s := c237_.1 (by omega)
              clear c237_
              refine ga_aload_n (v := .ref 344) hm_185 rfl rfl rfl ?_
              refine gIv (nY := 1) (F := 1) (L := 20) (As := []) (b := 344) (rest := []) hm_185 rfl hm_61 rfl rfl (fl_ob sc_344) rfl rfl rfl rfl rfl (by omega) (by omega) ?_
              intro f244_ l245_ h246_ h247_
              show fl_R xi_ms 61 f244_ l245_ 0 [(0, .ref 344)] [] _ _
              refine ga_aload_n (v := .ref 344) hm_61 rfl rfl rfl ?_
              refine ga_dup hm_61 rfl rfl ?_
              have e248_ : F239_ 344 5 = F 344 5 := (s241_ 344 5 rfl).trans (rfl)
              refine ga_geti (z := F 344 5) hm_61 rfl sc_344 rfl (e248_) ?_
              refine ga_aload_n (v := .ref 344) hm_61 rfl rfl rfl ?_
              refine gIi (nY := 1) (F := 0) (L := 0) (As := []) (b := 344) (rest := [.int (Int32.ofInt (F 344 5)), .ref 344]) hm_61 rfl hm_59 rfl rfl (fl_ob sc_344) rfl rfl rfl rfl rfl (by omega) (by omega) ?_
              intro f249_ l250_ h251_ h252_
              show fl_R xi_ms 59 f249_ l250_ 0 [(0, .ref 344)] [] _ _
              refine ga_aload_n (v := .ref 344) hm_59 rfl rfl rfl ?_
              have b253_ : 0 ≤ F239_ 344 9 ∧ F239_ 344 9 ≤ 5 := gi_g g240_ rfl
              refine ga_geti (z := F239_ 344 9) hm_59 rfl sc_344 rfl (rfl) ?_
              refine fl_if_le (a := F239_ 344 9) hm_59 rfl ⟨by omega, by omega⟩ (fun h254_ => ?_) (fun h255_ => ?_)
              · exfalso; omega
              refine fl_iconst hm_59 rfl ?_
              refine fl_goto hm_59 rfl ?_
              refine gr_i hm_59 rfl rfl (ga_nb (by omega)) ?_
              clear h251_ h252_ f249_ l250_
              refine fl_if_eq hm_61 rfl ⟨by omega, by omega⟩ (fun h => absurd h (by omega)) (fun _ => ?_)
              refine fl_iconst hm_61 rfl ?_
              refine fl_goto hm_61 rfl ?_
              refine ga_iadd (a := F 344 5) (b := 0) (c := F 344 5) hm_61 rfl (by omega) ?_
              refine ga_puti (z := F 344 5) hm_61 rfl sc_344 rfl rfl ?_
              refine gr_v hm_61 rfl rfl ?_
              clear h246_ h247_ f244_ l245_
              refine ga_iload (z := z181_) hm_185 rfl rfl ?_
              obtain ⟨F256_, q257_⟩ : ∃ F9_, F9_ = (fl_u F239_ 344 5 (F 344 5)) := ⟨_, rfl⟩
              rw [← q257_]
              have g258_ : gi F256_ := by rw [q257_]; exact gi_u (g240_) rfl (by omega) (by omega)
              have g259_ : fs [(344, 344, 5, 5), (344, 344, 9, 10)] F F256_ := by rw [q257_]; exact fs_u (g242_) rfl
              have rk260_ : rk K F256_ := by rw [q257_]; exact rk_u (rk243_) (by omega) (by omega)
              refine gr_i (z := z181_) hm_185 rfl rfl rfl ?_
              have e261_ : F256_ 344 9 = F239_ 344 9 := by rw [q257_]; exact fl_u_ne (by omega)
              have e262_ : F256_ 344 10 = F239_ 344 10 := by rw [q257_]; exact fl_u_ne (by omega)
              have e263_ : F256_ 344 5 = F 344 5 := by rw [q257_]; exact fl_u_eq
              have b264_ : 0 ≤ F239_ 344 10 ∧ F239_ 344 10 ≤ 600 := gi_g g240_ rfl
              exact Or.inl ⟨F256_, rfl, g258_, g259_, (by omega), (⟨by intro h0_; have hs_ := c237_s; rw [sp_term, if_pos (by rw [hT.1]; exact nn_k hnm.2 (show z166_ = nmr (K 2) (K 4 (F 344 5).toNat) (K 5 (F 344 5).toNat) by rw [c167_, if_pos (by omega), Int.add_zero]) (by assumption)), (ra_fi hT.2.1 (nn_r hnm (show z178_ = nmr (K 2) (K 4 (F 344 5).toNat) (K 5 (F 344 5).toNat) by rw [c179_, if_pos (by omega), Int.add_zero]) (by rw [(show z178_ = nmr (K 2) (K 4 (F 344 5).toNat) (K 5 (F 344 5).toNat) by rw [c179_, if_pos (by omega), Int.add_zero]), ← (show z166_ = nmr (K 2) (K 4 (F 344 5).toNat) (K 5 (F 344 5).toNat) by rw [c167_, if_pos (by omega), Int.add_zero])]; assumption)) c182_ c183_ c184_), if_neg (by omega), if_neg (by omega)]; show Sum.inl (4, K 4 _) = _; congr 2 <;> omega, fun h0_ => by exfalso; omega⟩), (by omega), (by omega), (by unfold rz; intro h9_; omega)⟩
            exfalso; omega
          refine ga_aload_n (v := .ref 344) hm_185 rfl rfl rfl ?_
          refine fl_iconst hm_185 rfl ?_
          refine gVv (nY := 2) (F := 0) (L := 0) (As := [.int (Int32.ofInt 3)]) (b := 344) (rest := []) hm_185 rfl hm_54 rfl rfl (fl_ob sc_344) rfl rfl rfl rfl rfl (by omega) (by omega) (mc_54 hG F X hgi (K) (3) hgK hrk hkt (by omega) (by omega)) (fun _ _ h => False.elim h) ?_
          have b266_ : 0 ≤ F 344 10 ∧ F 344 10 ≤ 600 := gi_g hgi rfl
          rintro A1_ ⟨F270_, hA_, g271_, s272_, c267_, c268_, c269_⟩
          subst hA_
          have g273_ : fs [(344, 344, 5, 5), (344, 344, 9, 10)] F F270_ := fs_tr fs_refl s272_ rfl
          have rk274_ : rk K F270_ := rk_fs hrk s272_ (fun r k h => (fs_n (by omega) rfl)) (fs_n (by omega) rfl)
          have c268_s := c268_.1 (by omega)
          clear c268_
          refine ga_aload_n (v := .ref 344) hm_185 rfl rfl rfl ?_
          refine gIi (nY := 1) (F := 0) (L := 0) (As := []) (b := 344) (rest := []) hm_185 rfl hm_59 rfl rfl (fl_ob sc_344) rfl rfl rfl rfl rfl (by omega) (by omega) ?_
          intro f275_ l276_ h277_ h278_
          show fl_R xi_ms 59 f275_ l276_ 0 [(0, .ref 344)] [] _ _
          refine ga_aload_n (v := .ref 344) hm_59 rfl rfl rfl ?_
          have b279_ : 0 ≤ F270_ 344 9 ∧ F270_ 344 9 ≤ 5 := gi_g g271_ rfl
          refine ga_geti (z := F270_ 344 9) hm_59 rfl sc_344 rfl (rfl) ?_
          refine fl_if_le (a := F270_ 344 9) hm_59 rfl ⟨by omega, by omega⟩ (fun h280_ => ?_) (fun h281_ => ?_)
          · exfalso; omega
          refine fl_iconst hm_59 rfl ?_
          refine fl_goto hm_59 rfl ?_
          refine gr_i hm_59 rfl rfl (ga_nb (by omega)) ?_
          clear h277_ h278_ f275_ l276_
          refine fl_if_eq hm_185 rfl ⟨by omega, by omega⟩ (fun h => absurd h (by omega)) (fun _ => ?_)
          refine fl_iconst hm_185 rfl ?_
          refine gr_i (z := 0) hm_185 rfl rfl rfl ?_
          have e282_ : F270_ 344 5 = F 344 5 := (s272_ 344 5 rfl).trans (rfl)
          have b283_ : 0 ≤ F270_ 344 10 ∧ F270_ 344 10 ≤ 600 := gi_g g271_ rfl
          exact Or.inl ⟨F270_, rfl, g271_, g273_, (by omega), (⟨by intro h0_; have hs_ := c268_s; rw [sp_term, if_pos (by rw [hT.1]; exact nn_k hnm.2 (show z166_ = nmr (K 2) (K 4 (F 344 5).toNat) (K 5 (F 344 5).toNat) by rw [c167_, if_pos (by omega), Int.add_zero]) (by assumption)), (ra_fi hT.2.1 (nn_r hnm (show z178_ = nmr (K 2) (K 4 (F 344 5).toNat) (K 5 (F 344 5).toNat) by rw [c179_, if_pos (by omega), Int.add_zero]) (by rw [(show z178_ = nmr (K 2) (K 4 (F 344 5).toNat) (K 5 (F 344 5).toNat) by rw [c179_, if_pos (by omega), Int.add_zero]), ← (show z166_ = nmr (K 2) (K 4 (F 344 5).toNat) (K 5 (F 344 5).toNat) by rw [c167_, if_pos (by omega), Int.add_zero])]; assumption)) c182_ c183_ c184_), if_pos (by omega)]; show Sum.inl (3, K 4 _) = _; congr 2 <;> omega, fun h0_ => by exfalso; omega⟩), (by omega), (by omega), (by unfold rz; intro h9_; omega)⟩
        exfalso; omega
      refine fl_goto hm_185 rfl ?_
      refine ga_aload_n (v := .ref 344) hm_185 rfl rfl rfl ?_
      refine fl_iconst hm_185 rfl ?_
      refine gVv (nY := 2) (F := 0) (L := 0) (As := [.int (Int32.ofInt 1)]) (b := 344) (rest := []) hm_185 rfl hm_54 rfl rfl (fl_ob sc_344) rfl rfl rfl rfl rfl (by omega) (by omega) (mc_54 hG F X hgi (K) (1) hgK hrk hkt (by omega) (by omega)) (fun _ _ h => False.elim h) ?_
      have b285_ : 0 ≤ F 344 10 ∧ F 344 10 ≤ 600 := gi_g hgi rfl
      rintro A1_ ⟨F289_, hA_, g290_, s291_, c286_, c287_, c288_⟩
      subst hA_
      have g292_ : fs [(344, 344, 5, 5), (344, 344, 9, 10)] F F289_ := fs_tr fs_refl s291_ rfl
      have rk293_ : rk K F289_ := rk_fs hrk s291_ (fun r k h => (fs_n (by omega) rfl)) (fs_n (by omega) rfl)
      have c287_s := c287_.1 (by omega)
      clear c287_
      refine ga_aload_n (v := .ref 344) hm_185 rfl rfl rfl ?_
      refine gIi (nY := 1) (F := 0) (L := 0) (As := []) (b := 344) (rest := []) hm_185 rfl hm_59 rfl rfl (fl_ob sc_344) rfl rfl rfl rfl rfl (by omega) (by omega) ?_
      intro f294_ l295_ h296_ h297_
      show fl_R xi_ms 59 f294_ l295_ 0 [(0, .ref 344)] [] _ _
      refine ga_aload_n (v := .ref 344) hm_59 rfl rfl rfl ?_
      have b298_ : 0 ≤ F289_ 344 9 ∧ F289_ 344 9 ≤ 5 := gi_g g290_ rfl
      refine ga_geti (z := F289_ 344 9) hm_59 rfl sc_344 rfl (rfl) ?_
      refine fl_if_le (a := F289_ 344 9) hm_59 rfl ⟨by omega, by omega⟩ (fun h299_ => ?_) (fun h300_ => ?_)
      · exfalso; omega
      refine fl_iconst hm_59 rfl ?_
      refine fl_goto hm_59 rfl ?_
      refine gr_i hm_59 rfl rfl (ga_nb (by omega)) ?_
      clear h296_ h297_ f294_ l295_
      refine fl_if_eq hm_185 rfl ⟨by omega, by omega⟩ (fun h => absurd h (by omega)) (fun _ => ?_)
      refine fl_iconst hm_185 rfl ?_
      refine gr_i (z := 0) hm_185 rfl rfl rfl ?_
      have e301_ : F289_ 344 5 = F 344 5 := (s291_ 344 5 rfl).trans (rfl)
      have b302_ : 0 ≤ F289_ 344 10 ∧ F289_ 344 10 ≤ 600 := gi_g g290_ rfl
      exact Or.inl ⟨F289_, rfl, g290_, g292_, (by omega), (⟨by intro h0_; have hs_ := c287_s; rw [sp_term, if_neg (by rw [hT.1]; exact nn_n hnm.1 (show z166_ = nmr (K 2) (K 4 (F 344 5).toNat) (K 5 (F 344 5).toNat) by rw [c167_, if_pos (by omega), Int.add_zero]) (by assumption))]; show Sum.inl (1, K 4 _) = _; congr 2 <;> omega, fun h0_ => by exfalso; omega⟩), (by omega), (by omega), (by unfold rz; intro h9_; omega)⟩
    exfalso; omega
  refine ga_aload_n (v := .ref 344) hm_185 rfl rfl rfl ?_
  refine gIi (nY := 1) (F := 0) (L := 0) (As := []) (b := 344) (rest := []) hm_185 rfl hm_59 rfl rfl (fl_ob sc_344) rfl rfl rfl rfl rfl (by omega) (by omega) ?_
  intro f303_ l304_ h305_ h306_
  show fl_R xi_ms 59 f303_ l304_ 0 [(0, .ref 344)] [] _ _
  refine ga_aload_n (v := .ref 344) hm_59 rfl rfl rfl ?_
  refine ga_geti (z := F 344 9) hm_59 rfl sc_344 rfl (rfl) ?_
  refine fl_if_le (a := F 344 9) hm_59 rfl ⟨by omega, by omega⟩ (fun h307_ => ?_) (fun h308_ => ?_)
  · exfalso; omega
  refine fl_iconst hm_59 rfl ?_
  refine fl_goto hm_59 rfl ?_
  refine gr_i hm_59 rfl rfl (ga_nb (by omega)) ?_
  clear h305_ h306_ f303_ l304_
  refine fl_if_eq hm_185 rfl ⟨by omega, by omega⟩ (fun h => absurd h (by omega)) (fun _ => ?_)
  refine fl_iconst hm_185 rfl ?_
  refine gr_i (z := 0) hm_185 rfl rfl rfl ?_
  have b309_ : 0 ≤ F 344 10 ∧ F 344 10 ≤ 600 := gi_g hgi rfl
  have b310_ : 0 ≤ F 344 5 ∧ F 344 5 ≤ 600 := gi_g hgi rfl
  exact Or.inl ⟨F, rfl, hgi, fs_refl, (by omega), (⟨fun h0_ => by exfalso; omega, fun h0_ => by constructor <;> omega⟩), (by omega), (by omega), (by unfold rz; intro h9_; omega)⟩

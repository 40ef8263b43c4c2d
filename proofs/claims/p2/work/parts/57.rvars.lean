/- CheapPlannerModel.readPredicateVariables -/
abbrev pq_183 (G : Nat → Nat → Option Nat) (F : fl_N) (X : xi_H) (K : fl_N) (ts : List Int) : Outcome → xi_H → Prop := gqi (fun z A => (∃ F' : fl_N, fl_H sh_T G F' ++ X = A ∧ gi F' ∧ fs [(344, 344, 5, 5), (344, 344, 9, 10), (352, 352, 0, 100000), (383, 383, 0, 100000)] F F' ∧ (¬ F' 344 9 = 0) ∧ ((F 344 9 = 0 → sp_p1 K ts 2 [] [] (F 344 5) = .inl (F' 344 9, F' 344 10)) ∧ (¬ F 344 9 = 0 → F' 344 9 = F 344 9 ∧ F' 344 10 = F 344 10)) ∧ (0 ≤ F' 344 5 ∧ F' 344 5 ≤ K 1 6 - 1) ∧ (0 ≤ z ∧ z ≤ 2)) ∨ (∃ F' : fl_N, fl_H sh_T G F' ++ X = A ∧ gi F' ∧ fs [(344, 344, 5, 5), (344, 344, 9, 10), (352, 352, 0, 100000), (383, 383, 0, 100000)] F F' ∧ (F' 344 9 = 0 ∧ F 344 9 = 0) ∧ (∃ l tl, (sp_p1 K ts 2 [] [] (F 344 5) = .inr (F' 344 5, l, tl) ∧ K 3 (F' 344 5).toNat = 1) ∧ (z = (tl.length : Int) ∧ tl.length = l.length) ∧ rty (F' 352) (2 * (F 344 17)).toNat tl ∧ ∀ j : Nat, (j : Int) < 2 * F 344 17 → F' 352 j = F 352 j) ∧ (0 ≤ F' 344 5 ∧ F' 344 5 ≤ K 1 6 - 1) ∧ (0 ≤ z ∧ z ≤ 2))) gqn
theorem mc_183 {G : Nat → Nat → Option Nat} (hG : gg G) (F : fl_N) (X : xi_H) (hgi : gi F) (K : fl_N) (ts : List Int) (hgK : gi K) (hrk : rk K F) (hkt : rkt K) (hp : 0 ≤ F 344 5 ∧ F 344 5 ≤ K 1 6 - 1) (hts : rpn (F 349) (F 344 15) ts) (h17 : F 344 17 ≤ 5) : fl_M xi_ms 183 4 89 [.ref 344] (fl_H sh_T G F ++ X) (pq_183 G F X K ts) := by
  intro fr lo hfr hlo
  show fl_R xi_ms 183 fr lo 0 [(0, .ref 344)] [] _ _
  have hP := (rkt_p hkt hp.1 hp.2 hgK).1
  have hK16 : 0 ≤ K 1 6 ∧ K 1 6 ≤ 601 := gi_g hgK rfl
  have hko := hkt.1
  have b1_ : 0 ≤ F 344 9 ∧ F 344 9 ≤ 5 := gi_g hgi rfl
  by_cases h2_ : F 344 9 = 0
  ·
    refine fl_iconst hm_183 rfl ?_
    refine ga_istore_n (lv2 := [(1, .int (Int32.ofInt 0)), (0, .ref 344)]) hm_183 rfl (Nat.le_of_ble_eq_true rfl) rfl ?_
    have L4_ : ∀ (n3_ : Nat) (n : Int) (l : List Int) (tl : List Int) (F1 : fl_N), (3 - n : Int).toNat = n3_ → (gi F1) → (fs [(344, 344, 5, 5), (344, 344, 9, 10), (352, 352, 0, 100000), (383, 383, 0, 100000)] F F1) → (F1 344 9 = 0) → (0 ≤ n ∧ n ≤ 2 ∧ (l.length : Int) = n ∧ (tl.length : Int) = n) → (rpn (F1 383) n l) → (rty (F1 352) (2 * (F 344 17)).toNat tl) → (∀ j : Nat, (j : Int) < 2 * F 344 17 → F1 352 j = F 352 j) → (0 ≤ F1 344 5 ∧ F1 344 5 ≤ K 1 6 - 1) → (sp_p1 K ts 2 [] [] (F 344 5) = sp_p1 K ts (2 - l.length) l tl (F1 344 5)) → fl_R xi_ms 183 fr lo 2 [(1, .int (Int32.ofInt n)), (0, .ref 344)] [] (fl_H sh_T G F1 ++ X) (pq_183 G F X K ts) := by
      intro n3_
      induction n3_ using Nat.strongRecOn with
      | ind n3_ ih5_ =>
      intro n l tl F1 hn6_ hg_F1 hf_F1 hk hn hsc hty hold hp1 hsp
      have g7_ : fs [(344, 344, 5, 5), (344, 344, 9, 10), (352, 352, 0, 100000), (383, 383, 0, 100000)] F F1 := fs_tr fs_refl hf_F1 rfl
      have rk8_ : rk K F1 := rk_fs hrk hf_F1 (fun r k h => (fs_n (by omega) (fs_n (by omega) (fs_n (by omega) (fs_n (by omega) rfl))))) (fs_n (by omega) (fs_n (by omega) (fs_n (by omega) (fs_n (by omega) rfl))))
      have hP1 := (rkt_p hkt (p := F1 344 5) (by omega) (by omega) hgK).1
      refine ga_aload_n (v := .ref 344) hm_183 rfl rfl rfl ?_
      refine gIi (nY := 1) (F := 0) (L := 0) (As := []) (b := 344) (rest := []) hm_183 rfl hm_59 rfl rfl (fl_ob sc_344) rfl rfl rfl rfl rfl (by omega) (by omega) ?_
      intro f9_ l10_ h11_ h12_
      show fl_R xi_ms 59 f9_ l10_ 0 [(0, .ref 344)] [] _ _
      refine ga_aload_n (v := .ref 344) hm_59 rfl rfl rfl ?_
      have b13_ : 0 ≤ F1 344 9 ∧ F1 344 9 ≤ 5 := gi_g hg_F1 rfl
      refine ga_geti (z := F1 344 9) hm_59 rfl sc_344 rfl (rfl) ?_
      refine fl_if_le (a := F1 344 9) hm_59 rfl ⟨by omega, by omega⟩ (fun h14_ => ?_) (fun h15_ => ?_)
      ·
        refine fl_iconst hm_59 rfl ?_
        refine gr_i hm_59 rfl rfl (ga_nb (by omega)) ?_
        clear h11_ h12_ f9_ l10_
        refine fl_if_ne hm_183 rfl ⟨by omega, by omega⟩ (fun h => absurd h (by omega)) (fun _ => ?_)
        refine ga_aload_n (v := .ref 344) hm_183 rfl rfl rfl ?_
        refine fl_bipush hm_183 rfl rfl ?_
        have b16_ : 0 ≤ F1 344 5 ∧ F1 344 5 ≤ 600 := gi_g hg_F1 rfl
        refine gVi (nY := 2) (F := 1) (L := 20) (As := [.int (Int32.ofInt 41)]) (b := 344) (rest := []) hm_183 rfl hm_52 rfl rfl (fl_ob sc_344) rfl rfl rfl rfl rfl (by omega) (by omega) (mc_52 hG F1 X hg_F1 (K) (41) hgK rk8_ hkt (by omega) (by omega)) (fun _ _ h => False.elim h) ?_
        rintro z17_ A1_ (⟨hA_, hz_, c18_⟩ | ⟨hA_, hz_, c19_, c20_⟩)
        ·
          subst hA_
          subst hz_
          refine fl_if_ne hm_183 rfl ⟨by omega, by omega⟩ (fun h => absurd h (by omega)) (fun _ => ?_)
          refine ga_iload_n (z := n) hm_183 rfl rfl ?_
          refine fl_iconst hm_183 rfl ?_
          refine fl_icmp_eq (a := n) (b := 2) hm_183 rfl ⟨by omega, by omega⟩ ⟨by omega, by omega⟩ (fun h21_ => ?_) (fun h22_ => ?_)
          ·
            refine ga_aload_n (v := .ref 344) hm_183 rfl rfl rfl ?_
            refine fl_iconst hm_183 rfl ?_
            refine gVv (nY := 2) (F := 0) (L := 0) (As := [.int (Int32.ofInt 1)]) (b := 344) (rest := []) hm_183 rfl hm_54 rfl rfl (fl_ob sc_344) rfl rfl rfl rfl rfl (by omega) (by omega) (mc_54 hG F1 X hg_F1 (K) (1) hgK rk8_ hkt (by omega) (by omega)) (fun _ _ h => False.elim h) ?_
            have b24_ : 0 ≤ F1 344 10 ∧ F1 344 10 ≤ 600 := gi_g hg_F1 rfl
            rintro A1_ ⟨F28_, hA_, g29_, s30_, c25_, c26_, c27_⟩
            subst hA_
            have g31_ : fs [(344, 344, 5, 5), (344, 344, 9, 10), (352, 352, 0, 100000), (383, 383, 0, 100000)] F F28_ := fs_tr g7_ s30_ rfl
            have rk32_ : rk K F28_ := rk_fs rk8_ s30_ (fun r k h => (fs_n (by omega) rfl)) (fs_n (by omega) rfl)
            have c26_s := c26_.1 (by omega)
            clear c26_
            refine ga_aload_n (v := .ref 344) hm_183 rfl rfl rfl ?_
            refine gIi (nY := 1) (F := 0) (L := 0) (As := []) (b := 344) (rest := []) hm_183 rfl hm_59 rfl rfl (fl_ob sc_344) rfl rfl rfl rfl rfl (by omega) (by omega) ?_
            intro f33_ l34_ h35_ h36_
            show fl_R xi_ms 59 f33_ l34_ 0 [(0, .ref 344)] [] _ _
            refine ga_aload_n (v := .ref 344) hm_59 rfl rfl rfl ?_
            have b37_ : 0 ≤ F28_ 344 9 ∧ F28_ 344 9 ≤ 5 := gi_g g29_ rfl
            refine ga_geti (z := F28_ 344 9) hm_59 rfl sc_344 rfl (rfl) ?_
            refine fl_if_le (a := F28_ 344 9) hm_59 rfl ⟨by omega, by omega⟩ (fun h38_ => ?_) (fun h39_ => ?_)
            · exfalso; omega
            refine fl_iconst hm_59 rfl ?_
            refine fl_goto hm_59 rfl ?_
            refine gr_i hm_59 rfl rfl (ga_nb (by omega)) ?_
            clear h35_ h36_ f33_ l34_
            refine fl_if_eq hm_183 rfl ⟨by omega, by omega⟩ (fun h => absurd h (by omega)) (fun _ => ?_)
            refine ga_lconst (z := 0) hm_183 rfl rfl ?_
            refine fl_goto hm_183 rfl ?_
            
            refine ga_lstore_n (lv2 := [(2, .long (Int64.ofInt 0)), (1, .int (Int32.ofInt n)), (0, .ref 344)]) hm_183 rfl (Nat.le_of_ble_eq_true rfl) rfl ?_
            refine ga_aload_n (v := .ref 344) hm_183 rfl rfl rfl ?_
            refine gIi (nY := 1) (F := 0) (L := 0) (As := []) (b := 344) (rest := []) hm_183 rfl hm_59 rfl rfl (fl_ob sc_344) rfl rfl rfl rfl rfl (by omega) (by omega) ?_
            intro f40_ l41_ h42_ h43_
            show fl_R xi_ms 59 f40_ l41_ 0 [(0, .ref 344)] [] _ _
            refine ga_aload_n (v := .ref 344) hm_59 rfl rfl rfl ?_
            refine ga_geti (z := F28_ 344 9) hm_59 rfl sc_344 rfl (rfl) ?_
            refine fl_if_le (a := F28_ 344 9) hm_59 rfl ⟨by omega, by omega⟩ (fun h44_ => ?_) (fun h45_ => ?_)
            · exfalso; omega
            refine fl_iconst hm_59 rfl ?_
            refine fl_goto hm_59 rfl ?_
            refine gr_i hm_59 rfl rfl (ga_nb (by omega)) ?_
            clear h42_ h43_ f40_ l41_
            refine fl_if_ne hm_183 rfl ⟨by omega, by omega⟩ (fun _ => ?_) (fun h => absurd (by omega) h)
            refine ga_aload_n (v := .ref 344) hm_183 rfl rfl rfl ?_
            refine gIv (nY := 1) (F := 1) (L := 20) (As := []) (b := 344) (rest := []) hm_183 rfl hm_61 rfl rfl (fl_ob sc_344) rfl rfl rfl rfl rfl (by omega) (by omega) ?_
            intro f46_ l47_ h48_ h49_
            show fl_R xi_ms 61 f46_ l47_ 0 [(0, .ref 344)] [] _ _
            refine ga_aload_n (v := .ref 344) hm_61 rfl rfl rfl ?_
            refine ga_dup hm_61 rfl rfl ?_
            have e50_ : F28_ 344 5 = F1 344 5 := (s30_ 344 5 rfl).trans (rfl)
            refine ga_geti (z := F1 344 5) hm_61 rfl sc_344 rfl (e50_) ?_
            refine ga_aload_n (v := .ref 344) hm_61 rfl rfl rfl ?_
            refine gIi (nY := 1) (F := 0) (L := 0) (As := []) (b := 344) (rest := [.int (Int32.ofInt (F1 344 5)), .ref 344]) hm_61 rfl hm_59 rfl rfl (fl_ob sc_344) rfl rfl rfl rfl rfl (by omega) (by omega) ?_
            intro f51_ l52_ h53_ h54_
            show fl_R xi_ms 59 f51_ l52_ 0 [(0, .ref 344)] [] _ _
            refine ga_aload_n (v := .ref 344) hm_59 rfl rfl rfl ?_
            refine ga_geti (z := F28_ 344 9) hm_59 rfl sc_344 rfl (rfl) ?_
            refine fl_if_le (a := F28_ 344 9) hm_59 rfl ⟨by omega, by omega⟩ (fun h55_ => ?_) (fun h56_ => ?_)
            · exfalso; omega
            refine fl_iconst hm_59 rfl ?_
            refine fl_goto hm_59 rfl ?_
            refine gr_i hm_59 rfl rfl (ga_nb (by omega)) ?_
            clear h53_ h54_ f51_ l52_
            refine fl_if_eq hm_61 rfl ⟨by omega, by omega⟩ (fun h => absurd h (by omega)) (fun _ => ?_)
            refine fl_iconst hm_61 rfl ?_
            refine fl_goto hm_61 rfl ?_
            refine ga_iadd (a := F1 344 5) (b := 0) (c := F1 344 5) hm_61 rfl (by omega) ?_
            refine ga_puti (z := F1 344 5) hm_61 rfl sc_344 rfl rfl ?_
            refine gr_v hm_61 rfl rfl ?_
            clear h48_ h49_ f46_ l47_
            refine ga_aload_n (v := .ref 344) hm_183 rfl rfl rfl ?_
            refine gIi (nY := 1) (F := 0) (L := 0) (As := []) (b := 344) (rest := []) hm_183 rfl hm_59 rfl rfl (fl_ob sc_344) rfl rfl rfl rfl rfl (by omega) (by omega) ?_
            intro f57_ l58_ h59_ h60_
            show fl_R xi_ms 59 f57_ l58_ 0 [(0, .ref 344)] [] _ _
            refine ga_aload_n (v := .ref 344) hm_59 rfl rfl rfl ?_
            refine ga_geti (z := F28_ 344 9) hm_59 rfl sc_344 rfl (fl_u_ne (by omega)) ?_
            refine fl_if_le (a := F28_ 344 9) hm_59 rfl ⟨by omega, by omega⟩ (fun h61_ => ?_) (fun h62_ => ?_)
            · exfalso; omega
            refine fl_iconst hm_59 rfl ?_
            refine fl_goto hm_59 rfl ?_
            refine gr_i hm_59 rfl rfl (ga_nb (by omega)) ?_
            clear h59_ h60_ f57_ l58_
            refine fl_if_eq hm_183 rfl ⟨by omega, by omega⟩ (fun h => absurd h (by omega)) (fun _ => ?_)
            refine ga_iload_n (z := n) hm_183 rfl rfl ?_
            obtain ⟨F63_, q64_⟩ : ∃ F9_, F9_ = (fl_u F28_ 344 5 (F1 344 5)) := ⟨_, rfl⟩
            rw [← q64_]
            have g65_ : gi F63_ := by rw [q64_]; exact gi_u (g29_) rfl (by omega) (by omega)
            have g66_ : fs [(344, 344, 5, 5), (344, 344, 9, 10), (352, 352, 0, 100000), (383, 383, 0, 100000)] F F63_ := by rw [q64_]; exact fs_u (g31_) rfl
            have rk67_ : rk K F63_ := by rw [q64_]; exact rk_u (rk32_) (by omega) (by omega)
            refine gr_i (z := n) hm_183 rfl rfl rfl ?_
            have e68_ : F63_ 344 9 = F28_ 344 9 := by rw [q64_]; exact fl_u_ne (by omega)
            have e69_ : F63_ 344 10 = F28_ 344 10 := by rw [q64_]; exact fl_u_ne (by omega)
            have e70_ : F63_ 344 5 = F1 344 5 := by rw [q64_]; exact fl_u_eq
            have b71_ : 0 ≤ F28_ 344 10 ∧ F28_ 344 10 ≤ 600 := gi_g g29_ rfl
            have b72_ : 0 ≤ F 344 10 ∧ F 344 10 ≤ 600 := gi_g hgi rfl
            have b73_ : 0 ≤ F 344 5 ∧ F 344 5 ≤ 600 := gi_g hgi rfl
            exact Or.inl ⟨F63_, rfl, g65_, g66_, (by omega), (⟨by intro h0_; have hs_ := c26_s; rw [hsp, sp1_z (by omega) (by omega)]; congr 2 <;> omega, fun h0_ => by exfalso; omega⟩), (by omega), (by omega)⟩
          refine ga_aload_n (v := .ref 344) hm_183 rfl rfl rfl ?_
          refine gVi (nY := 1) (F := 2) (L := 46) (As := []) (b := 344) (rest := []) hm_183 rfl hm_169 rfl rfl (fl_ob sc_344) rfl rfl rfl rfl rfl (by omega) (by omega) (mc_169 hG F1 X hg_F1 (K) hgK rk8_ hkt (by omega)) (fun _ _ h => False.elim h) ?_
          rintro z74_ A1_ (⟨hA_, hz_, c75_⟩ | ⟨hA_, hz_, c76_, c77_, c78_⟩)
          ·
            subst hA_
            subst hz_
            refine fl_if_ne hm_183 rfl ⟨by omega, by omega⟩ (fun h => absurd h (by omega)) (fun _ => ?_)
            refine ga_aload_n (v := .ref 344) hm_183 rfl rfl rfl ?_
            refine fl_iconst hm_183 rfl ?_
            refine gVv (nY := 2) (F := 0) (L := 0) (As := [.int (Int32.ofInt 1)]) (b := 344) (rest := []) hm_183 rfl hm_54 rfl rfl (fl_ob sc_344) rfl rfl rfl rfl rfl (by omega) (by omega) (mc_54 hG F1 X hg_F1 (K) (1) hgK rk8_ hkt (by omega) (by omega)) (fun _ _ h => False.elim h) ?_
            have b80_ : 0 ≤ F1 344 10 ∧ F1 344 10 ≤ 600 := gi_g hg_F1 rfl
            rintro A1_ ⟨F84_, hA_, g85_, s86_, c81_, c82_, c83_⟩
            subst hA_
            have g87_ : fs [(344, 344, 5, 5), (344, 344, 9, 10), (352, 352, 0, 100000), (383, 383, 0, 100000)] F F84_ := fs_tr g7_ s86_ rfl
            have rk88_ : rk K F84_ := rk_fs rk8_ s86_ (fun r k h => (fs_n (by omega) rfl)) (fs_n (by omega) rfl)
            have c82_s := c82_.1 (by omega)
            clear c82_
            refine ga_aload_n (v := .ref 344) hm_183 rfl rfl rfl ?_
            refine gIi (nY := 1) (F := 0) (L := 0) (As := []) (b := 344) (rest := []) hm_183 rfl hm_59 rfl rfl (fl_ob sc_344) rfl rfl rfl rfl rfl (by omega) (by omega) ?_
            intro f89_ l90_ h91_ h92_
            show fl_R xi_ms 59 f89_ l90_ 0 [(0, .ref 344)] [] _ _
            refine ga_aload_n (v := .ref 344) hm_59 rfl rfl rfl ?_
            have b93_ : 0 ≤ F84_ 344 9 ∧ F84_ 344 9 ≤ 5 := gi_g g85_ rfl
            refine ga_geti (z := F84_ 344 9) hm_59 rfl sc_344 rfl (rfl) ?_
            refine fl_if_le (a := F84_ 344 9) hm_59 rfl ⟨by omega, by omega⟩ (fun h94_ => ?_) (fun h95_ => ?_)
            · exfalso; omega
            refine fl_iconst hm_59 rfl ?_
            refine fl_goto hm_59 rfl ?_
            refine gr_i hm_59 rfl rfl (ga_nb (by omega)) ?_
            clear h91_ h92_ f89_ l90_
            refine fl_if_eq hm_183 rfl ⟨by omega, by omega⟩ (fun h => absurd h (by omega)) (fun _ => ?_)
            refine ga_lconst (z := 0) hm_183 rfl rfl ?_
            refine fl_goto hm_183 rfl ?_
            
            refine ga_lstore_n (lv2 := [(2, .long (Int64.ofInt 0)), (1, .int (Int32.ofInt n)), (0, .ref 344)]) hm_183 rfl (Nat.le_of_ble_eq_true rfl) rfl ?_
            refine ga_aload_n (v := .ref 344) hm_183 rfl rfl rfl ?_
            refine gIi (nY := 1) (F := 0) (L := 0) (As := []) (b := 344) (rest := []) hm_183 rfl hm_59 rfl rfl (fl_ob sc_344) rfl rfl rfl rfl rfl (by omega) (by omega) ?_
            intro f96_ l97_ h98_ h99_
            show fl_R xi_ms 59 f96_ l97_ 0 [(0, .ref 344)] [] _ _
            refine ga_aload_n (v := .ref 344) hm_59 rfl rfl rfl ?_
            refine ga_geti (z := F84_ 344 9) hm_59 rfl sc_344 rfl (rfl) ?_
            refine fl_if_le (a := F84_ 344 9) hm_59 rfl ⟨by omega, by omega⟩ (fun h100_ => ?_) (fun h101_ => ?_)
            · exfalso; omega
            refine fl_iconst hm_59 rfl ?_
            refine fl_goto hm_59 rfl ?_
            refine gr_i hm_59 rfl rfl (ga_nb (by omega)) ?_
            clear h98_ h99_ f96_ l97_
            refine fl_if_ne hm_183 rfl ⟨by omega, by omega⟩ (fun _ => ?_) (fun h => absurd (by omega) h)
            refine ga_aload_n (v := .ref 344) hm_183 rfl rfl rfl ?_
            refine gIv (nY := 1) (F := 1) (L := 20) (As := []) (b := 344) (rest := []) hm_183 rfl hm_61 rfl rfl (fl_ob sc_344) rfl rfl rfl rfl rfl (by omega) (by omega) ?_
            intro f102_ l103_ h104_ h105_
            show fl_R xi_ms 61 f102_ l103_ 0 [(0, .ref 344)] [] _ _
            refine ga_aload_n (v := .ref 344) hm_61 rfl rfl rfl ?_
            refine ga_dup hm_61 rfl rfl ?_
            have e106_ : F84_ 344 5 = F1 344 5 := (s86_ 344 5 rfl).trans (rfl)
            refine ga_geti (z := F1 344 5) hm_61 rfl sc_344 rfl (e106_) ?_
            refine ga_aload_n (v := .ref 344) hm_61 rfl rfl rfl ?_
            refine gIi (nY := 1) (F := 0) (L := 0) (As := []) (b := 344) (rest := [.int (Int32.ofInt (F1 344 5)), .ref 344]) hm_61 rfl hm_59 rfl rfl (fl_ob sc_344) rfl rfl rfl rfl rfl (by omega) (by omega) ?_
            intro f107_ l108_ h109_ h110_
            show fl_R xi_ms 59 f107_ l108_ 0 [(0, .ref 344)] [] _ _
            refine ga_aload_n (v := .ref 344) hm_59 rfl rfl rfl ?_
            refine ga_geti (z := F84_ 344 9) hm_59 rfl sc_344 rfl (rfl) ?_
            refine fl_if_le (a := F84_ 344 9) hm_59 rfl ⟨by omega, by omega⟩ (fun h111_ => ?_) (fun h112_ => ?_)
            · exfalso; omega
            refine fl_iconst hm_59 rfl ?_
            refine fl_goto hm_59 rfl ?_
            refine gr_i hm_59 rfl rfl (ga_nb (by omega)) ?_
            clear h109_ h110_ f107_ l108_
            refine fl_if_eq hm_61 rfl ⟨by omega, by omega⟩ (fun h => absurd h (by omega)) (fun _ => ?_)
            refine fl_iconst hm_61 rfl ?_
            refine fl_goto hm_61 rfl ?_
            refine ga_iadd (a := F1 344 5) (b := 0) (c := F1 344 5) hm_61 rfl (by omega) ?_
            refine ga_puti (z := F1 344 5) hm_61 rfl sc_344 rfl rfl ?_
            refine gr_v hm_61 rfl rfl ?_
            clear h104_ h105_ f102_ l103_
            refine ga_aload_n (v := .ref 344) hm_183 rfl rfl rfl ?_
            refine gIi (nY := 1) (F := 0) (L := 0) (As := []) (b := 344) (rest := []) hm_183 rfl hm_59 rfl rfl (fl_ob sc_344) rfl rfl rfl rfl rfl (by omega) (by omega) ?_
            intro f113_ l114_ h115_ h116_
            show fl_R xi_ms 59 f113_ l114_ 0 [(0, .ref 344)] [] _ _
            refine ga_aload_n (v := .ref 344) hm_59 rfl rfl rfl ?_
            refine ga_geti (z := F84_ 344 9) hm_59 rfl sc_344 rfl (fl_u_ne (by omega)) ?_
            refine fl_if_le (a := F84_ 344 9) hm_59 rfl ⟨by omega, by omega⟩ (fun h117_ => ?_) (fun h118_ => ?_)
            · exfalso; omega
            refine fl_iconst hm_59 rfl ?_
            refine fl_goto hm_59 rfl ?_
            refine gr_i hm_59 rfl rfl (ga_nb (by omega)) ?_
            clear h115_ h116_ f113_ l114_
            refine fl_if_eq hm_183 rfl ⟨by omega, by omega⟩ (fun h => absurd h (by omega)) (fun _ => ?_)
            refine ga_iload_n (z := n) hm_183 rfl rfl ?_
            obtain ⟨F119_, q120_⟩ : ∃ F9_, F9_ = (fl_u F84_ 344 5 (F1 344 5)) := ⟨_, rfl⟩
            rw [← q120_]
            have g121_ : gi F119_ := by rw [q120_]; exact gi_u (g85_) rfl (by omega) (by omega)
            have g122_ : fs [(344, 344, 5, 5), (344, 344, 9, 10), (352, 352, 0, 100000), (383, 383, 0, 100000)] F F119_ := by rw [q120_]; exact fs_u (g87_) rfl
            have rk123_ : rk K F119_ := by rw [q120_]; exact rk_u (rk88_) (by omega) (by omega)
            refine gr_i (z := n) hm_183 rfl rfl rfl ?_
            have e124_ : F119_ 344 9 = F84_ 344 9 := by rw [q120_]; exact fl_u_ne (by omega)
            have e125_ : F119_ 344 10 = F84_ 344 10 := by rw [q120_]; exact fl_u_ne (by omega)
            have e126_ : F119_ 344 5 = F1 344 5 := by rw [q120_]; exact fl_u_eq
            have b127_ : 0 ≤ F84_ 344 10 ∧ F84_ 344 10 ≤ 600 := gi_g g85_ rfl
            have b128_ : 0 ≤ F 344 10 ∧ F 344 10 ≤ 600 := gi_g hgi rfl
            have b129_ : 0 ≤ F 344 5 ∧ F 344 5 ≤ 600 := gi_g hgi rfl
            exact Or.inl ⟨F119_, rfl, g121_, g122_, (by omega), (⟨by intro h0_; have hs_ := c82_s; rw [hsp, sp1_f1 (by omega) (fun h8_ => c75_ ⟨by omega, h8_⟩)]; congr 2 <;> omega, fun h0_ => by exfalso; omega⟩), (by omega), (by omega)⟩
          subst hA_
          subst hz_
          refine fl_if_ne hm_183 rfl ⟨by omega, by omega⟩ (fun _ => ?_) (fun h => absurd (by omega) h)
          refine ga_aload_n (v := .ref 344) hm_183 rfl rfl rfl ?_
          refine gIi (nY := 1) (F := 0) (L := 0) (As := []) (b := 344) (rest := []) hm_183 rfl hm_59 rfl rfl (fl_ob sc_344) rfl rfl rfl rfl rfl (by omega) (by omega) ?_
          intro f130_ l131_ h132_ h133_
          show fl_R xi_ms 59 f130_ l131_ 0 [(0, .ref 344)] [] _ _
          refine ga_aload_n (v := .ref 344) hm_59 rfl rfl rfl ?_
          refine ga_geti (z := F1 344 9) hm_59 rfl sc_344 rfl (rfl) ?_
          refine fl_if_le (a := F1 344 9) hm_59 rfl ⟨by omega, by omega⟩ (fun h134_ => ?_) (fun h135_ => ?_)
          ·
            refine fl_iconst hm_59 rfl ?_
            refine gr_i hm_59 rfl rfl (ga_nb (by omega)) ?_
            clear h132_ h133_ f130_ l131_
            refine fl_if_eq hm_183 rfl ⟨by omega, by omega⟩ (fun _ => ?_) (fun h => absurd (by omega) h)
            refine ga_aload_n (v := .ref 344) hm_183 rfl rfl rfl ?_
            refine fl_iconst hm_183 rfl ?_
            refine gVl (nY := 7) (F := 1) (L := 20) (As := [.int (Int32.ofInt 1)]) (b := 344) (rest := []) hm_183 rfl hm_60 rfl rfl (fl_ob sc_344) rfl rfl rfl rfl rfl (by omega) (by omega) (mc_60 hG F1 X hg_F1 (K) (1) hgK rk8_ hkt (by omega) (by omega)) (fun _ _ h => False.elim h) ?_
            rintro z136_ A1_ ⟨hA_, c137_, c138_⟩
            subst hA_
            have hvr := (tk_var hkt hgK (p := F1 344 5) (by omega) (by omega)).1 c76_.2
            refine ga_lstore_n (lv2 := [(2, .long (Int64.ofInt z136_)), (1, .int (Int32.ofInt n)), (0, .ref 344)]) hm_183 rfl (Nat.le_of_ble_eq_true rfl) rfl ?_
            refine ga_aload_n (v := .ref 344) hm_183 rfl rfl rfl ?_
            refine gIi (nY := 1) (F := 0) (L := 0) (As := []) (b := 344) (rest := []) hm_183 rfl hm_59 rfl rfl (fl_ob sc_344) rfl rfl rfl rfl rfl (by omega) (by omega) ?_
            intro f139_ l140_ h141_ h142_
            show fl_R xi_ms 59 f139_ l140_ 0 [(0, .ref 344)] [] _ _
            refine ga_aload_n (v := .ref 344) hm_59 rfl rfl rfl ?_
            refine ga_geti (z := F1 344 9) hm_59 rfl sc_344 rfl (rfl) ?_
            refine fl_if_le (a := F1 344 9) hm_59 rfl ⟨by omega, by omega⟩ (fun h143_ => ?_) (fun h144_ => ?_)
            ·
              refine fl_iconst hm_59 rfl ?_
              refine gr_i hm_59 rfl rfl (ga_nb (by omega)) ?_
              clear h141_ h142_ f139_ l140_
              refine fl_if_ne hm_183 rfl ⟨by omega, by omega⟩ (fun h => absurd h (by omega)) (fun _ => ?_)
              refine ga_iload_n (z := n) hm_183 rfl rfl ?_
              refine fl_iconst hm_183 rfl ?_
              refine fx_icmp_ne (a := n) (b := 1) hm_183 rfl ⟨by omega, by omega⟩ ⟨by omega, by omega⟩ (fun h145_ => ?_) (fun h146_ => ?_)
              ·
                refine ga_aload_n (v := .ref 344) hm_183 rfl rfl rfl ?_
                refine gIv (nY := 1) (F := 1) (L := 20) (As := []) (b := 344) (rest := []) hm_183 rfl hm_61 rfl rfl (fl_ob sc_344) rfl rfl rfl rfl rfl (by omega) (by omega) ?_
                intro f147_ l148_ h149_ h150_
                show fl_R xi_ms 61 f147_ l148_ 0 [(0, .ref 344)] [] _ _
                refine ga_aload_n (v := .ref 344) hm_61 rfl rfl rfl ?_
                refine ga_dup hm_61 rfl rfl ?_
                refine ga_geti (z := F1 344 5) hm_61 rfl sc_344 rfl (rfl) ?_
                refine ga_aload_n (v := .ref 344) hm_61 rfl rfl rfl ?_
                refine gIi (nY := 1) (F := 0) (L := 0) (As := []) (b := 344) (rest := [.int (Int32.ofInt (F1 344 5)), .ref 344]) hm_61 rfl hm_59 rfl rfl (fl_ob sc_344) rfl rfl rfl rfl rfl (by omega) (by omega) ?_
                intro f151_ l152_ h153_ h154_
                show fl_R xi_ms 59 f151_ l152_ 0 [(0, .ref 344)] [] _ _
                refine ga_aload_n (v := .ref 344) hm_59 rfl rfl rfl ?_
                refine ga_geti (z := F1 344 9) hm_59 rfl sc_344 rfl (rfl) ?_
                refine fl_if_le (a := F1 344 9) hm_59 rfl ⟨by omega, by omega⟩ (fun h155_ => ?_) (fun h156_ => ?_)
                ·
                  refine fl_iconst hm_59 rfl ?_
                  refine gr_i hm_59 rfl rfl (ga_nb (by omega)) ?_
                  clear h153_ h154_ f151_ l152_
                  refine fl_if_eq hm_61 rfl ⟨by omega, by omega⟩ (fun _ => ?_) (fun h => absurd (by omega) h)
                  refine fl_iconst hm_61 rfl ?_
                  refine ga_iadd (a := F1 344 5) (b := 1) (c := F1 344 5 + 1) hm_61 rfl (by omega) ?_
                  refine ga_puti (z := F1 344 5 + 1) hm_61 rfl sc_344 rfl rfl ?_
                  refine gr_v hm_61 rfl rfl ?_
                  clear h149_ h150_ f147_ l148_
                  refine ga_aload_n (v := .ref 344) hm_183 rfl rfl rfl ?_
                  refine gIi (nY := 1) (F := 0) (L := 0) (As := []) (b := 344) (rest := []) hm_183 rfl hm_59 rfl rfl (fl_ob sc_344) rfl rfl rfl rfl rfl (by omega) (by omega) ?_
                  intro f157_ l158_ h159_ h160_
                  show fl_R xi_ms 59 f157_ l158_ 0 [(0, .ref 344)] [] _ _
                  refine ga_aload_n (v := .ref 344) hm_59 rfl rfl rfl ?_
                  refine ga_geti (z := F1 344 9) hm_59 rfl sc_344 rfl (fl_u_ne (by omega)) ?_
                  refine fl_if_le (a := F1 344 9) hm_59 rfl ⟨by omega, by omega⟩ (fun h161_ => ?_) (fun h162_ => ?_)
                  ·
                    refine fl_iconst hm_59 rfl ?_
                    refine gr_i hm_59 rfl rfl (ga_nb (by omega)) ?_
                    clear h159_ h160_ f157_ l158_
                    refine fl_if_eq hm_183 rfl ⟨by omega, by omega⟩ (fun _ => ?_) (fun h => absurd (by omega) h)
                    refine ga_aload_n (v := .ref 344) hm_183 rfl rfl rfl ?_
                    refine ga_getr (b := 383) hm_183 rfl sc_344 rfl ?_
                    refine ga_iload_n (z := n) hm_183 rfl rfl ?_
                    refine ga_lload_n (z := z136_) hm_183 rfl rfl ?_
                    refine fl_last (z := n) (v := z136_) hm_183 rfl sc_383 (by omega) (by omega) (by omega) ?_
                    refine ga_aload_n (v := .ref 344) hm_183 rfl rfl rfl ?_
                    refine ga_getr (b := 352) hm_183 rfl sc_344 rfl ?_
                    refine fl_iconst hm_183 rfl ?_
                    refine ga_aload_n (v := .ref 344) hm_183 rfl rfl rfl ?_
                    have e163_ : F1 344 17 = F 344 17 := (hf_F1 344 17 rfl).trans (rfl)
                    have b164_ : 0 ≤ F 344 17 ∧ F 344 17 ≤ 6 := gi_g hgi rfl
                    refine ga_geti (z := F 344 17) hm_183 rfl sc_344 rfl ((fl_u_ne (by omega)).trans ((fl_u_ne (by omega)).trans (e163_))) ?_
                    refine ga_imul (a := 2) (b := F 344 17) (c := 2 * (F 344 17)) hm_183 rfl (by omega) ?_
                    refine ga_iload_n (z := n) hm_183 rfl rfl ?_
                    refine ga_iadd (a := 2 * (F 344 17)) (b := n) (c := 2 * (F 344 17) + n) hm_183 rfl (by omega) ?_
                    refine ga_aload_n (v := .ref 344) hm_183 rfl rfl rfl ?_
                    obtain ⟨F165_, q166_⟩ : ∃ F9_, F9_ = (fl_u (fl_u F1 344 5 (F1 344 5 + 1)) 383 n.toNat z136_) := ⟨_, rfl⟩
                    rw [← q166_]
                    have g167_ : gi F165_ := by rw [q166_]; exact gi_u (gi_u (hg_F1) rfl (by omega) (by omega)) rfl (by omega) (by omega)
                    have g168_ : fs [(344, 344, 5, 5), (344, 344, 9, 10), (352, 352, 0, 100000), (383, 383, 0, 100000)] F F165_ := by rw [q166_]; exact fs_u (fs_u (g7_) rfl) (fs_z (fs_z (fs_z (fs_y (by omega)))))
                    have rk169_ : rk K F165_ := by rw [q166_]; exact rk_u (rk_u (rk8_) (by omega) (by omega)) (by omega) (by omega)
                    have e170_ : F165_ 344 5 = F1 344 5 + 1 := by rw [q166_]; exact (fl_u_ne (by omega)).trans (fl_u_eq)
                    refine gVi (nY := 2) (F := 3) (L := 68) (As := []) (b := 344) (rest := [.int (Int32.ofInt (2 * (F 344 17) + n)), .ref 352]) hm_183 rfl hm_186 rfl rfl (fl_ob sc_344) rfl rfl rfl rfl rfl (by omega) (by omega) (mc_186 hG F165_ X g167_ (K) (ts) hgK rk169_ hkt (by omega) ((by rw [q166_]; exact (rpn_u (rpn_u (rpn_fs hts hf_F1 (fun _ => (fs_n (by omega) (fs_n (by omega) (fs_n (by omega) (fs_n (by omega) rfl))))) (fs_n (by omega) (fs_n (by omega) (fs_n (by omega) (fs_n (by omega) rfl))))) (by omega) (by omega)) (by omega) (by omega))))) (fun _ _ h => False.elim h) ?_
                    have e172_ : F165_ 344 10 = F1 344 10 := by rw [q166_]; exact (fl_u_ne (by omega)).trans (fl_u_ne (by omega))
                    have b173_ : 0 ≤ F1 344 10 ∧ F1 344 10 ≤ 600 := gi_g hg_F1 rfl
                    have e174_ : F165_ 344 9 = F1 344 9 := by rw [q166_]; exact (fl_u_ne (by omega)).trans (fl_u_ne (by omega))
                    rintro z171_ A1_ (⟨F179_, hA_, g180_, s181_, c175_, c176_, c177_, c178_⟩ | ⟨F186_, hA_, g187_, s188_, c182_, c183_, c184_, c185_⟩)
                    ·
                      subst hA_
                      have g189_ : fs [(344, 344, 5, 5), (344, 344, 9, 10), (352, 352, 0, 100000), (383, 383, 0, 100000)] F F179_ := fs_tr g168_ s181_ rfl
                      have rk190_ : rk K F179_ := rk_fs rk169_ s181_ (fun r k h => (fs_n (by omega) (fs_n (by omega) rfl))) (fs_n (by omega) (fs_n (by omega) rfl))
                      try simp only [e170_, e172_, e174_] at c176_
                      have c176_s := c176_.1 (by omega)
                      clear c176_
                      refine fl_iast (z := 2 * (F 344 17) + n) (v := z171_) hm_183 rfl sc_352 (by omega) (by omega) (by omega) ?_
                      refine ga_inc (a := n) (c := n + 1) (lv2 := [(1, .int (Int32.ofInt (n + 1))), (2, .long (Int64.ofInt z136_)), (0, .ref 344)]) hm_183 rfl rfl (Nat.le_of_ble_eq_true rfl) rfl rfl ?_
                      refine fl_goto hm_183 rfl ?_
                      refine ga_aload_n (v := .ref 344) hm_183 rfl rfl rfl ?_
                      refine gIi (nY := 1) (F := 0) (L := 0) (As := []) (b := 344) (rest := []) hm_183 rfl hm_59 rfl rfl (fl_ob sc_344) rfl rfl rfl rfl rfl (by omega) (by omega) ?_
                      intro f191_ l192_ h193_ h194_
                      show fl_R xi_ms 59 f191_ l192_ 0 [(0, .ref 344)] [] _ _
                      refine ga_aload_n (v := .ref 344) hm_59 rfl rfl rfl ?_
                      have b195_ : 0 ≤ F179_ 344 9 ∧ F179_ 344 9 ≤ 5 := gi_g g180_ rfl
                      refine ga_geti (z := F179_ 344 9) hm_59 rfl sc_344 rfl (fl_u_ne (by omega)) ?_
                      refine fl_if_le (a := F179_ 344 9) hm_59 rfl ⟨by omega, by omega⟩ (fun h196_ => ?_) (fun h197_ => ?_)
                      · exfalso; omega
                      refine fl_iconst hm_59 rfl ?_
                      refine fl_goto hm_59 rfl ?_
                      refine gr_i hm_59 rfl rfl (ga_nb (by omega)) ?_
                      clear h193_ h194_ f191_ l192_
                      refine fl_if_ne hm_183 rfl ⟨by omega, by omega⟩ (fun _ => ?_) (fun h => absurd (by omega) h)
                      refine ga_iload_n (z := n + 1) hm_183 rfl rfl ?_
                      obtain ⟨F198_, q199_⟩ : ∃ F9_, F9_ = (fl_u F179_ 352 (2 * (F 344 17) + n).toNat z171_) := ⟨_, rfl⟩
                      rw [← q199_]
                      have g200_ : gi F198_ := by rw [q199_]; exact gi_u (g180_) rfl (by omega) (by omega)
                      have g201_ : fs [(344, 344, 5, 5), (344, 344, 9, 10), (352, 352, 0, 100000), (383, 383, 0, 100000)] F F198_ := by rw [q199_]; exact fs_u (g189_) (fs_z (fs_z (fs_y (by omega))))
                      have rk202_ : rk K F198_ := by rw [q199_]; exact rk_u (rk190_) (by omega) (by omega)
                      refine gr_i (z := n + 1) hm_183 rfl rfl rfl ?_
                      have e203_ : F198_ 344 9 = F179_ 344 9 := by rw [q199_]; exact fl_u_ne (by omega)
                      have e204_ : F198_ 344 10 = F179_ 344 10 := by rw [q199_]; exact fl_u_ne (by omega)
                      have e205_ : F198_ 344 5 = F179_ 344 5 := by rw [q199_]; exact fl_u_ne (by omega)
                      have b206_ : 0 ≤ F179_ 344 10 ∧ F179_ 344 10 ≤ 600 := gi_g g180_ rfl
                      have b207_ : 0 ≤ F 344 10 ∧ F 344 10 ≤ 600 := gi_g hgi rfl
                      have b208_ : 0 ≤ F 344 5 ∧ F 344 5 ≤ 600 := gi_g hgi rfl
                      have b209_ : 0 ≤ F179_ 344 5 ∧ F179_ 344 5 ≤ 600 := gi_g g180_ rfl
                      exact Or.inl ⟨F198_, rfl, g200_, g201_, (by omega), (⟨by intro h0_; have hs_ := c176_s; rw [hsp, sp1_rt (by omega) (by omega) (dup_0 (by omega)) (by omega), rt_er hs_]; congr 2 <;> omega, fun h0_ => by exfalso; omega⟩), (by omega), (by omega)⟩
                    subst hA_
                    have g210_ : fs [(344, 344, 5, 5), (344, 344, 9, 10), (352, 352, 0, 100000), (383, 383, 0, 100000)] F F186_ := fs_tr g168_ s188_ rfl
                    have rk211_ : rk K F186_ := rk_fs rk169_ s188_ (fun r k h => (fs_n (by omega) (fs_n (by omega) rfl))) (fs_n (by omega) (fs_n (by omega) rfl))
                    try simp only [e174_] at c182_
                    try simp only [e170_] at c183_
                    refine fl_iast (z := 2 * (F 344 17) + n) (v := z171_) hm_183 rfl sc_352 (by omega) (by omega) (by omega) ?_
                    refine ga_inc (a := n) (c := n + 1) (lv2 := [(1, .int (Int32.ofInt (n + 1))), (2, .long (Int64.ofInt z136_)), (0, .ref 344)]) hm_183 rfl rfl (Nat.le_of_ble_eq_true rfl) rfl rfl ?_
                    refine fl_goto hm_183 rfl ?_
                    obtain ⟨F212_, q213_⟩ : ∃ F9_, F9_ = (fl_u F186_ 352 (2 * (F 344 17) + n).toNat z171_) := ⟨_, rfl⟩
                    rw [← q213_]
                    have g214_ : gi F212_ := by rw [q213_]; exact gi_u (g187_) rfl (by omega) (by omega)
                    have g215_ : fs [(344, 344, 5, 5), (344, 344, 9, 10), (352, 352, 0, 100000), (383, 383, 0, 100000)] F F212_ := by rw [q213_]; exact fs_u (g210_) (fs_z (fs_z (fs_y (by omega))))
                    have rk216_ : rk K F212_ := by rw [q213_]; exact rk_u (rk211_) (by omega) (by omega)
                    have e217_ : F212_ 344 9 = F186_ 344 9 := by rw [q213_]; exact fl_u_ne (by omega)
                    have b218_ : 0 ≤ F186_ 344 9 ∧ F186_ 344 9 ≤ 5 := gi_g g187_ rfl
                    have e219_ : F212_ 344 5 = F186_ 344 5 := by rw [q213_]; exact fl_u_ne (by omega)
                    have b220_ : 0 ≤ F186_ 344 5 ∧ F186_ 344 5 ≤ 600 := gi_g g187_ rfl
                    have b221_ : 0 ≤ K 1 6 ∧ K 1 6 ≤ 601 := gi_g hgK rfl
                    have b222_ : 0 ≤ F 344 5 ∧ F 344 5 ≤ 600 := gi_g hgi rfl
                    have e223_ : F165_ 383 n.toNat = z136_ := by rw [q166_]; exact fl_u_eq
                    have e224_ : F186_ 383 n.toNat = z136_ := (s188_ 383 n.toNat (fs_n (by omega) (fs_n (by omega) rfl))).trans (e223_)
                    have e225_ : F212_ 383 n.toNat = z136_ := by rw [q213_]; exact (fl_u_ne (by omega)).trans (e224_)
                    exact fl_R_sub (lv' := [(1, .int (Int32.ofInt (n + 1))), (0, .ref 344)]) rfl rfl (ih5_ _ (by omega) (n + 1) (_) (_) F212_ rfl g214_ (by rw [q213_]; exact fs_u ((fs_tr (by rw [q166_]; exact fs_u (fs_u (hf_F1) rfl) (fs_z (fs_z (fs_z (fs_y (by omega)))))) s188_ rfl)) (fs_z (fs_z (fs_y (by omega))))) (by omega) (by simp only [List.length_append, List.length_singleton]; omega) (rpn_at hsc (fun j hj => (Eq.trans (a := F212_ 383 j) (b := F186_ 383 j) (by rw [q213_]; exact (fl_u_ne (by omega))) (Eq.trans (a := F186_ 383 j) (b := F165_ 383 j) (s188_ 383 j (fs_n (by omega) (fs_n (by omega) rfl))) (show F165_ 383 j = F1 383 j from (by rw [q166_]; exact (fl_u_ne (by omega)).trans ((fl_u_ne (by omega)))))))) (e225_) (show nrel (K 6 (F1 344 5).toNat) z136_ by rw [c137_, if_pos (by omega)]; exact hvr.2)) (rty_snoc (t := z171_ - 1) hty (fun j hj => (Eq.trans (a := F212_ 352 ((2 * (F 344 17)).toNat + j)) (b := F186_ 352 ((2 * (F 344 17)).toNat + j)) (by rw [q213_]; exact (fl_u_ne (by omega))) (Eq.trans (a := F186_ 352 ((2 * (F 344 17)).toNat + j)) (b := F165_ 352 ((2 * (F 344 17)).toNat + j)) (s188_ 352 ((2 * (F 344 17)).toNat + j) (fs_n (by omega) (fs_n (by omega) rfl))) (show F165_ 352 ((2 * (F 344 17)).toNat + j) = F1 352 ((2 * (F 344 17)).toNat + j) from (by rw [q166_]; exact (fl_u_ne (by omega)).trans ((fl_u_ne (by omega)))))))) (by rw [q213_, show (2 * (F 344 17)).toNat + tl.length = (2 * (F 344 17) + n).toNat by omega]; exact (fl_u_eq).trans (by omega))) (fun j hj => Eq.trans (b := F1 352 j) (Eq.trans (a := F212_ 352 j) (b := F186_ 352 j) (by rw [q213_]; exact (fl_u_ne (by omega))) (Eq.trans (a := F186_ 352 j) (b := F165_ 352 j) (s188_ 352 j (fs_n (by omega) (fs_n (by omega) rfl))) (show F165_ 352 j = F1 352 j from (by rw [q166_]; exact (fl_u_ne (by omega)).trans ((fl_u_ne (by omega))))))) (hold j hj)) (by omega) (by rw [hsp, sp1_rt (by omega) (by omega) (dup_0 (by omega)) (by omega), rt_eq c183_]; congr 1 <;> first | (simp only [List.length_append, List.length_singleton]; omega) | (show F186_ 344 5 = _; omega) | rfl))
                  exfalso; omega
                exfalso; omega
              refine ga_aload_n (v := .ref 344) hm_183 rfl rfl rfl ?_
              refine ga_getr (b := 383) hm_183 rfl sc_344 rfl ?_
              refine fl_iconst hm_183 rfl ?_
              have b226_ : 0 ≤ F1 383 0 ∧ F1 383 0 ≤ 2565726408 := gi_g hg_F1 rfl
              refine ga_lald (z := 0) (w := F1 383 0) hm_183 rfl sc_383 (by omega) (by omega) (by omega) (rfl) ?_
              refine ga_lload_n (z := z136_) hm_183 rfl rfl ?_
              refine ga_lcmpn (a := F1 383 0) (b := z136_) hm_183 rfl rfl ⟨by omega, by omega⟩ ⟨by omega, by omega⟩ (fun h227_ => ?_) (fun h228_ => ?_)
              ·
                refine ga_aload_n (v := .ref 344) hm_183 rfl rfl rfl ?_
                refine gIv (nY := 1) (F := 1) (L := 20) (As := []) (b := 344) (rest := []) hm_183 rfl hm_61 rfl rfl (fl_ob sc_344) rfl rfl rfl rfl rfl (by omega) (by omega) ?_
                intro f229_ l230_ h231_ h232_
                show fl_R xi_ms 61 f229_ l230_ 0 [(0, .ref 344)] [] _ _
                refine ga_aload_n (v := .ref 344) hm_61 rfl rfl rfl ?_
                refine ga_dup hm_61 rfl rfl ?_
                refine ga_geti (z := F1 344 5) hm_61 rfl sc_344 rfl (rfl) ?_
                refine ga_aload_n (v := .ref 344) hm_61 rfl rfl rfl ?_
                refine gIi (nY := 1) (F := 0) (L := 0) (As := []) (b := 344) (rest := [.int (Int32.ofInt (F1 344 5)), .ref 344]) hm_61 rfl hm_59 rfl rfl (fl_ob sc_344) rfl rfl rfl rfl rfl (by omega) (by omega) ?_
                intro f233_ l234_ h235_ h236_
                show fl_R xi_ms 59 f233_ l234_ 0 [(0, .ref 344)] [] _ _
                refine ga_aload_n (v := .ref 344) hm_59 rfl rfl rfl ?_
                refine ga_geti (z := F1 344 9) hm_59 rfl sc_344 rfl (rfl) ?_
                refine fl_if_le (a := F1 344 9) hm_59 rfl ⟨by omega, by omega⟩ (fun h237_ => ?_) (fun h238_ => ?_)
                ·
                  refine fl_iconst hm_59 rfl ?_
                  refine gr_i hm_59 rfl rfl (ga_nb (by omega)) ?_
                  clear h235_ h236_ f233_ l234_
                  refine fl_if_eq hm_61 rfl ⟨by omega, by omega⟩ (fun _ => ?_) (fun h => absurd (by omega) h)
                  refine fl_iconst hm_61 rfl ?_
                  refine ga_iadd (a := F1 344 5) (b := 1) (c := F1 344 5 + 1) hm_61 rfl (by omega) ?_
                  refine ga_puti (z := F1 344 5 + 1) hm_61 rfl sc_344 rfl rfl ?_
                  refine gr_v hm_61 rfl rfl ?_
                  clear h231_ h232_ f229_ l230_
                  refine ga_aload_n (v := .ref 344) hm_183 rfl rfl rfl ?_
                  refine gIi (nY := 1) (F := 0) (L := 0) (As := []) (b := 344) (rest := []) hm_183 rfl hm_59 rfl rfl (fl_ob sc_344) rfl rfl rfl rfl rfl (by omega) (by omega) ?_
                  intro f239_ l240_ h241_ h242_
                  show fl_R xi_ms 59 f239_ l240_ 0 [(0, .ref 344)] [] _ _
                  refine ga_aload_n (v := .ref 344) hm_59 rfl rfl rfl ?_
                  refine ga_geti (z := F1 344 9) hm_59 rfl sc_344 rfl (fl_u_ne (by omega)) ?_
                  refine fl_if_le (a := F1 344 9) hm_59 rfl ⟨by omega, by omega⟩ (fun h243_ => ?_) (fun h244_ => ?_)
                  ·
                    refine fl_iconst hm_59 rfl ?_
                    refine gr_i hm_59 rfl rfl (ga_nb (by omega)) ?_
                    clear h241_ h242_ f239_ l240_
                    refine fl_if_eq hm_183 rfl ⟨by omega, by omega⟩ (fun _ => ?_) (fun h => absurd (by omega) h)
                    refine ga_aload_n (v := .ref 344) hm_183 rfl rfl rfl ?_
                    refine ga_getr (b := 383) hm_183 rfl sc_344 rfl ?_
                    refine ga_iload_n (z := n) hm_183 rfl rfl ?_
                    refine ga_lload_n (z := z136_) hm_183 rfl rfl ?_
                    refine fl_last (z := n) (v := z136_) hm_183 rfl sc_383 (by omega) (by omega) (by omega) ?_
                    refine ga_aload_n (v := .ref 344) hm_183 rfl rfl rfl ?_
                    refine ga_getr (b := 352) hm_183 rfl sc_344 rfl ?_
                    refine fl_iconst hm_183 rfl ?_
                    refine ga_aload_n (v := .ref 344) hm_183 rfl rfl rfl ?_
                    have e245_ : F1 344 17 = F 344 17 := (hf_F1 344 17 rfl).trans (rfl)
                    have b246_ : 0 ≤ F 344 17 ∧ F 344 17 ≤ 6 := gi_g hgi rfl
                    refine ga_geti (z := F 344 17) hm_183 rfl sc_344 rfl ((fl_u_ne (by omega)).trans ((fl_u_ne (by omega)).trans (e245_))) ?_
                    refine ga_imul (a := 2) (b := F 344 17) (c := 2 * (F 344 17)) hm_183 rfl (by omega) ?_
                    refine ga_iload_n (z := n) hm_183 rfl rfl ?_
                    refine ga_iadd (a := 2 * (F 344 17)) (b := n) (c := 2 * (F 344 17) + n) hm_183 rfl (by omega) ?_
                    refine ga_aload_n (v := .ref 344) hm_183 rfl rfl rfl ?_
                    obtain ⟨F247_, q248_⟩ : ∃ F9_, F9_ = (fl_u (fl_u F1 344 5 (F1 344 5 + 1)) 383 n.toNat z136_) := ⟨_, rfl⟩
                    rw [← q248_]
                    have g249_ : gi F247_ := by rw [q248_]; exact gi_u (gi_u (hg_F1) rfl (by omega) (by omega)) rfl (by omega) (by omega)
                    have g250_ : fs [(344, 344, 5, 5), (344, 344, 9, 10), (352, 352, 0, 100000), (383, 383, 0, 100000)] F F247_ := by rw [q248_]; exact fs_u (fs_u (g7_) rfl) (fs_z (fs_z (fs_z (fs_y (by omega)))))
                    have rk251_ : rk K F247_ := by rw [q248_]; exact rk_u (rk_u (rk8_) (by omega) (by omega)) (by omega) (by omega)
                    have e252_ : F247_ 344 5 = F1 344 5 + 1 := by rw [q248_]; exact (fl_u_ne (by omega)).trans (fl_u_eq)
                    refine gVi (nY := 2) (F := 3) (L := 68) (As := []) (b := 344) (rest := [.int (Int32.ofInt (2 * (F 344 17) + n)), .ref 352]) hm_183 rfl hm_186 rfl rfl (fl_ob sc_344) rfl rfl rfl rfl rfl (by omega) (by omega) (mc_186 hG F247_ X g249_ (K) (ts) hgK rk251_ hkt (by omega) ((by rw [q248_]; exact (rpn_u (rpn_u (rpn_fs hts hf_F1 (fun _ => (fs_n (by omega) (fs_n (by omega) (fs_n (by omega) (fs_n (by omega) rfl))))) (fs_n (by omega) (fs_n (by omega) (fs_n (by omega) (fs_n (by omega) rfl))))) (by omega) (by omega)) (by omega) (by omega))))) (fun _ _ h => False.elim h) ?_
                    have e254_ : F247_ 344 10 = F1 344 10 := by rw [q248_]; exact (fl_u_ne (by omega)).trans (fl_u_ne (by omega))
                    have b255_ : 0 ≤ F1 344 10 ∧ F1 344 10 ≤ 600 := gi_g hg_F1 rfl
                    have e256_ : F247_ 344 9 = F1 344 9 := by rw [q248_]; exact (fl_u_ne (by omega)).trans (fl_u_ne (by omega))
                    rintro z253_ A1_ (⟨F261_, hA_, g262_, s263_, c257_, c258_, c259_, c260_⟩ | ⟨F268_, hA_, g269_, s270_, c264_, c265_, c266_, c267_⟩)
                    ·
                      subst hA_
                      have g271_ : fs [(344, 344, 5, 5), (344, 344, 9, 10), (352, 352, 0, 100000), (383, 383, 0, 100000)] F F261_ := fs_tr g250_ s263_ rfl
                      have rk272_ : rk K F261_ := rk_fs rk251_ s263_ (fun r k h => (fs_n (by omega) (fs_n (by omega) rfl))) (fs_n (by omega) (fs_n (by omega) rfl))
                      try simp only [e252_, e254_, e256_] at c258_
                      have c258_s := c258_.1 (by omega)
                      clear c258_
                      refine fl_iast (z := 2 * (F 344 17) + n) (v := z253_) hm_183 rfl sc_352 (by omega) (by omega) (by omega) ?_
                      refine ga_inc (a := n) (c := n + 1) (lv2 := [(1, .int (Int32.ofInt (n + 1))), (2, .long (Int64.ofInt z136_)), (0, .ref 344)]) hm_183 rfl rfl (Nat.le_of_ble_eq_true rfl) rfl rfl ?_
                      refine fl_goto hm_183 rfl ?_
                      refine ga_aload_n (v := .ref 344) hm_183 rfl rfl rfl ?_
                      refine gIi (nY := 1) (F := 0) (L := 0) (As := []) (b := 344) (rest := []) hm_183 rfl hm_59 rfl rfl (fl_ob sc_344) rfl rfl rfl rfl rfl (by omega) (by omega) ?_
                      intro f273_ l274_ h275_ h276_
                      show fl_R xi_ms 59 f273_ l274_ 0 [(0, .ref 344)] [] _ _
                      refine ga_aload_n (v := .ref 344) hm_59 rfl rfl rfl ?_
                      have b277_ : 0 ≤ F261_ 344 9 ∧ F261_ 344 9 ≤ 5 := gi_g g262_ rfl
                      refine ga_geti (z := F261_ 344 9) hm_59 rfl sc_344 rfl (fl_u_ne (by omega)) ?_
                      refine fl_if_le (a := F261_ 344 9) hm_59 rfl ⟨by omega, by omega⟩ (fun h278_ => ?_) (fun h279_ => ?_)
                      · exfalso; omega
                      refine fl_iconst hm_59 rfl ?_
                      refine fl_goto hm_59 rfl ?_
                      refine gr_i hm_59 rfl rfl (ga_nb (by omega)) ?_
                      clear h275_ h276_ f273_ l274_
                      refine fl_if_ne hm_183 rfl ⟨by omega, by omega⟩ (fun _ => ?_) (fun h => absurd (by omega) h)
                      refine ga_iload_n (z := n + 1) hm_183 rfl rfl ?_
                      obtain ⟨F280_, q281_⟩ : ∃ F9_, F9_ = (fl_u F261_ 352 (2 * (F 344 17) + n).toNat z253_) := ⟨_, rfl⟩
                      rw [← q281_]
                      have g282_ : gi F280_ := by rw [q281_]; exact gi_u (g262_) rfl (by omega) (by omega)
                      have g283_ : fs [(344, 344, 5, 5), (344, 344, 9, 10), (352, 352, 0, 100000), (383, 383, 0, 100000)] F F280_ := by rw [q281_]; exact fs_u (g271_) (fs_z (fs_z (fs_y (by omega))))
                      have rk284_ : rk K F280_ := by rw [q281_]; exact rk_u (rk272_) (by omega) (by omega)
                      refine gr_i (z := n + 1) hm_183 rfl rfl rfl ?_
                      have e285_ : F280_ 344 9 = F261_ 344 9 := by rw [q281_]; exact fl_u_ne (by omega)
                      have e286_ : F280_ 344 10 = F261_ 344 10 := by rw [q281_]; exact fl_u_ne (by omega)
                      have e287_ : F280_ 344 5 = F261_ 344 5 := by rw [q281_]; exact fl_u_ne (by omega)
                      have b288_ : 0 ≤ F261_ 344 10 ∧ F261_ 344 10 ≤ 600 := gi_g g262_ rfl
                      have b289_ : 0 ≤ F 344 10 ∧ F 344 10 ≤ 600 := gi_g hgi rfl
                      have b290_ : 0 ≤ F 344 5 ∧ F 344 5 ≤ 600 := gi_g hgi rfl
                      have b291_ : 0 ≤ F261_ 344 5 ∧ F261_ 344 5 ≤ 600 := gi_g g262_ rfl
                      exact Or.inl ⟨F280_, rfl, g282_, g283_, (by omega), (⟨by intro h0_; have hs_ := c258_s; rw [hsp, sp1_rt (by omega) (by omega) ((dup_1 hsc (show nrel (K 6 (F1 344 5).toNat) z136_ by rw [c137_, if_pos (by omega)]; exact hvr.2) (by omega)).2 (by assumption)) (by omega), rt_er hs_]; congr 2 <;> omega, fun h0_ => by exfalso; omega⟩), (by omega), (by omega)⟩
                    subst hA_
                    have g292_ : fs [(344, 344, 5, 5), (344, 344, 9, 10), (352, 352, 0, 100000), (383, 383, 0, 100000)] F F268_ := fs_tr g250_ s270_ rfl
                    have rk293_ : rk K F268_ := rk_fs rk251_ s270_ (fun r k h => (fs_n (by omega) (fs_n (by omega) rfl))) (fs_n (by omega) (fs_n (by omega) rfl))
                    try simp only [e256_] at c264_
                    try simp only [e252_] at c265_
                    refine fl_iast (z := 2 * (F 344 17) + n) (v := z253_) hm_183 rfl sc_352 (by omega) (by omega) (by omega) ?_
                    refine ga_inc (a := n) (c := n + 1) (lv2 := [(1, .int (Int32.ofInt (n + 1))), (2, .long (Int64.ofInt z136_)), (0, .ref 344)]) hm_183 rfl rfl (Nat.le_of_ble_eq_true rfl) rfl rfl ?_
                    refine fl_goto hm_183 rfl ?_
                    obtain ⟨F294_, q295_⟩ : ∃ F9_, F9_ = (fl_u F268_ 352 (2 * (F 344 17) + n).toNat z253_) := ⟨_, rfl⟩
                    rw [← q295_]
                    have g296_ : gi F294_ := by rw [q295_]; exact gi_u (g269_) rfl (by omega) (by omega)
                    have g297_ : fs [(344, 344, 5, 5), (344, 344, 9, 10), (352, 352, 0, 100000), (383, 383, 0, 100000)] F F294_ := by rw [q295_]; exact fs_u (g292_) (fs_z (fs_z (fs_y (by omega))))
                    have rk298_ : rk K F294_ := by rw [q295_]; exact rk_u (rk293_) (by omega) (by omega)
                    have e299_ : F294_ 344 9 = F268_ 344 9 := by rw [q295_]; exact fl_u_ne (by omega)
                    have b300_ : 0 ≤ F268_ 344 9 ∧ F268_ 344 9 ≤ 5 := gi_g g269_ rfl
                    have e301_ : F294_ 344 5 = F268_ 344 5 := by rw [q295_]; exact fl_u_ne (by omega)
                    have b302_ : 0 ≤ F268_ 344 5 ∧ F268_ 344 5 ≤ 600 := gi_g g269_ rfl
                    have b303_ : 0 ≤ K 1 6 ∧ K 1 6 ≤ 601 := gi_g hgK rfl
                    have b304_ : 0 ≤ F 344 5 ∧ F 344 5 ≤ 600 := gi_g hgi rfl
                    have e305_ : F247_ 383 n.toNat = z136_ := by rw [q248_]; exact fl_u_eq
                    have e306_ : F268_ 383 n.toNat = z136_ := (s270_ 383 n.toNat (fs_n (by omega) (fs_n (by omega) rfl))).trans (e305_)
                    have e307_ : F294_ 383 n.toNat = z136_ := by rw [q295_]; exact (fl_u_ne (by omega)).trans (e306_)
                    exact fl_R_sub (lv' := [(1, .int (Int32.ofInt (n + 1))), (0, .ref 344)]) rfl rfl (ih5_ _ (by omega) (n + 1) (_) (_) F294_ rfl g296_ (by rw [q295_]; exact fs_u ((fs_tr (by rw [q248_]; exact fs_u (fs_u (hf_F1) rfl) (fs_z (fs_z (fs_z (fs_y (by omega)))))) s270_ rfl)) (fs_z (fs_z (fs_y (by omega))))) (by omega) (by simp only [List.length_append, List.length_singleton]; omega) (rpn_at hsc (fun j hj => (Eq.trans (a := F294_ 383 j) (b := F268_ 383 j) (by rw [q295_]; exact (fl_u_ne (by omega))) (Eq.trans (a := F268_ 383 j) (b := F247_ 383 j) (s270_ 383 j (fs_n (by omega) (fs_n (by omega) rfl))) (show F247_ 383 j = F1 383 j from (by rw [q248_]; exact (fl_u_ne (by omega)).trans ((fl_u_ne (by omega)))))))) (e307_) (show nrel (K 6 (F1 344 5).toNat) z136_ by rw [c137_, if_pos (by omega)]; exact hvr.2)) (rty_snoc (t := z253_ - 1) hty (fun j hj => (Eq.trans (a := F294_ 352 ((2 * (F 344 17)).toNat + j)) (b := F268_ 352 ((2 * (F 344 17)).toNat + j)) (by rw [q295_]; exact (fl_u_ne (by omega))) (Eq.trans (a := F268_ 352 ((2 * (F 344 17)).toNat + j)) (b := F247_ 352 ((2 * (F 344 17)).toNat + j)) (s270_ 352 ((2 * (F 344 17)).toNat + j) (fs_n (by omega) (fs_n (by omega) rfl))) (show F247_ 352 ((2 * (F 344 17)).toNat + j) = F1 352 ((2 * (F 344 17)).toNat + j) from (by rw [q248_]; exact (fl_u_ne (by omega)).trans ((fl_u_ne (by omega)))))))) (by rw [q295_, show (2 * (F 344 17)).toNat + tl.length = (2 * (F 344 17) + n).toNat by omega]; exact (fl_u_eq).trans (by omega))) (fun j hj => Eq.trans (b := F1 352 j) (Eq.trans (a := F294_ 352 j) (b := F268_ 352 j) (by rw [q295_]; exact (fl_u_ne (by omega))) (Eq.trans (a := F268_ 352 j) (b := F247_ 352 j) (s270_ 352 j (fs_n (by omega) (fs_n (by omega) rfl))) (show F247_ 352 j = F1 352 j from (by rw [q248_]; exact (fl_u_ne (by omega)).trans ((fl_u_ne (by omega))))))) (hold j hj)) (by omega) (by rw [hsp, sp1_rt (by omega) (by omega) ((dup_1 hsc (show nrel (K 6 (F1 344 5).toNat) z136_ by rw [c137_, if_pos (by omega)]; exact hvr.2) (by omega)).2 (by assumption)) (by omega), rt_eq c265_]; congr 1 <;> first | (simp only [List.length_append, List.length_singleton]; omega) | (show F268_ 344 5 = _; omega) | rfl))
                  exfalso; omega
                exfalso; omega
              refine ga_aload_n (v := .ref 344) hm_183 rfl rfl rfl ?_
              refine fl_iconst hm_183 rfl ?_
              refine gVv (nY := 2) (F := 0) (L := 0) (As := [.int (Int32.ofInt 2)]) (b := 344) (rest := []) hm_183 rfl hm_54 rfl rfl (fl_ob sc_344) rfl rfl rfl rfl rfl (by omega) (by omega) (mc_54 hG F1 X hg_F1 (K) (2) hgK rk8_ hkt (by omega) (by omega)) (fun _ _ h => False.elim h) ?_
              have b309_ : 0 ≤ F1 344 10 ∧ F1 344 10 ≤ 600 := gi_g hg_F1 rfl
              rintro A1_ ⟨F313_, hA_, g314_, s315_, c310_, c311_, c312_⟩
              subst hA_
              have g316_ : fs [(344, 344, 5, 5), (344, 344, 9, 10), (352, 352, 0, 100000), (383, 383, 0, 100000)] F F313_ := fs_tr g7_ s315_ rfl
              have rk317_ : rk K F313_ := rk_fs rk8_ s315_ (fun r k h => (fs_n (by omega) rfl)) (fs_n (by omega) rfl)
              have c311_s := c311_.1 (by omega)
              clear c311_
              refine ga_aload_n (v := .ref 344) hm_183 rfl rfl rfl ?_
              refine gIv (nY := 1) (F := 1) (L := 20) (As := []) (b := 344) (rest := []) hm_183 rfl hm_61 rfl rfl (fl_ob sc_344) rfl rfl rfl rfl rfl (by omega) (by omega) ?_
              intro f318_ l319_ h320_ h321_
              show fl_R xi_ms 61 f318_ l319_ 0 [(0, .ref 344)] [] _ _
              refine ga_aload_n (v := .ref 344) hm_61 rfl rfl rfl ?_
              refine ga_dup hm_61 rfl rfl ?_
              have e322_ : F313_ 344 5 = F1 344 5 := (s315_ 344 5 rfl).trans (rfl)
              refine ga_geti (z := F1 344 5) hm_61 rfl sc_344 rfl (e322_) ?_
              refine ga_aload_n (v := .ref 344) hm_61 rfl rfl rfl ?_
              refine gIi (nY := 1) (F := 0) (L := 0) (As := []) (b := 344) (rest := [.int (Int32.ofInt (F1 344 5)), .ref 344]) hm_61 rfl hm_59 rfl rfl (fl_ob sc_344) rfl rfl rfl rfl rfl (by omega) (by omega) ?_
              intro f323_ l324_ h325_ h326_
              show fl_R xi_ms 59 f323_ l324_ 0 [(0, .ref 344)] [] _ _
              refine ga_aload_n (v := .ref 344) hm_59 rfl rfl rfl ?_
              have b327_ : 0 ≤ F313_ 344 9 ∧ F313_ 344 9 ≤ 5 := gi_g g314_ rfl
              refine ga_geti (z := F313_ 344 9) hm_59 rfl sc_344 rfl (rfl) ?_
              refine fl_if_le (a := F313_ 344 9) hm_59 rfl ⟨by omega, by omega⟩ (fun h328_ => ?_) (fun h329_ => ?_)
              · exfalso; omega
              refine fl_iconst hm_59 rfl ?_
              refine fl_goto hm_59 rfl ?_
              refine gr_i hm_59 rfl rfl (ga_nb (by omega)) ?_
              clear h325_ h326_ f323_ l324_
              refine fl_if_eq hm_61 rfl ⟨by omega, by omega⟩ (fun h => absurd h (by omega)) (fun _ => ?_)
              refine fl_iconst hm_61 rfl ?_
              refine fl_goto hm_61 rfl ?_
              refine ga_iadd (a := F1 344 5) (b := 0) (c := F1 344 5) hm_61 rfl (by omega) ?_
              refine ga_puti (z := F1 344 5) hm_61 rfl sc_344 rfl rfl ?_
              refine gr_v hm_61 rfl rfl ?_
              clear h320_ h321_ f318_ l319_
              refine ga_aload_n (v := .ref 344) hm_183 rfl rfl rfl ?_
              refine gIi (nY := 1) (F := 0) (L := 0) (As := []) (b := 344) (rest := []) hm_183 rfl hm_59 rfl rfl (fl_ob sc_344) rfl rfl rfl rfl rfl (by omega) (by omega) ?_
              intro f330_ l331_ h332_ h333_
              show fl_R xi_ms 59 f330_ l331_ 0 [(0, .ref 344)] [] _ _
              refine ga_aload_n (v := .ref 344) hm_59 rfl rfl rfl ?_
              refine ga_geti (z := F313_ 344 9) hm_59 rfl sc_344 rfl (fl_u_ne (by omega)) ?_
              refine fl_if_le (a := F313_ 344 9) hm_59 rfl ⟨by omega, by omega⟩ (fun h334_ => ?_) (fun h335_ => ?_)
              · exfalso; omega
              refine fl_iconst hm_59 rfl ?_
              refine fl_goto hm_59 rfl ?_
              refine gr_i hm_59 rfl rfl (ga_nb (by omega)) ?_
              clear h332_ h333_ f330_ l331_
              refine fl_if_eq hm_183 rfl ⟨by omega, by omega⟩ (fun h => absurd h (by omega)) (fun _ => ?_)
              refine ga_iload_n (z := n) hm_183 rfl rfl ?_
              obtain ⟨F336_, q337_⟩ : ∃ F9_, F9_ = (fl_u F313_ 344 5 (F1 344 5)) := ⟨_, rfl⟩
              rw [← q337_]
              have g338_ : gi F336_ := by rw [q337_]; exact gi_u (g314_) rfl (by omega) (by omega)
              have g339_ : fs [(344, 344, 5, 5), (344, 344, 9, 10), (352, 352, 0, 100000), (383, 383, 0, 100000)] F F336_ := by rw [q337_]; exact fs_u (g316_) rfl
              have rk340_ : rk K F336_ := by rw [q337_]; exact rk_u (rk317_) (by omega) (by omega)
              refine gr_i (z := n) hm_183 rfl rfl rfl ?_
              have e341_ : F336_ 344 9 = F313_ 344 9 := by rw [q337_]; exact fl_u_ne (by omega)
              have e342_ : F336_ 344 10 = F313_ 344 10 := by rw [q337_]; exact fl_u_ne (by omega)
              have e343_ : F336_ 344 5 = F1 344 5 := by rw [q337_]; exact fl_u_eq
              have b344_ : 0 ≤ F313_ 344 10 ∧ F313_ 344 10 ≤ 600 := gi_g g314_ rfl
              have b345_ : 0 ≤ F 344 10 ∧ F 344 10 ≤ 600 := gi_g hgi rfl
              have b346_ : 0 ≤ F 344 5 ∧ F 344 5 ≤ 600 := gi_g hgi rfl
              exact Or.inl ⟨F336_, rfl, g338_, g339_, (by omega), (⟨by intro h0_; have hs_ := c311_s; rw [hsp, sp1_f2 (by omega) (by omega) ((dup_1 hsc (show nrel (K 6 (F1 344 5).toNat) z136_ by rw [c137_, if_pos (by omega)]; exact hvr.2) (by omega)).1 (by assumption))]; congr 2 <;> omega, fun h0_ => by exfalso; omega⟩), (by omega), (by omega)⟩
            exfalso; omega
          exfalso; omega
        subst hA_
        subst hz_
        refine fl_if_ne hm_183 rfl ⟨by omega, by omega⟩ (fun _ => ?_) (fun h => absurd (by omega) h)
        refine ga_iload_n (z := n) hm_183 rfl rfl ?_
        refine gr_i (z := n) hm_183 rfl rfl rfl ?_
        have b347_ : 0 ≤ F 344 17 ∧ F 344 17 ≤ 6 := gi_g hgi rfl
        have b348_ : 0 ≤ F 344 5 ∧ F 344 5 ≤ 600 := gi_g hgi rfl
        exact Or.inr (⟨F1, rfl, hg_F1, g7_, (by omega), (⟨l, tl, ⟨by rw [hsp, sp1_e (by omega)], by omega⟩, ⟨by omega, by omega⟩, hty, hold⟩), (by omega), (by omega)⟩)
      exfalso; omega
    have b349_ : 0 ≤ F 344 17 ∧ F 344 17 ≤ 6 := gi_g hgi rfl
    have b350_ : 0 ≤ F 344 5 ∧ F 344 5 ≤ 600 := gi_g hgi rfl
    have b351_ : 0 ≤ K 1 6 ∧ K 1 6 ≤ 601 := gi_g hgK rfl
    exact L4_ _ (0) ([]) ([]) F rfl hgi fs_refl (by omega) (by simp) (⟨rfl, fun j x hx => by simp at hx⟩) (fun j x hx => by simp at hx) (fun j hj => rfl) (by omega) (rfl)
  refine fl_iconst hm_183 rfl ?_
  refine ga_istore_n (lv2 := [(1, .int (Int32.ofInt 0)), (0, .ref 344)]) hm_183 rfl (Nat.le_of_ble_eq_true rfl) rfl ?_
  refine ga_aload_n (v := .ref 344) hm_183 rfl rfl rfl ?_
  refine gIi (nY := 1) (F := 0) (L := 0) (As := []) (b := 344) (rest := []) hm_183 rfl hm_59 rfl rfl (fl_ob sc_344) rfl rfl rfl rfl rfl (by omega) (by omega) ?_
  intro f352_ l353_ h354_ h355_
  show fl_R xi_ms 59 f352_ l353_ 0 [(0, .ref 344)] [] _ _
  refine ga_aload_n (v := .ref 344) hm_59 rfl rfl rfl ?_
  refine ga_geti (z := F 344 9) hm_59 rfl sc_344 rfl (rfl) ?_
  refine fl_if_le (a := F 344 9) hm_59 rfl ⟨by omega, by omega⟩ (fun h356_ => ?_) (fun h357_ => ?_)
  · exfalso; omega
  refine fl_iconst hm_59 rfl ?_
  refine fl_goto hm_59 rfl ?_
  refine gr_i hm_59 rfl rfl (ga_nb (by omega)) ?_
  clear h354_ h355_ f352_ l353_
  refine fl_if_ne hm_183 rfl ⟨by omega, by omega⟩ (fun _ => ?_) (fun h => absurd (by omega) h)
  refine ga_iload_n (z := 0) hm_183 rfl rfl ?_
  refine gr_i (z := 0) hm_183 rfl rfl rfl ?_
  have b358_ : 0 ≤ F 344 10 ∧ F 344 10 ≤ 600 := gi_g hgi rfl
  have b359_ : 0 ≤ F 344 5 ∧ F 344 5 ≤ 600 := gi_g hgi rfl
  exact Or.inl ⟨F, rfl, hgi, fs_refl, (by omega), (⟨fun h0_ => by exfalso; omega, fun h0_ => by constructor <;> omega⟩), (by omega), (by omega)⟩

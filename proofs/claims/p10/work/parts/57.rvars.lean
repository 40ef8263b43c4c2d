/- CheapPlannerModel.readPredicateVariables -/
abbrev pq_183 (G : Nat → Nat → Option Nat) (F : fl_N) (X : xi_H) (K : fl_N) (ts : List Int) : Outcome → xi_H → Prop := gqi (fun z A => (∃ F' : fl_N, fl_H sh_T G F' ++ X = A ∧ gi F' ∧ fs [(344, 344, 5, 5), (344, 344, 9, 10), (352, 352, 0, 100000), (383, 383, 0, 100000)] F F' ∧ (¬ F' 344 9 = 0) ∧ ((F 344 9 = 0 → sp_p1 K ts 2 [] [] (F 344 5) = .inl (F' 344 9, F' 344 10)) ∧ (¬ F 344 9 = 0 → F' 344 9 = F 344 9 ∧ F' 344 10 = F 344 10)) ∧ (0 ≤ F' 344 5 ∧ F' 344 5 ≤ K 1 6 - 1) ∧ (0 ≤ z ∧ z ≤ 2)) ∨ (∃ F' : fl_N, fl_H sh_T G F' ++ X = A ∧ gi F' ∧ fs [(344, 344, 5, 5), (344, 344, 9, 10), (352, 352, 0, 100000), (383, 383, 0, 100000)] F F' ∧ (F' 344 9 = 0 ∧ F 344 9 = 0) ∧ (∃ l tl, (sp_p1 K ts 2 [] [] (F 344 5) = .inr (F' 344 5, l, tl) ∧ K 3 (F' 344 5).toNat = 1) ∧ (z = (tl.length : Int) ∧ tl.length = l.length) ∧ rty (F' 352) (2 * (F 344 17)).toNat tl ∧ ∀ j : Nat, (j : Int) < 2 * F 344 17 → F' 352 j = F 352 j) ∧ (0 ≤ F' 344 5 ∧ F' 344 5 ≤ K 1 6 - 1) ∧ (0 ≤ z ∧ z ≤ 2))) gqn
theorem mc_183 {G : Nat → Nat → Option Nat} (hG : gg G) (F : fl_N) (X : xi_H) (hgi : gi F) (K : fl_N) (ts : List Int) (hgK : gi K) (hrk : rk K F) (hkt : rkt K) (hp : 0 ≤ F 344 5 ∧ F 344 5 ≤ K 1 6 - 1) (hts : rpn (F 349) (F 344 15) ts) (h17 : F 344 17 ≤ 5) : fl_M xi_ms 183 4 89 [.ref 344] (fl_H sh_T G F ++ X) (pq_183 G F X K ts) := by
  intro fr lo hfr hlo
  show fl_R xi_ms 183 fr lo 0 [(0, .ref 344)] [] _ _
  have hP := (rkt_p hkt hp.1 hp.2 hgK).1
  have hK16 : 0 ≤ K 1 6 ∧ K 1 6 ≤ 601 := gi_g hgK rfl
  have hko := hkt.1
  have b1_ : 0 ≤ F 344 9 ∧ F 344 9 ≤ 5 := gi_g hgi rfl
  by_cases h2_ : F 344 9 = 0
  ·
    refine fl_iconst hm_183 rfl ?_
    refine ga_istore_n (lv2 := [(1, .int (Int32.ofInt 0)), (0, .ref 344)]) hm_183 rfl (Nat.le_of_ble_eq_true rfl) rfl ?_
    have b6_ : 0 ≤ F 344 17 ∧ F 344 17 ≤ 6 := gi_g hgi rfl
    have b7_ : 0 ≤ F 344 5 ∧ F 344 5 ≤ 600 := gi_g hgi rfl
    have L4_ : ∀ (n3_ : Nat) (n : Int) (l : List Int) (tl : List Int) (F1 : fl_N), (3 - n : Int).toNat = n3_ → (gi F1) → (fs [(344, 344, 5, 5), (344, 344, 9, 10), (352, 352, 0, 100000), (383, 383, 0, 100000)] F F1) → (F1 344 9 = 0) → (0 ≤ n ∧ n ≤ 2 ∧ (l.length : Int) = n ∧ (tl.length : Int) = n) → (rpn (F1 383) n l) → (rty (F1 352) (2 * (F 344 17)).toNat tl) → (∀ j : Nat, (j : Int) < 2 * F 344 17 → F1 352 j = F 352 j) → (0 ≤ F1 344 5 ∧ F1 344 5 ≤ K 1 6 - 1) → (sp_p1 K ts 2 [] [] (F 344 5) = sp_p1 K ts (2 - l.length) l tl (F1 344 5)) → fl_R xi_ms 183 fr lo 2 [(1, .int (Int32.ofInt n)), (0, .ref 344)] [] (fl_H sh_T G F1 ++ X) (pq_183 G F X K ts) := by
      intro n3_
      induction n3_ using Nat.strongRecOn with
      | ind n3_ ih5_ =>
      intro n l tl F1 hn8_ hg_F1 hf_F1 hk hn hsc hty hold hp1 hsp
      have g9_ : fs [(344, 344, 5, 5), (344, 344, 9, 10), (352, 352, 0, 100000), (383, 383, 0, 100000)] F F1 := fs_tr fs_refl hf_F1 rfl
      have rk10_ : rk K F1 := rk_fs hrk hf_F1 (fun r k h => (fs_n (by omega) (fs_n (by omega) (fs_n (by omega) (fs_n (by omega) rfl))))) (fs_n (by omega) (fs_n (by omega) (fs_n (by omega) (fs_n (by omega) rfl))))
      have hP1 := (rkt_p hkt (p := F1 344 5) (by omega) (by omega) hgK).1
      refine ga_aload_n (v := .ref 344) hm_183 rfl rfl rfl ?_
      refine gIi (nY := 1) (F := 0) (L := 0) (As := []) (b := 344) (rest := []) hm_183 rfl hm_59 rfl rfl (fl_ob sc_344) rfl rfl rfl rfl rfl (by omega) (by omega) ?_
      intro f11_ l12_ h13_ h14_
      show fl_R xi_ms 59 f11_ l12_ 0 [(0, .ref 344)] [] _ _
      refine ga_aload_n (v := .ref 344) hm_59 rfl rfl rfl ?_
      have b15_ : 0 ≤ F1 344 9 ∧ F1 344 9 ≤ 5 := gi_g hg_F1 rfl
      refine ga_geti (z := F1 344 9) hm_59 rfl sc_344 rfl (rfl) ?_
      refine fl_if_le (a := F1 344 9) hm_59 rfl ⟨by omega, by omega⟩ (fun h16_ => ?_) (fun h17_ => ?_)
      ·
        refine fl_iconst hm_59 rfl ?_
        refine gr_i hm_59 rfl rfl (ga_nb (by omega)) ?_
        clear h13_ h14_ f11_ l12_
        refine fl_if_ne hm_183 rfl ⟨by omega, by omega⟩ (fun h => absurd h (by omega)) (fun _ => ?_)
        refine ga_aload_n (v := .ref 344) hm_183 rfl rfl rfl ?_
        refine fl_bipush hm_183 rfl rfl ?_
        have b18_ : 0 ≤ F1 344 5 ∧ F1 344 5 ≤ 600 := gi_g hg_F1 rfl
        refine gVi (nY := 2) (F := 1) (L := 20) (As := [.int (Int32.ofInt 41)]) (b := 344) (rest := []) hm_183 rfl hm_52 rfl rfl (fl_ob sc_344) rfl rfl rfl rfl rfl (by omega) (by omega) (mc_52 hG F1 X hg_F1 (K) (41) hgK rk10_ hkt (by omega) (by omega)) (fun _ _ h => False.elim h) ?_
        rintro z19_ A1_ (⟨hA_, hz_, c20_⟩ | ⟨hA_, hz_, c21_, c22_⟩)
        ·
          subst hA_
          subst hz_
          refine fl_if_ne hm_183 rfl ⟨by omega, by omega⟩ (fun h => absurd h (by omega)) (fun _ => ?_)
          refine ga_iload_n (z := n) hm_183 rfl rfl ?_
          refine fl_iconst hm_183 rfl ?_
          refine fl_icmp_eq (a := n) (b := 2) hm_183 rfl ⟨by omega, by omega⟩ ⟨by omega, by omega⟩ (fun h23_ => ?_) (fun h24_ => ?_)
          ·
            refine ga_aload_n (v := .ref 344) hm_183 rfl rfl rfl ?_
            refine fl_iconst hm_183 rfl ?_
            refine gVv (nY := 2) (F := 0) (L := 0) (As := [.int (Int32.ofInt 1)]) (b := 344) (rest := []) hm_183 rfl hm_54 rfl rfl (fl_ob sc_344) rfl rfl rfl rfl rfl (by omega) (by omega) (mc_54 hG F1 X hg_F1 (K) (1) hgK rk10_ hkt (by omega) (by omega)) (fun _ _ h => False.elim h) ?_
            have b26_ : 0 ≤ F1 344 10 ∧ F1 344 10 ≤ 600 := gi_g hg_F1 rfl
            rintro A1_ ⟨F30_, hA_, g31_, s32_, c27_, c28_, c29_⟩
            subst hA_
            have g33_ : fs [(344, 344, 5, 5), (344, 344, 9, 10), (352, 352, 0, 100000), (383, 383, 0, 100000)] F F30_ := fs_tr g9_ s32_ rfl
            have rk34_ : rk K F30_ := rk_fs rk10_ s32_ (fun r k h => (fs_n (by omega) rfl)) (fs_n (by omega) rfl)
            have c28_s := c28_.1 (by omega)
            clear c28_
            refine ga_aload_n (v := .ref 344) hm_183 rfl rfl rfl ?_
            refine gIi (nY := 1) (F := 0) (L := 0) (As := []) (b := 344) (rest := []) hm_183 rfl hm_59 rfl rfl (fl_ob sc_344) rfl rfl rfl rfl rfl (by omega) (by omega) ?_
            intro f35_ l36_ h37_ h38_
            show fl_R xi_ms 59 f35_ l36_ 0 [(0, .ref 344)] [] _ _
            refine ga_aload_n (v := .ref 344) hm_59 rfl rfl rfl ?_
            have b39_ : 0 ≤ F30_ 344 9 ∧ F30_ 344 9 ≤ 5 := gi_g g31_ rfl
            refine ga_geti (z := F30_ 344 9) hm_59 rfl sc_344 rfl (rfl) ?_
            refine fl_if_le (a := F30_ 344 9) hm_59 rfl ⟨by omega, by omega⟩ (fun h40_ => ?_) (fun h41_ => ?_)
            · exfalso; omega
            refine fl_iconst hm_59 rfl ?_
            refine fl_goto hm_59 rfl ?_
            refine gr_i hm_59 rfl rfl (ga_nb (by omega)) ?_
            clear h37_ h38_ f35_ l36_
            refine fl_if_eq hm_183 rfl ⟨by omega, by omega⟩ (fun h => absurd h (by omega)) (fun _ => ?_)
            refine ga_lconst (z := 0) hm_183 rfl rfl ?_
            refine fl_goto hm_183 rfl ?_
            
            refine ga_lstore_n (lv2 := [(2, .long (Int64.ofInt 0)), (1, .int (Int32.ofInt n)), (0, .ref 344)]) hm_183 rfl (Nat.le_of_ble_eq_true rfl) rfl ?_
            refine ga_aload_n (v := .ref 344) hm_183 rfl rfl rfl ?_
            refine gIi (nY := 1) (F := 0) (L := 0) (As := []) (b := 344) (rest := []) hm_183 rfl hm_59 rfl rfl (fl_ob sc_344) rfl rfl rfl rfl rfl (by omega) (by omega) ?_
            intro f42_ l43_ h44_ h45_
            show fl_R xi_ms 59 f42_ l43_ 0 [(0, .ref 344)] [] _ _
            refine ga_aload_n (v := .ref 344) hm_59 rfl rfl rfl ?_
            refine ga_geti (z := F30_ 344 9) hm_59 rfl sc_344 rfl (rfl) ?_
            refine fl_if_le (a := F30_ 344 9) hm_59 rfl ⟨by omega, by omega⟩ (fun h46_ => ?_) (fun h47_ => ?_)
            · exfalso; omega
            refine fl_iconst hm_59 rfl ?_
            refine fl_goto hm_59 rfl ?_
            refine gr_i hm_59 rfl rfl (ga_nb (by omega)) ?_
            clear h44_ h45_ f42_ l43_
            refine fl_if_ne hm_183 rfl ⟨by omega, by omega⟩ (fun _ => ?_) (fun h => absurd (by omega) h)
            refine ga_aload_n (v := .ref 344) hm_183 rfl rfl rfl ?_
            refine gIv (nY := 1) (F := 1) (L := 20) (As := []) (b := 344) (rest := []) hm_183 rfl hm_61 rfl rfl (fl_ob sc_344) rfl rfl rfl rfl rfl (by omega) (by omega) ?_
            intro f48_ l49_ h50_ h51_
            show fl_R xi_ms 61 f48_ l49_ 0 [(0, .ref 344)] [] _ _
            refine ga_aload_n (v := .ref 344) hm_61 rfl rfl rfl ?_
            refine ga_dup hm_61 rfl rfl ?_
            have e52_ : F30_ 344 5 = F1 344 5 := (s32_ 344 5 rfl).trans (rfl)
            refine ga_geti (z := F1 344 5) hm_61 rfl sc_344 rfl (e52_) ?_
            refine ga_aload_n (v := .ref 344) hm_61 rfl rfl rfl ?_
            refine gIi (nY := 1) (F := 0) (L := 0) (As := []) (b := 344) (rest := [.int (Int32.ofInt (F1 344 5)), .ref 344]) hm_61 rfl hm_59 rfl rfl (fl_ob sc_344) rfl rfl rfl rfl rfl (by omega) (by omega) ?_
            intro f53_ l54_ h55_ h56_
            show fl_R xi_ms 59 f53_ l54_ 0 [(0, .ref 344)] [] _ _
            refine ga_aload_n (v := .ref 344) hm_59 rfl rfl rfl ?_
            refine ga_geti (z := F30_ 344 9) hm_59 rfl sc_344 rfl (rfl) ?_
            refine fl_if_le (a := F30_ 344 9) hm_59 rfl ⟨by omega, by omega⟩ (fun h57_ => ?_) (fun h58_ => ?_)
            · exfalso; omega
            refine fl_iconst hm_59 rfl ?_
            refine fl_goto hm_59 rfl ?_
            refine gr_i hm_59 rfl rfl (ga_nb (by omega)) ?_
            clear h55_ h56_ f53_ l54_
            refine fl_if_eq hm_61 rfl ⟨by omega, by omega⟩ (fun h => absurd h (by omega)) (fun _ => ?_)
            refine fl_iconst hm_61 rfl ?_
            refine fl_goto hm_61 rfl ?_
            refine ga_iadd (a := F1 344 5) (b := 0) (c := F1 344 5) hm_61 rfl (by omega) ?_
            refine ga_puti (z := F1 344 5) hm_61 rfl sc_344 rfl rfl ?_
            refine gr_v hm_61 rfl rfl ?_
            clear h50_ h51_ f48_ l49_
            refine ga_aload_n (v := .ref 344) hm_183 rfl rfl rfl ?_
            refine gIi (nY := 1) (F := 0) (L := 0) (As := []) (b := 344) (rest := []) hm_183 rfl hm_59 rfl rfl (fl_ob sc_344) rfl rfl rfl rfl rfl (by omega) (by omega) ?_
            intro f59_ l60_ h61_ h62_
            show fl_R xi_ms 59 f59_ l60_ 0 [(0, .ref 344)] [] _ _
            refine ga_aload_n (v := .ref 344) hm_59 rfl rfl rfl ?_
            refine ga_geti (z := F30_ 344 9) hm_59 rfl sc_344 rfl (fl_u_ne (by omega)) ?_
            refine fl_if_le (a := F30_ 344 9) hm_59 rfl ⟨by omega, by omega⟩ (fun h63_ => ?_) (fun h64_ => ?_)
            · exfalso; omega
            refine fl_iconst hm_59 rfl ?_
            refine fl_goto hm_59 rfl ?_
            refine gr_i hm_59 rfl rfl (ga_nb (by omega)) ?_
            clear h61_ h62_ f59_ l60_
            refine fl_if_eq hm_183 rfl ⟨by omega, by omega⟩ (fun h => absurd h (by omega)) (fun _ => ?_)
            refine ga_iload_n (z := n) hm_183 rfl rfl ?_
            obtain ⟨F65_, q66_⟩ : ∃ F9_, F9_ = (fl_u F30_ 344 5 (F1 344 5)) := ⟨_, rfl⟩
            rw [← q66_]
            have g67_ : gi F65_ := by rw [q66_]; exact gi_u (g31_) rfl (by omega) (by omega)
            have g68_ : fs [(344, 344, 5, 5), (344, 344, 9, 10), (352, 352, 0, 100000), (383, 383, 0, 100000)] F F65_ := by rw [q66_]; exact fs_u (g33_) rfl
            have rk69_ : rk K F65_ := by rw [q66_]; exact rk_u (rk34_) (by omega) (by omega)
            refine gr_i (z := n) hm_183 rfl rfl rfl ?_
            have e70_ : F65_ 344 9 = F30_ 344 9 := by rw [q66_]; exact fl_u_ne (by omega)
            have e71_ : F65_ 344 10 = F30_ 344 10 := by rw [q66_]; exact fl_u_ne (by omega)
            have e72_ : F65_ 344 5 = F1 344 5 := by rw [q66_]; exact fl_u_eq
            have b73_ : 0 ≤ F30_ 344 10 ∧ F30_ 344 10 ≤ 600 := gi_g g31_ rfl
            have b74_ : 0 ≤ F 344 10 ∧ F 344 10 ≤ 600 := gi_g hgi rfl
            exact Or.inl ⟨F65_, rfl, g67_, g68_, (by omega), (⟨by intro h0_; have hs_ := c28_s; rw [hsp, sp1_z (by omega) (by omega)]; congr 2 <;> omega, fun h0_ => by exfalso; omega⟩), (by omega), (by omega)⟩
          refine ga_aload_n (v := .ref 344) hm_183 rfl rfl rfl ?_
          refine gVi (nY := 1) (F := 2) (L := 46) (As := []) (b := 344) (rest := []) hm_183 rfl hm_169 rfl rfl (fl_ob sc_344) rfl rfl rfl rfl rfl (by omega) (by omega) (mc_169 hG F1 X hg_F1 (K) hgK rk10_ hkt (by omega)) (fun _ _ h => False.elim h) ?_
          rintro z75_ A1_ (⟨hA_, hz_, c76_⟩ | ⟨hA_, hz_, c77_, c78_, c79_⟩)
          ·
            subst hA_
            subst hz_
            refine fl_if_ne hm_183 rfl ⟨by omega, by omega⟩ (fun h => absurd h (by omega)) (fun _ => ?_)
            refine ga_aload_n (v := .ref 344) hm_183 rfl rfl rfl ?_
            refine fl_iconst hm_183 rfl ?_
            refine gVv (nY := 2) (F := 0) (L := 0) (As := [.int (Int32.ofInt 1)]) (b := 344) (rest := []) hm_183 rfl hm_54 rfl rfl (fl_ob sc_344) rfl rfl rfl rfl rfl (by omega) (by omega) (mc_54 hG F1 X hg_F1 (K) (1) hgK rk10_ hkt (by omega) (by omega)) (fun _ _ h => False.elim h) ?_
            have b81_ : 0 ≤ F1 344 10 ∧ F1 344 10 ≤ 600 := gi_g hg_F1 rfl
            rintro A1_ ⟨F85_, hA_, g86_, s87_, c82_, c83_, c84_⟩
            subst hA_
            have g88_ : fs [(344, 344, 5, 5), (344, 344, 9, 10), (352, 352, 0, 100000), (383, 383, 0, 100000)] F F85_ := fs_tr g9_ s87_ rfl
            have rk89_ : rk K F85_ := rk_fs rk10_ s87_ (fun r k h => (fs_n (by omega) rfl)) (fs_n (by omega) rfl)
            have c83_s := c83_.1 (by omega)
            clear c83_
            refine ga_aload_n (v := .ref 344) hm_183 rfl rfl rfl ?_
            refine gIi (nY := 1) (F := 0) (L := 0) (As := []) (b := 344) (rest := []) hm_183 rfl hm_59 rfl rfl (fl_ob sc_344) rfl rfl rfl rfl rfl (by omega) (by omega) ?_
            intro f90_ l91_ h92_ h93_
            show fl_R xi_ms 59 f90_ l91_ 0 [(0, .ref 344)] [] _ _
            refine ga_aload_n (v := .ref 344) hm_59 rfl rfl rfl ?_
            have b94_ : 0 ≤ F85_ 344 9 ∧ F85_ 344 9 ≤ 5 := gi_g g86_ rfl
            refine ga_geti (z := F85_ 344 9) hm_59 rfl sc_344 rfl (rfl) ?_
            refine fl_if_le (a := F85_ 344 9) hm_59 rfl ⟨by omega, by omega⟩ (fun h95_ => ?_) (fun h96_ => ?_)
            · exfalso; omega
            refine fl_iconst hm_59 rfl ?_
            refine fl_goto hm_59 rfl ?_
            refine gr_i hm_59 rfl rfl (ga_nb (by omega)) ?_
            clear h92_ h93_ f90_ l91_
            refine fl_if_eq hm_183 rfl ⟨by omega, by omega⟩ (fun h => absurd h (by omega)) (fun _ => ?_)
            refine ga_lconst (z := 0) hm_183 rfl rfl ?_
            refine fl_goto hm_183 rfl ?_
            
            refine ga_lstore_n (lv2 := [(2, .long (Int64.ofInt 0)), (1, .int (Int32.ofInt n)), (0, .ref 344)]) hm_183 rfl (Nat.le_of_ble_eq_true rfl) rfl ?_
            refine ga_aload_n (v := .ref 344) hm_183 rfl rfl rfl ?_
            refine gIi (nY := 1) (F := 0) (L := 0) (As := []) (b := 344) (rest := []) hm_183 rfl hm_59 rfl rfl (fl_ob sc_344) rfl rfl rfl rfl rfl (by omega) (by omega) ?_
            intro f97_ l98_ h99_ h100_
            show fl_R xi_ms 59 f97_ l98_ 0 [(0, .ref 344)] [] _ _
            refine ga_aload_n (v := .ref 344) hm_59 rfl rfl rfl ?_
            refine ga_geti (z := F85_ 344 9) hm_59 rfl sc_344 rfl (rfl) ?_
            refine fl_if_le (a := F85_ 344 9) hm_59 rfl ⟨by omega, by omega⟩ (fun h101_ => ?_) (fun h102_ => ?_)
            · exfalso; omega
            refine fl_iconst hm_59 rfl ?_
            refine fl_goto hm_59 rfl ?_
            refine gr_i hm_59 rfl rfl (ga_nb (by omega)) ?_
            clear h99_ h100_ f97_ l98_
            refine fl_if_ne hm_183 rfl ⟨by omega, by omega⟩ (fun _ => ?_) (fun h => absurd (by omega) h)
            refine ga_aload_n (v := .ref 344) hm_183 rfl rfl rfl ?_
            refine gIv (nY := 1) (F := 1) (L := 20) (As := []) (b := 344) (rest := []) hm_183 rfl hm_61 rfl rfl (fl_ob sc_344) rfl rfl rfl rfl rfl (by omega) (by omega) ?_
            intro f103_ l104_ h105_ h106_
            show fl_R xi_ms 61 f103_ l104_ 0 [(0, .ref 344)] [] _ _
            refine ga_aload_n (v := .ref 344) hm_61 rfl rfl rfl ?_
            refine ga_dup hm_61 rfl rfl ?_
            have e107_ : F85_ 344 5 = F1 344 5 := (s87_ 344 5 rfl).trans (rfl)
            refine ga_geti (z := F1 344 5) hm_61 rfl sc_344 rfl (e107_) ?_
            refine ga_aload_n (v := .ref 344) hm_61 rfl rfl rfl ?_
            refine gIi (nY := 1) (F := 0) (L := 0) (As := []) (b := 344) (rest := [.int (Int32.ofInt (F1 344 5)), .ref 344]) hm_61 rfl hm_59 rfl rfl (fl_ob sc_344) rfl rfl rfl rfl rfl (by omega) (by omega) ?_
            intro f108_ l109_ h110_ h111_
            show fl_R xi_ms 59 f108_ l109_ 0 [(0, .ref 344)] [] _ _
            refine ga_aload_n (v := .ref 344) hm_59 rfl rfl rfl ?_
            refine ga_geti (z := F85_ 344 9) hm_59 rfl sc_344 rfl (rfl) ?_
            refine fl_if_le (a := F85_ 344 9) hm_59 rfl ⟨by omega, by omega⟩ (fun h112_ => ?_) (fun h113_ => ?_)
            · exfalso; omega
            refine fl_iconst hm_59 rfl ?_
            refine fl_goto hm_59 rfl ?_
            refine gr_i hm_59 rfl rfl (ga_nb (by omega)) ?_
            clear h110_ h111_ f108_ l109_
            refine fl_if_eq hm_61 rfl ⟨by omega, by omega⟩ (fun h => absurd h (by omega)) (fun _ => ?_)
            refine fl_iconst hm_61 rfl ?_
            refine fl_goto hm_61 rfl ?_
            refine ga_iadd (a := F1 344 5) (b := 0) (c := F1 344 5) hm_61 rfl (by omega) ?_
            refine ga_puti (z := F1 344 5) hm_61 rfl sc_344 rfl rfl ?_
            refine gr_v hm_61 rfl rfl ?_
            clear h105_ h106_ f103_ l104_
            refine ga_aload_n (v := .ref 344) hm_183 rfl rfl rfl ?_
            refine gIi (nY := 1) (F := 0) (L := 0) (As := []) (b := 344) (rest := []) hm_183 rfl hm_59 rfl rfl (fl_ob sc_344) rfl rfl rfl rfl rfl (by omega) (by omega) ?_
            intro f114_ l115_ h116_ h117_
            show fl_R xi_ms 59 f114_ l115_ 0 [(0, .ref 344)] [] _ _
            refine ga_aload_n (v := .ref 344) hm_59 rfl rfl rfl ?_
            refine ga_geti (z := F85_ 344 9) hm_59 rfl sc_344 rfl (fl_u_ne (by omega)) ?_
            refine fl_if_le (a := F85_ 344 9) hm_59 rfl ⟨by omega, by omega⟩ (fun h118_ => ?_) (fun h119_ => ?_)
            · exfalso; omega
            refine fl_iconst hm_59 rfl ?_
            refine fl_goto hm_59 rfl ?_
            refine gr_i hm_59 rfl rfl (ga_nb (by omega)) ?_
            clear h116_ h117_ f114_ l115_
            refine fl_if_eq hm_183 rfl ⟨by omega, by omega⟩ (fun h => absurd h (by omega)) (fun _ => ?_)
            refine ga_iload_n (z := n) hm_183 rfl rfl ?_
            obtain ⟨F120_, q121_⟩ : ∃ F9_, F9_ = (fl_u F85_ 344 5 (F1 344 5)) := ⟨_, rfl⟩
            rw [← q121_]
            have g122_ : gi F120_ := by rw [q121_]; exact gi_u (g86_) rfl (by omega) (by omega)
            have g123_ : fs [(344, 344, 5, 5), (344, 344, 9, 10), (352, 352, 0, 100000), (383, 383, 0, 100000)] F F120_ := by rw [q121_]; exact fs_u (g88_) rfl
            have rk124_ : rk K F120_ := by rw [q121_]; exact rk_u (rk89_) (by omega) (by omega)
            refine gr_i (z := n) hm_183 rfl rfl rfl ?_
            have e125_ : F120_ 344 9 = F85_ 344 9 := by rw [q121_]; exact fl_u_ne (by omega)
            have e126_ : F120_ 344 10 = F85_ 344 10 := by rw [q121_]; exact fl_u_ne (by omega)
            have e127_ : F120_ 344 5 = F1 344 5 := by rw [q121_]; exact fl_u_eq
            have b128_ : 0 ≤ F85_ 344 10 ∧ F85_ 344 10 ≤ 600 := gi_g g86_ rfl
            have b129_ : 0 ≤ F 344 10 ∧ F 344 10 ≤ 600 := gi_g hgi rfl
            exact Or.inl ⟨F120_, rfl, g122_, g123_, (by omega), (⟨by intro h0_; have hs_ := c83_s; rw [hsp, sp1_f1 (by omega) (fun h8_ => c76_ ⟨by omega, h8_⟩)]; congr 2 <;> omega, fun h0_ => by exfalso; omega⟩), (by omega), (by omega)⟩
          subst hA_
          subst hz_
          refine fl_if_ne hm_183 rfl ⟨by omega, by omega⟩ (fun _ => ?_) (fun h => absurd (by omega) h)
          refine ga_aload_n (v := .ref 344) hm_183 rfl rfl rfl ?_
          refine gIi (nY := 1) (F := 0) (L := 0) (As := []) (b := 344) (rest := []) hm_183 rfl hm_59 rfl rfl (fl_ob sc_344) rfl rfl rfl rfl rfl (by omega) (by omega) ?_
          intro f130_ l131_ h132_ h133_
          show fl_R xi_ms 59 f130_ l131_ 0 [(0, .ref 344)] [] _ _
          refine ga_aload_n (v := .ref 344) hm_59 rfl rfl rfl ?_
          refine ga_geti (z := F1 344 9) hm_59 rfl sc_344 rfl (rfl) ?_
          refine fl_if_le (a := F1 344 9) hm_59 rfl ⟨by omega, by omega⟩ (fun h134_ => ?_) (fun h135_ => ?_)
          ·
            refine fl_iconst hm_59 rfl ?_
            refine gr_i hm_59 rfl rfl (ga_nb (by omega)) ?_
            clear h132_ h133_ f130_ l131_
            refine fl_if_eq hm_183 rfl ⟨by omega, by omega⟩ (fun _ => ?_) (fun h => absurd (by omega) h)
            refine ga_aload_n (v := .ref 344) hm_183 rfl rfl rfl ?_
            refine fl_iconst hm_183 rfl ?_
            refine gVl (nY := 7) (F := 1) (L := 20) (As := [.int (Int32.ofInt 1)]) (b := 344) (rest := []) hm_183 rfl hm_60 rfl rfl (fl_ob sc_344) rfl rfl rfl rfl rfl (by omega) (by omega) (mc_60 hG F1 X hg_F1 (K) (1) hgK rk10_ hkt (by omega) (by omega)) (fun _ _ h => False.elim h) ?_
            rintro z136_ A1_ ⟨hA_, c137_, c138_⟩
            subst hA_
            have hvr := (tk_var hkt hgK (p := F1 344 5) (by omega) (by omega)).1 c77_.2
            refine ga_lstore_n (lv2 := [(2, .long (Int64.ofInt z136_)), (1, .int (Int32.ofInt n)), (0, .ref 344)]) hm_183 rfl (Nat.le_of_ble_eq_true rfl) rfl ?_
            refine ga_aload_n (v := .ref 344) hm_183 rfl rfl rfl ?_
            refine gIi (nY := 1) (F := 0) (L := 0) (As := []) (b := 344) (rest := []) hm_183 rfl hm_59 rfl rfl (fl_ob sc_344) rfl rfl rfl rfl rfl (by omega) (by omega) ?_
            intro f139_ l140_ h141_ h142_
            show fl_R xi_ms 59 f139_ l140_ 0 [(0, .ref 344)] [] _ _
            refine ga_aload_n (v := .ref 344) hm_59 rfl rfl rfl ?_
            refine ga_geti (z := F1 344 9) hm_59 rfl sc_344 rfl (rfl) ?_
            refine fl_if_le (a := F1 344 9) hm_59 rfl ⟨by omega, by omega⟩ (fun h143_ => ?_) (fun h144_ => ?_)
            ·
              refine fl_iconst hm_59 rfl ?_
              refine gr_i hm_59 rfl rfl (ga_nb (by omega)) ?_
              clear h141_ h142_ f139_ l140_
              refine fl_if_ne hm_183 rfl ⟨by omega, by omega⟩ (fun h => absurd h (by omega)) (fun _ => ?_)
              refine ga_iload_n (z := n) hm_183 rfl rfl ?_
              refine fl_iconst hm_183 rfl ?_
              refine fx_icmp_ne (a := n) (b := 1) hm_183 rfl ⟨by omega, by omega⟩ ⟨by omega, by omega⟩ (fun h145_ => ?_) (fun h146_ => ?_)
              ·
                refine ga_aload_n (v := .ref 344) hm_183 rfl rfl rfl ?_
                refine gIv (nY := 1) (F := 1) (L := 20) (As := []) (b := 344) (rest := []) hm_183 rfl hm_61 rfl rfl (fl_ob sc_344) rfl rfl rfl rfl rfl (by omega) (by omega) ?_
                intro f147_ l148_ h149_ h150_
                show fl_R xi_ms 61 f147_ l148_ 0 [(0, .ref 344)] [] _ _
                refine ga_aload_n (v := .ref 344) hm_61 rfl rfl rfl ?_
                refine ga_dup hm_61 rfl rfl ?_
                refine ga_geti (z := F1 344 5) hm_61 rfl sc_344 rfl (rfl) ?_
                refine ga_aload_n (v := .ref 344) hm_61 rfl rfl rfl ?_
                refine gIi (nY := 1) (F := 0) (L := 0) (As := []) (b := 344) (rest := [.int (Int32.ofInt (F1 344 5)), .ref 344]) hm_61 rfl hm_59 rfl rfl (fl_ob sc_344) rfl rfl rfl rfl rfl (by omega) (by omega) ?_
                intro f151_ l152_ h153_ h154_
                show fl_R xi_ms 59 f151_ l152_ 0 [(0, .ref 344)] [] _ _
                refine ga_aload_n (v := .ref 344) hm_59 rfl rfl rfl ?_
                refine ga_geti (z := F1 344 9) hm_59 rfl sc_344 rfl (rfl) ?_
                refine fl_if_le (a := F1 344 9) hm_59 rfl ⟨by omega, by omega⟩ (fun h155_ => ?_) (fun h156_ => ?_)
                ·
                  refine fl_iconst hm_59 rfl ?_
                  refine gr_i hm_59 rfl rfl (ga_nb (by omega)) ?_
                  clear h153_ h154_ f151_ l152_
                  refine fl_if_eq hm_61 rfl ⟨by omega, by omega⟩ (fun _ => ?_) (fun h => absurd (by omega) h)
                  refine fl_iconst hm_61 rfl ?_
                  refine ga_iadd (a := F1 344 5) (b := 1) (c := F1 344 5 + 1) hm_61 rfl (by omega) ?_
                  refine ga_puti (z := F1 344 5 + 1) hm_61 rfl sc_344 rfl rfl ?_
                  refine gr_v hm_61 rfl rfl ?_
                  clear h149_ h150_ f147_ l148_
                  refine ga_aload_n (v := .ref 344) hm_183 rfl rfl rfl ?_
                  refine gIi (nY := 1) (F := 0) (L := 0) (As := []) (b := 344) (rest := []) hm_183 rfl hm_59 rfl rfl (fl_ob sc_344) rfl rfl rfl rfl rfl (by omega) (by omega) ?_
                  intro f157_ l158_ h159_ h160_
                  show fl_R xi_ms 59 f157_ l158_ 0 [(0, .ref 344)] [] _ _
                  refine ga_aload_n (v := .ref 344) hm_59 rfl rfl rfl ?_
                  refine ga_geti (z := F1 344 9) hm_59 rfl sc_344 rfl (fl_u_ne (by omega)) ?_
                  refine fl_if_le (a := F1 344 9) hm_59 rfl ⟨by omega, by omega⟩ (fun h161_ => ?_) (fun h162_ => ?_)
                  ·
                    refine fl_iconst hm_59 rfl ?_
                    refine gr_i hm_59 rfl rfl (ga_nb (by omega)) ?_
                    clear h159_ h160_ f157_ l158_
                    refine fl_if_eq hm_183 rfl ⟨by omega, by omega⟩ (fun _ => ?_) (fun h => absurd (by omega) h)
                    refine ga_aload_n (v := .ref 344) hm_183 rfl rfl rfl ?_
                    refine ga_getr (b := 383) hm_183 rfl sc_344 rfl ?_
                    refine ga_iload_n (z := n) hm_183 rfl rfl ?_
                    refine ga_lload_n (z := z136_) hm_183 rfl rfl ?_
                    refine fl_last (z := n) (v := z136_) hm_183 rfl sc_383 (by omega) (by omega) (by omega) ?_
                    refine ga_aload_n (v := .ref 344) hm_183 rfl rfl rfl ?_
                    refine ga_getr (b := 352) hm_183 rfl sc_344 rfl ?_
                    refine fl_iconst hm_183 rfl ?_
                    refine ga_aload_n (v := .ref 344) hm_183 rfl rfl rfl ?_
                    have e163_ : F1 344 17 = F 344 17 := (hf_F1 344 17 rfl).trans (rfl)
                    refine ga_geti (z := F 344 17) hm_183 rfl sc_344 rfl ((fl_u_ne (by omega)).trans ((fl_u_ne (by omega)).trans (e163_))) ?_
                    refine ga_imul (a := 2) (b := F 344 17) (c := 2 * (F 344 17)) hm_183 rfl (by omega) ?_
                    refine ga_iload_n (z := n) hm_183 rfl rfl ?_
                    refine ga_iadd (a := 2 * (F 344 17)) (b := n) (c := 2 * (F 344 17) + n) hm_183 rfl (by omega) ?_
                    refine ga_aload_n (v := .ref 344) hm_183 rfl rfl rfl ?_
                    obtain ⟨F164_, q165_⟩ : ∃ F9_, F9_ = (fl_u (fl_u F1 344 5 (F1 344 5 + 1)) 383 n.toNat z136_) := ⟨_, rfl⟩
                    rw [← q165_]
                    have g166_ : gi F164_ := by rw [q165_]; exact gi_u (gi_u (hg_F1) rfl (by omega) (by omega)) rfl (by omega) (by omega)
                    have g167_ : fs [(344, 344, 5, 5), (344, 344, 9, 10), (352, 352, 0, 100000), (383, 383, 0, 100000)] F F164_ := by rw [q165_]; exact fs_u (fs_u (g9_) rfl) (fs_z (fs_z (fs_z (fs_y (by omega)))))
                    have rk168_ : rk K F164_ := by rw [q165_]; exact rk_u (rk_u (rk10_) (by omega) (by omega)) (by omega) (by omega)
                    have e169_ : F164_ 344 5 = F1 344 5 + 1 := by rw [q165_]; exact (fl_u_ne (by omega)).trans (fl_u_eq)
                    refine gVi (nY := 2) (F := 3) (L := 68) (As := []) (b := 344) (rest := [.int (Int32.ofInt (2 * (F 344 17) + n)), .ref 352]) hm_183 rfl hm_186 rfl rfl (fl_ob sc_344) rfl rfl rfl rfl rfl (by omega) (by omega) (mc_186 hG F164_ X g166_ (K) (ts) hgK rk168_ hkt (by omega) ((by rw [q165_]; exact (rpn_u (rpn_u (rpn_fs hts hf_F1 (fun _ => (fs_n (by omega) (fs_n (by omega) (fs_n (by omega) (fs_n (by omega) rfl))))) (fs_n (by omega) (fs_n (by omega) (fs_n (by omega) (fs_n (by omega) rfl))))) (by omega) (by omega)) (by omega) (by omega))))) (fun _ _ h => False.elim h) ?_
                    have e171_ : F164_ 344 10 = F1 344 10 := by rw [q165_]; exact (fl_u_ne (by omega)).trans (fl_u_ne (by omega))
                    have b172_ : 0 ≤ F1 344 10 ∧ F1 344 10 ≤ 600 := gi_g hg_F1 rfl
                    have e173_ : F164_ 344 9 = F1 344 9 := by rw [q165_]; exact (fl_u_ne (by omega)).trans (fl_u_ne (by omega))
                    rintro z170_ A1_ (⟨F178_, hA_, g179_, s180_, c174_, c175_, c176_, c177_⟩ | ⟨F185_, hA_, g186_, s187_, c181_, c182_, c183_, c184_⟩)
                    ·
                      subst hA_
                      have g188_ : fs [(344, 344, 5, 5), (344, 344, 9, 10), (352, 352, 0, 100000), (383, 383, 0, 100000)] F F178_ := fs_tr g167_ s180_ rfl
                      have rk189_ : rk K F178_ := rk_fs rk168_ s180_ (fun r k h => (fs_n (by omega) (fs_n (by omega) rfl))) (fs_n (by omega) (fs_n (by omega) rfl))
                      try simp only [e169_, e171_, e173_] at c175_
                      have c175_s := c175_.1 (by omega)
                      clear c175_
                      refine fl_iast (z := 2 * (F 344 17) + n) (v := z170_) hm_183 rfl sc_352 (by omega) (by omega) (by omega) ?_
                      refine ga_inc (a := n) (c := n + 1) (lv2 := [(1, .int (Int32.ofInt (n + 1))), (2, .long (Int64.ofInt z136_)), (0, .ref 344)]) hm_183 rfl rfl (Nat.le_of_ble_eq_true rfl) rfl rfl ?_
                      refine fl_goto hm_183 rfl ?_
                      refine ga_aload_n (v := .ref 344) hm_183 rfl rfl rfl ?_
                      refine gIi (nY := 1) (F := 0) (L := 0) (As := []) (b := 344) (rest := []) hm_183 rfl hm_59 rfl rfl (fl_ob sc_344) rfl rfl rfl rfl rfl (by omega) (by omega) ?_
                      intro f190_ l191_ h192_ h193_
                      show fl_R xi_ms 59 f190_ l191_ 0 [(0, .ref 344)] [] _ _
                      refine ga_aload_n (v := .ref 344) hm_59 rfl rfl rfl ?_
                      have b194_ : 0 ≤ F178_ 344 9 ∧ F178_ 344 9 ≤ 5 := gi_g g179_ rfl
                      refine ga_geti (z := F178_ 344 9) hm_59 rfl sc_344 rfl (fl_u_ne (by omega)) ?_
                      refine fl_if_le (a := F178_ 344 9) hm_59 rfl ⟨by omega, by omega⟩ (fun h195_ => ?_) (fun h196_ => ?_)
                      · exfalso; omega
                      refine fl_iconst hm_59 rfl ?_
                      refine fl_goto hm_59 rfl ?_
                      refine gr_i hm_59 rfl rfl (ga_nb (by omega)) ?_
                      clear h192_ h193_ f190_ l191_
                      refine fl_if_ne hm_183 rfl ⟨by omega, by omega⟩ (fun _ => ?_) (fun h => absurd (by omega) h)
                      refine ga_iload_n (z := n + 1) hm_183 rfl rfl ?_
                      obtain ⟨F197_, q198_⟩ : ∃ F9_, F9_ = (fl_u F178_ 352 (2 * (F 344 17) + n).toNat z170_) := ⟨_, rfl⟩
                      rw [← q198_]
                      have g199_ : gi F197_ := by rw [q198_]; exact gi_u (g179_) rfl (by omega) (by omega)
                      have g200_ : fs [(344, 344, 5, 5), (344, 344, 9, 10), (352, 352, 0, 100000), (383, 383, 0, 100000)] F F197_ := by rw [q198_]; exact fs_u (g188_) (fs_z (fs_z (fs_y (by omega))))
                      have rk201_ : rk K F197_ := by rw [q198_]; exact rk_u (rk189_) (by omega) (by omega)
                      refine gr_i (z := n + 1) hm_183 rfl rfl rfl ?_
                      have e202_ : F197_ 344 9 = F178_ 344 9 := by rw [q198_]; exact fl_u_ne (by omega)
                      have e203_ : F197_ 344 10 = F178_ 344 10 := by rw [q198_]; exact fl_u_ne (by omega)
                      have e204_ : F197_ 344 5 = F178_ 344 5 := by rw [q198_]; exact fl_u_ne (by omega)
                      have b205_ : 0 ≤ F178_ 344 10 ∧ F178_ 344 10 ≤ 600 := gi_g g179_ rfl
                      have b206_ : 0 ≤ F 344 10 ∧ F 344 10 ≤ 600 := gi_g hgi rfl
                      have b207_ : 0 ≤ F178_ 344 5 ∧ F178_ 344 5 ≤ 600 := gi_g g179_ rfl
                      exact Or.inl ⟨F197_, rfl, g199_, g200_, (by omega), (⟨by intro h0_; have hs_ := c175_s; rw [hsp, sp1_rt (by omega) (by omega) (dup_0 (by omega)) (by omega), rt_er hs_]; congr 2 <;> omega, fun h0_ => by exfalso; omega⟩), (by omega), (by omega)⟩
                    subst hA_
                    have g208_ : fs [(344, 344, 5, 5), (344, 344, 9, 10), (352, 352, 0, 100000), (383, 383, 0, 100000)] F F185_ := fs_tr g167_ s187_ rfl
                    have rk209_ : rk K F185_ := rk_fs rk168_ s187_ (fun r k h => (fs_n (by omega) (fs_n (by omega) rfl))) (fs_n (by omega) (fs_n (by omega) rfl))
                    try simp only [e173_] at c181_
                    try simp only [e169_] at c182_
                    refine fl_iast (z := 2 * (F 344 17) + n) (v := z170_) hm_183 rfl sc_352 (by omega) (by omega) (by omega) ?_
                    refine ga_inc (a := n) (c := n + 1) (lv2 := [(1, .int (Int32.ofInt (n + 1))), (2, .long (Int64.ofInt z136_)), (0, .ref 344)]) hm_183 rfl rfl (Nat.le_of_ble_eq_true rfl) rfl rfl ?_
                    refine fl_goto hm_183 rfl ?_
                    obtain ⟨F210_, q211_⟩ : ∃ F9_, F9_ = (fl_u F185_ 352 (2 * (F 344 17) + n).toNat z170_) := ⟨_, rfl⟩
                    rw [← q211_]
                    have g212_ : gi F210_ := by rw [q211_]; exact gi_u (g186_) rfl (by omega) (by omega)
                    have g213_ : fs [(344, 344, 5, 5), (344, 344, 9, 10), (352, 352, 0, 100000), (383, 383, 0, 100000)] F F210_ := by rw [q211_]; exact fs_u (g208_) (fs_z (fs_z (fs_y (by omega))))
                    have rk214_ : rk K F210_ := by rw [q211_]; exact rk_u (rk209_) (by omega) (by omega)
                    have e215_ : F210_ 344 9 = F185_ 344 9 := by rw [q211_]; exact fl_u_ne (by omega)
                    have b216_ : 0 ≤ F185_ 344 9 ∧ F185_ 344 9 ≤ 5 := gi_g g186_ rfl
                    have e217_ : F210_ 344 5 = F185_ 344 5 := by rw [q211_]; exact fl_u_ne (by omega)
                    have b218_ : 0 ≤ F185_ 344 5 ∧ F185_ 344 5 ≤ 600 := gi_g g186_ rfl
                    have b219_ : 0 ≤ K 1 6 ∧ K 1 6 ≤ 601 := gi_g hgK rfl
                    have e220_ : F164_ 383 n.toNat = z136_ := by rw [q165_]; exact fl_u_eq
                    have e221_ : F185_ 383 n.toNat = z136_ := (s187_ 383 n.toNat (fs_n (by omega) (fs_n (by omega) rfl))).trans (e220_)
                    have e222_ : F210_ 383 n.toNat = z136_ := by rw [q211_]; exact (fl_u_ne (by omega)).trans (e221_)
                    exact fl_R_sub (lv' := [(1, .int (Int32.ofInt (n + 1))), (0, .ref 344)]) rfl rfl (ih5_ _ (by omega) (n + 1) (_) (_) F210_ rfl g212_ (by rw [q211_]; exact fs_u ((fs_tr (by rw [q165_]; exact fs_u (fs_u (hf_F1) rfl) (fs_z (fs_z (fs_z (fs_y (by omega)))))) s187_ rfl)) (fs_z (fs_z (fs_y (by omega))))) (by omega) (by simp only [List.length_append, List.length_singleton]; omega) (rpn_at hsc (fun j hj => (Eq.trans (a := F210_ 383 j) (b := F185_ 383 j) (by rw [q211_]; exact (fl_u_ne (by omega))) (Eq.trans (a := F185_ 383 j) (b := F164_ 383 j) (s187_ 383 j (fs_n (by omega) (fs_n (by omega) rfl))) (show F164_ 383 j = F1 383 j from (by rw [q165_]; exact (fl_u_ne (by omega)).trans ((fl_u_ne (by omega)))))))) (e222_) (show nrel (K 6 (F1 344 5).toNat) z136_ by rw [c137_, if_pos (by omega)]; exact hvr.2)) (rty_snoc (t := z170_ - 1) hty (fun j hj => (Eq.trans (a := F210_ 352 ((2 * (F 344 17)).toNat + j)) (b := F185_ 352 ((2 * (F 344 17)).toNat + j)) (by rw [q211_]; exact (fl_u_ne (by omega))) (Eq.trans (a := F185_ 352 ((2 * (F 344 17)).toNat + j)) (b := F164_ 352 ((2 * (F 344 17)).toNat + j)) (s187_ 352 ((2 * (F 344 17)).toNat + j) (fs_n (by omega) (fs_n (by omega) rfl))) (show F164_ 352 ((2 * (F 344 17)).toNat + j) = F1 352 ((2 * (F 344 17)).toNat + j) from (by rw [q165_]; exact (fl_u_ne (by omega)).trans ((fl_u_ne (by omega)))))))) (by rw [q211_, show (2 * (F 344 17)).toNat + tl.length = (2 * (F 344 17) + n).toNat by omega]; exact (fl_u_eq).trans (by omega))) (fun j hj => Eq.trans (b := F1 352 j) (Eq.trans (a := F210_ 352 j) (b := F185_ 352 j) (by rw [q211_]; exact (fl_u_ne (by omega))) (Eq.trans (a := F185_ 352 j) (b := F164_ 352 j) (s187_ 352 j (fs_n (by omega) (fs_n (by omega) rfl))) (show F164_ 352 j = F1 352 j from (by rw [q165_]; exact (fl_u_ne (by omega)).trans ((fl_u_ne (by omega))))))) (hold j hj)) (by omega) (by rw [hsp, sp1_rt (by omega) (by omega) (dup_0 (by omega)) (by omega), rt_eq c182_]; congr 1 <;> first | (simp only [List.length_append, List.length_singleton]; omega) | (show F185_ 344 5 = _; omega) | rfl))
                  exfalso; omega
                exfalso; omega
              refine ga_aload_n (v := .ref 344) hm_183 rfl rfl rfl ?_
              refine ga_getr (b := 383) hm_183 rfl sc_344 rfl ?_
              refine fl_iconst hm_183 rfl ?_
              have b223_ : 0 ≤ F1 383 0 ∧ F1 383 0 ≤ 2565726408 := gi_g hg_F1 rfl
              refine ga_lald (z := 0) (w := F1 383 0) hm_183 rfl sc_383 (by omega) (by omega) (by omega) (rfl) ?_
              refine ga_lload_n (z := z136_) hm_183 rfl rfl ?_
              refine ga_lcmpn (a := F1 383 0) (b := z136_) hm_183 rfl rfl ⟨by omega, by omega⟩ ⟨by omega, by omega⟩ (fun h224_ => ?_) (fun h225_ => ?_)
              ·
                refine ga_aload_n (v := .ref 344) hm_183 rfl rfl rfl ?_
                refine gIv (nY := 1) (F := 1) (L := 20) (As := []) (b := 344) (rest := []) hm_183 rfl hm_61 rfl rfl (fl_ob sc_344) rfl rfl rfl rfl rfl (by omega) (by omega) ?_
                intro f226_ l227_ h228_ h229_
                show fl_R xi_ms 61 f226_ l227_ 0 [(0, .ref 344)] [] _ _
                refine ga_aload_n (v := .ref 344) hm_61 rfl rfl rfl ?_
                refine ga_dup hm_61 rfl rfl ?_
                refine ga_geti (z := F1 344 5) hm_61 rfl sc_344 rfl (rfl) ?_
                refine ga_aload_n (v := .ref 344) hm_61 rfl rfl rfl ?_
                refine gIi (nY := 1) (F := 0) (L := 0) (As := []) (b := 344) (rest := [.int (Int32.ofInt (F1 344 5)), .ref 344]) hm_61 rfl hm_59 rfl rfl (fl_ob sc_344) rfl rfl rfl rfl rfl (by omega) (by omega) ?_
                intro f230_ l231_ h232_ h233_
                show fl_R xi_ms 59 f230_ l231_ 0 [(0, .ref 344)] [] _ _
                refine ga_aload_n (v := .ref 344) hm_59 rfl rfl rfl ?_
                refine ga_geti (z := F1 344 9) hm_59 rfl sc_344 rfl (rfl) ?_
                refine fl_if_le (a := F1 344 9) hm_59 rfl ⟨by omega, by omega⟩ (fun h234_ => ?_) (fun h235_ => ?_)
                ·
                  refine fl_iconst hm_59 rfl ?_
                  refine gr_i hm_59 rfl rfl (ga_nb (by omega)) ?_
                  clear h232_ h233_ f230_ l231_
                  refine fl_if_eq hm_61 rfl ⟨by omega, by omega⟩ (fun _ => ?_) (fun h => absurd (by omega) h)
                  refine fl_iconst hm_61 rfl ?_
                  refine ga_iadd (a := F1 344 5) (b := 1) (c := F1 344 5 + 1) hm_61 rfl (by omega) ?_
                  refine ga_puti (z := F1 344 5 + 1) hm_61 rfl sc_344 rfl rfl ?_
                  refine gr_v hm_61 rfl rfl ?_
                  clear h228_ h229_ f226_ l227_
                  refine ga_aload_n (v := .ref 344) hm_183 rfl rfl rfl ?_
                  refine gIi (nY := 1) (F := 0) (L := 0) (As := []) (b := 344) (rest := []) hm_183 rfl hm_59 rfl rfl (fl_ob sc_344) rfl rfl rfl rfl rfl (by omega) (by omega) ?_
                  intro f236_ l237_ h238_ h239_
                  show fl_R xi_ms 59 f236_ l237_ 0 [(0, .ref 344)] [] _ _
                  refine ga_aload_n (v := .ref 344) hm_59 rfl rfl rfl ?_
                  refine ga_geti (z := F1 344 9) hm_59 rfl sc_344 rfl (fl_u_ne (by omega)) ?_
                  refine fl_if_le (a := F1 344 9) hm_59 rfl ⟨by omega, by omega⟩ (fun h240_ => ?_) (fun h241_ => ?_)
                  ·
                    refine fl_iconst hm_59 rfl ?_
                    refine gr_i hm_59 rfl rfl (ga_nb (by omega)) ?_
                    clear h238_ h239_ f236_ l237_
                    refine fl_if_eq hm_183 rfl ⟨by omega, by omega⟩ (fun _ => ?_) (fun h => absurd (by omega) h)
                    refine ga_aload_n (v := .ref 344) hm_183 rfl rfl rfl ?_
                    refine ga_getr (b := 383) hm_183 rfl sc_344 rfl ?_
                    refine ga_iload_n (z := n) hm_183 rfl rfl ?_
                    refine ga_lload_n (z := z136_) hm_183 rfl rfl ?_
                    refine fl_last (z := n) (v := z136_) hm_183 rfl sc_383 (by omega) (by omega) (by omega) ?_
                    refine ga_aload_n (v := .ref 344) hm_183 rfl rfl rfl ?_
                    refine ga_getr (b := 352) hm_183 rfl sc_344 rfl ?_
                    refine fl_iconst hm_183 rfl ?_
                    refine ga_aload_n (v := .ref 344) hm_183 rfl rfl rfl ?_
                    have e242_ : F1 344 17 = F 344 17 := (hf_F1 344 17 rfl).trans (rfl)
                    refine ga_geti (z := F 344 17) hm_183 rfl sc_344 rfl ((fl_u_ne (by omega)).trans ((fl_u_ne (by omega)).trans (e242_))) ?_
                    refine ga_imul (a := 2) (b := F 344 17) (c := 2 * (F 344 17)) hm_183 rfl (by omega) ?_
                    refine ga_iload_n (z := n) hm_183 rfl rfl ?_
                    refine ga_iadd (a := 2 * (F 344 17)) (b := n) (c := 2 * (F 344 17) + n) hm_183 rfl (by omega) ?_
                    refine ga_aload_n (v := .ref 344) hm_183 rfl rfl rfl ?_
                    obtain ⟨F243_, q244_⟩ : ∃ F9_, F9_ = (fl_u (fl_u F1 344 5 (F1 344 5 + 1)) 383 n.toNat z136_) := ⟨_, rfl⟩
                    rw [← q244_]
                    have g245_ : gi F243_ := by rw [q244_]; exact gi_u (gi_u (hg_F1) rfl (by omega) (by omega)) rfl (by omega) (by omega)
                    have g246_ : fs [(344, 344, 5, 5), (344, 344, 9, 10), (352, 352, 0, 100000), (383, 383, 0, 100000)] F F243_ := by rw [q244_]; exact fs_u (fs_u (g9_) rfl) (fs_z (fs_z (fs_z (fs_y (by omega)))))
                    have rk247_ : rk K F243_ := by rw [q244_]; exact rk_u (rk_u (rk10_) (by omega) (by omega)) (by omega) (by omega)
                    have e248_ : F243_ 344 5 = F1 344 5 + 1 := by rw [q244_]; exact (fl_u_ne (by omega)).trans (fl_u_eq)
                    refine gVi (nY := 2) (F := 3) (L := 68) (As := []) (b := 344) (rest := [.int (Int32.ofInt (2 * (F 344 17) + n)), .ref 352]) hm_183 rfl hm_186 rfl rfl (fl_ob sc_344) rfl rfl rfl rfl rfl (by omega) (by omega) (mc_186 hG F243_ X g245_ (K) (ts) hgK rk247_ hkt (by omega) ((by rw [q244_]; exact (rpn_u (rpn_u (rpn_fs hts hf_F1 (fun _ => (fs_n (by omega) (fs_n (by omega) (fs_n (by omega) (fs_n (by omega) rfl))))) (fs_n (by omega) (fs_n (by omega) (fs_n (by omega) (fs_n (by omega) rfl))))) (by omega) (by omega)) (by omega) (by omega))))) (fun _ _ h => False.elim h) ?_
                    have e250_ : F243_ 344 10 = F1 344 10 := by rw [q244_]; exact (fl_u_ne (by omega)).trans (fl_u_ne (by omega))
                    have b251_ : 0 ≤ F1 344 10 ∧ F1 344 10 ≤ 600 := gi_g hg_F1 rfl
                    have e252_ : F243_ 344 9 = F1 344 9 := by rw [q244_]; exact (fl_u_ne (by omega)).trans (fl_u_ne (by omega))
                    rintro z249_ A1_ (⟨F257_, hA_, g258_, s259_, c253_, c254_, c255_, c256_⟩ | ⟨F264_, hA_, g265_, s266_, c260_, c261_, c262_, c263_⟩)
                    ·
                      subst hA_
                      have g267_ : fs [(344, 344, 5, 5), (344, 344, 9, 10), (352, 352, 0, 100000), (383, 383, 0, 100000)] F F257_ := fs_tr g246_ s259_ rfl
                      have rk268_ : rk K F257_ := rk_fs rk247_ s259_ (fun r k h => (fs_n (by omega) (fs_n (by omega) rfl))) (fs_n (by omega) (fs_n (by omega) rfl))
                      try simp only [e248_, e250_, e252_] at c254_
                      have c254_s := c254_.1 (by omega)
                      clear c254_
                      refine fl_iast (z := 2 * (F 344 17) + n) (v := z249_) hm_183 rfl sc_352 (by omega) (by omega) (by omega) ?_
                      refine ga_inc (a := n) (c := n + 1) (lv2 := [(1, .int (Int32.ofInt (n + 1))), (2, .long (Int64.ofInt z136_)), (0, .ref 344)]) hm_183 rfl rfl (Nat.le_of_ble_eq_true rfl) rfl rfl ?_
                      refine fl_goto hm_183 rfl ?_
                      refine ga_aload_n (v := .ref 344) hm_183 rfl rfl rfl ?_
                      refine gIi (nY := 1) (F := 0) (L := 0) (As := []) (b := 344) (rest := []) hm_183 rfl hm_59 rfl rfl (fl_ob sc_344) rfl rfl rfl rfl rfl (by omega) (by omega) ?_
                      intro f269_ l270_ h271_ h272_
                      show fl_R xi_ms 59 f269_ l270_ 0 [(0, .ref 344)] [] _ _
                      refine ga_aload_n (v := .ref 344) hm_59 rfl rfl rfl ?_
                      have b273_ : 0 ≤ F257_ 344 9 ∧ F257_ 344 9 ≤ 5 := gi_g g258_ rfl
                      refine ga_geti (z := F257_ 344 9) hm_59 rfl sc_344 rfl (fl_u_ne (by omega)) ?_
                      refine fl_if_le (a := F257_ 344 9) hm_59 rfl ⟨by omega, by omega⟩ (fun h274_ => ?_) (fun h275_ => ?_)
                      · exfalso; omega
                      refine fl_iconst hm_59 rfl ?_
                      refine fl_goto hm_59 rfl ?_
                      refine gr_i hm_59 rfl rfl (ga_nb (by omega)) ?_
                      clear h271_ h272_ f269_ l270_
                      refine fl_if_ne hm_183 rfl ⟨by omega, by omega⟩ (fun _ => ?_) (fun h => absurd (by omega) h)
                      refine ga_iload_n (z := n + 1) hm_183 rfl rfl ?_
                      obtain ⟨F276_, q277_⟩ : ∃ F9_, F9_ = (fl_u F257_ 352 (2 * (F 344 17) + n).toNat z249_) := ⟨_, rfl⟩
                      rw [← q277_]
                      have g278_ : gi F276_ := by rw [q277_]; exact gi_u (g258_) rfl (by omega) (by omega)
                      have g279_ : fs [(344, 344, 5, 5), (344, 344, 9, 10), (352, 352, 0, 100000), (383, 383, 0, 100000)] F F276_ := by rw [q277_]; exact fs_u (g267_) (fs_z (fs_z (fs_y (by omega))))
                      have rk280_ : rk K F276_ := by rw [q277_]; exact rk_u (rk268_) (by omega) (by omega)
                      refine gr_i (z := n + 1) hm_183 rfl rfl rfl ?_
                      have e281_ : F276_ 344 9 = F257_ 344 9 := by rw [q277_]; exact fl_u_ne (by omega)
                      have e282_ : F276_ 344 10 = F257_ 344 10 := by rw [q277_]; exact fl_u_ne (by omega)
                      have e283_ : F276_ 344 5 = F257_ 344 5 := by rw [q277_]; exact fl_u_ne (by omega)
                      have b284_ : 0 ≤ F257_ 344 10 ∧ F257_ 344 10 ≤ 600 := gi_g g258_ rfl
                      have b285_ : 0 ≤ F 344 10 ∧ F 344 10 ≤ 600 := gi_g hgi rfl
                      have b286_ : 0 ≤ F257_ 344 5 ∧ F257_ 344 5 ≤ 600 := gi_g g258_ rfl
                      exact Or.inl ⟨F276_, rfl, g278_, g279_, (by omega), (⟨by intro h0_; have hs_ := c254_s; rw [hsp, sp1_rt (by omega) (by omega) ((dup_1 hsc (show nrel (K 6 (F1 344 5).toNat) z136_ by rw [c137_, if_pos (by omega)]; exact hvr.2) (by omega)).2 (by assumption)) (by omega), rt_er hs_]; congr 2 <;> omega, fun h0_ => by exfalso; omega⟩), (by omega), (by omega)⟩
                    subst hA_
                    have g287_ : fs [(344, 344, 5, 5), (344, 344, 9, 10), (352, 352, 0, 100000), (383, 383, 0, 100000)] F F264_ := fs_tr g246_ s266_ rfl
                    have rk288_ : rk K F264_ := rk_fs rk247_ s266_ (fun r k h => (fs_n (by omega) (fs_n (by omega) rfl))) (fs_n (by omega) (fs_n (by omega) rfl))
                    try simp only [e252_] at c260_
                    try simp only [e248_] at c261_
                    refine fl_iast (z := 2 * (F 344 17) + n) (v := z249_) hm_183 rfl sc_352 (by omega) (by omega) (by omega) ?_
                    refine ga_inc (a := n) (c := n + 1) (lv2 := [(1, .int (Int32.ofInt (n + 1))), (2, .long (Int64.ofInt z136_)), (0, .ref 344)]) hm_183 rfl rfl (Nat.le_of_ble_eq_true rfl) rfl rfl ?_
                    refine fl_goto hm_183 rfl ?_
                    obtain ⟨F289_, q290_⟩ : ∃ F9_, F9_ = (fl_u F264_ 352 (2 * (F 344 17) + n).toNat z249_) := ⟨_, rfl⟩
                    rw [← q290_]
                    have g291_ : gi F289_ := by rw [q290_]; exact gi_u (g265_) rfl (by omega) (by omega)
                    have g292_ : fs [(344, 344, 5, 5), (344, 344, 9, 10), (352, 352, 0, 100000), (383, 383, 0, 100000)] F F289_ := by rw [q290_]; exact fs_u (g287_) (fs_z (fs_z (fs_y (by omega))))
                    have rk293_ : rk K F289_ := by rw [q290_]; exact rk_u (rk288_) (by omega) (by omega)
                    have e294_ : F289_ 344 9 = F264_ 344 9 := by rw [q290_]; exact fl_u_ne (by omega)
                    have b295_ : 0 ≤ F264_ 344 9 ∧ F264_ 344 9 ≤ 5 := gi_g g265_ rfl
                    have e296_ : F289_ 344 5 = F264_ 344 5 := by rw [q290_]; exact fl_u_ne (by omega)
                    have b297_ : 0 ≤ F264_ 344 5 ∧ F264_ 344 5 ≤ 600 := gi_g g265_ rfl
                    have b298_ : 0 ≤ K 1 6 ∧ K 1 6 ≤ 601 := gi_g hgK rfl
                    have e299_ : F243_ 383 n.toNat = z136_ := by rw [q244_]; exact fl_u_eq
                    have e300_ : F264_ 383 n.toNat = z136_ := (s266_ 383 n.toNat (fs_n (by omega) (fs_n (by omega) rfl))).trans (e299_)
                    have e301_ : F289_ 383 n.toNat = z136_ := by rw [q290_]; exact (fl_u_ne (by omega)).trans (e300_)
                    exact fl_R_sub (lv' := [(1, .int (Int32.ofInt (n + 1))), (0, .ref 344)]) rfl rfl (ih5_ _ (by omega) (n + 1) (_) (_) F289_ rfl g291_ (by rw [q290_]; exact fs_u ((fs_tr (by rw [q244_]; exact fs_u (fs_u (hf_F1) rfl) (fs_z (fs_z (fs_z (fs_y (by omega)))))) s266_ rfl)) (fs_z (fs_z (fs_y (by omega))))) (by omega) (by simp only [List.length_append, List.length_singleton]; omega) (rpn_at hsc (fun j hj => (Eq.trans (a := F289_ 383 j) (b := F264_ 383 j) (by rw [q290_]; exact (fl_u_ne (by omega))) (Eq.trans (a := F264_ 383 j) (b := F243_ 383 j) (s266_ 383 j (fs_n (by omega) (fs_n (by omega) rfl))) (show F243_ 383 j = F1 383 j from (by rw [q244_]; exact (fl_u_ne (by omega)).trans ((fl_u_ne (by omega)))))))) (e301_) (show nrel (K 6 (F1 344 5).toNat) z136_ by rw [c137_, if_pos (by omega)]; exact hvr.2)) (rty_snoc (t := z249_ - 1) hty (fun j hj => (Eq.trans (a := F289_ 352 ((2 * (F 344 17)).toNat + j)) (b := F264_ 352 ((2 * (F 344 17)).toNat + j)) (by rw [q290_]; exact (fl_u_ne (by omega))) (Eq.trans (a := F264_ 352 ((2 * (F 344 17)).toNat + j)) (b := F243_ 352 ((2 * (F 344 17)).toNat + j)) (s266_ 352 ((2 * (F 344 17)).toNat + j) (fs_n (by omega) (fs_n (by omega) rfl))) (show F243_ 352 ((2 * (F 344 17)).toNat + j) = F1 352 ((2 * (F 344 17)).toNat + j) from (by rw [q244_]; exact (fl_u_ne (by omega)).trans ((fl_u_ne (by omega)))))))) (by rw [q290_, show (2 * (F 344 17)).toNat + tl.length = (2 * (F 344 17) + n).toNat by omega]; exact (fl_u_eq).trans (by omega))) (fun j hj => Eq.trans (b := F1 352 j) (Eq.trans (a := F289_ 352 j) (b := F264_ 352 j) (by rw [q290_]; exact (fl_u_ne (by omega))) (Eq.trans (a := F264_ 352 j) (b := F243_ 352 j) (s266_ 352 j (fs_n (by omega) (fs_n (by omega) rfl))) (show F243_ 352 j = F1 352 j from (by rw [q244_]; exact (fl_u_ne (by omega)).trans ((fl_u_ne (by omega))))))) (hold j hj)) (by omega) (by rw [hsp, sp1_rt (by omega) (by omega) ((dup_1 hsc (show nrel (K 6 (F1 344 5).toNat) z136_ by rw [c137_, if_pos (by omega)]; exact hvr.2) (by omega)).2 (by assumption)) (by omega), rt_eq c261_]; congr 1 <;> first | (simp only [List.length_append, List.length_singleton]; omega) | (show F264_ 344 5 = _; omega) | rfl))
                  exfalso; omega
                exfalso; omega
              refine ga_aload_n (v := .ref 344) hm_183 rfl rfl rfl ?_
              refine fl_iconst hm_183 rfl ?_
              refine gVv (nY := 2) (F := 0) (L := 0) (As := [.int (Int32.ofInt 2)]) (b := 344) (rest := []) hm_183 rfl hm_54 rfl rfl (fl_ob sc_344) rfl rfl rfl rfl rfl (by omega) (by omega) (mc_54 hG F1 X hg_F1 (K) (2) hgK rk10_ hkt (by omega) (by omega)) (fun _ _ h => False.elim h) ?_
              have b303_ : 0 ≤ F1 344 10 ∧ F1 344 10 ≤ 600 := gi_g hg_F1 rfl
              rintro A1_ ⟨F307_, hA_, g308_, s309_, c304_, c305_, c306_⟩
              subst hA_
              have g310_ : fs [(344, 344, 5, 5), (344, 344, 9, 10), (352, 352, 0, 100000), (383, 383, 0, 100000)] F F307_ := fs_tr g9_ s309_ rfl
              have rk311_ : rk K F307_ := rk_fs rk10_ s309_ (fun r k h => (fs_n (by omega) rfl)) (fs_n (by omega) rfl)
              have c305_s := c305_.1 (by omega)
              clear c305_
              refine ga_aload_n (v := .ref 344) hm_183 rfl rfl rfl ?_
              refine gIv (nY := 1) (F := 1) (L := 20) (As := []) (b := 344) (rest := []) hm_183 rfl hm_61 rfl rfl (fl_ob sc_344) rfl rfl rfl rfl rfl (by omega) (by omega) ?_
              intro f312_ l313_ h314_ h315_
              show fl_R xi_ms 61 f312_ l313_ 0 [(0, .ref 344)] [] _ _
              refine ga_aload_n (v := .ref 344) hm_61 rfl rfl rfl ?_
              refine ga_dup hm_61 rfl rfl ?_
              have e316_ : F307_ 344 5 = F1 344 5 := (s309_ 344 5 rfl).trans (rfl)
              refine ga_geti (z := F1 344 5) hm_61 rfl sc_344 rfl (e316_) ?_
              refine ga_aload_n (v := .ref 344) hm_61 rfl rfl rfl ?_
              refine gIi (nY := 1) (F := 0) (L := 0) (As := []) (b := 344) (rest := [.int (Int32.ofInt (F1 344 5)), .ref 344]) hm_61 rfl hm_59 rfl rfl (fl_ob sc_344) rfl rfl rfl rfl rfl (by omega) (by omega) ?_
              intro f317_ l318_ h319_ h320_
              show fl_R xi_ms 59 f317_ l318_ 0 [(0, .ref 344)] [] _ _
              refine ga_aload_n (v := .ref 344) hm_59 rfl rfl rfl ?_
              have b321_ : 0 ≤ F307_ 344 9 ∧ F307_ 344 9 ≤ 5 := gi_g g308_ rfl
              refine ga_geti (z := F307_ 344 9) hm_59 rfl sc_344 rfl (rfl) ?_
              refine fl_if_le (a := F307_ 344 9) hm_59 rfl ⟨by omega, by omega⟩ (fun h322_ => ?_) (fun h323_ => ?_)
              · exfalso; omega
              refine fl_iconst hm_59 rfl ?_
              refine fl_goto hm_59 rfl ?_
              refine gr_i hm_59 rfl rfl (ga_nb (by omega)) ?_
              clear h319_ h320_ f317_ l318_
              refine fl_if_eq hm_61 rfl ⟨by omega, by omega⟩ (fun h => absurd h (by omega)) (fun _ => ?_)
              refine fl_iconst hm_61 rfl ?_
              refine fl_goto hm_61 rfl ?_
              refine ga_iadd (a := F1 344 5) (b := 0) (c := F1 344 5) hm_61 rfl (by omega) ?_
              refine ga_puti (z := F1 344 5) hm_61 rfl sc_344 rfl rfl ?_
              refine gr_v hm_61 rfl rfl ?_
              clear h314_ h315_ f312_ l313_
              refine ga_aload_n (v := .ref 344) hm_183 rfl rfl rfl ?_
              refine gIi (nY := 1) (F := 0) (L := 0) (As := []) (b := 344) (rest := []) hm_183 rfl hm_59 rfl rfl (fl_ob sc_344) rfl rfl rfl rfl rfl (by omega) (by omega) ?_
              intro f324_ l325_ h326_ h327_
              show fl_R xi_ms 59 f324_ l325_ 0 [(0, .ref 344)] [] _ _
              refine ga_aload_n (v := .ref 344) hm_59 rfl rfl rfl ?_
              refine ga_geti (z := F307_ 344 9) hm_59 rfl sc_344 rfl (fl_u_ne (by omega)) ?_
              refine fl_if_le (a := F307_ 344 9) hm_59 rfl ⟨by omega, by omega⟩ (fun h328_ => ?_) (fun h329_ => ?_)
              · exfalso; omega
              refine fl_iconst hm_59 rfl ?_
              refine fl_goto hm_59 rfl ?_
              refine gr_i hm_59 rfl rfl (ga_nb (by omega)) ?_
              clear h326_ h327_ f324_ l325_
              refine fl_if_eq hm_183 rfl ⟨by omega, by omega⟩ (fun h => absurd h (by omega)) (fun _ => ?_)
              refine ga_iload_n (z := n) hm_183 rfl rfl ?_
              obtain ⟨F330_, q331_⟩ : ∃ F9_, F9_ = (fl_u F307_ 344 5 (F1 344 5)) := ⟨_, rfl⟩
              rw [← q331_]
              have g332_ : gi F330_ := by rw [q331_]; exact gi_u (g308_) rfl (by omega) (by omega)
              have g333_ : fs [(344, 344, 5, 5), (344, 344, 9, 10), (352, 352, 0, 100000), (383, 383, 0, 100000)] F F330_ := by rw [q331_]; exact fs_u (g310_) rfl
              have rk334_ : rk K F330_ := by rw [q331_]; exact rk_u (rk311_) (by omega) (by omega)
              refine gr_i (z := n) hm_183 rfl rfl rfl ?_
              have e335_ : F330_ 344 9 = F307_ 344 9 := by rw [q331_]; exact fl_u_ne (by omega)
              have e336_ : F330_ 344 10 = F307_ 344 10 := by rw [q331_]; exact fl_u_ne (by omega)
              have e337_ : F330_ 344 5 = F1 344 5 := by rw [q331_]; exact fl_u_eq
              have b338_ : 0 ≤ F307_ 344 10 ∧ F307_ 344 10 ≤ 600 := gi_g g308_ rfl
              have b339_ : 0 ≤ F 344 10 ∧ F 344 10 ≤ 600 := gi_g hgi rfl
              exact Or.inl ⟨F330_, rfl, g332_, g333_, (by omega), (⟨by intro h0_; have hs_ := c305_s; rw [hsp, sp1_f2 (by omega) (by omega) ((dup_1 hsc (show nrel (K 6 (F1 344 5).toNat) z136_ by rw [c137_, if_pos (by omega)]; exact hvr.2) (by omega)).1 (by assumption))]; congr 2 <;> omega, fun h0_ => by exfalso; omega⟩), (by omega), (by omega)⟩
            exfalso; omega
          exfalso; omega
        subst hA_
        subst hz_
        refine fl_if_ne hm_183 rfl ⟨by omega, by omega⟩ (fun _ => ?_) (fun h => absurd (by omega) h)
        refine ga_iload_n (z := n) hm_183 rfl rfl ?_
        refine gr_i (z := n) hm_183 rfl rfl rfl ?_
        exact Or.inr (⟨F1, rfl, hg_F1, g9_, (by omega), (⟨l, tl, ⟨by rw [hsp, sp1_e (by omega)], by omega⟩, ⟨by omega, by omega⟩, hty, hold⟩), (by omega), (by omega)⟩)
      exfalso; omega
    have b340_ : 0 ≤ K 1 6 ∧ K 1 6 ≤ 601 := gi_g hgK rfl
    exact L4_ _ (0) ([]) ([]) F rfl hgi fs_refl (by omega) (by simp) (⟨rfl, fun j x hx => by simp at hx⟩) (fun j x hx => by simp at hx) (fun j hj => rfl) (by omega) (rfl)
  refine fl_iconst hm_183 rfl ?_
  refine ga_istore_n (lv2 := [(1, .int (Int32.ofInt 0)), (0, .ref 344)]) hm_183 rfl (Nat.le_of_ble_eq_true rfl) rfl ?_
  refine ga_aload_n (v := .ref 344) hm_183 rfl rfl rfl ?_
  refine gIi (nY := 1) (F := 0) (L := 0) (As := []) (b := 344) (rest := []) hm_183 rfl hm_59 rfl rfl (fl_ob sc_344) rfl rfl rfl rfl rfl (by omega) (by omega) ?_
  intro f341_ l342_ h343_ h344_
  show fl_R xi_ms 59 f341_ l342_ 0 [(0, .ref 344)] [] _ _
  refine ga_aload_n (v := .ref 344) hm_59 rfl rfl rfl ?_
  refine ga_geti (z := F 344 9) hm_59 rfl sc_344 rfl (rfl) ?_
  refine fl_if_le (a := F 344 9) hm_59 rfl ⟨by omega, by omega⟩ (fun h345_ => ?_) (fun h346_ => ?_)
  · exfalso; omega
  refine fl_iconst hm_59 rfl ?_
  refine fl_goto hm_59 rfl ?_
  refine gr_i hm_59 rfl rfl (ga_nb (by omega)) ?_
  clear h343_ h344_ f341_ l342_
  refine fl_if_ne hm_183 rfl ⟨by omega, by omega⟩ (fun _ => ?_) (fun h => absurd (by omega) h)
  refine ga_iload_n (z := 0) hm_183 rfl rfl ?_
  refine gr_i (z := 0) hm_183 rfl rfl rfl ?_
  have b347_ : 0 ≤ F 344 10 ∧ F 344 10 ≤ 600 := gi_g hgi rfl
  have b348_ : 0 ≤ F 344 5 ∧ F 344 5 ≤ 600 := gi_g hgi rfl
  exact Or.inl ⟨F, rfl, hgi, fs_refl, (by omega), (⟨fun h0_ => by exfalso; omega, fun h0_ => by constructor <;> omega⟩), (by omega), (by omega)⟩

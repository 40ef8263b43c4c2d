/- CheapPlannerModel.readPredicateVariables -/
abbrev pq_183 (G : Nat → Nat → Option Nat) (F : fl_N) (X : xi_H) (K : fl_N) (ts : List Int) : Outcome → xi_H → Prop := gqi (fun z A => (∃ F' : fl_N, fl_H sh_T G F' ++ X = A ∧ gi F' ∧ fs [(344, 344, 5, 5), (344, 344, 9, 10), (352, 352, 0, 100000), (383, 383, 0, 100000)] F F' ∧ (¬ F' 344 9 = 0) ∧ ((F 344 9 = 0 → sp_p1 K ts 2 [] [] (F 344 5) = .inl (F' 344 9, F' 344 10)) ∧ (¬ F 344 9 = 0 → F' 344 9 = F 344 9 ∧ F' 344 10 = F 344 10)) ∧ (0 ≤ F' 344 5 ∧ F' 344 5 ≤ K 1 6 - 1) ∧ (0 ≤ z ∧ z ≤ 2)) ∨ (∃ F' : fl_N, fl_H sh_T G F' ++ X = A ∧ gi F' ∧ fs [(344, 344, 5, 5), (344, 344, 9, 10), (352, 352, 0, 100000), (383, 383, 0, 100000)] F F' ∧ (F' 344 9 = 0 ∧ F 344 9 = 0) ∧ (∃ l tl, (sp_p1 K ts 2 [] [] (F 344 5) = .inr (F' 344 5, l, tl) ∧ K 3 (F' 344 5).toNat = 1) ∧ (z = (tl.length : Int) ∧ tl.length = l.length) ∧ rty (F' 352) (2 * (F 344 17)).toNat tl ∧ ∀ j : Nat, (j : Int) < 2 * F 344 17 → F' 352 j = F 352 j) ∧ (0 ≤ F' 344 5 ∧ F' 344 5 ≤ K 1 6 - 1) ∧ (0 ≤ z ∧ z ≤ 2))) gqn
theorem mc_183 {G : Nat → Nat → Option Nat} (hG : gg G) (F : fl_N) (X : xi_H) (hgi : gi F) (K : fl_N) (ts : List Int) (hgK : gi K) (hrk : rk K F) (hkt : rkt K) (hp : 0 ≤ F 344 5 ∧ F 344 5 ≤ K 1 6 - 1) (hts : rpn (F 349) (F 344 15) ts) (h17 : F 344 17 ≤ 5) : fl_M xi_ms 183 4 89 [.ref 344] (fl_H sh_T G F ++ X) (pq_183 G F X K ts) := by
  intro fr lo hfr hlo
  show fl_R xi_ms 183 fr lo 0 [(0, .ref 344)] [] _ _
  have hP := rkt_p hkt hp.1 hp.2 hgK
  have hK16 : 0 ≤ K 1 6 ∧ K 1 6 ≤ 601 := gi_g hgK rfl
  have hko := hkt.1
  have b1_ : 0 ≤ F 344 9 ∧ F 344 9 ≤ 5 := gi_g hgi rfl
  by_cases h2_ : F 344 9 = 0
  ·
    refine fl_iconst hm_183 rfl ?_
    refine ga_istore_n (lv2 := [(1, .int (Int32.ofInt 0)), (0, .ref 344)]) hm_183 rfl (Nat.le_of_ble_eq_true rfl) rfl ?_
    have L4_ : ∀ (n3_ : Nat) (n : Int) (l : List Int) (tl : List Int) (F1 : fl_N), (3 - n : Int).toNat = n3_ → (gi F1) → (fs [(344, 344, 5, 5), (344, 344, 9, 10), (352, 352, 0, 100000), (383, 383, 0, 100000)] F F1) → (F1 344 9 = 0) → (0 ≤ n ∧ n ≤ 2 ∧ (l.length : Int) = n ∧ (tl.length : Int) = n) → (rpn (F1 383) n l) → (rty (F1 352) (2 * (F 344 17)).toNat tl) → (∀ j : Nat, (j : Int) < 2 * F 344 17 → F1 352 j = F 352 j) → (0 ≤ F1 344 5 ∧ F1 344 5 ≤ K 1 6 - 1) → (sp_p1 K ts 2 [] [] (F 344 5) = sp_p1 K ts (2 - l.length) l tl (F1 344 5)) → fl_R xi_ms 183 fr lo 2 [(1, .int (Int32.ofInt n)), (0, .ref 344)] [] (fl_H sh_T G F1 ++ X) (pq_183 G F X K ts) := by
      intro n3_
      induction n3_ using Nat.strongRecOn with
      | ind n3_ ih5_ =>
      intro n l tl F1 hn6_ hg_F1 hf_F1 hk hn hsc hty hold hp1 hsp
      have g7_ : fs [(344, 344, 5, 5), (344, 344, 9, 10), (352, 352, 0, 100000), (383, 383, 0, 100000)] F F1 := fs_tr fs_refl hf_F1 rfl
      have rk8_ : rk K F1 := rk_fs hrk hf_F1 (fun r k h => (fs_n (by omega) (fs_n (by omega) (fs_n (by omega) (fs_n (by omega) rfl))))) (fs_n (by omega) (fs_n (by omega) (fs_n (by omega) (fs_n (by omega) rfl))))
      have hP1 := rkt_p hkt (p := F1 344 5) (by omega) (by omega) hgK
      refine ga_aload_n (v := .ref 344) hm_183 rfl rfl rfl ?_
      refine gIi (nY := 1) (F := 0) (L := 0) (As := []) (b := 344) (rest := []) hm_183 rfl hm_59 rfl rfl (fl_ob sc_344) rfl rfl rfl rfl rfl (by omega) (by omega) ?_
      intro f9_ l10_ h11_ h12_
      show fl_R xi_ms 59 f9_ l10_ 0 [(0, .ref 344)] [] _ _
      refine ga_aload_n (v := .ref 344) hm_59 rfl rfl rfl ?_
      have b13_ : 0 ≤ F1 344 9 ∧ F1 344 9 ≤ 5 := gi_g hg_F1 rfl
      refine ga_geti (z := F1 344 9) hm_59 rfl sc_344 rfl (rfl) ?_
      refine fl_if_le (a := F1 344 9) hm_59 rfl ⟨by omega, by omega⟩ (fun h14_ => ?_) (fun h15_ => ?_)
      ·
        refine fl_iconst hm_59 rfl ?_
        refine gr_i hm_59 rfl rfl (ga_nb (by omega)) ?_
        refine fl_if_ne hm_183 rfl ⟨by omega, by omega⟩ (fun h => absurd h (by omega)) (fun _ => ?_)
        refine ga_aload_n (v := .ref 344) hm_183 rfl rfl rfl ?_
        refine fl_bipush hm_183 rfl rfl ?_
        have b16_ : 0 ≤ F1 344 5 ∧ F1 344 5 ≤ 600 := gi_g hg_F1 rfl
        refine gVi (nY := 2) (F := 1) (L := 20) (As := [.int (Int32.ofInt 41)]) (b := 344) (rest := []) hm_183 rfl hm_52 rfl rfl (fl_ob sc_344) rfl rfl rfl rfl rfl (by omega) (by omega) (mc_52 hG F1 X hg_F1 (K) (41) hgK rk8_ hkt (by omega) (by omega)) (fun _ _ h => False.elim h) ?_
        rintro z17_ A1_ (⟨hA_, hz_, c18_⟩ | ⟨hA_, hz_, c19_⟩)
        ·
          subst hA_
          subst hz_
          refine fl_if_ne hm_183 rfl ⟨by omega, by omega⟩ (fun h => absurd h (by omega)) (fun _ => ?_)
          refine ga_iload_n (z := n) hm_183 rfl rfl ?_
          refine fl_iconst hm_183 rfl ?_
          refine fl_icmp_eq (a := n) (b := 2) hm_183 rfl ⟨by omega, by omega⟩ ⟨by omega, by omega⟩ (fun h20_ => ?_) (fun h21_ => ?_)
          ·
            refine ga_aload_n (v := .ref 344) hm_183 rfl rfl rfl ?_
            refine fl_iconst hm_183 rfl ?_
            refine gVv (nY := 2) (F := 0) (L := 0) (As := [.int (Int32.ofInt 1)]) (b := 344) (rest := []) hm_183 rfl hm_54 rfl rfl (fl_ob sc_344) rfl rfl rfl rfl rfl (by omega) (by omega) (mc_54 hG F1 X hg_F1 (K) (1) hgK rk8_ hkt (by omega) (by omega)) (fun _ _ h => False.elim h) ?_
            have b23_ : 0 ≤ F1 344 10 ∧ F1 344 10 ≤ 600 := gi_g hg_F1 rfl
            rintro A1_ ⟨F27_, hA_, g28_, s29_, c24_, c25_, c26_⟩
            subst hA_
            have g30_ : fs [(344, 344, 5, 5), (344, 344, 9, 10), (352, 352, 0, 100000), (383, 383, 0, 100000)] F F27_ := fs_tr g7_ s29_ rfl
            have rk31_ : rk K F27_ := rk_fs rk8_ s29_ (fun r k h => (fs_n (by omega) rfl)) (fs_n (by omega) rfl)
            refine ga_aload_n (v := .ref 344) hm_183 rfl rfl rfl ?_
            refine gIi (nY := 1) (F := 0) (L := 0) (As := []) (b := 344) (rest := []) hm_183 rfl hm_59 rfl rfl (fl_ob sc_344) rfl rfl rfl rfl rfl (by omega) (by omega) ?_
            intro f32_ l33_ h34_ h35_
            show fl_R xi_ms 59 f32_ l33_ 0 [(0, .ref 344)] [] _ _
            refine ga_aload_n (v := .ref 344) hm_59 rfl rfl rfl ?_
            have b36_ : 0 ≤ F27_ 344 9 ∧ F27_ 344 9 ≤ 5 := gi_g g28_ rfl
            refine ga_geti (z := F27_ 344 9) hm_59 rfl sc_344 rfl (rfl) ?_
            refine fl_if_le (a := F27_ 344 9) hm_59 rfl ⟨by omega, by omega⟩ (fun h37_ => ?_) (fun h38_ => ?_)
            · exfalso; omega
            refine fl_iconst hm_59 rfl ?_
            refine fl_goto hm_59 rfl ?_
            refine gr_i hm_59 rfl rfl (ga_nb (by omega)) ?_
            refine fl_if_eq hm_183 rfl ⟨by omega, by omega⟩ (fun h => absurd h (by omega)) (fun _ => ?_)
            refine ga_lconst (z := 0) hm_183 rfl rfl ?_
            refine fl_goto hm_183 rfl ?_
            
            refine ga_lstore_n (lv2 := [(2, .long (Int64.ofInt 0)), (1, .int (Int32.ofInt n)), (0, .ref 344)]) hm_183 rfl (Nat.le_of_ble_eq_true rfl) rfl ?_
            refine ga_aload_n (v := .ref 344) hm_183 rfl rfl rfl ?_
            refine gIi (nY := 1) (F := 0) (L := 0) (As := []) (b := 344) (rest := []) hm_183 rfl hm_59 rfl rfl (fl_ob sc_344) rfl rfl rfl rfl rfl (by omega) (by omega) ?_
            intro f39_ l40_ h41_ h42_
            show fl_R xi_ms 59 f39_ l40_ 0 [(0, .ref 344)] [] _ _
            refine ga_aload_n (v := .ref 344) hm_59 rfl rfl rfl ?_
            refine ga_geti (z := F27_ 344 9) hm_59 rfl sc_344 rfl (rfl) ?_
            refine fl_if_le (a := F27_ 344 9) hm_59 rfl ⟨by omega, by omega⟩ (fun h43_ => ?_) (fun h44_ => ?_)
            · exfalso; omega
            refine fl_iconst hm_59 rfl ?_
            refine fl_goto hm_59 rfl ?_
            refine gr_i hm_59 rfl rfl (ga_nb (by omega)) ?_
            refine fl_if_ne hm_183 rfl ⟨by omega, by omega⟩ (fun _ => ?_) (fun h => absurd (by omega) h)
            refine ga_aload_n (v := .ref 344) hm_183 rfl rfl rfl ?_
            refine gIv (nY := 1) (F := 1) (L := 20) (As := []) (b := 344) (rest := []) hm_183 rfl hm_61 rfl rfl (fl_ob sc_344) rfl rfl rfl rfl rfl (by omega) (by omega) ?_
            intro f45_ l46_ h47_ h48_
            show fl_R xi_ms 61 f45_ l46_ 0 [(0, .ref 344)] [] _ _
            refine ga_aload_n (v := .ref 344) hm_61 rfl rfl rfl ?_
            refine ga_dup hm_61 rfl rfl ?_
            have e49_ : F27_ 344 5 = F1 344 5 := (s29_ 344 5 rfl).trans (rfl)
            refine ga_geti (z := F1 344 5) hm_61 rfl sc_344 rfl (e49_) ?_
            refine ga_aload_n (v := .ref 344) hm_61 rfl rfl rfl ?_
            refine gIi (nY := 1) (F := 0) (L := 0) (As := []) (b := 344) (rest := [.int (Int32.ofInt (F1 344 5)), .ref 344]) hm_61 rfl hm_59 rfl rfl (fl_ob sc_344) rfl rfl rfl rfl rfl (by omega) (by omega) ?_
            intro f50_ l51_ h52_ h53_
            show fl_R xi_ms 59 f50_ l51_ 0 [(0, .ref 344)] [] _ _
            refine ga_aload_n (v := .ref 344) hm_59 rfl rfl rfl ?_
            refine ga_geti (z := F27_ 344 9) hm_59 rfl sc_344 rfl (rfl) ?_
            refine fl_if_le (a := F27_ 344 9) hm_59 rfl ⟨by omega, by omega⟩ (fun h54_ => ?_) (fun h55_ => ?_)
            · exfalso; omega
            refine fl_iconst hm_59 rfl ?_
            refine fl_goto hm_59 rfl ?_
            refine gr_i hm_59 rfl rfl (ga_nb (by omega)) ?_
            refine fl_if_eq hm_61 rfl ⟨by omega, by omega⟩ (fun h => absurd h (by omega)) (fun _ => ?_)
            refine fl_iconst hm_61 rfl ?_
            refine fl_goto hm_61 rfl ?_
            refine ga_iadd (a := F1 344 5) (b := 0) (c := F1 344 5) hm_61 rfl (by omega) ?_
            refine ga_puti (z := F1 344 5) hm_61 rfl sc_344 rfl rfl ?_
            refine gr_v hm_61 rfl rfl ?_
            refine ga_aload_n (v := .ref 344) hm_183 rfl rfl rfl ?_
            refine gIi (nY := 1) (F := 0) (L := 0) (As := []) (b := 344) (rest := []) hm_183 rfl hm_59 rfl rfl (fl_ob sc_344) rfl rfl rfl rfl rfl (by omega) (by omega) ?_
            intro f56_ l57_ h58_ h59_
            show fl_R xi_ms 59 f56_ l57_ 0 [(0, .ref 344)] [] _ _
            refine ga_aload_n (v := .ref 344) hm_59 rfl rfl rfl ?_
            refine ga_geti (z := F27_ 344 9) hm_59 rfl sc_344 rfl (fl_u_ne (by omega)) ?_
            refine fl_if_le (a := F27_ 344 9) hm_59 rfl ⟨by omega, by omega⟩ (fun h60_ => ?_) (fun h61_ => ?_)
            · exfalso; omega
            refine fl_iconst hm_59 rfl ?_
            refine fl_goto hm_59 rfl ?_
            refine gr_i hm_59 rfl rfl (ga_nb (by omega)) ?_
            refine fl_if_eq hm_183 rfl ⟨by omega, by omega⟩ (fun h => absurd h (by omega)) (fun _ => ?_)
            refine ga_iload_n (z := n) hm_183 rfl rfl ?_
            obtain ⟨F62_, q63_⟩ : ∃ F9_, F9_ = (fl_u F27_ 344 5 (F1 344 5)) := ⟨_, rfl⟩
            rw [← q63_]
            have g64_ : gi F62_ := by rw [q63_]; exact gi_u (g28_) rfl (by omega) (by omega)
            have g65_ : fs [(344, 344, 5, 5), (344, 344, 9, 10), (352, 352, 0, 100000), (383, 383, 0, 100000)] F F62_ := by rw [q63_]; exact fs_u (g30_) rfl
            have rk66_ : rk K F62_ := by rw [q63_]; exact rk_u (rk31_) (by omega) (by omega)
            refine gr_i (z := n) hm_183 rfl rfl rfl ?_
            have e67_ : F62_ 344 9 = F27_ 344 9 := by rw [q63_]; exact fl_u_ne (by omega)
            have e68_ : F62_ 344 10 = F27_ 344 10 := by rw [q63_]; exact fl_u_ne (by omega)
            have e69_ : F62_ 344 5 = F1 344 5 := by rw [q63_]; exact fl_u_eq
            have b70_ : 0 ≤ F27_ 344 10 ∧ F27_ 344 10 ≤ 600 := gi_g g28_ rfl
            have b71_ : 0 ≤ F 344 10 ∧ F 344 10 ≤ 600 := gi_g hgi rfl
            have b72_ : 0 ≤ F 344 5 ∧ F 344 5 ≤ 600 := gi_g hgi rfl
            exact Or.inl ⟨F62_, rfl, g64_, g65_, (by omega), (⟨by intro h0_; have hs_ := c25_.1 (by omega); rw [hsp, sp1_z (by omega) (by omega)]; congr 2 <;> omega, fun h0_ => by exfalso; omega⟩), (by omega), (by omega)⟩
          refine ga_aload_n (v := .ref 344) hm_183 rfl rfl rfl ?_
          refine gVi (nY := 1) (F := 2) (L := 46) (As := []) (b := 344) (rest := []) hm_183 rfl hm_169 rfl rfl (fl_ob sc_344) rfl rfl rfl rfl rfl (by omega) (by omega) (mc_169 hG F1 X hg_F1 (K) hgK rk8_ hkt (by omega)) (fun _ _ h => False.elim h) ?_
          rintro z73_ A1_ (⟨hA_, hz_, c74_⟩ | ⟨hA_, hz_, c75_, c76_⟩)
          ·
            subst hA_
            subst hz_
            refine fl_if_ne hm_183 rfl ⟨by omega, by omega⟩ (fun h => absurd h (by omega)) (fun _ => ?_)
            refine ga_aload_n (v := .ref 344) hm_183 rfl rfl rfl ?_
            refine fl_iconst hm_183 rfl ?_
            refine gVv (nY := 2) (F := 0) (L := 0) (As := [.int (Int32.ofInt 1)]) (b := 344) (rest := []) hm_183 rfl hm_54 rfl rfl (fl_ob sc_344) rfl rfl rfl rfl rfl (by omega) (by omega) (mc_54 hG F1 X hg_F1 (K) (1) hgK rk8_ hkt (by omega) (by omega)) (fun _ _ h => False.elim h) ?_
            have b78_ : 0 ≤ F1 344 10 ∧ F1 344 10 ≤ 600 := gi_g hg_F1 rfl
            rintro A1_ ⟨F82_, hA_, g83_, s84_, c79_, c80_, c81_⟩
            subst hA_
            have g85_ : fs [(344, 344, 5, 5), (344, 344, 9, 10), (352, 352, 0, 100000), (383, 383, 0, 100000)] F F82_ := fs_tr g7_ s84_ rfl
            have rk86_ : rk K F82_ := rk_fs rk8_ s84_ (fun r k h => (fs_n (by omega) rfl)) (fs_n (by omega) rfl)
            refine ga_aload_n (v := .ref 344) hm_183 rfl rfl rfl ?_
            refine gIi (nY := 1) (F := 0) (L := 0) (As := []) (b := 344) (rest := []) hm_183 rfl hm_59 rfl rfl (fl_ob sc_344) rfl rfl rfl rfl rfl (by omega) (by omega) ?_
            intro f87_ l88_ h89_ h90_
            show fl_R xi_ms 59 f87_ l88_ 0 [(0, .ref 344)] [] _ _
            refine ga_aload_n (v := .ref 344) hm_59 rfl rfl rfl ?_
            have b91_ : 0 ≤ F82_ 344 9 ∧ F82_ 344 9 ≤ 5 := gi_g g83_ rfl
            refine ga_geti (z := F82_ 344 9) hm_59 rfl sc_344 rfl (rfl) ?_
            refine fl_if_le (a := F82_ 344 9) hm_59 rfl ⟨by omega, by omega⟩ (fun h92_ => ?_) (fun h93_ => ?_)
            · exfalso; omega
            refine fl_iconst hm_59 rfl ?_
            refine fl_goto hm_59 rfl ?_
            refine gr_i hm_59 rfl rfl (ga_nb (by omega)) ?_
            refine fl_if_eq hm_183 rfl ⟨by omega, by omega⟩ (fun h => absurd h (by omega)) (fun _ => ?_)
            refine ga_lconst (z := 0) hm_183 rfl rfl ?_
            refine fl_goto hm_183 rfl ?_
            
            refine ga_lstore_n (lv2 := [(2, .long (Int64.ofInt 0)), (1, .int (Int32.ofInt n)), (0, .ref 344)]) hm_183 rfl (Nat.le_of_ble_eq_true rfl) rfl ?_
            refine ga_aload_n (v := .ref 344) hm_183 rfl rfl rfl ?_
            refine gIi (nY := 1) (F := 0) (L := 0) (As := []) (b := 344) (rest := []) hm_183 rfl hm_59 rfl rfl (fl_ob sc_344) rfl rfl rfl rfl rfl (by omega) (by omega) ?_
            intro f94_ l95_ h96_ h97_
            show fl_R xi_ms 59 f94_ l95_ 0 [(0, .ref 344)] [] _ _
            refine ga_aload_n (v := .ref 344) hm_59 rfl rfl rfl ?_
            refine ga_geti (z := F82_ 344 9) hm_59 rfl sc_344 rfl (rfl) ?_
            refine fl_if_le (a := F82_ 344 9) hm_59 rfl ⟨by omega, by omega⟩ (fun h98_ => ?_) (fun h99_ => ?_)
            · exfalso; omega
            refine fl_iconst hm_59 rfl ?_
            refine fl_goto hm_59 rfl ?_
            refine gr_i hm_59 rfl rfl (ga_nb (by omega)) ?_
            refine fl_if_ne hm_183 rfl ⟨by omega, by omega⟩ (fun _ => ?_) (fun h => absurd (by omega) h)
            refine ga_aload_n (v := .ref 344) hm_183 rfl rfl rfl ?_
            refine gIv (nY := 1) (F := 1) (L := 20) (As := []) (b := 344) (rest := []) hm_183 rfl hm_61 rfl rfl (fl_ob sc_344) rfl rfl rfl rfl rfl (by omega) (by omega) ?_
            intro f100_ l101_ h102_ h103_
            show fl_R xi_ms 61 f100_ l101_ 0 [(0, .ref 344)] [] _ _
            refine ga_aload_n (v := .ref 344) hm_61 rfl rfl rfl ?_
            refine ga_dup hm_61 rfl rfl ?_
            have e104_ : F82_ 344 5 = F1 344 5 := (s84_ 344 5 rfl).trans (rfl)
            refine ga_geti (z := F1 344 5) hm_61 rfl sc_344 rfl (e104_) ?_
            refine ga_aload_n (v := .ref 344) hm_61 rfl rfl rfl ?_
            refine gIi (nY := 1) (F := 0) (L := 0) (As := []) (b := 344) (rest := [.int (Int32.ofInt (F1 344 5)), .ref 344]) hm_61 rfl hm_59 rfl rfl (fl_ob sc_344) rfl rfl rfl rfl rfl (by omega) (by omega) ?_
            intro f105_ l106_ h107_ h108_
            show fl_R xi_ms 59 f105_ l106_ 0 [(0, .ref 344)] [] _ _
            refine ga_aload_n (v := .ref 344) hm_59 rfl rfl rfl ?_
            refine ga_geti (z := F82_ 344 9) hm_59 rfl sc_344 rfl (rfl) ?_
            refine fl_if_le (a := F82_ 344 9) hm_59 rfl ⟨by omega, by omega⟩ (fun h109_ => ?_) (fun h110_ => ?_)
            · exfalso; omega
            refine fl_iconst hm_59 rfl ?_
            refine fl_goto hm_59 rfl ?_
            refine gr_i hm_59 rfl rfl (ga_nb (by omega)) ?_
            refine fl_if_eq hm_61 rfl ⟨by omega, by omega⟩ (fun h => absurd h (by omega)) (fun _ => ?_)
            refine fl_iconst hm_61 rfl ?_
            refine fl_goto hm_61 rfl ?_
            refine ga_iadd (a := F1 344 5) (b := 0) (c := F1 344 5) hm_61 rfl (by omega) ?_
            refine ga_puti (z := F1 344 5) hm_61 rfl sc_344 rfl rfl ?_
            refine gr_v hm_61 rfl rfl ?_
            refine ga_aload_n (v := .ref 344) hm_183 rfl rfl rfl ?_
            refine gIi (nY := 1) (F := 0) (L := 0) (As := []) (b := 344) (rest := []) hm_183 rfl hm_59 rfl rfl (fl_ob sc_344) rfl rfl rfl rfl rfl (by omega) (by omega) ?_
            intro f111_ l112_ h113_ h114_
            show fl_R xi_ms 59 f111_ l112_ 0 [(0, .ref 344)] [] _ _
            refine ga_aload_n (v := .ref 344) hm_59 rfl rfl rfl ?_
            refine ga_geti (z := F82_ 344 9) hm_59 rfl sc_344 rfl (fl_u_ne (by omega)) ?_
            refine fl_if_le (a := F82_ 344 9) hm_59 rfl ⟨by omega, by omega⟩ (fun h115_ => ?_) (fun h116_ => ?_)
            · exfalso; omega
            refine fl_iconst hm_59 rfl ?_
            refine fl_goto hm_59 rfl ?_
            refine gr_i hm_59 rfl rfl (ga_nb (by omega)) ?_
            refine fl_if_eq hm_183 rfl ⟨by omega, by omega⟩ (fun h => absurd h (by omega)) (fun _ => ?_)
            refine ga_iload_n (z := n) hm_183 rfl rfl ?_
            obtain ⟨F117_, q118_⟩ : ∃ F9_, F9_ = (fl_u F82_ 344 5 (F1 344 5)) := ⟨_, rfl⟩
            rw [← q118_]
            have g119_ : gi F117_ := by rw [q118_]; exact gi_u (g83_) rfl (by omega) (by omega)
            have g120_ : fs [(344, 344, 5, 5), (344, 344, 9, 10), (352, 352, 0, 100000), (383, 383, 0, 100000)] F F117_ := by rw [q118_]; exact fs_u (g85_) rfl
            have rk121_ : rk K F117_ := by rw [q118_]; exact rk_u (rk86_) (by omega) (by omega)
            refine gr_i (z := n) hm_183 rfl rfl rfl ?_
            have e122_ : F117_ 344 9 = F82_ 344 9 := by rw [q118_]; exact fl_u_ne (by omega)
            have e123_ : F117_ 344 10 = F82_ 344 10 := by rw [q118_]; exact fl_u_ne (by omega)
            have e124_ : F117_ 344 5 = F1 344 5 := by rw [q118_]; exact fl_u_eq
            have b125_ : 0 ≤ F82_ 344 10 ∧ F82_ 344 10 ≤ 600 := gi_g g83_ rfl
            have b126_ : 0 ≤ F 344 10 ∧ F 344 10 ≤ 600 := gi_g hgi rfl
            have b127_ : 0 ≤ F 344 5 ∧ F 344 5 ≤ 600 := gi_g hgi rfl
            exact Or.inl ⟨F117_, rfl, g119_, g120_, (by omega), (⟨by intro h0_; have hs_ := c80_.1 (by omega); rw [hsp, sp1_f1 (by omega) (fun h8_ => c74_ ⟨by omega, h8_⟩)]; congr 2 <;> omega, fun h0_ => by exfalso; omega⟩), (by omega), (by omega)⟩
          subst hA_
          subst hz_
          refine fl_if_ne hm_183 rfl ⟨by omega, by omega⟩ (fun _ => ?_) (fun h => absurd (by omega) h)
          refine ga_aload_n (v := .ref 344) hm_183 rfl rfl rfl ?_
          refine gIi (nY := 1) (F := 0) (L := 0) (As := []) (b := 344) (rest := []) hm_183 rfl hm_59 rfl rfl (fl_ob sc_344) rfl rfl rfl rfl rfl (by omega) (by omega) ?_
          intro f128_ l129_ h130_ h131_
          show fl_R xi_ms 59 f128_ l129_ 0 [(0, .ref 344)] [] _ _
          refine ga_aload_n (v := .ref 344) hm_59 rfl rfl rfl ?_
          refine ga_geti (z := F1 344 9) hm_59 rfl sc_344 rfl (rfl) ?_
          refine fl_if_le (a := F1 344 9) hm_59 rfl ⟨by omega, by omega⟩ (fun h132_ => ?_) (fun h133_ => ?_)
          ·
            refine fl_iconst hm_59 rfl ?_
            refine gr_i hm_59 rfl rfl (ga_nb (by omega)) ?_
            refine fl_if_eq hm_183 rfl ⟨by omega, by omega⟩ (fun _ => ?_) (fun h => absurd (by omega) h)
            refine ga_aload_n (v := .ref 344) hm_183 rfl rfl rfl ?_
            refine fl_iconst hm_183 rfl ?_
            refine gVl (nY := 7) (F := 1) (L := 20) (As := [.int (Int32.ofInt 1)]) (b := 344) (rest := []) hm_183 rfl hm_60 rfl rfl (fl_ob sc_344) rfl rfl rfl rfl rfl (by omega) (by omega) (mc_60 hG F1 X hg_F1 (K) (1) hgK rk8_ hkt (by omega) (by omega)) (fun _ _ h => False.elim h) ?_
            rintro z134_ A1_ ⟨hA_, c135_, c136_⟩
            subst hA_
            have hvr := (tk_var hkt hgK (p := F1 344 5) (by omega) (by omega)).1 c75_.2
            refine ga_lstore_n (lv2 := [(2, .long (Int64.ofInt z134_)), (1, .int (Int32.ofInt n)), (0, .ref 344)]) hm_183 rfl (Nat.le_of_ble_eq_true rfl) rfl ?_
            refine ga_aload_n (v := .ref 344) hm_183 rfl rfl rfl ?_
            refine gIi (nY := 1) (F := 0) (L := 0) (As := []) (b := 344) (rest := []) hm_183 rfl hm_59 rfl rfl (fl_ob sc_344) rfl rfl rfl rfl rfl (by omega) (by omega) ?_
            intro f137_ l138_ h139_ h140_
            show fl_R xi_ms 59 f137_ l138_ 0 [(0, .ref 344)] [] _ _
            refine ga_aload_n (v := .ref 344) hm_59 rfl rfl rfl ?_
            refine ga_geti (z := F1 344 9) hm_59 rfl sc_344 rfl (rfl) ?_
            refine fl_if_le (a := F1 344 9) hm_59 rfl ⟨by omega, by omega⟩ (fun h141_ => ?_) (fun h142_ => ?_)
            ·
              refine fl_iconst hm_59 rfl ?_
              refine gr_i hm_59 rfl rfl (ga_nb (by omega)) ?_
              refine fl_if_ne hm_183 rfl ⟨by omega, by omega⟩ (fun h => absurd h (by omega)) (fun _ => ?_)
              refine ga_iload_n (z := n) hm_183 rfl rfl ?_
              refine fl_iconst hm_183 rfl ?_
              refine fx_icmp_ne (a := n) (b := 1) hm_183 rfl ⟨by omega, by omega⟩ ⟨by omega, by omega⟩ (fun h143_ => ?_) (fun h144_ => ?_)
              ·
                refine ga_aload_n (v := .ref 344) hm_183 rfl rfl rfl ?_
                refine gIv (nY := 1) (F := 1) (L := 20) (As := []) (b := 344) (rest := []) hm_183 rfl hm_61 rfl rfl (fl_ob sc_344) rfl rfl rfl rfl rfl (by omega) (by omega) ?_
                intro f145_ l146_ h147_ h148_
                show fl_R xi_ms 61 f145_ l146_ 0 [(0, .ref 344)] [] _ _
                refine ga_aload_n (v := .ref 344) hm_61 rfl rfl rfl ?_
                refine ga_dup hm_61 rfl rfl ?_
                refine ga_geti (z := F1 344 5) hm_61 rfl sc_344 rfl (rfl) ?_
                refine ga_aload_n (v := .ref 344) hm_61 rfl rfl rfl ?_
                refine gIi (nY := 1) (F := 0) (L := 0) (As := []) (b := 344) (rest := [.int (Int32.ofInt (F1 344 5)), .ref 344]) hm_61 rfl hm_59 rfl rfl (fl_ob sc_344) rfl rfl rfl rfl rfl (by omega) (by omega) ?_
                intro f149_ l150_ h151_ h152_
                show fl_R xi_ms 59 f149_ l150_ 0 [(0, .ref 344)] [] _ _
                refine ga_aload_n (v := .ref 344) hm_59 rfl rfl rfl ?_
                refine ga_geti (z := F1 344 9) hm_59 rfl sc_344 rfl (rfl) ?_
                refine fl_if_le (a := F1 344 9) hm_59 rfl ⟨by omega, by omega⟩ (fun h153_ => ?_) (fun h154_ => ?_)
                ·
                  refine fl_iconst hm_59 rfl ?_
                  refine gr_i hm_59 rfl rfl (ga_nb (by omega)) ?_
                  refine fl_if_eq hm_61 rfl ⟨by omega, by omega⟩ (fun _ => ?_) (fun h => absurd (by omega) h)
                  refine fl_iconst hm_61 rfl ?_
                  refine ga_iadd (a := F1 344 5) (b := 1) (c := F1 344 5 + 1) hm_61 rfl (by omega) ?_
                  refine ga_puti (z := F1 344 5 + 1) hm_61 rfl sc_344 rfl rfl ?_
                  refine gr_v hm_61 rfl rfl ?_
                  refine ga_aload_n (v := .ref 344) hm_183 rfl rfl rfl ?_
                  refine gIi (nY := 1) (F := 0) (L := 0) (As := []) (b := 344) (rest := []) hm_183 rfl hm_59 rfl rfl (fl_ob sc_344) rfl rfl rfl rfl rfl (by omega) (by omega) ?_
                  intro f155_ l156_ h157_ h158_
                  show fl_R xi_ms 59 f155_ l156_ 0 [(0, .ref 344)] [] _ _
                  refine ga_aload_n (v := .ref 344) hm_59 rfl rfl rfl ?_
                  refine ga_geti (z := F1 344 9) hm_59 rfl sc_344 rfl (fl_u_ne (by omega)) ?_
                  refine fl_if_le (a := F1 344 9) hm_59 rfl ⟨by omega, by omega⟩ (fun h159_ => ?_) (fun h160_ => ?_)
                  ·
                    refine fl_iconst hm_59 rfl ?_
                    refine gr_i hm_59 rfl rfl (ga_nb (by omega)) ?_
                    refine fl_if_eq hm_183 rfl ⟨by omega, by omega⟩ (fun _ => ?_) (fun h => absurd (by omega) h)
                    refine ga_aload_n (v := .ref 344) hm_183 rfl rfl rfl ?_
                    refine ga_getr (b := 383) hm_183 rfl sc_344 rfl ?_
                    refine ga_iload_n (z := n) hm_183 rfl rfl ?_
                    refine ga_lload_n (z := z134_) hm_183 rfl rfl ?_
                    refine fl_last (z := n) (v := z134_) hm_183 rfl sc_383 (by omega) (by omega) (by omega) ?_
                    refine ga_aload_n (v := .ref 344) hm_183 rfl rfl rfl ?_
                    refine ga_getr (b := 352) hm_183 rfl sc_344 rfl ?_
                    refine fl_iconst hm_183 rfl ?_
                    refine ga_aload_n (v := .ref 344) hm_183 rfl rfl rfl ?_
                    have e161_ : F1 344 17 = F 344 17 := (hf_F1 344 17 rfl).trans (rfl)
                    have b162_ : 0 ≤ F 344 17 ∧ F 344 17 ≤ 6 := gi_g hgi rfl
                    refine ga_geti (z := F 344 17) hm_183 rfl sc_344 rfl ((fl_u_ne (by omega)).trans ((fl_u_ne (by omega)).trans (e161_))) ?_
                    refine ga_imul (a := 2) (b := F 344 17) (c := 2 * (F 344 17)) hm_183 rfl (by omega) ?_
                    refine ga_iload_n (z := n) hm_183 rfl rfl ?_
                    refine ga_iadd (a := 2 * (F 344 17)) (b := n) (c := 2 * (F 344 17) + n) hm_183 rfl (by omega) ?_
                    refine ga_aload_n (v := .ref 344) hm_183 rfl rfl rfl ?_
                    obtain ⟨F163_, q164_⟩ : ∃ F9_, F9_ = (fl_u (fl_u F1 344 5 (F1 344 5 + 1)) 383 n.toNat z134_) := ⟨_, rfl⟩
                    rw [← q164_]
                    have g165_ : gi F163_ := by rw [q164_]; exact gi_u (gi_u (hg_F1) rfl (by omega) (by omega)) rfl (by omega) (by omega)
                    have g166_ : fs [(344, 344, 5, 5), (344, 344, 9, 10), (352, 352, 0, 100000), (383, 383, 0, 100000)] F F163_ := by rw [q164_]; exact fs_u (fs_u (g7_) rfl) (fs_z (fs_z (fs_z (fs_y (by omega)))))
                    have rk167_ : rk K F163_ := by rw [q164_]; exact rk_u (rk_u (rk8_) (by omega) (by omega)) (by omega) (by omega)
                    have e168_ : F163_ 344 5 = F1 344 5 + 1 := by rw [q164_]; exact (fl_u_ne (by omega)).trans (fl_u_eq)
                    refine gVi (nY := 2) (F := 3) (L := 68) (As := []) (b := 344) (rest := [.int (Int32.ofInt (2 * (F 344 17) + n)), .ref 352]) hm_183 rfl hm_186 rfl rfl (fl_ob sc_344) rfl rfl rfl rfl rfl (by omega) (by omega) (mc_186 hG F163_ X g165_ (K) (ts) hgK rk167_ hkt (by omega) ((by rw [q164_]; exact (rpn_u (rpn_u (rpn_fs hts hf_F1 (fun _ => (fs_n (by omega) (fs_n (by omega) (fs_n (by omega) (fs_n (by omega) rfl))))) (fs_n (by omega) (fs_n (by omega) (fs_n (by omega) (fs_n (by omega) rfl))))) (by omega) (by omega)) (by omega) (by omega))))) (fun _ _ h => False.elim h) ?_
                    have e170_ : F163_ 344 10 = F1 344 10 := by rw [q164_]; exact (fl_u_ne (by omega)).trans (fl_u_ne (by omega))
                    have b171_ : 0 ≤ F1 344 10 ∧ F1 344 10 ≤ 600 := gi_g hg_F1 rfl
                    have e172_ : F163_ 344 9 = F1 344 9 := by rw [q164_]; exact (fl_u_ne (by omega)).trans (fl_u_ne (by omega))
                    rintro z169_ A1_ (⟨F177_, hA_, g178_, s179_, c173_, c174_, c175_, c176_⟩ | ⟨F184_, hA_, g185_, s186_, c180_, c181_, c182_, c183_⟩)
                    ·
                      subst hA_
                      have g187_ : fs [(344, 344, 5, 5), (344, 344, 9, 10), (352, 352, 0, 100000), (383, 383, 0, 100000)] F F177_ := fs_tr g166_ s179_ rfl
                      have rk188_ : rk K F177_ := rk_fs rk167_ s179_ (fun r k h => (fs_n (by omega) (fs_n (by omega) rfl))) (fs_n (by omega) (fs_n (by omega) rfl))
                      try simp only [e168_, e170_, e172_] at c174_
                      have hP189_ := rkt_p hkt (p := F1 344 5 + 1) (by omega) (by omega) hgK
                      have hP190_ := rkt_p hkt (p := F177_ 344 5) (by omega) (by omega) hgK
                      refine fl_iast (z := 2 * (F 344 17) + n) (v := z169_) hm_183 rfl sc_352 (by omega) (by omega) (by omega) ?_
                      refine ga_inc (a := n) (c := n + 1) (lv2 := [(1, .int (Int32.ofInt (n + 1))), (2, .long (Int64.ofInt z134_)), (0, .ref 344)]) hm_183 rfl rfl (Nat.le_of_ble_eq_true rfl) rfl rfl ?_
                      refine fl_goto hm_183 rfl ?_
                      refine ga_aload_n (v := .ref 344) hm_183 rfl rfl rfl ?_
                      refine gIi (nY := 1) (F := 0) (L := 0) (As := []) (b := 344) (rest := []) hm_183 rfl hm_59 rfl rfl (fl_ob sc_344) rfl rfl rfl rfl rfl (by omega) (by omega) ?_
                      intro f191_ l192_ h193_ h194_
                      show fl_R xi_ms 59 f191_ l192_ 0 [(0, .ref 344)] [] _ _
                      refine ga_aload_n (v := .ref 344) hm_59 rfl rfl rfl ?_
                      have b195_ : 0 ≤ F177_ 344 9 ∧ F177_ 344 9 ≤ 5 := gi_g g178_ rfl
                      refine ga_geti (z := F177_ 344 9) hm_59 rfl sc_344 rfl (fl_u_ne (by omega)) ?_
                      refine fl_if_le (a := F177_ 344 9) hm_59 rfl ⟨by omega, by omega⟩ (fun h196_ => ?_) (fun h197_ => ?_)
                      · exfalso; omega
                      refine fl_iconst hm_59 rfl ?_
                      refine fl_goto hm_59 rfl ?_
                      refine gr_i hm_59 rfl rfl (ga_nb (by omega)) ?_
                      refine fl_if_ne hm_183 rfl ⟨by omega, by omega⟩ (fun _ => ?_) (fun h => absurd (by omega) h)
                      refine ga_iload_n (z := n + 1) hm_183 rfl rfl ?_
                      obtain ⟨F198_, q199_⟩ : ∃ F9_, F9_ = (fl_u F177_ 352 (2 * (F 344 17) + n).toNat z169_) := ⟨_, rfl⟩
                      rw [← q199_]
                      have g200_ : gi F198_ := by rw [q199_]; exact gi_u (g178_) rfl (by omega) (by omega)
                      have g201_ : fs [(344, 344, 5, 5), (344, 344, 9, 10), (352, 352, 0, 100000), (383, 383, 0, 100000)] F F198_ := by rw [q199_]; exact fs_u (g187_) (fs_z (fs_z (fs_y (by omega))))
                      have rk202_ : rk K F198_ := by rw [q199_]; exact rk_u (rk188_) (by omega) (by omega)
                      refine gr_i (z := n + 1) hm_183 rfl rfl rfl ?_
                      have e203_ : F198_ 344 9 = F177_ 344 9 := by rw [q199_]; exact fl_u_ne (by omega)
                      have e204_ : F198_ 344 10 = F177_ 344 10 := by rw [q199_]; exact fl_u_ne (by omega)
                      have e205_ : F198_ 344 5 = F177_ 344 5 := by rw [q199_]; exact fl_u_ne (by omega)
                      have b206_ : 0 ≤ F177_ 344 10 ∧ F177_ 344 10 ≤ 600 := gi_g g178_ rfl
                      have b207_ : 0 ≤ F 344 10 ∧ F 344 10 ≤ 600 := gi_g hgi rfl
                      have b208_ : 0 ≤ F 344 5 ∧ F 344 5 ≤ 600 := gi_g hgi rfl
                      have b209_ : 0 ≤ F177_ 344 5 ∧ F177_ 344 5 ≤ 600 := gi_g g178_ rfl
                      exact Or.inl ⟨F198_, rfl, g200_, g201_, (by omega), (⟨by intro h0_; have hs_ := c174_.1 (by omega); rw [hsp, sp1_rt (by omega) (by omega) (dup_0 (by omega)) (by omega), rt_er hs_]; congr 2 <;> omega, fun h0_ => by exfalso; omega⟩), (by omega), (by omega)⟩
                    subst hA_
                    have g210_ : fs [(344, 344, 5, 5), (344, 344, 9, 10), (352, 352, 0, 100000), (383, 383, 0, 100000)] F F184_ := fs_tr g166_ s186_ rfl
                    have rk211_ : rk K F184_ := rk_fs rk167_ s186_ (fun r k h => (fs_n (by omega) (fs_n (by omega) rfl))) (fs_n (by omega) (fs_n (by omega) rfl))
                    try simp only [e172_] at c180_
                    try simp only [e168_] at c181_
                    have hP212_ := rkt_p hkt (p := F1 344 5 + 1) (by omega) (by omega) hgK
                    have hP213_ := rkt_p hkt (p := F184_ 344 5) (by omega) (by omega) hgK
                    refine fl_iast (z := 2 * (F 344 17) + n) (v := z169_) hm_183 rfl sc_352 (by omega) (by omega) (by omega) ?_
                    refine ga_inc (a := n) (c := n + 1) (lv2 := [(1, .int (Int32.ofInt (n + 1))), (2, .long (Int64.ofInt z134_)), (0, .ref 344)]) hm_183 rfl rfl (Nat.le_of_ble_eq_true rfl) rfl rfl ?_
                    refine fl_goto hm_183 rfl ?_
                    obtain ⟨F214_, q215_⟩ : ∃ F9_, F9_ = (fl_u F184_ 352 (2 * (F 344 17) + n).toNat z169_) := ⟨_, rfl⟩
                    rw [← q215_]
                    have g216_ : gi F214_ := by rw [q215_]; exact gi_u (g185_) rfl (by omega) (by omega)
                    have g217_ : fs [(344, 344, 5, 5), (344, 344, 9, 10), (352, 352, 0, 100000), (383, 383, 0, 100000)] F F214_ := by rw [q215_]; exact fs_u (g210_) (fs_z (fs_z (fs_y (by omega))))
                    have rk218_ : rk K F214_ := by rw [q215_]; exact rk_u (rk211_) (by omega) (by omega)
                    have e219_ : F214_ 344 9 = F184_ 344 9 := by rw [q215_]; exact fl_u_ne (by omega)
                    have b220_ : 0 ≤ F184_ 344 9 ∧ F184_ 344 9 ≤ 5 := gi_g g185_ rfl
                    have e221_ : F214_ 344 5 = F184_ 344 5 := by rw [q215_]; exact fl_u_ne (by omega)
                    have b222_ : 0 ≤ F184_ 344 5 ∧ F184_ 344 5 ≤ 600 := gi_g g185_ rfl
                    have b223_ : 0 ≤ K 1 6 ∧ K 1 6 ≤ 601 := gi_g hgK rfl
                    have b224_ : 0 ≤ F 344 5 ∧ F 344 5 ≤ 600 := gi_g hgi rfl
                    have e225_ : F163_ 383 n.toNat = z134_ := by rw [q164_]; exact fl_u_eq
                    have e226_ : F184_ 383 n.toNat = z134_ := (s186_ 383 n.toNat (fs_n (by omega) (fs_n (by omega) rfl))).trans (e225_)
                    have e227_ : F214_ 383 n.toNat = z134_ := by rw [q215_]; exact (fl_u_ne (by omega)).trans (e226_)
                    exact fl_R_sub (lv' := [(1, .int (Int32.ofInt (n + 1))), (0, .ref 344)]) rfl rfl (ih5_ _ (by omega) (n + 1) (_) (_) F214_ rfl g216_ (by rw [q215_]; exact fs_u ((fs_tr (by rw [q164_]; exact fs_u (fs_u (hf_F1) rfl) (fs_z (fs_z (fs_z (fs_y (by omega)))))) s186_ rfl)) (fs_z (fs_z (fs_y (by omega))))) (by omega) (by simp only [List.length_append, List.length_singleton]; omega) (rpn_at hsc (fun j hj => (Eq.trans (a := F214_ 383 j) (b := F184_ 383 j) (by rw [q215_]; exact (fl_u_ne (by omega))) (Eq.trans (a := F184_ 383 j) (b := F163_ 383 j) (s186_ 383 j (fs_n (by omega) (fs_n (by omega) rfl))) (show F163_ 383 j = F1 383 j from (by rw [q164_]; exact (fl_u_ne (by omega)).trans ((fl_u_ne (by omega)))))))) (e227_) (show nrel (K 6 (F1 344 5).toNat) z134_ by rw [c135_, if_pos (by omega)]; exact hvr.2)) (rty_snoc (t := z169_ - 1) hty (fun j hj => (Eq.trans (a := F214_ 352 ((2 * (F 344 17)).toNat + j)) (b := F184_ 352 ((2 * (F 344 17)).toNat + j)) (by rw [q215_]; exact (fl_u_ne (by omega))) (Eq.trans (a := F184_ 352 ((2 * (F 344 17)).toNat + j)) (b := F163_ 352 ((2 * (F 344 17)).toNat + j)) (s186_ 352 ((2 * (F 344 17)).toNat + j) (fs_n (by omega) (fs_n (by omega) rfl))) (show F163_ 352 ((2 * (F 344 17)).toNat + j) = F1 352 ((2 * (F 344 17)).toNat + j) from (by rw [q164_]; exact (fl_u_ne (by omega)).trans ((fl_u_ne (by omega)))))))) (by rw [q215_, show (2 * (F 344 17)).toNat + tl.length = (2 * (F 344 17) + n).toNat by omega]; exact (fl_u_eq).trans (by omega))) (fun j hj => Eq.trans (b := F1 352 j) (Eq.trans (a := F214_ 352 j) (b := F184_ 352 j) (by rw [q215_]; exact (fl_u_ne (by omega))) (Eq.trans (a := F184_ 352 j) (b := F163_ 352 j) (s186_ 352 j (fs_n (by omega) (fs_n (by omega) rfl))) (show F163_ 352 j = F1 352 j from (by rw [q164_]; exact (fl_u_ne (by omega)).trans ((fl_u_ne (by omega))))))) (hold j hj)) (by omega) (by rw [hsp, sp1_rt (by omega) (by omega) (dup_0 (by omega)) (by omega), rt_eq c181_]; congr 1 <;> first | (simp only [List.length_append, List.length_singleton]; omega) | (show F184_ 344 5 = _; omega) | rfl))
                  exfalso; omega
                exfalso; omega
              refine ga_aload_n (v := .ref 344) hm_183 rfl rfl rfl ?_
              refine ga_getr (b := 383) hm_183 rfl sc_344 rfl ?_
              refine fl_iconst hm_183 rfl ?_
              have b228_ : 0 ≤ F1 383 0 ∧ F1 383 0 ≤ 2565726408 := gi_g hg_F1 rfl
              refine ga_lald (z := 0) (w := F1 383 0) hm_183 rfl sc_383 (by omega) (by omega) (by omega) (rfl) ?_
              refine ga_lload_n (z := z134_) hm_183 rfl rfl ?_
              refine ga_lcmpn (a := F1 383 0) (b := z134_) hm_183 rfl rfl ⟨by omega, by omega⟩ ⟨by omega, by omega⟩ (fun h229_ => ?_) (fun h230_ => ?_)
              ·
                refine ga_aload_n (v := .ref 344) hm_183 rfl rfl rfl ?_
                refine gIv (nY := 1) (F := 1) (L := 20) (As := []) (b := 344) (rest := []) hm_183 rfl hm_61 rfl rfl (fl_ob sc_344) rfl rfl rfl rfl rfl (by omega) (by omega) ?_
                intro f231_ l232_ h233_ h234_
                show fl_R xi_ms 61 f231_ l232_ 0 [(0, .ref 344)] [] _ _
                refine ga_aload_n (v := .ref 344) hm_61 rfl rfl rfl ?_
                refine ga_dup hm_61 rfl rfl ?_
                refine ga_geti (z := F1 344 5) hm_61 rfl sc_344 rfl (rfl) ?_
                refine ga_aload_n (v := .ref 344) hm_61 rfl rfl rfl ?_
                refine gIi (nY := 1) (F := 0) (L := 0) (As := []) (b := 344) (rest := [.int (Int32.ofInt (F1 344 5)), .ref 344]) hm_61 rfl hm_59 rfl rfl (fl_ob sc_344) rfl rfl rfl rfl rfl (by omega) (by omega) ?_
                intro f235_ l236_ h237_ h238_
                show fl_R xi_ms 59 f235_ l236_ 0 [(0, .ref 344)] [] _ _
                refine ga_aload_n (v := .ref 344) hm_59 rfl rfl rfl ?_
                refine ga_geti (z := F1 344 9) hm_59 rfl sc_344 rfl (rfl) ?_
                refine fl_if_le (a := F1 344 9) hm_59 rfl ⟨by omega, by omega⟩ (fun h239_ => ?_) (fun h240_ => ?_)
                ·
                  refine fl_iconst hm_59 rfl ?_
                  refine gr_i hm_59 rfl rfl (ga_nb (by omega)) ?_
                  refine fl_if_eq hm_61 rfl ⟨by omega, by omega⟩ (fun _ => ?_) (fun h => absurd (by omega) h)
                  refine fl_iconst hm_61 rfl ?_
                  refine ga_iadd (a := F1 344 5) (b := 1) (c := F1 344 5 + 1) hm_61 rfl (by omega) ?_
                  refine ga_puti (z := F1 344 5 + 1) hm_61 rfl sc_344 rfl rfl ?_
                  refine gr_v hm_61 rfl rfl ?_
                  refine ga_aload_n (v := .ref 344) hm_183 rfl rfl rfl ?_
                  refine gIi (nY := 1) (F := 0) (L := 0) (As := []) (b := 344) (rest := []) hm_183 rfl hm_59 rfl rfl (fl_ob sc_344) rfl rfl rfl rfl rfl (by omega) (by omega) ?_
                  intro f241_ l242_ h243_ h244_
                  show fl_R xi_ms 59 f241_ l242_ 0 [(0, .ref 344)] [] _ _
                  refine ga_aload_n (v := .ref 344) hm_59 rfl rfl rfl ?_
                  refine ga_geti (z := F1 344 9) hm_59 rfl sc_344 rfl (fl_u_ne (by omega)) ?_
                  refine fl_if_le (a := F1 344 9) hm_59 rfl ⟨by omega, by omega⟩ (fun h245_ => ?_) (fun h246_ => ?_)
                  ·
                    refine fl_iconst hm_59 rfl ?_
                    refine gr_i hm_59 rfl rfl (ga_nb (by omega)) ?_
                    refine fl_if_eq hm_183 rfl ⟨by omega, by omega⟩ (fun _ => ?_) (fun h => absurd (by omega) h)
                    refine ga_aload_n (v := .ref 344) hm_183 rfl rfl rfl ?_
                    refine ga_getr (b := 383) hm_183 rfl sc_344 rfl ?_
                    refine ga_iload_n (z := n) hm_183 rfl rfl ?_
                    refine ga_lload_n (z := z134_) hm_183 rfl rfl ?_
                    refine fl_last (z := n) (v := z134_) hm_183 rfl sc_383 (by omega) (by omega) (by omega) ?_
                    refine ga_aload_n (v := .ref 344) hm_183 rfl rfl rfl ?_
                    refine ga_getr (b := 352) hm_183 rfl sc_344 rfl ?_
                    refine fl_iconst hm_183 rfl ?_
                    refine ga_aload_n (v := .ref 344) hm_183 rfl rfl rfl ?_
                    have e247_ : F1 344 17 = F 344 17 := (hf_F1 344 17 rfl).trans (rfl)
                    have b248_ : 0 ≤ F 344 17 ∧ F 344 17 ≤ 6 := gi_g hgi rfl
                    refine ga_geti (z := F 344 17) hm_183 rfl sc_344 rfl ((fl_u_ne (by omega)).trans ((fl_u_ne (by omega)).trans (e247_))) ?_
                    refine ga_imul (a := 2) (b := F 344 17) (c := 2 * (F 344 17)) hm_183 rfl (by omega) ?_
                    refine ga_iload_n (z := n) hm_183 rfl rfl ?_
                    refine ga_iadd (a := 2 * (F 344 17)) (b := n) (c := 2 * (F 344 17) + n) hm_183 rfl (by omega) ?_
                    refine ga_aload_n (v := .ref 344) hm_183 rfl rfl rfl ?_
                    obtain ⟨F249_, q250_⟩ : ∃ F9_, F9_ = (fl_u (fl_u F1 344 5 (F1 344 5 + 1)) 383 n.toNat z134_) := ⟨_, rfl⟩
                    rw [← q250_]
                    have g251_ : gi F249_ := by rw [q250_]; exact gi_u (gi_u (hg_F1) rfl (by omega) (by omega)) rfl (by omega) (by omega)
                    have g252_ : fs [(344, 344, 5, 5), (344, 344, 9, 10), (352, 352, 0, 100000), (383, 383, 0, 100000)] F F249_ := by rw [q250_]; exact fs_u (fs_u (g7_) rfl) (fs_z (fs_z (fs_z (fs_y (by omega)))))
                    have rk253_ : rk K F249_ := by rw [q250_]; exact rk_u (rk_u (rk8_) (by omega) (by omega)) (by omega) (by omega)
                    have e254_ : F249_ 344 5 = F1 344 5 + 1 := by rw [q250_]; exact (fl_u_ne (by omega)).trans (fl_u_eq)
                    refine gVi (nY := 2) (F := 3) (L := 68) (As := []) (b := 344) (rest := [.int (Int32.ofInt (2 * (F 344 17) + n)), .ref 352]) hm_183 rfl hm_186 rfl rfl (fl_ob sc_344) rfl rfl rfl rfl rfl (by omega) (by omega) (mc_186 hG F249_ X g251_ (K) (ts) hgK rk253_ hkt (by omega) ((by rw [q250_]; exact (rpn_u (rpn_u (rpn_fs hts hf_F1 (fun _ => (fs_n (by omega) (fs_n (by omega) (fs_n (by omega) (fs_n (by omega) rfl))))) (fs_n (by omega) (fs_n (by omega) (fs_n (by omega) (fs_n (by omega) rfl))))) (by omega) (by omega)) (by omega) (by omega))))) (fun _ _ h => False.elim h) ?_
                    have e256_ : F249_ 344 10 = F1 344 10 := by rw [q250_]; exact (fl_u_ne (by omega)).trans (fl_u_ne (by omega))
                    have b257_ : 0 ≤ F1 344 10 ∧ F1 344 10 ≤ 600 := gi_g hg_F1 rfl
                    have e258_ : F249_ 344 9 = F1 344 9 := by rw [q250_]; exact (fl_u_ne (by omega)).trans (fl_u_ne (by omega))
                    rintro z255_ A1_ (⟨F263_, hA_, g264_, s265_, c259_, c260_, c261_, c262_⟩ | ⟨F270_, hA_, g271_, s272_, c266_, c267_, c268_, c269_⟩)
                    ·
                      subst hA_
                      have g273_ : fs [(344, 344, 5, 5), (344, 344, 9, 10), (352, 352, 0, 100000), (383, 383, 0, 100000)] F F263_ := fs_tr g252_ s265_ rfl
                      have rk274_ : rk K F263_ := rk_fs rk253_ s265_ (fun r k h => (fs_n (by omega) (fs_n (by omega) rfl))) (fs_n (by omega) (fs_n (by omega) rfl))
                      try simp only [e254_, e256_, e258_] at c260_
                      have hP275_ := rkt_p hkt (p := F1 344 5 + 1) (by omega) (by omega) hgK
                      have hP276_ := rkt_p hkt (p := F263_ 344 5) (by omega) (by omega) hgK
                      refine fl_iast (z := 2 * (F 344 17) + n) (v := z255_) hm_183 rfl sc_352 (by omega) (by omega) (by omega) ?_
                      refine ga_inc (a := n) (c := n + 1) (lv2 := [(1, .int (Int32.ofInt (n + 1))), (2, .long (Int64.ofInt z134_)), (0, .ref 344)]) hm_183 rfl rfl (Nat.le_of_ble_eq_true rfl) rfl rfl ?_
                      refine fl_goto hm_183 rfl ?_
                      refine ga_aload_n (v := .ref 344) hm_183 rfl rfl rfl ?_
                      refine gIi (nY := 1) (F := 0) (L := 0) (As := []) (b := 344) (rest := []) hm_183 rfl hm_59 rfl rfl (fl_ob sc_344) rfl rfl rfl rfl rfl (by omega) (by omega) ?_
                      intro f277_ l278_ h279_ h280_
                      show fl_R xi_ms 59 f277_ l278_ 0 [(0, .ref 344)] [] _ _
                      refine ga_aload_n (v := .ref 344) hm_59 rfl rfl rfl ?_
                      have b281_ : 0 ≤ F263_ 344 9 ∧ F263_ 344 9 ≤ 5 := gi_g g264_ rfl
                      refine ga_geti (z := F263_ 344 9) hm_59 rfl sc_344 rfl (fl_u_ne (by omega)) ?_
                      refine fl_if_le (a := F263_ 344 9) hm_59 rfl ⟨by omega, by omega⟩ (fun h282_ => ?_) (fun h283_ => ?_)
                      · exfalso; omega
                      refine fl_iconst hm_59 rfl ?_
                      refine fl_goto hm_59 rfl ?_
                      refine gr_i hm_59 rfl rfl (ga_nb (by omega)) ?_
                      refine fl_if_ne hm_183 rfl ⟨by omega, by omega⟩ (fun _ => ?_) (fun h => absurd (by omega) h)
                      refine ga_iload_n (z := n + 1) hm_183 rfl rfl ?_
                      obtain ⟨F284_, q285_⟩ : ∃ F9_, F9_ = (fl_u F263_ 352 (2 * (F 344 17) + n).toNat z255_) := ⟨_, rfl⟩
                      rw [← q285_]
                      have g286_ : gi F284_ := by rw [q285_]; exact gi_u (g264_) rfl (by omega) (by omega)
                      have g287_ : fs [(344, 344, 5, 5), (344, 344, 9, 10), (352, 352, 0, 100000), (383, 383, 0, 100000)] F F284_ := by rw [q285_]; exact fs_u (g273_) (fs_z (fs_z (fs_y (by omega))))
                      have rk288_ : rk K F284_ := by rw [q285_]; exact rk_u (rk274_) (by omega) (by omega)
                      refine gr_i (z := n + 1) hm_183 rfl rfl rfl ?_
                      have e289_ : F284_ 344 9 = F263_ 344 9 := by rw [q285_]; exact fl_u_ne (by omega)
                      have e290_ : F284_ 344 10 = F263_ 344 10 := by rw [q285_]; exact fl_u_ne (by omega)
                      have e291_ : F284_ 344 5 = F263_ 344 5 := by rw [q285_]; exact fl_u_ne (by omega)
                      have b292_ : 0 ≤ F263_ 344 10 ∧ F263_ 344 10 ≤ 600 := gi_g g264_ rfl
                      have b293_ : 0 ≤ F 344 10 ∧ F 344 10 ≤ 600 := gi_g hgi rfl
                      have b294_ : 0 ≤ F 344 5 ∧ F 344 5 ≤ 600 := gi_g hgi rfl
                      have b295_ : 0 ≤ F263_ 344 5 ∧ F263_ 344 5 ≤ 600 := gi_g g264_ rfl
                      exact Or.inl ⟨F284_, rfl, g286_, g287_, (by omega), (⟨by intro h0_; have hs_ := c260_.1 (by omega); rw [hsp, sp1_rt (by omega) (by omega) ((dup_1 hsc (show nrel (K 6 (F1 344 5).toNat) z134_ by rw [c135_, if_pos (by omega)]; exact hvr.2) (by omega)).2 (by assumption)) (by omega), rt_er hs_]; congr 2 <;> omega, fun h0_ => by exfalso; omega⟩), (by omega), (by omega)⟩
                    subst hA_
                    have g296_ : fs [(344, 344, 5, 5), (344, 344, 9, 10), (352, 352, 0, 100000), (383, 383, 0, 100000)] F F270_ := fs_tr g252_ s272_ rfl
                    have rk297_ : rk K F270_ := rk_fs rk253_ s272_ (fun r k h => (fs_n (by omega) (fs_n (by omega) rfl))) (fs_n (by omega) (fs_n (by omega) rfl))
                    try simp only [e258_] at c266_
                    try simp only [e254_] at c267_
                    have hP298_ := rkt_p hkt (p := F1 344 5 + 1) (by omega) (by omega) hgK
                    have hP299_ := rkt_p hkt (p := F270_ 344 5) (by omega) (by omega) hgK
                    refine fl_iast (z := 2 * (F 344 17) + n) (v := z255_) hm_183 rfl sc_352 (by omega) (by omega) (by omega) ?_
                    refine ga_inc (a := n) (c := n + 1) (lv2 := [(1, .int (Int32.ofInt (n + 1))), (2, .long (Int64.ofInt z134_)), (0, .ref 344)]) hm_183 rfl rfl (Nat.le_of_ble_eq_true rfl) rfl rfl ?_
                    refine fl_goto hm_183 rfl ?_
                    obtain ⟨F300_, q301_⟩ : ∃ F9_, F9_ = (fl_u F270_ 352 (2 * (F 344 17) + n).toNat z255_) := ⟨_, rfl⟩
                    rw [← q301_]
                    have g302_ : gi F300_ := by rw [q301_]; exact gi_u (g271_) rfl (by omega) (by omega)
                    have g303_ : fs [(344, 344, 5, 5), (344, 344, 9, 10), (352, 352, 0, 100000), (383, 383, 0, 100000)] F F300_ := by rw [q301_]; exact fs_u (g296_) (fs_z (fs_z (fs_y (by omega))))
                    have rk304_ : rk K F300_ := by rw [q301_]; exact rk_u (rk297_) (by omega) (by omega)
                    have e305_ : F300_ 344 9 = F270_ 344 9 := by rw [q301_]; exact fl_u_ne (by omega)
                    have b306_ : 0 ≤ F270_ 344 9 ∧ F270_ 344 9 ≤ 5 := gi_g g271_ rfl
                    have e307_ : F300_ 344 5 = F270_ 344 5 := by rw [q301_]; exact fl_u_ne (by omega)
                    have b308_ : 0 ≤ F270_ 344 5 ∧ F270_ 344 5 ≤ 600 := gi_g g271_ rfl
                    have b309_ : 0 ≤ K 1 6 ∧ K 1 6 ≤ 601 := gi_g hgK rfl
                    have b310_ : 0 ≤ F 344 5 ∧ F 344 5 ≤ 600 := gi_g hgi rfl
                    have e311_ : F249_ 383 n.toNat = z134_ := by rw [q250_]; exact fl_u_eq
                    have e312_ : F270_ 383 n.toNat = z134_ := (s272_ 383 n.toNat (fs_n (by omega) (fs_n (by omega) rfl))).trans (e311_)
                    have e313_ : F300_ 383 n.toNat = z134_ := by rw [q301_]; exact (fl_u_ne (by omega)).trans (e312_)
                    exact fl_R_sub (lv' := [(1, .int (Int32.ofInt (n + 1))), (0, .ref 344)]) rfl rfl (ih5_ _ (by omega) (n + 1) (_) (_) F300_ rfl g302_ (by rw [q301_]; exact fs_u ((fs_tr (by rw [q250_]; exact fs_u (fs_u (hf_F1) rfl) (fs_z (fs_z (fs_z (fs_y (by omega)))))) s272_ rfl)) (fs_z (fs_z (fs_y (by omega))))) (by omega) (by simp only [List.length_append, List.length_singleton]; omega) (rpn_at hsc (fun j hj => (Eq.trans (a := F300_ 383 j) (b := F270_ 383 j) (by rw [q301_]; exact (fl_u_ne (by omega))) (Eq.trans (a := F270_ 383 j) (b := F249_ 383 j) (s272_ 383 j (fs_n (by omega) (fs_n (by omega) rfl))) (show F249_ 383 j = F1 383 j from (by rw [q250_]; exact (fl_u_ne (by omega)).trans ((fl_u_ne (by omega)))))))) (e313_) (show nrel (K 6 (F1 344 5).toNat) z134_ by rw [c135_, if_pos (by omega)]; exact hvr.2)) (rty_snoc (t := z255_ - 1) hty (fun j hj => (Eq.trans (a := F300_ 352 ((2 * (F 344 17)).toNat + j)) (b := F270_ 352 ((2 * (F 344 17)).toNat + j)) (by rw [q301_]; exact (fl_u_ne (by omega))) (Eq.trans (a := F270_ 352 ((2 * (F 344 17)).toNat + j)) (b := F249_ 352 ((2 * (F 344 17)).toNat + j)) (s272_ 352 ((2 * (F 344 17)).toNat + j) (fs_n (by omega) (fs_n (by omega) rfl))) (show F249_ 352 ((2 * (F 344 17)).toNat + j) = F1 352 ((2 * (F 344 17)).toNat + j) from (by rw [q250_]; exact (fl_u_ne (by omega)).trans ((fl_u_ne (by omega)))))))) (by rw [q301_, show (2 * (F 344 17)).toNat + tl.length = (2 * (F 344 17) + n).toNat by omega]; exact (fl_u_eq).trans (by omega))) (fun j hj => Eq.trans (b := F1 352 j) (Eq.trans (a := F300_ 352 j) (b := F270_ 352 j) (by rw [q301_]; exact (fl_u_ne (by omega))) (Eq.trans (a := F270_ 352 j) (b := F249_ 352 j) (s272_ 352 j (fs_n (by omega) (fs_n (by omega) rfl))) (show F249_ 352 j = F1 352 j from (by rw [q250_]; exact (fl_u_ne (by omega)).trans ((fl_u_ne (by omega))))))) (hold j hj)) (by omega) (by rw [hsp, sp1_rt (by omega) (by omega) ((dup_1 hsc (show nrel (K 6 (F1 344 5).toNat) z134_ by rw [c135_, if_pos (by omega)]; exact hvr.2) (by omega)).2 (by assumption)) (by omega), rt_eq c267_]; congr 1 <;> first | (simp only [List.length_append, List.length_singleton]; omega) | (show F270_ 344 5 = _; omega) | rfl))
                  exfalso; omega
                exfalso; omega
              refine ga_aload_n (v := .ref 344) hm_183 rfl rfl rfl ?_
              refine fl_iconst hm_183 rfl ?_
              refine gVv (nY := 2) (F := 0) (L := 0) (As := [.int (Int32.ofInt 2)]) (b := 344) (rest := []) hm_183 rfl hm_54 rfl rfl (fl_ob sc_344) rfl rfl rfl rfl rfl (by omega) (by omega) (mc_54 hG F1 X hg_F1 (K) (2) hgK rk8_ hkt (by omega) (by omega)) (fun _ _ h => False.elim h) ?_
              have b315_ : 0 ≤ F1 344 10 ∧ F1 344 10 ≤ 600 := gi_g hg_F1 rfl
              rintro A1_ ⟨F319_, hA_, g320_, s321_, c316_, c317_, c318_⟩
              subst hA_
              have g322_ : fs [(344, 344, 5, 5), (344, 344, 9, 10), (352, 352, 0, 100000), (383, 383, 0, 100000)] F F319_ := fs_tr g7_ s321_ rfl
              have rk323_ : rk K F319_ := rk_fs rk8_ s321_ (fun r k h => (fs_n (by omega) rfl)) (fs_n (by omega) rfl)
              refine ga_aload_n (v := .ref 344) hm_183 rfl rfl rfl ?_
              refine gIv (nY := 1) (F := 1) (L := 20) (As := []) (b := 344) (rest := []) hm_183 rfl hm_61 rfl rfl (fl_ob sc_344) rfl rfl rfl rfl rfl (by omega) (by omega) ?_
              intro f324_ l325_ h326_ h327_
              show fl_R xi_ms 61 f324_ l325_ 0 [(0, .ref 344)] [] _ _
              refine ga_aload_n (v := .ref 344) hm_61 rfl rfl rfl ?_
              refine ga_dup hm_61 rfl rfl ?_
              have e328_ : F319_ 344 5 = F1 344 5 := (s321_ 344 5 rfl).trans (rfl)
              refine ga_geti (z := F1 344 5) hm_61 rfl sc_344 rfl (e328_) ?_
              refine ga_aload_n (v := .ref 344) hm_61 rfl rfl rfl ?_
              refine gIi (nY := 1) (F := 0) (L := 0) (As := []) (b := 344) (rest := [.int (Int32.ofInt (F1 344 5)), .ref 344]) hm_61 rfl hm_59 rfl rfl (fl_ob sc_344) rfl rfl rfl rfl rfl (by omega) (by omega) ?_
              intro f329_ l330_ h331_ h332_
              show fl_R xi_ms 59 f329_ l330_ 0 [(0, .ref 344)] [] _ _
              refine ga_aload_n (v := .ref 344) hm_59 rfl rfl rfl ?_
              have b333_ : 0 ≤ F319_ 344 9 ∧ F319_ 344 9 ≤ 5 := gi_g g320_ rfl
              refine ga_geti (z := F319_ 344 9) hm_59 rfl sc_344 rfl (rfl) ?_
              refine fl_if_le (a := F319_ 344 9) hm_59 rfl ⟨by omega, by omega⟩ (fun h334_ => ?_) (fun h335_ => ?_)
              · exfalso; omega
              refine fl_iconst hm_59 rfl ?_
              refine fl_goto hm_59 rfl ?_
              refine gr_i hm_59 rfl rfl (ga_nb (by omega)) ?_
              refine fl_if_eq hm_61 rfl ⟨by omega, by omega⟩ (fun h => absurd h (by omega)) (fun _ => ?_)
              refine fl_iconst hm_61 rfl ?_
              refine fl_goto hm_61 rfl ?_
              refine ga_iadd (a := F1 344 5) (b := 0) (c := F1 344 5) hm_61 rfl (by omega) ?_
              refine ga_puti (z := F1 344 5) hm_61 rfl sc_344 rfl rfl ?_
              refine gr_v hm_61 rfl rfl ?_
              refine ga_aload_n (v := .ref 344) hm_183 rfl rfl rfl ?_
              refine gIi (nY := 1) (F := 0) (L := 0) (As := []) (b := 344) (rest := []) hm_183 rfl hm_59 rfl rfl (fl_ob sc_344) rfl rfl rfl rfl rfl (by omega) (by omega) ?_
              intro f336_ l337_ h338_ h339_
              show fl_R xi_ms 59 f336_ l337_ 0 [(0, .ref 344)] [] _ _
              refine ga_aload_n (v := .ref 344) hm_59 rfl rfl rfl ?_
              refine ga_geti (z := F319_ 344 9) hm_59 rfl sc_344 rfl (fl_u_ne (by omega)) ?_
              refine fl_if_le (a := F319_ 344 9) hm_59 rfl ⟨by omega, by omega⟩ (fun h340_ => ?_) (fun h341_ => ?_)
              · exfalso; omega
              refine fl_iconst hm_59 rfl ?_
              refine fl_goto hm_59 rfl ?_
              refine gr_i hm_59 rfl rfl (ga_nb (by omega)) ?_
              refine fl_if_eq hm_183 rfl ⟨by omega, by omega⟩ (fun h => absurd h (by omega)) (fun _ => ?_)
              refine ga_iload_n (z := n) hm_183 rfl rfl ?_
              obtain ⟨F342_, q343_⟩ : ∃ F9_, F9_ = (fl_u F319_ 344 5 (F1 344 5)) := ⟨_, rfl⟩
              rw [← q343_]
              have g344_ : gi F342_ := by rw [q343_]; exact gi_u (g320_) rfl (by omega) (by omega)
              have g345_ : fs [(344, 344, 5, 5), (344, 344, 9, 10), (352, 352, 0, 100000), (383, 383, 0, 100000)] F F342_ := by rw [q343_]; exact fs_u (g322_) rfl
              have rk346_ : rk K F342_ := by rw [q343_]; exact rk_u (rk323_) (by omega) (by omega)
              refine gr_i (z := n) hm_183 rfl rfl rfl ?_
              have e347_ : F342_ 344 9 = F319_ 344 9 := by rw [q343_]; exact fl_u_ne (by omega)
              have e348_ : F342_ 344 10 = F319_ 344 10 := by rw [q343_]; exact fl_u_ne (by omega)
              have e349_ : F342_ 344 5 = F1 344 5 := by rw [q343_]; exact fl_u_eq
              have b350_ : 0 ≤ F319_ 344 10 ∧ F319_ 344 10 ≤ 600 := gi_g g320_ rfl
              have b351_ : 0 ≤ F 344 10 ∧ F 344 10 ≤ 600 := gi_g hgi rfl
              have b352_ : 0 ≤ F 344 5 ∧ F 344 5 ≤ 600 := gi_g hgi rfl
              exact Or.inl ⟨F342_, rfl, g344_, g345_, (by omega), (⟨by intro h0_; have hs_ := c317_.1 (by omega); rw [hsp, sp1_f2 (by omega) (by omega) ((dup_1 hsc (show nrel (K 6 (F1 344 5).toNat) z134_ by rw [c135_, if_pos (by omega)]; exact hvr.2) (by omega)).1 (by assumption))]; congr 2 <;> omega, fun h0_ => by exfalso; omega⟩), (by omega), (by omega)⟩
            exfalso; omega
          exfalso; omega
        subst hA_
        subst hz_
        refine fl_if_ne hm_183 rfl ⟨by omega, by omega⟩ (fun _ => ?_) (fun h => absurd (by omega) h)
        refine ga_iload_n (z := n) hm_183 rfl rfl ?_
        refine gr_i (z := n) hm_183 rfl rfl rfl ?_
        have b353_ : 0 ≤ F 344 17 ∧ F 344 17 ≤ 6 := gi_g hgi rfl
        have b354_ : 0 ≤ F 344 5 ∧ F 344 5 ≤ 600 := gi_g hgi rfl
        exact Or.inr (⟨F1, rfl, hg_F1, g7_, (by omega), (⟨l, tl, ⟨by rw [hsp, sp1_e (by omega)], by omega⟩, ⟨by omega, by omega⟩, hty, hold⟩), (by omega), (by omega)⟩)
      exfalso; omega
    have b355_ : 0 ≤ F 344 17 ∧ F 344 17 ≤ 6 := gi_g hgi rfl
    have b356_ : 0 ≤ F 344 5 ∧ F 344 5 ≤ 600 := gi_g hgi rfl
    have b357_ : 0 ≤ K 1 6 ∧ K 1 6 ≤ 601 := gi_g hgK rfl
    exact L4_ _ (0) ([]) ([]) F rfl hgi fs_refl (by omega) (by simp) (⟨rfl, fun j x hx => by simp at hx⟩) (fun j x hx => by simp at hx) (fun j hj => rfl) (by omega) (rfl)
  refine fl_iconst hm_183 rfl ?_
  refine ga_istore_n (lv2 := [(1, .int (Int32.ofInt 0)), (0, .ref 344)]) hm_183 rfl (Nat.le_of_ble_eq_true rfl) rfl ?_
  refine ga_aload_n (v := .ref 344) hm_183 rfl rfl rfl ?_
  refine gIi (nY := 1) (F := 0) (L := 0) (As := []) (b := 344) (rest := []) hm_183 rfl hm_59 rfl rfl (fl_ob sc_344) rfl rfl rfl rfl rfl (by omega) (by omega) ?_
  intro f358_ l359_ h360_ h361_
  show fl_R xi_ms 59 f358_ l359_ 0 [(0, .ref 344)] [] _ _
  refine ga_aload_n (v := .ref 344) hm_59 rfl rfl rfl ?_
  refine ga_geti (z := F 344 9) hm_59 rfl sc_344 rfl (rfl) ?_
  refine fl_if_le (a := F 344 9) hm_59 rfl ⟨by omega, by omega⟩ (fun h362_ => ?_) (fun h363_ => ?_)
  · exfalso; omega
  refine fl_iconst hm_59 rfl ?_
  refine fl_goto hm_59 rfl ?_
  refine gr_i hm_59 rfl rfl (ga_nb (by omega)) ?_
  refine fl_if_ne hm_183 rfl ⟨by omega, by omega⟩ (fun _ => ?_) (fun h => absurd (by omega) h)
  refine ga_iload_n (z := 0) hm_183 rfl rfl ?_
  refine gr_i (z := 0) hm_183 rfl rfl rfl ?_
  have b364_ : 0 ≤ F 344 10 ∧ F 344 10 ≤ 600 := gi_g hgi rfl
  have b365_ : 0 ≤ F 344 5 ∧ F 344 5 ≤ 600 := gi_g hgi rfl
  exact Or.inl ⟨F, rfl, hgi, fs_refl, (by omega), (⟨fun h0_ => by exfalso; omega, fun h0_ => by constructor <;> omega⟩), (by omega), (by omega)⟩
